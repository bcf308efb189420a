section
/-- arrays of arrays: the tables' word of the array class over an array class -/
def va_AOA (ty : FieldType) (U : State) : Prop := (Cond.arrayOver (.array ty)).before #[] U = true
theorem va_AOA.use {ty : FieldType} {A : Array Value} {U : State} (h : va_AOA ty U) : (Cond.arrayOver (.array ty)).before A U = true := h
theorem va_AOA.of {ty : FieldType} {A : Array Value} {U : State} (h : (Cond.arrayOver (.array ty)).before A U = true) : va_AOA ty U := h
/-! ===== BEGIN words of one list among another's, by their places ===== -/
theorem goodIn_r {big : List Cond} (ws : List Cond) (ps : List Nat) (hp : ws = ps.filterMap (fun i => big[i]?)) (h : ws.all goodWord = true) : GoodIn big ws := by
  intro w hw
  have h1 := List.all_eq_true.mp h w hw
  rw [hp] at hw
  obtain ⟨i, -, hi⟩ := List.mem_filterMap.mp hw
  have hm : w ∈ big := by first | exact List.mem_of_getElem? hi | exact List.getElem?_mem hi
  exact ⟨hm, good_of_word h1⟩
theorem goodIn_app {big a b : List Cond} (ha : GoodIn big a) (hb : GoodIn big b) : GoodIn big (a ++ b) := fun w h => (List.mem_append.mp h).elim (ha w) (hb w)
theorem goodIn_ca {big a b : List Cond} {c : Cond} (ha : GoodIn big (c :: a)) (hb : GoodIn big b) : GoodIn big (c :: (a ++ b)) := fun w h => (List.mem_cons.mp h).elim (fun e => ha w (List.mem_cons.mpr (Or.inl e))) (fun h => (List.mem_append.mp h).elim (fun h => ha w (List.mem_cons.mpr (Or.inr h))) (hb w))
theorem goodIn_sub {big ws : List Cond} (hm : ∀ w ∈ ws, w ∈ big) (h : ws.all goodWord = true) : GoodIn big ws := fun w hw => ⟨hm w hw, good_of_word (List.all_eq_true.mp h w hw)⟩
/-! ===== END ===== -/

/-! ===== BEGIN new T[n][m]: the outer array a place, the inner ones among the pooled ===== -/
/-- f, but v at every address of l -/
def vr_up {α : Type} (f : Nat → α) (l : List Nat) (v : α) : Nat → α := fun a => if a ∈ l then v else f a
theorem vr_up_in {α : Type} {f : Nat → α} {l : List Nat} {v : α} {a : Nat} (h : a ∈ l) : vr_up f l v a = v := if_pos h
theorem vr_up_ne {α : Type} {f : Nat → α} {l : List Nat} {v : α} {a : Nat} (h : a ∉ l) : vr_up f l v a = f a := if_neg h
theorem vr_rows {L l : List Nat} {f : Nat → va_E} {e : va_E} (h : ∀ a, a ∈ l → a ∉ L) : va_pl L f ++ l.map (fun a => (a, e)) = va_pl (L ++ l) (vr_up f l e) := by
  unfold va_pl
  rw [List.map_append]
  congr 1
  · apply List.map_congr_left
    intro a ha
    rw [vr_up_ne (fun q => h a q ha)]
  · apply List.map_congr_left
    intro a ha
    rw [vr_up_in ha]
theorem vr_lay {X rows : va_W} {x : Nat × va_E} {pl : va_W} {D : va_G} {cl : List vw_C} {H : Heap} (hP : va_P D cl (((X ++ pl) ++ [x]) ++ rows) H) : va_P D cl ((X ++ [x]) ++ (pl ++ rows)) H := by
  rw [List.append_assoc (X ++ pl)] at hP
  have h := va_P.swap hP
  rw [← List.append_assoc X] at h
  have h2 := va_P.swap h
  rw [List.append_assoc (X ++ [x])] at h2
  exact h2
theorem vr_layD {X rows : va_W} {x : Nat × va_E} {pl : va_W} {A : Nat → Prop} (hD : va_D A (((X ++ pl) ++ [x]) ++ rows)) : va_D A ((X ++ [x]) ++ (pl ++ rows)) := by
  rw [List.append_assoc (X ++ pl)] at hD
  have h := va_D.swap hD
  rw [← List.append_assoc X] at h
  have h2 := va_D.swap h
  rw [List.append_assoc (X ++ [x])] at h2
  exact h2
theorem vr_outer (c : ClassId) (N h0 : Nat) : ∀ i : Nat, Jvm.Free.Multi.outerC c N h0 i = arrV c N (fun j => va_rf (if j < i then some (h0 + 1 + j) else none))
  | 0 => by
    show ({ cls := c, slots := Array.replicate N .null, vm := .none } : Cell) = _
    rw [arrV_new]
    refine congrArg (arrV c N) (funext fun j => ?_)
    simp [va_rf]
  | i + 1 => by
    show (Jvm.Free.Multi.outerC c N h0 i).setSlot i (.ref (h0 + 1 + i)) = _
    rw [vr_outer c N h0 i, arrV_store]
    refine congrArg (arrV c N) (funext fun j => ?_)
    by_cases e : j = i
    · subst e
      simp [updV, va_rf]
    · by_cases h : j < i
      · simp [updV, e, h, Nat.lt_succ_of_lt h]
      · simp [updV, e, h, show ¬ j < i + 1 by omega]
section VGM
variable {p : Program} {l : Launch} {e : Env} {R : Room} {s : State} {m : MethodId} {args : Array Value} {below : List Frame} {meth : Method} {c : Code} {H : Heap} {locs : List Loc} {cells slots : Nat} {Q : State → Prop}
variable {cc : ByteArray} {pc : Nat} {ls : Array Slot} {rest : List Value} {D : va_G} {cl : List vw_C} {A : Nat → Prop} {a : Nat} {tys : List (ClassId × FieldType)} {ws : va_W} {H0 : Heap}
theorem va_mna {X : va_W} {L : List Nat} {f : Nat → va_E} {cc : ByteArray} (hexec : p.tables.exec = Jvm.exec) (hb : c.code = cc) {own : String} {index : Nat} {ty : FieldType} {cy : ClassId} (hown : s.vm.findClass own = some m.cls) (hclink : (Cond.classLink own index ("[" ++ (FieldType.array ty).toString)).before args s = true) (hover : va_AOA ty s) (harr : (Cond.arrayClass ty).before args s = true) (hcy : s.vm.findClass (FieldType.array ty).toString = some cy)
    (hK : va_K D cl tys s) (hP : va_P D cl (X ++ va_pl L f) H) (hD : va_D A (X ++ va_pl L f)) (hS : va_S A H0 H locs) (hA : ∀ q, H0.size ≤ q → A q) {n k : Int32} {N' K' : Nat} {z : vp_A} (hn : ¬ n < 0) (hk : ¬ k < 0) (hN : n.toNatClampNeg = N') (hM : k.toNatClampNeg = K')
    (hb1 : N' * 4 ≤ 536870912) (hb2 : K' * componentBytes ty ≤ 536870912) (hb3 : K' ≤ 536870912) (hdf : fits ty (defaultValue ty) = true) (hdd : (defaultValue ty).isDefault = true) (hcells : cells + (1 + N') ≤ R.cells) (hslots : slots + (N' + N' * K') ≤ R.slots) (hz : ∀ c : ClassId, Jvm.Free.Multi.innerC c K' (defaultValue ty) = vp_cell c z) (hdg : decode cc pc = .ok (.multianewarray index 2, 4))
    (kk : ∀ (q : Nat) (r : Nat → Nat) (cA : ClassId) (H1 : Heap), (∀ i j : Nat, i < N' → j < N' → r i = r j → i = j) → (∀ i : Nat, i < N' → r i ∉ L) → va_K D cl (tys ++ [(cA, .array ty)]) s →
      va_P D cl ((X ++ [(q, .inl (cA, N', .inr (.inr (.inr (.inr (fun i => if i < N' then some (r i) else none))))))]) ++ va_pl (L ++ (List.range N').map r) (vr_up f ((List.range N').map r) (.inl (cy, z)))) H1 → va_D A ((X ++ [(q, .inl (cA, N', .inr (.inr (.inr (.inr (fun i => if i < N' then some (r i) else none))))))]) ++ va_pl (L ++ (List.range N').map r) (vr_up f ((List.range N').map r) (.inl (cy, z)))) → va_S A H0 H1 locs →
      W p l e R s m args below meth c H1 locs (cells + 1 + N') (slots + N' + N' * K') Q (F0 m (pc + 4) ls (.ref q :: rest))) : W p l e R s m args below meth c H locs cells slots Q (F0 m pc ls (.int k :: .int n :: rest)) := by
  subst hN
  subst hM
  intro T hT Xs
  obtain ⟨vm₁, cA, comp, -, fA, fC, hO, -, X', step⟩ := Xs.multianewarray2F hexec hown hclink (va_AOA.use hover) harr (g := F0 m pc ls (.int k :: .int n :: rest)) rfl (by rw [hb]; exact hdg) rfl hn hk hb1 hb2 hb3 hdf hdd hcells hslots
  have ec : some cy = some comp := hcy.symm.trans fC
  cases ec
  generalize hF : Jvm.Free.Multi.fill (T.setVm vm₁) cA cy n.toNatClampNeg k.toNatClampNeg (defaultValue ty) n.toNatClampNeg = F at X' step
  have hTh : (T.setVm vm₁).heap = H := hT
  obtain ⟨f1, f2, -, -⟩ := Jvm.Free.Multi.fill_facts (T.setVm vm₁) cA cy n.toNatClampNeg k.toNatClampNeg (defaultValue ty) n.toNatClampNeg
  rw [hF, hTh] at f1 f2
  have hold : ∀ x : Nat, x < H.size → F.heap[x]? = H[x]? := fun x hx => by
    have := Jvm.Free.Multi.fill_old (T.setVm vm₁) cA cy n.toNatClampNeg k.toNatClampNeg (defaultValue ty) (a := x) (by rw [hTh]; exact hx) n.toNatClampNeg
    rw [hF, hTh] at this
    exact this
  have hrow : ∀ j : Nat, j < n.toNatClampNeg → F.heap[H.size + 1 + j]? = some (vp_cell cy z) := fun j hj => by
    have := Jvm.Free.Multi.fill_inner (T.setVm vm₁) cA cy n.toNatClampNeg k.toNatClampNeg (defaultValue ty) n.toNatClampNeg j hj
    rw [hF, hTh, hz] at this
    exact this
  have hout : Jvm.Free.Multi.outerC cA n.toNatClampNeg H.size n.toNatClampNeg = vp_cell cA (n.toNatClampNeg, .inr (.inr (.inr (.inr (fun i => if i < n.toNatClampNeg then some (H.size + 1 + i) else none))))) := by
    rw [vp_cell_q]
    exact vr_outer cA n.toNatClampNeg H.size n.toNatClampNeg
  rw [hout] at f2
  have hlt : ∀ a, a ∈ L → a < H.size := fun a ha => by
    obtain ⟨k9, hk9⟩ := va_pl_get (X := X) (f := f) ha
    exact (hP k9 _ hk9).lt
  have hnl : ∀ i : Nat, i < n.toNatClampNeg → H.size + 1 + i ∉ L := fun i _ h => by
    have := hlt _ h
    omega
  have hnm : ∀ a, a ∈ (List.range n.toNatClampNeg).map (fun i => H.size + 1 + i) → a ∉ L := fun a ha h => by
    obtain ⟨i, -, rfl⟩ := List.mem_map.mp ha
    have := hlt _ h
    omega
  have hP0 : va_P D cl (X ++ va_pl L f) F.heap := hP.kept (fun k9 x hx => hold x.1 ((hP k9 x hx).lt))
  have hP1 : va_P D cl ((X ++ va_pl L f) ++ [(H.size, .inl (cA, n.toNatClampNeg, .inr (.inr (.inr (.inr (fun i => if i < n.toNatClampNeg then some (H.size + 1 + i) else none))))))]) F.heap := hP0.app (fun k9 x hx => by
    have h0 : k9 < 1 := (List.getElem?_eq_some_iff.mp hx).1
    rw [show k9 = 0 by omega] at hx
    cases hx
    exact f2)
  have hP2 : va_P D cl (((X ++ va_pl L f) ++ [(H.size, .inl (cA, n.toNatClampNeg, .inr (.inr (.inr (.inr (fun i => if i < n.toNatClampNeg then some (H.size + 1 + i) else none))))))]) ++ ((List.range n.toNatClampNeg).map (fun i => H.size + 1 + i)).map (fun a => (a, .inl (cy, z)))) F.heap := hP1.app (fun k9 x hx => by
    obtain ⟨a, ha, rfl⟩ := List.mem_map.mp (List.mem_of_getElem? hx)
    obtain ⟨i, hi, rfl⟩ := List.mem_map.mp ha
    exact hrow i (List.mem_range.mp hi))
  have hD2 : va_D A (((X ++ va_pl L f) ++ [(H.size, .inl (cA, n.toNatClampNeg, .inr (.inr (.inr (.inr (fun i => if i < n.toNatClampNeg then some (H.size + 1 + i) else none))))))]) ++ ((List.range n.toNatClampNeg).map (fun i => H.size + 1 + i)).map (fun a => (a, .inl (cy, z)))) := by
    have hD1 := hD.push (e := .inl (cA, n.toNatClampNeg, .inr (.inr (.inr (.inr (fun i => if i < n.toNatClampNeg then some (H.size + 1 + i) else none)))))) hP rfl (hA _ hS.1)
    generalize hW1 : (X ++ va_pl L f) ++ [(H.size, .inl (cA, n.toNatClampNeg, .inr (.inr (.inr (.inr (fun i => if i < n.toNatClampNeg then some (H.size + 1 + i) else none))))))] = W1 at hD1 hP1 ⊢
    have hle : ∀ (k9 : Nat) (x : Nat × va_E), W1[k9]? = some x → x.1 ≤ H.size := fun k9 x hx => by
      rw [← hW1] at hx
      by_cases hl : k9 < (X ++ va_pl L f).length
      · rw [List.getElem?_append_left hl] at hx
        exact Nat.le_of_lt ((hP k9 x hx).lt)
      · rw [List.getElem?_append_right (by omega)] at hx
        have h0 : k9 - (X ++ va_pl L f).length < 1 := (List.getElem?_eq_some_iff.mp hx).1
        rw [show k9 - (X ++ va_pl L f).length = 0 by omega] at hx
        cases hx
        exact Nat.le_refl _
    have hr : ∀ (k9 : Nat) (x : Nat × va_E), (((List.range n.toNatClampNeg).map (fun i => H.size + 1 + i)).map (fun a => ((a, .inl (cy, z)) : Nat × va_E)))[k9]? = some x → x.1 = H.size + 1 + k9 := fun k9 x hx => by
      rw [List.getElem?_map, List.getElem?_map] at hx
      by_cases h9 : k9 < n.toNatClampNeg
      · rw [List.getElem?_range h9] at hx
        cases hx
        rfl
      · have hn0 : (List.range n.toNatClampNeg)[k9]? = none := List.getElem?_eq_none (by rw [List.length_range]; omega)
        rw [hn0] at hx
        cases hx
    refine ⟨fun i j x y hi hj hxy => ?_, fun k9 x hx => ?_⟩
    · by_cases h1 : i < W1.length <;> by_cases h2 : j < W1.length
      · rw [List.getElem?_append_left h1] at hi
        rw [List.getElem?_append_left h2] at hj
        exact hD1.1 i j x y hi hj hxy
      · rw [List.getElem?_append_left h1] at hi
        rw [List.getElem?_append_right (by omega)] at hj
        have := hle _ _ hi
        have := hr _ _ hj
        omega
      · rw [List.getElem?_append_right (by omega)] at hi
        rw [List.getElem?_append_left h2] at hj
        have := hle _ _ hj
        have := hr _ _ hi
        omega
      · rw [List.getElem?_append_right (by omega)] at hi hj
        have := hr _ _ hi
        have := hr _ _ hj
        omega
    · by_cases h1 : k9 < W1.length
      · rw [List.getElem?_append_left h1] at hx
        exact hD1.2 k9 x hx
      · rw [List.getElem?_append_right (by omega)] at hx
        have := hr _ _ hx
        exact hA _ (by have := hS.1; omega)
  have hAr : ArrOfT s cA (.array ty) := fun N9 z9 => by
    obtain ⟨-, k9, hk9, cm9, hkk9⟩ := (hO 0 0 0).1
    exact ⟨(fun q hq => by cases hq), k9, hk9, cm9, hkk9⟩
  have hK2 : va_K D cl (tys ++ [(cA, .array ty)]) s := ⟨hK.1, fun k9 x hx => by
    by_cases hl : k9 < tys.length
    · rw [List.getElem?_append_left hl] at hx
      exact hK.2 k9 x hx
    · rw [List.getElem?_append_right (by omega)] at hx
      have h0 : k9 - tys.length < 1 := (List.getElem?_eq_some_iff.mp hx).1
      rw [show k9 - tys.length = 0 by omega] at hx
      cases hx
      exact ⟨hAr, fA⟩⟩
  obtain ⟨t, a1, b1⟩ := kk H.size (fun i => H.size + 1 + i) cA F.heap (fun i j _ _ h => by have h9 : H.size + 1 + i = H.size + 1 + j := h; omega) hnl hK2 (by rw [← vr_rows hnm]; exact vr_lay hP2) (by rw [← vr_rows hnm]; exact vr_layD hD2) ⟨by rw [f1]; have := hS.1; omega, fun x h1 h2 => (hold x (Nat.lt_of_lt_of_le h1 hS.1)).trans (hS.2.1 x h1 h2), hS.2.2⟩ F rfl X'
  refine ⟨t, step t ?_, b1⟩
  have e : T.heap.size = H.size := by rw [hT]
  rw [e]
  exact a1
end VGM
/-! ===== END ===== -/

/-! ===== BEGIN exceptions that leave a method, and their catching by the caller (launches without stack traces) ===== -/
section VXA
/-! The laws vx_back, vx_callV, vx_callS, vx_callSW, vx_throw0, vx_throwS follow proofs of the library, with one case more: JvmDerived/Free/Laws.lean (Back.of_free), Shelf42/LK1.lean (callV, callS), Shelf/KitTraced.lean (throwNew0V, throwNewS). -/
/-- where a method has thrown q: the class by its name, the cell, what was written, the world -/
def vx_T (XC : String → State → State → Prop) (st : State) (q : Addr) (t : State) (mc ms : Nat) (free : Addr → Prop) : Prop :=
  ∃ (E : String) (ce : Cell) (L : List Loc), XC E st t ∧ t.heap[q]? = some ce ∧ ce.vm = .none ∧ st.vm.findClass E = some ce.cls ∧ st.WarmedH t.vm ∧ st.sameButNew ({ t with vm := st.vm } : State) L mc ms ∧ ∀ z ∈ L, free z.base
def vx_Q (Qc : Array Value → State → Outcome → State → Prop) (XC : String → State → State → Prop) (mc ms : Nat) (free : Addr → Prop) : Array Value → State → Outcome → State → Prop := fun a st o t =>
  (Qc a st o t ∧ ∃ L, FrameEnd st o t L mc ms ∧ ∀ q ∈ L, free q.base) ∨ ∃ q, o = .threw q ∧ vx_T XC st q t mc ms free
/-- a callee that returns or throws -/
def vx_Met (l : Launch) (y : MethodName) (ws : List Cond) (rm : Room) (Pc : Array Value → State → Prop) (Qc : Array Value → State → Outcome → State → Prop) (XC : String → State → State → Prop) (mc ms : Nat) (free : Addr → Prop) : Prop :=
  MetFree l y (headSpec ws rm) Pc (fun _ _ _ _ _ => True) (vx_Q Qc XC mc ms free)
def vx_Post (XC : String → State → State → Prop) (mc ms : Nat) (free : Addr → Prop) : Pt → Array Value → Addr → Pt → Prop := fun A a q B =>
  ∃ (g : JFrame) (mk : MethodId) (t : State) (L : List Loc) (E : String) (ce : Cell), B.U.heap = t.heap ∧ B.U.vm = t.vm ∧ XC E (A.U.calling g mk a) t ∧ t.heap[q]? = some ce ∧ ce.vm = .none ∧ A.U.vm.findClass E = some ce.cls ∧ B.locs = A.locs ++ L ∧ (∀ z ∈ L, free z.base) ∧ B.cells = A.cells + mc ∧ B.slots = A.slots + ms
def vx_Back (l : Launch) (R : Room) (p : Program) (e : Env) (below : List Frame) (s : State) (sargs : Array Value) (y : MethodName) (len W9 : Nat)
    (Pre : Pt → Array Value → Prop) (Post : Pt → Array Value → Option Value → Pt → Prop) (PostX : Pt → Array Value → Addr → Pt → Prop) : Prop :=
  ∀ (m : MethodId) (meth : Method) (c : Code) (A : Pt) (g : JFrame) (ig : Instr) (mk : MethodId) (a : Array Value),
    Stand p l e R s m sargs below meth c A.U A.locs A.cells A.slots → g.method = m → g.locals.size = c.maxLocals → decode c.code g.pc = .ok (ig, len) →
    2 * g.monitorRoom + (g.stack.map fun v => v.category).sum ≤ W9 → A.U.methodNamed? y = some mk → Pre A a →
    (∃ (v : Option Value) (B : Pt), Stand p l e R s m sargs below meth c B.U B.locs B.cells B.slots ∧ Post A a v B ∧
      Steps p.tables e below (doInvoke e (A.U.setTop g) [] mk a).1 (B.U.setTop { g with pc := g.pc + len, stack := v.toList ++ g.stack })) ∨
    (∃ (q : Addr) (B : Pt), Stand p l e R s m sargs below meth c B.U B.locs B.cells B.slots ∧ PostX A a q B ∧
      Steps p.tables e below (doInvoke e (A.U.setTop g) [] mk a).1 ((B.U.setTop g).pushFrame (.throwing q)))
section Payer
variable {l : Launch} {R : Room} {p : Program} {e : Env} {below : List Frame} {s : State} {sargs : Array Value} {y : MethodName} {len W9 : Nat}
theorem vx_back {ws : List Cond} {rm : Room} {Pc : Array Value → State → Prop} {Qc : Array Value → State → Outcome → State → Prop} {XC : String → State → State → Prop} {mc ms : Nat} {free : Addr → Prop} {bytes : ByteArray} {maxL : Nat} {ret : Option FieldType}
    (hM : vx_Met l y ws rm Pc Qc XC mc ms free) (hblind : FrameBlind Pc) (hrc : rm.cells = mc) (hrs : rm.slots = ms)
    (hframes : rm.frames + 1 ≤ R.frames) (hlocals : W9 + (maxL + 11) + rm.locals ≤ R.locals)
    (hws : ∀ w ∈ ws, ∀ a' U, s.WarmedH U.vm → w.before a' U = true) (hcode : Cond.code y bytes maxL ret ∈ ws) (hinit : ∀ a' U, s.WarmedH U.vm → (Cond.initialized y.cls).before a' U = true) :
    vx_Back l R p e below s sargs y len W9 (PreOf R mc ms Pc) (PostOf Qc mc ms free) (vx_Post XC mc ms free) := by
  intro m meth c A g ig mk a X hg hsize hdg hW hn hp
  have h1 : (headSpec ws rm).pre.before a A.U = true := atoms_intro fun w hw => hws w hw _ _ X.warmed
  have h2 : (Cond.code y bytes maxL ret).before a A.U = true := hws _ hcode _ _ X.warmed
  have h3 : (Cond.initialized y.cls).before a A.U = true := hinit _ _ X.warmed
  have h4 : A.cells + (headSpec ws rm).room.cells ≤ R.cells := by rw [show (headSpec ws rm).room.cells = mc from hrc]; exact hp.1
  have h5 : A.slots + (headSpec ws rm).room.slots ≤ R.slots := by rw [show (headSpec ws rm).room.slots = ms from hrs]; exact hp.2.1
  have hPc : Pc a (A.U.calling g mk a) := hblind _ _ _ _ hp.2.2
  obtain ⟨U, Ls, c0, s0⟩ := A
  dsimp only [Pt.U, Pt.locs, Pt.cells, Pt.slots] at h1 h2 h3 h4 h5 X hn hPc ⊢
  obtain ⟨methY, cY, hmY, hcY, -, hlY, -, -, -, -⟩ := Cond.code_spec hn h2
  obtain ⟨kY, hkY, -⟩ := className_of_methodNamed hn
  have hinitY : kY.init = .initialized := Cond.initialized_spec (findClass_of_methodNamed hn) hkY h3
  have h : At U g.method c below := by rw [hg]; exact X.here
  have hlocals9 : W9 + (maxL + 11) + (headSpec ws rm).room.locals ≤ R.locals := hlocals
  have happ : (headSpec ws rm).appliesLoose y e.platform (U.calling g mk a) = true :=
    Spec.appliesLoose_calling (g := g) h hdg hn hkY hinitY
      (X.room_calling (g := g) (R' := (headSpec ws rm).room) hsize hmY hcY hframes (by rw [hlY]; omega) h4 h5) h1
  obtain ⟨mid, hmid⟩ := h.above
  have hfr : (U.setTop g).frames = (.java g :: mid) ++ below := by rw [State.frames_setTop' g h.top, hmid]; rfl
  obtain ⟨o, s₂, hsteps, -, hend, hq⟩ := Steps.callFree hM p X.admits X.cas X.clock (acts := []) hfr happ hPc trivial
  have hq' : vx_Q Qc XC mc ms free a (U.calling g mk a) o s₂ := hq
  rw [State.frames_setTop' g h.top] at hend
  obtain ⟨g₀, hg0⟩ := Option.isSome_iff_exists.mp h.top
  obtain ⟨r, hr⟩ := State.topJava?_eq_some.mp hg0
  have hr' : (({ U with heap := s₂.heap, slotsUsed := s₂.slotsUsed } : State).setVm s₂.vm).frames = .java g₀ :: r := hr
  rcases hq' with ⟨hqc, L, hfe, hL⟩ | ⟨q, rfl, E, ce, L, hx, hce, hcv, hcl, hW₂, hsm, hL⟩
  · obtain ⟨⟨v, rfl⟩, hW₂, e2, q2, q3, q4, q5, q6⟩ := id hfe
    have e3 : s₂ = ({ (U.calling g mk a).setFrames s₂.frames with heap := s₂.heap, slotsUsed := s₂.slotsUsed } : State).setVm s₂.vm := by
      have : s₂ = ({ s₂ with vm := (U.calling g mk a).vm } : State).setVm s₂.vm := rfl
      rw [e2] at this
      exact this
    obtain ⟨c₂, i₂, len₂, hc₂, hd₂, hf₂⟩ := hend
    have hW' : U.WarmedH s₂.vm := hW₂
    have hcc : c₂ = c := by
      have h1 : s₂.code? g.method = U.code? g.method := by
        rw [State.code?_eq, State.code?_eq, hW'.alike.method?]
      exact Option.some.inj (hc₂.symm.trans (h1.trans h.code))
    subst hcc
    have hlen : len₂ = len := by rw [hdg] at hd₂; cases hd₂; rfl
    subst hlen
    have hs₂ : s₂ = (({ U with heap := s₂.heap, slotsUsed := s₂.slotsUsed } : State).setVm s₂.vm).setTop { g with pc := g.pc + len₂, stack := v.toList ++ g.stack } := by
      refine e3.trans ?_
      rw [hf₂, State.calling_eq h.top, State.setFrames_setFrames, State.setTop_of_frames _ hr', hr]
      rfl
    have hsame : U.sameButNew ({ U with heap := s₂.heap, slotsUsed := s₂.slotsUsed } : State) L mc ms := by
      refine ⟨?_, q2, q3, q4, q5, q6⟩
      obtain ⟨t, ht, -⟩ := State.frames_cons hr
      show ({ U with heap := s₂.heap, slotsUsed := s₂.slotsUsed } : State) = { U.setFrames U.frames with heap := s₂.heap, slotsUsed := s₂.slotsUsed }
      rw [State.setFrames_self ht]
    subst hg
    refine Or.inl ⟨v, ⟨(({ U with heap := s₂.heap, slotsUsed := s₂.slotsUsed } : State).setVm s₂.vm), Ls ++ L, c0 + mc, s0 + ms⟩,
      ⟨X.admits, X.cas, X.clock, X.frames, X.room, X.hears, X.method, X.code, (X.here.setHeapUsed s₂.heap s₂.slotsUsed).setVm hW'.alike, X.tail, State.WarmedH.trans X.warmed hW', X.limits, X.bytes, X.same.trans (hsame.setVm s.vm)⟩,
      ⟨g, mk, s₂, L, rfl, rfl, hqc, rfl, hL, rfl, rfl⟩, ?_⟩
    show Steps p.tables e below _ ((({ U with heap := s₂.heap, slotsUsed := s₂.slotsUsed } : State).setVm s₂.vm).setTop { g with pc := g.pc + len₂, stack := v.toList ++ g.stack })
    rw [← hs₂]
    exact hsteps
  · obtain ⟨e2, q2, q3, q4, q5, q6⟩ := id hsm
    have e3 : s₂ = ({ (U.calling g mk a).setFrames s₂.frames with heap := s₂.heap, slotsUsed := s₂.slotsUsed } : State).setVm s₂.vm := by
      have : s₂ = ({ s₂ with vm := (U.calling g mk a).vm } : State).setVm s₂.vm := rfl
      rw [e2] at this
      exact this
    have hf₂ : s₂.frames = .throwing q :: .java g :: U.frames.tail := hend
    have hW' : U.WarmedH s₂.vm := hW₂
    have hs₂ : s₂ = ((({ U with heap := s₂.heap, slotsUsed := s₂.slotsUsed } : State).setVm s₂.vm).setTop g).pushFrame (.throwing q) := by
      refine e3.trans ?_
      rw [hf₂, State.calling_eq h.top, State.setFrames_setFrames, State.pushFrame, State.frames_setTop _ hr', State.setTop_of_frames _ hr', State.setFrames_setFrames, hr]
      rfl
    have hsame : U.sameButNew ({ U with heap := s₂.heap, slotsUsed := s₂.slotsUsed } : State) L mc ms := by
      refine ⟨?_, q2, q3, q4, q5, q6⟩
      obtain ⟨t, ht, -⟩ := State.frames_cons hr
      show ({ U with heap := s₂.heap, slotsUsed := s₂.slotsUsed } : State) = { U.setFrames U.frames with heap := s₂.heap, slotsUsed := s₂.slotsUsed }
      rw [State.setFrames_self ht]
    subst hg
    refine Or.inr ⟨q, ⟨(({ U with heap := s₂.heap, slotsUsed := s₂.slotsUsed } : State).setVm s₂.vm), Ls ++ L, c0 + mc, s0 + ms⟩,
      ⟨X.admits, X.cas, X.clock, X.frames, X.room, X.hears, X.method, X.code, (X.here.setHeapUsed s₂.heap s₂.slotsUsed).setVm hW'.alike, X.tail, State.WarmedH.trans X.warmed hW', X.limits, X.bytes, X.same.trans (hsame.setVm s.vm)⟩,
      ⟨g, mk, s₂, L, E, ce, rfl, rfl, hx, hce, hcv, hcl, rfl, hL, rfl, rfl⟩, ?_⟩
    show Steps p.tables e below _ (((({ U with heap := s₂.heap, slotsUsed := s₂.slotsUsed } : State).setVm s₂.vm).setTop g).pushFrame (.throwing q))
    rw [← hs₂]
    exact hsteps
end Payer
section Calls
variable {p : Program} {l : Launch} {e : Env} {R : Room} {s : State} {m : MethodId} {args : Array Value} {below : List Frame} {meth : Method} {c : Code} {T : State} {locs : List Loc} {cells slots : Nat}
theorem vx_callV (X : Stand p l e R s m args below meth c T locs cells slots) (hexec : p.tables.exec = Jvm.exec) {own C : String} {index : Nat} {y : MethodName} {bytes : ByteArray} {maxL : Nat} {ret : Option FieldType}
    (hown : s.vm.findClass own = some m.cls) (hlink : (Cond.methodLink own index y).before args s = true) (hinst : (Cond.instanceMethod y).before args s = true) (hsel : (Cond.selects C y y).before args s = true)
    (hcode : (Cond.code y bytes maxL ret).before args s = true) (hy : y.cls ≠ "java/lang/invoke/MethodHandle" ∧ y.cls ≠ "java/lang/invoke/VarHandle")
    {W9 : Nat} {Pre : Pt → Array Value → Prop} {Post : Pt → Array Value → Option Value → Pt → Prop} {PostX : Pt → Array Value → Addr → Pt → Prop} (hK : vx_Back l R p e below s args y 3 W9 Pre Post PostX)
    {b : Addr} {cellB : Cell} (hcell : T.heap[b]? = some cellB) (hobj : cellB.vm.isStatics = false) (hcls : s.vm.findClass C = some cellB.cls)
    {g : JFrame} (hg : g.method = m) (hsize : g.locals.size = c.maxLocals) {argsL rest : List Value} (hlen : ∀ sig, parseMethodDescriptor y.desc = some sig → argsL.length = sig.parameters.length)
    (hstack : g.stack = argsL.reverse ++ .ref b :: rest) (hW : 2 * g.monitorRoom + (rest.map fun v => v.category).sum ≤ W9) (hdg : decode c.code g.pc = .ok (.invokevirtual index, 3))
    (hpre : ∀ vm₁, s.WarmedH vm₁ → Pre ⟨T.setVm vm₁, locs, cells, slots⟩ (Value.ref b :: argsL).toArray) :
    (∃ (v : Option Value) (vm₁ : Vm) (B : Pt), s.WarmedH vm₁ ∧ Stand p l e R s m args below meth c B.U B.locs B.cells B.slots ∧ Post ⟨T.setVm vm₁, locs, cells, slots⟩ (Value.ref b :: argsL).toArray v B ∧
      ∀ target, Steps p.tables e below (B.U.setTop { g with pc := g.pc + 3, stack := v.toList ++ rest }) target → Steps p.tables e below (T.setTop g) target) ∨
    (∃ (q : Addr) (vm₁ : Vm) (B : Pt), s.WarmedH vm₁ ∧ Stand p l e R s m args below meth c B.U B.locs B.cells B.slots ∧ PostX ⟨T.setVm vm₁, locs, cells, slots⟩ (Value.ref b :: argsL).toArray q B ∧
      Steps p.tables e below (T.setTop g) ((B.U.setTop { g with stack := rest }).pushFrame (.throwing q))) := by
  obtain ⟨mk, methM, hnamed, hmethM, hstM, habM⟩ := Cond.instanceMethod_spec hinst
  obtain ⟨methM', cM, hmethM', -, -, -, -, -, -, hsigM⟩ := Cond.code_spec hnamed hcode
  cases hmethM.symm.trans hmethM'
  obtain ⟨c2, r2, m2, q1, q2, q3, q4, kP, hkP, hkPi⟩ := Cond.selects_spec hsel
  cases hcls.symm.trans q1
  cases (State.methodFound?_of_named hnamed hy).symm.trans q2
  cases hnamed.symm.trans q3
  have hselP : selectMethod e.platform s.vm cellB.cls mk = .method mk := by rw [Launch.admits_selectMethod X.admits]; exact q4
  obtain ⟨vm₁, X₁, hstep₁⟩ := X.invokevirtual hexec hown hlink hnamed hmethM hstM hkP hkPi hy (a := b) (cell := cellB) hcell
    (fun z h => by rw [h] at hobj; cases hobj) hselP hmethM habM hkP hkPi (g := g) hg (argsL := argsL) (rest := rest) (hlen _ hsigM) hstack hdg
  rcases hK m meth c ⟨T.setVm vm₁, locs, cells, slots⟩ { g with stack := rest } (.invokevirtual index) mk (Value.ref b :: argsL).toArray X₁ hg hsize hdg hW (X₁.named hnamed) (hpre vm₁ X₁.warmed) with ⟨v, B, X', hpost, hsteps⟩ | ⟨q, B, X', hpost, hsteps⟩
  · exact Or.inl ⟨v, vm₁, B, X₁.warmed, X', hpost, fun target h => hstep₁ _ fun acts => by rw [doInvoke_state]; exact hsteps.trans h⟩
  · exact Or.inr ⟨q, vm₁, B, X₁.warmed, X', hpost, hstep₁ _ fun acts => by rw [doInvoke_state]; exact hsteps⟩
theorem vx_callS (X : Stand p l e R s m args below meth c T locs cells slots) (hexec : p.tables.exec = Jvm.exec) {own : String} {index : Nat} {y : MethodName} {bytes : ByteArray} {maxL : Nat} {ret : Option FieldType}
    (hown : s.vm.findClass own = some m.cls) (hlink : (Cond.methodLink own index y).before args s = true) (hstat : (Cond.static y).before args s = true) (hinit : (Cond.initialized y.cls).before args s = true)
    (hcode : (Cond.code y bytes maxL ret).before args s = true) (hy : y.cls ≠ "java/lang/invoke/MethodHandle" ∧ y.cls ≠ "java/lang/invoke/VarHandle")
    {W9 : Nat} {Pre : Pt → Array Value → Prop} {Post : Pt → Array Value → Option Value → Pt → Prop} {PostX : Pt → Array Value → Addr → Pt → Prop} (hK : vx_Back l R p e below s args y 3 W9 Pre Post PostX)
    {g : JFrame} (hg : g.method = m) (hsize : g.locals.size = c.maxLocals) {argsL rest : List Value} (hlen : ∀ sig, parseMethodDescriptor y.desc = some sig → argsL.length = sig.parameters.length)
    (hstack : g.stack = argsL.reverse ++ rest) (hW : 2 * g.monitorRoom + (rest.map fun v => v.category).sum ≤ W9) (hdg : decode c.code g.pc = .ok (.invokestatic index, 3))
    (hpre : ∀ vm₁, s.WarmedH vm₁ → Pre ⟨T.setVm vm₁, locs, cells, slots⟩ argsL.toArray) :
    (∃ (v : Option Value) (vm₁ : Vm) (B : Pt), s.WarmedH vm₁ ∧ Stand p l e R s m args below meth c B.U B.locs B.cells B.slots ∧ Post ⟨T.setVm vm₁, locs, cells, slots⟩ argsL.toArray v B ∧
      ∀ target, Steps p.tables e below (B.U.setTop { g with pc := g.pc + 3, stack := v.toList ++ rest }) target → Steps p.tables e below (T.setTop g) target) ∨
    (∃ (q : Addr) (vm₁ : Vm) (B : Pt), s.WarmedH vm₁ ∧ Stand p l e R s m args below meth c B.U B.locs B.cells B.slots ∧ PostX ⟨T.setVm vm₁, locs, cells, slots⟩ argsL.toArray q B ∧
      Steps p.tables e below (T.setTop g) ((B.U.setTop { g with stack := rest }).pushFrame (.throwing q))) := by
  obtain ⟨mk, hnamed⟩ := Cond.code_named hcode
  obtain ⟨methM, cM, hmethM, -, -, -, -, -, -, hsigM⟩ := Cond.code_spec hnamed hcode
  have hstatic : methM.isStatic = true := Cond.static_spec hnamed hmethM hstat
  obtain ⟨kP, hkP, -⟩ := className_of_methodNamed hnamed
  have hinitP : kP.init = .initialized := Cond.initialized_spec (findClass_of_methodNamed hnamed) hkP hinit
  obtain ⟨vm₁, X₁, hstep₁⟩ := X.invokestatic hexec hown hlink hnamed hmethM hstatic hkP hinitP hy (g := g) hg (argsL := argsL) (rest := rest) (hlen _ hsigM) hstack hdg
  rcases hK m meth c ⟨T.setVm vm₁, locs, cells, slots⟩ { g with stack := rest } (.invokestatic index) mk argsL.toArray X₁ hg hsize hdg hW (X₁.named hnamed) (hpre vm₁ X₁.warmed) with ⟨v, B, X', hpost, hsteps⟩ | ⟨q, B, X', hpost, hsteps⟩
  · exact Or.inl ⟨v, vm₁, B, X₁.warmed, X', hpost, fun target h => hstep₁ _ fun acts => by rw [doInvoke_state]; exact hsteps.trans h⟩
  · exact Or.inr ⟨q, vm₁, B, X₁.warmed, X', hpost, hstep₁ _ fun acts => by rw [doInvoke_state]; exact hsteps⟩
end Calls
theorem vx_cls {s : State} {T : State} {vm₁ : Vm} {E : String} {k : ClassId} (hW : s.WarmedH vm₁) (h : (T.setVm vm₁).vm.findClass E = some k) : s.vm.findClass E = some k := by
  have h1 : vm₁.findClass E = some k := h
  rw [hW.alike.findClass] at h1
  exact h1
/-- the method's frame g, with q thrown over it -/
def vx_W (p : Program) (l : Launch) (e : Env) (R : Room) (s : State) (m : MethodId) (args : Array Value) (below : List Frame) (meth : Method) (c : Code) (H : Heap) (locs : List Loc) (cells slots : Nat) (Q : State → Prop) (g : JFrame) (q : Addr) : Prop :=
  ∀ T : State, T.heap = H → Stand p l e R s m args below meth c T locs cells slots → ∃ t, Steps p.tables e below ((T.setTop g).pushFrame (.throwing q)) t ∧ Q t
def vx_Run (p : Program) (l : Launch) (e : Env) (R : Room) (s : State) (m : MethodId) (args : Array Value) (below : List Frame) (meth : Method) (c : Code) (H : Heap) (locs : List Loc) (cells slots mc ms : Nat) (g : JFrame) (rest : List Value) (Qa : State → Outcome → State → Prop) (XC : String → State → State → Prop) (free : Addr → Prop) : Prop :=
  ∀ T : State, T.heap = H → Stand p l e R s m args below meth c T locs cells slots →
    (∃ (v : Option Value) (st₀ t T' : State) (L : List Loc), st₀.heap = H ∧ Stand p l e R s m args below meth c T' (locs ++ L) (cells + mc) (slots + ms) ∧ (∀ q ∈ L, free q.base) ∧ T'.heap = t.heap ∧ T'.vm = t.vm ∧ Qa st₀ (.returned v) t ∧
      Goes p e below T g T' { g with pc := g.pc + 3, stack := v.toList ++ rest }) ∨
    (∃ (q : Addr) (st₀ t T' : State) (L : List Loc) (E : String) (ce : Cell), st₀.heap = H ∧ Stand p l e R s m args below meth c T' (locs ++ L) (cells + mc) (slots + ms) ∧ (∀ z ∈ L, free z.base) ∧ T'.heap = t.heap ∧ T'.vm = t.vm ∧ XC E st₀ t ∧ t.heap[q]? = some ce ∧ ce.vm = .none ∧ s.vm.findClass E = some ce.cls ∧
      Steps p.tables e below (T.setTop g) ((T'.setTop { g with stack := rest }).pushFrame (.throwing q)))
def vx_X {S : Type} (px : S → Prop) (B : String → S → State → Prop) (A : Nat → Prop) : String → State → State → Prop := fun E st t => ∃ u : S, px u ∧ B E u t ∧ va_F A st t
section Runs
variable {p : Program} {l : Launch} {e : Env} {R : Room} {s : State} {m : MethodId} {args : Array Value} {below : List Frame} {meth : Method} {c : Code} {H : Heap} {locs : List Loc} {cells slots : Nat}
variable {y : MethodName} {bytes cc : ByteArray} {maxL nL mc ms n index : Nat} {ret : Option FieldType} {ws : List Cond} {rm : Room} {Pc : Array Value → State → Prop} {Qc : Array Value → State → Outcome → State → Prop} {XC : String → State → State → Prop} {free : Addr → Prop} {Ts : List Cond} {own C : String} {b : Addr} {As rest : List Value} {g : JFrame}
theorem vx_callBack (cb : CallB R s args own index y bytes maxL ret ws rm mc ms n) (hM : vx_Met l y ws rm Pc Qc XC mc ms free) (hbl : FrameBlind Pc) : vx_Back l R p e below s args y 3 8 (PreOf R mc ms Pc) (PostOf Qc mc ms free) (vx_Post XC mc ms free) := by
  obtain ⟨hrc, hrs, hfr, hlo, hws, hcw, -, hini, -⟩ := cb
  exact vx_back (bytes := bytes) (maxL := maxL) (ret := ret) hM hbl hrc hrs hfr hlo hws hcw (fun a' U hW => word_at hW (Or.inl (by first | rfl | simp [Cond.onTables, Cond.keeps, Cond.steady])) hini)
theorem vx_runV (S : CallFix p m c cc nL s args Ts own) (hM : vx_Met l y ws rm Pc Qc XC mc ms free) (cw : CallW R s args own C index y bytes maxL ret ws rm mc ms n) (hp : PreV s H C b Pc As)
    (hg : g.method = m) (hn : As.length = n) (hsize : g.locals.size = nL) (hstack : g.stack = As.reverse ++ .ref b :: rest) (hW : 2 * g.monitorRoom + (rest.map fun v => v.category).sum ≤ 8) (hdg : decode cc g.pc = .ok (.invokevirtual index, 3)) (hf : cells + mc ≤ R.cells ∧ slots + ms ≤ R.slots) :
    vx_Run p l e R s m args below meth c H locs cells slots mc ms g rest (Qc (Value.ref b :: As).toArray) XC free := by
  have hK : vx_Back l R p e below s args y 3 8 (PreOf R mc ms Pc) (PostOf Qc mc ms free) (vx_Post XC mc ms free) := vx_callBack cw.1 hM hp.1
  obtain ⟨⟨-, -, -, -, -, -, hcode, -, hy, hlen, hl⟩, hin, hse⟩ := cw
  obtain ⟨hx, hb, hml, ho, -⟩ := S
  obtain ⟨-, ⟨cellB, hcB, hoB, hclB⟩, hPc⟩ := hp
  intro T hT X
  rcases vx_callV X hx (C := C) (bytes := bytes) (maxL := maxL) (ret := ret) ho hl hin hse hcode hy hK (by rw [hT]; exact hcB) hoB hclB hg (hsize.trans hml.symm) (argsL := As) (rest := rest) (fun sig h => hn.trans (hlen sig h)) hstack hW (by rw [hb]; exact hdg)
    (fun vm₁ hW₁ => ⟨hf.1, hf.2, hPc (T.setVm vm₁) hT hW₁⟩) with ⟨v, vm₁, ⟨U', l2, c2, s2⟩, hW₁, X', ⟨g', mk, t, L, e1, e2, hq, h1, hL, h2, h3⟩, st⟩ | ⟨q, vm₁, ⟨U', l2, c2, s2⟩, hW₁, X', ⟨g', mk, t, L, E, ce, e1, e2, hq, hce, hcv, hcl, h1, hL, h2, h3⟩, st⟩
  · dsimp only [Pt.U, Pt.locs, Pt.cells, Pt.slots] at X' e1 e2 h1 h2 h3 st
    subst h1; subst h2; subst h3
    exact Or.inl ⟨v, (T.setVm vm₁).calling g' mk (Value.ref b :: As).toArray, t, U', L, hT, X', hL, e1, e2, hq, st⟩
  · dsimp only [Pt.U, Pt.locs, Pt.cells, Pt.slots] at X' e1 e2 h1 h2 h3 st hcl
    subst h1; subst h2; subst h3
    exact Or.inr ⟨q, (T.setVm vm₁).calling g' mk (Value.ref b :: As).toArray, t, U', L, E, ce, hT, X', hL, e1, e2, hq, hce, hcv, vx_cls hW₁ hcl, st⟩
theorem vx_runS (S : CallFix p m c cc nL s args Ts own) (hM : vx_Met l y ws rm Pc Qc XC mc ms free) (cw : CallB R s args own index y bytes maxL ret ws rm mc ms n ∧ (Cond.static y).before args s = true) (hp : PreS s H Pc As)
    (hg : g.method = m) (hn : As.length = n) (hsize : g.locals.size = nL) (hstack : g.stack = As.reverse ++ rest) (hW : 2 * g.monitorRoom + (rest.map fun v => v.category).sum ≤ 8) (hdg : decode cc g.pc = .ok (.invokestatic index, 3)) (hf : cells + mc ≤ R.cells ∧ slots + ms ≤ R.slots) :
    vx_Run p l e R s m args below meth c H locs cells slots mc ms g rest (Qc As.toArray) XC free := by
  have hK : vx_Back l R p e below s args y 3 8 (PreOf R mc ms Pc) (PostOf Qc mc ms free) (vx_Post XC mc ms free) := vx_callBack cw.1 hM hp.1
  obtain ⟨⟨-, -, -, -, -, -, hcode, hini, hy, hlen, hl⟩, hstt⟩ := cw
  obtain ⟨hx, hb, hml, ho, -⟩ := S
  intro T hT X
  rcases vx_callS X hx (bytes := bytes) (maxL := maxL) (ret := ret) ho hl hstt hini hcode hy hK hg (hsize.trans hml.symm) (argsL := As) (rest := rest) (fun sig h => hn.trans (hlen sig h)) hstack hW (by rw [hb]; exact hdg)
    (fun vm₁ hW₁ => ⟨hf.1, hf.2, hp.2 (T.setVm vm₁) hT hW₁⟩) with ⟨v, vm₁, ⟨U', l2, c2, s2⟩, hW₁, X', ⟨g', mk, t, L, e1, e2, hq, h1, hL, h2, h3⟩, st⟩ | ⟨q, vm₁, ⟨U', l2, c2, s2⟩, hW₁, X', ⟨g', mk, t, L, E, ce, e1, e2, hq, hce, hcv, hcl, h1, hL, h2, h3⟩, st⟩
  · dsimp only [Pt.U, Pt.locs, Pt.cells, Pt.slots] at X' e1 e2 h1 h2 h3 st
    subst h1; subst h2; subst h3
    exact Or.inl ⟨v, (T.setVm vm₁).calling g' mk As.toArray, t, U', L, hT, X', hL, e1, e2, hq, st⟩
  · dsimp only [Pt.U, Pt.locs, Pt.cells, Pt.slots] at X' e1 e2 h1 h2 h3 st hcl
    subst h1; subst h2; subst h3
    exact Or.inr ⟨q, (T.setVm vm₁).calling g' mk As.toArray, t, U', L, E, ce, hT, X', hL, e1, e2, hq, hce, hcv, vx_cls hW₁ hcl, st⟩
end Runs
section Rows
variable {p : Program} {l : Launch} {e : Env} {R : Room} {s : State} {m : MethodId} {args : Array Value} {below : List Frame} {meth : Method} {c : Code} {H : Heap} {locs : List Loc} {cells slots : Nat} {Q : State → Prop}
variable {mc ms : Nat} {free : Addr → Prop} {A0 A1 : Nat → Prop} {H0 : Heap} {a : Array Value} {pc : Nat} {ls : Array Slot} {st0 rest : List Value}
theorem vx_keep {st₀ t T' : State} {L : List Loc} (h0 : st₀.heap = H) (e1 : T'.heap = t.heap) (hS : va_S A0 H0 H locs) (hA : ∀ q, q < H.size → A1 q → A0 q) (hf : ∀ q, free q → A0 q) (hL : ∀ q ∈ L, free q.base) (hF : va_F A1 st₀ t) :
    H.size ≤ T'.heap.size ∧ (∀ q : Nat, q < H.size → ¬ A1 q → T'.heap[q]? = H[q]?) ∧ va_S A0 H0 T'.heap (locs ++ L) := by
  obtain ⟨hz, hk⟩ := hF
  rw [h0] at hz hk
  exact ⟨by rw [e1]; exact hz, fun q h1 h2 => by rw [e1]; exact hk q h1 h2,
    ⟨Nat.le_trans hS.1 (by rw [e1]; exact hz), fun q h1 h2 => by rw [e1, hk q (Nat.lt_of_lt_of_le h1 hS.1) (fun z => h2 (hA q (Nat.lt_of_lt_of_le h1 hS.1) z))]; exact hS.2.1 q h1 h2, fun q hq => by
      rcases List.mem_append.mp hq with h | h
      · exact hS.2.2 q h
      · exact hf _ (hL q h)⟩⟩
theorem vx_calli {S SX : Type} {post : Int32 → S → Prop} {px : SX → Prop} {B : S → State → Prop} {BX : String → SX → State → Prop} {AX : Nat → Prop} (hr : vx_Run p l e R s m args below meth c H locs cells slots mc ms (F0 m pc ls st0) rest (va_Qi post B A1 a) (vx_X px BX AX) free) (hS : va_S A0 H0 H locs) (hA : ∀ q, q < H.size → A1 q → A0 q) (hf : ∀ q, free q → A0 q) (hAX : ∀ q, q < H.size → AX q → A0 q)
    (kx : ∀ (E : String) (ce : Cell) (q9 : Addr) (u : SX) (t : State) (H1 : Heap) (locs1 : List Loc), t.heap = H1 → s.vm.Alike t.vm → px u → BX E u t → H.size ≤ H1.size → (∀ q : Nat, q < H.size → ¬ AX q → H1[q]? = H[q]?) → va_S A0 H0 H1 locs1 → H1[q9]? = some ce → ce.vm = .none → s.vm.findClass E = some ce.cls → vx_W p l e R s m args below meth c H1 locs1 (cells + mc) (slots + ms) Q (F0 m pc ls rest) q9)
    (kk : ∀ (r : Int32) (u : S) (t : State) (H1 : Heap) (locs1 : List Loc), t.heap = H1 → s.vm.Alike t.vm → post r u → B u t → H.size ≤ H1.size → (∀ q : Nat, q < H.size → ¬ A1 q → H1[q]? = H[q]?) → va_S A0 H0 H1 locs1 → W p l e R s m args below meth c H1 locs1 (cells + mc) (slots + ms) Q (F0 m (pc + 3) ls (.int r :: rest))) : W p l e R s m args below meth c H locs cells slots Q (F0 m pc ls st0) := by
  intro T hT X
  rcases hr T hT X with ⟨v, st₀, t, T', L, h0, X', hL, e1, e2, ⟨⟨r, u, hv, hp, hb⟩, hF⟩, st⟩ | ⟨q, st₀, t, T', L, E, ce, h0, X', hL, e1, e2, ⟨u, hp, hb, hF⟩, hce, hcv, hcl, st⟩
  · cases hv
    obtain ⟨k1, k2, k3⟩ := vx_keep h0 e1 hS hA hf hL hF
    obtain ⟨t2, a1, b1⟩ := kk r u t T'.heap (locs ++ L) e1.symm (by rw [← e2]; exact X'.warmed.alike) hp hb k1 k2 k3 T' rfl X'
    exact ⟨t2, st t2 a1, b1⟩
  · obtain ⟨k1, k2, k3⟩ := vx_keep h0 e1 hS hAX hf hL hF
    obtain ⟨t2, a1, b1⟩ := kx E ce q u t T'.heap (locs ++ L) e1.symm (by rw [← e2]; exact X'.warmed.alike) hp hb k1 k2 k3 (by rw [e1]; exact hce) hcv hcl T' rfl X'
    exact ⟨t2, st.trans a1, b1⟩
theorem vx_calll {S SX : Type} {post : Int64 → S → Prop} {px : SX → Prop} {B : S → State → Prop} {BX : String → SX → State → Prop} {AX : Nat → Prop} (hr : vx_Run p l e R s m args below meth c H locs cells slots mc ms (F0 m pc ls st0) rest (va_Ql post B A1 a) (vx_X px BX AX) free) (hS : va_S A0 H0 H locs) (hA : ∀ q, q < H.size → A1 q → A0 q) (hf : ∀ q, free q → A0 q) (hAX : ∀ q, q < H.size → AX q → A0 q)
    (kx : ∀ (E : String) (ce : Cell) (q9 : Addr) (u : SX) (t : State) (H1 : Heap) (locs1 : List Loc), t.heap = H1 → s.vm.Alike t.vm → px u → BX E u t → H.size ≤ H1.size → (∀ q : Nat, q < H.size → ¬ AX q → H1[q]? = H[q]?) → va_S A0 H0 H1 locs1 → H1[q9]? = some ce → ce.vm = .none → s.vm.findClass E = some ce.cls → vx_W p l e R s m args below meth c H1 locs1 (cells + mc) (slots + ms) Q (F0 m pc ls rest) q9)
    (kk : ∀ (r : Int64) (u : S) (t : State) (H1 : Heap) (locs1 : List Loc), t.heap = H1 → s.vm.Alike t.vm → post r u → B u t → H.size ≤ H1.size → (∀ q : Nat, q < H.size → ¬ A1 q → H1[q]? = H[q]?) → va_S A0 H0 H1 locs1 → W p l e R s m args below meth c H1 locs1 (cells + mc) (slots + ms) Q (F0 m (pc + 3) ls (.long r :: rest))) : W p l e R s m args below meth c H locs cells slots Q (F0 m pc ls st0) := by
  intro T hT X
  rcases hr T hT X with ⟨v, st₀, t, T', L, h0, X', hL, e1, e2, ⟨⟨r, u, hv, hp, hb⟩, hF⟩, st⟩ | ⟨q, st₀, t, T', L, E, ce, h0, X', hL, e1, e2, ⟨u, hp, hb, hF⟩, hce, hcv, hcl, st⟩
  · cases hv
    obtain ⟨k1, k2, k3⟩ := vx_keep h0 e1 hS hA hf hL hF
    obtain ⟨t2, a1, b1⟩ := kk r u t T'.heap (locs ++ L) e1.symm (by rw [← e2]; exact X'.warmed.alike) hp hb k1 k2 k3 T' rfl X'
    exact ⟨t2, st t2 a1, b1⟩
  · obtain ⟨k1, k2, k3⟩ := vx_keep h0 e1 hS hAX hf hL hF
    obtain ⟨t2, a1, b1⟩ := kx E ce q u t T'.heap (locs ++ L) e1.symm (by rw [← e2]; exact X'.warmed.alike) hp hb k1 k2 k3 (by rw [e1]; exact hce) hcv hcl T' rfl X'
    exact ⟨t2, st.trans a1, b1⟩
theorem vx_callf {S SX : Type} {post : UInt32 → S → Prop} {px : SX → Prop} {B : S → State → Prop} {BX : String → SX → State → Prop} {AX : Nat → Prop} (hr : vx_Run p l e R s m args below meth c H locs cells slots mc ms (F0 m pc ls st0) rest (va_Qf post B A1 a) (vx_X px BX AX) free) (hS : va_S A0 H0 H locs) (hA : ∀ q, q < H.size → A1 q → A0 q) (hf : ∀ q, free q → A0 q) (hAX : ∀ q, q < H.size → AX q → A0 q)
    (kx : ∀ (E : String) (ce : Cell) (q9 : Addr) (u : SX) (t : State) (H1 : Heap) (locs1 : List Loc), t.heap = H1 → s.vm.Alike t.vm → px u → BX E u t → H.size ≤ H1.size → (∀ q : Nat, q < H.size → ¬ AX q → H1[q]? = H[q]?) → va_S A0 H0 H1 locs1 → H1[q9]? = some ce → ce.vm = .none → s.vm.findClass E = some ce.cls → vx_W p l e R s m args below meth c H1 locs1 (cells + mc) (slots + ms) Q (F0 m pc ls rest) q9)
    (kk : ∀ (r : UInt32) (u : S) (t : State) (H1 : Heap) (locs1 : List Loc), t.heap = H1 → s.vm.Alike t.vm → post r u → B u t → H.size ≤ H1.size → (∀ q : Nat, q < H.size → ¬ A1 q → H1[q]? = H[q]?) → va_S A0 H0 H1 locs1 → W p l e R s m args below meth c H1 locs1 (cells + mc) (slots + ms) Q (F0 m (pc + 3) ls (.float r :: rest))) : W p l e R s m args below meth c H locs cells slots Q (F0 m pc ls st0) := by
  intro T hT X
  rcases hr T hT X with ⟨v, st₀, t, T', L, h0, X', hL, e1, e2, ⟨⟨r, u, hv, hp, hb⟩, hF⟩, st⟩ | ⟨q, st₀, t, T', L, E, ce, h0, X', hL, e1, e2, ⟨u, hp, hb, hF⟩, hce, hcv, hcl, st⟩
  · cases hv
    obtain ⟨k1, k2, k3⟩ := vx_keep h0 e1 hS hA hf hL hF
    obtain ⟨t2, a1, b1⟩ := kk r u t T'.heap (locs ++ L) e1.symm (by rw [← e2]; exact X'.warmed.alike) hp hb k1 k2 k3 T' rfl X'
    exact ⟨t2, st t2 a1, b1⟩
  · obtain ⟨k1, k2, k3⟩ := vx_keep h0 e1 hS hAX hf hL hF
    obtain ⟨t2, a1, b1⟩ := kx E ce q u t T'.heap (locs ++ L) e1.symm (by rw [← e2]; exact X'.warmed.alike) hp hb k1 k2 k3 (by rw [e1]; exact hce) hcv hcl T' rfl X'
    exact ⟨t2, st.trans a1, b1⟩
theorem vx_calld {S SX : Type} {post : UInt64 → S → Prop} {px : SX → Prop} {B : S → State → Prop} {BX : String → SX → State → Prop} {AX : Nat → Prop} (hr : vx_Run p l e R s m args below meth c H locs cells slots mc ms (F0 m pc ls st0) rest (va_Qd post B A1 a) (vx_X px BX AX) free) (hS : va_S A0 H0 H locs) (hA : ∀ q, q < H.size → A1 q → A0 q) (hf : ∀ q, free q → A0 q) (hAX : ∀ q, q < H.size → AX q → A0 q)
    (kx : ∀ (E : String) (ce : Cell) (q9 : Addr) (u : SX) (t : State) (H1 : Heap) (locs1 : List Loc), t.heap = H1 → s.vm.Alike t.vm → px u → BX E u t → H.size ≤ H1.size → (∀ q : Nat, q < H.size → ¬ AX q → H1[q]? = H[q]?) → va_S A0 H0 H1 locs1 → H1[q9]? = some ce → ce.vm = .none → s.vm.findClass E = some ce.cls → vx_W p l e R s m args below meth c H1 locs1 (cells + mc) (slots + ms) Q (F0 m pc ls rest) q9)
    (kk : ∀ (r : UInt64) (u : S) (t : State) (H1 : Heap) (locs1 : List Loc), t.heap = H1 → s.vm.Alike t.vm → post r u → B u t → H.size ≤ H1.size → (∀ q : Nat, q < H.size → ¬ A1 q → H1[q]? = H[q]?) → va_S A0 H0 H1 locs1 → W p l e R s m args below meth c H1 locs1 (cells + mc) (slots + ms) Q (F0 m (pc + 3) ls (.double r :: rest))) : W p l e R s m args below meth c H locs cells slots Q (F0 m pc ls st0) := by
  intro T hT X
  rcases hr T hT X with ⟨v, st₀, t, T', L, h0, X', hL, e1, e2, ⟨⟨r, u, hv, hp, hb⟩, hF⟩, st⟩ | ⟨q, st₀, t, T', L, E, ce, h0, X', hL, e1, e2, ⟨u, hp, hb, hF⟩, hce, hcv, hcl, st⟩
  · cases hv
    obtain ⟨k1, k2, k3⟩ := vx_keep h0 e1 hS hA hf hL hF
    obtain ⟨t2, a1, b1⟩ := kk r u t T'.heap (locs ++ L) e1.symm (by rw [← e2]; exact X'.warmed.alike) hp hb k1 k2 k3 T' rfl X'
    exact ⟨t2, st t2 a1, b1⟩
  · obtain ⟨k1, k2, k3⟩ := vx_keep h0 e1 hS hAX hf hL hF
    obtain ⟨t2, a1, b1⟩ := kx E ce q u t T'.heap (locs ++ L) e1.symm (by rw [← e2]; exact X'.warmed.alike) hp hb k1 k2 k3 (by rw [e1]; exact hce) hcv hcl T' rfl X'
    exact ⟨t2, st.trans a1, b1⟩
theorem vx_callv {S SX : Type} {post : S → Prop} {px : SX → Prop} {B : S → State → Prop} {BX : String → SX → State → Prop} {AX : Nat → Prop} (hr : vx_Run p l e R s m args below meth c H locs cells slots mc ms (F0 m pc ls st0) rest (va_Qv post B A1 a) (vx_X px BX AX) free) (hS : va_S A0 H0 H locs) (hA : ∀ q, q < H.size → A1 q → A0 q) (hf : ∀ q, free q → A0 q) (hAX : ∀ q, q < H.size → AX q → A0 q)
    (kx : ∀ (E : String) (ce : Cell) (q9 : Addr) (u : SX) (t : State) (H1 : Heap) (locs1 : List Loc), t.heap = H1 → s.vm.Alike t.vm → px u → BX E u t → H.size ≤ H1.size → (∀ q : Nat, q < H.size → ¬ AX q → H1[q]? = H[q]?) → va_S A0 H0 H1 locs1 → H1[q9]? = some ce → ce.vm = .none → s.vm.findClass E = some ce.cls → vx_W p l e R s m args below meth c H1 locs1 (cells + mc) (slots + ms) Q (F0 m pc ls rest) q9)
    (kk : ∀ (u : S) (t : State) (H1 : Heap) (locs1 : List Loc), t.heap = H1 → s.vm.Alike t.vm → post u → B u t → H.size ≤ H1.size → (∀ q : Nat, q < H.size → ¬ A1 q → H1[q]? = H[q]?) → va_S A0 H0 H1 locs1 → W p l e R s m args below meth c H1 locs1 (cells + mc) (slots + ms) Q (F0 m (pc + 3) ls (rest))) : W p l e R s m args below meth c H locs cells slots Q (F0 m pc ls st0) := by
  intro T hT X
  rcases hr T hT X with ⟨v, st₀, t, T', L, h0, X', hL, e1, e2, ⟨⟨u, hv, hp, hb⟩, hF⟩, st⟩ | ⟨q, st₀, t, T', L, E, ce, h0, X', hL, e1, e2, ⟨u, hp, hb, hF⟩, hce, hcv, hcl, st⟩
  · cases hv
    obtain ⟨k1, k2, k3⟩ := vx_keep h0 e1 hS hA hf hL hF
    obtain ⟨t2, a1, b1⟩ := kk u t T'.heap (locs ++ L) e1.symm (by rw [← e2]; exact X'.warmed.alike) hp hb k1 k2 k3 T' rfl X'
    exact ⟨t2, st t2 a1, b1⟩
  · obtain ⟨k1, k2, k3⟩ := vx_keep h0 e1 hS hAX hf hL hF
    obtain ⟨t2, a1, b1⟩ := kx E ce q u t T'.heap (locs ++ L) e1.symm (by rw [← e2]; exact X'.warmed.alike) hp hb k1 k2 k3 (by rw [e1]; exact hce) hcv hcl T' rfl X'
    exact ⟨t2, st.trans a1, b1⟩
/-- caught by the row x of this method's table; the rows ahead don't take it -/
theorem vx_catch {own name : String} {E : String} {ce : Cell} {q : Addr} (hown : s.vm.findClass own = some m.cls) (pre : List ExceptionTableEntry) (x : ExceptionTableEntry) (suf : List ExceptionTableEntry) (hsplit : c.exceptionTable.toList = pre ++ x :: suf)
    (hpass : ∀ z ∈ pre, covers z pc = false ∨ (z.catchType ≠ 0 ∧ ∃ nm : String, (Cond.classLink own z.catchType nm).before args s = true ∧ va_Nc E nm s)) (hx : covers x pc = true) (h0 : x.catchType ≠ 0)
    (hlink : (Cond.classLink own x.catchType name).before args s = true) (hcast : (Cond.castable E name).before args s = true) (hcell : H[q]? = some ce) (hv : ce.vm = .none) (hcl : s.vm.findClass E = some ce.cls)
    (kk : W p l e R s m args below meth c H locs cells slots Q (F0 m x.handlerPc ls [.ref q])) : vx_W p l e R s m args below meth c H locs cells slots Q (F0 m pc ls rest) q := by
  intro T hT X
  have hpl : e.platform.magicAccessors = ({} : Platform).magicAccessors := by rw [X.admits.platform]
  obtain ⟨c3, c4, hc3, hc4, hasg⟩ := Cond.castable_spec hcast
  cases Option.some.inj (hc3.symm.trans hcl)
  obtain ⟨c5, hc5, hcl5⟩ := Cond.classLink_spec hown hlink e.platform hpl
  cases Option.some.inj (hc4.symm.trans hc5)
  obtain ⟨vm', X', st⟩ := X.thenCaughtThrough q (g := F0 m pc ls rest) rfl (Steps.refl _) (by rw [hT]; exact hcell) (by rw [hv]; rfl) (by obtain ⟨k9, h9, -⟩ := Vm.findClass_spec hcl; exact ⟨k9, h9⟩) pre x suf hsplit
    (fun z hz => by
      rcases hpass z hz with h | ⟨hz0, nm, hl1, hn1⟩
      · exact Or.inl h
      · obtain ⟨c6, hc6, hcl6⟩ := Cond.classLink_spec hown hl1 e.platform hpl
        obtain ⟨a8, b8, h1, h2, h3⟩ := hn1
        cases Option.some.inj (h1.symm.trans hcl)
        cases Option.some.inj (h2.symm.trans hc6)
        exact Or.inr ⟨hz0, _, hcl6, h3⟩) hx (Or.inr ⟨h0, c4, hcl5, hasg⟩)
  obtain ⟨t, a1, b1⟩ := kk (T.setVm vm') hT X'
  exact ⟨t, st.trans a1, b1⟩
end Rows
section Ends
variable {p : Program} {l : Launch} {e : Env} {R : Room} {s : State} {m : MethodId} {args : Array Value} {below : List Frame} {meth : Method} {c : Code} {H : Heap} {locs : List Loc} {cells slots : Nat} {Q : State → Prop}
variable {mc ms : Nat} {free : Addr → Prop} {A0 A1 : Nat → Prop} {H0 : Heap} {a : Array Value} {ls : Array Slot} {st0 rest : List Value}
variable {Qc : Array Value → State → Outcome → State → Prop} {XC : String → State → State → Prop}
/-- what a body that may throw owes at its end -/
def vx_MQ (below : List Frame) (Qc : Array Value → State → Outcome → State → Prop) (XC : String → State → State → Prop) (a : Array Value) (s : State) (mc ms : Nat) (free : Addr → Prop) : State → Prop := fun t =>
  ∃ o, t.status = .running ∧ Ended t below o ∧ vx_Q Qc XC mc ms free a s o t
theorem vx_ret {g : JFrame} {mc ms : Nat} (k : W p l e R s m args below meth c H locs cells slots (MQ below Qc args s mc ms free) g) : W p l e R s m args below meth c H locs cells slots (vx_MQ below Qc XC args s mc ms free) g := by
  intro T hT X
  obtain ⟨t, a1, o, b1, b2, b3, b4⟩ := k T hT X
  exact ⟨t, a1, o, b1, b2, Or.inl ⟨b3, b4⟩⟩
/-- not caught here: it goes on to the caller -/
theorem vx_widen {g : JFrame} {q : Addr} {k n : Nat} (h1 : cells ≤ k) (h2 : slots ≤ n) (kk : vx_W p l e R s m args below meth c H locs k n Q g q) : vx_W p l e R s m args below meth c H locs cells slots Q g q := fun T hT X => kk T hT (stand_widen X h1 h2)
theorem vx_out {pc : Nat} {E : String} {ce : Cell} {q : Addr} {mc ms : Nat} (hout : ∀ x ∈ c.exceptionTable.toList, covers x pc = false) (hlocks : meth.locks = false) (hcell : H[q]? = some ce) (hv : ce.vm = .none) (hcl : s.vm.findClass E = some ce.cls)
    (hx : ∀ t : State, t.heap = H → s.vm.Alike t.vm → XC E s t) (hf : ∀ z ∈ locs, free z.base) (hc : cells ≤ mc) (hs : slots ≤ ms) :
    vx_W p l e R s m args below meth c H locs cells slots (vx_MQ below Qc XC args s mc ms free) (F0 m pc ls rest) q := by
  intro T hT X
  obtain ⟨st1, hrun, hend, hW, hsm⟩ := X.leaveThrown q (g := F0 m pc ls rest) rfl rfl rfl hout hlocks
  have hcell9 : (T.setFrames (.throwing q :: below)).heap[q]? = some ce := by
    show T.heap[q]? = some ce
    rw [hT]; exact hcell
  exact ⟨_, st1, .threw q, hrun, hend, Or.inr ⟨q, rfl, E, ce, locs, hx _ hT hW.alike, hcell9, hv, hcl, hW, hsm.mono hc hs, hf⟩⟩
theorem vx_frame {U : State} {k n : Nat} (h : s.sameButNew ({ U with vm := s.vm } : State) locs k n) : s.heap.size ≤ U.heap.size ∧ ∀ q : Nat, q < s.heap.size → (∀ z ∈ locs, z.base ≠ q) → U.heap[q]? = s.heap[q]? := by
  obtain ⟨-, h2, -, -, -, h6⟩ := h
  refine ⟨h2, fun q hq hz => ?_⟩
  obtain ⟨c9, e1, e2, e3, e4⟩ := h6 q _ (Array.getElem?_eq_getElem hq)
  have hs : c9.slots = (s.heap[q]).slots := Array.ext_getElem? fun i => e4 i fun hm => hz _ hm rfl
  have h9 : c9 = s.heap[q] := by
    rw [hs] at e2
    exact e2
  have e5 : U.heap[q]? = some c9 := e1
  rw [e5, h9, Array.getElem?_eq_getElem hq]
/-- the words of a throw but the four that speak of the heap -/
def vx_no (w : Cond) : Bool := decide (w ≠ .isRef (.static Jvm.Bundle.tN "UNASSIGNED_STACK" Jvm.Bundle.steD)) && decide (w ≠ .isRef (.static Jvm.Bundle.tN "SUPPRESSED_SENTINEL" Jvm.Bundle.listD)) && decide (w ≠ .laysStatic Jvm.Bundle.tN "UNASSIGNED_STACK" Jvm.Bundle.steD) && decide (w ≠ .laysStatic Jvm.Bundle.tN "SUPPRESSED_SENTINEL" Jvm.Bundle.listD)
def vx_at0 (own : String) (ic : Nat) (X : String) (names : List String) : List Cond := (Jvm.Bundle.ownAtoms0 own ic X names).filter vx_no
def vx_atS (own : String) (ic : Nat) (X : String) (names : List String) : List Cond := (Jvm.Bundle.ownAtoms own ic X names).filter vx_no
/-- a word that the tables alone decide, or a good one -/
def vx_ot (w : Cond) : Bool := w.onTables || goodWord w
theorem vx_ot_at {args a' : Array Value} {s U : State} {w : Cond} (hW : s.WarmedH U.vm) (hvm : s.vm = U.vm) (hg : vx_ot w = true) (h : w.before args s = true) : w.before a' U = true := by
  simp only [vx_ot, Bool.or_eq_true] at hg
  rcases hg with hg | hg
  · exact va_tabs hg hvm h
  · exact word_at hW (good_of_word hg) h
/-- a list's words: the good ones out of the method's own list, the others by premises of their own -/
theorem vx_hat {args : Array Value} {s : State} {L B : List Cond} (h1 : ∀ w ∈ L.filter goodWord, w.before args s = true) (h2 : ∀ w ∈ L.filter (fun w => !goodWord w), w ∈ B) (h3 : ∀ w ∈ B, w.before args s = true) : ∀ w ∈ L, w.before args s = true := by
  intro w hw
  by_cases g : goodWord w = true
  · exact h1 w (List.mem_filter.mpr ⟨hw, g⟩)
  · refine h3 w (h2 w (List.mem_filter.mpr ⟨hw, ?_⟩))
    show (!goodWord w) = true
    cases hgw : goodWord w
    · rfl
    · exact absurd hgw g
theorem vx_c {args : Array Value} {s : State} {w : Cond} {B : List Cond} (h : w.before args s = true) (t : ∀ w ∈ B, w.before args s = true) : ∀ w' ∈ w :: B, w'.before args s = true := fun w' h' => (List.mem_cons.mp h').elim (fun e => by rw [e]; exact h) (t w')
theorem vx_n {args : Array Value} {s : State} : ∀ w ∈ ([] : List Cond), w.before args s = true := fun _ h => nomatch h
theorem vx_own {args : Array Value} {s : State} {L : List Cond} (h1 : ∀ w ∈ L.filter vx_no, w.before args s = true)
    (hU : (Cond.isRef (.static Jvm.Bundle.tN "UNASSIGNED_STACK" Jvm.Bundle.steD)).before args s = true) (hN : (Cond.isRef (.static Jvm.Bundle.tN "SUPPRESSED_SENTINEL" Jvm.Bundle.listD)).before args s = true)
    (lU : (Cond.laysStatic Jvm.Bundle.tN "UNASSIGNED_STACK" Jvm.Bundle.steD).before args s = true) (lN : (Cond.laysStatic Jvm.Bundle.tN "SUPPRESSED_SENTINEL" Jvm.Bundle.listD).before args s = true) : ∀ w ∈ L, w.before args s = true := by
  intro w hw
  by_cases e1 : w = .isRef (.static Jvm.Bundle.tN "UNASSIGNED_STACK" Jvm.Bundle.steD)
  · rw [e1]; exact hU
  · by_cases e2 : w = .isRef (.static Jvm.Bundle.tN "SUPPRESSED_SENTINEL" Jvm.Bundle.listD)
    · rw [e2]; exact hN
    · by_cases e3 : w = .laysStatic Jvm.Bundle.tN "UNASSIGNED_STACK" Jvm.Bundle.steD
      · rw [e3]; exact lU
      · by_cases e4 : w = .laysStatic Jvm.Bundle.tN "SUPPRESSED_SENTINEL" Jvm.Bundle.listD
        · rw [e4]; exact lN
        · exact h1 w (List.mem_filter.mpr ⟨hw, by unfold vx_no; rw [decide_eq_true e1, decide_eq_true e2, decide_eq_true e3, decide_eq_true e4]; rfl⟩)
/-- where a static field lies, its class's statics cell in H -/
def vx_L (C n d : String) (A : Nat → Prop) (U : State) (H : Heap) : Prop := ∃ (c : ClassId) (k : Class) (i : Nat) (f : Field) (a : Nat) (cell : Cell), U.vm.findClass C = some c ∧ U.fieldFound? C n d = some (c, k, i, f) ∧ f.isStatic = true ∧ k.statics = some a ∧ H[a]? = some cell ∧ cell.vm.isStatics = true ∧ cell.cls = c ∧ f.slot < cell.slots.size ∧ k.staticTypes[f.slot]? = some f.type ∧ ¬ A a
theorem vx_L.moved {C n d : String} {A : Nat → Prop} {u U : State} {H : Heap} (hvm : u.vm.Alike U.vm) (h : vx_L C n d A u H) : vx_L C n d A U H := by
  obtain ⟨c, k, i, f, a, cell, h1, h2, h3, h4, h5, h6, h7, h8, h9, h10⟩ := h
  obtain ⟨k', hi', he⟩ := State.fieldFound?_setVm hvm h2
  exact ⟨c, k', i, f, a, cell, by rw [hvm.findClass]; exact h1, hi', h3, by rw [he]; exact h4, h5, h6, h7, h8, by rw [he]; exact h9, h10⟩
theorem vx_L.kept {C n d : String} {A : Nat → Prop} {U : State} {H H1 : Heap} (h : vx_L C n d A U H) (hq : ∀ a : Nat, a < H.size → ¬ A a → H1[a]? = H[a]?) : vx_L C n d A U H1 := by
  obtain ⟨c, k, i, f, a, cell, h1, h2, h3, h4, h5, h6, h7, h8, h9, h10⟩ := h
  exact ⟨c, k, i, f, a, cell, h1, h2, h3, h4, by rw [hq a (Array.getElem?_eq_some_iff.mp h5).1 h10]; exact h5, h6, h7, h8, h9, h10⟩
theorem vx_L.narrow {C n d : String} {A B : Nat → Prop} {U : State} {H : Heap} (h : vx_L C n d A U H) (hAB : ∀ q, B q → A q) : vx_L C n d B U H := by
  obtain ⟨c, k, i, f, a, cell, h1, h2, h3, h4, h5, h6, h7, h8, h9, h10⟩ := h
  exact ⟨c, k, i, f, a, cell, h1, h2, h3, h4, h5, h6, h7, h8, h9, fun z => h10 (hAB _ z)⟩
theorem vx_L.word {C n d : String} {A : Nat → Prop} {s : State} {args : Array Value} (h : vx_L C n d A s s.heap) : (Cond.laysStatic C n d).before args s = true := by
  obtain ⟨c, k, i, f, a, cell, h1, h2, h3, h4, h5, h6, h7, h8, h9, -⟩ := h
  show (Cond.laysStatic C n d).holds args s none s [] = true
  exact Cond.laysStatic_of h1 h2 h3 h4 h5 h6 h7 h8 h9
/-- .. and what it holds: null or some reference -/
def vx_Zq (C n d : String) (A : Nat → Prop) (U : State) (H : Heap) : Prop := va_Zq C n d A U H ∧ vx_L C n d A U H
theorem vx_Zq.moved {C n d : String} {A : Nat → Prop} {u U : State} {H : Heap} (hvm : u.vm.Alike U.vm) (h : vx_Zq C n d A u H) : vx_Zq C n d A U H := ⟨va_Zq.moved hvm h.1, vx_L.moved hvm h.2⟩
theorem vx_Zq.kept {C n d : String} {A : Nat → Prop} {U : State} {H H1 : Heap} (h : vx_Zq C n d A U H) (hq : ∀ a : Nat, a < H.size → ¬ A a → H1[a]? = H[a]?) : vx_Zq C n d A U H1 := ⟨va_Zq.kept h.1 hq, vx_L.kept h.2 hq⟩
theorem vx_Zq.narrow {C n d : String} {A B : Nat → Prop} {U : State} {H : Heap} (h : vx_Zq C n d A U H) (hAB : ∀ q, B q → A q) : vx_Zq C n d B U H := ⟨va_Zq.narrow h.1 hAB, vx_L.narrow h.2 hAB⟩
theorem vx_Zqof {args : Array Value} {s : State} {C n d : String} {A : Nat → Prop} (hl : (Cond.laysStatic C n d).before args s = true) (hini : (Cond.initialized C).before args s = true) (h : (Cond.isRef (.static C n d)).before args s = true) (hA : ∀ a : Nat, a < s.heap.size → ¬ A a) : vx_Zq C n d A s s.heap := by
  refine ⟨va_Zqof hl hini h hA, ?_⟩
  obtain ⟨c, k, i, f, a, cell, h1, h2, h3, h4, h5, h6, h7, h8, h9⟩ := Cond.laysStatic_spec hl
  exact ⟨c, k, i, f, a, cell, h1, h2, h3, h4, h5, h6, h7, h8, h9, hA a (Array.getElem?_eq_some_iff.mp h5).1⟩
theorem vx_isRef {C n d : String} {v : Value} {A : Nat → Prop} {s : State} {args : Array Value} (h : va_Z C n d v A s s.heap) (hv : v.isRef = true) : (Cond.isRef (.static C n d)).before args s = true := by
  obtain ⟨cf, kf, fi, f, a, cell, h1, h2, h3, h4, h5, h6, h7, -⟩ := h
  have he : (Term.static C n d).eval args s none [] s = some v := by
    simp [Term.eval, State.fieldNamed?, h1, h2, h4, h5, h6, h7]
  simp only [Cond.before, Cond.holds, Cond.value, he]
  cases v <;> simp_all [Value.isRef]
theorem vx_isRefq {C n d : String} {A : Nat → Prop} {s : State} {args : Array Value} (h : va_Zq C n d A s s.heap) : (Cond.isRef (.static C n d)).before args s = true := by
  rcases h with h | ⟨t, h⟩
  · exact vx_isRef h rfl
  · exact vx_isRef h rfl
/-- the same frame, seen from here: as if the method were called anew in this heap -/
theorem vx_rebase {T : State} (X : Stand p l e R s m args below meth c T locs cells slots) {R' : Room} (hf : R'.frames ≤ R.frames) (hl : R'.locals ≤ R.locals) (hc : cells + R'.cells ≤ R.cells) (hs : slots + R'.slots ≤ R.slots) :
    Stand p l e R' ((T.setVm s.vm).setFrames (.invoking m args :: below)) m args below meth c T [] 0 0 := by
  have htop : (T.setVm s.vm).topJava?.isSome := X.here.top
  have hF : ((T.setVm s.vm).setFrames (.invoking m args :: below)).frames = .invoking m args :: below := State.frames_setFrames _ (State.cur_lt_of_top htop)
  obtain ⟨g₀, hg0⟩ := Option.isSome_iff_exists.mp htop
  obtain ⟨r, hr⟩ := State.topJava?_eq_some.mp hg0
  have hl9 : e.platform.stackLimits (T.setVm s.vm).me = e.platform.stackLimits s.me := X.limits
  have hb9 : (T.setVm s.vm).me.stackBytes = s.me.stackBytes := X.bytes
  refine ⟨X.admits, X.cas, X.clock, hF, ?_, X.hears, X.method, X.code, X.here, X.tail, X.warmed, ?_, ?_, ?_⟩
  · have h := X.room
    have hU : ((T.setVm s.vm).setFrames (.invoking m args :: below)).localsInUse = s.localsInUse := by
      rw [State.localsInUse_invoking hF (meth := meth) (c := c) X.method X.code, State.localsInUse_invoking X.frames X.method X.code]
    simp only [State.hasRoom, Bool.and_eq_true, decide_eq_true_eq] at h ⊢
    obtain ⟨⟨⟨⟨h1, h2, h3, h4, h5, h6⟩, h7⟩, h8⟩, h9⟩ := h
    rw [X.frames, List.length_cons] at h2 h3
    have q1 := X.heapSize
    have q2 := X.used
    simp only [hF, hU, List.length_cons, State.stackLimits_setFrames, State.stackBytes_setFrames, hl9, hb9]
    refine ⟨⟨⟨⟨by omega, by omega, by omega, by omega, by omega, h6⟩, ?_⟩, ?_⟩, X.book⟩
    · show T.heap.size + R'.cells ≤ e.platform.maxCells
      omega
    · show T.slotsUsed + R'.slots ≤ e.platform.maxSlots
      omega
  · rw [State.stackLimits_setFrames]; rfl
  · rw [State.stackBytes_setFrames]; rfl
  · refine ⟨?_, Nat.le_refl _, Nat.le_refl _, ?_, ?_, fun a c9 h9 => ⟨c9, h9, rfl, rfl, fun _ _ => rfl⟩⟩
    · obtain ⟨t, ht, -⟩ := State.frames_cons hr
      show T.setVm s.vm = { ((T.setVm s.vm).setFrames (.invoking m args :: below)).setFrames (T.setVm s.vm).frames with heap := T.heap, slotsUsed := T.slotsUsed }
      rw [State.setFrames_setFrames, State.setFrames_self ht]
      rfl
    · show T.slotsUsed = T.slotsUsed + ((T.heap.toList.drop T.heap.size).map (·.slots.size)).sum
      rw [List.drop_eq_nil_of_le (Nat.le_of_eq Array.length_toList)]
      rfl
    · show ((T.heap.toList.drop T.heap.size).map (·.slots.size)).sum ≤ 0
      rw [List.drop_eq_nil_of_le (Nat.le_of_eq Array.length_toList)]
      exact Nat.le_refl _
/-- 'throw new E()': new; dup; invokespecial; athrow -/
theorem vx_throw0 {cc : ByteArray} {pc : Nat} (hexec : p.tables.exec = Jvm.exec) (hb : c.code = cc) (hl : l.stackTraces = false) {own cls : String} {names : List String} {ik ic mc ms : Nat} {A : Nat → Prop}
    (hown : s.vm.findClass own = some m.cls) (hcls : Jvm.Bundle.fit cls = true) (hnames : ∀ n ∈ names, Jvm.Bundle.fit n = true)
    (hk : (Cond.classLink own ik cls).before args s = true) (hini : (Cond.initialized cls).before args s = true) (hat : ∀ w ∈ vx_at0 own ic cls names, w.before args s = true)
    (hgood : ∀ w ∈ Cond.classLink own ik cls :: Cond.initialized cls :: vx_at0 own ic cls names, vx_ot w = true)
    (hU : vx_Zq Jvm.Bundle.tN "UNASSIGNED_STACK" Jvm.Bundle.steD A s s.heap) (hN : vx_Zq Jvm.Bundle.tN "SUPPRESSED_SENTINEL" Jvm.Bundle.listD A s s.heap) (hS : va_S A s.heap H locs) (hsize : ls.size = c.maxLocals)
    (d0 : decode cc pc = .ok (.new ik, 3)) (d3 : decode cc (pc + 3) = .ok (.dup, 1)) (d4 : decode cc (pc + 4) = .ok (.invokespecial ic, 3)) (d7 : decode cc (pc + 7) = .ok (.athrow, 1))
    (hout : ∀ x ∈ c.exceptionTable.toList, covers x (pc + 7) = false)
    (hRframes : names.length + 3 < R.frames) (hRlocals : (rest.map fun v => v.category).sum + (13 * (names.length + 1) + 42) ≤ R.locals) (hRcells : cells + 1 ≤ R.cells) (hRslots : slots + 6 ≤ R.slots) (hlocks : meth.locks = false)
    (hx : ∀ t : State, s.vm.Alike t.vm → H.size ≤ t.heap.size → (∀ q : Nat, q < H.size → t.heap[q]? = H[q]?) → XC cls s t)
    (hf : ∀ z ∈ locs, free z.base) (hc : cells + 1 ≤ mc) (hs : slots + 6 ≤ ms) :
    W p l e R s m args below meth c H locs cells slots (vx_MQ below Qc XC args s mc ms free) (F0 m pc ls rest) := by
  intro T hT X
  have htr : e.platform.stackTraces = false := (show e.platform.stackTraces = l.stackTraces by rw [X.admits.platform]).trans hl
  have Y := vx_rebase X (R' := { frames := R.frames, locals := R.locals, cells := 1, slots := 6 }) (Nat.le_refl _) (Nat.le_refl _) hRcells hRslots
  obtain ⟨s', hA⟩ : ∃ z, z = (T.setVm s.vm).setFrames (.invoking m args :: below) := ⟨_, rfl⟩
  rw [← hA] at Y
  have hvm : s'.vm = s.vm := by rw [hA]; rfl
  have hhp : s'.heap = H := by rw [hA]; exact hT
  have hW0 : s.WarmedH s'.vm := by rw [hvm]; exact State.WarmedH.refl s
  have hat' : ∀ w ∈ vx_at0 own ic cls names, w.before args s' = true := fun w hw => vx_ot_at hW0 hvm.symm (hgood w (List.mem_cons_of_mem _ (List.mem_cons_of_mem _ hw))) (hat w hw)
  have hk' : (Cond.classLink own ik cls).before args s' = true := vx_ot_at hW0 hvm.symm (hgood _ List.mem_cons_self) hk
  have hini' : (Cond.initialized cls).before args s' = true := vx_ot_at hW0 hvm.symm (hgood _ (List.mem_cons_of_mem _ List.mem_cons_self)) hini
  have hU' : vx_Zq Jvm.Bundle.tN "UNASSIGNED_STACK" Jvm.Bundle.steD A s' s'.heap := by rw [hhp]; exact vx_Zq.moved hW0.alike (hU.kept hS.2.1)
  have hN' : vx_Zq Jvm.Bundle.tN "SUPPRESSED_SENTINEL" Jvm.Bundle.listD A s' s'.heap := by rw [hhp]; exact vx_Zq.moved hW0.alike (hN.kept hS.2.1)
  have h : ∀ w ∈ Jvm.Bundle.ownAtoms0 own ic cls names, w.before args s' = true := vx_own hat' (vx_isRefq hU'.1) (vx_isRefq hN'.1) hU'.2.word hN'.2.word
  have hown' : s'.vm.findClass own = some m.cls := by rw [hvm]; exact hown
  have hins : (Cond.instantiable cls 6).before args s' = true := h _ (by simp [Jvm.Bundle.ownAtoms0])
  obtain ⟨vm₁, cX, kX, hfX, hkX, -, -, X₁, st1⟩ := Y.newCold hexec (own := own) (C := cls) (index := ik) (n := 6) hown' hk' hins hini'
    (g := F0 m pc ls rest) rfl (by rw [hb]; exact d0) (Nat.le_refl _) (Nat.le_refl _)
  generalize hT1 : (T.setVm vm₁).pushCell { cls := cX, slots := kX.instanceTypes.map defaultValue, vm := .none } = T1 at X₁ st1
  have hcat : (Value.ref T.heap.size).category = 1 := rfl
  have hcellA : T1.heap[T.heap.size]? = some (freshCell cX kX) := by rw [← hT1]; exact State.heap_pushCell_size _ _
  have d3' : decode c.code (pc + 3) = .ok (.dup, 1) := by rw [hb]; exact d3
  obtain ⟨U, hsteps, hrun, hend, hW, hsame, ce, hce, hO⟩ := X₁.ctorThrow0 hexec htr (own := own) (cls := cls) (names := names) (ic := ic) hown' hcls hnames h (fun x hx => nomatch hx) hfX hkX hcellA (by rw [hhp, hT]; exact Nat.le_refl _)
    (g := { method := m, pc := pc + 4, locals := ls, stack := .ref T.heap.size :: .ref T.heap.size :: rest, locked := none }) rfl hsize rfl rfl (rest := rest) rfl
    (by rw [hb]; exact d4) (by rw [hb]; exact d7) hout hRframes (by simp only [List.map_cons, List.sum_cons, hcat]; omega) hlocks
  obtain ⟨f1, f2⟩ := vx_frame hsame
  rw [hhp] at f1 f2
  have hWs : s.WarmedH U.vm := State.WarmedH.trans hW0 hW
  have hcl : s.vm.findClass cls = some ce.cls := by
    have h9 := hO.cls
    rw [hvm] at h9
    exact h9
  have hall : s.sameButNew ({ U with vm := s.vm } : State) locs mc ms := by
    subst hA
    obtain ⟨e1, e2⟩ := hsame
    rw [State.setFrames_setFrames] at e1
    have h2 : (T.setVm s.vm).sameButNew ({ U with vm := s.vm } : State) [] (0 + 1) (0 + 6) := ⟨e1, e2⟩
    have h3 := X.same.trans h2
    rw [List.append_nil] at h3
    exact h3.mono hc hs
  refine ⟨U, ?_, .threw T.heap.size, hrun, hend, Or.inr ⟨T.heap.size, rfl, cls, ce, locs, hx U hWs.alike f1 (fun q hq => f2 q hq (fun z hz => nomatch hz)), hce, hO.vm, hcl, hWs, hall, hf⟩⟩
  refine st1 _ ?_
  show Steps p.tables e below (T1.setTop { method := m, pc := pc + 3, locals := ls, stack := .ref T.heap.size :: rest, locked := none }) _
  jvm_step X₁.here [X₁.here.top, hexec, d3', Value.category]
  exact hsteps
/-- 'throw new E("text")': new; dup; ldc; invokespecial; athrow -/
theorem vx_throwS {cc : ByteArray} {pc : Nat} (hexec : p.tables.exec = Jvm.exec) (hb : c.code = cc) (hl : l.stackTraces = false) {own cls text : String} {names : List String} {ik is ic mc ms sa : Nat} {A : Nat → Prop}
    (hown : s.vm.findClass own = some m.cls) (hcls : Jvm.Bundle.fit cls = true) (hnames : ∀ n ∈ names, Jvm.Bundle.fit n = true)
    (hk : (Cond.classLink own ik cls).before args s = true) (hini : (Cond.initialized cls).before args s = true) (hstr : vk_R own is text sa s) (hat : ∀ w ∈ vx_atS own ic cls names, w.before args s = true)
    (hgood : ∀ w ∈ Cond.classLink own ik cls :: Cond.initialized cls :: vx_atS own ic cls names, vx_ot w = true)
    (hU : vx_Zq Jvm.Bundle.tN "UNASSIGNED_STACK" Jvm.Bundle.steD A s s.heap) (hN : vx_Zq Jvm.Bundle.tN "SUPPRESSED_SENTINEL" Jvm.Bundle.listD A s s.heap) (hS : va_S A s.heap H locs) (hsize : ls.size = c.maxLocals)
    (d0 : decode cc pc = .ok (.new ik, 3)) (d3 : decode cc (pc + 3) = .ok (.dup, 1)) (d4 : decode cc (pc + 4) = .ok (.ldc is, 2)) (d6 : decode cc (pc + 6) = .ok (.invokespecial ic, 3)) (d9 : decode cc (pc + 9) = .ok (.athrow, 1))
    (hout : ∀ x ∈ c.exceptionTable.toList, covers x (pc + 9) = false)
    (hRframes : names.length + 3 < R.frames) (hRlocals : (rest.map fun v => v.category).sum + (13 * (names.length + 1) + 43) ≤ R.locals) (hRcells : cells + 1 ≤ R.cells) (hRslots : slots + 6 ≤ R.slots) (hlocks : meth.locks = false)
    (hx : ∀ t : State, s.vm.Alike t.vm → H.size ≤ t.heap.size → (∀ q : Nat, q < H.size → t.heap[q]? = H[q]?) → XC cls s t)
    (hf : ∀ z ∈ locs, free z.base) (hc : cells + 1 ≤ mc) (hs : slots + 6 ≤ ms) :
    W p l e R s m args below meth c H locs cells slots (vx_MQ below Qc XC args s mc ms free) (F0 m pc ls rest) := by
  intro T hT X
  have htr : e.platform.stackTraces = false := (show e.platform.stackTraces = l.stackTraces by rw [X.admits.platform]).trans hl
  have Y := vx_rebase X (R' := { frames := R.frames, locals := R.locals, cells := 1, slots := 6 }) (Nat.le_refl _) (Nat.le_refl _) hRcells hRslots
  obtain ⟨s', hA⟩ : ∃ z, z = (T.setVm s.vm).setFrames (.invoking m args :: below) := ⟨_, rfl⟩
  rw [← hA] at Y
  have hvm : s'.vm = s.vm := by rw [hA]; rfl
  have hhp : s'.heap = H := by rw [hA]; exact hT
  have hW0 : s.WarmedH s'.vm := by rw [hvm]; exact State.WarmedH.refl s
  have hat' : ∀ w ∈ vx_atS own ic cls names, w.before args s' = true := fun w hw => vx_ot_at hW0 hvm.symm (hgood w (List.mem_cons_of_mem _ (List.mem_cons_of_mem _ hw))) (hat w hw)
  have hk' : (Cond.classLink own ik cls).before args s' = true := vx_ot_at hW0 hvm.symm (hgood _ List.mem_cons_self) hk
  have hini' : (Cond.initialized cls).before args s' = true := vx_ot_at hW0 hvm.symm (hgood _ (List.mem_cons_of_mem _ List.mem_cons_self)) hini
  have hU' : vx_Zq Jvm.Bundle.tN "UNASSIGNED_STACK" Jvm.Bundle.steD A s' s'.heap := by rw [hhp]; exact vx_Zq.moved hW0.alike (hU.kept hS.2.1)
  have hN' : vx_Zq Jvm.Bundle.tN "SUPPRESSED_SENTINEL" Jvm.Bundle.listD A s' s'.heap := by rw [hhp]; exact vx_Zq.moved hW0.alike (hN.kept hS.2.1)
  have h : ∀ w ∈ Jvm.Bundle.ownAtoms own ic cls names, w.before args s' = true := vx_own hat' (vx_isRefq hU'.1) (vx_isRefq hN'.1) hU'.2.word hN'.2.word
  have hown' : s'.vm.findClass own = some m.cls := by rw [hvm]; exact hown
  have hins : (Cond.instantiable cls 6).before args s' = true := h _ (by simp [Jvm.Bundle.ownAtoms])
  obtain ⟨vm₁, cX, kX, hfX, hkX, -, -, X₁, st1⟩ := Y.newCold hexec (own := own) (C := cls) (index := ik) (n := 6) hown' hk' hins hini'
    (g := F0 m pc ls rest) rfl (by rw [hb]; exact d0) (Nat.le_refl _) (Nat.le_refl _)
  generalize hT1 : (T.setVm vm₁).pushCell { cls := cX, slots := kX.instanceTypes.map defaultValue, vm := .none } = T1 at X₁ st1
  have hcat : (Value.ref T.heap.size).category = 1 := rfl
  have hcellA : T1.heap[T.heap.size]? = some (freshCell cX kX) := by rw [← hT1]; exact State.heap_pushCell_size _ _
  have d3' : decode c.code (pc + 3) = .ok (.dup, 1) := by rw [hb]; exact d3
  have d4' : decode c.code (pc + 4) = .ok (.ldc is, 2) := by rw [hb]; exact d4
  have hstr' : vk_R own is text sa s' := vk_R.warm hW0 hstr
  obtain ⟨U, hsteps, hrun, hend, hW, hsame, ce, hce, hO⟩ := X₁.ctorThrowS hexec htr (own := own) (cls := cls) (names := names) (ic := ic) hown' hcls hnames h (fun x hx => nomatch hx) hfX hkX hcellA (by rw [hhp, hT]; exact Nat.le_refl _) (msg := .ref sa) rfl
    (g := { method := m, pc := pc + 6, locals := ls, stack := .ref sa :: .ref T.heap.size :: .ref T.heap.size :: rest, locked := none }) rfl hsize rfl rfl (rest := rest) rfl
    (by rw [hb]; exact d6) (by rw [hb]; exact d9) hout hRframes (by simp only [List.map_cons, List.sum_cons, hcat]; omega) hlocks
  obtain ⟨f1, f2⟩ := vx_frame hsame
  rw [hhp] at f1 f2
  have hWs : s.WarmedH U.vm := State.WarmedH.trans hW0 hW
  have hcl : s.vm.findClass cls = some ce.cls := by
    have h9 := hO.cls
    rw [hvm] at h9
    exact h9
  have hall : s.sameButNew ({ U with vm := s.vm } : State) locs mc ms := by
    subst hA
    obtain ⟨e1, e2⟩ := hsame
    rw [State.setFrames_setFrames] at e1
    have h2 : (T.setVm s.vm).sameButNew ({ U with vm := s.vm } : State) [] (0 + 1) (0 + 6) := ⟨e1, e2⟩
    have h3 := X.same.trans h2
    rw [List.append_nil] at h3
    exact h3.mono hc hs
  refine ⟨U, ?_, .threw T.heap.size, hrun, hend, Or.inr ⟨T.heap.size, rfl, cls, ce, locs, hx U hWs.alike f1 (fun q hq => f2 q hq (fun z hz => nomatch hz)), hce, hO.vm, hcl, hWs, hall, hf⟩⟩
  refine st1 _ ?_
  show Steps p.tables e below (T1.setTop { method := m, pc := pc + 3, locals := ls, stack := .ref T.heap.size :: rest, locked := none }) _
  jvm_step X₁.here [X₁.here.top, hexec, d3', Value.category]
  exact X₁.ldcString hexec (own := own) (text := text) (index := is) (a := sa) hown' hstr'.1 hstr'.2
    (g := { method := m, pc := pc + 4, locals := ls, stack := .ref T.heap.size :: .ref T.heap.size :: rest, locked := none }) rfl d4' _ hsteps
/-- 'throw new E("text")', the text by a wide index -/
theorem vx_throwSW {cc : ByteArray} {pc : Nat} (hexec : p.tables.exec = Jvm.exec) (hb : c.code = cc) (hl : l.stackTraces = false) {own cls text : String} {names : List String} {ik is ic mc ms sa : Nat} {A : Nat → Prop}
    (hown : s.vm.findClass own = some m.cls) (hcls : Jvm.Bundle.fit cls = true) (hnames : ∀ n ∈ names, Jvm.Bundle.fit n = true)
    (hk : (Cond.classLink own ik cls).before args s = true) (hini : (Cond.initialized cls).before args s = true) (hstr : vk_R own is text sa s) (hat : ∀ w ∈ vx_atS own ic cls names, w.before args s = true)
    (hgood : ∀ w ∈ Cond.classLink own ik cls :: Cond.initialized cls :: vx_atS own ic cls names, vx_ot w = true)
    (hU : vx_Zq Jvm.Bundle.tN "UNASSIGNED_STACK" Jvm.Bundle.steD A s s.heap) (hN : vx_Zq Jvm.Bundle.tN "SUPPRESSED_SENTINEL" Jvm.Bundle.listD A s s.heap) (hS : va_S A s.heap H locs) (hsize : ls.size = c.maxLocals)
    (d0 : decode cc pc = .ok (.new ik, 3)) (d3 : decode cc (pc + 3) = .ok (.dup, 1)) (d4 : decode cc (pc + 4) = .ok (.ldc_w is, 3)) (d7 : decode cc (pc + 7) = .ok (.invokespecial ic, 3)) (d10 : decode cc (pc + 10) = .ok (.athrow, 1))
    (hout : ∀ x ∈ c.exceptionTable.toList, covers x (pc + 10) = false)
    (hRframes : names.length + 3 < R.frames) (hRlocals : (rest.map fun v => v.category).sum + (13 * (names.length + 1) + 43) ≤ R.locals) (hRcells : cells + 1 ≤ R.cells) (hRslots : slots + 6 ≤ R.slots) (hlocks : meth.locks = false)
    (hx : ∀ t : State, s.vm.Alike t.vm → H.size ≤ t.heap.size → (∀ q : Nat, q < H.size → t.heap[q]? = H[q]?) → XC cls s t)
    (hf : ∀ z ∈ locs, free z.base) (hc : cells + 1 ≤ mc) (hs : slots + 6 ≤ ms) :
    W p l e R s m args below meth c H locs cells slots (vx_MQ below Qc XC args s mc ms free) (F0 m pc ls rest) := by
  intro T hT X
  have htr : e.platform.stackTraces = false := (show e.platform.stackTraces = l.stackTraces by rw [X.admits.platform]).trans hl
  have Y := vx_rebase X (R' := { frames := R.frames, locals := R.locals, cells := 1, slots := 6 }) (Nat.le_refl _) (Nat.le_refl _) hRcells hRslots
  obtain ⟨s', hA⟩ : ∃ z, z = (T.setVm s.vm).setFrames (.invoking m args :: below) := ⟨_, rfl⟩
  rw [← hA] at Y
  have hvm : s'.vm = s.vm := by rw [hA]; rfl
  have hhp : s'.heap = H := by rw [hA]; exact hT
  have hW0 : s.WarmedH s'.vm := by rw [hvm]; exact State.WarmedH.refl s
  have hat' : ∀ w ∈ vx_atS own ic cls names, w.before args s' = true := fun w hw => vx_ot_at hW0 hvm.symm (hgood w (List.mem_cons_of_mem _ (List.mem_cons_of_mem _ hw))) (hat w hw)
  have hk' : (Cond.classLink own ik cls).before args s' = true := vx_ot_at hW0 hvm.symm (hgood _ List.mem_cons_self) hk
  have hini' : (Cond.initialized cls).before args s' = true := vx_ot_at hW0 hvm.symm (hgood _ (List.mem_cons_of_mem _ List.mem_cons_self)) hini
  have hU' : vx_Zq Jvm.Bundle.tN "UNASSIGNED_STACK" Jvm.Bundle.steD A s' s'.heap := by rw [hhp]; exact vx_Zq.moved hW0.alike (hU.kept hS.2.1)
  have hN' : vx_Zq Jvm.Bundle.tN "SUPPRESSED_SENTINEL" Jvm.Bundle.listD A s' s'.heap := by rw [hhp]; exact vx_Zq.moved hW0.alike (hN.kept hS.2.1)
  have h : ∀ w ∈ Jvm.Bundle.ownAtoms own ic cls names, w.before args s' = true := vx_own hat' (vx_isRefq hU'.1) (vx_isRefq hN'.1) hU'.2.word hN'.2.word
  have hown' : s'.vm.findClass own = some m.cls := by rw [hvm]; exact hown
  have hins : (Cond.instantiable cls 6).before args s' = true := h _ (by simp [Jvm.Bundle.ownAtoms])
  obtain ⟨vm₁, cX, kX, hfX, hkX, -, -, X₁, st1⟩ := Y.newCold hexec (own := own) (C := cls) (index := ik) (n := 6) hown' hk' hins hini'
    (g := F0 m pc ls rest) rfl (by rw [hb]; exact d0) (Nat.le_refl _) (Nat.le_refl _)
  generalize hT1 : (T.setVm vm₁).pushCell { cls := cX, slots := kX.instanceTypes.map defaultValue, vm := .none } = T1 at X₁ st1
  have hcat : (Value.ref T.heap.size).category = 1 := rfl
  have hcellA : T1.heap[T.heap.size]? = some (freshCell cX kX) := by rw [← hT1]; exact State.heap_pushCell_size _ _
  have d3' : decode c.code (pc + 3) = .ok (.dup, 1) := by rw [hb]; exact d3
  have d4' : decode c.code (pc + 4) = .ok (.ldc_w is, 3) := by rw [hb]; exact d4
  have hstr' : vk_R own is text sa s' := vk_R.warm hW0 hstr
  obtain ⟨U, hsteps, hrun, hend, hW, hsame, ce, hce, hO⟩ := X₁.ctorThrowS hexec htr (own := own) (cls := cls) (names := names) (ic := ic) hown' hcls hnames h (fun x hx => nomatch hx) hfX hkX hcellA (by rw [hhp, hT]; exact Nat.le_refl _) (msg := .ref sa) rfl
    (g := { method := m, pc := pc + 7, locals := ls, stack := .ref sa :: .ref T.heap.size :: .ref T.heap.size :: rest, locked := none }) rfl hsize rfl rfl (rest := rest) rfl
    (by rw [hb]; exact d7) (by rw [hb]; exact d10) hout hRframes (by simp only [List.map_cons, List.sum_cons, hcat]; omega) hlocks
  obtain ⟨f1, f2⟩ := vx_frame hsame
  rw [hhp] at f1 f2
  have hWs : s.WarmedH U.vm := State.WarmedH.trans hW0 hW
  have hcl : s.vm.findClass cls = some ce.cls := by
    have h9 := hO.cls
    rw [hvm] at h9
    exact h9
  have hall : s.sameButNew ({ U with vm := s.vm } : State) locs mc ms := by
    subst hA
    obtain ⟨e1, e2⟩ := hsame
    rw [State.setFrames_setFrames] at e1
    have h2 : (T.setVm s.vm).sameButNew ({ U with vm := s.vm } : State) [] (0 + 1) (0 + 6) := ⟨e1, e2⟩
    have h3 := X.same.trans h2
    rw [List.append_nil] at h3
    exact h3.mono hc hs
  refine ⟨U, ?_, .threw T.heap.size, hrun, hend, Or.inr ⟨T.heap.size, rfl, cls, ce, locs, hx U hWs.alike f1 (fun q hq => f2 q hq (fun z hz => nomatch hz)), hce, hO.vm, hcl, hWs, hall, hf⟩⟩
  refine st1 _ ?_
  show Steps p.tables e below (T1.setTop { method := m, pc := pc + 3, locals := ls, stack := .ref T.heap.size :: rest, locked := none }) _
  jvm_step X₁.here [X₁.here.top, hexec, d3', Value.category]
  exact X₁.ldcStringW hexec (own := own) (text := text) (index := is) (a := sa) hown' hstr'.1 hstr'.2
    (g := { method := m, pc := pc + 4, locals := ls, stack := .ref T.heap.size :: .ref T.heap.size :: rest, locked := none }) rfl d4' _ hsteps
end Ends
section Bodies
variable {l : Launch}
theorem vx_ofW {y : MethodName} {ws ws' : List Cond} {rm : Room} {Pc : Array Value → State → Prop} {Qc : Array Value → State → Outcome → State → Prop} {XC : String → State → State → Prop} {mc ms : Nat} {free : Addr → Prop} {cc : ByteArray} {maxL : Nat} {ret : Option FieldType}
    (hy : plainName y.cls = true) (hw : ws = Cond.code y cc maxL ret :: ws')
    (body : ∀ p e s m args below meth c s₁, BodyLoose p l y (headSpec ws rm) cc maxL ret e s m args below meth c s₁ → c.maxLocals = maxL → (∀ x ∈ c.exceptionTable.toList, False) → Pc args s →
      W p l e (headSpec ws rm).room s m args below meth c s.heap [] 0 0 (vx_MQ below Qc XC args s mc ms free) (entryFrame m args maxL)) : vx_Met l y ws rm Pc Qc XC mc ms free := by
  refine MetFree.of_bodyS (code := cc) (maxLocals := maxL) (ret := ret) hy ?_ ?_
  · intro args s m h hn
    obtain ⟨meth, c, h1, h2, h3, h4, h5, h6, -, -⟩ := Cond.code_spec hn (atoms_spec (ws := ws) h _ (by rw [hw]; exact List.mem_cons_self))
    exact ⟨meth, c, h1, h2, h3, h4, h5, h6⟩
  · intro p e s m args below meth c s₁ B hml hP _
    have hh0 : s₁.heap = s.heap := by rw [B.state]; rfl
    have ht : ∀ x ∈ c.exceptionTable.toList, False := by
      obtain ⟨meth9, c9, h1, h2, -, -, -, -, h7, -⟩ := Cond.code_spec B.named (atoms_spec (ws := ws) B.pre _ (by rw [hw]; exact List.mem_cons_self))
      cases Option.some.inj (h1.symm.trans B.method)
      cases Option.some.inj (h2.symm.trans (Stand.of_body B).code)
      intro x hx
      rw [Array.isEmpty_iff.mp h7] at hx
      cases hx
    obtain ⟨t, a1, o, b1, b2, b3⟩ := body p e s m args below meth c s₁ B hml ht hP s₁ hh0 (Stand.of_body B)
    exact ⟨t, o, a1, b1, b2, b3⟩
/-- the table of a body with handlers -/
theorem vx_table {p : Program} {x y : MethodName} {S : Spec} {cc bytes : ByteArray} {maxL maxL' : Nat} {ret ret' : Option FieldType} {e : Env} {s s₁ : State} {m : MethodId} {args : Array Value} {below : List Frame} {meth : Method} {c : Code} {hh : List (Nat × Nat × Nat × Nat)}
    (B : BodyLoose p l y S cc maxL ret e s m args below meth c s₁) (h : (Cond.codeWith y bytes maxL' ret' hh).before args s = true) : c.exceptionTable.toList = tableOf hh := by
  obtain ⟨m9, meth9, c9, hn9, h1, h2, -, -, h6, -⟩ := Cond.codeWith_spec h
  cases Option.some.inj (hn9.symm.trans B.named)
  cases Option.some.inj (h1.symm.trans B.method)
  cases Option.some.inj (h2.symm.trans (Stand.of_body B).code)
  rw [← h6, table_eq]
end Bodies
end VXA
/-! ===== END ===== -/
/-! ===== BEGIN a static call of a method with an exception table ===== -/
section VXS
variable {p : Program} {l : Launch} {e : Env} {R : Room} {s : State} {m : MethodId} {args : Array Value} {below : List Frame} {meth : Method} {c : Code} {T : State} {H : Heap} {locs : List Loc} {cells slots : Nat}
abbrev vx_CSW (R : Room) (s : State) (args : Array Value) (own : String) (index : Nat) (y : MethodName) (bytes : ByteArray) (maxL : Nat) (ret : Option FieldType) (hh : List (Nat × Nat × Nat × Nat)) (ws : List Cond) (rm : Room) (mc ms n : Nat) : Prop :=
  (rm.cells = mc ∧ rm.slots = ms ∧ rm.frames + 1 ≤ R.frames ∧ 8 + (maxL + 11) + rm.locals ≤ R.locals ∧ (∀ w ∈ ws, ∀ (a' : Array Value) (U : State), s.WarmedH U.vm → w.before a' U = true) ∧ Cond.codeWith y bytes maxL ret hh ∈ ws) ∧
  (Cond.codeWith y bytes maxL ret hh).before args s = true ∧ (Cond.initialized y.cls).before args s = true ∧ (y.cls ≠ "java/lang/invoke/MethodHandle" ∧ y.cls ≠ "java/lang/invoke/VarHandle") ∧
  (∀ sig, parseMethodDescriptor y.desc = some sig → n = sig.parameters.length) ∧ (Cond.methodLink own index y).before args s = true ∧ (Cond.static y).before args s = true
theorem vx_cwSW {own : String} {index maxL mc ms : Nat} {y : MethodName} {bytes : ByteArray} {ret : Option FieldType} {hh : List (Nat × Nat × Nat × Nat)} {Ts ws ws' : List Cond} {rm : Room} (n : Nat) (ht : ∀ w ∈ Ts, w.before args s = true) (hT : GoodIn Ts (va_wsS own index y ws)) (hw : ws = Cond.codeWith y bytes maxL ret hh :: ws') (hrc : rm.cells = mc) (hrs : rm.slots = ms)
    (hd : y.cls ≠ "java/lang/invoke/MethodHandle" ∧ y.cls ≠ "java/lang/invoke/VarHandle" ∧ (parseMethodDescriptor y.desc).map (fun d => d.parameters.length) = some n) (hR : rm.frames + 1 ≤ R.frames ∧ 8 + (maxL + 11) + rm.locals ≤ R.locals) :
    vx_CSW R s args own index y bytes maxL ret hh ws rm mc ms n := by
  have ok : ∀ w ∈ va_wsS own index y ws, w.before args s = true := fun w h => ht w (hT w h).1
  have hG : GoodIn Ts ws := fun w h => hT w (by unfold va_wsS; exact List.mem_append_right _ h)
  have hc : Cond.codeWith y bytes maxL ret hh ∈ ws := by rw [hw]; exact List.mem_cons_self
  refine ⟨⟨hrc, hrs, hR.1, hR.2, pay_in ht hG, hc⟩, ht _ (hG _ hc).1, ok _ (by simp [va_wsS]), ⟨hd.1, hd.2.1⟩, fun sig h => ?_, ok _ (by simp [va_wsS]), ok _ (by simp [va_wsS])⟩
  have h2 := hd.2.2
  rw [h] at h2
  exact (Option.some.inj h2).symm
theorem vx_callSW (X : Stand p l e R s m args below meth c T locs cells slots) (hexec : p.tables.exec = Jvm.exec) {own : String} {index : Nat} {y : MethodName} {bytes : ByteArray} {maxL : Nat} {ret : Option FieldType} {hh : List (Nat × Nat × Nat × Nat)}
    (hown : s.vm.findClass own = some m.cls) (hlink : (Cond.methodLink own index y).before args s = true) (hstat : (Cond.static y).before args s = true) (hinit : (Cond.initialized y.cls).before args s = true)
    (hcode : (Cond.codeWith y bytes maxL ret hh).before args s = true) (hy : y.cls ≠ "java/lang/invoke/MethodHandle" ∧ y.cls ≠ "java/lang/invoke/VarHandle")
    {W9 : Nat} {Pre : Pt → Array Value → Prop} {Post : Pt → Array Value → Option Value → Pt → Prop} (hK : Back l R p e below s args y 3 W9 Pre Post)
    {g : JFrame} (hg : g.method = m) (hsize : g.locals.size = c.maxLocals) {argsL rest : List Value} (hlen : ∀ sig, parseMethodDescriptor y.desc = some sig → argsL.length = sig.parameters.length)
    (hstack : g.stack = argsL.reverse ++ rest) (hW : 2 * g.monitorRoom + (rest.map fun v => v.category).sum ≤ W9) (hdg : decode c.code g.pc = .ok (.invokestatic index, 3))
    (hpre : ∀ vm₁, s.WarmedH vm₁ → Pre ⟨T.setVm vm₁, locs, cells, slots⟩ argsL.toArray) :
    ∃ (v : Option Value) (vm₁ : Vm) (B : Pt), s.WarmedH vm₁ ∧ Stand p l e R s m args below meth c B.U B.locs B.cells B.slots ∧ Post ⟨T.setVm vm₁, locs, cells, slots⟩ argsL.toArray v B ∧
      ∀ target, Steps p.tables e below (B.U.setTop { g with pc := g.pc + 3, stack := v.toList ++ rest }) target → Steps p.tables e below (T.setTop g) target := by
  obtain ⟨mk, methM, cM, hnamed, hmethM, -, -, -, -, -, -, hsigM⟩ := Cond.codeWith_spec hcode
  have hstatic : methM.isStatic = true := Cond.static_spec hnamed hmethM hstat
  obtain ⟨kP, hkP, -⟩ := className_of_methodNamed hnamed
  have hinitP : kP.init = .initialized := Cond.initialized_spec (findClass_of_methodNamed hnamed) hkP hinit
  obtain ⟨vm₁, X₁, hstep₁⟩ := X.invokestatic hexec hown hlink hnamed hmethM hstatic hkP hinitP hy (g := g) hg (argsL := argsL) (rest := rest) (hlen _ hsigM) hstack hdg
  obtain ⟨v, B, X', hpost, hsteps⟩ := hK m meth c ⟨T.setVm vm₁, locs, cells, slots⟩ { g with stack := rest } (.invokestatic index) mk argsL.toArray X₁ hg hsize hdg hW (X₁.named hnamed) (hpre vm₁ X₁.warmed)
  exact ⟨v, vm₁, B, X₁.warmed, X', hpost, fun target h => hstep₁ _ fun acts => by rw [doInvoke_state]; exact hsteps.trans h⟩
theorem vx_runSW {y : MethodName} {bytes cc : ByteArray} {maxL nL mc ms n index : Nat} {ret : Option FieldType} {hh : List (Nat × Nat × Nat × Nat)} {ws : List Cond} {rm : Room} {Pc : Array Value → State → Prop} {Qc : Array Value → State → Outcome → State → Prop} {free : Addr → Prop} {Ts : List Cond} {own : String} {As rest : List Value} {g : JFrame}
    (S : CallFix p m c cc nL s args Ts own) (hM : Met l y ws rm Pc Qc mc ms free) (cw : vx_CSW R s args own index y bytes maxL ret hh ws rm mc ms n) (hp : PreS s H Pc As)
    (hg : g.method = m) (hn : As.length = n) (hsize : g.locals.size = nL) (hstack : g.stack = As.reverse ++ rest) (hW : 2 * g.monitorRoom + (rest.map fun v => v.category).sum ≤ 8) (hdg : decode cc g.pc = .ok (.invokestatic index, 3)) (hf : cells + mc ≤ R.cells ∧ slots + ms ≤ R.slots) :
    va_Run p l e R s m args below meth c H locs cells slots mc ms g rest (Qc As.toArray) (free) := by
  obtain ⟨⟨hrc, hrs, hfr, hlo, hws, hcw⟩, hcode, hini, hy, hlen, hl, hstt⟩ := cw
  have hK : Back l R p e below s args y 3 8 (PreOf R mc ms Pc) (PostOf Qc mc ms free) := va_backW (hh := hh) (bytes := bytes) (maxL := maxL) (ret := ret) hM hp.1 hrc hrs hfr hlo hws hcw (fun a' U hW => word_at hW (Or.inl (by first | rfl | simp [Cond.onTables, Cond.keeps, Cond.steady])) hini)
  obtain ⟨hx, hb, hml, ho, -⟩ := S
  intro T hT X
  obtain ⟨v, vm₁, ⟨U', l2, c2, s2⟩, hW₁, X', ⟨g', mk, t, L, e1, e2, hq, h1, hL, h2, h3⟩, st⟩ := vx_callSW X hx (hh := hh) (bytes := bytes) (maxL := maxL) (ret := ret) ho hl hstt hini hcode hy hK hg (hsize.trans hml.symm) (argsL := As) (rest := rest) (fun sig h => hn.trans (hlen sig h)) hstack hW (by rw [hb]; exact hdg)
    (fun vm₁ hW₁ => ⟨hf.1, hf.2, hp.2 (T.setVm vm₁) hT hW₁⟩)
  dsimp only [Pt.U, Pt.locs, Pt.cells, Pt.slots] at X' e1 e2 h1 h2 h3 st
  subst h1; subst h2; subst h3
  exact ⟨v, (T.setVm vm₁).calling g' mk As.toArray, t, U', L, hT, X', hL, e1, e2, hq, st⟩
/-- not caught here, past rows that name other classes: it goes on to the caller -/
theorem vx_outP {p : Program} {l : Launch} {e : Env} {R : Room} {s : State} {m : MethodId} {args : Array Value} {below : List Frame} {meth : Method} {c : Code} {H : Heap} {locs : List Loc} {cells slots : Nat} {free : Addr → Prop} {ls : Array Slot} {rest : List Value} {Qc : Array Value → State → Outcome → State → Prop} {XC : String → State → State → Prop}
    {pc : Nat} {own E : String} {ce : Cell} {q : Addr} {mc ms : Nat} (hown : s.vm.findClass own = some m.cls) (hlocks : meth.locks = false)
    (hpass : ∀ z ∈ c.exceptionTable.toList, covers z pc = false ∨ (z.catchType ≠ 0 ∧ ∃ nm : String, (Cond.classLink own z.catchType nm).before args s = true ∧ va_Nc E nm s)) (hcell : H[q]? = some ce) (hv : ce.vm = .none) (hcl : s.vm.findClass E = some ce.cls)
    (hx : ∀ t : State, t.heap = H → s.vm.Alike t.vm → XC E s t) (hf : ∀ z ∈ locs, free z.base) (hc : cells ≤ mc) (hs : slots ≤ ms) :
    vx_W p l e R s m args below meth c H locs cells slots (vx_MQ below Qc XC args s mc ms free) (F0 m pc ls rest) q := by
  intro T hT X
  have hpl : e.platform.magicAccessors = ({} : Platform).magicAccessors := by rw [X.admits.platform]
  obtain ⟨vm', hW', X', st⟩ := X.outThrough hlocks q (g := F0 m pc ls rest) rfl rfl rfl (cell := ce) (by rw [hT]; exact hcell) (by rw [hv]; rfl)
    (by obtain ⟨k9, h9, -⟩ := Vm.findClass_spec hcl; exact ⟨k9, h9⟩) (fun z hz => by
      rcases hpass z hz with h | ⟨hz0, nm, hl1, hn1⟩
      · exact Or.inl h
      · obtain ⟨c6, hc6, hcl6⟩ := Cond.classLink_spec hown hl1 e.platform hpl
        obtain ⟨a8, b8, h1, h2, h3⟩ := hn1
        cases Option.some.inj (h1.symm.trans hcl)
        cases Option.some.inj (h2.symm.trans hc6)
        exact Or.inr ⟨hz0, _, hcl6, h3⟩)
  obtain ⟨g₀, hfr⟩ := X'.frames_eq
  have hcell9 : ((T.setVm vm').setFrames (.throwing q :: below)).heap[q]? = some ce := by
    show T.heap[q]? = some ce
    rw [hT]; exact hcell
  have hend : Ended ((T.setVm vm').setFrames (.throwing q :: below)) below (.threw q) := State.frames_setFrames _ (State.cur_lt_of_frames hfr)
  refine ⟨(T.setVm vm').setFrames (.throwing q :: below), ?_, .threw q, X'.here.running, hend, Or.inr ⟨q, rfl, E, ce, locs, hx _ hT (X'.ends _).1.alike, hcell9, hv, hcl, (X'.ends _).1, (X'.ends _).2.mono hc hs, hf⟩⟩
  rw [X.pushThrowing_eq]
  exact st
/-- a thing of a world lies in the heap -/
theorem vx_lt {D : va_G} {cl : List vw_C} {ws : va_W} {H1 : Heap} (h : va_P D cl ws H1) {k : Nat} {q : Nat × va_E} (hk : ws[k]? = some q) : q.1 < H1.size := (h k q hk).lt
end VXS
/-! ===== END ===== -/
/-! ===== BEGIN methods with a table of their own: called by a name, returning or throwing ===== -/
section VXH
/-! vx_backW, vx_callVX, vx_callSX, vx_callVW, vx_runVW, vx_runVX, vx_runSX, vx_ofWH follow the same proofs as their sisters above (Free/Laws.lean, Shelf42/LK1.lean); vx_outP calls Shelf42/NT130.lean (outThrough). -/
section
variable {l : Launch} {R : Room} {p : Program} {e : Env} {below : List Frame} {s : State} {sargs : Array Value} {y : MethodName} {len W9 : Nat}
theorem vx_backW {ws : List Cond} {rm : Room} {Pc : Array Value → State → Prop} {Qc : Array Value → State → Outcome → State → Prop} {XC : String → State → State → Prop} {mc ms : Nat} {free : Addr → Prop} {bytes : ByteArray} {maxL : Nat} {ret : Option FieldType} {hh : List (Nat × Nat × Nat × Nat)}
    (hM : vx_Met l y ws rm Pc Qc XC mc ms free) (hblind : FrameBlind Pc) (hrc : rm.cells = mc) (hrs : rm.slots = ms)
    (hframes : rm.frames + 1 ≤ R.frames) (hlocals : W9 + (maxL + 11) + rm.locals ≤ R.locals)
    (hws : ∀ w ∈ ws, ∀ a' U, s.WarmedH U.vm → w.before a' U = true) (hcode : Cond.codeWith y bytes maxL ret hh ∈ ws) (hinit : ∀ a' U, s.WarmedH U.vm → (Cond.initialized y.cls).before a' U = true) :
    vx_Back l R p e below s sargs y len W9 (PreOf R mc ms Pc) (PostOf Qc mc ms free) (vx_Post XC mc ms free) := by
  intro m meth c A g ig mk a X hg hsize hdg hW hn hp
  have h1 : (headSpec ws rm).pre.before a A.U = true := atoms_intro fun w hw => hws w hw _ _ X.warmed
  have h2 : (Cond.codeWith y bytes maxL ret hh).before a A.U = true := hws _ hcode _ _ X.warmed
  have h3 : (Cond.initialized y.cls).before a A.U = true := hinit _ _ X.warmed
  have h4 : A.cells + (headSpec ws rm).room.cells ≤ R.cells := by rw [show (headSpec ws rm).room.cells = mc from hrc]; exact hp.1
  have h5 : A.slots + (headSpec ws rm).room.slots ≤ R.slots := by rw [show (headSpec ws rm).room.slots = ms from hrs]; exact hp.2.1
  have hPc : Pc a (A.U.calling g mk a) := hblind _ _ _ _ hp.2.2
  obtain ⟨U, Ls, c0, s0⟩ := A
  dsimp only [Pt.U, Pt.locs, Pt.cells, Pt.slots] at h1 h2 h3 h4 h5 X hn hPc ⊢
  obtain ⟨m9, methY, cY, hn9, hmY, hcY, -, hlY, -⟩ := Cond.codeWith_spec h2
  cases Option.some.inj (hn9.symm.trans hn)
  obtain ⟨kY, hkY, -⟩ := className_of_methodNamed hn
  have hinitY : kY.init = .initialized := Cond.initialized_spec (findClass_of_methodNamed hn) hkY h3
  have h : At U g.method c below := by rw [hg]; exact X.here
  have hlocals9 : W9 + (maxL + 11) + (headSpec ws rm).room.locals ≤ R.locals := hlocals
  have happ : (headSpec ws rm).appliesLoose y e.platform (U.calling g mk a) = true :=
    Spec.appliesLoose_calling (g := g) h hdg hn hkY hinitY
      (X.room_calling (g := g) (R' := (headSpec ws rm).room) hsize hmY hcY hframes (by rw [hlY]; omega) h4 h5) h1
  obtain ⟨mid, hmid⟩ := h.above
  have hfr : (U.setTop g).frames = (.java g :: mid) ++ below := by rw [State.frames_setTop' g h.top, hmid]; rfl
  obtain ⟨o, s₂, hsteps, -, hend, hq⟩ := Steps.callFree hM p X.admits X.cas X.clock (acts := []) hfr happ hPc trivial
  have hq' : vx_Q Qc XC mc ms free a (U.calling g mk a) o s₂ := hq
  rw [State.frames_setTop' g h.top] at hend
  obtain ⟨g₀, hg0⟩ := Option.isSome_iff_exists.mp h.top
  obtain ⟨r, hr⟩ := State.topJava?_eq_some.mp hg0
  have hr' : (({ U with heap := s₂.heap, slotsUsed := s₂.slotsUsed } : State).setVm s₂.vm).frames = .java g₀ :: r := hr
  rcases hq' with ⟨hqc, L, hfe, hL⟩ | ⟨q, rfl, E, ce, L, hx, hce, hcv, hcl, hW₂, hsm, hL⟩
  · obtain ⟨⟨v, rfl⟩, hW₂, e2, q2, q3, q4, q5, q6⟩ := id hfe
    have e3 : s₂ = ({ (U.calling g mk a).setFrames s₂.frames with heap := s₂.heap, slotsUsed := s₂.slotsUsed } : State).setVm s₂.vm := by
      have : s₂ = ({ s₂ with vm := (U.calling g mk a).vm } : State).setVm s₂.vm := rfl
      rw [e2] at this
      exact this
    obtain ⟨c₂, i₂, len₂, hc₂, hd₂, hf₂⟩ := hend
    have hW' : U.WarmedH s₂.vm := hW₂
    have hcc : c₂ = c := by
      have h1 : s₂.code? g.method = U.code? g.method := by
        rw [State.code?_eq, State.code?_eq, hW'.alike.method?]
      exact Option.some.inj (hc₂.symm.trans (h1.trans h.code))
    subst hcc
    have hlen : len₂ = len := by rw [hdg] at hd₂; cases hd₂; rfl
    subst hlen
    have hs₂ : s₂ = (({ U with heap := s₂.heap, slotsUsed := s₂.slotsUsed } : State).setVm s₂.vm).setTop { g with pc := g.pc + len₂, stack := v.toList ++ g.stack } := by
      refine e3.trans ?_
      rw [hf₂, State.calling_eq h.top, State.setFrames_setFrames, State.setTop_of_frames _ hr', hr]
      rfl
    have hsame : U.sameButNew ({ U with heap := s₂.heap, slotsUsed := s₂.slotsUsed } : State) L mc ms := by
      refine ⟨?_, q2, q3, q4, q5, q6⟩
      obtain ⟨t, ht, -⟩ := State.frames_cons hr
      show ({ U with heap := s₂.heap, slotsUsed := s₂.slotsUsed } : State) = { U.setFrames U.frames with heap := s₂.heap, slotsUsed := s₂.slotsUsed }
      rw [State.setFrames_self ht]
    subst hg
    refine Or.inl ⟨v, ⟨(({ U with heap := s₂.heap, slotsUsed := s₂.slotsUsed } : State).setVm s₂.vm), Ls ++ L, c0 + mc, s0 + ms⟩,
      ⟨X.admits, X.cas, X.clock, X.frames, X.room, X.hears, X.method, X.code, (X.here.setHeapUsed s₂.heap s₂.slotsUsed).setVm hW'.alike, X.tail, State.WarmedH.trans X.warmed hW', X.limits, X.bytes, X.same.trans (hsame.setVm s.vm)⟩,
      ⟨g, mk, s₂, L, rfl, rfl, hqc, rfl, hL, rfl, rfl⟩, ?_⟩
    show Steps p.tables e below _ ((({ U with heap := s₂.heap, slotsUsed := s₂.slotsUsed } : State).setVm s₂.vm).setTop { g with pc := g.pc + len₂, stack := v.toList ++ g.stack })
    rw [← hs₂]
    exact hsteps
  · obtain ⟨e2, q2, q3, q4, q5, q6⟩ := id hsm
    have e3 : s₂ = ({ (U.calling g mk a).setFrames s₂.frames with heap := s₂.heap, slotsUsed := s₂.slotsUsed } : State).setVm s₂.vm := by
      have : s₂ = ({ s₂ with vm := (U.calling g mk a).vm } : State).setVm s₂.vm := rfl
      rw [e2] at this
      exact this
    have hf₂ : s₂.frames = .throwing q :: .java g :: U.frames.tail := hend
    have hW' : U.WarmedH s₂.vm := hW₂
    have hs₂ : s₂ = ((({ U with heap := s₂.heap, slotsUsed := s₂.slotsUsed } : State).setVm s₂.vm).setTop g).pushFrame (.throwing q) := by
      refine e3.trans ?_
      rw [hf₂, State.calling_eq h.top, State.setFrames_setFrames, State.pushFrame, State.frames_setTop _ hr', State.setTop_of_frames _ hr', State.setFrames_setFrames, hr]
      rfl
    have hsame : U.sameButNew ({ U with heap := s₂.heap, slotsUsed := s₂.slotsUsed } : State) L mc ms := by
      refine ⟨?_, q2, q3, q4, q5, q6⟩
      obtain ⟨t, ht, -⟩ := State.frames_cons hr
      show ({ U with heap := s₂.heap, slotsUsed := s₂.slotsUsed } : State) = { U.setFrames U.frames with heap := s₂.heap, slotsUsed := s₂.slotsUsed }
      rw [State.setFrames_self ht]
    subst hg
    refine Or.inr ⟨q, ⟨(({ U with heap := s₂.heap, slotsUsed := s₂.slotsUsed } : State).setVm s₂.vm), Ls ++ L, c0 + mc, s0 + ms⟩,
      ⟨X.admits, X.cas, X.clock, X.frames, X.room, X.hears, X.method, X.code, (X.here.setHeapUsed s₂.heap s₂.slotsUsed).setVm hW'.alike, X.tail, State.WarmedH.trans X.warmed hW', X.limits, X.bytes, X.same.trans (hsame.setVm s.vm)⟩,
      ⟨g, mk, s₂, L, E, ce, rfl, rfl, hx, hce, hcv, hcl, rfl, hL, rfl, rfl⟩, ?_⟩
    show Steps p.tables e below _ (((({ U with heap := s₂.heap, slotsUsed := s₂.slotsUsed } : State).setVm s₂.vm).setTop g).pushFrame (.throwing q))
    rw [← hs₂]
    exact hsteps
end
variable {p : Program} {l : Launch} {e : Env} {R : Room} {s : State} {m : MethodId} {args : Array Value} {below : List Frame} {meth : Method} {c : Code} {T : State} {H : Heap} {locs : List Loc} {cells slots : Nat}
theorem vx_callVX (X : Stand p l e R s m args below meth c T locs cells slots) (hexec : p.tables.exec = Jvm.exec) {own C : String} {index : Nat} {y : MethodName} {bytes : ByteArray} {maxL : Nat} {ret : Option FieldType} {hh : List (Nat × Nat × Nat × Nat)}
    (hown : s.vm.findClass own = some m.cls) (hlink : (Cond.methodLink own index y).before args s = true) (hinst : (Cond.instanceMethod y).before args s = true) (hsel : (Cond.selects C y y).before args s = true)
    (hcode : (Cond.codeWith y bytes maxL ret hh).before args s = true) (hy : y.cls ≠ "java/lang/invoke/MethodHandle" ∧ y.cls ≠ "java/lang/invoke/VarHandle")
    {W9 : Nat} {Pre : Pt → Array Value → Prop} {Post : Pt → Array Value → Option Value → Pt → Prop} {PostX : Pt → Array Value → Addr → Pt → Prop} (hK : vx_Back l R p e below s args y 3 W9 Pre Post PostX)
    {b : Addr} {cellB : Cell} (hcell : T.heap[b]? = some cellB) (hobj : cellB.vm.isStatics = false) (hcls : s.vm.findClass C = some cellB.cls)
    {g : JFrame} (hg : g.method = m) (hsize : g.locals.size = c.maxLocals) {argsL rest : List Value} (hlen : ∀ sig, parseMethodDescriptor y.desc = some sig → argsL.length = sig.parameters.length)
    (hstack : g.stack = argsL.reverse ++ .ref b :: rest) (hW : 2 * g.monitorRoom + (rest.map fun v => v.category).sum ≤ W9) (hdg : decode c.code g.pc = .ok (.invokevirtual index, 3))
    (hpre : ∀ vm₁, s.WarmedH vm₁ → Pre ⟨T.setVm vm₁, locs, cells, slots⟩ (Value.ref b :: argsL).toArray) :
    (∃ (v : Option Value) (vm₁ : Vm) (B : Pt), s.WarmedH vm₁ ∧ Stand p l e R s m args below meth c B.U B.locs B.cells B.slots ∧ Post ⟨T.setVm vm₁, locs, cells, slots⟩ (Value.ref b :: argsL).toArray v B ∧
      ∀ target, Steps p.tables e below (B.U.setTop { g with pc := g.pc + 3, stack := v.toList ++ rest }) target → Steps p.tables e below (T.setTop g) target) ∨
    (∃ (q : Addr) (vm₁ : Vm) (B : Pt), s.WarmedH vm₁ ∧ Stand p l e R s m args below meth c B.U B.locs B.cells B.slots ∧ PostX ⟨T.setVm vm₁, locs, cells, slots⟩ (Value.ref b :: argsL).toArray q B ∧
      Steps p.tables e below (T.setTop g) ((B.U.setTop { g with stack := rest }).pushFrame (.throwing q))) := by
  obtain ⟨mk, methM, hnamed, hmethM, hstM, habM⟩ := Cond.instanceMethod_spec hinst
  obtain ⟨m8, methM', cM, hn8, hmethM', -, -, -, -, -, -, hsigM⟩ := Cond.codeWith_spec hcode
  cases Option.some.inj (hn8.symm.trans hnamed)
  cases hmethM.symm.trans hmethM'
  obtain ⟨c2, r2, m2, q1, q2, q3, q4, kP, hkP, hkPi⟩ := Cond.selects_spec hsel
  cases hcls.symm.trans q1
  cases (State.methodFound?_of_named hnamed hy).symm.trans q2
  cases hnamed.symm.trans q3
  have hselP : selectMethod e.platform s.vm cellB.cls mk = .method mk := by rw [Launch.admits_selectMethod X.admits]; exact q4
  obtain ⟨vm₁, X₁, hstep₁⟩ := X.invokevirtual hexec hown hlink hnamed hmethM hstM hkP hkPi hy (a := b) (cell := cellB) hcell
    (fun z h => by rw [h] at hobj; cases hobj) hselP hmethM habM hkP hkPi (g := g) hg (argsL := argsL) (rest := rest) (hlen _ hsigM) hstack hdg
  rcases hK m meth c ⟨T.setVm vm₁, locs, cells, slots⟩ { g with stack := rest } (.invokevirtual index) mk (Value.ref b :: argsL).toArray X₁ hg hsize hdg hW (X₁.named hnamed) (hpre vm₁ X₁.warmed) with ⟨v, B, X', hpost, hsteps⟩ | ⟨q, B, X', hpost, hsteps⟩
  · exact Or.inl ⟨v, vm₁, B, X₁.warmed, X', hpost, fun target h => hstep₁ _ fun acts => by rw [doInvoke_state]; exact hsteps.trans h⟩
  · exact Or.inr ⟨q, vm₁, B, X₁.warmed, X', hpost, hstep₁ _ fun acts => by rw [doInvoke_state]; exact hsteps⟩
theorem vx_callSX (X : Stand p l e R s m args below meth c T locs cells slots) (hexec : p.tables.exec = Jvm.exec) {own : String} {index : Nat} {y : MethodName} {bytes : ByteArray} {maxL : Nat} {ret : Option FieldType} {hh : List (Nat × Nat × Nat × Nat)}
    (hown : s.vm.findClass own = some m.cls) (hlink : (Cond.methodLink own index y).before args s = true) (hstat : (Cond.static y).before args s = true) (hinit : (Cond.initialized y.cls).before args s = true)
    (hcode : (Cond.codeWith y bytes maxL ret hh).before args s = true) (hy : y.cls ≠ "java/lang/invoke/MethodHandle" ∧ y.cls ≠ "java/lang/invoke/VarHandle")
    {W9 : Nat} {Pre : Pt → Array Value → Prop} {Post : Pt → Array Value → Option Value → Pt → Prop} {PostX : Pt → Array Value → Addr → Pt → Prop} (hK : vx_Back l R p e below s args y 3 W9 Pre Post PostX)
    {g : JFrame} (hg : g.method = m) (hsize : g.locals.size = c.maxLocals) {argsL rest : List Value} (hlen : ∀ sig, parseMethodDescriptor y.desc = some sig → argsL.length = sig.parameters.length)
    (hstack : g.stack = argsL.reverse ++ rest) (hW : 2 * g.monitorRoom + (rest.map fun v => v.category).sum ≤ W9) (hdg : decode c.code g.pc = .ok (.invokestatic index, 3))
    (hpre : ∀ vm₁, s.WarmedH vm₁ → Pre ⟨T.setVm vm₁, locs, cells, slots⟩ argsL.toArray) :
    (∃ (v : Option Value) (vm₁ : Vm) (B : Pt), s.WarmedH vm₁ ∧ Stand p l e R s m args below meth c B.U B.locs B.cells B.slots ∧ Post ⟨T.setVm vm₁, locs, cells, slots⟩ argsL.toArray v B ∧
      ∀ target, Steps p.tables e below (B.U.setTop { g with pc := g.pc + 3, stack := v.toList ++ rest }) target → Steps p.tables e below (T.setTop g) target) ∨
    (∃ (q : Addr) (vm₁ : Vm) (B : Pt), s.WarmedH vm₁ ∧ Stand p l e R s m args below meth c B.U B.locs B.cells B.slots ∧ PostX ⟨T.setVm vm₁, locs, cells, slots⟩ argsL.toArray q B ∧
      Steps p.tables e below (T.setTop g) ((B.U.setTop { g with stack := rest }).pushFrame (.throwing q))) := by
  obtain ⟨mk, methM, cM, hnamed, hmethM, -, -, -, -, -, -, hsigM⟩ := Cond.codeWith_spec hcode
  have hstatic : methM.isStatic = true := Cond.static_spec hnamed hmethM hstat
  obtain ⟨kP, hkP, -⟩ := className_of_methodNamed hnamed
  have hinitP : kP.init = .initialized := Cond.initialized_spec (findClass_of_methodNamed hnamed) hkP hinit
  obtain ⟨vm₁, X₁, hstep₁⟩ := X.invokestatic hexec hown hlink hnamed hmethM hstatic hkP hinitP hy (g := g) hg (argsL := argsL) (rest := rest) (hlen _ hsigM) hstack hdg
  rcases hK m meth c ⟨T.setVm vm₁, locs, cells, slots⟩ { g with stack := rest } (.invokestatic index) mk argsL.toArray X₁ hg hsize hdg hW (X₁.named hnamed) (hpre vm₁ X₁.warmed) with ⟨v, B, X', hpost, hsteps⟩ | ⟨q, B, X', hpost, hsteps⟩
  · exact Or.inl ⟨v, vm₁, B, X₁.warmed, X', hpost, fun target h => hstep₁ _ fun acts => by rw [doInvoke_state]; exact hsteps.trans h⟩
  · exact Or.inr ⟨q, vm₁, B, X₁.warmed, X', hpost, hstep₁ _ fun acts => by rw [doInvoke_state]; exact hsteps⟩
theorem vx_callVW (X : Stand p l e R s m args below meth c T locs cells slots) (hexec : p.tables.exec = Jvm.exec) {own C : String} {index : Nat} {y : MethodName} {bytes : ByteArray} {maxL : Nat} {ret : Option FieldType} {hh : List (Nat × Nat × Nat × Nat)}
    (hown : s.vm.findClass own = some m.cls) (hlink : (Cond.methodLink own index y).before args s = true) (hinst : (Cond.instanceMethod y).before args s = true) (hsel : (Cond.selects C y y).before args s = true)
    (hcode : (Cond.codeWith y bytes maxL ret hh).before args s = true) (hy : y.cls ≠ "java/lang/invoke/MethodHandle" ∧ y.cls ≠ "java/lang/invoke/VarHandle")
    {W9 : Nat} {Pre : Pt → Array Value → Prop} {Post : Pt → Array Value → Option Value → Pt → Prop} (hK : Back l R p e below s args y 3 W9 Pre Post)
    {b : Addr} {cellB : Cell} (hcell : T.heap[b]? = some cellB) (hobj : cellB.vm.isStatics = false) (hcls : s.vm.findClass C = some cellB.cls)
    {g : JFrame} (hg : g.method = m) (hsize : g.locals.size = c.maxLocals) {argsL rest : List Value} (hlen : ∀ sig, parseMethodDescriptor y.desc = some sig → argsL.length = sig.parameters.length)
    (hstack : g.stack = argsL.reverse ++ .ref b :: rest) (hW : 2 * g.monitorRoom + (rest.map fun v => v.category).sum ≤ W9) (hdg : decode c.code g.pc = .ok (.invokevirtual index, 3))
    (hpre : ∀ vm₁, s.WarmedH vm₁ → Pre ⟨T.setVm vm₁, locs, cells, slots⟩ (Value.ref b :: argsL).toArray) :
    ∃ (v : Option Value) (vm₁ : Vm) (B : Pt), s.WarmedH vm₁ ∧ Stand p l e R s m args below meth c B.U B.locs B.cells B.slots ∧ Post ⟨T.setVm vm₁, locs, cells, slots⟩ (Value.ref b :: argsL).toArray v B ∧
      ∀ target, Steps p.tables e below (B.U.setTop { g with pc := g.pc + 3, stack := v.toList ++ rest }) target → Steps p.tables e below (T.setTop g) target := by
  obtain ⟨mk, methM, hnamed, hmethM, hstM, habM⟩ := Cond.instanceMethod_spec hinst
  obtain ⟨m8, methM', cM, hn8, hmethM', -, -, -, -, -, -, hsigM⟩ := Cond.codeWith_spec hcode
  cases Option.some.inj (hn8.symm.trans hnamed)
  cases hmethM.symm.trans hmethM'
  obtain ⟨c2, r2, m2, q1, q2, q3, q4, kP, hkP, hkPi⟩ := Cond.selects_spec hsel
  cases hcls.symm.trans q1
  cases (State.methodFound?_of_named hnamed hy).symm.trans q2
  cases hnamed.symm.trans q3
  have hselP : selectMethod e.platform s.vm cellB.cls mk = .method mk := by rw [Launch.admits_selectMethod X.admits]; exact q4
  obtain ⟨vm₁, X₁, hstep₁⟩ := X.invokevirtual hexec hown hlink hnamed hmethM hstM hkP hkPi hy (a := b) (cell := cellB) hcell
    (fun z h => by rw [h] at hobj; cases hobj) hselP hmethM habM hkP hkPi (g := g) hg (argsL := argsL) (rest := rest) (hlen _ hsigM) hstack hdg
  obtain ⟨v, B, X', hpost, hsteps⟩ := hK m meth c ⟨T.setVm vm₁, locs, cells, slots⟩ { g with stack := rest } (.invokevirtual index) mk (Value.ref b :: argsL).toArray X₁ hg hsize hdg hW (X₁.named hnamed) (hpre vm₁ X₁.warmed)
  exact ⟨v, vm₁, B, X₁.warmed, X', hpost, fun target h => hstep₁ _ fun acts => by rw [doInvoke_state]; exact hsteps.trans h⟩
abbrev vx_CVW (R : Room) (s : State) (args : Array Value) (own C : String) (index : Nat) (y : MethodName) (bytes : ByteArray) (maxL : Nat) (ret : Option FieldType) (hh : List (Nat × Nat × Nat × Nat)) (ws : List Cond) (rm : Room) (mc ms n : Nat) : Prop :=
  (rm.cells = mc ∧ rm.slots = ms ∧ rm.frames + 1 ≤ R.frames ∧ 8 + (maxL + 11) + rm.locals ≤ R.locals ∧ (∀ w ∈ ws, ∀ (a' : Array Value) (U : State), s.WarmedH U.vm → w.before a' U = true) ∧ Cond.codeWith y bytes maxL ret hh ∈ ws) ∧
  (Cond.codeWith y bytes maxL ret hh).before args s = true ∧ (Cond.initialized y.cls).before args s = true ∧ (y.cls ≠ "java/lang/invoke/MethodHandle" ∧ y.cls ≠ "java/lang/invoke/VarHandle") ∧
  (∀ sig, parseMethodDescriptor y.desc = some sig → n = sig.parameters.length) ∧ (Cond.methodLink own index y).before args s = true ∧ (Cond.instanceMethod y).before args s = true ∧ (Cond.selects C y y).before args s = true
theorem vx_cwVW {own C : String} {index maxL mc ms : Nat} {y : MethodName} {bytes : ByteArray} {ret : Option FieldType} {hh : List (Nat × Nat × Nat × Nat)} {Ts ws ws' : List Cond} {rm : Room} (n : Nat) (ht : ∀ w ∈ Ts, w.before args s = true) (hT : GoodIn Ts (wsV own index C y ws)) (hw : ws = Cond.codeWith y bytes maxL ret hh :: ws') (hrc : rm.cells = mc) (hrs : rm.slots = ms)
    (hd : y.cls = C ∧ y.cls ≠ "java/lang/invoke/MethodHandle" ∧ y.cls ≠ "java/lang/invoke/VarHandle" ∧ (parseMethodDescriptor y.desc).map (fun d => d.parameters.length) = some n) (hR : rm.frames + 1 ≤ R.frames ∧ 8 + (maxL + 11) + rm.locals ≤ R.locals) :
    vx_CVW R s args own C index y bytes maxL ret hh ws rm mc ms n := by
  obtain ⟨hC, hd⟩ := hd
  subst hC
  have ok : ∀ w ∈ wsV own index y.cls y ws, w.before args s = true := fun w h => ht w (hT w h).1
  have hG : GoodIn Ts ws := fun w h => hT w (by unfold wsV; exact List.mem_append_right _ h)
  have hc : Cond.codeWith y bytes maxL ret hh ∈ ws := by rw [hw]; exact List.mem_cons_self
  refine ⟨⟨hrc, hrs, hR.1, hR.2, pay_in ht hG, hc⟩, ht _ (hG _ hc).1, ok _ (by simp [wsV]), ⟨hd.1, hd.2.1⟩, fun sig h => ?_, ok _ (by simp [wsV]), ok _ (by simp [wsV]), ok _ (by simp [wsV])⟩
  have h2 := hd.2.2
  rw [h] at h2
  exact (Option.some.inj h2).symm
theorem vx_runVW {y : MethodName} {bytes cc : ByteArray} {maxL nL mc ms n index : Nat} {ret : Option FieldType} {hh : List (Nat × Nat × Nat × Nat)} {ws : List Cond} {rm : Room} {Pc : Array Value → State → Prop} {Qc : Array Value → State → Outcome → State → Prop} {free : Addr → Prop} {Ts : List Cond} {own C : String} {b : Addr} {As rest : List Value} {g : JFrame}
    (S : CallFix p m c cc nL s args Ts own) (hM : Met l y ws rm Pc Qc mc ms free) (cw : vx_CVW R s args own C index y bytes maxL ret hh ws rm mc ms n) (hp : PreV s H C b Pc As)
    (hg : g.method = m) (hn : As.length = n) (hsize : g.locals.size = nL) (hstack : g.stack = As.reverse ++ .ref b :: rest) (hW : 2 * g.monitorRoom + (rest.map fun v => v.category).sum ≤ 8) (hdg : decode cc g.pc = .ok (.invokevirtual index, 3)) (hf : cells + mc ≤ R.cells ∧ slots + ms ≤ R.slots) :
    va_Run p l e R s m args below meth c H locs cells slots mc ms g rest (Qc (Value.ref b :: As).toArray) free := by
  obtain ⟨⟨hrc, hrs, hfr, hlo, hws, hcw⟩, hcode, hini, hy, hlen, hl, hin, hse⟩ := cw
  have hK : Back l R p e below s args y 3 8 (PreOf R mc ms Pc) (PostOf Qc mc ms free) := va_backW (hh := hh) (bytes := bytes) (maxL := maxL) (ret := ret) hM hp.1 hrc hrs hfr hlo hws hcw (fun a' U hW => word_at hW (Or.inl (by first | rfl | simp [Cond.onTables, Cond.keeps, Cond.steady])) hini)
  obtain ⟨hx, hb, hml, ho, -⟩ := S
  obtain ⟨-, ⟨cellB, hcB, hoB, hclB⟩, hPc⟩ := hp
  intro T hT X
  obtain ⟨v, vm₁, ⟨U', l2, c2, s2⟩, hW₁, X', ⟨g', mk, t, L, e1, e2, hq, h1, hL, h2, h3⟩, st⟩ := vx_callVW X hx (C := C) (hh := hh) (bytes := bytes) (maxL := maxL) (ret := ret) ho hl hin hse hcode hy hK (by rw [hT]; exact hcB) hoB hclB hg (hsize.trans hml.symm) (argsL := As) (rest := rest) (fun sig h => hn.trans (hlen sig h)) hstack hW (by rw [hb]; exact hdg)
    (fun vm₁ hW₁ => ⟨hf.1, hf.2, hPc (T.setVm vm₁) hT hW₁⟩)
  dsimp only [Pt.U, Pt.locs, Pt.cells, Pt.slots] at X' e1 e2 h1 h2 h3 st
  subst h1; subst h2; subst h3
  exact ⟨v, (T.setVm vm₁).calling g' mk (Value.ref b :: As).toArray, t, U', L, hT, X', hL, e1, e2, hq, st⟩
section
variable {y : MethodName} {bytes cc : ByteArray} {maxL nL mc ms n index : Nat} {ret : Option FieldType} {ws : List Cond} {rm : Room} {Pc : Array Value → State → Prop} {Qc : Array Value → State → Outcome → State → Prop} {XC : String → State → State → Prop} {free : Addr → Prop} {Ts : List Cond} {own C : String} {b : Addr} {As rest : List Value} {g : JFrame}
theorem vx_runVX {hh : List (Nat × Nat × Nat × Nat)} (S : CallFix p m c cc nL s args Ts own) (hM : vx_Met l y ws rm Pc Qc XC mc ms free) (cw : vx_CVW R s args own C index y bytes maxL ret hh ws rm mc ms n) (hp : PreV s H C b Pc As)
    (hg : g.method = m) (hn : As.length = n) (hsize : g.locals.size = nL) (hstack : g.stack = As.reverse ++ .ref b :: rest) (hW : 2 * g.monitorRoom + (rest.map fun v => v.category).sum ≤ 8) (hdg : decode cc g.pc = .ok (.invokevirtual index, 3)) (hf : cells + mc ≤ R.cells ∧ slots + ms ≤ R.slots) :
    vx_Run p l e R s m args below meth c H locs cells slots mc ms g rest (Qc (Value.ref b :: As).toArray) XC free := by
  obtain ⟨⟨hrc, hrs, hfr, hlo, hws, hcw⟩, hcode, hini, hy, hlen, hl, hin, hse⟩ := cw
  have hK : vx_Back l R p e below s args y 3 8 (PreOf R mc ms Pc) (PostOf Qc mc ms free) (vx_Post XC mc ms free) := vx_backW (hh := hh) (bytes := bytes) (maxL := maxL) (ret := ret) hM hp.1 hrc hrs hfr hlo hws hcw (fun a' U hW => word_at hW (Or.inl (by first | rfl | simp [Cond.onTables, Cond.keeps, Cond.steady])) hini)
  obtain ⟨hx, hb, hml, ho, -⟩ := S
  obtain ⟨-, ⟨cellB, hcB, hoB, hclB⟩, hPc⟩ := hp
  intro T hT X
  rcases vx_callVX X hx (C := C) (hh := hh) (bytes := bytes) (maxL := maxL) (ret := ret) ho hl hin hse hcode hy hK (by rw [hT]; exact hcB) hoB hclB hg (hsize.trans hml.symm) (argsL := As) (rest := rest) (fun sig h => hn.trans (hlen sig h)) hstack hW (by rw [hb]; exact hdg)
    (fun vm₁ hW₁ => ⟨hf.1, hf.2, hPc (T.setVm vm₁) hT hW₁⟩) with ⟨v, vm₁, ⟨U', l2, c2, s2⟩, hW₁, X', ⟨g', mk, t, L, e1, e2, hq, h1, hL, h2, h3⟩, st⟩ | ⟨q, vm₁, ⟨U', l2, c2, s2⟩, hW₁, X', ⟨g', mk, t, L, E, ce, e1, e2, hq, hce, hcv, hcl, h1, hL, h2, h3⟩, st⟩
  · dsimp only [Pt.U, Pt.locs, Pt.cells, Pt.slots] at X' e1 e2 h1 h2 h3 st
    subst h1; subst h2; subst h3
    exact Or.inl ⟨v, (T.setVm vm₁).calling g' mk (Value.ref b :: As).toArray, t, U', L, hT, X', hL, e1, e2, hq, st⟩
  · dsimp only [Pt.U, Pt.locs, Pt.cells, Pt.slots] at X' e1 e2 h1 h2 h3 st hcl
    subst h1; subst h2; subst h3
    exact Or.inr ⟨q, (T.setVm vm₁).calling g' mk (Value.ref b :: As).toArray, t, U', L, E, ce, hT, X', hL, e1, e2, hq, hce, hcv, vx_cls hW₁ hcl, st⟩
theorem vx_runSX {hh : List (Nat × Nat × Nat × Nat)} (S : CallFix p m c cc nL s args Ts own) (hM : vx_Met l y ws rm Pc Qc XC mc ms free) (cw : vx_CSW R s args own index y bytes maxL ret hh ws rm mc ms n) (hp : PreS s H Pc As)
    (hg : g.method = m) (hn : As.length = n) (hsize : g.locals.size = nL) (hstack : g.stack = As.reverse ++ rest) (hW : 2 * g.monitorRoom + (rest.map fun v => v.category).sum ≤ 8) (hdg : decode cc g.pc = .ok (.invokestatic index, 3)) (hf : cells + mc ≤ R.cells ∧ slots + ms ≤ R.slots) :
    vx_Run p l e R s m args below meth c H locs cells slots mc ms g rest (Qc As.toArray) XC free := by
  obtain ⟨⟨hrc, hrs, hfr, hlo, hws, hcw⟩, hcode, hini, hy, hlen, hl, hstt⟩ := cw
  have hK : vx_Back l R p e below s args y 3 8 (PreOf R mc ms Pc) (PostOf Qc mc ms free) (vx_Post XC mc ms free) := vx_backW (hh := hh) (bytes := bytes) (maxL := maxL) (ret := ret) hM hp.1 hrc hrs hfr hlo hws hcw (fun a' U hW => word_at hW (Or.inl (by first | rfl | simp [Cond.onTables, Cond.keeps, Cond.steady])) hini)
  obtain ⟨hx, hb, hml, ho, -⟩ := S
  intro T hT X
  rcases vx_callSX X hx (hh := hh) (bytes := bytes) (maxL := maxL) (ret := ret) ho hl hstt hini hcode hy hK hg (hsize.trans hml.symm) (argsL := As) (rest := rest) (fun sig h => hn.trans (hlen sig h)) hstack hW (by rw [hb]; exact hdg)
    (fun vm₁ hW₁ => ⟨hf.1, hf.2, hp.2 (T.setVm vm₁) hT hW₁⟩) with ⟨v, vm₁, ⟨U', l2, c2, s2⟩, hW₁, X', ⟨g', mk, t, L, e1, e2, hq, h1, hL, h2, h3⟩, st⟩ | ⟨q, vm₁, ⟨U', l2, c2, s2⟩, hW₁, X', ⟨g', mk, t, L, E, ce, e1, e2, hq, hce, hcv, hcl, h1, hL, h2, h3⟩, st⟩
  · dsimp only [Pt.U, Pt.locs, Pt.cells, Pt.slots] at X' e1 e2 h1 h2 h3 st
    subst h1; subst h2; subst h3
    exact Or.inl ⟨v, (T.setVm vm₁).calling g' mk As.toArray, t, U', L, hT, X', hL, e1, e2, hq, st⟩
  · dsimp only [Pt.U, Pt.locs, Pt.cells, Pt.slots] at X' e1 e2 h1 h2 h3 st hcl
    subst h1; subst h2; subst h3
    exact Or.inr ⟨q, (T.setVm vm₁).calling g' mk As.toArray, t, U', L, E, ce, hT, X', hL, e1, e2, hq, hce, hcv, vx_cls hW₁ hcl, st⟩
end
end VXH
theorem vx_ofWH {l : Launch} {y : MethodName} {ws ws' : List Cond} {rm : Room} {Pc : Array Value → State → Prop} {Qc : Array Value → State → Outcome → State → Prop} {XC : String → State → State → Prop} {mc ms : Nat} {free : Addr → Prop} {cc : ByteArray} {maxL : Nat} {ret : Option FieldType} {hh : List (Nat × Nat × Nat × Nat)}
    (hy : plainName y.cls = true) (hw : ws = Cond.codeWith y cc maxL ret hh :: ws')
    (body : ∀ p e s m args below meth c s₁, BodyLoose p l y (headSpec ws rm) cc maxL ret e s m args below meth c s₁ → c.maxLocals = maxL → Pc args s →
      W p l e (headSpec ws rm).room s m args below meth c s.heap [] 0 0 (vx_MQ below Qc XC args s mc ms free) (entryFrame m args maxL)) : vx_Met l y ws rm Pc Qc XC mc ms free := by
  refine MetFree.of_bodyS (code := cc) (maxLocals := maxL) (ret := ret) hy ?_ ?_
  · intro args s m h hn
    obtain ⟨m9, meth, c, hn9, h1, h2, h3, h4, -, h5, h6, -⟩ := Cond.codeWith_spec (atoms_spec (ws := ws) h _ (by rw [hw]; exact List.mem_cons_self))
    cases hn.symm.trans hn9
    exact ⟨meth, c, h1, h2, h3, h4, h5, h6⟩
  · intro p e s m args below meth c s₁ B hml hP _
    have hh0 : s₁.heap = s.heap := by rw [B.state]; rfl
    obtain ⟨t, a1, o, b1, b2, b3⟩ := body p e s m args below meth c s₁ B hml hP s₁ hh0 (Stand.of_body B)
    exact ⟨t, o, a1, b1, b2, b3⟩
/-! ===== END ===== -/

/-! ===== BEGIN printed: names, fields, word lists, decode rows ===== -/
end
section
-- ===== PART A: goes FIRST, ahead of the names: the tables' words, and 'selects' of the private methods out of them =====
/-- a private method of a class that the tables say can be made, by its rows of tables_1 -/
def lw_okq (q : MethodName × Nat) : Prop := (q.1.cls ≠ "java/lang/invoke/MethodHandle" ∧ q.1.cls ≠ "java/lang/invoke/VarHandle") ∧ Cond.instantiable q.1.cls q.2 ∈ tables_1 ∧ Cond.privateMethod q.1 ∈ tables_1 ∧ Cond.instanceMethod q.1 ∈ tables_1
theorem lw_p0 : lw_okq (⟨"BoundedCodes", "dropAllRanges", "()V"⟩, 8) := ⟨⟨by decide +kernel, by decide +kernel⟩, List.mem_of_getElem? (i := 14) (by decide +kernel), List.mem_of_getElem? (i := 98) (by decide +kernel), List.mem_of_getElem? (i := 99) (by decide +kernel)⟩
theorem lw_p1 : lw_okq (⟨"BoundedCodes", "dropRange", "(I)V"⟩, 8) := ⟨⟨by decide +kernel, by decide +kernel⟩, List.mem_of_getElem? (i := 14) (by decide +kernel), List.mem_of_getElem? (i := 102) (by decide +kernel), List.mem_of_getElem? (i := 103) (by decide +kernel)⟩
theorem lw_p2 : lw_okq (⟨"BoundedCodes", "numberTold", "(II)I"⟩, 8) := ⟨⟨by decide +kernel, by decide +kernel⟩, List.mem_of_getElem? (i := 14) (by decide +kernel), List.mem_of_getElem? (i := 156) (by decide +kernel), List.mem_of_getElem? (i := 157) (by decide +kernel)⟩
theorem lw_p3 : lw_okq (⟨"BoundedCodes$Table", "countSharing", "()V"⟩, 6) := ⟨⟨by decide +kernel, by decide +kernel⟩, List.mem_of_getElem? (i := 68) (by decide +kernel), List.mem_of_getElem? (i := 178) (by decide +kernel), List.mem_of_getElem? (i := 179) (by decide +kernel)⟩
theorem lw_p4 : lw_okq (⟨"BoundedCodes$Table", "giveCodes", "()V"⟩, 6) := ⟨⟨by decide +kernel, by decide +kernel⟩, List.mem_of_getElem? (i := 68) (by decide +kernel), List.mem_of_getElem? (i := 182) (by decide +kernel), List.mem_of_getElem? (i := 183) (by decide +kernel)⟩
theorem lw_p5 : lw_okq (⟨"BoundedCodes$Table", "startLongestFirst", "()V"⟩, 6) := ⟨⟨by decide +kernel, by decide +kernel⟩, List.mem_of_getElem? (i := 68) (by decide +kernel), List.mem_of_getElem? (i := 186) (by decide +kernel), List.mem_of_getElem? (i := 187) (by decide +kernel)⟩
theorem lw_p6 : lw_okq (⟨"BoundedCodes$Table", "startShortestFirst", "()V"⟩, 6) := ⟨⟨by decide +kernel, by decide +kernel⟩, List.mem_of_getElem? (i := 68) (by decide +kernel), List.mem_of_getElem? (i := 190) (by decide +kernel), List.mem_of_getElem? (i := 191) (by decide +kernel)⟩
theorem lw_p7 : lw_okq (⟨"BoundedCodes$Table", "takeCode", "(I)I"⟩, 6) := ⟨⟨by decide +kernel, by decide +kernel⟩, List.mem_of_getElem? (i := 68) (by decide +kernel), List.mem_of_getElem? (i := 194) (by decide +kernel), List.mem_of_getElem? (i := 195) (by decide +kernel)⟩
theorem lw_p8 : lw_okq (⟨"java/lang/Throwable", "fillInStackTrace", "(I)Ljava/lang/Throwable;"⟩, 6) := ⟨⟨by decide +kernel, by decide +kernel⟩, List.mem_of_getElem? (i := 255) (by decide +kernel), List.mem_of_getElem? (i := 253) (by decide +kernel), List.mem_of_getElem? (i := 254) (by decide +kernel)⟩
theorem lw_p9 : lw_okq (⟨"BoundedCodes$Making", "insert", "(I[J)V"⟩, 6) := ⟨⟨by decide +kernel, by decide +kernel⟩, List.mem_of_getElem? (i := 22) (by decide +kernel), List.mem_of_getElem? (i := 314) (by decide +kernel), List.mem_of_getElem? (i := 315) (by decide +kernel)⟩
theorem lw_p10 : lw_okq (⟨"BoundedCodes$Making", "buildRow", "(I[J)V"⟩, 6) := ⟨⟨by decide +kernel, by decide +kernel⟩, List.mem_of_getElem? (i := 22) (by decide +kernel), List.mem_of_getElem? (i := 322) (by decide +kernel), List.mem_of_getElem? (i := 323) (by decide +kernel)⟩
theorem lw_p11 : lw_okq (⟨"BoundedCodes$Making", "countTaken", "(I[I)V"⟩, 6) := ⟨⟨by decide +kernel, by decide +kernel⟩, List.mem_of_getElem? (i := 22) (by decide +kernel), List.mem_of_getElem? (i := 327) (by decide +kernel), List.mem_of_getElem? (i := 328) (by decide +kernel)⟩
theorem lw_p12 : lw_okq (⟨"BoundedCodes", "needCodes", "()V"⟩, 8) := ⟨⟨by decide +kernel, by decide +kernel⟩, List.mem_of_getElem? (i := 14) (by decide +kernel), List.mem_of_getElem? (i := 346) (by decide +kernel), List.mem_of_getElem? (i := 347) (by decide +kernel)⟩
theorem lw_p13 : lw_okq (⟨"BoundedCodes", "tellLength", "(II)Z"⟩, 8) := ⟨⟨by decide +kernel, by decide +kernel⟩, List.mem_of_getElem? (i := 14) (by decide +kernel), List.mem_of_getElem? (i := 375) (by decide +kernel), List.mem_of_getElem? (i := 376) (by decide +kernel)⟩
theorem lw_p14 : lw_okq (⟨"BoundedCodes", "takeSymbol", "(I)I"⟩, 8) := ⟨⟨by decide +kernel, by decide +kernel⟩, List.mem_of_getElem? (i := 14) (by decide +kernel), List.mem_of_getElem? (i := 416) (by decide +kernel), List.mem_of_getElem? (i := 417) (by decide +kernel)⟩
theorem lw_p15 : lw_okq (⟨"BoundedCodesModel", "fails", "(ZZ)Z"⟩, 17) := ⟨⟨by decide +kernel, by decide +kernel⟩, List.mem_of_getElem? (i := 431) (by decide +kernel), List.mem_of_getElem? (i := 502) (by decide +kernel), List.mem_of_getElem? (i := 503) (by decide +kernel)⟩
def lw_privs_1 : List (MethodName × Nat) := [(⟨"BoundedCodes", "dropAllRanges", "()V"⟩, 8), (⟨"BoundedCodes", "dropRange", "(I)V"⟩, 8), (⟨"BoundedCodes", "numberTold", "(II)I"⟩, 8), (⟨"BoundedCodes$Table", "countSharing", "()V"⟩, 6), (⟨"BoundedCodes$Table", "giveCodes", "()V"⟩, 6), (⟨"BoundedCodes$Table", "startLongestFirst", "()V"⟩, 6), (⟨"BoundedCodes$Table", "startShortestFirst", "()V"⟩, 6), (⟨"BoundedCodes$Table", "takeCode", "(I)I"⟩, 6), (⟨"java/lang/Throwable", "fillInStackTrace", "(I)Ljava/lang/Throwable;"⟩, 6), (⟨"BoundedCodes$Making", "insert", "(I[J)V"⟩, 6), (⟨"BoundedCodes$Making", "buildRow", "(I[J)V"⟩, 6), (⟨"BoundedCodes$Making", "countTaken", "(I[I)V"⟩, 6), (⟨"BoundedCodes", "needCodes", "()V"⟩, 8), (⟨"BoundedCodes", "tellLength", "(II)Z"⟩, 8), (⟨"BoundedCodes", "takeSymbol", "(I)I"⟩, 8), (⟨"BoundedCodesModel", "fails", "(ZZ)Z"⟩, 17)]
theorem lw_r1 : ∀ q ∈ lw_privs_1, lw_okq q := List.forall_mem_cons.mpr ⟨lw_p0, List.forall_mem_cons.mpr ⟨lw_p1, List.forall_mem_cons.mpr ⟨lw_p2, List.forall_mem_cons.mpr ⟨lw_p3, List.forall_mem_cons.mpr ⟨lw_p4, List.forall_mem_cons.mpr ⟨lw_p5, List.forall_mem_cons.mpr ⟨lw_p6, List.forall_mem_cons.mpr ⟨lw_p7, List.forall_mem_cons.mpr ⟨lw_p8, List.forall_mem_cons.mpr ⟨lw_p9, List.forall_mem_cons.mpr ⟨lw_p10, List.forall_mem_cons.mpr ⟨lw_p11, List.forall_mem_cons.mpr ⟨lw_p12, List.forall_mem_cons.mpr ⟨lw_p13, List.forall_mem_cons.mpr ⟨lw_p14, List.forall_mem_cons.mpr ⟨lw_p15, fun _ h => absurd h List.not_mem_nil⟩⟩⟩⟩⟩⟩⟩⟩⟩⟩⟩⟩⟩⟩⟩⟩
theorem lw_p16 : lw_okq (⟨"BoundedCodesModel", "sort", "()I"⟩, 17) := ⟨⟨by decide +kernel, by decide +kernel⟩, List.mem_of_getElem? (i := 431) (by decide +kernel), List.mem_of_getElem? (i := 510) (by decide +kernel), List.mem_of_getElem? (i := 511) (by decide +kernel)⟩
theorem lw_p17 : lw_okq (⟨"BoundedCodesModel", "pack", "(II)V"⟩, 17) := ⟨⟨by decide +kernel, by decide +kernel⟩, List.mem_of_getElem? (i := 431) (by decide +kernel), List.mem_of_getElem? (i := 514) (by decide +kernel), List.mem_of_getElem? (i := 515) (by decide +kernel)⟩
theorem lw_p18 : lw_okq (⟨"BoundedCodesModel", "fill", "()I"⟩, 17) := ⟨⟨by decide +kernel, by decide +kernel⟩, List.mem_of_getElem? (i := 431) (by decide +kernel), List.mem_of_getElem? (i := 526) (by decide +kernel), List.mem_of_getElem? (i := 527) (by decide +kernel)⟩
theorem lw_p19 : lw_okq (⟨"BoundedCodesModel", "makeCodes", "()V"⟩, 17) := ⟨⟨by decide +kernel, by decide +kernel⟩, List.mem_of_getElem? (i := 431) (by decide +kernel), List.mem_of_getElem? (i := 543) (by decide +kernel), List.mem_of_getElem? (i := 544) (by decide +kernel)⟩
theorem lw_p20 : lw_okq (⟨"BoundedCodesModel", "begins", "(II)Z"⟩, 17) := ⟨⟨by decide +kernel, by decide +kernel⟩, List.mem_of_getElem? (i := 431) (by decide +kernel), List.mem_of_getElem? (i := 556) (by decide +kernel), List.mem_of_getElem? (i := 557) (by decide +kernel)⟩
theorem lw_p21 : lw_okq (⟨"BoundedCodesModel", "take", "(I)I"⟩, 17) := ⟨⟨by decide +kernel, by decide +kernel⟩, List.mem_of_getElem? (i := 431) (by decide +kernel), List.mem_of_getElem? (i := 560) (by decide +kernel), List.mem_of_getElem? (i := 561) (by decide +kernel)⟩
theorem lw_p22 : lw_okq (⟨"BoundedCodesModel", "drop", "(I)V"⟩, 17) := ⟨⟨by decide +kernel, by decide +kernel⟩, List.mem_of_getElem? (i := 431) (by decide +kernel), List.mem_of_getElem? (i := 565) (by decide +kernel), List.mem_of_getElem? (i := 566) (by decide +kernel)⟩
def lw_privs_2 : List (MethodName × Nat) := [(⟨"BoundedCodesModel", "sort", "()I"⟩, 17), (⟨"BoundedCodesModel", "pack", "(II)V"⟩, 17), (⟨"BoundedCodesModel", "fill", "()I"⟩, 17), (⟨"BoundedCodesModel", "makeCodes", "()V"⟩, 17), (⟨"BoundedCodesModel", "begins", "(II)Z"⟩, 17), (⟨"BoundedCodesModel", "take", "(I)I"⟩, 17), (⟨"BoundedCodesModel", "drop", "(I)V"⟩, 17)]
theorem lw_r2 : ∀ q ∈ lw_privs_2, lw_okq q := List.forall_mem_cons.mpr ⟨lw_p16, List.forall_mem_cons.mpr ⟨lw_p17, List.forall_mem_cons.mpr ⟨lw_p18, List.forall_mem_cons.mpr ⟨lw_p19, List.forall_mem_cons.mpr ⟨lw_p20, List.forall_mem_cons.mpr ⟨lw_p21, List.forall_mem_cons.mpr ⟨lw_p22, fun _ h => absurd h List.not_mem_nil⟩⟩⟩⟩⟩⟩⟩
def lw_privs : List (MethodName × Nat) := lw_privs_1 ++ (lw_privs_2)
def lw_tbl : List Cond := k2_sels lw_privs ++ tables_1
theorem lw_privs_ok : ∀ q ∈ lw_privs, lw_okq q := by
  show ∀ q ∈ lw_privs_1 ++ (lw_privs_2), lw_okq q
  exact List.forall_mem_append.mpr ⟨lw_r1, lw_r2⟩

/-- the words that every method gets: all good ones of the tables -/
def TB : List Cond := lw_tbl.filter goodWord
theorem tb_l {w : Cond} (h : w ∈ lw_tbl) (g : goodWord w = true) : w ∈ TB := List.mem_filter.mpr ⟨h, g⟩
theorem tb_t (i : Nat) {w : Cond} (h : tables_1[i]? = some w) (g : goodWord w = true) : w ∈ TB := tb_l (List.mem_append_right _ (List.mem_of_getElem? h)) g
theorem tb_s (i : Nat) {w : Cond} (h : (k2_sels lw_privs)[i]? = some w) (g : goodWord w = true) : w ∈ TB := tb_l (List.mem_append_left _ (List.mem_of_getElem? h)) g
theorem tb_in {w : Cond} (h : w ∈ TB) : w ∈ lw_tbl := (List.mem_filter.mp h).1
theorem tb_good {w : Cond} (h : w ∈ TB) : (w.onTables && w.keeps) = true ∨ ∃ ty, w = .arrayClass ty := good_of_word (List.mem_filter.mp h).2
theorem tb_self : GoodIn TB TB := fun _ h => ⟨h, tb_good h⟩
theorem tb_cons {c : Cond} (h : c ∈ TB) : GoodIn TB (c :: TB) := fun w hw => (List.mem_cons.mp hw).elim (fun e => by rw [e]; exact ⟨h, tb_good h⟩) (fun h => ⟨h, tb_good h⟩)
end
section
def RK : String := "BoundedCodes$Making"
def FK : u_T := fun k => match k with
  | 0 => ("BoundedCodes$Making", "order", "[I", true)
  | 1 => ("BoundedCodes$Making", "placeOf", "[[I", true)
  | 2 => ("BoundedCodes$Making", "row", "[J", false)
  | 3 => ("BoundedCodes$Making", "nextRow", "[J", false)
  | 4 => ("BoundedCodes$Making", "rowSize", "I", false)
  | _ => ("BoundedCodes$Making", "counted", "I", false)
def tyK : Nat → FieldType := fun k => match k with
  | 0 => .array .int
  | 1 => .array (.array .int)
  | 2 => .array .long
  | 3 => .array .long
  | 4 => .int
  | _ => .int
theorem nmK : ∀ a, a < 6 → ∀ b, b < 6 → a ≠ b → (FK a).2.1 ≠ (FK b).2.1 := by decide +kernel
theorem okK : ∀ k, k < 6 → parseFieldDescriptor (FK k).2.2.1 = some (tyK k) := by decide +kernel
def RT : String := "BoundedCodes$Table"
def FT : u_T := fun k => match k with
  | 0 => ("BoundedCodes$Table", "rule", "I", true)
  | 1 => ("BoundedCodes$Table", "lengthOf", "[I", true)
  | 2 => ("BoundedCodes$Table", "codeOf", "[I", true)
  | 3 => ("BoundedCodes$Table", "sharing", "[I", true)
  | 4 => ("BoundedCodes$Table", "nextCode", "[I", true)
  | _ => ("BoundedCodes$Table", "fill", "I", false)
def tyT : Nat → FieldType := fun k => match k with
  | 0 => .int
  | 1 => .array .int
  | 2 => .array .int
  | 3 => .array .int
  | 4 => .array .int
  | _ => .int
theorem nmT : ∀ a, a < 6 → ∀ b, b < 6 → a ≠ b → (FT a).2.1 ≠ (FT b).2.1 := by decide +kernel
theorem okT : ∀ k, k < 6 → parseFieldDescriptor (FT k).2.2.1 = some (tyT k) := by decide +kernel
def RG : String := "BoundedCodes$WaitingBits"
def FG : u_T := fun k => match k with
  | 0 => ("BoundedCodes$WaitingBits", "ring", "[I", true)
  | 1 => ("BoundedCodes$WaitingBits", "start", "I", false)
  | _ => ("BoundedCodes$WaitingBits", "size", "I", false)
def tyG : Nat → FieldType := fun k => match k with
  | 0 => .array .int
  | 1 => .int
  | _ => .int
theorem nmG : ∀ a, a < 3 → ∀ b, b < 3 → a ≠ b → (FG a).2.1 ≠ (FG b).2.1 := by decide +kernel
theorem okG : ∀ k, k < 3 → parseFieldDescriptor (FG k).2.2.1 = some (tyG k) := by decide +kernel
def RB : String := "BoundedCodes"
def FB : u_T := fun k => match k with
  | 0 => ("BoundedCodes", "table", "LBoundedCodes$Table;", true)
  | 1 => ("BoundedCodes", "making", "LBoundedCodes$Making;", true)
  | 2 => ("BoundedCodes", "bits", "LBoundedCodes$WaitingBits;", true)
  | 3 => ("BoundedCodes", "countOf", "[J", true)
  | 4 => ("BoundedCodes", "lowOf", "[I", true)
  | 5 => ("BoundedCodes", "extraOf", "[I", true)
  | 6 => ("BoundedCodes", "wasRead", "Z", false)
  | _ => ("BoundedCodes", "lastValue", "J", false)
def tyB : Nat → FieldType := fun k => match k with
  | 0 => .object "BoundedCodes$Table"
  | 1 => .object "BoundedCodes$Making"
  | 2 => .object "BoundedCodes$WaitingBits"
  | 3 => .array .long
  | 4 => .array .int
  | 5 => .array .int
  | 6 => .boolean
  | _ => .long
theorem nmB : ∀ a, a < 8 → ∀ b, b < 8 → a ≠ b → (FB a).2.1 ≠ (FB b).2.1 := by decide +kernel
theorem okB : ∀ k, k < 8 → parseFieldDescriptor (FB k).2.2.1 = some (tyB k) := by decide +kernel
def RM : String := "BoundedCodesModel"
def FM : u_T := fun k => match k with
  | 0 => ("BoundedCodesModel", "code", "I", false)
  | 1 => ("BoundedCodesModel", "rule", "I", true)
  | 2 => ("BoundedCodesModel", "count", "[J", true)
  | 3 => ("BoundedCodesModel", "length", "[I", true)
  | 4 => ("BoundedCodesModel", "ranged", "[Z", true)
  | 5 => ("BoundedCodesModel", "low", "[I", true)
  | 6 => ("BoundedCodesModel", "extra", "[I", true)
  | 7 => ("BoundedCodesModel", "bits", "[I", true)
  | 8 => ("BoundedCodesModel", "waits", "I", false)
  | 9 => ("BoundedCodesModel", "wasRead", "Z", false)
  | 10 => ("BoundedCodesModel", "value", "J", false)
  | 11 => ("BoundedCodesModel", "order", "[I", true)
  | 12 => ("BoundedCodesModel", "row", "[I", true)
  | 13 => ("BoundedCodesModel", "size", "[I", true)
  | 14 => ("BoundedCodesModel", "sum", "[J", true)
  | 15 => ("BoundedCodesModel", "before", "[J", true)
  | _ => ("BoundedCodesModel", "codes", "[I", true)
def tyM : Nat → FieldType := fun k => match k with
  | 0 => .int
  | 1 => .int
  | 2 => .array .long
  | 3 => .array .int
  | 4 => .array .boolean
  | 5 => .array .int
  | 6 => .array .int
  | 7 => .array .int
  | 8 => .int
  | 9 => .boolean
  | 10 => .long
  | 11 => .array .int
  | 12 => .array .int
  | 13 => .array .int
  | 14 => .array .long
  | 15 => .array .long
  | _ => .array .int
theorem nmM : ∀ a, a < 17 → ∀ b, b < 17 → a ≠ b → (FM a).2.1 ≠ (FM b).2.1 := by decide +kernel
theorem okM : ∀ k, k < 17 → parseFieldDescriptor (FM k).2.2.1 = some (tyM k) := by decide +kernel
def RL : String := "BoundedCodesLaw"
/-- the classes whose objects the worlds hold: K 0, T 1, G 2, B 3, M 4 -/
abbrev CLS : List vw_C := [(RK, FK, 6), (RT, FT, 6), (RG, FG, 3), (RB, FB, 8), (RM, FM, 17)]
abbrev c_B_init : ByteArray := prog_1_method_1_code
def y_B_init : MethodName := ⟨RB, "<init>", "(I)V"⟩
abbrev k_B_init : Cond := .code y_B_init c_B_init 2 none
abbrev c_B_count : ByteArray := prog_1_method_2_code
def y_B_count : MethodName := ⟨RB, "count", "(IJ)Z"⟩
abbrev k_B_count : Cond := .code y_B_count c_B_count 5 (some .boolean)
abbrev c_B_make : ByteArray := prog_1_method_3_code
def y_B_make : MethodName := ⟨RB, "make", "(I)I"⟩
abbrev k_B_make : Cond := .code y_B_make c_B_make 3 (some .int)
abbrev c_B_length : ByteArray := prog_1_method_4_code
def y_B_length : MethodName := ⟨RB, "length", "(I)I"⟩
abbrev k_B_length : Cond := .code y_B_length c_B_length 2 (some .int)
abbrev c_B_code : ByteArray := prog_1_method_5_code
def y_B_code : MethodName := ⟨RB, "code", "(I)J"⟩
abbrev k_B_code : Cond := .code y_B_code c_B_code 2 (some .long)
abbrev c_B_given : ByteArray := prog_1_method_6_code
def y_B_given : MethodName := ⟨RB, "given", "(II)Z"⟩
abbrev k_B_given : Cond := .code y_B_given c_B_given 3 (some .boolean)
abbrev c_B_range : ByteArray := prog_1_method_7_code
def y_B_range : MethodName := ⟨RB, "range", "(IIII)Z"⟩
abbrev k_B_range : Cond := .code y_B_range c_B_range 5 (some .boolean)
abbrev c_B_check : ByteArray := prog_1_method_8_code
def y_B_check : MethodName := ⟨RB, "check", "()I"⟩
abbrev k_B_check : Cond := .code y_B_check c_B_check 1 (some .int)
abbrev c_B_feed : ByteArray := prog_1_method_9_code
def y_B_feed : MethodName := ⟨RB, "feed", "(I)Z"⟩
abbrev k_B_feed : Cond := .code y_B_feed c_B_feed 2 (some .boolean)
abbrev c_B_read : ByteArray := prog_1_method_10_code
def y_B_read : MethodName := ⟨RB, "read", "()I"⟩
abbrev k_B_read : Cond := .code y_B_read c_B_read 3 (some .int)
abbrev c_B_last : ByteArray := prog_1_method_11_code
def y_B_last : MethodName := ⟨RB, "last", "()J"⟩
abbrev k_B_last : Cond := .code y_B_last c_B_last 1 (some .long)
abbrev c_B_waiting : ByteArray := prog_1_method_12_code
def y_B_waiting : MethodName := ⟨RB, "waiting", "()I"⟩
abbrev k_B_waiting : Cond := .code y_B_waiting c_B_waiting 1 (some .int)
abbrev c_B_sum : ByteArray := prog_1_method_13_code
def y_B_sum : MethodName := ⟨RB, "sum", "()J"⟩
abbrev k_B_sum : Cond := .code y_B_sum c_B_sum 4 (some .long)
abbrev c_B_lengths : ByteArray := prog_1_method_14_code
def y_B_lengths : MethodName := ⟨RB, "lengths", "(I)I"⟩
abbrev k_B_lengths : Cond := .code y_B_lengths c_B_lengths 6 (some .int)
abbrev c_B_clear : ByteArray := prog_1_method_15_code
def y_B_clear : MethodName := ⟨RB, "clear", "()V"⟩
abbrev k_B_clear : Cond := .code y_B_clear c_B_clear 2 none
abbrev c_B_needSymbol : ByteArray := prog_1_method_16_code
def y_B_needSymbol : MethodName := ⟨RB, "needSymbol", "(I)V"⟩
abbrev k_B_needSymbol : Cond := .code y_B_needSymbol c_B_needSymbol 1 none
abbrev c_B_needCodes : ByteArray := prog_1_method_17_code
def y_B_needCodes : MethodName := ⟨RB, "needCodes", "()V"⟩
abbrev k_B_needCodes : Cond := .code y_B_needCodes c_B_needCodes 1 none
abbrev c_B_tellLength : ByteArray := prog_1_method_18_code
def y_B_tellLength : MethodName := ⟨RB, "tellLength", "(II)Z"⟩
abbrev k_B_tellLength : Cond := .code y_B_tellLength c_B_tellLength 3 (some .boolean)
abbrev c_B_dropRange : ByteArray := prog_1_method_19_code
def y_B_dropRange : MethodName := ⟨RB, "dropRange", "(I)V"⟩
abbrev k_B_dropRange : Cond := .code y_B_dropRange c_B_dropRange 2 none
abbrev c_B_dropAllRanges : ByteArray := prog_1_method_20_code
def y_B_dropAllRanges : MethodName := ⟨RB, "dropAllRanges", "()V"⟩
abbrev k_B_dropAllRanges : Cond := .code y_B_dropAllRanges c_B_dropAllRanges 2 none
abbrev c_B_takeSymbol : ByteArray := prog_1_method_21_code
def y_B_takeSymbol : MethodName := ⟨RB, "takeSymbol", "(I)I"⟩
abbrev k_B_takeSymbol : Cond := .code y_B_takeSymbol c_B_takeSymbol 8 (some .int)
abbrev c_B_numberTold : ByteArray := prog_1_method_22_code
def y_B_numberTold : MethodName := ⟨RB, "numberTold", "(II)I"⟩
abbrev k_B_numberTold : Cond := .code y_B_numberTold c_B_numberTold 5 (some .int)
abbrev c_B_lengthsToldBy : ByteArray := prog_1_method_23_code
def y_B_lengthsToldBy : MethodName := ⟨RB, "lengthsToldBy", "(I)I"⟩
abbrev k_B_lengthsToldBy : Cond := .code y_B_lengthsToldBy c_B_lengthsToldBy 1 (some .int)
abbrev c_M_init : ByteArray := prog_6_method_1_code
def y_M_init : MethodName := ⟨RM, "<init>", "(I)V"⟩
abbrev k_M_init : Cond := .code y_M_init c_M_init 2 none
abbrev c_M_thrown : ByteArray := prog_6_method_2_code
def y_M_thrown : MethodName := ⟨RM, "thrown", "()I"⟩
abbrev k_M_thrown : Cond := .code y_M_thrown c_M_thrown 1 (some .int)
abbrev c_M_fails : ByteArray := prog_6_method_3_code
def y_M_fails : MethodName := ⟨RM, "fails", "(ZZ)Z"⟩
abbrev k_M_fails : Cond := .code y_M_fails c_M_fails 3 (some .boolean)
abbrev c_M_isSymbol : ByteArray := prog_6_method_4_code
def y_M_isSymbol : MethodName := ⟨RM, "isSymbol", "(I)Z"⟩
abbrev k_M_isSymbol : Cond := .code y_M_isSymbol c_M_isSymbol 1 (some .boolean)
abbrev c_M_count : ByteArray := prog_6_method_5_code
def y_M_count : MethodName := ⟨RM, "count", "(IJ)Z"⟩
abbrev k_M_count : Cond := .code y_M_count c_M_count 5 (some .boolean)
abbrev c_M_sort : ByteArray := prog_6_method_6_code
def y_M_sort : MethodName := ⟨RM, "sort", "()I"⟩
abbrev k_M_sort : Cond := .code y_M_sort c_M_sort 4 (some .int)
abbrev c_M_pack : ByteArray := prog_6_method_7_code
def y_M_pack : MethodName := ⟨RM, "pack", "(II)V"⟩
abbrev k_M_pack : Cond := .code y_M_pack c_M_pack 9 none
abbrev c_M_make : ByteArray := prog_6_method_8_code
def y_M_make : MethodName := ⟨RM, "make", "(I)I"⟩
abbrev k_M_make : Cond := .code y_M_make c_M_make 8 (some .int)
abbrev c_M_length : ByteArray := prog_6_method_9_code
def y_M_length : MethodName := ⟨RM, "length", "(I)I"⟩
abbrev k_M_length : Cond := .code y_M_length c_M_length 2 (some .int)
abbrev c_M_fill : ByteArray := prog_6_method_10_code
def y_M_fill : MethodName := ⟨RM, "fill", "()I"⟩
abbrev k_M_fill : Cond := .code y_M_fill c_M_fill 3 (some .int)
abbrev c_M_check : ByteArray := prog_6_method_11_code
def y_M_check : MethodName := ⟨RM, "check", "()I"⟩
abbrev k_M_check : Cond := .code y_M_check c_M_check 1 (some .int)
abbrev c_M_given : ByteArray := prog_6_method_12_code
def y_M_given : MethodName := ⟨RM, "given", "(II)Z"⟩
abbrev k_M_given : Cond := .code y_M_given c_M_given 3 (some .boolean)
abbrev c_M_range : ByteArray := prog_6_method_13_code
def y_M_range : MethodName := ⟨RM, "range", "(IIII)Z"⟩
abbrev k_M_range : Cond := .code y_M_range c_M_range 5 (some .boolean)
abbrev c_M_makeCodes : ByteArray := prog_6_method_14_code
def y_M_makeCodes : MethodName := ⟨RM, "makeCodes", "()V"⟩
abbrev k_M_makeCodes : Cond := .code y_M_makeCodes c_M_makeCodes 7 none
abbrev c_M_code : ByteArray := prog_6_method_15_code
def y_M_code : MethodName := ⟨RM, "code", "(I)J"⟩
abbrev k_M_code : Cond := .code y_M_code c_M_code 2 (some .long)
abbrev c_M_feed : ByteArray := prog_6_method_16_code
def y_M_feed : MethodName := ⟨RM, "feed", "(I)Z"⟩
abbrev k_M_feed : Cond := .code y_M_feed c_M_feed 2 (some .boolean)
abbrev c_M_drop : ByteArray := prog_6_method_17_code
def y_M_drop : MethodName := ⟨RM, "drop", "(I)V"⟩
abbrev k_M_drop : Cond := .code y_M_drop c_M_drop 3 none
abbrev c_M_begins : ByteArray := prog_6_method_18_code
def y_M_begins : MethodName := ⟨RM, "begins", "(II)Z"⟩
abbrev k_M_begins : Cond := .code y_M_begins c_M_begins 5 (some .boolean)
abbrev c_M_read : ByteArray := prog_6_method_19_code
def y_M_read : MethodName := ⟨RM, "read", "()I"⟩
abbrev k_M_read : Cond := .code y_M_read c_M_read 5 (some .int)
abbrev c_M_take : ByteArray := prog_6_method_20_code
def y_M_take : MethodName := ⟨RM, "take", "(I)I"⟩
abbrev k_M_take : Cond := .code y_M_take c_M_take 6 (some .int)
abbrev c_M_last : ByteArray := prog_6_method_21_code
def y_M_last : MethodName := ⟨RM, "last", "()J"⟩
abbrev k_M_last : Cond := .code y_M_last c_M_last 1 (some .long)
abbrev c_M_waiting : ByteArray := prog_6_method_22_code
def y_M_waiting : MethodName := ⟨RM, "waiting", "()I"⟩
abbrev k_M_waiting : Cond := .code y_M_waiting c_M_waiting 1 (some .int)
abbrev c_M_sum : ByteArray := prog_6_method_23_code
def y_M_sum : MethodName := ⟨RM, "sum", "()J"⟩
abbrev k_M_sum : Cond := .code y_M_sum c_M_sum 4 (some .long)
abbrev c_M_lengths : ByteArray := prog_6_method_24_code
def y_M_lengths : MethodName := ⟨RM, "lengths", "(I)I"⟩
abbrev k_M_lengths : Cond := .code y_M_lengths c_M_lengths 8 (some .int)
abbrev c_M_clear : ByteArray := prog_6_method_25_code
def y_M_clear : MethodName := ⟨RM, "clear", "()V"⟩
abbrev k_M_clear : Cond := .code y_M_clear c_M_clear 2 none
abbrev c_K_init : ByteArray := prog_2_method_1_code
def y_K_init : MethodName := ⟨RK, "<init>", "()V"⟩
abbrev k_K_init : Cond := .code y_K_init c_K_init 1 none
abbrev c_K_sortSymbols : ByteArray := prog_2_method_2_code
def y_K_sortSymbols : MethodName := ⟨RK, "sortSymbols", "([J)I"⟩
abbrev k_K_sortSymbols : Cond := .code y_K_sortSymbols c_K_sortSymbols 3 (some .int)
abbrev c_K_insert : ByteArray := prog_2_method_3_code
def y_K_insert : MethodName := ⟨RK, "insert", "(I[J)V"⟩
abbrev k_K_insert : Cond := .code y_K_insert c_K_insert 4 none
abbrev c_K_makeLengths : ByteArray := prog_2_method_4_code
def y_K_makeLengths : MethodName := ⟨RK, "makeLengths", "([JI[I)V"⟩
abbrev k_K_makeLengths : Cond := .code y_K_makeLengths c_K_makeLengths 5 none
abbrev c_K_buildRow : ByteArray := prog_2_method_5_code
def y_K_buildRow : MethodName := ⟨RK, "buildRow", "(I[J)V"⟩
abbrev k_K_buildRow : Cond := .code y_K_buildRow c_K_buildRow 9 none
abbrev c_K_countTaken : ByteArray := prog_2_method_6_code
def y_K_countTaken : MethodName := ⟨RK, "countTaken", "(I[I)V"⟩
abbrev k_K_countTaken : Cond := .code y_K_countTaken c_K_countTaken 6 none
abbrev c_T_init : ByteArray := prog_3_method_1_code
def y_T_init : MethodName := ⟨RT, "<init>", "(I)V"⟩
abbrev k_T_init : Cond := .code y_T_init c_T_init 2 none
abbrev c_T_state : ByteArray := prog_3_method_2_code
def y_T_state : MethodName := ⟨RT, "state", "()I"⟩
abbrev k_T_state : Cond := .code y_T_state c_T_state 1 (some .int)
abbrev c_T_renew : ByteArray := prog_3_method_3_code
def y_T_renew : MethodName := ⟨RT, "renew", "()V"⟩
abbrev k_T_renew : Cond := .code y_T_renew c_T_renew 2 none
abbrev c_T_countSharing : ByteArray := prog_3_method_4_code
def y_T_countSharing : MethodName := ⟨RT, "countSharing", "()V"⟩
abbrev k_T_countSharing : Cond := .code y_T_countSharing c_T_countSharing 2 none
abbrev c_T_giveCodes : ByteArray := prog_3_method_5_code
def y_T_giveCodes : MethodName := ⟨RT, "giveCodes", "()V"⟩
abbrev k_T_giveCodes : Cond := .code y_T_giveCodes c_T_giveCodes 2 none
abbrev c_T_takeCode : ByteArray := prog_3_method_6_code
def y_T_takeCode : MethodName := ⟨RT, "takeCode", "(I)I"⟩
abbrev k_T_takeCode : Cond := .code y_T_takeCode c_T_takeCode 3 (some .int)
abbrev c_T_startShortestFirst : ByteArray := prog_3_method_7_code
def y_T_startShortestFirst : MethodName := ⟨RT, "startShortestFirst", "()V"⟩
abbrev k_T_startShortestFirst : Cond := .code y_T_startShortestFirst c_T_startShortestFirst 3 none
abbrev c_T_startLongestFirst : ByteArray := prog_3_method_8_code
def y_T_startLongestFirst : MethodName := ⟨RT, "startLongestFirst", "()V"⟩
abbrev k_T_startLongestFirst : Cond := .code y_T_startLongestFirst c_T_startLongestFirst 3 none
abbrev c_T_symbolBegunBy : ByteArray := prog_3_method_9_code
def y_T_symbolBegunBy : MethodName := ⟨RT, "symbolBegunBy", "(II)I"⟩
abbrev k_T_symbolBegunBy : Cond := .code y_T_symbolBegunBy c_T_symbolBegunBy 5 (some .int)
abbrev c_T_endOfLengths : ByteArray := prog_3_method_10_code
def y_T_endOfLengths : MethodName := ⟨RT, "endOfLengths", "()I"⟩
abbrev k_T_endOfLengths : Cond := .code y_T_endOfLengths c_T_endOfLengths 2 (some .int)
abbrev c_T_runOf : ByteArray := prog_3_method_11_code
def y_T_runOf : MethodName := ⟨RT, "runOf", "(III)I"⟩
abbrev k_T_runOf : Cond := .code y_T_runOf c_T_runOf 5 (some .int)
abbrev c_G_init : ByteArray := prog_4_method_1_code
def y_G_init : MethodName := ⟨RG, "<init>", "()V"⟩
abbrev k_G_init : Cond := .code y_G_init c_G_init 1 none
abbrev c_G_append : ByteArray := prog_4_method_2_code
def y_G_append : MethodName := ⟨RG, "append", "(I)Z"⟩
abbrev k_G_append : Cond := .code y_G_append c_G_append 2 (some .boolean)
abbrev c_G_number : ByteArray := prog_4_method_3_code
def y_G_number : MethodName := ⟨RG, "number", "(II)J"⟩
abbrev k_G_number : Cond := .code y_G_number c_G_number 6 (some .long)
abbrev c_G_drop : ByteArray := prog_4_method_4_code
def y_G_drop : MethodName := ⟨RG, "drop", "(I)V"⟩
abbrev k_G_drop : Cond := .code y_G_drop c_G_drop 2 none
abbrev c_L_cell : ByteArray := method_2_code
def y_L_cell : MethodName := ⟨RL, "cell", "([II)I"⟩
abbrev k_L_cell : Cond := .code y_L_cell c_L_cell 2 (some .int)
abbrev c_L_count : ByteArray := method_3_code
def y_L_count : MethodName := ⟨RL, "count", "(LBoundedCodes;IJ[J)I"⟩
abbrev k_L_count : Cond := .codeWith y_L_count c_L_count 6 (some .int) [(0, 18, 21, 13), (0, 18, 25, 15)]
abbrev c_L_make : ByteArray := method_4_code
def y_L_make : MethodName := ⟨RL, "make", "(LBoundedCodes;I[J)I"⟩
abbrev k_L_make : Cond := .codeWith y_L_make c_L_make 4 (some .int) [(0, 9, 12, 15)]
abbrev c_L_length : ByteArray := method_5_code
def y_L_length : MethodName := ⟨RL, "length", "(LBoundedCodes;I[J)I"⟩
abbrev k_L_length : Cond := .codeWith y_L_length c_L_length 4 (some .int) [(0, 9, 12, 13)]
abbrev c_L_code : ByteArray := method_6_code
def y_L_code : MethodName := ⟨RL, "code", "(LBoundedCodes;I[J)I"⟩
abbrev k_L_code : Cond := .codeWith y_L_code c_L_code 4 (some .int) [(0, 8, 11, 13), (0, 8, 14, 28)]
abbrev c_L_given : ByteArray := method_7_code
def y_L_given : MethodName := ⟨RL, "given", "(LBoundedCodes;II[J)I"⟩
abbrev k_L_given : Cond := .codeWith y_L_given c_L_given 5 (some .int) [(0, 17, 20, 13), (0, 17, 24, 15)]
abbrev c_L_range : ByteArray := method_8_code
def y_L_range : MethodName := ⟨RL, "range", "(LBoundedCodes;IIII[J)I"⟩
abbrev k_L_range : Cond := .codeWith y_L_range c_L_range 7 (some .int) [(0, 21, 24, 13), (0, 21, 28, 15)]
abbrev c_L_feed : ByteArray := method_9_code
def y_L_feed : MethodName := ⟨RL, "feed", "(LBoundedCodes;I[J)I"⟩
abbrev k_L_feed : Cond := .codeWith y_L_feed c_L_feed 4 (some .int) [(0, 16, 19, 15)]
abbrev c_L_read : ByteArray := method_10_code
def y_L_read : MethodName := ⟨RL, "read", "(LBoundedCodes;[J)I"⟩
abbrev k_L_read : Cond := .codeWith y_L_read c_L_read 3 (some .int) [(0, 8, 11, 28)]
abbrev c_L_last : ByteArray := method_11_code
def y_L_last : MethodName := ⟨RL, "last", "(LBoundedCodes;[J)I"⟩
abbrev k_L_last : Cond := .codeWith y_L_last c_L_last 3 (some .int) [(0, 7, 10, 15)]
abbrev c_L_law : ByteArray := code
def y_L_law : MethodName := ⟨RL, "law", "([I)Z"⟩
end
section
theorem tw_0 : Cond.initialized "BoundedCodesLaw" ∈ TB := tb_t 0 rfl rfl
theorem tw_1 : Cond.initialized "BoundedCodes" ∈ TB := tb_t 1 rfl rfl
theorem tw_2 : Cond.initialized "BoundedCodes$Making" ∈ TB := tb_t 2 rfl rfl
theorem tw_3 : Cond.initialized "BoundedCodes$WaitingBits" ∈ TB := tb_t 3 rfl rfl
theorem tw_4 : Cond.initialized "BoundedCodes$Table" ∈ TB := tb_t 4 rfl rfl
theorem tw_5 : Cond.initialized "java/lang/Math" ∈ TB := tb_t 5 rfl rfl
theorem tw_6 : Cond.initialized "BoundedCodesModel" ∈ TB := tb_t 6 rfl rfl
theorem tw_7 : Cond.initialized "java/lang/Throwable" ∈ TB := tb_t 7 rfl rfl
theorem tw_8 : Cond.initialized "java/lang/Exception" ∈ TB := tb_t 8 rfl rfl
theorem tw_9 : Cond.initialized "java/lang/RuntimeException" ∈ TB := tb_t 9 rfl rfl
theorem tw_10 : Cond.initialized "java/lang/IndexOutOfBoundsException" ∈ TB := tb_t 10 rfl rfl
theorem tw_11 : Cond.initialized "java/lang/IllegalArgumentException" ∈ TB := tb_t 11 rfl rfl
theorem tw_12 : Cond.initialized "java/lang/IllegalStateException" ∈ TB := tb_t 12 rfl rfl
theorem tw_13 : Cond.classLink "BoundedCodesLaw" 8 "BoundedCodes" ∈ TB := tb_t 13 rfl rfl
theorem tw_14 : Cond.instantiable "BoundedCodes" 8 ∈ TB := tb_t 14 rfl rfl
theorem tw_15 : Cond.methodLink "BoundedCodesLaw" 56 y_B_init ∈ TB := tb_t 15 rfl rfl
theorem tw_16 : Cond.instanceMethod y_B_init ∈ TB := tb_t 16 rfl rfl
theorem tw_17 : k_B_init ∈ TB := tb_t 17 rfl rfl
theorem tw_18 : Cond.methodLink "BoundedCodes" 1 ⟨"java/lang/Object", "<init>", "()V"⟩ ∈ TB := tb_t 18 rfl rfl
theorem tw_19 : Cond.instanceMethod ⟨"java/lang/Object", "<init>", "()V"⟩ ∈ TB := tb_t 19 rfl rfl
theorem tw_20 : Cond.code ⟨"java/lang/Object", "<init>", "()V"⟩ object_method_1_code 1 (Option.none : Option Jvm.ClassFile.FieldType) ∈ TB := tb_t 20 rfl rfl
theorem tw_21 : Cond.classLink "BoundedCodes" 7 "BoundedCodes$Making" ∈ TB := tb_t 21 rfl rfl
theorem tw_22 : Cond.instantiable "BoundedCodes$Making" 6 ∈ TB := tb_t 22 rfl rfl
theorem tn_23 : Cond.methodLinkNest "BoundedCodes" 9 y_K_init "BoundedCodes" ∈ lw_tbl := List.mem_append_right _ (List.mem_of_getElem? (i := 23) rfl)
theorem tw_24 : Cond.instanceMethod y_K_init ∈ TB := tb_t 24 rfl rfl
theorem tw_25 : k_K_init ∈ TB := tb_t 25 rfl rfl
theorem tw_26 : Cond.methodLink "BoundedCodes$Making" 3 ⟨"java/lang/Object", "<init>", "()V"⟩ ∈ TB := tb_t 26 rfl rfl
theorem tw_27 : Cond.classLink "BoundedCodes$Making" 15 "[[I" ∈ TB := tb_t 27 rfl rfl
theorem tn_28 : Cond.arrayOver (Jvm.ClassFile.FieldType.array Jvm.ClassFile.FieldType.int) ∈ lw_tbl := List.mem_append_right _ (List.mem_of_getElem? (i := 28) rfl)
theorem tw_29 : Cond.fieldLink "BoundedCodes$Making" 9 "BoundedCodes$Making" "order" "[I" ∈ TB := tb_t 29 rfl rfl
theorem tw_30 : Cond.fieldLink "BoundedCodes$Making" 17 "BoundedCodes$Making" "placeOf" "[[I" ∈ TB := tb_t 30 rfl rfl
theorem tw_31 : Cond.fieldLink "BoundedCodes$Making" 20 "BoundedCodes$Making" "row" "[J" ∈ TB := tb_t 31 rfl rfl
theorem tw_32 : Cond.fieldLink "BoundedCodes$Making" 24 "BoundedCodes$Making" "nextRow" "[J" ∈ TB := tb_t 32 rfl rfl
theorem tw_33 : Cond.fieldLink "BoundedCodes$Making" 27 "BoundedCodes$Making" "rowSize" "I" ∈ TB := tb_t 33 rfl rfl
theorem tw_34 : Cond.fieldLink "BoundedCodes$Making" 31 "BoundedCodes$Making" "counted" "I" ∈ TB := tb_t 34 rfl rfl
theorem tw_35 : Cond.laysFinal "BoundedCodes$Making" "BoundedCodes$Making" "order" "[I" ∈ TB := tb_t 35 rfl rfl
theorem tw_36 : Cond.soleField "BoundedCodes$Making" "order" ∈ TB := tb_t 36 rfl rfl
theorem tw_37 : Cond.laysFinal "BoundedCodes$Making" "BoundedCodes$Making" "placeOf" "[[I" ∈ TB := tb_t 37 rfl rfl
theorem tw_38 : Cond.soleField "BoundedCodes$Making" "placeOf" ∈ TB := tb_t 38 rfl rfl
theorem tw_39 : Cond.lays "BoundedCodes$Making" "BoundedCodes$Making" "row" "[J" ∈ TB := tb_t 39 rfl rfl
theorem tw_40 : Cond.soleField "BoundedCodes$Making" "row" ∈ TB := tb_t 40 rfl rfl
theorem tw_41 : Cond.lays "BoundedCodes$Making" "BoundedCodes$Making" "nextRow" "[J" ∈ TB := tb_t 41 rfl rfl
theorem tw_42 : Cond.soleField "BoundedCodes$Making" "nextRow" ∈ TB := tb_t 42 rfl rfl
theorem tw_43 : Cond.lays "BoundedCodes$Making" "BoundedCodes$Making" "rowSize" "I" ∈ TB := tb_t 43 rfl rfl
theorem tw_44 : Cond.soleField "BoundedCodes$Making" "rowSize" ∈ TB := tb_t 44 rfl rfl
theorem tw_45 : Cond.lays "BoundedCodes$Making" "BoundedCodes$Making" "counted" "I" ∈ TB := tb_t 45 rfl rfl
theorem tw_46 : Cond.soleField "BoundedCodes$Making" "counted" ∈ TB := tb_t 46 rfl rfl
theorem tw_47 : Cond.superclass "BoundedCodes$Making" "java/lang/Object" ∈ TB := tb_t 47 rfl rfl
theorem tw_48 : Cond.arrayClass Jvm.ClassFile.FieldType.int ∈ TB := tb_t 48 rfl rfl
theorem tw_49 : Cond.arrayClass Jvm.ClassFile.FieldType.long ∈ TB := tb_t 49 rfl rfl
theorem tw_50 : Cond.classLink "BoundedCodes" 16 "BoundedCodes$WaitingBits" ∈ TB := tb_t 50 rfl rfl
theorem tw_51 : Cond.instantiable "BoundedCodes$WaitingBits" 3 ∈ TB := tb_t 51 rfl rfl
theorem tn_52 : Cond.methodLinkNest "BoundedCodes" 18 y_G_init "BoundedCodes" ∈ lw_tbl := List.mem_append_right _ (List.mem_of_getElem? (i := 52) rfl)
theorem tw_53 : Cond.instanceMethod y_G_init ∈ TB := tb_t 53 rfl rfl
theorem tw_54 : k_G_init ∈ TB := tb_t 54 rfl rfl
theorem tw_55 : Cond.methodLink "BoundedCodes$WaitingBits" 3 ⟨"java/lang/Object", "<init>", "()V"⟩ ∈ TB := tb_t 55 rfl rfl
theorem tw_56 : Cond.fieldLink "BoundedCodes$WaitingBits" 9 "BoundedCodes$WaitingBits" "ring" "[I" ∈ TB := tb_t 56 rfl rfl
theorem tw_57 : Cond.fieldLink "BoundedCodes$WaitingBits" 15 "BoundedCodes$WaitingBits" "start" "I" ∈ TB := tb_t 57 rfl rfl
theorem tw_58 : Cond.fieldLink "BoundedCodes$WaitingBits" 19 "BoundedCodes$WaitingBits" "size" "I" ∈ TB := tb_t 58 rfl rfl
theorem tn_59 : Cond.fieldLinkNest "BoundedCodes" 119 "BoundedCodes$WaitingBits" "size" "I" "BoundedCodes" ∈ lw_tbl := List.mem_append_right _ (List.mem_of_getElem? (i := 59) rfl)
theorem tw_60 : Cond.laysFinal "BoundedCodes$WaitingBits" "BoundedCodes$WaitingBits" "ring" "[I" ∈ TB := tb_t 60 rfl rfl
theorem tw_61 : Cond.soleField "BoundedCodes$WaitingBits" "ring" ∈ TB := tb_t 61 rfl rfl
theorem tw_62 : Cond.lays "BoundedCodes$WaitingBits" "BoundedCodes$WaitingBits" "start" "I" ∈ TB := tb_t 62 rfl rfl
theorem tw_63 : Cond.soleField "BoundedCodes$WaitingBits" "start" ∈ TB := tb_t 63 rfl rfl
theorem tw_64 : Cond.lays "BoundedCodes$WaitingBits" "BoundedCodes$WaitingBits" "size" "I" ∈ TB := tb_t 64 rfl rfl
theorem tw_65 : Cond.soleField "BoundedCodes$WaitingBits" "size" ∈ TB := tb_t 65 rfl rfl
theorem tw_66 : Cond.superclass "BoundedCodes$WaitingBits" "java/lang/Object" ∈ TB := tb_t 66 rfl rfl
theorem tw_67 : Cond.classLink "BoundedCodes" 42 "BoundedCodes$Table" ∈ TB := tb_t 67 rfl rfl
theorem tw_68 : Cond.instantiable "BoundedCodes$Table" 6 ∈ TB := tb_t 68 rfl rfl
theorem tw_69 : Cond.methodLink "BoundedCodes" 44 ⟨"java/lang/Math", "floorMod", "(II)I"⟩ ∈ TB := tb_t 69 rfl rfl
theorem tw_70 : Cond.static ⟨"java/lang/Math", "floorMod", "(II)I"⟩ ∈ TB := tb_t 70 rfl rfl
theorem tw_71 : Cond.code ⟨"java/lang/Math", "floorMod", "(II)I"⟩ prog_11_method_50_code 3 (Option.some Jvm.ClassFile.FieldType.int) ∈ TB := tb_t 71 rfl rfl
theorem tw_72 : Cond.methodLink "BoundedCodes" 50 y_T_init ∈ TB := tb_t 72 rfl rfl
theorem tw_73 : Cond.instanceMethod y_T_init ∈ TB := tb_t 73 rfl rfl
theorem tw_74 : k_T_init ∈ TB := tb_t 74 rfl rfl
theorem tw_75 : Cond.methodLink "BoundedCodes$Table" 3 ⟨"java/lang/Object", "<init>", "()V"⟩ ∈ TB := tb_t 75 rfl rfl
theorem tw_76 : Cond.fieldLink "BoundedCodes$Table" 28 "BoundedCodes$Table" "rule" "I" ∈ TB := tb_t 76 rfl rfl
theorem tw_77 : Cond.fieldLink "BoundedCodes$Table" 9 "BoundedCodes$Table" "lengthOf" "[I" ∈ TB := tb_t 77 rfl rfl
theorem tn_78 : Cond.fieldLinkNest "BoundedCodes" 78 "BoundedCodes$Table" "lengthOf" "[I" "BoundedCodes" ∈ lw_tbl := List.mem_append_right _ (List.mem_of_getElem? (i := 78) rfl)
theorem tw_79 : Cond.fieldLink "BoundedCodes$Table" 15 "BoundedCodes$Table" "codeOf" "[I" ∈ TB := tb_t 79 rfl rfl
theorem tn_80 : Cond.fieldLinkNest "BoundedCodes" 93 "BoundedCodes$Table" "codeOf" "[I" "BoundedCodes" ∈ lw_tbl := List.mem_append_right _ (List.mem_of_getElem? (i := 80) rfl)
theorem tw_81 : Cond.fieldLink "BoundedCodes$Table" 18 "BoundedCodes$Table" "sharing" "[I" ∈ TB := tb_t 81 rfl rfl
theorem tw_82 : Cond.fieldLink "BoundedCodes$Table" 21 "BoundedCodes$Table" "nextCode" "[I" ∈ TB := tb_t 82 rfl rfl
theorem tw_83 : Cond.fieldLink "BoundedCodes$Table" 24 "BoundedCodes$Table" "fill" "I" ∈ TB := tb_t 83 rfl rfl
theorem tw_84 : Cond.laysFinal "BoundedCodes$Table" "BoundedCodes$Table" "rule" "I" ∈ TB := tb_t 84 rfl rfl
theorem tw_85 : Cond.soleField "BoundedCodes$Table" "rule" ∈ TB := tb_t 85 rfl rfl
theorem tw_86 : Cond.laysFinal "BoundedCodes$Table" "BoundedCodes$Table" "lengthOf" "[I" ∈ TB := tb_t 86 rfl rfl
theorem tw_87 : Cond.soleField "BoundedCodes$Table" "lengthOf" ∈ TB := tb_t 87 rfl rfl
theorem tw_88 : Cond.laysFinal "BoundedCodes$Table" "BoundedCodes$Table" "codeOf" "[I" ∈ TB := tb_t 88 rfl rfl
theorem tw_89 : Cond.soleField "BoundedCodes$Table" "codeOf" ∈ TB := tb_t 89 rfl rfl
theorem tw_90 : Cond.laysFinal "BoundedCodes$Table" "BoundedCodes$Table" "sharing" "[I" ∈ TB := tb_t 90 rfl rfl
theorem tw_91 : Cond.soleField "BoundedCodes$Table" "sharing" ∈ TB := tb_t 91 rfl rfl
theorem tw_92 : Cond.laysFinal "BoundedCodes$Table" "BoundedCodes$Table" "nextCode" "[I" ∈ TB := tb_t 92 rfl rfl
theorem tw_93 : Cond.soleField "BoundedCodes$Table" "nextCode" ∈ TB := tb_t 93 rfl rfl
theorem tw_94 : Cond.lays "BoundedCodes$Table" "BoundedCodes$Table" "fill" "I" ∈ TB := tb_t 94 rfl rfl
theorem tw_95 : Cond.soleField "BoundedCodes$Table" "fill" ∈ TB := tb_t 95 rfl rfl
theorem tw_96 : Cond.superclass "BoundedCodes$Table" "java/lang/Object" ∈ TB := tb_t 96 rfl rfl
theorem tw_97 : Cond.methodLink "BoundedCodes" 57 y_B_dropAllRanges ∈ TB := tb_t 97 rfl rfl
theorem tw_99 : Cond.instanceMethod y_B_dropAllRanges ∈ TB := tb_t 99 rfl rfl
theorem tw_100 : k_B_dropAllRanges ∈ TB := tb_t 100 rfl rfl
theorem tw_101 : Cond.methodLink "BoundedCodes" 98 y_B_dropRange ∈ TB := tb_t 101 rfl rfl
theorem tw_103 : Cond.instanceMethod y_B_dropRange ∈ TB := tb_t 103 rfl rfl
theorem tw_104 : k_B_dropRange ∈ TB := tb_t 104 rfl rfl
theorem tw_105 : Cond.fieldLink "BoundedCodes" 53 "BoundedCodes" "table" "LBoundedCodes$Table;" ∈ TB := tb_t 105 rfl rfl
theorem tw_106 : Cond.fieldLink "BoundedCodes" 10 "BoundedCodes" "making" "LBoundedCodes$Making;" ∈ TB := tb_t 106 rfl rfl
theorem tw_107 : Cond.fieldLink "BoundedCodes" 19 "BoundedCodes" "bits" "LBoundedCodes$WaitingBits;" ∈ TB := tb_t 107 rfl rfl
theorem tw_108 : Cond.fieldLink "BoundedCodes" 23 "BoundedCodes" "countOf" "[J" ∈ TB := tb_t 108 rfl rfl
theorem tw_109 : Cond.fieldLink "BoundedCodes" 27 "BoundedCodes" "lowOf" "[I" ∈ TB := tb_t 109 rfl rfl
theorem tw_110 : Cond.fieldLink "BoundedCodes" 31 "BoundedCodes" "extraOf" "[I" ∈ TB := tb_t 110 rfl rfl
theorem tw_111 : Cond.fieldLink "BoundedCodes" 34 "BoundedCodes" "wasRead" "Z" ∈ TB := tb_t 111 rfl rfl
theorem tw_112 : Cond.fieldLink "BoundedCodes" 38 "BoundedCodes" "lastValue" "J" ∈ TB := tb_t 112 rfl rfl
theorem tw_113 : Cond.laysFinal "BoundedCodes" "BoundedCodes" "table" "LBoundedCodes$Table;" ∈ TB := tb_t 113 rfl rfl
theorem tw_114 : Cond.soleField "BoundedCodes" "table" ∈ TB := tb_t 114 rfl rfl
theorem tw_115 : Cond.laysFinal "BoundedCodes" "BoundedCodes" "making" "LBoundedCodes$Making;" ∈ TB := tb_t 115 rfl rfl
theorem tw_116 : Cond.soleField "BoundedCodes" "making" ∈ TB := tb_t 116 rfl rfl
theorem tw_117 : Cond.laysFinal "BoundedCodes" "BoundedCodes" "bits" "LBoundedCodes$WaitingBits;" ∈ TB := tb_t 117 rfl rfl
theorem tw_118 : Cond.soleField "BoundedCodes" "bits" ∈ TB := tb_t 118 rfl rfl
theorem tw_119 : Cond.laysFinal "BoundedCodes" "BoundedCodes" "countOf" "[J" ∈ TB := tb_t 119 rfl rfl
theorem tw_120 : Cond.soleField "BoundedCodes" "countOf" ∈ TB := tb_t 120 rfl rfl
theorem tw_121 : Cond.laysFinal "BoundedCodes" "BoundedCodes" "lowOf" "[I" ∈ TB := tb_t 121 rfl rfl
theorem tw_122 : Cond.soleField "BoundedCodes" "lowOf" ∈ TB := tb_t 122 rfl rfl
theorem tw_123 : Cond.laysFinal "BoundedCodes" "BoundedCodes" "extraOf" "[I" ∈ TB := tb_t 123 rfl rfl
theorem tw_124 : Cond.soleField "BoundedCodes" "extraOf" ∈ TB := tb_t 124 rfl rfl
theorem tw_125 : Cond.lays "BoundedCodes" "BoundedCodes" "wasRead" "Z" ∈ TB := tb_t 125 rfl rfl
theorem tw_126 : Cond.soleField "BoundedCodes" "wasRead" ∈ TB := tb_t 126 rfl rfl
theorem tw_127 : Cond.lays "BoundedCodes" "BoundedCodes" "lastValue" "J" ∈ TB := tb_t 127 rfl rfl
theorem tw_128 : Cond.soleField "BoundedCodes" "lastValue" ∈ TB := tb_t 128 rfl rfl
theorem tw_129 : Cond.superclass "BoundedCodes" "java/lang/Object" ∈ TB := tb_t 129 rfl rfl
theorem tw_130 : Cond.methodLink "BoundedCodesLaw" 89 y_B_check ∈ TB := tb_t 130 rfl rfl
theorem tw_131 : Cond.instanceMethod y_B_check ∈ TB := tb_t 131 rfl rfl
theorem tw_132 : Cond.selects "BoundedCodes" y_B_check y_B_check ∈ TB := tb_t 132 rfl rfl
theorem tw_133 : k_B_check ∈ TB := tb_t 133 rfl rfl
theorem tw_134 : Cond.methodLink "BoundedCodes" 109 y_T_state ∈ TB := tb_t 134 rfl rfl
theorem tw_135 : Cond.instanceMethod y_T_state ∈ TB := tb_t 135 rfl rfl
theorem tw_136 : Cond.selects "BoundedCodes$Table" y_T_state y_T_state ∈ TB := tb_t 136 rfl rfl
theorem tw_137 : k_T_state ∈ TB := tb_t 137 rfl rfl
theorem tw_138 : Cond.constant "BoundedCodes$Table" 31 (65536 : Int32) ∈ TB := tb_t 138 rfl rfl
theorem tw_139 : Cond.methodLink "BoundedCodesLaw" 103 y_B_waiting ∈ TB := tb_t 139 rfl rfl
theorem tw_140 : Cond.instanceMethod y_B_waiting ∈ TB := tb_t 140 rfl rfl
theorem tw_141 : Cond.selects "BoundedCodes" y_B_waiting y_B_waiting ∈ TB := tb_t 141 rfl rfl
theorem tw_142 : k_B_waiting ∈ TB := tb_t 142 rfl rfl
theorem tw_143 : Cond.methodLink "BoundedCodesLaw" 107 y_B_sum ∈ TB := tb_t 143 rfl rfl
theorem tw_144 : Cond.instanceMethod y_B_sum ∈ TB := tb_t 144 rfl rfl
theorem tw_145 : Cond.selects "BoundedCodes" y_B_sum y_B_sum ∈ TB := tb_t 145 rfl rfl
theorem tw_146 : k_B_sum ∈ TB := tb_t 146 rfl rfl
theorem tw_147 : Cond.methodLink "BoundedCodesLaw" 111 y_B_lengths ∈ TB := tb_t 147 rfl rfl
theorem tw_148 : Cond.instanceMethod y_B_lengths ∈ TB := tb_t 148 rfl rfl
theorem tw_149 : Cond.selects "BoundedCodes" y_B_lengths y_B_lengths ∈ TB := tb_t 149 rfl rfl
theorem tw_150 : k_B_lengths ∈ TB := tb_t 150 rfl rfl
theorem tw_151 : Cond.methodLink "BoundedCodes" 139 y_T_endOfLengths ∈ TB := tb_t 151 rfl rfl
theorem tw_152 : Cond.instanceMethod y_T_endOfLengths ∈ TB := tb_t 152 rfl rfl
theorem tw_153 : Cond.selects "BoundedCodes$Table" y_T_endOfLengths y_T_endOfLengths ∈ TB := tb_t 153 rfl rfl
theorem tw_154 : k_T_endOfLengths ∈ TB := tb_t 154 rfl rfl
theorem tw_155 : Cond.methodLink "BoundedCodes" 142 y_B_numberTold ∈ TB := tb_t 155 rfl rfl
theorem tw_157 : Cond.instanceMethod y_B_numberTold ∈ TB := tb_t 157 rfl rfl
theorem tw_158 : k_B_numberTold ∈ TB := tb_t 158 rfl rfl
theorem tw_159 : Cond.methodLink "BoundedCodes" 161 y_T_runOf ∈ TB := tb_t 159 rfl rfl
theorem tw_160 : Cond.instanceMethod y_T_runOf ∈ TB := tb_t 160 rfl rfl
theorem tw_161 : Cond.selects "BoundedCodes$Table" y_T_runOf y_T_runOf ∈ TB := tb_t 161 rfl rfl
theorem tw_162 : k_T_runOf ∈ TB := tb_t 162 rfl rfl
theorem tw_163 : Cond.methodLink "BoundedCodes" 165 ⟨"java/lang/Math", "min", "(II)I"⟩ ∈ TB := tb_t 163 rfl rfl
theorem tw_164 : Cond.static ⟨"java/lang/Math", "min", "(II)I"⟩ ∈ TB := tb_t 164 rfl rfl
theorem tw_165 : Cond.code ⟨"java/lang/Math", "min", "(II)I"⟩ prog_11_method_69_code 2 (Option.some Jvm.ClassFile.FieldType.int) ∈ TB := tb_t 165 rfl rfl
theorem tw_166 : Cond.methodLink "BoundedCodes" 145 y_B_lengthsToldBy ∈ TB := tb_t 166 rfl rfl
theorem tw_167 : Cond.static y_B_lengthsToldBy ∈ TB := tb_t 167 rfl rfl
theorem tw_168 : k_B_lengthsToldBy ∈ TB := tb_t 168 rfl rfl
theorem tw_169 : Cond.methodLink "BoundedCodesLaw" 115 y_B_clear ∈ TB := tb_t 169 rfl rfl
theorem tw_170 : Cond.instanceMethod y_B_clear ∈ TB := tb_t 170 rfl rfl
theorem tw_171 : Cond.selects "BoundedCodes" y_B_clear y_B_clear ∈ TB := tb_t 171 rfl rfl
theorem tw_172 : k_B_clear ∈ TB := tb_t 172 rfl rfl
theorem tw_173 : Cond.methodLink "BoundedCodes" 85 y_T_renew ∈ TB := tb_t 173 rfl rfl
theorem tw_174 : Cond.instanceMethod y_T_renew ∈ TB := tb_t 174 rfl rfl
theorem tw_175 : Cond.selects "BoundedCodes$Table" y_T_renew y_T_renew ∈ TB := tb_t 175 rfl rfl
theorem tw_176 : k_T_renew ∈ TB := tb_t 176 rfl rfl
theorem tw_177 : Cond.methodLink "BoundedCodes$Table" 32 y_T_countSharing ∈ TB := tb_t 177 rfl rfl
theorem tw_179 : Cond.instanceMethod y_T_countSharing ∈ TB := tb_t 179 rfl rfl
theorem tw_180 : k_T_countSharing ∈ TB := tb_t 180 rfl rfl
theorem tw_181 : Cond.methodLink "BoundedCodes$Table" 35 y_T_giveCodes ∈ TB := tb_t 181 rfl rfl
theorem tw_183 : Cond.instanceMethod y_T_giveCodes ∈ TB := tb_t 183 rfl rfl
theorem tw_184 : k_T_giveCodes ∈ TB := tb_t 184 rfl rfl
theorem tw_185 : Cond.methodLink "BoundedCodes$Table" 38 y_T_startLongestFirst ∈ TB := tb_t 185 rfl rfl
theorem tw_187 : Cond.instanceMethod y_T_startLongestFirst ∈ TB := tb_t 187 rfl rfl
theorem tw_188 : k_T_startLongestFirst ∈ TB := tb_t 188 rfl rfl
theorem tw_189 : Cond.methodLink "BoundedCodes$Table" 41 y_T_startShortestFirst ∈ TB := tb_t 189 rfl rfl
theorem tw_191 : Cond.instanceMethod y_T_startShortestFirst ∈ TB := tb_t 191 rfl rfl
theorem tw_192 : k_T_startShortestFirst ∈ TB := tb_t 192 rfl rfl
theorem tw_193 : Cond.methodLink "BoundedCodes$Table" 44 y_T_takeCode ∈ TB := tb_t 193 rfl rfl
theorem tw_195 : Cond.instanceMethod y_T_takeCode ∈ TB := tb_t 195 rfl rfl
theorem tw_196 : k_T_takeCode ∈ TB := tb_t 196 rfl rfl
theorem tw_197 : Cond.methodLink "BoundedCodes" 130 y_G_drop ∈ TB := tb_t 197 rfl rfl
theorem tw_198 : Cond.instanceMethod y_G_drop ∈ TB := tb_t 198 rfl rfl
theorem tw_199 : Cond.selects "BoundedCodes$WaitingBits" y_G_drop y_G_drop ∈ TB := tb_t 199 rfl rfl
theorem tw_200 : k_G_drop ∈ TB := tb_t 200 rfl rfl
theorem tw_201 : Cond.methodLink "BoundedCodesLaw" 50 y_L_cell ∈ TB := tb_t 201 rfl rfl
theorem tw_202 : Cond.static y_L_cell ∈ TB := tb_t 202 rfl rfl
theorem tw_203 : k_L_cell ∈ TB := tb_t 203 rfl rfl
theorem tw_204 : Cond.methodLink "BoundedCodesLaw" 64 y_L_count ∈ TB := tb_t 204 rfl rfl
theorem tw_205 : Cond.static y_L_count ∈ TB := tb_t 205 rfl rfl
theorem tw_206 : k_L_count ∈ TB := tb_t 206 rfl rfl
theorem tw_207 : Cond.classLink "BoundedCodesLaw" 13 "java/lang/IndexOutOfBoundsException" ∈ TB := tb_t 207 rfl rfl
theorem tw_208 : Cond.classLink "BoundedCodesLaw" 15 "java/lang/IllegalArgumentException" ∈ TB := tb_t 208 rfl rfl
theorem tw_209 : Cond.methodLink "BoundedCodesLaw" 7 y_B_count ∈ TB := tb_t 209 rfl rfl
theorem tw_210 : Cond.instanceMethod y_B_count ∈ TB := tb_t 210 rfl rfl
theorem tw_211 : Cond.selects "BoundedCodes" y_B_count y_B_count ∈ TB := tb_t 211 rfl rfl
theorem tw_212 : k_B_count ∈ TB := tb_t 212 rfl rfl
theorem tw_213 : Cond.methodLink "BoundedCodes" 60 y_B_needSymbol ∈ TB := tb_t 213 rfl rfl
theorem tw_214 : Cond.static y_B_needSymbol ∈ TB := tb_t 214 rfl rfl
theorem tw_215 : k_B_needSymbol ∈ TB := tb_t 215 rfl rfl
theorem tw_216 : Cond.classLink "BoundedCodes" 148 "java/lang/IndexOutOfBoundsException" ∈ TB := tb_t 216 rfl rfl
theorem tw_217 : Cond.instantiable "java/lang/IndexOutOfBoundsException" 6 ∈ TB := tb_t 217 rfl rfl
theorem tn_218 : Cond.castable "java/lang/IndexOutOfBoundsException" "java/lang/IndexOutOfBoundsException" ∈ lw_tbl := List.mem_append_right _ (List.mem_of_getElem? (i := 218) rfl)
theorem tw_225 : Cond.selects "java/lang/IndexOutOfBoundsException" ⟨"java/lang/Throwable", "fillInStackTrace", "(I)Ljava/lang/Throwable;"⟩ ⟨"java/lang/Throwable", "fillInStackTrace", "(I)Ljava/lang/Throwable;"⟩ ∈ TB := tb_t 225 rfl rfl
theorem tw_226 : Cond.selects "java/lang/IndexOutOfBoundsException" ⟨"java/lang/Throwable", "fillInStackTrace", "()Ljava/lang/Throwable;"⟩ ⟨"java/lang/Throwable", "fillInStackTrace", "()Ljava/lang/Throwable;"⟩ ∈ TB := tb_t 226 rfl rfl
theorem tw_227 : Cond.lays "java/lang/IndexOutOfBoundsException" "java/lang/Throwable" "cause" "Ljava/lang/Throwable;" ∈ TB := tb_t 227 rfl rfl
theorem tw_228 : Cond.lays "java/lang/Throwable" "java/lang/Throwable" "cause" "Ljava/lang/Throwable;" ∈ TB := tb_t 228 rfl rfl
theorem tw_229 : Cond.lays "java/lang/IndexOutOfBoundsException" "java/lang/Throwable" "stackTrace" "[Ljava/lang/StackTraceElement;" ∈ TB := tb_t 229 rfl rfl
theorem tw_230 : Cond.lays "java/lang/Throwable" "java/lang/Throwable" "stackTrace" "[Ljava/lang/StackTraceElement;" ∈ TB := tb_t 230 rfl rfl
theorem tw_231 : Cond.lays "java/lang/IndexOutOfBoundsException" "java/lang/Throwable" "suppressedExceptions" "Ljava/util/List;" ∈ TB := tb_t 231 rfl rfl
theorem tw_232 : Cond.lays "java/lang/Throwable" "java/lang/Throwable" "suppressedExceptions" "Ljava/util/List;" ∈ TB := tb_t 232 rfl rfl
theorem tw_233 : Cond.lays "java/lang/IndexOutOfBoundsException" "java/lang/Throwable" "detailMessage" "Ljava/lang/String;" ∈ TB := tb_t 233 rfl rfl
theorem tw_234 : Cond.lays "java/lang/Throwable" "java/lang/Throwable" "detailMessage" "Ljava/lang/String;" ∈ TB := tb_t 234 rfl rfl
theorem tw_235 : Cond.lays "java/lang/IndexOutOfBoundsException" "java/lang/Throwable" "backtrace" "Ljava/lang/Object;" ∈ TB := tb_t 235 rfl rfl
theorem tw_236 : Cond.lays "java/lang/Throwable" "java/lang/Throwable" "backtrace" "Ljava/lang/Object;" ∈ TB := tb_t 236 rfl rfl
theorem tw_237 : Cond.fieldLink "java/lang/Throwable" 198 "java/lang/Throwable" "backtrace" "Ljava/lang/Object;" ∈ TB := tb_t 237 rfl rfl
theorem tw_238 : Cond.superclass "java/lang/Throwable" "java/lang/Object" ∈ TB := tb_t 238 rfl rfl
theorem tw_239 : Cond.instanceMethod ⟨"java/lang/Throwable", "<init>", "()V"⟩ ∈ TB := tb_t 239 rfl rfl
theorem tw_240 : Cond.code ⟨"java/lang/Throwable", "<init>", "()V"⟩ prog_14_method_1_code 1 (Option.none : Option Jvm.ClassFile.FieldType) ∈ TB := tb_t 240 rfl rfl
theorem tw_241 : Cond.methodLink "java/lang/Throwable" 1 ⟨"java/lang/Object", "<init>", "()V"⟩ ∈ TB := tb_t 241 rfl rfl
theorem tw_242 : Cond.fieldLink "java/lang/Throwable" 13 "java/lang/Throwable" "UNASSIGNED_STACK" "[Ljava/lang/StackTraceElement;" ∈ TB := tb_t 242 rfl rfl
theorem tn_243 : Cond.laysStatic "java/lang/Throwable" "UNASSIGNED_STACK" "[Ljava/lang/StackTraceElement;" ∈ lw_tbl := List.mem_append_right _ (List.mem_of_getElem? (i := 243) rfl)
theorem tw_244 : Cond.fieldLink "java/lang/Throwable" 20 "java/lang/Throwable" "SUPPRESSED_SENTINEL" "Ljava/util/List;" ∈ TB := tb_t 244 rfl rfl
theorem tn_245 : Cond.laysStatic "java/lang/Throwable" "SUPPRESSED_SENTINEL" "Ljava/util/List;" ∈ lw_tbl := List.mem_append_right _ (List.mem_of_getElem? (i := 245) rfl)
theorem tw_246 : Cond.methodLink "java/lang/Throwable" 27 ⟨"java/lang/Throwable", "fillInStackTrace", "()Ljava/lang/Throwable;"⟩ ∈ TB := tb_t 246 rfl rfl
theorem tw_247 : Cond.instanceMethod ⟨"java/lang/Throwable", "fillInStackTrace", "()Ljava/lang/Throwable;"⟩ ∈ TB := tb_t 247 rfl rfl
theorem tw_248 : Cond.sameMethod "java/lang/Throwable" "java/lang/Throwable" "fillInStackTrace" "()Ljava/lang/Throwable;" ∈ TB := tb_t 248 rfl rfl
theorem tw_249 : Cond.selects "java/lang/IllegalArgumentException" ⟨"java/lang/Throwable", "fillInStackTrace", "()Ljava/lang/Throwable;"⟩ ⟨"java/lang/Throwable", "fillInStackTrace", "()Ljava/lang/Throwable;"⟩ ∈ TB := tb_t 249 rfl rfl
theorem tw_250 : Cond.selects "java/lang/IllegalStateException" ⟨"java/lang/Throwable", "fillInStackTrace", "()Ljava/lang/Throwable;"⟩ ⟨"java/lang/Throwable", "fillInStackTrace", "()Ljava/lang/Throwable;"⟩ ∈ TB := tb_t 250 rfl rfl
theorem tw_251 : Cond.codeSync ⟨"java/lang/Throwable", "fillInStackTrace", "()Ljava/lang/Throwable;"⟩ prog_14_method_18_code 1 (Option.some (Jvm.ClassFile.FieldType.object "java/lang/Throwable")) ∈ TB := tb_t 251 rfl rfl
theorem tw_252 : Cond.methodLink "java/lang/Throwable" 202 ⟨"java/lang/Throwable", "fillInStackTrace", "(I)Ljava/lang/Throwable;"⟩ ∈ TB := tb_t 252 rfl rfl
theorem tw_254 : Cond.instanceMethod ⟨"java/lang/Throwable", "fillInStackTrace", "(I)Ljava/lang/Throwable;"⟩ ∈ TB := tb_t 254 rfl rfl
theorem tw_255 : Cond.instantiable "java/lang/Throwable" 6 ∈ TB := tb_t 255 rfl rfl
theorem tw_256 : Cond.native ⟨"java/lang/Throwable", "fillInStackTrace", "(I)Ljava/lang/Throwable;"⟩ ∈ TB := tb_t 256 rfl rfl
theorem tn_257 : Cond.stringRef "BoundedCodes" 150 "there is no such symbol" ∈ lw_tbl := List.mem_append_right _ (List.mem_of_getElem? (i := 257) rfl)
theorem tw_258 : Cond.methodLink "BoundedCodes" 152 ⟨"java/lang/IndexOutOfBoundsException", "<init>", "(Ljava/lang/String;)V"⟩ ∈ TB := tb_t 258 rfl rfl
theorem tw_259 : Cond.instanceMethod ⟨"java/lang/IndexOutOfBoundsException", "<init>", "(Ljava/lang/String;)V"⟩ ∈ TB := tb_t 259 rfl rfl
theorem tw_260 : Cond.code ⟨"java/lang/IndexOutOfBoundsException", "<init>", "(Ljava/lang/String;)V"⟩ prog_10_method_2_code 2 (Option.none : Option Jvm.ClassFile.FieldType) ∈ TB := tb_t 260 rfl rfl
theorem tw_261 : Cond.methodLink "java/lang/IndexOutOfBoundsException" 7 ⟨"java/lang/RuntimeException", "<init>", "(Ljava/lang/String;)V"⟩ ∈ TB := tb_t 261 rfl rfl
theorem tw_262 : Cond.instanceMethod ⟨"java/lang/RuntimeException", "<init>", "(Ljava/lang/String;)V"⟩ ∈ TB := tb_t 262 rfl rfl
theorem tw_263 : Cond.code ⟨"java/lang/RuntimeException", "<init>", "(Ljava/lang/String;)V"⟩ prog_12_method_2_code 2 (Option.none : Option Jvm.ClassFile.FieldType) ∈ TB := tb_t 263 rfl rfl
theorem tw_264 : Cond.methodLink "java/lang/RuntimeException" 7 ⟨"java/lang/Exception", "<init>", "(Ljava/lang/String;)V"⟩ ∈ TB := tb_t 264 rfl rfl
theorem tw_265 : Cond.instanceMethod ⟨"java/lang/Exception", "<init>", "(Ljava/lang/String;)V"⟩ ∈ TB := tb_t 265 rfl rfl
theorem tw_266 : Cond.code ⟨"java/lang/Exception", "<init>", "(Ljava/lang/String;)V"⟩ prog_7_method_2_code 2 (Option.none : Option Jvm.ClassFile.FieldType) ∈ TB := tb_t 266 rfl rfl
theorem tw_267 : Cond.methodLink "java/lang/Exception" 7 ⟨"java/lang/Throwable", "<init>", "(Ljava/lang/String;)V"⟩ ∈ TB := tb_t 267 rfl rfl
theorem tw_268 : Cond.instanceMethod ⟨"java/lang/Throwable", "<init>", "(Ljava/lang/String;)V"⟩ ∈ TB := tb_t 268 rfl rfl
theorem tw_269 : Cond.code ⟨"java/lang/Throwable", "<init>", "(Ljava/lang/String;)V"⟩ prog_14_method_2_code 2 (Option.none : Option Jvm.ClassFile.FieldType) ∈ TB := tb_t 269 rfl rfl
theorem tw_270 : Cond.fieldLink "java/lang/Throwable" 198 "java/lang/Throwable" "backtrace" "Ljava/lang/Object;" ∈ TB := tb_t 270 rfl rfl
theorem tw_271 : Cond.fieldLink "java/lang/Throwable" 31 "java/lang/Throwable" "detailMessage" "Ljava/lang/String;" ∈ TB := tb_t 271 rfl rfl
theorem tw_272 : Cond.fieldLink "java/lang/Throwable" 7 "java/lang/Throwable" "cause" "Ljava/lang/Throwable;" ∈ TB := tb_t 272 rfl rfl
theorem tw_273 : Cond.fieldLink "java/lang/Throwable" 17 "java/lang/Throwable" "stackTrace" "[Ljava/lang/StackTraceElement;" ∈ TB := tb_t 273 rfl rfl
theorem tw_274 : Cond.fieldLink "java/lang/Throwable" 24 "java/lang/Throwable" "suppressedExceptions" "Ljava/util/List;" ∈ TB := tb_t 274 rfl rfl
theorem tw_275 : Cond.soleField "java/lang/Throwable" "backtrace" ∈ TB := tb_t 275 rfl rfl
theorem tw_276 : Cond.soleField "java/lang/Throwable" "detailMessage" ∈ TB := tb_t 276 rfl rfl
theorem tw_277 : Cond.soleField "java/lang/Throwable" "cause" ∈ TB := tb_t 277 rfl rfl
theorem tw_278 : Cond.soleField "java/lang/Throwable" "stackTrace" ∈ TB := tb_t 278 rfl rfl
theorem tw_279 : Cond.lays "java/lang/IndexOutOfBoundsException" "java/lang/Throwable" "depth" "I" ∈ TB := tb_t 279 rfl rfl
theorem tw_280 : Cond.soleField "java/lang/Throwable" "depth" ∈ TB := tb_t 280 rfl rfl
theorem tw_281 : Cond.soleField "java/lang/Throwable" "suppressedExceptions" ∈ TB := tb_t 281 rfl rfl
theorem tw_282 : Cond.superclass "java/lang/IndexOutOfBoundsException" "java/lang/RuntimeException" ∈ TB := tb_t 282 rfl rfl
theorem tw_283 : Cond.arrayClass Jvm.ClassFile.FieldType.byte ∈ TB := tb_t 283 rfl rfl
theorem tw_284 : Cond.constantLong "BoundedCodes" 63 (1000000000 : Int64) ∈ TB := tb_t 284 rfl rfl
theorem tw_285 : Cond.classLink "BoundedCodes" 65 "java/lang/IllegalArgumentException" ∈ TB := tb_t 285 rfl rfl
theorem tw_286 : Cond.instantiable "java/lang/IllegalArgumentException" 6 ∈ TB := tb_t 286 rfl rfl
theorem tn_287 : Cond.castable "java/lang/IllegalArgumentException" "java/lang/IllegalArgumentException" ∈ lw_tbl := List.mem_append_right _ (List.mem_of_getElem? (i := 287) rfl)
theorem tw_288 : Cond.selects "java/lang/IllegalArgumentException" ⟨"java/lang/Throwable", "fillInStackTrace", "(I)Ljava/lang/Throwable;"⟩ ⟨"java/lang/Throwable", "fillInStackTrace", "(I)Ljava/lang/Throwable;"⟩ ∈ TB := tb_t 288 rfl rfl
theorem tw_289 : Cond.lays "java/lang/IllegalArgumentException" "java/lang/Throwable" "cause" "Ljava/lang/Throwable;" ∈ TB := tb_t 289 rfl rfl
theorem tw_290 : Cond.lays "java/lang/IllegalArgumentException" "java/lang/Throwable" "stackTrace" "[Ljava/lang/StackTraceElement;" ∈ TB := tb_t 290 rfl rfl
theorem tw_291 : Cond.lays "java/lang/IllegalArgumentException" "java/lang/Throwable" "suppressedExceptions" "Ljava/util/List;" ∈ TB := tb_t 291 rfl rfl
theorem tw_292 : Cond.lays "java/lang/IllegalArgumentException" "java/lang/Throwable" "detailMessage" "Ljava/lang/String;" ∈ TB := tb_t 292 rfl rfl
theorem tw_293 : Cond.lays "java/lang/IllegalArgumentException" "java/lang/Throwable" "backtrace" "Ljava/lang/Object;" ∈ TB := tb_t 293 rfl rfl
theorem tn_294 : Cond.stringRef "BoundedCodes" 67 "the count is not 0 .. 1000000000" ∈ lw_tbl := List.mem_append_right _ (List.mem_of_getElem? (i := 294) rfl)
theorem tw_295 : Cond.methodLink "BoundedCodes" 69 ⟨"java/lang/IllegalArgumentException", "<init>", "(Ljava/lang/String;)V"⟩ ∈ TB := tb_t 295 rfl rfl
theorem tw_296 : Cond.instanceMethod ⟨"java/lang/IllegalArgumentException", "<init>", "(Ljava/lang/String;)V"⟩ ∈ TB := tb_t 296 rfl rfl
theorem tw_297 : Cond.code ⟨"java/lang/IllegalArgumentException", "<init>", "(Ljava/lang/String;)V"⟩ prog_8_method_2_code 2 (Option.none : Option Jvm.ClassFile.FieldType) ∈ TB := tb_t 297 rfl rfl
theorem tw_298 : Cond.methodLink "java/lang/IllegalArgumentException" 7 ⟨"java/lang/RuntimeException", "<init>", "(Ljava/lang/String;)V"⟩ ∈ TB := tb_t 298 rfl rfl
theorem tw_299 : Cond.lays "java/lang/IllegalArgumentException" "java/lang/Throwable" "depth" "I" ∈ TB := tb_t 299 rfl rfl
theorem tw_300 : Cond.superclass "java/lang/IllegalArgumentException" "java/lang/RuntimeException" ∈ TB := tb_t 300 rfl rfl
theorem tw_301 : Cond.methodLink "BoundedCodesLaw" 71 y_L_make ∈ TB := tb_t 301 rfl rfl
theorem tw_302 : Cond.static y_L_make ∈ TB := tb_t 302 rfl rfl
theorem tw_303 : k_L_make ∈ TB := tb_t 303 rfl rfl
theorem tw_304 : Cond.methodLink "BoundedCodesLaw" 17 y_B_make ∈ TB := tb_t 304 rfl rfl
theorem tw_305 : Cond.instanceMethod y_B_make ∈ TB := tb_t 305 rfl rfl
theorem tw_306 : Cond.selects "BoundedCodes" y_B_make y_B_make ∈ TB := tb_t 306 rfl rfl
theorem tw_307 : k_B_make ∈ TB := tb_t 307 rfl rfl
theorem tn_308 : Cond.stringRef "BoundedCodes" 72 "the most is not 1 .. 16" ∈ lw_tbl := List.mem_append_right _ (List.mem_of_getElem? (i := 308) rfl)
theorem tw_309 : Cond.methodLink "BoundedCodes" 74 y_K_sortSymbols ∈ TB := tb_t 309 rfl rfl
theorem tw_310 : Cond.instanceMethod y_K_sortSymbols ∈ TB := tb_t 310 rfl rfl
theorem tw_311 : Cond.selects "BoundedCodes$Making" y_K_sortSymbols y_K_sortSymbols ∈ TB := tb_t 311 rfl rfl
theorem tw_312 : k_K_sortSymbols ∈ TB := tb_t 312 rfl rfl
theorem tw_313 : Cond.methodLink "BoundedCodes$Making" 34 y_K_insert ∈ TB := tb_t 313 rfl rfl
theorem tw_315 : Cond.instanceMethod y_K_insert ∈ TB := tb_t 315 rfl rfl
theorem tw_316 : k_K_insert ∈ TB := tb_t 316 rfl rfl
theorem tw_317 : Cond.methodLink "BoundedCodes" 81 y_K_makeLengths ∈ TB := tb_t 317 rfl rfl
theorem tw_318 : Cond.instanceMethod y_K_makeLengths ∈ TB := tb_t 318 rfl rfl
theorem tw_319 : Cond.selects "BoundedCodes$Making" y_K_makeLengths y_K_makeLengths ∈ TB := tb_t 319 rfl rfl
theorem tw_320 : k_K_makeLengths ∈ TB := tb_t 320 rfl rfl
theorem tw_321 : Cond.methodLink "BoundedCodes$Making" 38 y_K_buildRow ∈ TB := tb_t 321 rfl rfl
theorem tw_323 : Cond.instanceMethod y_K_buildRow ∈ TB := tb_t 323 rfl rfl
theorem tw_324 : k_K_buildRow ∈ TB := tb_t 324 rfl rfl
theorem tw_325 : Cond.constantLong "BoundedCodes$Making" 47 (9223372036854775807 : Int64) ∈ TB := tb_t 325 rfl rfl
theorem tw_326 : Cond.methodLink "BoundedCodes$Making" 41 y_K_countTaken ∈ TB := tb_t 326 rfl rfl
theorem tw_328 : Cond.instanceMethod y_K_countTaken ∈ TB := tb_t 328 rfl rfl
theorem tw_329 : k_K_countTaken ∈ TB := tb_t 329 rfl rfl
theorem tw_330 : Cond.methodLink "BoundedCodesLaw" 75 y_L_length ∈ TB := tb_t 330 rfl rfl
theorem tw_331 : Cond.static y_L_length ∈ TB := tb_t 331 rfl rfl
theorem tw_332 : k_L_length ∈ TB := tb_t 332 rfl rfl
theorem tw_333 : Cond.methodLink "BoundedCodesLaw" 21 y_B_length ∈ TB := tb_t 333 rfl rfl
theorem tw_334 : Cond.instanceMethod y_B_length ∈ TB := tb_t 334 rfl rfl
theorem tw_335 : Cond.selects "BoundedCodes" y_B_length y_B_length ∈ TB := tb_t 335 rfl rfl
theorem tw_336 : k_B_length ∈ TB := tb_t 336 rfl rfl
theorem tw_337 : Cond.methodLink "BoundedCodesLaw" 78 y_L_code ∈ TB := tb_t 337 rfl rfl
theorem tw_338 : Cond.static y_L_code ∈ TB := tb_t 338 rfl rfl
theorem tw_339 : k_L_code ∈ TB := tb_t 339 rfl rfl
theorem tw_340 : Cond.classLink "BoundedCodesLaw" 28 "java/lang/IllegalStateException" ∈ TB := tb_t 340 rfl rfl
theorem tw_341 : Cond.methodLink "BoundedCodesLaw" 24 y_B_code ∈ TB := tb_t 341 rfl rfl
theorem tw_342 : Cond.instanceMethod y_B_code ∈ TB := tb_t 342 rfl rfl
theorem tw_343 : Cond.selects "BoundedCodes" y_B_code y_B_code ∈ TB := tb_t 343 rfl rfl
theorem tw_344 : k_B_code ∈ TB := tb_t 344 rfl rfl
theorem tw_345 : Cond.methodLink "BoundedCodes" 88 y_B_needCodes ∈ TB := tb_t 345 rfl rfl
theorem tw_347 : Cond.instanceMethod y_B_needCodes ∈ TB := tb_t 347 rfl rfl
theorem tw_348 : k_B_needCodes ∈ TB := tb_t 348 rfl rfl
theorem tw_349 : Cond.classLink "BoundedCodes" 153 "java/lang/IllegalStateException" ∈ TB := tb_t 349 rfl rfl
theorem tw_350 : Cond.instantiable "java/lang/IllegalStateException" 6 ∈ TB := tb_t 350 rfl rfl
set_option maxRecDepth 10000 in
theorem tn_351 : Cond.castable "java/lang/IllegalStateException" "java/lang/IllegalStateException" ∈ lw_tbl := List.mem_append_right _ (List.mem_of_getElem? (i := 351) rfl)
set_option maxRecDepth 10000 in
theorem tw_352 : Cond.selects "java/lang/IllegalStateException" ⟨"java/lang/Throwable", "fillInStackTrace", "(I)Ljava/lang/Throwable;"⟩ ⟨"java/lang/Throwable", "fillInStackTrace", "(I)Ljava/lang/Throwable;"⟩ ∈ TB := tb_t 352 rfl rfl
set_option maxRecDepth 10000 in
theorem tw_353 : Cond.lays "java/lang/IllegalStateException" "java/lang/Throwable" "cause" "Ljava/lang/Throwable;" ∈ TB := tb_t 353 rfl rfl
set_option maxRecDepth 10000 in
theorem tw_354 : Cond.lays "java/lang/IllegalStateException" "java/lang/Throwable" "stackTrace" "[Ljava/lang/StackTraceElement;" ∈ TB := tb_t 354 rfl rfl
set_option maxRecDepth 10000 in
theorem tw_355 : Cond.lays "java/lang/IllegalStateException" "java/lang/Throwable" "suppressedExceptions" "Ljava/util/List;" ∈ TB := tb_t 355 rfl rfl
set_option maxRecDepth 10000 in
theorem tw_356 : Cond.lays "java/lang/IllegalStateException" "java/lang/Throwable" "detailMessage" "Ljava/lang/String;" ∈ TB := tb_t 356 rfl rfl
set_option maxRecDepth 10000 in
theorem tw_357 : Cond.lays "java/lang/IllegalStateException" "java/lang/Throwable" "backtrace" "Ljava/lang/Object;" ∈ TB := tb_t 357 rfl rfl
set_option maxRecDepth 10000 in
theorem tn_358 : Cond.stringRef "BoundedCodes" 155 "the table is over-full" ∈ lw_tbl := List.mem_append_right _ (List.mem_of_getElem? (i := 358) rfl)
set_option maxRecDepth 10000 in
theorem tw_359 : Cond.methodLink "BoundedCodes" 157 ⟨"java/lang/IllegalStateException", "<init>", "(Ljava/lang/String;)V"⟩ ∈ TB := tb_t 359 rfl rfl
set_option maxRecDepth 10000 in
theorem tw_360 : Cond.instanceMethod ⟨"java/lang/IllegalStateException", "<init>", "(Ljava/lang/String;)V"⟩ ∈ TB := tb_t 360 rfl rfl
set_option maxRecDepth 10000 in
theorem tw_361 : Cond.code ⟨"java/lang/IllegalStateException", "<init>", "(Ljava/lang/String;)V"⟩ prog_9_method_2_code 2 (Option.none : Option Jvm.ClassFile.FieldType) ∈ TB := tb_t 361 rfl rfl
set_option maxRecDepth 10000 in
theorem tw_362 : Cond.methodLink "java/lang/IllegalStateException" 7 ⟨"java/lang/RuntimeException", "<init>", "(Ljava/lang/String;)V"⟩ ∈ TB := tb_t 362 rfl rfl
set_option maxRecDepth 10000 in
theorem tw_363 : Cond.lays "java/lang/IllegalStateException" "java/lang/Throwable" "depth" "I" ∈ TB := tb_t 363 rfl rfl
set_option maxRecDepth 10000 in
theorem tw_364 : Cond.superclass "java/lang/IllegalStateException" "java/lang/RuntimeException" ∈ TB := tb_t 364 rfl rfl
set_option maxRecDepth 10000 in
theorem tw_365 : Cond.constantLong "BoundedCodes" 91 (-1 : Int64) ∈ TB := tb_t 365 rfl rfl
set_option maxRecDepth 10000 in
theorem tw_366 : Cond.methodLink "BoundedCodesLaw" 81 y_L_given ∈ TB := tb_t 366 rfl rfl
set_option maxRecDepth 10000 in
theorem tw_367 : Cond.static y_L_given ∈ TB := tb_t 367 rfl rfl
set_option maxRecDepth 10000 in
theorem tw_368 : k_L_given ∈ TB := tb_t 368 rfl rfl
set_option maxRecDepth 10000 in
theorem tw_369 : Cond.methodLink "BoundedCodesLaw" 30 y_B_given ∈ TB := tb_t 369 rfl rfl
set_option maxRecDepth 10000 in
theorem tw_370 : Cond.instanceMethod y_B_given ∈ TB := tb_t 370 rfl rfl
set_option maxRecDepth 10000 in
theorem tw_371 : Cond.selects "BoundedCodes" y_B_given y_B_given ∈ TB := tb_t 371 rfl rfl
set_option maxRecDepth 10000 in
theorem tw_372 : k_B_given ∈ TB := tb_t 372 rfl rfl
set_option maxRecDepth 10000 in
theorem tn_373 : Cond.stringRef "BoundedCodes" 96 "the length is not 0 .. 16" ∈ lw_tbl := List.mem_append_right _ (List.mem_of_getElem? (i := 373) rfl)
set_option maxRecDepth 10000 in
theorem tw_374 : Cond.methodLink "BoundedCodes" 101 y_B_tellLength ∈ TB := tb_t 374 rfl rfl
set_option maxRecDepth 10000 in
theorem tw_376 : Cond.instanceMethod y_B_tellLength ∈ TB := tb_t 376 rfl rfl
set_option maxRecDepth 10000 in
theorem tw_377 : k_B_tellLength ∈ TB := tb_t 377 rfl rfl
set_option maxRecDepth 10000 in
theorem tw_378 : Cond.methodLink "BoundedCodesLaw" 85 y_L_range ∈ TB := tb_t 378 rfl rfl
set_option maxRecDepth 10000 in
theorem tw_379 : Cond.static y_L_range ∈ TB := tb_t 379 rfl rfl
set_option maxRecDepth 10000 in
theorem tw_380 : k_L_range ∈ TB := tb_t 380 rfl rfl
set_option maxRecDepth 10000 in
theorem tw_381 : Cond.methodLink "BoundedCodesLaw" 34 y_B_range ∈ TB := tb_t 381 rfl rfl
set_option maxRecDepth 10000 in
theorem tw_382 : Cond.instanceMethod y_B_range ∈ TB := tb_t 382 rfl rfl
set_option maxRecDepth 10000 in
theorem tw_383 : Cond.selects "BoundedCodes" y_B_range y_B_range ∈ TB := tb_t 383 rfl rfl
set_option maxRecDepth 10000 in
theorem tw_384 : k_B_range ∈ TB := tb_t 384 rfl rfl
set_option maxRecDepth 10000 in
theorem tn_385 : Cond.stringRef "BoundedCodes" 105 "the length is not 1 .. 16" ∈ lw_tbl := List.mem_append_right _ (List.mem_of_getElem? (i := 385) rfl)
set_option maxRecDepth 10000 in
theorem tn_386 : Cond.stringRef "BoundedCodes" 107 "the extra bits are not -32 .. 32" ∈ lw_tbl := List.mem_append_right _ (List.mem_of_getElem? (i := 386) rfl)
set_option maxRecDepth 10000 in
theorem tw_387 : Cond.methodLink "BoundedCodesLaw" 93 y_L_feed ∈ TB := tb_t 387 rfl rfl
set_option maxRecDepth 10000 in
theorem tw_388 : Cond.static y_L_feed ∈ TB := tb_t 388 rfl rfl
set_option maxRecDepth 10000 in
theorem tw_389 : k_L_feed ∈ TB := tb_t 389 rfl rfl
set_option maxRecDepth 10000 in
theorem tw_390 : Cond.methodLink "BoundedCodesLaw" 38 y_B_feed ∈ TB := tb_t 390 rfl rfl
set_option maxRecDepth 10000 in
theorem tw_391 : Cond.instanceMethod y_B_feed ∈ TB := tb_t 391 rfl rfl
set_option maxRecDepth 10000 in
theorem tw_392 : Cond.selects "BoundedCodes" y_B_feed y_B_feed ∈ TB := tb_t 392 rfl rfl
set_option maxRecDepth 10000 in
theorem tw_393 : k_B_feed ∈ TB := tb_t 393 rfl rfl
set_option maxRecDepth 10000 in
theorem tn_394 : Cond.stringRef "BoundedCodes" 113 "the bit is not 0 or 1" ∈ lw_tbl := List.mem_append_right _ (List.mem_of_getElem? (i := 394) rfl)
set_option maxRecDepth 10000 in
theorem tw_395 : Cond.methodLink "BoundedCodes" 115 y_G_append ∈ TB := tb_t 395 rfl rfl
set_option maxRecDepth 10000 in
theorem tw_396 : Cond.instanceMethod y_G_append ∈ TB := tb_t 396 rfl rfl
set_option maxRecDepth 10000 in
theorem tw_397 : Cond.selects "BoundedCodes$WaitingBits" y_G_append y_G_append ∈ TB := tb_t 397 rfl rfl
set_option maxRecDepth 10000 in
theorem tw_398 : k_G_append ∈ TB := tb_t 398 rfl rfl
set_option maxRecDepth 10000 in
theorem tw_399 : Cond.methodLink "BoundedCodesLaw" 96 y_L_read ∈ TB := tb_t 399 rfl rfl
set_option maxRecDepth 10000 in
theorem tw_400 : Cond.static y_L_read ∈ TB := tb_t 400 rfl rfl
set_option maxRecDepth 10000 in
theorem tw_401 : k_L_read ∈ TB := tb_t 401 rfl rfl
set_option maxRecDepth 10000 in
theorem tw_402 : Cond.methodLink "BoundedCodesLaw" 42 y_B_read ∈ TB := tb_t 402 rfl rfl
set_option maxRecDepth 10000 in
theorem tw_403 : Cond.instanceMethod y_B_read ∈ TB := tb_t 403 rfl rfl
set_option maxRecDepth 10000 in
theorem tw_404 : Cond.selects "BoundedCodes" y_B_read y_B_read ∈ TB := tb_t 404 rfl rfl
set_option maxRecDepth 10000 in
theorem tw_405 : k_B_read ∈ TB := tb_t 405 rfl rfl
set_option maxRecDepth 10000 in
theorem tw_406 : Cond.methodLink "BoundedCodes" 123 y_G_number ∈ TB := tb_t 406 rfl rfl
set_option maxRecDepth 10000 in
theorem tw_407 : Cond.instanceMethod y_G_number ∈ TB := tb_t 407 rfl rfl
set_option maxRecDepth 10000 in
theorem tw_408 : Cond.selects "BoundedCodes$WaitingBits" y_G_number y_G_number ∈ TB := tb_t 408 rfl rfl
set_option maxRecDepth 10000 in
theorem tw_409 : k_G_number ∈ TB := tb_t 409 rfl rfl
set_option maxRecDepth 10000 in
theorem tw_410 : Cond.constantLong "BoundedCodes$WaitingBits" 22 (2 : Int64) ∈ TB := tb_t 410 rfl rfl
set_option maxRecDepth 10000 in
theorem tw_411 : Cond.methodLink "BoundedCodes" 127 y_T_symbolBegunBy ∈ TB := tb_t 411 rfl rfl
set_option maxRecDepth 10000 in
theorem tw_412 : Cond.instanceMethod y_T_symbolBegunBy ∈ TB := tb_t 412 rfl rfl
set_option maxRecDepth 10000 in
theorem tw_413 : Cond.selects "BoundedCodes$Table" y_T_symbolBegunBy y_T_symbolBegunBy ∈ TB := tb_t 413 rfl rfl
set_option maxRecDepth 10000 in
theorem tw_414 : k_T_symbolBegunBy ∈ TB := tb_t 414 rfl rfl
set_option maxRecDepth 10000 in
theorem tw_415 : Cond.methodLink "BoundedCodes" 133 y_B_takeSymbol ∈ TB := tb_t 415 rfl rfl
set_option maxRecDepth 10000 in
theorem tw_417 : Cond.instanceMethod y_B_takeSymbol ∈ TB := tb_t 417 rfl rfl
set_option maxRecDepth 10000 in
theorem tw_418 : k_B_takeSymbol ∈ TB := tb_t 418 rfl rfl
set_option maxRecDepth 10000 in
theorem tw_419 : Cond.methodLink "BoundedCodes" 158 ⟨"java/lang/Math", "abs", "(I)I"⟩ ∈ TB := tb_t 419 rfl rfl
set_option maxRecDepth 10000 in
theorem tw_420 : Cond.static ⟨"java/lang/Math", "abs", "(I)I"⟩ ∈ TB := tb_t 420 rfl rfl
set_option maxRecDepth 10000 in
theorem tw_421 : Cond.code ⟨"java/lang/Math", "abs", "(I)I"⟩ prog_11_method_59_code 1 (Option.some Jvm.ClassFile.FieldType.int) ∈ TB := tb_t 421 rfl rfl
set_option maxRecDepth 10000 in
theorem tw_422 : Cond.methodLink "BoundedCodesLaw" 100 y_L_last ∈ TB := tb_t 422 rfl rfl
set_option maxRecDepth 10000 in
theorem tw_423 : Cond.static y_L_last ∈ TB := tb_t 423 rfl rfl
set_option maxRecDepth 10000 in
theorem tw_424 : k_L_last ∈ TB := tb_t 424 rfl rfl
set_option maxRecDepth 10000 in
theorem tw_425 : Cond.methodLink "BoundedCodesLaw" 46 y_B_last ∈ TB := tb_t 425 rfl rfl
set_option maxRecDepth 10000 in
theorem tw_426 : Cond.instanceMethod y_B_last ∈ TB := tb_t 426 rfl rfl
set_option maxRecDepth 10000 in
theorem tw_427 : Cond.selects "BoundedCodes" y_B_last y_B_last ∈ TB := tb_t 427 rfl rfl
set_option maxRecDepth 10000 in
theorem tw_428 : k_B_last ∈ TB := tb_t 428 rfl rfl
set_option maxRecDepth 10000 in
theorem tn_429 : Cond.stringRef "BoundedCodes" 137 "no symbol was read" ∈ lw_tbl := List.mem_append_right _ (List.mem_of_getElem? (i := 429) rfl)
set_option maxRecDepth 10000 in
theorem tw_430 : Cond.classLink "BoundedCodesLaw" 59 "BoundedCodesModel" ∈ TB := tb_t 430 rfl rfl
set_option maxRecDepth 10000 in
theorem tw_431 : Cond.instantiable "BoundedCodesModel" 17 ∈ TB := tb_t 431 rfl rfl
set_option maxRecDepth 10000 in
theorem tw_432 : Cond.methodLink "BoundedCodesLaw" 61 y_M_init ∈ TB := tb_t 432 rfl rfl
set_option maxRecDepth 10000 in
theorem tw_433 : Cond.instanceMethod y_M_init ∈ TB := tb_t 433 rfl rfl
set_option maxRecDepth 10000 in
theorem tw_434 : k_M_init ∈ TB := tb_t 434 rfl rfl
set_option maxRecDepth 10000 in
theorem tw_435 : Cond.methodLink "BoundedCodesModel" 1 ⟨"java/lang/Object", "<init>", "()V"⟩ ∈ TB := tb_t 435 rfl rfl
set_option maxRecDepth 10000 in
theorem tw_436 : Cond.fieldLink "BoundedCodesModel" 52 "BoundedCodesModel" "code" "I" ∈ TB := tb_t 436 rfl rfl
set_option maxRecDepth 10000 in
theorem tw_437 : Cond.fieldLink "BoundedCodesModel" 48 "BoundedCodesModel" "rule" "I" ∈ TB := tb_t 437 rfl rfl
set_option maxRecDepth 10000 in
theorem tw_438 : Cond.fieldLink "BoundedCodesModel" 7 "BoundedCodesModel" "count" "[J" ∈ TB := tb_t 438 rfl rfl
set_option maxRecDepth 10000 in
theorem tw_439 : Cond.fieldLink "BoundedCodesModel" 13 "BoundedCodesModel" "length" "[I" ∈ TB := tb_t 439 rfl rfl
set_option maxRecDepth 10000 in
theorem tw_440 : Cond.fieldLink "BoundedCodesModel" 17 "BoundedCodesModel" "ranged" "[Z" ∈ TB := tb_t 440 rfl rfl
set_option maxRecDepth 10000 in
theorem tw_441 : Cond.fieldLink "BoundedCodesModel" 21 "BoundedCodesModel" "low" "[I" ∈ TB := tb_t 441 rfl rfl
set_option maxRecDepth 10000 in
theorem tw_442 : Cond.fieldLink "BoundedCodesModel" 24 "BoundedCodesModel" "extra" "[I" ∈ TB := tb_t 442 rfl rfl
set_option maxRecDepth 10000 in
theorem tw_443 : Cond.fieldLink "BoundedCodesModel" 27 "BoundedCodesModel" "bits" "[I" ∈ TB := tb_t 443 rfl rfl
set_option maxRecDepth 10000 in
theorem tw_444 : Cond.fieldLink "BoundedCodesModel" 82 "BoundedCodesModel" "waits" "I" ∈ TB := tb_t 444 rfl rfl
set_option maxRecDepth 10000 in
theorem tw_445 : Cond.fieldLink "BoundedCodesModel" 99 "BoundedCodesModel" "wasRead" "Z" ∈ TB := tb_t 445 rfl rfl
set_option maxRecDepth 10000 in
theorem tw_446 : Cond.fieldLink "BoundedCodesModel" 103 "BoundedCodesModel" "value" "J" ∈ TB := tb_t 446 rfl rfl
set_option maxRecDepth 10000 in
theorem tw_447 : Cond.fieldLink "BoundedCodesModel" 30 "BoundedCodesModel" "order" "[I" ∈ TB := tb_t 447 rfl rfl
set_option maxRecDepth 10000 in
theorem tw_448 : Cond.fieldLink "BoundedCodesModel" 33 "BoundedCodesModel" "row" "[I" ∈ TB := tb_t 448 rfl rfl
set_option maxRecDepth 10000 in
theorem tw_449 : Cond.fieldLink "BoundedCodesModel" 36 "BoundedCodesModel" "size" "[I" ∈ TB := tb_t 449 rfl rfl
set_option maxRecDepth 10000 in
theorem tw_450 : Cond.fieldLink "BoundedCodesModel" 39 "BoundedCodesModel" "sum" "[J" ∈ TB := tb_t 450 rfl rfl
set_option maxRecDepth 10000 in
theorem tw_451 : Cond.fieldLink "BoundedCodesModel" 42 "BoundedCodesModel" "before" "[J" ∈ TB := tb_t 451 rfl rfl
set_option maxRecDepth 10000 in
theorem tw_452 : Cond.fieldLink "BoundedCodesModel" 45 "BoundedCodesModel" "codes" "[I" ∈ TB := tb_t 452 rfl rfl
set_option maxRecDepth 10000 in
theorem tw_453 : Cond.lays "BoundedCodesModel" "BoundedCodesModel" "code" "I" ∈ TB := tb_t 453 rfl rfl
set_option maxRecDepth 10000 in
theorem tw_454 : Cond.soleField "BoundedCodesModel" "code" ∈ TB := tb_t 454 rfl rfl
set_option maxRecDepth 10000 in
theorem tw_455 : Cond.laysFinal "BoundedCodesModel" "BoundedCodesModel" "rule" "I" ∈ TB := tb_t 455 rfl rfl
set_option maxRecDepth 10000 in
theorem tw_456 : Cond.soleField "BoundedCodesModel" "rule" ∈ TB := tb_t 456 rfl rfl
set_option maxRecDepth 10000 in
theorem tw_457 : Cond.laysFinal "BoundedCodesModel" "BoundedCodesModel" "count" "[J" ∈ TB := tb_t 457 rfl rfl
set_option maxRecDepth 10000 in
theorem tw_458 : Cond.soleField "BoundedCodesModel" "count" ∈ TB := tb_t 458 rfl rfl
set_option maxRecDepth 10000 in
theorem tw_459 : Cond.laysFinal "BoundedCodesModel" "BoundedCodesModel" "length" "[I" ∈ TB := tb_t 459 rfl rfl
set_option maxRecDepth 10000 in
theorem tw_460 : Cond.soleField "BoundedCodesModel" "length" ∈ TB := tb_t 460 rfl rfl
set_option maxRecDepth 10000 in
theorem tw_461 : Cond.laysFinal "BoundedCodesModel" "BoundedCodesModel" "ranged" "[Z" ∈ TB := tb_t 461 rfl rfl
set_option maxRecDepth 10000 in
theorem tw_462 : Cond.soleField "BoundedCodesModel" "ranged" ∈ TB := tb_t 462 rfl rfl
set_option maxRecDepth 10000 in
theorem tw_463 : Cond.laysFinal "BoundedCodesModel" "BoundedCodesModel" "low" "[I" ∈ TB := tb_t 463 rfl rfl
set_option maxRecDepth 10000 in
theorem tw_464 : Cond.soleField "BoundedCodesModel" "low" ∈ TB := tb_t 464 rfl rfl
set_option maxRecDepth 10000 in
theorem tw_465 : Cond.laysFinal "BoundedCodesModel" "BoundedCodesModel" "extra" "[I" ∈ TB := tb_t 465 rfl rfl
set_option maxRecDepth 10000 in
theorem tw_466 : Cond.soleField "BoundedCodesModel" "extra" ∈ TB := tb_t 466 rfl rfl
set_option maxRecDepth 10000 in
theorem tw_467 : Cond.laysFinal "BoundedCodesModel" "BoundedCodesModel" "bits" "[I" ∈ TB := tb_t 467 rfl rfl
set_option maxRecDepth 10000 in
theorem tw_468 : Cond.soleField "BoundedCodesModel" "bits" ∈ TB := tb_t 468 rfl rfl
set_option maxRecDepth 10000 in
theorem tw_469 : Cond.lays "BoundedCodesModel" "BoundedCodesModel" "waits" "I" ∈ TB := tb_t 469 rfl rfl
set_option maxRecDepth 10000 in
theorem tw_470 : Cond.soleField "BoundedCodesModel" "waits" ∈ TB := tb_t 470 rfl rfl
set_option maxRecDepth 10000 in
theorem tw_471 : Cond.lays "BoundedCodesModel" "BoundedCodesModel" "wasRead" "Z" ∈ TB := tb_t 471 rfl rfl
set_option maxRecDepth 10000 in
theorem tw_472 : Cond.soleField "BoundedCodesModel" "wasRead" ∈ TB := tb_t 472 rfl rfl
set_option maxRecDepth 10000 in
theorem tw_473 : Cond.lays "BoundedCodesModel" "BoundedCodesModel" "value" "J" ∈ TB := tb_t 473 rfl rfl
set_option maxRecDepth 10000 in
theorem tw_474 : Cond.soleField "BoundedCodesModel" "value" ∈ TB := tb_t 474 rfl rfl
set_option maxRecDepth 10000 in
theorem tw_475 : Cond.laysFinal "BoundedCodesModel" "BoundedCodesModel" "order" "[I" ∈ TB := tb_t 475 rfl rfl
set_option maxRecDepth 10000 in
theorem tw_476 : Cond.soleField "BoundedCodesModel" "order" ∈ TB := tb_t 476 rfl rfl
set_option maxRecDepth 10000 in
theorem tw_477 : Cond.laysFinal "BoundedCodesModel" "BoundedCodesModel" "row" "[I" ∈ TB := tb_t 477 rfl rfl
set_option maxRecDepth 10000 in
theorem tw_478 : Cond.soleField "BoundedCodesModel" "row" ∈ TB := tb_t 478 rfl rfl
set_option maxRecDepth 10000 in
theorem tw_479 : Cond.laysFinal "BoundedCodesModel" "BoundedCodesModel" "size" "[I" ∈ TB := tb_t 479 rfl rfl
set_option maxRecDepth 10000 in
theorem tw_480 : Cond.soleField "BoundedCodesModel" "size" ∈ TB := tb_t 480 rfl rfl
set_option maxRecDepth 10000 in
theorem tw_481 : Cond.laysFinal "BoundedCodesModel" "BoundedCodesModel" "sum" "[J" ∈ TB := tb_t 481 rfl rfl
set_option maxRecDepth 10000 in
theorem tw_482 : Cond.soleField "BoundedCodesModel" "sum" ∈ TB := tb_t 482 rfl rfl
set_option maxRecDepth 10000 in
theorem tw_483 : Cond.laysFinal "BoundedCodesModel" "BoundedCodesModel" "before" "[J" ∈ TB := tb_t 483 rfl rfl
set_option maxRecDepth 10000 in
theorem tw_484 : Cond.soleField "BoundedCodesModel" "before" ∈ TB := tb_t 484 rfl rfl
set_option maxRecDepth 10000 in
theorem tw_485 : Cond.laysFinal "BoundedCodesModel" "BoundedCodesModel" "codes" "[I" ∈ TB := tb_t 485 rfl rfl
set_option maxRecDepth 10000 in
theorem tw_486 : Cond.soleField "BoundedCodesModel" "codes" ∈ TB := tb_t 486 rfl rfl
set_option maxRecDepth 10000 in
theorem tw_487 : Cond.superclass "BoundedCodesModel" "java/lang/Object" ∈ TB := tb_t 487 rfl rfl
set_option maxRecDepth 10000 in
theorem tw_488 : Cond.arrayClass Jvm.ClassFile.FieldType.boolean ∈ TB := tb_t 488 rfl rfl
set_option maxRecDepth 10000 in
theorem tw_489 : Cond.methodLink "BoundedCodesLaw" 68 y_M_thrown ∈ TB := tb_t 489 rfl rfl
set_option maxRecDepth 10000 in
theorem tw_490 : Cond.instanceMethod y_M_thrown ∈ TB := tb_t 490 rfl rfl
set_option maxRecDepth 10000 in
theorem tw_491 : Cond.selects "BoundedCodesModel" y_M_thrown y_M_thrown ∈ TB := tb_t 491 rfl rfl
set_option maxRecDepth 10000 in
theorem tw_492 : k_M_thrown ∈ TB := tb_t 492 rfl rfl
set_option maxRecDepth 10000 in
theorem tw_493 : Cond.methodLink "BoundedCodesLaw" 67 y_M_count ∈ TB := tb_t 493 rfl rfl
set_option maxRecDepth 10000 in
theorem tw_494 : Cond.instanceMethod y_M_count ∈ TB := tb_t 494 rfl rfl
set_option maxRecDepth 10000 in
theorem tw_495 : Cond.selects "BoundedCodesModel" y_M_count y_M_count ∈ TB := tb_t 495 rfl rfl
set_option maxRecDepth 10000 in
theorem tw_496 : k_M_count ∈ TB := tb_t 496 rfl rfl
set_option maxRecDepth 10000 in
theorem tw_497 : Cond.methodLink "BoundedCodesModel" 55 y_M_isSymbol ∈ TB := tb_t 497 rfl rfl
set_option maxRecDepth 10000 in
theorem tw_498 : Cond.static y_M_isSymbol ∈ TB := tb_t 498 rfl rfl
set_option maxRecDepth 10000 in
theorem tw_499 : k_M_isSymbol ∈ TB := tb_t 499 rfl rfl
set_option maxRecDepth 10000 in
theorem tw_500 : Cond.constantLong "BoundedCodesModel" 59 (1000000000 : Int64) ∈ TB := tb_t 500 rfl rfl
set_option maxRecDepth 10000 in
theorem tw_501 : Cond.methodLink "BoundedCodesModel" 61 y_M_fails ∈ TB := tb_t 501 rfl rfl
set_option maxRecDepth 10000 in
theorem tw_503 : Cond.instanceMethod y_M_fails ∈ TB := tb_t 503 rfl rfl
set_option maxRecDepth 10000 in
theorem tw_504 : k_M_fails ∈ TB := tb_t 504 rfl rfl
set_option maxRecDepth 10000 in
theorem tw_505 : Cond.methodLink "BoundedCodesLaw" 74 y_M_make ∈ TB := tb_t 505 rfl rfl
set_option maxRecDepth 10000 in
theorem tw_506 : Cond.instanceMethod y_M_make ∈ TB := tb_t 506 rfl rfl
set_option maxRecDepth 10000 in
theorem tw_507 : Cond.selects "BoundedCodesModel" y_M_make y_M_make ∈ TB := tb_t 507 rfl rfl
set_option maxRecDepth 10000 in
theorem tw_508 : k_M_make ∈ TB := tb_t 508 rfl rfl
set_option maxRecDepth 10000 in
theorem tw_509 : Cond.methodLink "BoundedCodesModel" 65 y_M_sort ∈ TB := tb_t 509 rfl rfl
set_option maxRecDepth 10000 in
theorem tw_511 : Cond.instanceMethod y_M_sort ∈ TB := tb_t 511 rfl rfl
set_option maxRecDepth 10000 in
theorem tw_512 : k_M_sort ∈ TB := tb_t 512 rfl rfl
set_option maxRecDepth 10000 in
theorem tw_513 : Cond.methodLink "BoundedCodesModel" 69 y_M_pack ∈ TB := tb_t 513 rfl rfl
set_option maxRecDepth 10000 in
theorem tw_515 : Cond.instanceMethod y_M_pack ∈ TB := tb_t 515 rfl rfl
set_option maxRecDepth 10000 in
theorem tw_516 : k_M_pack ∈ TB := tb_t 516 rfl rfl
set_option maxRecDepth 10000 in
theorem tw_517 : Cond.methodLink "BoundedCodesLaw" 77 y_M_length ∈ TB := tb_t 517 rfl rfl
set_option maxRecDepth 10000 in
theorem tw_518 : Cond.instanceMethod y_M_length ∈ TB := tb_t 518 rfl rfl
set_option maxRecDepth 10000 in
theorem tw_519 : Cond.selects "BoundedCodesModel" y_M_length y_M_length ∈ TB := tb_t 519 rfl rfl
set_option maxRecDepth 10000 in
theorem tw_520 : k_M_length ∈ TB := tb_t 520 rfl rfl
set_option maxRecDepth 10000 in
theorem tw_521 : Cond.methodLink "BoundedCodesLaw" 92 y_M_check ∈ TB := tb_t 521 rfl rfl
set_option maxRecDepth 10000 in
theorem tw_522 : Cond.instanceMethod y_M_check ∈ TB := tb_t 522 rfl rfl
set_option maxRecDepth 10000 in
theorem tw_523 : Cond.selects "BoundedCodesModel" y_M_check y_M_check ∈ TB := tb_t 523 rfl rfl
set_option maxRecDepth 10000 in
theorem tw_524 : k_M_check ∈ TB := tb_t 524 rfl rfl
set_option maxRecDepth 10000 in
theorem tw_525 : Cond.methodLink "BoundedCodesModel" 74 y_M_fill ∈ TB := tb_t 525 rfl rfl
set_option maxRecDepth 10000 in
theorem tw_527 : Cond.instanceMethod y_M_fill ∈ TB := tb_t 527 rfl rfl
set_option maxRecDepth 10000 in
theorem tw_528 : k_M_fill ∈ TB := tb_t 528 rfl rfl
set_option maxRecDepth 10000 in
theorem tw_529 : Cond.constant "BoundedCodesModel" 73 (65536 : Int32) ∈ TB := tb_t 529 rfl rfl
set_option maxRecDepth 10000 in
theorem tw_530 : Cond.methodLink "BoundedCodesLaw" 84 y_M_given ∈ TB := tb_t 530 rfl rfl
set_option maxRecDepth 10000 in
theorem tw_531 : Cond.instanceMethod y_M_given ∈ TB := tb_t 531 rfl rfl
set_option maxRecDepth 10000 in
theorem tw_532 : Cond.selects "BoundedCodesModel" y_M_given y_M_given ∈ TB := tb_t 532 rfl rfl
set_option maxRecDepth 10000 in
theorem tw_533 : k_M_given ∈ TB := tb_t 533 rfl rfl
set_option maxRecDepth 10000 in
theorem tw_534 : Cond.methodLink "BoundedCodesLaw" 88 y_M_range ∈ TB := tb_t 534 rfl rfl
set_option maxRecDepth 10000 in
theorem tw_535 : Cond.instanceMethod y_M_range ∈ TB := tb_t 535 rfl rfl
set_option maxRecDepth 10000 in
theorem tw_536 : Cond.selects "BoundedCodesModel" y_M_range y_M_range ∈ TB := tb_t 536 rfl rfl
set_option maxRecDepth 10000 in
theorem tw_537 : k_M_range ∈ TB := tb_t 537 rfl rfl
set_option maxRecDepth 10000 in
theorem tw_538 : Cond.methodLink "BoundedCodesLaw" 80 y_M_code ∈ TB := tb_t 538 rfl rfl
set_option maxRecDepth 10000 in
theorem tw_539 : Cond.instanceMethod y_M_code ∈ TB := tb_t 539 rfl rfl
set_option maxRecDepth 10000 in
theorem tw_540 : Cond.selects "BoundedCodesModel" y_M_code y_M_code ∈ TB := tb_t 540 rfl rfl
set_option maxRecDepth 10000 in
theorem tw_541 : k_M_code ∈ TB := tb_t 541 rfl rfl
set_option maxRecDepth 10000 in
theorem tw_542 : Cond.methodLink "BoundedCodesModel" 77 y_M_makeCodes ∈ TB := tb_t 542 rfl rfl
set_option maxRecDepth 10000 in
theorem tw_544 : Cond.instanceMethod y_M_makeCodes ∈ TB := tb_t 544 rfl rfl
set_option maxRecDepth 10000 in
theorem tw_545 : k_M_makeCodes ∈ TB := tb_t 545 rfl rfl
set_option maxRecDepth 10000 in
theorem tw_546 : Cond.constantLong "BoundedCodesModel" 80 (-1 : Int64) ∈ TB := tb_t 546 rfl rfl
set_option maxRecDepth 10000 in
theorem tw_547 : Cond.methodLink "BoundedCodesLaw" 95 y_M_feed ∈ TB := tb_t 547 rfl rfl
set_option maxRecDepth 10000 in
theorem tw_548 : Cond.instanceMethod y_M_feed ∈ TB := tb_t 548 rfl rfl
set_option maxRecDepth 10000 in
theorem tw_549 : Cond.selects "BoundedCodesModel" y_M_feed y_M_feed ∈ TB := tb_t 549 rfl rfl
set_option maxRecDepth 10000 in
theorem tw_550 : k_M_feed ∈ TB := tb_t 550 rfl rfl
set_option maxRecDepth 10000 in
theorem tw_551 : Cond.methodLink "BoundedCodesLaw" 99 y_M_read ∈ TB := tb_t 551 rfl rfl
set_option maxRecDepth 10000 in
theorem tw_552 : Cond.instanceMethod y_M_read ∈ TB := tb_t 552 rfl rfl
set_option maxRecDepth 10000 in
theorem tw_553 : Cond.selects "BoundedCodesModel" y_M_read y_M_read ∈ TB := tb_t 553 rfl rfl
set_option maxRecDepth 10000 in
theorem tw_554 : k_M_read ∈ TB := tb_t 554 rfl rfl
set_option maxRecDepth 10000 in
theorem tw_555 : Cond.methodLink "BoundedCodesModel" 85 y_M_begins ∈ TB := tb_t 555 rfl rfl
set_option maxRecDepth 10000 in
theorem tw_557 : Cond.instanceMethod y_M_begins ∈ TB := tb_t 557 rfl rfl
set_option maxRecDepth 10000 in
theorem tw_558 : k_M_begins ∈ TB := tb_t 558 rfl rfl
set_option maxRecDepth 10000 in
theorem tw_559 : Cond.methodLink "BoundedCodesModel" 89 y_M_take ∈ TB := tb_t 559 rfl rfl
set_option maxRecDepth 10000 in
theorem tw_561 : Cond.instanceMethod y_M_take ∈ TB := tb_t 561 rfl rfl
set_option maxRecDepth 10000 in
theorem tw_562 : k_M_take ∈ TB := tb_t 562 rfl rfl
set_option maxRecDepth 10000 in
theorem tw_563 : Cond.constantLong "BoundedCodesModel" 97 (2 : Int64) ∈ TB := tb_t 563 rfl rfl
set_option maxRecDepth 10000 in
theorem tw_564 : Cond.methodLink "BoundedCodesModel" 93 y_M_drop ∈ TB := tb_t 564 rfl rfl
set_option maxRecDepth 10000 in
theorem tw_566 : Cond.instanceMethod y_M_drop ∈ TB := tb_t 566 rfl rfl
set_option maxRecDepth 10000 in
theorem tw_567 : k_M_drop ∈ TB := tb_t 567 rfl rfl
set_option maxRecDepth 10000 in
theorem tw_568 : Cond.methodLink "BoundedCodesLaw" 102 y_M_last ∈ TB := tb_t 568 rfl rfl
set_option maxRecDepth 10000 in
theorem tw_569 : Cond.instanceMethod y_M_last ∈ TB := tb_t 569 rfl rfl
set_option maxRecDepth 10000 in
theorem tw_570 : Cond.selects "BoundedCodesModel" y_M_last y_M_last ∈ TB := tb_t 570 rfl rfl
set_option maxRecDepth 10000 in
theorem tw_571 : k_M_last ∈ TB := tb_t 571 rfl rfl
set_option maxRecDepth 10000 in
theorem tw_572 : Cond.methodLink "BoundedCodesLaw" 106 y_M_waiting ∈ TB := tb_t 572 rfl rfl
set_option maxRecDepth 10000 in
theorem tw_573 : Cond.instanceMethod y_M_waiting ∈ TB := tb_t 573 rfl rfl
set_option maxRecDepth 10000 in
theorem tw_574 : Cond.selects "BoundedCodesModel" y_M_waiting y_M_waiting ∈ TB := tb_t 574 rfl rfl
set_option maxRecDepth 10000 in
theorem tw_575 : k_M_waiting ∈ TB := tb_t 575 rfl rfl
set_option maxRecDepth 10000 in
theorem tw_576 : Cond.methodLink "BoundedCodesLaw" 110 y_M_sum ∈ TB := tb_t 576 rfl rfl
set_option maxRecDepth 10000 in
theorem tw_577 : Cond.instanceMethod y_M_sum ∈ TB := tb_t 577 rfl rfl
set_option maxRecDepth 10000 in
theorem tw_578 : Cond.selects "BoundedCodesModel" y_M_sum y_M_sum ∈ TB := tb_t 578 rfl rfl
set_option maxRecDepth 10000 in
theorem tw_579 : k_M_sum ∈ TB := tb_t 579 rfl rfl
set_option maxRecDepth 10000 in
theorem tw_580 : Cond.methodLink "BoundedCodesLaw" 114 y_M_lengths ∈ TB := tb_t 580 rfl rfl
set_option maxRecDepth 10000 in
theorem tw_581 : Cond.instanceMethod y_M_lengths ∈ TB := tb_t 581 rfl rfl
set_option maxRecDepth 10000 in
theorem tw_582 : Cond.selects "BoundedCodesModel" y_M_lengths y_M_lengths ∈ TB := tb_t 582 rfl rfl
set_option maxRecDepth 10000 in
theorem tw_583 : k_M_lengths ∈ TB := tb_t 583 rfl rfl
set_option maxRecDepth 10000 in
theorem tw_584 : Cond.methodLink "BoundedCodesLaw" 118 y_M_clear ∈ TB := tb_t 584 rfl rfl
set_option maxRecDepth 10000 in
theorem tw_585 : Cond.instanceMethod y_M_clear ∈ TB := tb_t 585 rfl rfl
set_option maxRecDepth 10000 in
theorem tw_586 : Cond.selects "BoundedCodesModel" y_M_clear y_M_clear ∈ TB := tb_t 586 rfl rfl
set_option maxRecDepth 10000 in
theorem tw_587 : k_M_clear ∈ TB := tb_t 587 rfl rfl
set_option maxRecDepth 10000 in
theorem tw_588 : Cond.constantLong "BoundedCodesLaw" 62 (4294967295 : Int64) ∈ TB := tb_t 588 rfl rfl
set_option maxRecDepth 10000 in
theorem tw_589 : Cond.sameMethod "java/lang/Throwable" "java/lang/Throwable" "fillInStackTrace" "(I)Ljava/lang/Throwable;" ∈ TB := tb_t 589 rfl rfl
theorem ts_0 : Cond.selects "BoundedCodes" y_B_dropAllRanges y_B_dropAllRanges ∈ TB := tb_s 0 rfl rfl
theorem ts_1 : Cond.selects "BoundedCodes" y_B_dropRange y_B_dropRange ∈ TB := tb_s 1 rfl rfl
theorem ts_2 : Cond.selects "BoundedCodes" y_B_numberTold y_B_numberTold ∈ TB := tb_s 2 rfl rfl
theorem ts_3 : Cond.selects "BoundedCodes$Table" y_T_countSharing y_T_countSharing ∈ TB := tb_s 3 rfl rfl
theorem ts_4 : Cond.selects "BoundedCodes$Table" y_T_giveCodes y_T_giveCodes ∈ TB := tb_s 4 rfl rfl
theorem ts_5 : Cond.selects "BoundedCodes$Table" y_T_startLongestFirst y_T_startLongestFirst ∈ TB := tb_s 5 rfl rfl
theorem ts_6 : Cond.selects "BoundedCodes$Table" y_T_startShortestFirst y_T_startShortestFirst ∈ TB := tb_s 6 rfl rfl
theorem ts_7 : Cond.selects "BoundedCodes$Table" y_T_takeCode y_T_takeCode ∈ TB := tb_s 7 rfl rfl
theorem ts_8 : Cond.selects "java/lang/Throwable" ⟨"java/lang/Throwable", "fillInStackTrace", "(I)Ljava/lang/Throwable;"⟩ ⟨"java/lang/Throwable", "fillInStackTrace", "(I)Ljava/lang/Throwable;"⟩ ∈ TB := tb_s 8 rfl rfl
theorem ts_9 : Cond.selects "BoundedCodes$Making" y_K_insert y_K_insert ∈ TB := tb_s 9 rfl rfl
theorem ts_10 : Cond.selects "BoundedCodes$Making" y_K_buildRow y_K_buildRow ∈ TB := tb_s 10 rfl rfl
theorem ts_11 : Cond.selects "BoundedCodes$Making" y_K_countTaken y_K_countTaken ∈ TB := tb_s 11 rfl rfl
theorem ts_12 : Cond.selects "BoundedCodes" y_B_needCodes y_B_needCodes ∈ TB := tb_s 12 rfl rfl
theorem ts_13 : Cond.selects "BoundedCodes" y_B_tellLength y_B_tellLength ∈ TB := tb_s 13 rfl rfl
theorem ts_14 : Cond.selects "BoundedCodes" y_B_takeSymbol y_B_takeSymbol ∈ TB := tb_s 14 rfl rfl
theorem ts_15 : Cond.selects "BoundedCodesModel" y_M_fails y_M_fails ∈ TB := tb_s 15 rfl rfl
theorem ts_16 : Cond.selects "BoundedCodesModel" y_M_sort y_M_sort ∈ TB := tb_s 16 rfl rfl
theorem ts_17 : Cond.selects "BoundedCodesModel" y_M_pack y_M_pack ∈ TB := tb_s 17 rfl rfl
theorem ts_18 : Cond.selects "BoundedCodesModel" y_M_fill y_M_fill ∈ TB := tb_s 18 rfl rfl
theorem ts_19 : Cond.selects "BoundedCodesModel" y_M_makeCodes y_M_makeCodes ∈ TB := tb_s 19 rfl rfl
theorem ts_20 : Cond.selects "BoundedCodesModel" y_M_begins y_M_begins ∈ TB := tb_s 20 rfl rfl
theorem ts_21 : Cond.selects "BoundedCodesModel" y_M_take y_M_take ∈ TB := tb_s 21 rfl rfl
theorem ts_22 : Cond.selects "BoundedCodesModel" y_M_drop y_M_drop ∈ TB := tb_s 22 rfl rfl
theorem inK : ∀ w ∈ u_ws RK FK 6, w ∈ TB := by
  intro w h
  obtain ⟨k, hk, rfl⟩ := List.mem_map.mp h
  have hk := List.mem_range.mp hk
  match k, hk with
  | 0, _ => exact tw_35
  | 1, _ => exact tw_37
  | 2, _ => exact tw_39
  | 3, _ => exact tw_41
  | 4, _ => exact tw_43
  | 5, _ => exact tw_45
  | k + 6, hk => exact absurd hk (by omega)
theorem inT : ∀ w ∈ u_ws RT FT 6, w ∈ TB := by
  intro w h
  obtain ⟨k, hk, rfl⟩ := List.mem_map.mp h
  have hk := List.mem_range.mp hk
  match k, hk with
  | 0, _ => exact tw_84
  | 1, _ => exact tw_86
  | 2, _ => exact tw_88
  | 3, _ => exact tw_90
  | 4, _ => exact tw_92
  | 5, _ => exact tw_94
  | k + 6, hk => exact absurd hk (by omega)
theorem inG : ∀ w ∈ u_ws RG FG 3, w ∈ TB := by
  intro w h
  obtain ⟨k, hk, rfl⟩ := List.mem_map.mp h
  have hk := List.mem_range.mp hk
  match k, hk with
  | 0, _ => exact tw_60
  | 1, _ => exact tw_62
  | 2, _ => exact tw_64
  | k + 3, hk => exact absurd hk (by omega)
theorem inB : ∀ w ∈ u_ws RB FB 8, w ∈ TB := by
  intro w h
  obtain ⟨k, hk, rfl⟩ := List.mem_map.mp h
  have hk := List.mem_range.mp hk
  match k, hk with
  | 0, _ => exact tw_113
  | 1, _ => exact tw_115
  | 2, _ => exact tw_117
  | 3, _ => exact tw_119
  | 4, _ => exact tw_121
  | 5, _ => exact tw_123
  | 6, _ => exact tw_125
  | 7, _ => exact tw_127
  | k + 8, hk => exact absurd hk (by omega)
theorem inM : ∀ w ∈ u_ws RM FM 17, w ∈ TB := by
  intro w h
  obtain ⟨k, hk, rfl⟩ := List.mem_map.mp h
  have hk := List.mem_range.mp hk
  match k, hk with
  | 0, _ => exact tw_453
  | 1, _ => exact tw_455
  | 2, _ => exact tw_457
  | 3, _ => exact tw_459
  | 4, _ => exact tw_461
  | 5, _ => exact tw_463
  | 6, _ => exact tw_465
  | 7, _ => exact tw_467
  | 8, _ => exact tw_469
  | 9, _ => exact tw_471
  | 10, _ => exact tw_473
  | 11, _ => exact tw_475
  | 12, _ => exact tw_477
  | 13, _ => exact tw_479
  | 14, _ => exact tw_481
  | 15, _ => exact tw_483
  | 16, _ => exact tw_485
  | k + 17, hk => exact absurd hk (by omega)
end
section
theorem d_K_init_0 : decode c_K_init 0 = .ok (.aload_n 0, 1) := by decide +kernel
theorem d_K_init_1 : decode c_K_init 1 = .ok (.invokespecial 3, 3) := by decide +kernel
theorem d_K_init_4 : decode c_K_init 4 = .ok (.aload_n 0, 1) := by decide +kernel
theorem d_K_init_5 : decode c_K_init 5 = .ok (.bipush 48, 2) := by decide +kernel
theorem d_K_init_7 : decode c_K_init 7 = .ok (.newarray .int, 2) := by decide +kernel
theorem d_K_init_9 : decode c_K_init 9 = .ok (.putfield 9, 3) := by decide +kernel
theorem d_K_init_12 : decode c_K_init 12 = .ok (.aload_n 0, 1) := by decide +kernel
theorem d_K_init_13 : decode c_K_init 13 = .ok (.bipush 16, 2) := by decide +kernel
theorem d_K_init_15 : decode c_K_init 15 = .ok (.bipush 48, 2) := by decide +kernel
theorem d_K_init_17 : decode c_K_init 17 = .ok (.multianewarray 15 2, 4) := by decide +kernel
theorem d_K_init_21 : decode c_K_init 21 = .ok (.putfield 17, 3) := by decide +kernel
theorem d_K_init_24 : decode c_K_init 24 = .ok (.aload_n 0, 1) := by decide +kernel
theorem d_K_init_25 : decode c_K_init 25 = .ok (.bipush 96, 2) := by decide +kernel
theorem d_K_init_27 : decode c_K_init 27 = .ok (.newarray .long, 2) := by decide +kernel
theorem d_K_init_29 : decode c_K_init 29 = .ok (.putfield 20, 3) := by decide +kernel
theorem d_K_init_32 : decode c_K_init 32 = .ok (.aload_n 0, 1) := by decide +kernel
theorem d_K_init_33 : decode c_K_init 33 = .ok (.bipush 96, 2) := by decide +kernel
theorem d_K_init_35 : decode c_K_init 35 = .ok (.newarray .long, 2) := by decide +kernel
theorem d_K_init_37 : decode c_K_init 37 = .ok (.putfield 24, 3) := by decide +kernel
theorem d_K_init_40 : decode c_K_init 40 = .ok (.aload_n 0, 1) := by decide +kernel
theorem d_K_init_41 : decode c_K_init 41 = .ok (.iconst 0, 1) := by decide +kernel
theorem d_K_init_42 : decode c_K_init 42 = .ok (.putfield 27, 3) := by decide +kernel
theorem d_K_init_45 : decode c_K_init 45 = .ok (.aload_n 0, 1) := by decide +kernel
theorem d_K_init_46 : decode c_K_init 46 = .ok (.iconst 0, 1) := by decide +kernel
theorem d_K_init_47 : decode c_K_init 47 = .ok (.putfield 31, 3) := by decide +kernel
theorem d_K_init_50 : decode c_K_init 50 = .ok (.return_, 1) := by decide +kernel
theorem d_K_sortSymbols_0 : decode c_K_sortSymbols 0 = .ok (.aload_n 0, 1) := by decide +kernel
theorem d_K_sortSymbols_1 : decode c_K_sortSymbols 1 = .ok (.iconst 0, 1) := by decide +kernel
theorem d_K_sortSymbols_2 : decode c_K_sortSymbols 2 = .ok (.putfield 31, 3) := by decide +kernel
theorem d_K_sortSymbols_5 : decode c_K_sortSymbols 5 = .ok (.bipush 47, 2) := by decide +kernel
theorem d_K_sortSymbols_7 : decode c_K_sortSymbols 7 = .ok (.istore_n 2, 1) := by decide +kernel
theorem d_K_sortSymbols_8 : decode c_K_sortSymbols 8 = .ok (.iload_n 2, 1) := by decide +kernel
theorem d_K_sortSymbols_9 : decode c_K_sortSymbols 9 = .ok (.ifCond .lt 23, 3) := by decide +kernel
theorem d_K_sortSymbols_12 : decode c_K_sortSymbols 12 = .ok (.aload_n 1, 1) := by decide +kernel
theorem d_K_sortSymbols_13 : decode c_K_sortSymbols 13 = .ok (.iload_n 2, 1) := by decide +kernel
theorem d_K_sortSymbols_14 : decode c_K_sortSymbols 14 = .ok (.laload, 1) := by decide +kernel
theorem d_K_sortSymbols_15 : decode c_K_sortSymbols 15 = .ok (.lconst 0, 1) := by decide +kernel
theorem d_K_sortSymbols_16 : decode c_K_sortSymbols 16 = .ok (.lcmp, 1) := by decide +kernel
theorem d_K_sortSymbols_17 : decode c_K_sortSymbols 17 = .ok (.ifCond .le 9, 3) := by decide +kernel
theorem d_K_sortSymbols_20 : decode c_K_sortSymbols 20 = .ok (.aload_n 0, 1) := by decide +kernel
theorem d_K_sortSymbols_21 : decode c_K_sortSymbols 21 = .ok (.iload_n 2, 1) := by decide +kernel
theorem d_K_sortSymbols_22 : decode c_K_sortSymbols 22 = .ok (.aload_n 1, 1) := by decide +kernel
theorem d_K_sortSymbols_23 : decode c_K_sortSymbols 23 = .ok (.invokevirtual 34, 3) := by decide +kernel
theorem d_K_sortSymbols_26 : decode c_K_sortSymbols 26 = .ok (.iinc 2 (-1), 3) := by decide +kernel
theorem d_K_sortSymbols_29 : decode c_K_sortSymbols 29 = .ok (.goto (-21), 3) := by decide +kernel
theorem d_K_sortSymbols_32 : decode c_K_sortSymbols 32 = .ok (.aload_n 0, 1) := by decide +kernel
theorem d_K_sortSymbols_33 : decode c_K_sortSymbols 33 = .ok (.getfield 31, 3) := by decide +kernel
theorem d_K_sortSymbols_36 : decode c_K_sortSymbols 36 = .ok (.ireturn, 1) := by decide +kernel
theorem d_K_insert_0 : decode c_K_insert 0 = .ok (.aload_n 0, 1) := by decide +kernel
theorem d_K_insert_1 : decode c_K_insert 1 = .ok (.getfield 31, 3) := by decide +kernel
theorem d_K_insert_4 : decode c_K_insert 4 = .ok (.istore_n 3, 1) := by decide +kernel
theorem d_K_insert_5 : decode c_K_insert 5 = .ok (.iload_n 3, 1) := by decide +kernel
theorem d_K_insert_6 : decode c_K_insert 6 = .ok (.ifCond .le 40, 3) := by decide +kernel
theorem d_K_insert_9 : decode c_K_insert 9 = .ok (.aload_n 2, 1) := by decide +kernel
theorem d_K_insert_10 : decode c_K_insert 10 = .ok (.aload_n 0, 1) := by decide +kernel
theorem d_K_insert_11 : decode c_K_insert 11 = .ok (.getfield 9, 3) := by decide +kernel
theorem d_K_insert_14 : decode c_K_insert 14 = .ok (.iload_n 3, 1) := by decide +kernel
theorem d_K_insert_15 : decode c_K_insert 15 = .ok (.iconst 1, 1) := by decide +kernel
theorem d_K_insert_16 : decode c_K_insert 16 = .ok (.isub, 1) := by decide +kernel
theorem d_K_insert_17 : decode c_K_insert 17 = .ok (.iaload, 1) := by decide +kernel
theorem d_K_insert_18 : decode c_K_insert 18 = .ok (.laload, 1) := by decide +kernel
theorem d_K_insert_19 : decode c_K_insert 19 = .ok (.aload_n 2, 1) := by decide +kernel
theorem d_K_insert_20 : decode c_K_insert 20 = .ok (.iload_n 1, 1) := by decide +kernel
theorem d_K_insert_21 : decode c_K_insert 21 = .ok (.laload, 1) := by decide +kernel
theorem d_K_insert_22 : decode c_K_insert 22 = .ok (.lcmp, 1) := by decide +kernel
theorem d_K_insert_23 : decode c_K_insert 23 = .ok (.ifCond .le 23, 3) := by decide +kernel
theorem d_K_insert_26 : decode c_K_insert 26 = .ok (.aload_n 0, 1) := by decide +kernel
theorem d_K_insert_27 : decode c_K_insert 27 = .ok (.getfield 9, 3) := by decide +kernel
theorem d_K_insert_30 : decode c_K_insert 30 = .ok (.iload_n 3, 1) := by decide +kernel
theorem d_K_insert_31 : decode c_K_insert 31 = .ok (.aload_n 0, 1) := by decide +kernel
theorem d_K_insert_32 : decode c_K_insert 32 = .ok (.getfield 9, 3) := by decide +kernel
theorem d_K_insert_35 : decode c_K_insert 35 = .ok (.iload_n 3, 1) := by decide +kernel
theorem d_K_insert_36 : decode c_K_insert 36 = .ok (.iconst 1, 1) := by decide +kernel
theorem d_K_insert_37 : decode c_K_insert 37 = .ok (.isub, 1) := by decide +kernel
theorem d_K_insert_38 : decode c_K_insert 38 = .ok (.iaload, 1) := by decide +kernel
theorem d_K_insert_39 : decode c_K_insert 39 = .ok (.iastore, 1) := by decide +kernel
theorem d_K_insert_40 : decode c_K_insert 40 = .ok (.iinc 3 (-1), 3) := by decide +kernel
theorem d_K_insert_43 : decode c_K_insert 43 = .ok (.goto (-38), 3) := by decide +kernel
theorem d_K_insert_46 : decode c_K_insert 46 = .ok (.aload_n 0, 1) := by decide +kernel
theorem d_K_insert_47 : decode c_K_insert 47 = .ok (.getfield 9, 3) := by decide +kernel
theorem d_K_insert_50 : decode c_K_insert 50 = .ok (.iload_n 3, 1) := by decide +kernel
theorem d_K_insert_51 : decode c_K_insert 51 = .ok (.iload_n 1, 1) := by decide +kernel
theorem d_K_insert_52 : decode c_K_insert 52 = .ok (.iastore, 1) := by decide +kernel
theorem d_K_insert_53 : decode c_K_insert 53 = .ok (.aload_n 0, 1) := by decide +kernel
theorem d_K_insert_54 : decode c_K_insert 54 = .ok (.dup, 1) := by decide +kernel
theorem d_K_insert_55 : decode c_K_insert 55 = .ok (.getfield 31, 3) := by decide +kernel
theorem d_K_insert_58 : decode c_K_insert 58 = .ok (.iconst 1, 1) := by decide +kernel
theorem d_K_insert_59 : decode c_K_insert 59 = .ok (.iadd, 1) := by decide +kernel
theorem d_K_insert_60 : decode c_K_insert 60 = .ok (.putfield 31, 3) := by decide +kernel
theorem d_K_insert_63 : decode c_K_insert 63 = .ok (.return_, 1) := by decide +kernel
theorem d_K_makeLengths_0 : decode c_K_makeLengths 0 = .ok (.iconst 0, 1) := by decide +kernel
theorem d_K_makeLengths_1 : decode c_K_makeLengths 1 = .ok (.istore 4, 2) := by decide +kernel
theorem d_K_makeLengths_3 : decode c_K_makeLengths 3 = .ok (.iload 4, 2) := by decide +kernel
theorem d_K_makeLengths_5 : decode c_K_makeLengths 5 = .ok (.bipush 48, 2) := by decide +kernel
theorem d_K_makeLengths_7 : decode c_K_makeLengths 7 = .ok (.if_icmp .ge 14, 3) := by decide +kernel
theorem d_K_makeLengths_10 : decode c_K_makeLengths 10 = .ok (.aload_n 3, 1) := by decide +kernel
theorem d_K_makeLengths_11 : decode c_K_makeLengths 11 = .ok (.iload 4, 2) := by decide +kernel
theorem d_K_makeLengths_13 : decode c_K_makeLengths 13 = .ok (.iconst 0, 1) := by decide +kernel
theorem d_K_makeLengths_14 : decode c_K_makeLengths 14 = .ok (.iastore, 1) := by decide +kernel
theorem d_K_makeLengths_15 : decode c_K_makeLengths 15 = .ok (.iinc 4 1, 3) := by decide +kernel
theorem d_K_makeLengths_18 : decode c_K_makeLengths 18 = .ok (.goto (-15), 3) := by decide +kernel
theorem d_K_makeLengths_21 : decode c_K_makeLengths 21 = .ok (.aload_n 0, 1) := by decide +kernel
theorem d_K_makeLengths_22 : decode c_K_makeLengths 22 = .ok (.getfield 31, 3) := by decide +kernel
theorem d_K_makeLengths_25 : decode c_K_makeLengths 25 = .ok (.iconst 1, 1) := by decide +kernel
theorem d_K_makeLengths_26 : decode c_K_makeLengths 26 = .ok (.if_icmp .ne 12, 3) := by decide +kernel
theorem d_K_makeLengths_29 : decode c_K_makeLengths 29 = .ok (.aload_n 3, 1) := by decide +kernel
theorem d_K_makeLengths_30 : decode c_K_makeLengths 30 = .ok (.aload_n 0, 1) := by decide +kernel
theorem d_K_makeLengths_31 : decode c_K_makeLengths 31 = .ok (.getfield 9, 3) := by decide +kernel
theorem d_K_makeLengths_34 : decode c_K_makeLengths 34 = .ok (.iconst 0, 1) := by decide +kernel
theorem d_K_makeLengths_35 : decode c_K_makeLengths 35 = .ok (.iaload, 1) := by decide +kernel
theorem d_K_makeLengths_36 : decode c_K_makeLengths 36 = .ok (.iconst 1, 1) := by decide +kernel
theorem d_K_makeLengths_37 : decode c_K_makeLengths 37 = .ok (.iastore, 1) := by decide +kernel
theorem d_K_makeLengths_38 : decode c_K_makeLengths 38 = .ok (.aload_n 0, 1) := by decide +kernel
theorem d_K_makeLengths_39 : decode c_K_makeLengths 39 = .ok (.getfield 31, 3) := by decide +kernel
theorem d_K_makeLengths_42 : decode c_K_makeLengths 42 = .ok (.iconst 2, 1) := by decide +kernel
theorem d_K_makeLengths_43 : decode c_K_makeLengths 43 = .ok (.if_icmp .ge 4, 3) := by decide +kernel
theorem d_K_makeLengths_46 : decode c_K_makeLengths 46 = .ok (.return_, 1) := by decide +kernel
theorem d_K_makeLengths_47 : decode c_K_makeLengths 47 = .ok (.aload_n 0, 1) := by decide +kernel
theorem d_K_makeLengths_48 : decode c_K_makeLengths 48 = .ok (.iconst 0, 1) := by decide +kernel
theorem d_K_makeLengths_49 : decode c_K_makeLengths 49 = .ok (.putfield 27, 3) := by decide +kernel
theorem d_K_makeLengths_52 : decode c_K_makeLengths 52 = .ok (.iconst 0, 1) := by decide +kernel
theorem d_K_makeLengths_53 : decode c_K_makeLengths 53 = .ok (.istore 4, 2) := by decide +kernel
theorem d_K_makeLengths_55 : decode c_K_makeLengths 55 = .ok (.iload 4, 2) := by decide +kernel
theorem d_K_makeLengths_57 : decode c_K_makeLengths 57 = .ok (.iload_n 2, 1) := by decide +kernel
theorem d_K_makeLengths_58 : decode c_K_makeLengths 58 = .ok (.if_icmp .ge 16, 3) := by decide +kernel
theorem d_K_makeLengths_61 : decode c_K_makeLengths 61 = .ok (.aload_n 0, 1) := by decide +kernel
theorem d_K_makeLengths_62 : decode c_K_makeLengths 62 = .ok (.iload 4, 2) := by decide +kernel
theorem d_K_makeLengths_64 : decode c_K_makeLengths 64 = .ok (.aload_n 1, 1) := by decide +kernel
theorem d_K_makeLengths_65 : decode c_K_makeLengths 65 = .ok (.invokevirtual 38, 3) := by decide +kernel
theorem d_K_makeLengths_68 : decode c_K_makeLengths 68 = .ok (.iinc 4 1, 3) := by decide +kernel
theorem d_K_makeLengths_71 : decode c_K_makeLengths 71 = .ok (.goto (-16), 3) := by decide +kernel
theorem d_K_makeLengths_74 : decode c_K_makeLengths 74 = .ok (.aload_n 0, 1) := by decide +kernel
theorem d_K_makeLengths_75 : decode c_K_makeLengths 75 = .ok (.iload_n 2, 1) := by decide +kernel
theorem d_K_makeLengths_76 : decode c_K_makeLengths 76 = .ok (.aload_n 3, 1) := by decide +kernel
theorem d_K_makeLengths_77 : decode c_K_makeLengths 77 = .ok (.invokevirtual 41, 3) := by decide +kernel
theorem d_K_makeLengths_80 : decode c_K_makeLengths 80 = .ok (.return_, 1) := by decide +kernel
theorem d_K_buildRow_0 : decode c_K_buildRow 0 = .ok (.aload_n 0, 1) := by decide +kernel
theorem d_K_buildRow_1 : decode c_K_buildRow 1 = .ok (.getfield 27, 3) := by decide +kernel
theorem d_K_buildRow_4 : decode c_K_buildRow 4 = .ok (.iconst 2, 1) := by decide +kernel
theorem d_K_buildRow_5 : decode c_K_buildRow 5 = .ok (.idiv, 1) := by decide +kernel
theorem d_K_buildRow_6 : decode c_K_buildRow 6 = .ok (.istore_n 3, 1) := by decide +kernel
theorem d_K_buildRow_7 : decode c_K_buildRow 7 = .ok (.iconst 0, 1) := by decide +kernel
theorem d_K_buildRow_8 : decode c_K_buildRow 8 = .ok (.istore 4, 2) := by decide +kernel
theorem d_K_buildRow_10 : decode c_K_buildRow 10 = .ok (.iconst 0, 1) := by decide +kernel
theorem d_K_buildRow_11 : decode c_K_buildRow 11 = .ok (.istore 5, 2) := by decide +kernel
theorem d_K_buildRow_13 : decode c_K_buildRow 13 = .ok (.aload_n 0, 1) := by decide +kernel
theorem d_K_buildRow_14 : decode c_K_buildRow 14 = .ok (.aload_n 0, 1) := by decide +kernel
theorem d_K_buildRow_15 : decode c_K_buildRow 15 = .ok (.getfield 31, 3) := by decide +kernel
theorem d_K_buildRow_18 : decode c_K_buildRow 18 = .ok (.iload_n 3, 1) := by decide +kernel
theorem d_K_buildRow_19 : decode c_K_buildRow 19 = .ok (.iadd, 1) := by decide +kernel
theorem d_K_buildRow_20 : decode c_K_buildRow 20 = .ok (.putfield 27, 3) := by decide +kernel
theorem d_K_buildRow_23 : decode c_K_buildRow 23 = .ok (.iconst 0, 1) := by decide +kernel
theorem d_K_buildRow_24 : decode c_K_buildRow 24 = .ok (.istore 6, 2) := by decide +kernel
theorem d_K_buildRow_26 : decode c_K_buildRow 26 = .ok (.iload 6, 2) := by decide +kernel
theorem d_K_buildRow_28 : decode c_K_buildRow 28 = .ok (.aload_n 0, 1) := by decide +kernel
theorem d_K_buildRow_29 : decode c_K_buildRow 29 = .ok (.getfield 27, 3) := by decide +kernel
theorem d_K_buildRow_32 : decode c_K_buildRow 32 = .ok (.if_icmp .ge 113, 3) := by decide +kernel
theorem d_K_buildRow_35 : decode c_K_buildRow 35 = .ok (.iload 5, 2) := by decide +kernel
theorem d_K_buildRow_37 : decode c_K_buildRow 37 = .ok (.iload_n 3, 1) := by decide +kernel
theorem d_K_buildRow_38 : decode c_K_buildRow 38 = .ok (.if_icmp .ge 27, 3) := by decide +kernel
theorem d_K_buildRow_41 : decode c_K_buildRow 41 = .ok (.aload_n 0, 1) := by decide +kernel
theorem d_K_buildRow_42 : decode c_K_buildRow 42 = .ok (.getfield 20, 3) := by decide +kernel
theorem d_K_buildRow_45 : decode c_K_buildRow 45 = .ok (.iconst 2, 1) := by decide +kernel
theorem d_K_buildRow_46 : decode c_K_buildRow 46 = .ok (.iload 5, 2) := by decide +kernel
theorem d_K_buildRow_48 : decode c_K_buildRow 48 = .ok (.imul, 1) := by decide +kernel
theorem d_K_buildRow_49 : decode c_K_buildRow 49 = .ok (.laload, 1) := by decide +kernel
theorem d_K_buildRow_50 : decode c_K_buildRow 50 = .ok (.aload_n 0, 1) := by decide +kernel
theorem d_K_buildRow_51 : decode c_K_buildRow 51 = .ok (.getfield 20, 3) := by decide +kernel
theorem d_K_buildRow_54 : decode c_K_buildRow 54 = .ok (.iconst 2, 1) := by decide +kernel
theorem d_K_buildRow_55 : decode c_K_buildRow 55 = .ok (.iload 5, 2) := by decide +kernel
theorem d_K_buildRow_57 : decode c_K_buildRow 57 = .ok (.imul, 1) := by decide +kernel
theorem d_K_buildRow_58 : decode c_K_buildRow 58 = .ok (.iconst 1, 1) := by decide +kernel
theorem d_K_buildRow_59 : decode c_K_buildRow 59 = .ok (.iadd, 1) := by decide +kernel
theorem d_K_buildRow_60 : decode c_K_buildRow 60 = .ok (.laload, 1) := by decide +kernel
theorem d_K_buildRow_61 : decode c_K_buildRow 61 = .ok (.ladd, 1) := by decide +kernel
theorem d_K_buildRow_62 : decode c_K_buildRow 62 = .ok (.goto 6, 3) := by decide +kernel
theorem d_K_buildRow_65 : decode c_K_buildRow 65 = .ok (.ldc2_w 47, 3) := by decide +kernel
theorem d_K_buildRow_68 : decode c_K_buildRow 68 = .ok (.lstore 7, 2) := by decide +kernel
theorem d_K_buildRow_70 : decode c_K_buildRow 70 = .ok (.iload 4, 2) := by decide +kernel
theorem d_K_buildRow_72 : decode c_K_buildRow 72 = .ok (.aload_n 0, 1) := by decide +kernel
theorem d_K_buildRow_73 : decode c_K_buildRow 73 = .ok (.getfield 31, 3) := by decide +kernel
theorem d_K_buildRow_76 : decode c_K_buildRow 76 = .ok (.if_icmp .ge 51, 3) := by decide +kernel
theorem d_K_buildRow_79 : decode c_K_buildRow 79 = .ok (.aload_n 2, 1) := by decide +kernel
theorem d_K_buildRow_80 : decode c_K_buildRow 80 = .ok (.aload_n 0, 1) := by decide +kernel
theorem d_K_buildRow_81 : decode c_K_buildRow 81 = .ok (.getfield 9, 3) := by decide +kernel
theorem d_K_buildRow_84 : decode c_K_buildRow 84 = .ok (.iload 4, 2) := by decide +kernel
theorem d_K_buildRow_86 : decode c_K_buildRow 86 = .ok (.iaload, 1) := by decide +kernel
theorem d_K_buildRow_87 : decode c_K_buildRow 87 = .ok (.laload, 1) := by decide +kernel
theorem d_K_buildRow_88 : decode c_K_buildRow 88 = .ok (.lload 7, 2) := by decide +kernel
theorem d_K_buildRow_90 : decode c_K_buildRow 90 = .ok (.lcmp, 1) := by decide +kernel
theorem d_K_buildRow_91 : decode c_K_buildRow 91 = .ok (.ifCond .gt 36, 3) := by decide +kernel
theorem d_K_buildRow_94 : decode c_K_buildRow 94 = .ok (.aload_n 0, 1) := by decide +kernel
theorem d_K_buildRow_95 : decode c_K_buildRow 95 = .ok (.getfield 17, 3) := by decide +kernel
theorem d_K_buildRow_98 : decode c_K_buildRow 98 = .ok (.iload_n 1, 1) := by decide +kernel
theorem d_K_buildRow_99 : decode c_K_buildRow 99 = .ok (.aaload, 1) := by decide +kernel
theorem d_K_buildRow_100 : decode c_K_buildRow 100 = .ok (.iload 4, 2) := by decide +kernel
theorem d_K_buildRow_102 : decode c_K_buildRow 102 = .ok (.iload 6, 2) := by decide +kernel
theorem d_K_buildRow_104 : decode c_K_buildRow 104 = .ok (.iastore, 1) := by decide +kernel
theorem d_K_buildRow_105 : decode c_K_buildRow 105 = .ok (.aload_n 0, 1) := by decide +kernel
theorem d_K_buildRow_106 : decode c_K_buildRow 106 = .ok (.getfield 24, 3) := by decide +kernel
theorem d_K_buildRow_109 : decode c_K_buildRow 109 = .ok (.iload 6, 2) := by decide +kernel
theorem d_K_buildRow_111 : decode c_K_buildRow 111 = .ok (.aload_n 2, 1) := by decide +kernel
theorem d_K_buildRow_112 : decode c_K_buildRow 112 = .ok (.aload_n 0, 1) := by decide +kernel
theorem d_K_buildRow_113 : decode c_K_buildRow 113 = .ok (.getfield 9, 3) := by decide +kernel
theorem d_K_buildRow_116 : decode c_K_buildRow 116 = .ok (.iload 4, 2) := by decide +kernel
theorem d_K_buildRow_118 : decode c_K_buildRow 118 = .ok (.iaload, 1) := by decide +kernel
theorem d_K_buildRow_119 : decode c_K_buildRow 119 = .ok (.laload, 1) := by decide +kernel
theorem d_K_buildRow_120 : decode c_K_buildRow 120 = .ok (.lastore, 1) := by decide +kernel
theorem d_K_buildRow_121 : decode c_K_buildRow 121 = .ok (.iinc 4 1, 3) := by decide +kernel
theorem d_K_buildRow_124 : decode c_K_buildRow 124 = .ok (.goto 15, 3) := by decide +kernel
theorem d_K_buildRow_127 : decode c_K_buildRow 127 = .ok (.aload_n 0, 1) := by decide +kernel
theorem d_K_buildRow_128 : decode c_K_buildRow 128 = .ok (.getfield 24, 3) := by decide +kernel
theorem d_K_buildRow_131 : decode c_K_buildRow 131 = .ok (.iload 6, 2) := by decide +kernel
theorem d_K_buildRow_133 : decode c_K_buildRow 133 = .ok (.lload 7, 2) := by decide +kernel
theorem d_K_buildRow_135 : decode c_K_buildRow 135 = .ok (.lastore, 1) := by decide +kernel
theorem d_K_buildRow_136 : decode c_K_buildRow 136 = .ok (.iinc 5 1, 3) := by decide +kernel
theorem d_K_buildRow_139 : decode c_K_buildRow 139 = .ok (.iinc 6 1, 3) := by decide +kernel
theorem d_K_buildRow_142 : decode c_K_buildRow 142 = .ok (.goto (-116), 3) := by decide +kernel
theorem d_K_buildRow_145 : decode c_K_buildRow 145 = .ok (.aload_n 0, 1) := by decide +kernel
theorem d_K_buildRow_146 : decode c_K_buildRow 146 = .ok (.getfield 20, 3) := by decide +kernel
theorem d_K_buildRow_149 : decode c_K_buildRow 149 = .ok (.astore 6, 2) := by decide +kernel
theorem d_K_buildRow_151 : decode c_K_buildRow 151 = .ok (.aload_n 0, 1) := by decide +kernel
theorem d_K_buildRow_152 : decode c_K_buildRow 152 = .ok (.aload_n 0, 1) := by decide +kernel
theorem d_K_buildRow_153 : decode c_K_buildRow 153 = .ok (.getfield 24, 3) := by decide +kernel
theorem d_K_buildRow_156 : decode c_K_buildRow 156 = .ok (.putfield 20, 3) := by decide +kernel
theorem d_K_buildRow_159 : decode c_K_buildRow 159 = .ok (.aload_n 0, 1) := by decide +kernel
theorem d_K_buildRow_160 : decode c_K_buildRow 160 = .ok (.aload 6, 2) := by decide +kernel
theorem d_K_buildRow_162 : decode c_K_buildRow 162 = .ok (.putfield 24, 3) := by decide +kernel
theorem d_K_buildRow_165 : decode c_K_buildRow 165 = .ok (.return_, 1) := by decide +kernel
theorem d_K_countTaken_0 : decode c_K_countTaken 0 = .ok (.iconst 2, 1) := by decide +kernel
theorem d_K_countTaken_1 : decode c_K_countTaken 1 = .ok (.aload_n 0, 1) := by decide +kernel
theorem d_K_countTaken_2 : decode c_K_countTaken 2 = .ok (.getfield 31, 3) := by decide +kernel
theorem d_K_countTaken_5 : decode c_K_countTaken 5 = .ok (.imul, 1) := by decide +kernel
theorem d_K_countTaken_6 : decode c_K_countTaken 6 = .ok (.iconst 2, 1) := by decide +kernel
theorem d_K_countTaken_7 : decode c_K_countTaken 7 = .ok (.isub, 1) := by decide +kernel
theorem d_K_countTaken_8 : decode c_K_countTaken 8 = .ok (.istore_n 3, 1) := by decide +kernel
theorem d_K_countTaken_9 : decode c_K_countTaken 9 = .ok (.iload_n 1, 1) := by decide +kernel
theorem d_K_countTaken_10 : decode c_K_countTaken 10 = .ok (.iconst 1, 1) := by decide +kernel
theorem d_K_countTaken_11 : decode c_K_countTaken 11 = .ok (.isub, 1) := by decide +kernel
theorem d_K_countTaken_12 : decode c_K_countTaken 12 = .ok (.istore 4, 2) := by decide +kernel
theorem d_K_countTaken_14 : decode c_K_countTaken 14 = .ok (.iload 4, 2) := by decide +kernel
theorem d_K_countTaken_16 : decode c_K_countTaken 16 = .ok (.ifCond .lt 61, 3) := by decide +kernel
theorem d_K_countTaken_19 : decode c_K_countTaken 19 = .ok (.iconst 0, 1) := by decide +kernel
theorem d_K_countTaken_20 : decode c_K_countTaken 20 = .ok (.istore 5, 2) := by decide +kernel
theorem d_K_countTaken_22 : decode c_K_countTaken 22 = .ok (.iload 5, 2) := by decide +kernel
theorem d_K_countTaken_24 : decode c_K_countTaken 24 = .ok (.aload_n 0, 1) := by decide +kernel
theorem d_K_countTaken_25 : decode c_K_countTaken 25 = .ok (.getfield 31, 3) := by decide +kernel
theorem d_K_countTaken_28 : decode c_K_countTaken 28 = .ok (.if_icmp .ge 36, 3) := by decide +kernel
theorem d_K_countTaken_31 : decode c_K_countTaken 31 = .ok (.aload_n 0, 1) := by decide +kernel
theorem d_K_countTaken_32 : decode c_K_countTaken 32 = .ok (.getfield 17, 3) := by decide +kernel
theorem d_K_countTaken_35 : decode c_K_countTaken 35 = .ok (.iload 4, 2) := by decide +kernel
theorem d_K_countTaken_37 : decode c_K_countTaken 37 = .ok (.aaload, 1) := by decide +kernel
theorem d_K_countTaken_38 : decode c_K_countTaken 38 = .ok (.iload 5, 2) := by decide +kernel
theorem d_K_countTaken_40 : decode c_K_countTaken 40 = .ok (.iaload, 1) := by decide +kernel
theorem d_K_countTaken_41 : decode c_K_countTaken 41 = .ok (.iload_n 3, 1) := by decide +kernel
theorem d_K_countTaken_42 : decode c_K_countTaken 42 = .ok (.if_icmp .ge 22, 3) := by decide +kernel
theorem d_K_countTaken_45 : decode c_K_countTaken 45 = .ok (.aload_n 2, 1) := by decide +kernel
theorem d_K_countTaken_46 : decode c_K_countTaken 46 = .ok (.aload_n 0, 1) := by decide +kernel
theorem d_K_countTaken_47 : decode c_K_countTaken 47 = .ok (.getfield 9, 3) := by decide +kernel
theorem d_K_countTaken_50 : decode c_K_countTaken 50 = .ok (.iload 5, 2) := by decide +kernel
theorem d_K_countTaken_52 : decode c_K_countTaken 52 = .ok (.iaload, 1) := by decide +kernel
theorem d_K_countTaken_53 : decode c_K_countTaken 53 = .ok (.dup2, 1) := by decide +kernel
theorem d_K_countTaken_54 : decode c_K_countTaken 54 = .ok (.iaload, 1) := by decide +kernel
theorem d_K_countTaken_55 : decode c_K_countTaken 55 = .ok (.iconst 1, 1) := by decide +kernel
theorem d_K_countTaken_56 : decode c_K_countTaken 56 = .ok (.iadd, 1) := by decide +kernel
theorem d_K_countTaken_57 : decode c_K_countTaken 57 = .ok (.iastore, 1) := by decide +kernel
theorem d_K_countTaken_58 : decode c_K_countTaken 58 = .ok (.iinc 5 1, 3) := by decide +kernel
theorem d_K_countTaken_61 : decode c_K_countTaken 61 = .ok (.goto (-39), 3) := by decide +kernel
theorem d_K_countTaken_64 : decode c_K_countTaken 64 = .ok (.iconst 2, 1) := by decide +kernel
theorem d_K_countTaken_65 : decode c_K_countTaken 65 = .ok (.iload_n 3, 1) := by decide +kernel
theorem d_K_countTaken_66 : decode c_K_countTaken 66 = .ok (.iload 5, 2) := by decide +kernel
theorem d_K_countTaken_68 : decode c_K_countTaken 68 = .ok (.isub, 1) := by decide +kernel
theorem d_K_countTaken_69 : decode c_K_countTaken 69 = .ok (.imul, 1) := by decide +kernel
theorem d_K_countTaken_70 : decode c_K_countTaken 70 = .ok (.istore_n 3, 1) := by decide +kernel
theorem d_K_countTaken_71 : decode c_K_countTaken 71 = .ok (.iinc 4 (-1), 3) := by decide +kernel
theorem d_K_countTaken_74 : decode c_K_countTaken 74 = .ok (.goto (-60), 3) := by decide +kernel
theorem d_K_countTaken_77 : decode c_K_countTaken 77 = .ok (.return_, 1) := by decide +kernel
theorem d_T_init_0 : decode c_T_init 0 = .ok (.aload_n 0, 1) := by decide +kernel
theorem d_T_init_1 : decode c_T_init 1 = .ok (.invokespecial 3, 3) := by decide +kernel
theorem d_T_init_4 : decode c_T_init 4 = .ok (.aload_n 0, 1) := by decide +kernel
theorem d_T_init_5 : decode c_T_init 5 = .ok (.bipush 48, 2) := by decide +kernel
theorem d_T_init_7 : decode c_T_init 7 = .ok (.newarray .int, 2) := by decide +kernel
theorem d_T_init_9 : decode c_T_init 9 = .ok (.putfield 9, 3) := by decide +kernel
theorem d_T_init_12 : decode c_T_init 12 = .ok (.aload_n 0, 1) := by decide +kernel
theorem d_T_init_13 : decode c_T_init 13 = .ok (.bipush 48, 2) := by decide +kernel
theorem d_T_init_15 : decode c_T_init 15 = .ok (.newarray .int, 2) := by decide +kernel
theorem d_T_init_17 : decode c_T_init 17 = .ok (.putfield 15, 3) := by decide +kernel
theorem d_T_init_20 : decode c_T_init 20 = .ok (.aload_n 0, 1) := by decide +kernel
theorem d_T_init_21 : decode c_T_init 21 = .ok (.bipush 17, 2) := by decide +kernel
theorem d_T_init_23 : decode c_T_init 23 = .ok (.newarray .int, 2) := by decide +kernel
theorem d_T_init_25 : decode c_T_init 25 = .ok (.putfield 18, 3) := by decide +kernel
theorem d_T_init_28 : decode c_T_init 28 = .ok (.aload_n 0, 1) := by decide +kernel
theorem d_T_init_29 : decode c_T_init 29 = .ok (.bipush 17, 2) := by decide +kernel
theorem d_T_init_31 : decode c_T_init 31 = .ok (.newarray .int, 2) := by decide +kernel
theorem d_T_init_33 : decode c_T_init 33 = .ok (.putfield 21, 3) := by decide +kernel
theorem d_T_init_36 : decode c_T_init 36 = .ok (.aload_n 0, 1) := by decide +kernel
theorem d_T_init_37 : decode c_T_init 37 = .ok (.iconst 0, 1) := by decide +kernel
theorem d_T_init_38 : decode c_T_init 38 = .ok (.putfield 24, 3) := by decide +kernel
theorem d_T_init_41 : decode c_T_init 41 = .ok (.aload_n 0, 1) := by decide +kernel
theorem d_T_init_42 : decode c_T_init 42 = .ok (.iload_n 1, 1) := by decide +kernel
theorem d_T_init_43 : decode c_T_init 43 = .ok (.putfield 28, 3) := by decide +kernel
theorem d_T_init_46 : decode c_T_init 46 = .ok (.return_, 1) := by decide +kernel
theorem d_T_state_0 : decode c_T_state 0 = .ok (.aload_n 0, 1) := by decide +kernel
theorem d_T_state_1 : decode c_T_state 1 = .ok (.getfield 24, 3) := by decide +kernel
theorem d_T_state_4 : decode c_T_state 4 = .ok (.ldc 31, 2) := by decide +kernel
theorem d_T_state_6 : decode c_T_state 6 = .ok (.if_icmp .le 5, 3) := by decide +kernel
theorem d_T_state_9 : decode c_T_state 9 = .ok (.iconst 2, 1) := by decide +kernel
theorem d_T_state_10 : decode c_T_state 10 = .ok (.ireturn, 1) := by decide +kernel
theorem d_T_state_11 : decode c_T_state 11 = .ok (.aload_n 0, 1) := by decide +kernel
theorem d_T_state_12 : decode c_T_state 12 = .ok (.getfield 24, 3) := by decide +kernel
theorem d_T_state_15 : decode c_T_state 15 = .ok (.ldc 31, 2) := by decide +kernel
theorem d_T_state_17 : decode c_T_state 17 = .ok (.if_icmp .ne 7, 3) := by decide +kernel
theorem d_T_state_20 : decode c_T_state 20 = .ok (.iconst 0, 1) := by decide +kernel
theorem d_T_state_21 : decode c_T_state 21 = .ok (.goto 4, 3) := by decide +kernel
theorem d_T_state_24 : decode c_T_state 24 = .ok (.iconst 1, 1) := by decide +kernel
theorem d_T_state_25 : decode c_T_state 25 = .ok (.ireturn, 1) := by decide +kernel
theorem d_T_renew_0 : decode c_T_renew 0 = .ok (.aload_n 0, 1) := by decide +kernel
theorem d_T_renew_1 : decode c_T_renew 1 = .ok (.invokevirtual 32, 3) := by decide +kernel
theorem d_T_renew_4 : decode c_T_renew 4 = .ok (.aload_n 0, 1) := by decide +kernel
theorem d_T_renew_5 : decode c_T_renew 5 = .ok (.iconst 0, 1) := by decide +kernel
theorem d_T_renew_6 : decode c_T_renew 6 = .ok (.putfield 24, 3) := by decide +kernel
theorem d_T_renew_9 : decode c_T_renew 9 = .ok (.iconst 1, 1) := by decide +kernel
theorem d_T_renew_10 : decode c_T_renew 10 = .ok (.istore_n 1, 1) := by decide +kernel
theorem d_T_renew_11 : decode c_T_renew 11 = .ok (.iload_n 1, 1) := by decide +kernel
theorem d_T_renew_12 : decode c_T_renew 12 = .ok (.bipush 16, 2) := by decide +kernel
theorem d_T_renew_14 : decode c_T_renew 14 = .ok (.if_icmp .gt 29, 3) := by decide +kernel
theorem d_T_renew_17 : decode c_T_renew 17 = .ok (.aload_n 0, 1) := by decide +kernel
theorem d_T_renew_18 : decode c_T_renew 18 = .ok (.dup, 1) := by decide +kernel
theorem d_T_renew_19 : decode c_T_renew 19 = .ok (.getfield 24, 3) := by decide +kernel
theorem d_T_renew_22 : decode c_T_renew 22 = .ok (.aload_n 0, 1) := by decide +kernel
theorem d_T_renew_23 : decode c_T_renew 23 = .ok (.getfield 18, 3) := by decide +kernel
theorem d_T_renew_26 : decode c_T_renew 26 = .ok (.iload_n 1, 1) := by decide +kernel
theorem d_T_renew_27 : decode c_T_renew 27 = .ok (.iaload, 1) := by decide +kernel
theorem d_T_renew_28 : decode c_T_renew 28 = .ok (.ldc 31, 2) := by decide +kernel
theorem d_T_renew_30 : decode c_T_renew 30 = .ok (.iload_n 1, 1) := by decide +kernel
theorem d_T_renew_31 : decode c_T_renew 31 = .ok (.ishr, 1) := by decide +kernel
theorem d_T_renew_32 : decode c_T_renew 32 = .ok (.imul, 1) := by decide +kernel
theorem d_T_renew_33 : decode c_T_renew 33 = .ok (.iadd, 1) := by decide +kernel
theorem d_T_renew_34 : decode c_T_renew 34 = .ok (.putfield 24, 3) := by decide +kernel
theorem d_T_renew_37 : decode c_T_renew 37 = .ok (.iinc 1 1, 3) := by decide +kernel
theorem d_T_renew_40 : decode c_T_renew 40 = .ok (.goto (-29), 3) := by decide +kernel
theorem d_T_renew_43 : decode c_T_renew 43 = .ok (.aload_n 0, 1) := by decide +kernel
theorem d_T_renew_44 : decode c_T_renew 44 = .ok (.getfield 24, 3) := by decide +kernel
theorem d_T_renew_47 : decode c_T_renew 47 = .ok (.ldc 31, 2) := by decide +kernel
theorem d_T_renew_49 : decode c_T_renew 49 = .ok (.if_icmp .gt 7, 3) := by decide +kernel
theorem d_T_renew_52 : decode c_T_renew 52 = .ok (.aload_n 0, 1) := by decide +kernel
theorem d_T_renew_53 : decode c_T_renew 53 = .ok (.invokevirtual 35, 3) := by decide +kernel
theorem d_T_renew_56 : decode c_T_renew 56 = .ok (.return_, 1) := by decide +kernel
theorem d_T_countSharing_0 : decode c_T_countSharing 0 = .ok (.iconst 0, 1) := by decide +kernel
theorem d_T_countSharing_1 : decode c_T_countSharing 1 = .ok (.istore_n 1, 1) := by decide +kernel
theorem d_T_countSharing_2 : decode c_T_countSharing 2 = .ok (.iload_n 1, 1) := by decide +kernel
theorem d_T_countSharing_3 : decode c_T_countSharing 3 = .ok (.bipush 16, 2) := by decide +kernel
theorem d_T_countSharing_5 : decode c_T_countSharing 5 = .ok (.if_icmp .gt 16, 3) := by decide +kernel
theorem d_T_countSharing_8 : decode c_T_countSharing 8 = .ok (.aload_n 0, 1) := by decide +kernel
theorem d_T_countSharing_9 : decode c_T_countSharing 9 = .ok (.getfield 18, 3) := by decide +kernel
theorem d_T_countSharing_12 : decode c_T_countSharing 12 = .ok (.iload_n 1, 1) := by decide +kernel
theorem d_T_countSharing_13 : decode c_T_countSharing 13 = .ok (.iconst 0, 1) := by decide +kernel
theorem d_T_countSharing_14 : decode c_T_countSharing 14 = .ok (.iastore, 1) := by decide +kernel
theorem d_T_countSharing_15 : decode c_T_countSharing 15 = .ok (.iinc 1 1, 3) := by decide +kernel
theorem d_T_countSharing_18 : decode c_T_countSharing 18 = .ok (.goto (-16), 3) := by decide +kernel
theorem d_T_countSharing_21 : decode c_T_countSharing 21 = .ok (.iconst 0, 1) := by decide +kernel
theorem d_T_countSharing_22 : decode c_T_countSharing 22 = .ok (.istore_n 1, 1) := by decide +kernel
theorem d_T_countSharing_23 : decode c_T_countSharing 23 = .ok (.iload_n 1, 1) := by decide +kernel
theorem d_T_countSharing_24 : decode c_T_countSharing 24 = .ok (.bipush 48, 2) := by decide +kernel
theorem d_T_countSharing_26 : decode c_T_countSharing 26 = .ok (.if_icmp .ge 24, 3) := by decide +kernel
theorem d_T_countSharing_29 : decode c_T_countSharing 29 = .ok (.aload_n 0, 1) := by decide +kernel
theorem d_T_countSharing_30 : decode c_T_countSharing 30 = .ok (.getfield 18, 3) := by decide +kernel
theorem d_T_countSharing_33 : decode c_T_countSharing 33 = .ok (.aload_n 0, 1) := by decide +kernel
theorem d_T_countSharing_34 : decode c_T_countSharing 34 = .ok (.getfield 9, 3) := by decide +kernel
theorem d_T_countSharing_37 : decode c_T_countSharing 37 = .ok (.iload_n 1, 1) := by decide +kernel
theorem d_T_countSharing_38 : decode c_T_countSharing 38 = .ok (.iaload, 1) := by decide +kernel
theorem d_T_countSharing_39 : decode c_T_countSharing 39 = .ok (.dup2, 1) := by decide +kernel
theorem d_T_countSharing_40 : decode c_T_countSharing 40 = .ok (.iaload, 1) := by decide +kernel
theorem d_T_countSharing_41 : decode c_T_countSharing 41 = .ok (.iconst 1, 1) := by decide +kernel
theorem d_T_countSharing_42 : decode c_T_countSharing 42 = .ok (.iadd, 1) := by decide +kernel
theorem d_T_countSharing_43 : decode c_T_countSharing 43 = .ok (.iastore, 1) := by decide +kernel
theorem d_T_countSharing_44 : decode c_T_countSharing 44 = .ok (.iinc 1 1, 3) := by decide +kernel
theorem d_T_countSharing_47 : decode c_T_countSharing 47 = .ok (.goto (-24), 3) := by decide +kernel
theorem d_T_countSharing_50 : decode c_T_countSharing 50 = .ok (.return_, 1) := by decide +kernel
theorem d_T_giveCodes_0 : decode c_T_giveCodes 0 = .ok (.aload_n 0, 1) := by decide +kernel
theorem d_T_giveCodes_1 : decode c_T_giveCodes 1 = .ok (.getfield 28, 3) := by decide +kernel
theorem d_T_giveCodes_4 : decode c_T_giveCodes 4 = .ok (.iconst 2, 1) := by decide +kernel
theorem d_T_giveCodes_5 : decode c_T_giveCodes 5 = .ok (.if_icmp .ne 10, 3) := by decide +kernel
theorem d_T_giveCodes_8 : decode c_T_giveCodes 8 = .ok (.aload_n 0, 1) := by decide +kernel
theorem d_T_giveCodes_9 : decode c_T_giveCodes 9 = .ok (.invokevirtual 38, 3) := by decide +kernel
theorem d_T_giveCodes_12 : decode c_T_giveCodes 12 = .ok (.goto 7, 3) := by decide +kernel
theorem d_T_giveCodes_15 : decode c_T_giveCodes 15 = .ok (.aload_n 0, 1) := by decide +kernel
theorem d_T_giveCodes_16 : decode c_T_giveCodes 16 = .ok (.invokevirtual 41, 3) := by decide +kernel
theorem d_T_giveCodes_19 : decode c_T_giveCodes 19 = .ok (.iconst 0, 1) := by decide +kernel
theorem d_T_giveCodes_20 : decode c_T_giveCodes 20 = .ok (.istore_n 1, 1) := by decide +kernel
theorem d_T_giveCodes_21 : decode c_T_giveCodes 21 = .ok (.iload_n 1, 1) := by decide +kernel
theorem d_T_giveCodes_22 : decode c_T_giveCodes 22 = .ok (.bipush 48, 2) := by decide +kernel
theorem d_T_giveCodes_24 : decode c_T_giveCodes 24 = .ok (.if_icmp .ge 34, 3) := by decide +kernel
theorem d_T_giveCodes_27 : decode c_T_giveCodes 27 = .ok (.aload_n 0, 1) := by decide +kernel
theorem d_T_giveCodes_28 : decode c_T_giveCodes 28 = .ok (.getfield 9, 3) := by decide +kernel
theorem d_T_giveCodes_31 : decode c_T_giveCodes 31 = .ok (.iload_n 1, 1) := by decide +kernel
theorem d_T_giveCodes_32 : decode c_T_giveCodes 32 = .ok (.iaload, 1) := by decide +kernel
theorem d_T_giveCodes_33 : decode c_T_giveCodes 33 = .ok (.ifCond .le 19, 3) := by decide +kernel
theorem d_T_giveCodes_36 : decode c_T_giveCodes 36 = .ok (.aload_n 0, 1) := by decide +kernel
theorem d_T_giveCodes_37 : decode c_T_giveCodes 37 = .ok (.getfield 15, 3) := by decide +kernel
theorem d_T_giveCodes_40 : decode c_T_giveCodes 40 = .ok (.iload_n 1, 1) := by decide +kernel
theorem d_T_giveCodes_41 : decode c_T_giveCodes 41 = .ok (.aload_n 0, 1) := by decide +kernel
theorem d_T_giveCodes_42 : decode c_T_giveCodes 42 = .ok (.aload_n 0, 1) := by decide +kernel
theorem d_T_giveCodes_43 : decode c_T_giveCodes 43 = .ok (.getfield 9, 3) := by decide +kernel
theorem d_T_giveCodes_46 : decode c_T_giveCodes 46 = .ok (.iload_n 1, 1) := by decide +kernel
theorem d_T_giveCodes_47 : decode c_T_giveCodes 47 = .ok (.iaload, 1) := by decide +kernel
theorem d_T_giveCodes_48 : decode c_T_giveCodes 48 = .ok (.invokevirtual 44, 3) := by decide +kernel
theorem d_T_giveCodes_51 : decode c_T_giveCodes 51 = .ok (.iastore, 1) := by decide +kernel
theorem d_T_giveCodes_52 : decode c_T_giveCodes 52 = .ok (.iinc 1 1, 3) := by decide +kernel
theorem d_T_giveCodes_55 : decode c_T_giveCodes 55 = .ok (.goto (-34), 3) := by decide +kernel
theorem d_T_giveCodes_58 : decode c_T_giveCodes 58 = .ok (.return_, 1) := by decide +kernel
theorem d_T_takeCode_0 : decode c_T_takeCode 0 = .ok (.aload_n 0, 1) := by decide +kernel
theorem d_T_takeCode_1 : decode c_T_takeCode 1 = .ok (.getfield 21, 3) := by decide +kernel
theorem d_T_takeCode_4 : decode c_T_takeCode 4 = .ok (.iload_n 1, 1) := by decide +kernel
theorem d_T_takeCode_5 : decode c_T_takeCode 5 = .ok (.iaload, 1) := by decide +kernel
theorem d_T_takeCode_6 : decode c_T_takeCode 6 = .ok (.istore_n 2, 1) := by decide +kernel
theorem d_T_takeCode_7 : decode c_T_takeCode 7 = .ok (.aload_n 0, 1) := by decide +kernel
theorem d_T_takeCode_8 : decode c_T_takeCode 8 = .ok (.getfield 21, 3) := by decide +kernel
theorem d_T_takeCode_11 : decode c_T_takeCode 11 = .ok (.iload_n 1, 1) := by decide +kernel
theorem d_T_takeCode_12 : decode c_T_takeCode 12 = .ok (.dup2, 1) := by decide +kernel
theorem d_T_takeCode_13 : decode c_T_takeCode 13 = .ok (.iaload, 1) := by decide +kernel
theorem d_T_takeCode_14 : decode c_T_takeCode 14 = .ok (.iconst 1, 1) := by decide +kernel
theorem d_T_takeCode_15 : decode c_T_takeCode 15 = .ok (.iadd, 1) := by decide +kernel
theorem d_T_takeCode_16 : decode c_T_takeCode 16 = .ok (.iastore, 1) := by decide +kernel
theorem d_T_takeCode_17 : decode c_T_takeCode 17 = .ok (.aload_n 0, 1) := by decide +kernel
theorem d_T_takeCode_18 : decode c_T_takeCode 18 = .ok (.getfield 28, 3) := by decide +kernel
theorem d_T_takeCode_21 : decode c_T_takeCode 21 = .ok (.iconst 1, 1) := by decide +kernel
theorem d_T_takeCode_22 : decode c_T_takeCode 22 = .ok (.if_icmp .ne 13, 3) := by decide +kernel
theorem d_T_takeCode_25 : decode c_T_takeCode 25 = .ok (.iconst 1, 1) := by decide +kernel
theorem d_T_takeCode_26 : decode c_T_takeCode 26 = .ok (.iload_n 1, 1) := by decide +kernel
theorem d_T_takeCode_27 : decode c_T_takeCode 27 = .ok (.ishl, 1) := by decide +kernel
theorem d_T_takeCode_28 : decode c_T_takeCode 28 = .ok (.iconst 1, 1) := by decide +kernel
theorem d_T_takeCode_29 : decode c_T_takeCode 29 = .ok (.isub, 1) := by decide +kernel
theorem d_T_takeCode_30 : decode c_T_takeCode 30 = .ok (.iload_n 2, 1) := by decide +kernel
theorem d_T_takeCode_31 : decode c_T_takeCode 31 = .ok (.isub, 1) := by decide +kernel
theorem d_T_takeCode_32 : decode c_T_takeCode 32 = .ok (.goto 4, 3) := by decide +kernel
theorem d_T_takeCode_35 : decode c_T_takeCode 35 = .ok (.iload_n 2, 1) := by decide +kernel
theorem d_T_takeCode_36 : decode c_T_takeCode 36 = .ok (.ireturn, 1) := by decide +kernel
theorem d_T_startShortestFirst_0 : decode c_T_startShortestFirst 0 = .ok (.iconst 0, 1) := by decide +kernel
theorem d_T_startShortestFirst_1 : decode c_T_startShortestFirst 1 = .ok (.istore_n 1, 1) := by decide +kernel
theorem d_T_startShortestFirst_2 : decode c_T_startShortestFirst 2 = .ok (.iconst 1, 1) := by decide +kernel
theorem d_T_startShortestFirst_3 : decode c_T_startShortestFirst 3 = .ok (.istore_n 2, 1) := by decide +kernel
theorem d_T_startShortestFirst_4 : decode c_T_startShortestFirst 4 = .ok (.iload_n 2, 1) := by decide +kernel
theorem d_T_startShortestFirst_5 : decode c_T_startShortestFirst 5 = .ok (.bipush 16, 2) := by decide +kernel
theorem d_T_startShortestFirst_7 : decode c_T_startShortestFirst 7 = .ok (.if_icmp .gt 29, 3) := by decide +kernel
theorem d_T_startShortestFirst_10 : decode c_T_startShortestFirst 10 = .ok (.iconst 2, 1) := by decide +kernel
theorem d_T_startShortestFirst_11 : decode c_T_startShortestFirst 11 = .ok (.iload_n 1, 1) := by decide +kernel
theorem d_T_startShortestFirst_12 : decode c_T_startShortestFirst 12 = .ok (.imul, 1) := by decide +kernel
theorem d_T_startShortestFirst_13 : decode c_T_startShortestFirst 13 = .ok (.istore_n 1, 1) := by decide +kernel
theorem d_T_startShortestFirst_14 : decode c_T_startShortestFirst 14 = .ok (.aload_n 0, 1) := by decide +kernel
theorem d_T_startShortestFirst_15 : decode c_T_startShortestFirst 15 = .ok (.getfield 21, 3) := by decide +kernel
theorem d_T_startShortestFirst_18 : decode c_T_startShortestFirst 18 = .ok (.iload_n 2, 1) := by decide +kernel
theorem d_T_startShortestFirst_19 : decode c_T_startShortestFirst 19 = .ok (.iload_n 1, 1) := by decide +kernel
theorem d_T_startShortestFirst_20 : decode c_T_startShortestFirst 20 = .ok (.iastore, 1) := by decide +kernel
theorem d_T_startShortestFirst_21 : decode c_T_startShortestFirst 21 = .ok (.iload_n 1, 1) := by decide +kernel
theorem d_T_startShortestFirst_22 : decode c_T_startShortestFirst 22 = .ok (.aload_n 0, 1) := by decide +kernel
theorem d_T_startShortestFirst_23 : decode c_T_startShortestFirst 23 = .ok (.getfield 18, 3) := by decide +kernel
theorem d_T_startShortestFirst_26 : decode c_T_startShortestFirst 26 = .ok (.iload_n 2, 1) := by decide +kernel
theorem d_T_startShortestFirst_27 : decode c_T_startShortestFirst 27 = .ok (.iaload, 1) := by decide +kernel
theorem d_T_startShortestFirst_28 : decode c_T_startShortestFirst 28 = .ok (.iadd, 1) := by decide +kernel
theorem d_T_startShortestFirst_29 : decode c_T_startShortestFirst 29 = .ok (.istore_n 1, 1) := by decide +kernel
theorem d_T_startShortestFirst_30 : decode c_T_startShortestFirst 30 = .ok (.iinc 2 1, 3) := by decide +kernel
theorem d_T_startShortestFirst_33 : decode c_T_startShortestFirst 33 = .ok (.goto (-29), 3) := by decide +kernel
theorem d_T_startShortestFirst_36 : decode c_T_startShortestFirst 36 = .ok (.return_, 1) := by decide +kernel
theorem d_T_startLongestFirst_0 : decode c_T_startLongestFirst 0 = .ok (.iconst 0, 1) := by decide +kernel
theorem d_T_startLongestFirst_1 : decode c_T_startLongestFirst 1 = .ok (.istore_n 1, 1) := by decide +kernel
theorem d_T_startLongestFirst_2 : decode c_T_startLongestFirst 2 = .ok (.bipush 16, 2) := by decide +kernel
theorem d_T_startLongestFirst_4 : decode c_T_startLongestFirst 4 = .ok (.istore_n 2, 1) := by decide +kernel
theorem d_T_startLongestFirst_5 : decode c_T_startLongestFirst 5 = .ok (.iload_n 2, 1) := by decide +kernel
theorem d_T_startLongestFirst_6 : decode c_T_startLongestFirst 6 = .ok (.iconst 1, 1) := by decide +kernel
theorem d_T_startLongestFirst_7 : decode c_T_startLongestFirst 7 = .ok (.if_icmp .lt 31, 3) := by decide +kernel
theorem d_T_startLongestFirst_10 : decode c_T_startLongestFirst 10 = .ok (.iload_n 1, 1) := by decide +kernel
theorem d_T_startLongestFirst_11 : decode c_T_startLongestFirst 11 = .ok (.iconst 1, 1) := by decide +kernel
theorem d_T_startLongestFirst_12 : decode c_T_startLongestFirst 12 = .ok (.iadd, 1) := by decide +kernel
theorem d_T_startLongestFirst_13 : decode c_T_startLongestFirst 13 = .ok (.iconst 2, 1) := by decide +kernel
theorem d_T_startLongestFirst_14 : decode c_T_startLongestFirst 14 = .ok (.idiv, 1) := by decide +kernel
theorem d_T_startLongestFirst_15 : decode c_T_startLongestFirst 15 = .ok (.istore_n 1, 1) := by decide +kernel
theorem d_T_startLongestFirst_16 : decode c_T_startLongestFirst 16 = .ok (.aload_n 0, 1) := by decide +kernel
theorem d_T_startLongestFirst_17 : decode c_T_startLongestFirst 17 = .ok (.getfield 21, 3) := by decide +kernel
theorem d_T_startLongestFirst_20 : decode c_T_startLongestFirst 20 = .ok (.iload_n 2, 1) := by decide +kernel
theorem d_T_startLongestFirst_21 : decode c_T_startLongestFirst 21 = .ok (.iload_n 1, 1) := by decide +kernel
theorem d_T_startLongestFirst_22 : decode c_T_startLongestFirst 22 = .ok (.iastore, 1) := by decide +kernel
theorem d_T_startLongestFirst_23 : decode c_T_startLongestFirst 23 = .ok (.iload_n 1, 1) := by decide +kernel
theorem d_T_startLongestFirst_24 : decode c_T_startLongestFirst 24 = .ok (.aload_n 0, 1) := by decide +kernel
theorem d_T_startLongestFirst_25 : decode c_T_startLongestFirst 25 = .ok (.getfield 18, 3) := by decide +kernel
theorem d_T_startLongestFirst_28 : decode c_T_startLongestFirst 28 = .ok (.iload_n 2, 1) := by decide +kernel
theorem d_T_startLongestFirst_29 : decode c_T_startLongestFirst 29 = .ok (.iaload, 1) := by decide +kernel
theorem d_T_startLongestFirst_30 : decode c_T_startLongestFirst 30 = .ok (.iadd, 1) := by decide +kernel
theorem d_T_startLongestFirst_31 : decode c_T_startLongestFirst 31 = .ok (.istore_n 1, 1) := by decide +kernel
theorem d_T_startLongestFirst_32 : decode c_T_startLongestFirst 32 = .ok (.iinc 2 (-1), 3) := by decide +kernel
theorem d_T_startLongestFirst_35 : decode c_T_startLongestFirst 35 = .ok (.goto (-30), 3) := by decide +kernel
theorem d_T_startLongestFirst_38 : decode c_T_startLongestFirst 38 = .ok (.return_, 1) := by decide +kernel
theorem d_T_symbolBegunBy_0 : decode c_T_symbolBegunBy 0 = .ok (.iconst 0, 1) := by decide +kernel
theorem d_T_symbolBegunBy_1 : decode c_T_symbolBegunBy 1 = .ok (.istore_n 3, 1) := by decide +kernel
theorem d_T_symbolBegunBy_2 : decode c_T_symbolBegunBy 2 = .ok (.iload_n 3, 1) := by decide +kernel
theorem d_T_symbolBegunBy_3 : decode c_T_symbolBegunBy 3 = .ok (.bipush 48, 2) := by decide +kernel
theorem d_T_symbolBegunBy_5 : decode c_T_symbolBegunBy 5 = .ok (.if_icmp .ge 39, 3) := by decide +kernel
theorem d_T_symbolBegunBy_8 : decode c_T_symbolBegunBy 8 = .ok (.aload_n 0, 1) := by decide +kernel
theorem d_T_symbolBegunBy_9 : decode c_T_symbolBegunBy 9 = .ok (.getfield 9, 3) := by decide +kernel
theorem d_T_symbolBegunBy_12 : decode c_T_symbolBegunBy 12 = .ok (.iload_n 3, 1) := by decide +kernel
theorem d_T_symbolBegunBy_13 : decode c_T_symbolBegunBy 13 = .ok (.iaload, 1) := by decide +kernel
theorem d_T_symbolBegunBy_14 : decode c_T_symbolBegunBy 14 = .ok (.iload_n 2, 1) := by decide +kernel
theorem d_T_symbolBegunBy_15 : decode c_T_symbolBegunBy 15 = .ok (.isub, 1) := by decide +kernel
theorem d_T_symbolBegunBy_16 : decode c_T_symbolBegunBy 16 = .ok (.istore 4, 2) := by decide +kernel
theorem d_T_symbolBegunBy_18 : decode c_T_symbolBegunBy 18 = .ok (.iload 4, 2) := by decide +kernel
theorem d_T_symbolBegunBy_20 : decode c_T_symbolBegunBy 20 = .ok (.ifCond .lt 18, 3) := by decide +kernel
theorem d_T_symbolBegunBy_23 : decode c_T_symbolBegunBy 23 = .ok (.aload_n 0, 1) := by decide +kernel
theorem d_T_symbolBegunBy_24 : decode c_T_symbolBegunBy 24 = .ok (.getfield 15, 3) := by decide +kernel
theorem d_T_symbolBegunBy_27 : decode c_T_symbolBegunBy 27 = .ok (.iload_n 3, 1) := by decide +kernel
theorem d_T_symbolBegunBy_28 : decode c_T_symbolBegunBy 28 = .ok (.iaload, 1) := by decide +kernel
theorem d_T_symbolBegunBy_29 : decode c_T_symbolBegunBy 29 = .ok (.iload 4, 2) := by decide +kernel
theorem d_T_symbolBegunBy_31 : decode c_T_symbolBegunBy 31 = .ok (.ishr, 1) := by decide +kernel
theorem d_T_symbolBegunBy_32 : decode c_T_symbolBegunBy 32 = .ok (.iload_n 1, 1) := by decide +kernel
theorem d_T_symbolBegunBy_33 : decode c_T_symbolBegunBy 33 = .ok (.if_icmp .ne 5, 3) := by decide +kernel
theorem d_T_symbolBegunBy_36 : decode c_T_symbolBegunBy 36 = .ok (.iload_n 3, 1) := by decide +kernel
theorem d_T_symbolBegunBy_37 : decode c_T_symbolBegunBy 37 = .ok (.ireturn, 1) := by decide +kernel
theorem d_T_symbolBegunBy_38 : decode c_T_symbolBegunBy 38 = .ok (.iinc 3 1, 3) := by decide +kernel
theorem d_T_symbolBegunBy_41 : decode c_T_symbolBegunBy 41 = .ok (.goto (-39), 3) := by decide +kernel
theorem d_T_symbolBegunBy_44 : decode c_T_symbolBegunBy 44 = .ok (.iconst (-1), 1) := by decide +kernel
theorem d_T_symbolBegunBy_45 : decode c_T_symbolBegunBy 45 = .ok (.ireturn, 1) := by decide +kernel
theorem d_T_endOfLengths_0 : decode c_T_endOfLengths 0 = .ok (.bipush 48, 2) := by decide +kernel
theorem d_T_endOfLengths_2 : decode c_T_endOfLengths 2 = .ok (.istore_n 1, 1) := by decide +kernel
theorem d_T_endOfLengths_3 : decode c_T_endOfLengths 3 = .ok (.iload_n 1, 1) := by decide +kernel
theorem d_T_endOfLengths_4 : decode c_T_endOfLengths 4 = .ok (.ifCond .le 20, 3) := by decide +kernel
theorem d_T_endOfLengths_7 : decode c_T_endOfLengths 7 = .ok (.aload_n 0, 1) := by decide +kernel
theorem d_T_endOfLengths_8 : decode c_T_endOfLengths 8 = .ok (.getfield 9, 3) := by decide +kernel
theorem d_T_endOfLengths_11 : decode c_T_endOfLengths 11 = .ok (.iload_n 1, 1) := by decide +kernel
theorem d_T_endOfLengths_12 : decode c_T_endOfLengths 12 = .ok (.iconst 1, 1) := by decide +kernel
theorem d_T_endOfLengths_13 : decode c_T_endOfLengths 13 = .ok (.isub, 1) := by decide +kernel
theorem d_T_endOfLengths_14 : decode c_T_endOfLengths 14 = .ok (.iaload, 1) := by decide +kernel
theorem d_T_endOfLengths_15 : decode c_T_endOfLengths 15 = .ok (.ifCond .ne 9, 3) := by decide +kernel
theorem d_T_endOfLengths_18 : decode c_T_endOfLengths 18 = .ok (.iinc 1 (-1), 3) := by decide +kernel
theorem d_T_endOfLengths_21 : decode c_T_endOfLengths 21 = .ok (.goto (-18), 3) := by decide +kernel
theorem d_T_endOfLengths_24 : decode c_T_endOfLengths 24 = .ok (.iload_n 1, 1) := by decide +kernel
theorem d_T_endOfLengths_25 : decode c_T_endOfLengths 25 = .ok (.ireturn, 1) := by decide +kernel
theorem d_T_runOf_0 : decode c_T_runOf 0 = .ok (.iload_n 2, 1) := by decide +kernel
theorem d_T_runOf_1 : decode c_T_runOf 1 = .ok (.istore 4, 2) := by decide +kernel
theorem d_T_runOf_3 : decode c_T_runOf 3 = .ok (.iload 4, 2) := by decide +kernel
theorem d_T_runOf_5 : decode c_T_runOf 5 = .ok (.iload_n 3, 1) := by decide +kernel
theorem d_T_runOf_6 : decode c_T_runOf 6 = .ok (.if_icmp .ge 20, 3) := by decide +kernel
theorem d_T_runOf_9 : decode c_T_runOf 9 = .ok (.aload_n 0, 1) := by decide +kernel
theorem d_T_runOf_10 : decode c_T_runOf 10 = .ok (.getfield 9, 3) := by decide +kernel
theorem d_T_runOf_13 : decode c_T_runOf 13 = .ok (.iload 4, 2) := by decide +kernel
theorem d_T_runOf_15 : decode c_T_runOf 15 = .ok (.iaload, 1) := by decide +kernel
theorem d_T_runOf_16 : decode c_T_runOf 16 = .ok (.iload_n 1, 1) := by decide +kernel
theorem d_T_runOf_17 : decode c_T_runOf 17 = .ok (.if_icmp .ne 9, 3) := by decide +kernel
theorem d_T_runOf_20 : decode c_T_runOf 20 = .ok (.iinc 4 1, 3) := by decide +kernel
theorem d_T_runOf_23 : decode c_T_runOf 23 = .ok (.goto (-20), 3) := by decide +kernel
theorem d_T_runOf_26 : decode c_T_runOf 26 = .ok (.iload 4, 2) := by decide +kernel
theorem d_T_runOf_28 : decode c_T_runOf 28 = .ok (.iload_n 2, 1) := by decide +kernel
theorem d_T_runOf_29 : decode c_T_runOf 29 = .ok (.isub, 1) := by decide +kernel
theorem d_T_runOf_30 : decode c_T_runOf 30 = .ok (.ireturn, 1) := by decide +kernel
theorem d_G_init_0 : decode c_G_init 0 = .ok (.aload_n 0, 1) := by decide +kernel
theorem d_G_init_1 : decode c_G_init 1 = .ok (.invokespecial 3, 3) := by decide +kernel
theorem d_G_init_4 : decode c_G_init 4 = .ok (.aload_n 0, 1) := by decide +kernel
theorem d_G_init_5 : decode c_G_init 5 = .ok (.sipush 400, 3) := by decide +kernel
theorem d_G_init_8 : decode c_G_init 8 = .ok (.newarray .int, 2) := by decide +kernel
theorem d_G_init_10 : decode c_G_init 10 = .ok (.putfield 9, 3) := by decide +kernel
theorem d_G_init_13 : decode c_G_init 13 = .ok (.aload_n 0, 1) := by decide +kernel
theorem d_G_init_14 : decode c_G_init 14 = .ok (.iconst 0, 1) := by decide +kernel
theorem d_G_init_15 : decode c_G_init 15 = .ok (.putfield 15, 3) := by decide +kernel
theorem d_G_init_18 : decode c_G_init 18 = .ok (.aload_n 0, 1) := by decide +kernel
theorem d_G_init_19 : decode c_G_init 19 = .ok (.iconst 0, 1) := by decide +kernel
theorem d_G_init_20 : decode c_G_init 20 = .ok (.putfield 19, 3) := by decide +kernel
theorem d_G_init_23 : decode c_G_init 23 = .ok (.return_, 1) := by decide +kernel
theorem d_G_append_0 : decode c_G_append 0 = .ok (.aload_n 0, 1) := by decide +kernel
theorem d_G_append_1 : decode c_G_append 1 = .ok (.getfield 19, 3) := by decide +kernel
theorem d_G_append_4 : decode c_G_append 4 = .ok (.sipush 400, 3) := by decide +kernel
theorem d_G_append_7 : decode c_G_append 7 = .ok (.if_icmp .lt 5, 3) := by decide +kernel
theorem d_G_append_10 : decode c_G_append 10 = .ok (.iconst 0, 1) := by decide +kernel
theorem d_G_append_11 : decode c_G_append 11 = .ok (.ireturn, 1) := by decide +kernel
theorem d_G_append_12 : decode c_G_append 12 = .ok (.aload_n 0, 1) := by decide +kernel
theorem d_G_append_13 : decode c_G_append 13 = .ok (.getfield 9, 3) := by decide +kernel
theorem d_G_append_16 : decode c_G_append 16 = .ok (.aload_n 0, 1) := by decide +kernel
theorem d_G_append_17 : decode c_G_append 17 = .ok (.getfield 15, 3) := by decide +kernel
theorem d_G_append_20 : decode c_G_append 20 = .ok (.aload_n 0, 1) := by decide +kernel
theorem d_G_append_21 : decode c_G_append 21 = .ok (.getfield 19, 3) := by decide +kernel
theorem d_G_append_24 : decode c_G_append 24 = .ok (.iadd, 1) := by decide +kernel
theorem d_G_append_25 : decode c_G_append 25 = .ok (.sipush 400, 3) := by decide +kernel
theorem d_G_append_28 : decode c_G_append 28 = .ok (.irem, 1) := by decide +kernel
theorem d_G_append_29 : decode c_G_append 29 = .ok (.iload_n 1, 1) := by decide +kernel
theorem d_G_append_30 : decode c_G_append 30 = .ok (.iastore, 1) := by decide +kernel
theorem d_G_append_31 : decode c_G_append 31 = .ok (.aload_n 0, 1) := by decide +kernel
theorem d_G_append_32 : decode c_G_append 32 = .ok (.dup, 1) := by decide +kernel
theorem d_G_append_33 : decode c_G_append 33 = .ok (.getfield 19, 3) := by decide +kernel
theorem d_G_append_36 : decode c_G_append 36 = .ok (.iconst 1, 1) := by decide +kernel
theorem d_G_append_37 : decode c_G_append 37 = .ok (.iadd, 1) := by decide +kernel
theorem d_G_append_38 : decode c_G_append 38 = .ok (.putfield 19, 3) := by decide +kernel
theorem d_G_append_41 : decode c_G_append 41 = .ok (.iconst 1, 1) := by decide +kernel
theorem d_G_append_42 : decode c_G_append 42 = .ok (.ireturn, 1) := by decide +kernel
theorem d_G_number_0 : decode c_G_number 0 = .ok (.lconst 0, 1) := by decide +kernel
theorem d_G_number_1 : decode c_G_number 1 = .ok (.lstore_n 3, 1) := by decide +kernel
theorem d_G_number_2 : decode c_G_number 2 = .ok (.iload_n 1, 1) := by decide +kernel
theorem d_G_number_3 : decode c_G_number 3 = .ok (.istore 5, 2) := by decide +kernel
theorem d_G_number_5 : decode c_G_number 5 = .ok (.iload 5, 2) := by decide +kernel
theorem d_G_number_7 : decode c_G_number 7 = .ok (.iload_n 1, 1) := by decide +kernel
theorem d_G_number_8 : decode c_G_number 8 = .ok (.iload_n 2, 1) := by decide +kernel
theorem d_G_number_9 : decode c_G_number 9 = .ok (.iadd, 1) := by decide +kernel
theorem d_G_number_10 : decode c_G_number 10 = .ok (.if_icmp .ge 33, 3) := by decide +kernel
theorem d_G_number_13 : decode c_G_number 13 = .ok (.ldc2_w 22, 3) := by decide +kernel
theorem d_G_number_16 : decode c_G_number 16 = .ok (.lload_n 3, 1) := by decide +kernel
theorem d_G_number_17 : decode c_G_number 17 = .ok (.lmul, 1) := by decide +kernel
theorem d_G_number_18 : decode c_G_number 18 = .ok (.aload_n 0, 1) := by decide +kernel
theorem d_G_number_19 : decode c_G_number 19 = .ok (.getfield 9, 3) := by decide +kernel
theorem d_G_number_22 : decode c_G_number 22 = .ok (.aload_n 0, 1) := by decide +kernel
theorem d_G_number_23 : decode c_G_number 23 = .ok (.getfield 15, 3) := by decide +kernel
theorem d_G_number_26 : decode c_G_number 26 = .ok (.iload 5, 2) := by decide +kernel
theorem d_G_number_28 : decode c_G_number 28 = .ok (.iadd, 1) := by decide +kernel
theorem d_G_number_29 : decode c_G_number 29 = .ok (.sipush 400, 3) := by decide +kernel
theorem d_G_number_32 : decode c_G_number 32 = .ok (.irem, 1) := by decide +kernel
theorem d_G_number_33 : decode c_G_number 33 = .ok (.iaload, 1) := by decide +kernel
theorem d_G_number_34 : decode c_G_number 34 = .ok (.i2l, 1) := by decide +kernel
theorem d_G_number_35 : decode c_G_number 35 = .ok (.ladd, 1) := by decide +kernel
theorem d_G_number_36 : decode c_G_number 36 = .ok (.lstore_n 3, 1) := by decide +kernel
theorem d_G_number_37 : decode c_G_number 37 = .ok (.iinc 5 1, 3) := by decide +kernel
theorem d_G_number_40 : decode c_G_number 40 = .ok (.goto (-35), 3) := by decide +kernel
theorem d_G_number_43 : decode c_G_number 43 = .ok (.lload_n 3, 1) := by decide +kernel
theorem d_G_number_44 : decode c_G_number 44 = .ok (.lreturn, 1) := by decide +kernel
theorem d_G_drop_0 : decode c_G_drop 0 = .ok (.aload_n 0, 1) := by decide +kernel
theorem d_G_drop_1 : decode c_G_drop 1 = .ok (.aload_n 0, 1) := by decide +kernel
theorem d_G_drop_2 : decode c_G_drop 2 = .ok (.getfield 15, 3) := by decide +kernel
theorem d_G_drop_5 : decode c_G_drop 5 = .ok (.iload_n 1, 1) := by decide +kernel
theorem d_G_drop_6 : decode c_G_drop 6 = .ok (.iadd, 1) := by decide +kernel
theorem d_G_drop_7 : decode c_G_drop 7 = .ok (.sipush 400, 3) := by decide +kernel
theorem d_G_drop_10 : decode c_G_drop 10 = .ok (.irem, 1) := by decide +kernel
theorem d_G_drop_11 : decode c_G_drop 11 = .ok (.putfield 15, 3) := by decide +kernel
theorem d_G_drop_14 : decode c_G_drop 14 = .ok (.aload_n 0, 1) := by decide +kernel
theorem d_G_drop_15 : decode c_G_drop 15 = .ok (.dup, 1) := by decide +kernel
theorem d_G_drop_16 : decode c_G_drop 16 = .ok (.getfield 19, 3) := by decide +kernel
theorem d_G_drop_19 : decode c_G_drop 19 = .ok (.iload_n 1, 1) := by decide +kernel
theorem d_G_drop_20 : decode c_G_drop 20 = .ok (.isub, 1) := by decide +kernel
theorem d_G_drop_21 : decode c_G_drop 21 = .ok (.putfield 19, 3) := by decide +kernel
theorem d_G_drop_24 : decode c_G_drop 24 = .ok (.return_, 1) := by decide +kernel
end
section
theorem d_B_init_0 : decode c_B_init 0 = .ok (.aload_n 0, 1) := by decide +kernel
theorem d_B_init_1 : decode c_B_init 1 = .ok (.invokespecial 1, 3) := by decide +kernel
theorem d_B_init_4 : decode c_B_init 4 = .ok (.aload_n 0, 1) := by decide +kernel
theorem d_B_init_5 : decode c_B_init 5 = .ok (.new 7, 3) := by decide +kernel
theorem d_B_init_8 : decode c_B_init 8 = .ok (.dup, 1) := by decide +kernel
theorem d_B_init_9 : decode c_B_init 9 = .ok (.invokespecial 9, 3) := by decide +kernel
theorem d_B_init_12 : decode c_B_init 12 = .ok (.putfield 10, 3) := by decide +kernel
theorem d_B_init_15 : decode c_B_init 15 = .ok (.aload_n 0, 1) := by decide +kernel
theorem d_B_init_16 : decode c_B_init 16 = .ok (.new 16, 3) := by decide +kernel
theorem d_B_init_19 : decode c_B_init 19 = .ok (.dup, 1) := by decide +kernel
theorem d_B_init_20 : decode c_B_init 20 = .ok (.invokespecial 18, 3) := by decide +kernel
theorem d_B_init_23 : decode c_B_init 23 = .ok (.putfield 19, 3) := by decide +kernel
theorem d_B_init_26 : decode c_B_init 26 = .ok (.aload_n 0, 1) := by decide +kernel
theorem d_B_init_27 : decode c_B_init 27 = .ok (.bipush 48, 2) := by decide +kernel
theorem d_B_init_29 : decode c_B_init 29 = .ok (.newarray .long, 2) := by decide +kernel
theorem d_B_init_31 : decode c_B_init 31 = .ok (.putfield 23, 3) := by decide +kernel
theorem d_B_init_34 : decode c_B_init 34 = .ok (.aload_n 0, 1) := by decide +kernel
theorem d_B_init_35 : decode c_B_init 35 = .ok (.bipush 48, 2) := by decide +kernel
theorem d_B_init_37 : decode c_B_init 37 = .ok (.newarray .int, 2) := by decide +kernel
theorem d_B_init_39 : decode c_B_init 39 = .ok (.putfield 27, 3) := by decide +kernel
theorem d_B_init_42 : decode c_B_init 42 = .ok (.aload_n 0, 1) := by decide +kernel
theorem d_B_init_43 : decode c_B_init 43 = .ok (.bipush 48, 2) := by decide +kernel
theorem d_B_init_45 : decode c_B_init 45 = .ok (.newarray .int, 2) := by decide +kernel
theorem d_B_init_47 : decode c_B_init 47 = .ok (.putfield 31, 3) := by decide +kernel
theorem d_B_init_50 : decode c_B_init 50 = .ok (.aload_n 0, 1) := by decide +kernel
theorem d_B_init_51 : decode c_B_init 51 = .ok (.iconst 0, 1) := by decide +kernel
theorem d_B_init_52 : decode c_B_init 52 = .ok (.putfield 34, 3) := by decide +kernel
theorem d_B_init_55 : decode c_B_init 55 = .ok (.aload_n 0, 1) := by decide +kernel
theorem d_B_init_56 : decode c_B_init 56 = .ok (.lconst 0, 1) := by decide +kernel
theorem d_B_init_57 : decode c_B_init 57 = .ok (.putfield 38, 3) := by decide +kernel
theorem d_B_init_60 : decode c_B_init 60 = .ok (.aload_n 0, 1) := by decide +kernel
theorem d_B_init_61 : decode c_B_init 61 = .ok (.new 42, 3) := by decide +kernel
theorem d_B_init_64 : decode c_B_init 64 = .ok (.dup, 1) := by decide +kernel
theorem d_B_init_65 : decode c_B_init 65 = .ok (.iload_n 1, 1) := by decide +kernel
theorem d_B_init_66 : decode c_B_init 66 = .ok (.iconst 3, 1) := by decide +kernel
theorem d_B_init_67 : decode c_B_init 67 = .ok (.invokestatic 44, 3) := by decide +kernel
theorem d_B_init_70 : decode c_B_init 70 = .ok (.invokespecial 50, 3) := by decide +kernel
theorem d_B_init_73 : decode c_B_init 73 = .ok (.putfield 53, 3) := by decide +kernel
theorem d_B_init_76 : decode c_B_init 76 = .ok (.aload_n 0, 1) := by decide +kernel
theorem d_B_init_77 : decode c_B_init 77 = .ok (.invokevirtual 57, 3) := by decide +kernel
theorem d_B_init_80 : decode c_B_init 80 = .ok (.return_, 1) := by decide +kernel
theorem d_B_count_0 : decode c_B_count 0 = .ok (.iload_n 1, 1) := by decide +kernel
theorem d_B_count_1 : decode c_B_count 1 = .ok (.invokestatic 60, 3) := by decide +kernel
theorem d_B_count_4 : decode c_B_count 4 = .ok (.lload_n 2, 1) := by decide +kernel
theorem d_B_count_5 : decode c_B_count 5 = .ok (.lconst 0, 1) := by decide +kernel
theorem d_B_count_6 : decode c_B_count 6 = .ok (.lcmp, 1) := by decide +kernel
theorem d_B_count_7 : decode c_B_count 7 = .ok (.ifCond .lt 11, 3) := by decide +kernel
theorem d_B_count_10 : decode c_B_count 10 = .ok (.lload_n 2, 1) := by decide +kernel
theorem d_B_count_11 : decode c_B_count 11 = .ok (.ldc2_w 63, 3) := by decide +kernel
theorem d_B_count_14 : decode c_B_count 14 = .ok (.lcmp, 1) := by decide +kernel
theorem d_B_count_15 : decode c_B_count 15 = .ok (.ifCond .le 13, 3) := by decide +kernel
theorem d_B_count_18 : decode c_B_count 18 = .ok (.new 65, 3) := by decide +kernel
theorem d_B_count_21 : decode c_B_count 21 = .ok (.dup, 1) := by decide +kernel
theorem d_B_count_22 : decode c_B_count 22 = .ok (.ldc 67, 2) := by decide +kernel
theorem d_B_count_24 : decode c_B_count 24 = .ok (.invokespecial 69, 3) := by decide +kernel
theorem d_B_count_27 : decode c_B_count 27 = .ok (.athrow, 1) := by decide +kernel
theorem d_B_count_28 : decode c_B_count 28 = .ok (.aload_n 0, 1) := by decide +kernel
theorem d_B_count_29 : decode c_B_count 29 = .ok (.getfield 23, 3) := by decide +kernel
theorem d_B_count_32 : decode c_B_count 32 = .ok (.iload_n 1, 1) := by decide +kernel
theorem d_B_count_33 : decode c_B_count 33 = .ok (.laload, 1) := by decide +kernel
theorem d_B_count_34 : decode c_B_count 34 = .ok (.lload_n 2, 1) := by decide +kernel
theorem d_B_count_35 : decode c_B_count 35 = .ok (.lcmp, 1) := by decide +kernel
theorem d_B_count_36 : decode c_B_count 36 = .ok (.ifCond .eq 7, 3) := by decide +kernel
theorem d_B_count_39 : decode c_B_count 39 = .ok (.iconst 1, 1) := by decide +kernel
theorem d_B_count_40 : decode c_B_count 40 = .ok (.goto 4, 3) := by decide +kernel
theorem d_B_count_43 : decode c_B_count 43 = .ok (.iconst 0, 1) := by decide +kernel
theorem d_B_count_44 : decode c_B_count 44 = .ok (.istore 4, 2) := by decide +kernel
theorem d_B_count_46 : decode c_B_count 46 = .ok (.aload_n 0, 1) := by decide +kernel
theorem d_B_count_47 : decode c_B_count 47 = .ok (.getfield 23, 3) := by decide +kernel
theorem d_B_count_50 : decode c_B_count 50 = .ok (.iload_n 1, 1) := by decide +kernel
theorem d_B_count_51 : decode c_B_count 51 = .ok (.lload_n 2, 1) := by decide +kernel
theorem d_B_count_52 : decode c_B_count 52 = .ok (.lastore, 1) := by decide +kernel
theorem d_B_count_53 : decode c_B_count 53 = .ok (.iload 4, 2) := by decide +kernel
theorem d_B_count_55 : decode c_B_count 55 = .ok (.ireturn, 1) := by decide +kernel
theorem d_B_make_0 : decode c_B_make 0 = .ok (.iload_n 1, 1) := by decide +kernel
theorem d_B_make_1 : decode c_B_make 1 = .ok (.iconst 1, 1) := by decide +kernel
theorem d_B_make_2 : decode c_B_make 2 = .ok (.if_icmp .lt 9, 3) := by decide +kernel
theorem d_B_make_5 : decode c_B_make 5 = .ok (.iload_n 1, 1) := by decide +kernel
theorem d_B_make_6 : decode c_B_make 6 = .ok (.bipush 16, 2) := by decide +kernel
theorem d_B_make_8 : decode c_B_make 8 = .ok (.if_icmp .le 13, 3) := by decide +kernel
theorem d_B_make_11 : decode c_B_make 11 = .ok (.new 65, 3) := by decide +kernel
theorem d_B_make_14 : decode c_B_make 14 = .ok (.dup, 1) := by decide +kernel
theorem d_B_make_15 : decode c_B_make 15 = .ok (.ldc 72, 2) := by decide +kernel
theorem d_B_make_17 : decode c_B_make 17 = .ok (.invokespecial 69, 3) := by decide +kernel
theorem d_B_make_20 : decode c_B_make 20 = .ok (.athrow, 1) := by decide +kernel
theorem d_B_make_21 : decode c_B_make 21 = .ok (.aload_n 0, 1) := by decide +kernel
theorem d_B_make_22 : decode c_B_make 22 = .ok (.getfield 10, 3) := by decide +kernel
theorem d_B_make_25 : decode c_B_make 25 = .ok (.aload_n 0, 1) := by decide +kernel
theorem d_B_make_26 : decode c_B_make 26 = .ok (.getfield 23, 3) := by decide +kernel
theorem d_B_make_29 : decode c_B_make 29 = .ok (.invokevirtual 74, 3) := by decide +kernel
theorem d_B_make_32 : decode c_B_make 32 = .ok (.istore_n 2, 1) := by decide +kernel
theorem d_B_make_33 : decode c_B_make 33 = .ok (.iload_n 2, 1) := by decide +kernel
theorem d_B_make_34 : decode c_B_make 34 = .ok (.iconst 1, 1) := by decide +kernel
theorem d_B_make_35 : decode c_B_make 35 = .ok (.iload_n 1, 1) := by decide +kernel
theorem d_B_make_36 : decode c_B_make 36 = .ok (.ishl, 1) := by decide +kernel
theorem d_B_make_37 : decode c_B_make 37 = .ok (.if_icmp .le 5, 3) := by decide +kernel
theorem d_B_make_40 : decode c_B_make 40 = .ok (.iconst (-1), 1) := by decide +kernel
theorem d_B_make_41 : decode c_B_make 41 = .ok (.ireturn, 1) := by decide +kernel
theorem d_B_make_42 : decode c_B_make 42 = .ok (.aload_n 0, 1) := by decide +kernel
theorem d_B_make_43 : decode c_B_make 43 = .ok (.getfield 10, 3) := by decide +kernel
theorem d_B_make_46 : decode c_B_make 46 = .ok (.aload_n 0, 1) := by decide +kernel
theorem d_B_make_47 : decode c_B_make 47 = .ok (.getfield 23, 3) := by decide +kernel
theorem d_B_make_50 : decode c_B_make 50 = .ok (.iload_n 1, 1) := by decide +kernel
theorem d_B_make_51 : decode c_B_make 51 = .ok (.aload_n 0, 1) := by decide +kernel
theorem d_B_make_52 : decode c_B_make 52 = .ok (.getfield 53, 3) := by decide +kernel
theorem d_B_make_55 : decode c_B_make 55 = .ok (.getfield 78, 3) := by decide +kernel
theorem d_B_make_58 : decode c_B_make 58 = .ok (.invokevirtual 81, 3) := by decide +kernel
theorem d_B_make_61 : decode c_B_make 61 = .ok (.aload_n 0, 1) := by decide +kernel
theorem d_B_make_62 : decode c_B_make 62 = .ok (.getfield 53, 3) := by decide +kernel
theorem d_B_make_65 : decode c_B_make 65 = .ok (.invokevirtual 85, 3) := by decide +kernel
theorem d_B_make_68 : decode c_B_make 68 = .ok (.aload_n 0, 1) := by decide +kernel
theorem d_B_make_69 : decode c_B_make 69 = .ok (.invokevirtual 57, 3) := by decide +kernel
theorem d_B_make_72 : decode c_B_make 72 = .ok (.iload_n 2, 1) := by decide +kernel
theorem d_B_make_73 : decode c_B_make 73 = .ok (.ireturn, 1) := by decide +kernel
theorem d_B_length_0 : decode c_B_length 0 = .ok (.iload_n 1, 1) := by decide +kernel
theorem d_B_length_1 : decode c_B_length 1 = .ok (.invokestatic 60, 3) := by decide +kernel
theorem d_B_length_4 : decode c_B_length 4 = .ok (.aload_n 0, 1) := by decide +kernel
theorem d_B_length_5 : decode c_B_length 5 = .ok (.getfield 53, 3) := by decide +kernel
theorem d_B_length_8 : decode c_B_length 8 = .ok (.getfield 78, 3) := by decide +kernel
theorem d_B_length_11 : decode c_B_length 11 = .ok (.iload_n 1, 1) := by decide +kernel
theorem d_B_length_12 : decode c_B_length 12 = .ok (.iaload, 1) := by decide +kernel
theorem d_B_length_13 : decode c_B_length 13 = .ok (.ireturn, 1) := by decide +kernel
theorem d_B_code_0 : decode c_B_code 0 = .ok (.iload_n 1, 1) := by decide +kernel
theorem d_B_code_1 : decode c_B_code 1 = .ok (.invokestatic 60, 3) := by decide +kernel
theorem d_B_code_4 : decode c_B_code 4 = .ok (.aload_n 0, 1) := by decide +kernel
theorem d_B_code_5 : decode c_B_code 5 = .ok (.invokevirtual 88, 3) := by decide +kernel
theorem d_B_code_8 : decode c_B_code 8 = .ok (.aload_n 0, 1) := by decide +kernel
theorem d_B_code_9 : decode c_B_code 9 = .ok (.getfield 53, 3) := by decide +kernel
theorem d_B_code_12 : decode c_B_code 12 = .ok (.getfield 78, 3) := by decide +kernel
theorem d_B_code_15 : decode c_B_code 15 = .ok (.iload_n 1, 1) := by decide +kernel
theorem d_B_code_16 : decode c_B_code 16 = .ok (.iaload, 1) := by decide +kernel
theorem d_B_code_17 : decode c_B_code 17 = .ok (.ifCond .ne 9, 3) := by decide +kernel
theorem d_B_code_20 : decode c_B_code 20 = .ok (.ldc2_w 91, 3) := by decide +kernel
theorem d_B_code_23 : decode c_B_code 23 = .ok (.goto 13, 3) := by decide +kernel
theorem d_B_code_26 : decode c_B_code 26 = .ok (.aload_n 0, 1) := by decide +kernel
theorem d_B_code_27 : decode c_B_code 27 = .ok (.getfield 53, 3) := by decide +kernel
theorem d_B_code_30 : decode c_B_code 30 = .ok (.getfield 93, 3) := by decide +kernel
theorem d_B_code_33 : decode c_B_code 33 = .ok (.iload_n 1, 1) := by decide +kernel
theorem d_B_code_34 : decode c_B_code 34 = .ok (.iaload, 1) := by decide +kernel
theorem d_B_code_35 : decode c_B_code 35 = .ok (.i2l, 1) := by decide +kernel
theorem d_B_code_36 : decode c_B_code 36 = .ok (.lreturn, 1) := by decide +kernel
theorem d_B_given_0 : decode c_B_given 0 = .ok (.iload_n 1, 1) := by decide +kernel
theorem d_B_given_1 : decode c_B_given 1 = .ok (.invokestatic 60, 3) := by decide +kernel
theorem d_B_given_4 : decode c_B_given 4 = .ok (.iload_n 2, 1) := by decide +kernel
theorem d_B_given_5 : decode c_B_given 5 = .ok (.ifCond .lt 9, 3) := by decide +kernel
theorem d_B_given_8 : decode c_B_given 8 = .ok (.iload_n 2, 1) := by decide +kernel
theorem d_B_given_9 : decode c_B_given 9 = .ok (.bipush 16, 2) := by decide +kernel
theorem d_B_given_11 : decode c_B_given 11 = .ok (.if_icmp .le 13, 3) := by decide +kernel
theorem d_B_given_14 : decode c_B_given 14 = .ok (.new 65, 3) := by decide +kernel
theorem d_B_given_17 : decode c_B_given 17 = .ok (.dup, 1) := by decide +kernel
theorem d_B_given_18 : decode c_B_given 18 = .ok (.ldc 96, 2) := by decide +kernel
theorem d_B_given_20 : decode c_B_given 20 = .ok (.invokespecial 69, 3) := by decide +kernel
theorem d_B_given_23 : decode c_B_given 23 = .ok (.athrow, 1) := by decide +kernel
theorem d_B_given_24 : decode c_B_given 24 = .ok (.aload_n 0, 1) := by decide +kernel
theorem d_B_given_25 : decode c_B_given 25 = .ok (.iload_n 1, 1) := by decide +kernel
theorem d_B_given_26 : decode c_B_given 26 = .ok (.invokevirtual 98, 3) := by decide +kernel
theorem d_B_given_29 : decode c_B_given 29 = .ok (.aload_n 0, 1) := by decide +kernel
theorem d_B_given_30 : decode c_B_given 30 = .ok (.iload_n 1, 1) := by decide +kernel
theorem d_B_given_31 : decode c_B_given 31 = .ok (.iload_n 2, 1) := by decide +kernel
theorem d_B_given_32 : decode c_B_given 32 = .ok (.invokevirtual 101, 3) := by decide +kernel
theorem d_B_given_35 : decode c_B_given 35 = .ok (.ireturn, 1) := by decide +kernel
theorem d_B_range_0 : decode c_B_range 0 = .ok (.iload_n 1, 1) := by decide +kernel
theorem d_B_range_1 : decode c_B_range 1 = .ok (.invokestatic 60, 3) := by decide +kernel
theorem d_B_range_4 : decode c_B_range 4 = .ok (.iload 4, 2) := by decide +kernel
theorem d_B_range_6 : decode c_B_range 6 = .ok (.iconst 1, 1) := by decide +kernel
theorem d_B_range_7 : decode c_B_range 7 = .ok (.if_icmp .lt 10, 3) := by decide +kernel
theorem d_B_range_10 : decode c_B_range 10 = .ok (.iload 4, 2) := by decide +kernel
theorem d_B_range_12 : decode c_B_range 12 = .ok (.bipush 16, 2) := by decide +kernel
theorem d_B_range_14 : decode c_B_range 14 = .ok (.if_icmp .le 13, 3) := by decide +kernel
theorem d_B_range_17 : decode c_B_range 17 = .ok (.new 65, 3) := by decide +kernel
theorem d_B_range_20 : decode c_B_range 20 = .ok (.dup, 1) := by decide +kernel
theorem d_B_range_21 : decode c_B_range 21 = .ok (.ldc 105, 2) := by decide +kernel
theorem d_B_range_23 : decode c_B_range 23 = .ok (.invokespecial 69, 3) := by decide +kernel
theorem d_B_range_26 : decode c_B_range 26 = .ok (.athrow, 1) := by decide +kernel
theorem d_B_range_27 : decode c_B_range 27 = .ok (.iload_n 3, 1) := by decide +kernel
theorem d_B_range_28 : decode c_B_range 28 = .ok (.bipush (-32), 2) := by decide +kernel
theorem d_B_range_30 : decode c_B_range 30 = .ok (.if_icmp .lt 9, 3) := by decide +kernel
theorem d_B_range_33 : decode c_B_range 33 = .ok (.iload_n 3, 1) := by decide +kernel
theorem d_B_range_34 : decode c_B_range 34 = .ok (.bipush 32, 2) := by decide +kernel
theorem d_B_range_36 : decode c_B_range 36 = .ok (.if_icmp .le 13, 3) := by decide +kernel
theorem d_B_range_39 : decode c_B_range 39 = .ok (.new 65, 3) := by decide +kernel
theorem d_B_range_42 : decode c_B_range 42 = .ok (.dup, 1) := by decide +kernel
theorem d_B_range_43 : decode c_B_range 43 = .ok (.ldc 107, 2) := by decide +kernel
theorem d_B_range_45 : decode c_B_range 45 = .ok (.invokespecial 69, 3) := by decide +kernel
theorem d_B_range_48 : decode c_B_range 48 = .ok (.athrow, 1) := by decide +kernel
theorem d_B_range_49 : decode c_B_range 49 = .ok (.aload_n 0, 1) := by decide +kernel
theorem d_B_range_50 : decode c_B_range 50 = .ok (.getfield 27, 3) := by decide +kernel
theorem d_B_range_53 : decode c_B_range 53 = .ok (.iload_n 1, 1) := by decide +kernel
theorem d_B_range_54 : decode c_B_range 54 = .ok (.iload_n 2, 1) := by decide +kernel
theorem d_B_range_55 : decode c_B_range 55 = .ok (.iastore, 1) := by decide +kernel
theorem d_B_range_56 : decode c_B_range 56 = .ok (.aload_n 0, 1) := by decide +kernel
theorem d_B_range_57 : decode c_B_range 57 = .ok (.getfield 31, 3) := by decide +kernel
theorem d_B_range_60 : decode c_B_range 60 = .ok (.iload_n 1, 1) := by decide +kernel
theorem d_B_range_61 : decode c_B_range 61 = .ok (.iload_n 3, 1) := by decide +kernel
theorem d_B_range_62 : decode c_B_range 62 = .ok (.iastore, 1) := by decide +kernel
theorem d_B_range_63 : decode c_B_range 63 = .ok (.aload_n 0, 1) := by decide +kernel
theorem d_B_range_64 : decode c_B_range 64 = .ok (.iload_n 1, 1) := by decide +kernel
theorem d_B_range_65 : decode c_B_range 65 = .ok (.iload 4, 2) := by decide +kernel
theorem d_B_range_67 : decode c_B_range 67 = .ok (.invokevirtual 101, 3) := by decide +kernel
theorem d_B_range_70 : decode c_B_range 70 = .ok (.ireturn, 1) := by decide +kernel
theorem d_B_check_0 : decode c_B_check 0 = .ok (.aload_n 0, 1) := by decide +kernel
theorem d_B_check_1 : decode c_B_check 1 = .ok (.getfield 53, 3) := by decide +kernel
theorem d_B_check_4 : decode c_B_check 4 = .ok (.invokevirtual 109, 3) := by decide +kernel
theorem d_B_check_7 : decode c_B_check 7 = .ok (.ireturn, 1) := by decide +kernel
theorem d_B_feed_0 : decode c_B_feed 0 = .ok (.iload_n 1, 1) := by decide +kernel
theorem d_B_feed_1 : decode c_B_feed 1 = .ok (.ifCond .eq 18, 3) := by decide +kernel
theorem d_B_feed_4 : decode c_B_feed 4 = .ok (.iload_n 1, 1) := by decide +kernel
theorem d_B_feed_5 : decode c_B_feed 5 = .ok (.iconst 1, 1) := by decide +kernel
theorem d_B_feed_6 : decode c_B_feed 6 = .ok (.if_icmp .eq 13, 3) := by decide +kernel
theorem d_B_feed_9 : decode c_B_feed 9 = .ok (.new 65, 3) := by decide +kernel
theorem d_B_feed_12 : decode c_B_feed 12 = .ok (.dup, 1) := by decide +kernel
theorem d_B_feed_13 : decode c_B_feed 13 = .ok (.ldc 113, 2) := by decide +kernel
theorem d_B_feed_15 : decode c_B_feed 15 = .ok (.invokespecial 69, 3) := by decide +kernel
theorem d_B_feed_18 : decode c_B_feed 18 = .ok (.athrow, 1) := by decide +kernel
theorem d_B_feed_19 : decode c_B_feed 19 = .ok (.aload_n 0, 1) := by decide +kernel
theorem d_B_feed_20 : decode c_B_feed 20 = .ok (.getfield 19, 3) := by decide +kernel
theorem d_B_feed_23 : decode c_B_feed 23 = .ok (.iload_n 1, 1) := by decide +kernel
theorem d_B_feed_24 : decode c_B_feed 24 = .ok (.invokevirtual 115, 3) := by decide +kernel
theorem d_B_feed_27 : decode c_B_feed 27 = .ok (.ireturn, 1) := by decide +kernel
theorem d_B_read_0 : decode c_B_read 0 = .ok (.aload_n 0, 1) := by decide +kernel
theorem d_B_read_1 : decode c_B_read 1 = .ok (.invokevirtual 88, 3) := by decide +kernel
theorem d_B_read_4 : decode c_B_read 4 = .ok (.iconst 1, 1) := by decide +kernel
theorem d_B_read_5 : decode c_B_read 5 = .ok (.istore_n 1, 1) := by decide +kernel
theorem d_B_read_6 : decode c_B_read 6 = .ok (.iload_n 1, 1) := by decide +kernel
theorem d_B_read_7 : decode c_B_read 7 = .ok (.bipush 16, 2) := by decide +kernel
theorem d_B_read_9 : decode c_B_read 9 = .ok (.if_icmp .gt 74, 3) := by decide +kernel
theorem d_B_read_12 : decode c_B_read 12 = .ok (.iload_n 1, 1) := by decide +kernel
theorem d_B_read_13 : decode c_B_read 13 = .ok (.aload_n 0, 1) := by decide +kernel
theorem d_B_read_14 : decode c_B_read 14 = .ok (.getfield 19, 3) := by decide +kernel
theorem d_B_read_17 : decode c_B_read 17 = .ok (.getfield 119, 3) := by decide +kernel
theorem d_B_read_20 : decode c_B_read 20 = .ok (.if_icmp .gt 63, 3) := by decide +kernel
theorem d_B_read_23 : decode c_B_read 23 = .ok (.aload_n 0, 1) := by decide +kernel
theorem d_B_read_24 : decode c_B_read 24 = .ok (.getfield 53, 3) := by decide +kernel
theorem d_B_read_27 : decode c_B_read 27 = .ok (.aload_n 0, 1) := by decide +kernel
theorem d_B_read_28 : decode c_B_read 28 = .ok (.getfield 19, 3) := by decide +kernel
theorem d_B_read_31 : decode c_B_read 31 = .ok (.iconst 0, 1) := by decide +kernel
theorem d_B_read_32 : decode c_B_read 32 = .ok (.iload_n 1, 1) := by decide +kernel
theorem d_B_read_33 : decode c_B_read 33 = .ok (.invokevirtual 123, 3) := by decide +kernel
theorem d_B_read_36 : decode c_B_read 36 = .ok (.l2i, 1) := by decide +kernel
theorem d_B_read_37 : decode c_B_read 37 = .ok (.iload_n 1, 1) := by decide +kernel
theorem d_B_read_38 : decode c_B_read 38 = .ok (.invokevirtual 127, 3) := by decide +kernel
theorem d_B_read_41 : decode c_B_read 41 = .ok (.istore_n 2, 1) := by decide +kernel
theorem d_B_read_42 : decode c_B_read 42 = .ok (.iload_n 2, 1) := by decide +kernel
theorem d_B_read_43 : decode c_B_read 43 = .ok (.iconst (-1), 1) := by decide +kernel
theorem d_B_read_44 : decode c_B_read 44 = .ok (.if_icmp .ne 14, 3) := by decide +kernel
theorem d_B_read_47 : decode c_B_read 47 = .ok (.aload_n 0, 1) := by decide +kernel
theorem d_B_read_48 : decode c_B_read 48 = .ok (.getfield 19, 3) := by decide +kernel
theorem d_B_read_51 : decode c_B_read 51 = .ok (.iload_n 1, 1) := by decide +kernel
theorem d_B_read_52 : decode c_B_read 52 = .ok (.invokevirtual 130, 3) := by decide +kernel
theorem d_B_read_55 : decode c_B_read 55 = .ok (.bipush (-2), 2) := by decide +kernel
theorem d_B_read_57 : decode c_B_read 57 = .ok (.ireturn, 1) := by decide +kernel
theorem d_B_read_58 : decode c_B_read 58 = .ok (.aload_n 0, 1) := by decide +kernel
theorem d_B_read_59 : decode c_B_read 59 = .ok (.getfield 53, 3) := by decide +kernel
theorem d_B_read_62 : decode c_B_read 62 = .ok (.getfield 78, 3) := by decide +kernel
theorem d_B_read_65 : decode c_B_read 65 = .ok (.iload_n 2, 1) := by decide +kernel
theorem d_B_read_66 : decode c_B_read 66 = .ok (.iaload, 1) := by decide +kernel
theorem d_B_read_67 : decode c_B_read 67 = .ok (.iload_n 1, 1) := by decide +kernel
theorem d_B_read_68 : decode c_B_read 68 = .ok (.if_icmp .ne 9, 3) := by decide +kernel
theorem d_B_read_71 : decode c_B_read 71 = .ok (.aload_n 0, 1) := by decide +kernel
theorem d_B_read_72 : decode c_B_read 72 = .ok (.iload_n 2, 1) := by decide +kernel
theorem d_B_read_73 : decode c_B_read 73 = .ok (.invokevirtual 133, 3) := by decide +kernel
theorem d_B_read_76 : decode c_B_read 76 = .ok (.ireturn, 1) := by decide +kernel
theorem d_B_read_77 : decode c_B_read 77 = .ok (.iinc 1 1, 3) := by decide +kernel
theorem d_B_read_80 : decode c_B_read 80 = .ok (.goto (-74), 3) := by decide +kernel
theorem d_B_read_83 : decode c_B_read 83 = .ok (.iconst (-1), 1) := by decide +kernel
theorem d_B_read_84 : decode c_B_read 84 = .ok (.ireturn, 1) := by decide +kernel
theorem d_B_last_0 : decode c_B_last 0 = .ok (.aload_n 0, 1) := by decide +kernel
theorem d_B_last_1 : decode c_B_last 1 = .ok (.getfield 34, 3) := by decide +kernel
theorem d_B_last_4 : decode c_B_last 4 = .ok (.ifCond .ne 13, 3) := by decide +kernel
theorem d_B_last_7 : decode c_B_last 7 = .ok (.new 65, 3) := by decide +kernel
theorem d_B_last_10 : decode c_B_last 10 = .ok (.dup, 1) := by decide +kernel
theorem d_B_last_11 : decode c_B_last 11 = .ok (.ldc 137, 2) := by decide +kernel
theorem d_B_last_13 : decode c_B_last 13 = .ok (.invokespecial 69, 3) := by decide +kernel
theorem d_B_last_16 : decode c_B_last 16 = .ok (.athrow, 1) := by decide +kernel
theorem d_B_last_17 : decode c_B_last 17 = .ok (.aload_n 0, 1) := by decide +kernel
theorem d_B_last_18 : decode c_B_last 18 = .ok (.getfield 38, 3) := by decide +kernel
theorem d_B_last_21 : decode c_B_last 21 = .ok (.lreturn, 1) := by decide +kernel
theorem d_B_waiting_0 : decode c_B_waiting 0 = .ok (.aload_n 0, 1) := by decide +kernel
theorem d_B_waiting_1 : decode c_B_waiting 1 = .ok (.getfield 19, 3) := by decide +kernel
theorem d_B_waiting_4 : decode c_B_waiting 4 = .ok (.getfield 119, 3) := by decide +kernel
theorem d_B_waiting_7 : decode c_B_waiting 7 = .ok (.ireturn, 1) := by decide +kernel
theorem d_B_sum_0 : decode c_B_sum 0 = .ok (.lconst 0, 1) := by decide +kernel
theorem d_B_sum_1 : decode c_B_sum 1 = .ok (.lstore_n 1, 1) := by decide +kernel
theorem d_B_sum_2 : decode c_B_sum 2 = .ok (.iconst 0, 1) := by decide +kernel
theorem d_B_sum_3 : decode c_B_sum 3 = .ok (.istore_n 3, 1) := by decide +kernel
theorem d_B_sum_4 : decode c_B_sum 4 = .ok (.iload_n 3, 1) := by decide +kernel
theorem d_B_sum_5 : decode c_B_sum 5 = .ok (.bipush 48, 2) := by decide +kernel
theorem d_B_sum_7 : decode c_B_sum 7 = .ok (.if_icmp .ge 29, 3) := by decide +kernel
theorem d_B_sum_10 : decode c_B_sum 10 = .ok (.lload_n 1, 1) := by decide +kernel
theorem d_B_sum_11 : decode c_B_sum 11 = .ok (.aload_n 0, 1) := by decide +kernel
theorem d_B_sum_12 : decode c_B_sum 12 = .ok (.getfield 23, 3) := by decide +kernel
theorem d_B_sum_15 : decode c_B_sum 15 = .ok (.iload_n 3, 1) := by decide +kernel
theorem d_B_sum_16 : decode c_B_sum 16 = .ok (.laload, 1) := by decide +kernel
theorem d_B_sum_17 : decode c_B_sum 17 = .ok (.aload_n 0, 1) := by decide +kernel
theorem d_B_sum_18 : decode c_B_sum 18 = .ok (.getfield 53, 3) := by decide +kernel
theorem d_B_sum_21 : decode c_B_sum 21 = .ok (.getfield 78, 3) := by decide +kernel
theorem d_B_sum_24 : decode c_B_sum 24 = .ok (.iload_n 3, 1) := by decide +kernel
theorem d_B_sum_25 : decode c_B_sum 25 = .ok (.iaload, 1) := by decide +kernel
theorem d_B_sum_26 : decode c_B_sum 26 = .ok (.i2l, 1) := by decide +kernel
theorem d_B_sum_27 : decode c_B_sum 27 = .ok (.lmul, 1) := by decide +kernel
theorem d_B_sum_28 : decode c_B_sum 28 = .ok (.ladd, 1) := by decide +kernel
theorem d_B_sum_29 : decode c_B_sum 29 = .ok (.lstore_n 1, 1) := by decide +kernel
theorem d_B_sum_30 : decode c_B_sum 30 = .ok (.iinc 3 1, 3) := by decide +kernel
theorem d_B_sum_33 : decode c_B_sum 33 = .ok (.goto (-29), 3) := by decide +kernel
theorem d_B_sum_36 : decode c_B_sum 36 = .ok (.lload_n 1, 1) := by decide +kernel
theorem d_B_sum_37 : decode c_B_sum 37 = .ok (.lreturn, 1) := by decide +kernel
theorem d_B_lengths_0 : decode c_B_lengths 0 = .ok (.aload_n 0, 1) := by decide +kernel
theorem d_B_lengths_1 : decode c_B_lengths 1 = .ok (.getfield 53, 3) := by decide +kernel
theorem d_B_lengths_4 : decode c_B_lengths 4 = .ok (.invokevirtual 139, 3) := by decide +kernel
theorem d_B_lengths_7 : decode c_B_lengths 7 = .ok (.istore_n 2, 1) := by decide +kernel
theorem d_B_lengths_8 : decode c_B_lengths 8 = .ok (.iconst 0, 1) := by decide +kernel
theorem d_B_lengths_9 : decode c_B_lengths 9 = .ok (.istore_n 3, 1) := by decide +kernel
theorem d_B_lengths_10 : decode c_B_lengths 10 = .ok (.iconst 0, 1) := by decide +kernel
theorem d_B_lengths_11 : decode c_B_lengths 11 = .ok (.istore 4, 2) := by decide +kernel
theorem d_B_lengths_13 : decode c_B_lengths 13 = .ok (.iload 4, 2) := by decide +kernel
theorem d_B_lengths_15 : decode c_B_lengths 15 = .ok (.bipush 48, 2) := by decide +kernel
theorem d_B_lengths_17 : decode c_B_lengths 17 = .ok (.if_icmp .ge 39, 3) := by decide +kernel
theorem d_B_lengths_20 : decode c_B_lengths 20 = .ok (.iload_n 3, 1) := by decide +kernel
theorem d_B_lengths_21 : decode c_B_lengths 21 = .ok (.iload_n 2, 1) := by decide +kernel
theorem d_B_lengths_22 : decode c_B_lengths 22 = .ok (.if_icmp .ge 34, 3) := by decide +kernel
theorem d_B_lengths_25 : decode c_B_lengths 25 = .ok (.aload_n 0, 1) := by decide +kernel
theorem d_B_lengths_26 : decode c_B_lengths 26 = .ok (.iload_n 3, 1) := by decide +kernel
theorem d_B_lengths_27 : decode c_B_lengths 27 = .ok (.iload_n 2, 1) := by decide +kernel
theorem d_B_lengths_28 : decode c_B_lengths 28 = .ok (.invokevirtual 142, 3) := by decide +kernel
theorem d_B_lengths_31 : decode c_B_lengths 31 = .ok (.istore 5, 2) := by decide +kernel
theorem d_B_lengths_33 : decode c_B_lengths 33 = .ok (.iload 4, 2) := by decide +kernel
theorem d_B_lengths_35 : decode c_B_lengths 35 = .ok (.iload_n 1, 1) := by decide +kernel
theorem d_B_lengths_36 : decode c_B_lengths 36 = .ok (.if_icmp .ne 6, 3) := by decide +kernel
theorem d_B_lengths_39 : decode c_B_lengths 39 = .ok (.iload 5, 2) := by decide +kernel
theorem d_B_lengths_41 : decode c_B_lengths 41 = .ok (.ireturn, 1) := by decide +kernel
theorem d_B_lengths_42 : decode c_B_lengths 42 = .ok (.iload_n 3, 1) := by decide +kernel
theorem d_B_lengths_43 : decode c_B_lengths 43 = .ok (.iload 5, 2) := by decide +kernel
theorem d_B_lengths_45 : decode c_B_lengths 45 = .ok (.invokestatic 145, 3) := by decide +kernel
theorem d_B_lengths_48 : decode c_B_lengths 48 = .ok (.iadd, 1) := by decide +kernel
theorem d_B_lengths_49 : decode c_B_lengths 49 = .ok (.istore_n 3, 1) := by decide +kernel
theorem d_B_lengths_50 : decode c_B_lengths 50 = .ok (.iinc 4 1, 3) := by decide +kernel
theorem d_B_lengths_53 : decode c_B_lengths 53 = .ok (.goto (-40), 3) := by decide +kernel
theorem d_B_lengths_56 : decode c_B_lengths 56 = .ok (.iconst (-1), 1) := by decide +kernel
theorem d_B_lengths_57 : decode c_B_lengths 57 = .ok (.ireturn, 1) := by decide +kernel
theorem d_B_clear_0 : decode c_B_clear 0 = .ok (.iconst 0, 1) := by decide +kernel
theorem d_B_clear_1 : decode c_B_clear 1 = .ok (.istore_n 1, 1) := by decide +kernel
theorem d_B_clear_2 : decode c_B_clear 2 = .ok (.iload_n 1, 1) := by decide +kernel
theorem d_B_clear_3 : decode c_B_clear 3 = .ok (.bipush 48, 2) := by decide +kernel
theorem d_B_clear_5 : decode c_B_clear 5 = .ok (.if_icmp .ge 26, 3) := by decide +kernel
theorem d_B_clear_8 : decode c_B_clear 8 = .ok (.aload_n 0, 1) := by decide +kernel
theorem d_B_clear_9 : decode c_B_clear 9 = .ok (.getfield 23, 3) := by decide +kernel
theorem d_B_clear_12 : decode c_B_clear 12 = .ok (.iload_n 1, 1) := by decide +kernel
theorem d_B_clear_13 : decode c_B_clear 13 = .ok (.lconst 0, 1) := by decide +kernel
theorem d_B_clear_14 : decode c_B_clear 14 = .ok (.lastore, 1) := by decide +kernel
theorem d_B_clear_15 : decode c_B_clear 15 = .ok (.aload_n 0, 1) := by decide +kernel
theorem d_B_clear_16 : decode c_B_clear 16 = .ok (.getfield 53, 3) := by decide +kernel
theorem d_B_clear_19 : decode c_B_clear 19 = .ok (.getfield 78, 3) := by decide +kernel
theorem d_B_clear_22 : decode c_B_clear 22 = .ok (.iload_n 1, 1) := by decide +kernel
theorem d_B_clear_23 : decode c_B_clear 23 = .ok (.iconst 0, 1) := by decide +kernel
theorem d_B_clear_24 : decode c_B_clear 24 = .ok (.iastore, 1) := by decide +kernel
theorem d_B_clear_25 : decode c_B_clear 25 = .ok (.iinc 1 1, 3) := by decide +kernel
theorem d_B_clear_28 : decode c_B_clear 28 = .ok (.goto (-26), 3) := by decide +kernel
theorem d_B_clear_31 : decode c_B_clear 31 = .ok (.aload_n 0, 1) := by decide +kernel
theorem d_B_clear_32 : decode c_B_clear 32 = .ok (.getfield 53, 3) := by decide +kernel
theorem d_B_clear_35 : decode c_B_clear 35 = .ok (.invokevirtual 85, 3) := by decide +kernel
theorem d_B_clear_38 : decode c_B_clear 38 = .ok (.aload_n 0, 1) := by decide +kernel
theorem d_B_clear_39 : decode c_B_clear 39 = .ok (.invokevirtual 57, 3) := by decide +kernel
theorem d_B_clear_42 : decode c_B_clear 42 = .ok (.aload_n 0, 1) := by decide +kernel
theorem d_B_clear_43 : decode c_B_clear 43 = .ok (.getfield 19, 3) := by decide +kernel
theorem d_B_clear_46 : decode c_B_clear 46 = .ok (.aload_n 0, 1) := by decide +kernel
theorem d_B_clear_47 : decode c_B_clear 47 = .ok (.getfield 19, 3) := by decide +kernel
theorem d_B_clear_50 : decode c_B_clear 50 = .ok (.getfield 119, 3) := by decide +kernel
theorem d_B_clear_53 : decode c_B_clear 53 = .ok (.invokevirtual 130, 3) := by decide +kernel
theorem d_B_clear_56 : decode c_B_clear 56 = .ok (.aload_n 0, 1) := by decide +kernel
theorem d_B_clear_57 : decode c_B_clear 57 = .ok (.iconst 0, 1) := by decide +kernel
theorem d_B_clear_58 : decode c_B_clear 58 = .ok (.putfield 34, 3) := by decide +kernel
theorem d_B_clear_61 : decode c_B_clear 61 = .ok (.return_, 1) := by decide +kernel
theorem d_B_needSymbol_0 : decode c_B_needSymbol 0 = .ok (.iload_n 0, 1) := by decide +kernel
theorem d_B_needSymbol_1 : decode c_B_needSymbol 1 = .ok (.ifCond .lt 9, 3) := by decide +kernel
theorem d_B_needSymbol_4 : decode c_B_needSymbol 4 = .ok (.iload_n 0, 1) := by decide +kernel
theorem d_B_needSymbol_5 : decode c_B_needSymbol 5 = .ok (.bipush 48, 2) := by decide +kernel
theorem d_B_needSymbol_7 : decode c_B_needSymbol 7 = .ok (.if_icmp .lt 13, 3) := by decide +kernel
theorem d_B_needSymbol_10 : decode c_B_needSymbol 10 = .ok (.new 148, 3) := by decide +kernel
theorem d_B_needSymbol_13 : decode c_B_needSymbol 13 = .ok (.dup, 1) := by decide +kernel
theorem d_B_needSymbol_14 : decode c_B_needSymbol 14 = .ok (.ldc 150, 2) := by decide +kernel
theorem d_B_needSymbol_16 : decode c_B_needSymbol 16 = .ok (.invokespecial 152, 3) := by decide +kernel
theorem d_B_needSymbol_19 : decode c_B_needSymbol 19 = .ok (.athrow, 1) := by decide +kernel
theorem d_B_needSymbol_20 : decode c_B_needSymbol 20 = .ok (.return_, 1) := by decide +kernel
theorem d_B_needCodes_0 : decode c_B_needCodes 0 = .ok (.aload_n 0, 1) := by decide +kernel
theorem d_B_needCodes_1 : decode c_B_needCodes 1 = .ok (.getfield 53, 3) := by decide +kernel
theorem d_B_needCodes_4 : decode c_B_needCodes 4 = .ok (.invokevirtual 109, 3) := by decide +kernel
theorem d_B_needCodes_7 : decode c_B_needCodes 7 = .ok (.iconst 2, 1) := by decide +kernel
theorem d_B_needCodes_8 : decode c_B_needCodes 8 = .ok (.if_icmp .ne 13, 3) := by decide +kernel
theorem d_B_needCodes_11 : decode c_B_needCodes 11 = .ok (.new 153, 3) := by decide +kernel
theorem d_B_needCodes_14 : decode c_B_needCodes 14 = .ok (.dup, 1) := by decide +kernel
theorem d_B_needCodes_15 : decode c_B_needCodes 15 = .ok (.ldc 155, 2) := by decide +kernel
theorem d_B_needCodes_17 : decode c_B_needCodes 17 = .ok (.invokespecial 157, 3) := by decide +kernel
theorem d_B_needCodes_20 : decode c_B_needCodes 20 = .ok (.athrow, 1) := by decide +kernel
theorem d_B_needCodes_21 : decode c_B_needCodes 21 = .ok (.return_, 1) := by decide +kernel
theorem d_B_tellLength_0 : decode c_B_tellLength 0 = .ok (.aload_n 0, 1) := by decide +kernel
theorem d_B_tellLength_1 : decode c_B_tellLength 1 = .ok (.getfield 53, 3) := by decide +kernel
theorem d_B_tellLength_4 : decode c_B_tellLength 4 = .ok (.getfield 78, 3) := by decide +kernel
theorem d_B_tellLength_7 : decode c_B_tellLength 7 = .ok (.iload_n 1, 1) := by decide +kernel
theorem d_B_tellLength_8 : decode c_B_tellLength 8 = .ok (.iload_n 2, 1) := by decide +kernel
theorem d_B_tellLength_9 : decode c_B_tellLength 9 = .ok (.iastore, 1) := by decide +kernel
theorem d_B_tellLength_10 : decode c_B_tellLength 10 = .ok (.aload_n 0, 1) := by decide +kernel
theorem d_B_tellLength_11 : decode c_B_tellLength 11 = .ok (.getfield 53, 3) := by decide +kernel
theorem d_B_tellLength_14 : decode c_B_tellLength 14 = .ok (.invokevirtual 85, 3) := by decide +kernel
theorem d_B_tellLength_17 : decode c_B_tellLength 17 = .ok (.aload_n 0, 1) := by decide +kernel
theorem d_B_tellLength_18 : decode c_B_tellLength 18 = .ok (.getfield 53, 3) := by decide +kernel
theorem d_B_tellLength_21 : decode c_B_tellLength 21 = .ok (.invokevirtual 109, 3) := by decide +kernel
theorem d_B_tellLength_24 : decode c_B_tellLength 24 = .ok (.iconst 2, 1) := by decide +kernel
theorem d_B_tellLength_25 : decode c_B_tellLength 25 = .ok (.if_icmp .eq 7, 3) := by decide +kernel
theorem d_B_tellLength_28 : decode c_B_tellLength 28 = .ok (.iconst 1, 1) := by decide +kernel
theorem d_B_tellLength_29 : decode c_B_tellLength 29 = .ok (.goto 4, 3) := by decide +kernel
theorem d_B_tellLength_32 : decode c_B_tellLength 32 = .ok (.iconst 0, 1) := by decide +kernel
theorem d_B_tellLength_33 : decode c_B_tellLength 33 = .ok (.ireturn, 1) := by decide +kernel
theorem d_B_dropRange_0 : decode c_B_dropRange 0 = .ok (.aload_n 0, 1) := by decide +kernel
theorem d_B_dropRange_1 : decode c_B_dropRange 1 = .ok (.getfield 27, 3) := by decide +kernel
theorem d_B_dropRange_4 : decode c_B_dropRange 4 = .ok (.iload_n 1, 1) := by decide +kernel
theorem d_B_dropRange_5 : decode c_B_dropRange 5 = .ok (.iload_n 1, 1) := by decide +kernel
theorem d_B_dropRange_6 : decode c_B_dropRange 6 = .ok (.iastore, 1) := by decide +kernel
theorem d_B_dropRange_7 : decode c_B_dropRange 7 = .ok (.aload_n 0, 1) := by decide +kernel
theorem d_B_dropRange_8 : decode c_B_dropRange 8 = .ok (.getfield 31, 3) := by decide +kernel
theorem d_B_dropRange_11 : decode c_B_dropRange 11 = .ok (.iload_n 1, 1) := by decide +kernel
theorem d_B_dropRange_12 : decode c_B_dropRange 12 = .ok (.iconst 0, 1) := by decide +kernel
theorem d_B_dropRange_13 : decode c_B_dropRange 13 = .ok (.iastore, 1) := by decide +kernel
theorem d_B_dropRange_14 : decode c_B_dropRange 14 = .ok (.return_, 1) := by decide +kernel
theorem d_B_dropAllRanges_0 : decode c_B_dropAllRanges 0 = .ok (.iconst 0, 1) := by decide +kernel
theorem d_B_dropAllRanges_1 : decode c_B_dropAllRanges 1 = .ok (.istore_n 1, 1) := by decide +kernel
theorem d_B_dropAllRanges_2 : decode c_B_dropAllRanges 2 = .ok (.iload_n 1, 1) := by decide +kernel
theorem d_B_dropAllRanges_3 : decode c_B_dropAllRanges 3 = .ok (.bipush 48, 2) := by decide +kernel
theorem d_B_dropAllRanges_5 : decode c_B_dropAllRanges 5 = .ok (.if_icmp .ge 14, 3) := by decide +kernel
theorem d_B_dropAllRanges_8 : decode c_B_dropAllRanges 8 = .ok (.aload_n 0, 1) := by decide +kernel
theorem d_B_dropAllRanges_9 : decode c_B_dropAllRanges 9 = .ok (.iload_n 1, 1) := by decide +kernel
theorem d_B_dropAllRanges_10 : decode c_B_dropAllRanges 10 = .ok (.invokevirtual 98, 3) := by decide +kernel
theorem d_B_dropAllRanges_13 : decode c_B_dropAllRanges 13 = .ok (.iinc 1 1, 3) := by decide +kernel
theorem d_B_dropAllRanges_16 : decode c_B_dropAllRanges 16 = .ok (.goto (-14), 3) := by decide +kernel
theorem d_B_dropAllRanges_19 : decode c_B_dropAllRanges 19 = .ok (.return_, 1) := by decide +kernel
theorem d_B_takeSymbol_0 : decode c_B_takeSymbol 0 = .ok (.aload_n 0, 1) := by decide +kernel
theorem d_B_takeSymbol_1 : decode c_B_takeSymbol 1 = .ok (.getfield 53, 3) := by decide +kernel
theorem d_B_takeSymbol_4 : decode c_B_takeSymbol 4 = .ok (.getfield 78, 3) := by decide +kernel
theorem d_B_takeSymbol_7 : decode c_B_takeSymbol 7 = .ok (.iload_n 1, 1) := by decide +kernel
theorem d_B_takeSymbol_8 : decode c_B_takeSymbol 8 = .ok (.iaload, 1) := by decide +kernel
theorem d_B_takeSymbol_9 : decode c_B_takeSymbol 9 = .ok (.istore_n 2, 1) := by decide +kernel
theorem d_B_takeSymbol_10 : decode c_B_takeSymbol 10 = .ok (.aload_n 0, 1) := by decide +kernel
theorem d_B_takeSymbol_11 : decode c_B_takeSymbol 11 = .ok (.getfield 31, 3) := by decide +kernel
theorem d_B_takeSymbol_14 : decode c_B_takeSymbol 14 = .ok (.iload_n 1, 1) := by decide +kernel
theorem d_B_takeSymbol_15 : decode c_B_takeSymbol 15 = .ok (.iaload, 1) := by decide +kernel
theorem d_B_takeSymbol_16 : decode c_B_takeSymbol 16 = .ok (.invokestatic 158, 3) := by decide +kernel
theorem d_B_takeSymbol_19 : decode c_B_takeSymbol 19 = .ok (.istore_n 3, 1) := by decide +kernel
theorem d_B_takeSymbol_20 : decode c_B_takeSymbol 20 = .ok (.aload_n 0, 1) := by decide +kernel
theorem d_B_takeSymbol_21 : decode c_B_takeSymbol 21 = .ok (.getfield 19, 3) := by decide +kernel
theorem d_B_takeSymbol_24 : decode c_B_takeSymbol 24 = .ok (.getfield 119, 3) := by decide +kernel
theorem d_B_takeSymbol_27 : decode c_B_takeSymbol 27 = .ok (.iload_n 2, 1) := by decide +kernel
theorem d_B_takeSymbol_28 : decode c_B_takeSymbol 28 = .ok (.iload_n 3, 1) := by decide +kernel
theorem d_B_takeSymbol_29 : decode c_B_takeSymbol 29 = .ok (.iadd, 1) := by decide +kernel
theorem d_B_takeSymbol_30 : decode c_B_takeSymbol 30 = .ok (.if_icmp .ge 5, 3) := by decide +kernel
theorem d_B_takeSymbol_33 : decode c_B_takeSymbol 33 = .ok (.iconst (-1), 1) := by decide +kernel
theorem d_B_takeSymbol_34 : decode c_B_takeSymbol 34 = .ok (.ireturn, 1) := by decide +kernel
theorem d_B_takeSymbol_35 : decode c_B_takeSymbol 35 = .ok (.aload_n 0, 1) := by decide +kernel
theorem d_B_takeSymbol_36 : decode c_B_takeSymbol 36 = .ok (.getfield 19, 3) := by decide +kernel
theorem d_B_takeSymbol_39 : decode c_B_takeSymbol 39 = .ok (.iload_n 2, 1) := by decide +kernel
theorem d_B_takeSymbol_40 : decode c_B_takeSymbol 40 = .ok (.iload_n 3, 1) := by decide +kernel
theorem d_B_takeSymbol_41 : decode c_B_takeSymbol 41 = .ok (.invokevirtual 123, 3) := by decide +kernel
theorem d_B_takeSymbol_44 : decode c_B_takeSymbol 44 = .ok (.lstore 4, 2) := by decide +kernel
theorem d_B_takeSymbol_46 : decode c_B_takeSymbol 46 = .ok (.aload_n 0, 1) := by decide +kernel
theorem d_B_takeSymbol_47 : decode c_B_takeSymbol 47 = .ok (.getfield 27, 3) := by decide +kernel
theorem d_B_takeSymbol_50 : decode c_B_takeSymbol 50 = .ok (.iload_n 1, 1) := by decide +kernel
theorem d_B_takeSymbol_51 : decode c_B_takeSymbol 51 = .ok (.iaload, 1) := by decide +kernel
theorem d_B_takeSymbol_52 : decode c_B_takeSymbol 52 = .ok (.i2l, 1) := by decide +kernel
theorem d_B_takeSymbol_53 : decode c_B_takeSymbol 53 = .ok (.lstore 6, 2) := by decide +kernel
theorem d_B_takeSymbol_55 : decode c_B_takeSymbol 55 = .ok (.aload_n 0, 1) := by decide +kernel
theorem d_B_takeSymbol_56 : decode c_B_takeSymbol 56 = .ok (.aload_n 0, 1) := by decide +kernel
theorem d_B_takeSymbol_57 : decode c_B_takeSymbol 57 = .ok (.getfield 31, 3) := by decide +kernel
theorem d_B_takeSymbol_60 : decode c_B_takeSymbol 60 = .ok (.iload_n 1, 1) := by decide +kernel
theorem d_B_takeSymbol_61 : decode c_B_takeSymbol 61 = .ok (.iaload, 1) := by decide +kernel
theorem d_B_takeSymbol_62 : decode c_B_takeSymbol 62 = .ok (.ifCond .ge 11, 3) := by decide +kernel
theorem d_B_takeSymbol_65 : decode c_B_takeSymbol 65 = .ok (.lload 6, 2) := by decide +kernel
theorem d_B_takeSymbol_67 : decode c_B_takeSymbol 67 = .ok (.lload 4, 2) := by decide +kernel
theorem d_B_takeSymbol_69 : decode c_B_takeSymbol 69 = .ok (.lsub, 1) := by decide +kernel
theorem d_B_takeSymbol_70 : decode c_B_takeSymbol 70 = .ok (.goto 8, 3) := by decide +kernel
theorem d_B_takeSymbol_73 : decode c_B_takeSymbol 73 = .ok (.lload 6, 2) := by decide +kernel
theorem d_B_takeSymbol_75 : decode c_B_takeSymbol 75 = .ok (.lload 4, 2) := by decide +kernel
theorem d_B_takeSymbol_77 : decode c_B_takeSymbol 77 = .ok (.ladd, 1) := by decide +kernel
theorem d_B_takeSymbol_78 : decode c_B_takeSymbol 78 = .ok (.putfield 38, 3) := by decide +kernel
theorem d_B_takeSymbol_81 : decode c_B_takeSymbol 81 = .ok (.aload_n 0, 1) := by decide +kernel
theorem d_B_takeSymbol_82 : decode c_B_takeSymbol 82 = .ok (.iconst 1, 1) := by decide +kernel
theorem d_B_takeSymbol_83 : decode c_B_takeSymbol 83 = .ok (.putfield 34, 3) := by decide +kernel
theorem d_B_takeSymbol_86 : decode c_B_takeSymbol 86 = .ok (.aload_n 0, 1) := by decide +kernel
theorem d_B_takeSymbol_87 : decode c_B_takeSymbol 87 = .ok (.getfield 19, 3) := by decide +kernel
theorem d_B_takeSymbol_90 : decode c_B_takeSymbol 90 = .ok (.iload_n 2, 1) := by decide +kernel
theorem d_B_takeSymbol_91 : decode c_B_takeSymbol 91 = .ok (.iload_n 3, 1) := by decide +kernel
theorem d_B_takeSymbol_92 : decode c_B_takeSymbol 92 = .ok (.iadd, 1) := by decide +kernel
theorem d_B_takeSymbol_93 : decode c_B_takeSymbol 93 = .ok (.invokevirtual 130, 3) := by decide +kernel
theorem d_B_takeSymbol_96 : decode c_B_takeSymbol 96 = .ok (.iload_n 1, 1) := by decide +kernel
theorem d_B_takeSymbol_97 : decode c_B_takeSymbol 97 = .ok (.ireturn, 1) := by decide +kernel
theorem d_B_numberTold_0 : decode c_B_numberTold 0 = .ok (.aload_n 0, 1) := by decide +kernel
theorem d_B_numberTold_1 : decode c_B_numberTold 1 = .ok (.getfield 53, 3) := by decide +kernel
theorem d_B_numberTold_4 : decode c_B_numberTold 4 = .ok (.iconst 0, 1) := by decide +kernel
theorem d_B_numberTold_5 : decode c_B_numberTold 5 = .ok (.iload_n 1, 1) := by decide +kernel
theorem d_B_numberTold_6 : decode c_B_numberTold 6 = .ok (.iload_n 2, 1) := by decide +kernel
theorem d_B_numberTold_7 : decode c_B_numberTold 7 = .ok (.invokevirtual 161, 3) := by decide +kernel
theorem d_B_numberTold_10 : decode c_B_numberTold 10 = .ok (.istore_n 3, 1) := by decide +kernel
theorem d_B_numberTold_11 : decode c_B_numberTold 11 = .ok (.iload_n 3, 1) := by decide +kernel
theorem d_B_numberTold_12 : decode c_B_numberTold 12 = .ok (.iconst 3, 1) := by decide +kernel
theorem d_B_numberTold_13 : decode c_B_numberTold 13 = .ok (.if_icmp .lt 15, 3) := by decide +kernel
theorem d_B_numberTold_16 : decode c_B_numberTold 16 = .ok (.sipush 200, 3) := by decide +kernel
theorem d_B_numberTold_19 : decode c_B_numberTold 19 = .ok (.iload_n 3, 1) := by decide +kernel
theorem d_B_numberTold_20 : decode c_B_numberTold 20 = .ok (.sipush 138, 3) := by decide +kernel
theorem d_B_numberTold_23 : decode c_B_numberTold 23 = .ok (.invokestatic 165, 3) := by decide +kernel
theorem d_B_numberTold_26 : decode c_B_numberTold 26 = .ok (.iadd, 1) := by decide +kernel
theorem d_B_numberTold_27 : decode c_B_numberTold 27 = .ok (.ireturn, 1) := by decide +kernel
theorem d_B_numberTold_28 : decode c_B_numberTold 28 = .ok (.iload_n 1, 1) := by decide +kernel
theorem d_B_numberTold_29 : decode c_B_numberTold 29 = .ok (.ifCond .ne 7, 3) := by decide +kernel
theorem d_B_numberTold_32 : decode c_B_numberTold 32 = .ok (.iconst 0, 1) := by decide +kernel
theorem d_B_numberTold_33 : decode c_B_numberTold 33 = .ok (.goto 23, 3) := by decide +kernel
theorem d_B_numberTold_36 : decode c_B_numberTold 36 = .ok (.aload_n 0, 1) := by decide +kernel
theorem d_B_numberTold_37 : decode c_B_numberTold 37 = .ok (.getfield 53, 3) := by decide +kernel
theorem d_B_numberTold_40 : decode c_B_numberTold 40 = .ok (.aload_n 0, 1) := by decide +kernel
theorem d_B_numberTold_41 : decode c_B_numberTold 41 = .ok (.getfield 53, 3) := by decide +kernel
theorem d_B_numberTold_44 : decode c_B_numberTold 44 = .ok (.getfield 78, 3) := by decide +kernel
theorem d_B_numberTold_47 : decode c_B_numberTold 47 = .ok (.iload_n 1, 1) := by decide +kernel
theorem d_B_numberTold_48 : decode c_B_numberTold 48 = .ok (.iconst 1, 1) := by decide +kernel
theorem d_B_numberTold_49 : decode c_B_numberTold 49 = .ok (.isub, 1) := by decide +kernel
theorem d_B_numberTold_50 : decode c_B_numberTold 50 = .ok (.iaload, 1) := by decide +kernel
theorem d_B_numberTold_51 : decode c_B_numberTold 51 = .ok (.iload_n 1, 1) := by decide +kernel
theorem d_B_numberTold_52 : decode c_B_numberTold 52 = .ok (.iload_n 2, 1) := by decide +kernel
theorem d_B_numberTold_53 : decode c_B_numberTold 53 = .ok (.invokevirtual 161, 3) := by decide +kernel
theorem d_B_numberTold_56 : decode c_B_numberTold 56 = .ok (.istore 4, 2) := by decide +kernel
theorem d_B_numberTold_58 : decode c_B_numberTold 58 = .ok (.iload 4, 2) := by decide +kernel
theorem d_B_numberTold_60 : decode c_B_numberTold 60 = .ok (.iconst 3, 1) := by decide +kernel
theorem d_B_numberTold_61 : decode c_B_numberTold 61 = .ok (.if_icmp .lt 14, 3) := by decide +kernel
theorem d_B_numberTold_64 : decode c_B_numberTold 64 = .ok (.bipush 100, 2) := by decide +kernel
theorem d_B_numberTold_66 : decode c_B_numberTold 66 = .ok (.iload 4, 2) := by decide +kernel
theorem d_B_numberTold_68 : decode c_B_numberTold 68 = .ok (.bipush 6, 2) := by decide +kernel
theorem d_B_numberTold_70 : decode c_B_numberTold 70 = .ok (.invokestatic 165, 3) := by decide +kernel
theorem d_B_numberTold_73 : decode c_B_numberTold 73 = .ok (.iadd, 1) := by decide +kernel
theorem d_B_numberTold_74 : decode c_B_numberTold 74 = .ok (.ireturn, 1) := by decide +kernel
theorem d_B_numberTold_75 : decode c_B_numberTold 75 = .ok (.aload_n 0, 1) := by decide +kernel
theorem d_B_numberTold_76 : decode c_B_numberTold 76 = .ok (.getfield 53, 3) := by decide +kernel
theorem d_B_numberTold_79 : decode c_B_numberTold 79 = .ok (.getfield 78, 3) := by decide +kernel
theorem d_B_numberTold_82 : decode c_B_numberTold 82 = .ok (.iload_n 1, 1) := by decide +kernel
theorem d_B_numberTold_83 : decode c_B_numberTold 83 = .ok (.iaload, 1) := by decide +kernel
theorem d_B_numberTold_84 : decode c_B_numberTold 84 = .ok (.ireturn, 1) := by decide +kernel
theorem d_B_lengthsToldBy_0 : decode c_B_lengthsToldBy 0 = .ok (.iload_n 0, 1) := by decide +kernel
theorem d_B_lengthsToldBy_1 : decode c_B_lengthsToldBy 1 = .ok (.sipush 200, 3) := by decide +kernel
theorem d_B_lengthsToldBy_4 : decode c_B_lengthsToldBy 4 = .ok (.if_icmp .le 9, 3) := by decide +kernel
theorem d_B_lengthsToldBy_7 : decode c_B_lengthsToldBy 7 = .ok (.iload_n 0, 1) := by decide +kernel
theorem d_B_lengthsToldBy_8 : decode c_B_lengthsToldBy 8 = .ok (.sipush 200, 3) := by decide +kernel
theorem d_B_lengthsToldBy_11 : decode c_B_lengthsToldBy 11 = .ok (.isub, 1) := by decide +kernel
theorem d_B_lengthsToldBy_12 : decode c_B_lengthsToldBy 12 = .ok (.ireturn, 1) := by decide +kernel
theorem d_B_lengthsToldBy_13 : decode c_B_lengthsToldBy 13 = .ok (.iload_n 0, 1) := by decide +kernel
theorem d_B_lengthsToldBy_14 : decode c_B_lengthsToldBy 14 = .ok (.bipush 100, 2) := by decide +kernel
theorem d_B_lengthsToldBy_16 : decode c_B_lengthsToldBy 16 = .ok (.if_icmp .le 10, 3) := by decide +kernel
theorem d_B_lengthsToldBy_19 : decode c_B_lengthsToldBy 19 = .ok (.iload_n 0, 1) := by decide +kernel
theorem d_B_lengthsToldBy_20 : decode c_B_lengthsToldBy 20 = .ok (.bipush 100, 2) := by decide +kernel
theorem d_B_lengthsToldBy_22 : decode c_B_lengthsToldBy 22 = .ok (.isub, 1) := by decide +kernel
theorem d_B_lengthsToldBy_23 : decode c_B_lengthsToldBy 23 = .ok (.goto 4, 3) := by decide +kernel
theorem d_B_lengthsToldBy_26 : decode c_B_lengthsToldBy 26 = .ok (.iconst 1, 1) := by decide +kernel
theorem d_B_lengthsToldBy_27 : decode c_B_lengthsToldBy 27 = .ok (.ireturn, 1) := by decide +kernel
end
section
theorem d_M_init_0 : decode c_M_init 0 = .ok (.aload_n 0, 1) := by decide +kernel
theorem d_M_init_1 : decode c_M_init 1 = .ok (.invokespecial 1, 3) := by decide +kernel
theorem d_M_init_4 : decode c_M_init 4 = .ok (.aload_n 0, 1) := by decide +kernel
theorem d_M_init_5 : decode c_M_init 5 = .ok (.bipush 48, 2) := by decide +kernel
theorem d_M_init_7 : decode c_M_init 7 = .ok (.newarray .long, 2) := by decide +kernel
theorem d_M_init_9 : decode c_M_init 9 = .ok (.putfield 7, 3) := by decide +kernel
theorem d_M_init_12 : decode c_M_init 12 = .ok (.aload_n 0, 1) := by decide +kernel
theorem d_M_init_13 : decode c_M_init 13 = .ok (.bipush 48, 2) := by decide +kernel
theorem d_M_init_15 : decode c_M_init 15 = .ok (.newarray .int, 2) := by decide +kernel
theorem d_M_init_17 : decode c_M_init 17 = .ok (.putfield 13, 3) := by decide +kernel
theorem d_M_init_20 : decode c_M_init 20 = .ok (.aload_n 0, 1) := by decide +kernel
theorem d_M_init_21 : decode c_M_init 21 = .ok (.bipush 48, 2) := by decide +kernel
theorem d_M_init_23 : decode c_M_init 23 = .ok (.newarray .boolean, 2) := by decide +kernel
theorem d_M_init_25 : decode c_M_init 25 = .ok (.putfield 17, 3) := by decide +kernel
theorem d_M_init_28 : decode c_M_init 28 = .ok (.aload_n 0, 1) := by decide +kernel
theorem d_M_init_29 : decode c_M_init 29 = .ok (.bipush 48, 2) := by decide +kernel
theorem d_M_init_31 : decode c_M_init 31 = .ok (.newarray .int, 2) := by decide +kernel
theorem d_M_init_33 : decode c_M_init 33 = .ok (.putfield 21, 3) := by decide +kernel
theorem d_M_init_36 : decode c_M_init 36 = .ok (.aload_n 0, 1) := by decide +kernel
theorem d_M_init_37 : decode c_M_init 37 = .ok (.bipush 48, 2) := by decide +kernel
theorem d_M_init_39 : decode c_M_init 39 = .ok (.newarray .int, 2) := by decide +kernel
theorem d_M_init_41 : decode c_M_init 41 = .ok (.putfield 24, 3) := by decide +kernel
theorem d_M_init_44 : decode c_M_init 44 = .ok (.aload_n 0, 1) := by decide +kernel
theorem d_M_init_45 : decode c_M_init 45 = .ok (.sipush 400, 3) := by decide +kernel
theorem d_M_init_48 : decode c_M_init 48 = .ok (.newarray .int, 2) := by decide +kernel
theorem d_M_init_50 : decode c_M_init 50 = .ok (.putfield 27, 3) := by decide +kernel
theorem d_M_init_53 : decode c_M_init 53 = .ok (.aload_n 0, 1) := by decide +kernel
theorem d_M_init_54 : decode c_M_init 54 = .ok (.bipush 48, 2) := by decide +kernel
theorem d_M_init_56 : decode c_M_init 56 = .ok (.newarray .int, 2) := by decide +kernel
theorem d_M_init_58 : decode c_M_init 58 = .ok (.putfield 30, 3) := by decide +kernel
theorem d_M_init_61 : decode c_M_init 61 = .ok (.aload_n 0, 1) := by decide +kernel
theorem d_M_init_62 : decode c_M_init 62 = .ok (.sipush 1536, 3) := by decide +kernel
theorem d_M_init_65 : decode c_M_init 65 = .ok (.newarray .int, 2) := by decide +kernel
theorem d_M_init_67 : decode c_M_init 67 = .ok (.putfield 33, 3) := by decide +kernel
theorem d_M_init_70 : decode c_M_init 70 = .ok (.aload_n 0, 1) := by decide +kernel
theorem d_M_init_71 : decode c_M_init 71 = .ok (.bipush 16, 2) := by decide +kernel
theorem d_M_init_73 : decode c_M_init 73 = .ok (.newarray .int, 2) := by decide +kernel
theorem d_M_init_75 : decode c_M_init 75 = .ok (.putfield 36, 3) := by decide +kernel
theorem d_M_init_78 : decode c_M_init 78 = .ok (.aload_n 0, 1) := by decide +kernel
theorem d_M_init_79 : decode c_M_init 79 = .ok (.bipush 96, 2) := by decide +kernel
theorem d_M_init_81 : decode c_M_init 81 = .ok (.newarray .long, 2) := by decide +kernel
theorem d_M_init_83 : decode c_M_init 83 = .ok (.putfield 39, 3) := by decide +kernel
theorem d_M_init_86 : decode c_M_init 86 = .ok (.aload_n 0, 1) := by decide +kernel
theorem d_M_init_87 : decode c_M_init 87 = .ok (.bipush 96, 2) := by decide +kernel
theorem d_M_init_89 : decode c_M_init 89 = .ok (.newarray .long, 2) := by decide +kernel
theorem d_M_init_91 : decode c_M_init 91 = .ok (.putfield 42, 3) := by decide +kernel
theorem d_M_init_94 : decode c_M_init 94 = .ok (.aload_n 0, 1) := by decide +kernel
theorem d_M_init_95 : decode c_M_init 95 = .ok (.bipush 48, 2) := by decide +kernel
theorem d_M_init_97 : decode c_M_init 97 = .ok (.newarray .int, 2) := by decide +kernel
theorem d_M_init_99 : decode c_M_init 99 = .ok (.putfield 45, 3) := by decide +kernel
theorem d_M_init_102 : decode c_M_init 102 = .ok (.aload_n 0, 1) := by decide +kernel
theorem d_M_init_103 : decode c_M_init 103 = .ok (.iload_n 1, 1) := by decide +kernel
theorem d_M_init_104 : decode c_M_init 104 = .ok (.iconst 3, 1) := by decide +kernel
theorem d_M_init_105 : decode c_M_init 105 = .ok (.irem, 1) := by decide +kernel
theorem d_M_init_106 : decode c_M_init 106 = .ok (.iconst 3, 1) := by decide +kernel
theorem d_M_init_107 : decode c_M_init 107 = .ok (.iadd, 1) := by decide +kernel
theorem d_M_init_108 : decode c_M_init 108 = .ok (.iconst 3, 1) := by decide +kernel
theorem d_M_init_109 : decode c_M_init 109 = .ok (.irem, 1) := by decide +kernel
theorem d_M_init_110 : decode c_M_init 110 = .ok (.putfield 48, 3) := by decide +kernel
theorem d_M_init_113 : decode c_M_init 113 = .ok (.return_, 1) := by decide +kernel
theorem d_M_thrown_0 : decode c_M_thrown 0 = .ok (.aload_n 0, 1) := by decide +kernel
theorem d_M_thrown_1 : decode c_M_thrown 1 = .ok (.getfield 52, 3) := by decide +kernel
theorem d_M_thrown_4 : decode c_M_thrown 4 = .ok (.ireturn, 1) := by decide +kernel
theorem d_M_fails_0 : decode c_M_fails 0 = .ok (.aload_n 0, 1) := by decide +kernel
theorem d_M_fails_1 : decode c_M_fails 1 = .ok (.iload_n 1, 1) := by decide +kernel
theorem d_M_fails_2 : decode c_M_fails 2 = .ok (.ifCond .ne 7, 3) := by decide +kernel
theorem d_M_fails_5 : decode c_M_fails 5 = .ok (.iconst 1, 1) := by decide +kernel
theorem d_M_fails_6 : decode c_M_fails 6 = .ok (.goto 12, 3) := by decide +kernel
theorem d_M_fails_9 : decode c_M_fails 9 = .ok (.iload_n 2, 1) := by decide +kernel
theorem d_M_fails_10 : decode c_M_fails 10 = .ok (.ifCond .ne 7, 3) := by decide +kernel
theorem d_M_fails_13 : decode c_M_fails 13 = .ok (.iconst 2, 1) := by decide +kernel
theorem d_M_fails_14 : decode c_M_fails 14 = .ok (.goto 4, 3) := by decide +kernel
theorem d_M_fails_17 : decode c_M_fails 17 = .ok (.iconst 0, 1) := by decide +kernel
theorem d_M_fails_18 : decode c_M_fails 18 = .ok (.putfield 52, 3) := by decide +kernel
theorem d_M_fails_21 : decode c_M_fails 21 = .ok (.aload_n 0, 1) := by decide +kernel
theorem d_M_fails_22 : decode c_M_fails 22 = .ok (.getfield 52, 3) := by decide +kernel
theorem d_M_fails_25 : decode c_M_fails 25 = .ok (.ifCond .le 7, 3) := by decide +kernel
theorem d_M_fails_28 : decode c_M_fails 28 = .ok (.iconst 1, 1) := by decide +kernel
theorem d_M_fails_29 : decode c_M_fails 29 = .ok (.goto 4, 3) := by decide +kernel
theorem d_M_fails_32 : decode c_M_fails 32 = .ok (.iconst 0, 1) := by decide +kernel
theorem d_M_fails_33 : decode c_M_fails 33 = .ok (.ireturn, 1) := by decide +kernel
theorem d_M_isSymbol_0 : decode c_M_isSymbol 0 = .ok (.iload_n 0, 1) := by decide +kernel
theorem d_M_isSymbol_1 : decode c_M_isSymbol 1 = .ok (.ifCond .lt 13, 3) := by decide +kernel
theorem d_M_isSymbol_4 : decode c_M_isSymbol 4 = .ok (.iload_n 0, 1) := by decide +kernel
theorem d_M_isSymbol_5 : decode c_M_isSymbol 5 = .ok (.bipush 48, 2) := by decide +kernel
theorem d_M_isSymbol_7 : decode c_M_isSymbol 7 = .ok (.if_icmp .ge 7, 3) := by decide +kernel
theorem d_M_isSymbol_10 : decode c_M_isSymbol 10 = .ok (.iconst 1, 1) := by decide +kernel
theorem d_M_isSymbol_11 : decode c_M_isSymbol 11 = .ok (.goto 4, 3) := by decide +kernel
theorem d_M_isSymbol_14 : decode c_M_isSymbol 14 = .ok (.iconst 0, 1) := by decide +kernel
theorem d_M_isSymbol_15 : decode c_M_isSymbol 15 = .ok (.ireturn, 1) := by decide +kernel
theorem d_M_count_0 : decode c_M_count 0 = .ok (.aload_n 0, 1) := by decide +kernel
theorem d_M_count_1 : decode c_M_count 1 = .ok (.iload_n 1, 1) := by decide +kernel
theorem d_M_count_2 : decode c_M_count 2 = .ok (.invokestatic 55, 3) := by decide +kernel
theorem d_M_count_5 : decode c_M_count 5 = .ok (.lload_n 2, 1) := by decide +kernel
theorem d_M_count_6 : decode c_M_count 6 = .ok (.lconst 0, 1) := by decide +kernel
theorem d_M_count_7 : decode c_M_count 7 = .ok (.lcmp, 1) := by decide +kernel
theorem d_M_count_8 : decode c_M_count 8 = .ok (.ifCond .lt 15, 3) := by decide +kernel
theorem d_M_count_11 : decode c_M_count 11 = .ok (.lload_n 2, 1) := by decide +kernel
theorem d_M_count_12 : decode c_M_count 12 = .ok (.ldc2_w 59, 3) := by decide +kernel
theorem d_M_count_15 : decode c_M_count 15 = .ok (.lcmp, 1) := by decide +kernel
theorem d_M_count_16 : decode c_M_count 16 = .ok (.ifCond .gt 7, 3) := by decide +kernel
theorem d_M_count_19 : decode c_M_count 19 = .ok (.iconst 1, 1) := by decide +kernel
theorem d_M_count_20 : decode c_M_count 20 = .ok (.goto 4, 3) := by decide +kernel
theorem d_M_count_23 : decode c_M_count 23 = .ok (.iconst 0, 1) := by decide +kernel
theorem d_M_count_24 : decode c_M_count 24 = .ok (.invokevirtual 61, 3) := by decide +kernel
theorem d_M_count_27 : decode c_M_count 27 = .ok (.ifCond .eq 5, 3) := by decide +kernel
theorem d_M_count_30 : decode c_M_count 30 = .ok (.iconst 0, 1) := by decide +kernel
theorem d_M_count_31 : decode c_M_count 31 = .ok (.ireturn, 1) := by decide +kernel
theorem d_M_count_32 : decode c_M_count 32 = .ok (.aload_n 0, 1) := by decide +kernel
theorem d_M_count_33 : decode c_M_count 33 = .ok (.getfield 7, 3) := by decide +kernel
theorem d_M_count_36 : decode c_M_count 36 = .ok (.iload_n 1, 1) := by decide +kernel
theorem d_M_count_37 : decode c_M_count 37 = .ok (.laload, 1) := by decide +kernel
theorem d_M_count_38 : decode c_M_count 38 = .ok (.lload_n 2, 1) := by decide +kernel
theorem d_M_count_39 : decode c_M_count 39 = .ok (.lcmp, 1) := by decide +kernel
theorem d_M_count_40 : decode c_M_count 40 = .ok (.ifCond .eq 7, 3) := by decide +kernel
theorem d_M_count_43 : decode c_M_count 43 = .ok (.iconst 1, 1) := by decide +kernel
theorem d_M_count_44 : decode c_M_count 44 = .ok (.goto 4, 3) := by decide +kernel
theorem d_M_count_47 : decode c_M_count 47 = .ok (.iconst 0, 1) := by decide +kernel
theorem d_M_count_48 : decode c_M_count 48 = .ok (.istore 4, 2) := by decide +kernel
theorem d_M_count_50 : decode c_M_count 50 = .ok (.aload_n 0, 1) := by decide +kernel
theorem d_M_count_51 : decode c_M_count 51 = .ok (.getfield 7, 3) := by decide +kernel
theorem d_M_count_54 : decode c_M_count 54 = .ok (.iload_n 1, 1) := by decide +kernel
theorem d_M_count_55 : decode c_M_count 55 = .ok (.lload_n 2, 1) := by decide +kernel
theorem d_M_count_56 : decode c_M_count 56 = .ok (.lastore, 1) := by decide +kernel
theorem d_M_count_57 : decode c_M_count 57 = .ok (.iload 4, 2) := by decide +kernel
theorem d_M_count_59 : decode c_M_count 59 = .ok (.ireturn, 1) := by decide +kernel
theorem d_M_sort_0 : decode c_M_sort 0 = .ok (.iconst 0, 1) := by decide +kernel
theorem d_M_sort_1 : decode c_M_sort 1 = .ok (.istore_n 1, 1) := by decide +kernel
theorem d_M_sort_2 : decode c_M_sort 2 = .ok (.bipush 47, 2) := by decide +kernel
theorem d_M_sort_4 : decode c_M_sort 4 = .ok (.istore_n 2, 1) := by decide +kernel
theorem d_M_sort_5 : decode c_M_sort 5 = .ok (.iload_n 2, 1) := by decide +kernel
theorem d_M_sort_6 : decode c_M_sort 6 = .ok (.ifCond .lt 79, 3) := by decide +kernel
theorem d_M_sort_9 : decode c_M_sort 9 = .ok (.aload_n 0, 1) := by decide +kernel
theorem d_M_sort_10 : decode c_M_sort 10 = .ok (.getfield 7, 3) := by decide +kernel
theorem d_M_sort_13 : decode c_M_sort 13 = .ok (.iload_n 2, 1) := by decide +kernel
theorem d_M_sort_14 : decode c_M_sort 14 = .ok (.laload, 1) := by decide +kernel
theorem d_M_sort_15 : decode c_M_sort 15 = .ok (.lconst 0, 1) := by decide +kernel
theorem d_M_sort_16 : decode c_M_sort 16 = .ok (.lcmp, 1) := by decide +kernel
theorem d_M_sort_17 : decode c_M_sort 17 = .ok (.ifCond .le 62, 3) := by decide +kernel
theorem d_M_sort_20 : decode c_M_sort 20 = .ok (.iload_n 1, 1) := by decide +kernel
theorem d_M_sort_21 : decode c_M_sort 21 = .ok (.istore_n 3, 1) := by decide +kernel
theorem d_M_sort_22 : decode c_M_sort 22 = .ok (.iload_n 3, 1) := by decide +kernel
theorem d_M_sort_23 : decode c_M_sort 23 = .ok (.ifCond .le 46, 3) := by decide +kernel
theorem d_M_sort_26 : decode c_M_sort 26 = .ok (.aload_n 0, 1) := by decide +kernel
theorem d_M_sort_27 : decode c_M_sort 27 = .ok (.getfield 7, 3) := by decide +kernel
theorem d_M_sort_30 : decode c_M_sort 30 = .ok (.aload_n 0, 1) := by decide +kernel
theorem d_M_sort_31 : decode c_M_sort 31 = .ok (.getfield 30, 3) := by decide +kernel
theorem d_M_sort_34 : decode c_M_sort 34 = .ok (.iload_n 3, 1) := by decide +kernel
theorem d_M_sort_35 : decode c_M_sort 35 = .ok (.iconst 1, 1) := by decide +kernel
theorem d_M_sort_36 : decode c_M_sort 36 = .ok (.isub, 1) := by decide +kernel
theorem d_M_sort_37 : decode c_M_sort 37 = .ok (.iaload, 1) := by decide +kernel
theorem d_M_sort_38 : decode c_M_sort 38 = .ok (.laload, 1) := by decide +kernel
theorem d_M_sort_39 : decode c_M_sort 39 = .ok (.aload_n 0, 1) := by decide +kernel
theorem d_M_sort_40 : decode c_M_sort 40 = .ok (.getfield 7, 3) := by decide +kernel
theorem d_M_sort_43 : decode c_M_sort 43 = .ok (.iload_n 2, 1) := by decide +kernel
theorem d_M_sort_44 : decode c_M_sort 44 = .ok (.laload, 1) := by decide +kernel
theorem d_M_sort_45 : decode c_M_sort 45 = .ok (.lcmp, 1) := by decide +kernel
theorem d_M_sort_46 : decode c_M_sort 46 = .ok (.ifCond .le 23, 3) := by decide +kernel
theorem d_M_sort_49 : decode c_M_sort 49 = .ok (.aload_n 0, 1) := by decide +kernel
theorem d_M_sort_50 : decode c_M_sort 50 = .ok (.getfield 30, 3) := by decide +kernel
theorem d_M_sort_53 : decode c_M_sort 53 = .ok (.iload_n 3, 1) := by decide +kernel
theorem d_M_sort_54 : decode c_M_sort 54 = .ok (.aload_n 0, 1) := by decide +kernel
theorem d_M_sort_55 : decode c_M_sort 55 = .ok (.getfield 30, 3) := by decide +kernel
theorem d_M_sort_58 : decode c_M_sort 58 = .ok (.iload_n 3, 1) := by decide +kernel
theorem d_M_sort_59 : decode c_M_sort 59 = .ok (.iconst 1, 1) := by decide +kernel
theorem d_M_sort_60 : decode c_M_sort 60 = .ok (.isub, 1) := by decide +kernel
theorem d_M_sort_61 : decode c_M_sort 61 = .ok (.iaload, 1) := by decide +kernel
theorem d_M_sort_62 : decode c_M_sort 62 = .ok (.iastore, 1) := by decide +kernel
theorem d_M_sort_63 : decode c_M_sort 63 = .ok (.iinc 3 (-1), 3) := by decide +kernel
theorem d_M_sort_66 : decode c_M_sort 66 = .ok (.goto (-44), 3) := by decide +kernel
theorem d_M_sort_69 : decode c_M_sort 69 = .ok (.aload_n 0, 1) := by decide +kernel
theorem d_M_sort_70 : decode c_M_sort 70 = .ok (.getfield 30, 3) := by decide +kernel
theorem d_M_sort_73 : decode c_M_sort 73 = .ok (.iload_n 3, 1) := by decide +kernel
theorem d_M_sort_74 : decode c_M_sort 74 = .ok (.iload_n 2, 1) := by decide +kernel
theorem d_M_sort_75 : decode c_M_sort 75 = .ok (.iastore, 1) := by decide +kernel
theorem d_M_sort_76 : decode c_M_sort 76 = .ok (.iinc 1 1, 3) := by decide +kernel
theorem d_M_sort_79 : decode c_M_sort 79 = .ok (.iinc 2 (-1), 3) := by decide +kernel
theorem d_M_sort_82 : decode c_M_sort 82 = .ok (.goto (-77), 3) := by decide +kernel
theorem d_M_sort_85 : decode c_M_sort 85 = .ok (.iload_n 1, 1) := by decide +kernel
theorem d_M_sort_86 : decode c_M_sort 86 = .ok (.ireturn, 1) := by decide +kernel
theorem d_M_pack_0 : decode c_M_pack 0 = .ok (.iload_n 1, 1) := by decide +kernel
theorem d_M_pack_1 : decode c_M_pack 1 = .ok (.ifCond .ne 7, 3) := by decide +kernel
theorem d_M_pack_4 : decode c_M_pack 4 = .ok (.iconst 0, 1) := by decide +kernel
theorem d_M_pack_5 : decode c_M_pack 5 = .ok (.goto 13, 3) := by decide +kernel
theorem d_M_pack_8 : decode c_M_pack 8 = .ok (.aload_n 0, 1) := by decide +kernel
theorem d_M_pack_9 : decode c_M_pack 9 = .ok (.getfield 36, 3) := by decide +kernel
theorem d_M_pack_12 : decode c_M_pack 12 = .ok (.iload_n 1, 1) := by decide +kernel
theorem d_M_pack_13 : decode c_M_pack 13 = .ok (.iconst 1, 1) := by decide +kernel
theorem d_M_pack_14 : decode c_M_pack 14 = .ok (.isub, 1) := by decide +kernel
theorem d_M_pack_15 : decode c_M_pack 15 = .ok (.iaload, 1) := by decide +kernel
theorem d_M_pack_16 : decode c_M_pack 16 = .ok (.iconst 2, 1) := by decide +kernel
theorem d_M_pack_17 : decode c_M_pack 17 = .ok (.idiv, 1) := by decide +kernel
theorem d_M_pack_18 : decode c_M_pack 18 = .ok (.istore_n 3, 1) := by decide +kernel
theorem d_M_pack_19 : decode c_M_pack 19 = .ok (.iconst 0, 1) := by decide +kernel
theorem d_M_pack_20 : decode c_M_pack 20 = .ok (.istore 4, 2) := by decide +kernel
theorem d_M_pack_22 : decode c_M_pack 22 = .ok (.iconst 0, 1) := by decide +kernel
theorem d_M_pack_23 : decode c_M_pack 23 = .ok (.istore 5, 2) := by decide +kernel
theorem d_M_pack_25 : decode c_M_pack 25 = .ok (.iload 4, 2) := by decide +kernel
theorem d_M_pack_27 : decode c_M_pack 27 = .ok (.iload_n 2, 1) := by decide +kernel
theorem d_M_pack_28 : decode c_M_pack 28 = .ok (.if_icmp .lt 9, 3) := by decide +kernel
theorem d_M_pack_31 : decode c_M_pack 31 = .ok (.iload 5, 2) := by decide +kernel
theorem d_M_pack_33 : decode c_M_pack 33 = .ok (.iload_n 3, 1) := by decide +kernel
theorem d_M_pack_34 : decode c_M_pack 34 = .ok (.if_icmp .ge 169, 3) := by decide +kernel
theorem d_M_pack_37 : decode c_M_pack 37 = .ok (.iload 5, 2) := by decide +kernel
theorem d_M_pack_39 : decode c_M_pack 39 = .ok (.iload_n 3, 1) := by decide +kernel
theorem d_M_pack_40 : decode c_M_pack 40 = .ok (.if_icmp .ge 27, 3) := by decide +kernel
theorem d_M_pack_43 : decode c_M_pack 43 = .ok (.aload_n 0, 1) := by decide +kernel
theorem d_M_pack_44 : decode c_M_pack 44 = .ok (.getfield 42, 3) := by decide +kernel
theorem d_M_pack_47 : decode c_M_pack 47 = .ok (.iconst 2, 1) := by decide +kernel
theorem d_M_pack_48 : decode c_M_pack 48 = .ok (.iload 5, 2) := by decide +kernel
theorem d_M_pack_50 : decode c_M_pack 50 = .ok (.imul, 1) := by decide +kernel
theorem d_M_pack_51 : decode c_M_pack 51 = .ok (.laload, 1) := by decide +kernel
theorem d_M_pack_52 : decode c_M_pack 52 = .ok (.aload_n 0, 1) := by decide +kernel
theorem d_M_pack_53 : decode c_M_pack 53 = .ok (.getfield 42, 3) := by decide +kernel
theorem d_M_pack_56 : decode c_M_pack 56 = .ok (.iconst 2, 1) := by decide +kernel
theorem d_M_pack_57 : decode c_M_pack 57 = .ok (.iload 5, 2) := by decide +kernel
theorem d_M_pack_59 : decode c_M_pack 59 = .ok (.imul, 1) := by decide +kernel
theorem d_M_pack_60 : decode c_M_pack 60 = .ok (.iconst 1, 1) := by decide +kernel
theorem d_M_pack_61 : decode c_M_pack 61 = .ok (.iadd, 1) := by decide +kernel
theorem d_M_pack_62 : decode c_M_pack 62 = .ok (.laload, 1) := by decide +kernel
theorem d_M_pack_63 : decode c_M_pack 63 = .ok (.ladd, 1) := by decide +kernel
theorem d_M_pack_64 : decode c_M_pack 64 = .ok (.goto 4, 3) := by decide +kernel
theorem d_M_pack_67 : decode c_M_pack 67 = .ok (.lconst 0, 1) := by decide +kernel
theorem d_M_pack_68 : decode c_M_pack 68 = .ok (.lstore 6, 2) := by decide +kernel
theorem d_M_pack_70 : decode c_M_pack 70 = .ok (.iload 4, 2) := by decide +kernel
theorem d_M_pack_72 : decode c_M_pack 72 = .ok (.iload_n 2, 1) := by decide +kernel
theorem d_M_pack_73 : decode c_M_pack 73 = .ok (.if_icmp .ge 31, 3) := by decide +kernel
theorem d_M_pack_76 : decode c_M_pack 76 = .ok (.iload 5, 2) := by decide +kernel
theorem d_M_pack_78 : decode c_M_pack 78 = .ok (.iload_n 3, 1) := by decide +kernel
theorem d_M_pack_79 : decode c_M_pack 79 = .ok (.if_icmp .eq 21, 3) := by decide +kernel
theorem d_M_pack_82 : decode c_M_pack 82 = .ok (.aload_n 0, 1) := by decide +kernel
theorem d_M_pack_83 : decode c_M_pack 83 = .ok (.getfield 7, 3) := by decide +kernel
theorem d_M_pack_86 : decode c_M_pack 86 = .ok (.aload_n 0, 1) := by decide +kernel
theorem d_M_pack_87 : decode c_M_pack 87 = .ok (.getfield 30, 3) := by decide +kernel
theorem d_M_pack_90 : decode c_M_pack 90 = .ok (.iload 4, 2) := by decide +kernel
theorem d_M_pack_92 : decode c_M_pack 92 = .ok (.iaload, 1) := by decide +kernel
theorem d_M_pack_93 : decode c_M_pack 93 = .ok (.laload, 1) := by decide +kernel
theorem d_M_pack_94 : decode c_M_pack 94 = .ok (.lload 6, 2) := by decide +kernel
theorem d_M_pack_96 : decode c_M_pack 96 = .ok (.lcmp, 1) := by decide +kernel
theorem d_M_pack_97 : decode c_M_pack 97 = .ok (.ifCond .gt 7, 3) := by decide +kernel
theorem d_M_pack_100 : decode c_M_pack 100 = .ok (.iconst 1, 1) := by decide +kernel
theorem d_M_pack_101 : decode c_M_pack 101 = .ok (.goto 4, 3) := by decide +kernel
theorem d_M_pack_104 : decode c_M_pack 104 = .ok (.iconst 0, 1) := by decide +kernel
theorem d_M_pack_105 : decode c_M_pack 105 = .ok (.istore 8, 2) := by decide +kernel
theorem d_M_pack_107 : decode c_M_pack 107 = .ok (.aload_n 0, 1) := by decide +kernel
theorem d_M_pack_108 : decode c_M_pack 108 = .ok (.getfield 39, 3) := by decide +kernel
theorem d_M_pack_111 : decode c_M_pack 111 = .ok (.iload 4, 2) := by decide +kernel
theorem d_M_pack_113 : decode c_M_pack 113 = .ok (.iload 5, 2) := by decide +kernel
theorem d_M_pack_115 : decode c_M_pack 115 = .ok (.iadd, 1) := by decide +kernel
theorem d_M_pack_116 : decode c_M_pack 116 = .ok (.iload 8, 2) := by decide +kernel
theorem d_M_pack_118 : decode c_M_pack 118 = .ok (.ifCond .eq 18, 3) := by decide +kernel
theorem d_M_pack_121 : decode c_M_pack 121 = .ok (.aload_n 0, 1) := by decide +kernel
theorem d_M_pack_122 : decode c_M_pack 122 = .ok (.getfield 7, 3) := by decide +kernel
theorem d_M_pack_125 : decode c_M_pack 125 = .ok (.aload_n 0, 1) := by decide +kernel
theorem d_M_pack_126 : decode c_M_pack 126 = .ok (.getfield 30, 3) := by decide +kernel
theorem d_M_pack_129 : decode c_M_pack 129 = .ok (.iload 4, 2) := by decide +kernel
theorem d_M_pack_131 : decode c_M_pack 131 = .ok (.iaload, 1) := by decide +kernel
theorem d_M_pack_132 : decode c_M_pack 132 = .ok (.laload, 1) := by decide +kernel
theorem d_M_pack_133 : decode c_M_pack 133 = .ok (.goto 5, 3) := by decide +kernel
theorem d_M_pack_136 : decode c_M_pack 136 = .ok (.lload 6, 2) := by decide +kernel
theorem d_M_pack_138 : decode c_M_pack 138 = .ok (.lastore, 1) := by decide +kernel
theorem d_M_pack_139 : decode c_M_pack 139 = .ok (.aload_n 0, 1) := by decide +kernel
theorem d_M_pack_140 : decode c_M_pack 140 = .ok (.getfield 33, 3) := by decide +kernel
theorem d_M_pack_143 : decode c_M_pack 143 = .ok (.bipush 96, 2) := by decide +kernel
theorem d_M_pack_145 : decode c_M_pack 145 = .ok (.iload_n 1, 1) := by decide +kernel
theorem d_M_pack_146 : decode c_M_pack 146 = .ok (.imul, 1) := by decide +kernel
theorem d_M_pack_147 : decode c_M_pack 147 = .ok (.iload 4, 2) := by decide +kernel
theorem d_M_pack_149 : decode c_M_pack 149 = .ok (.iadd, 1) := by decide +kernel
theorem d_M_pack_150 : decode c_M_pack 150 = .ok (.iload 5, 2) := by decide +kernel
theorem d_M_pack_152 : decode c_M_pack 152 = .ok (.iadd, 1) := by decide +kernel
theorem d_M_pack_153 : decode c_M_pack 153 = .ok (.iload 8, 2) := by decide +kernel
theorem d_M_pack_155 : decode c_M_pack 155 = .ok (.ifCond .eq 13, 3) := by decide +kernel
theorem d_M_pack_158 : decode c_M_pack 158 = .ok (.aload_n 0, 1) := by decide +kernel
theorem d_M_pack_159 : decode c_M_pack 159 = .ok (.getfield 30, 3) := by decide +kernel
theorem d_M_pack_162 : decode c_M_pack 162 = .ok (.iload 4, 2) := by decide +kernel
theorem d_M_pack_164 : decode c_M_pack 164 = .ok (.iaload, 1) := by decide +kernel
theorem d_M_pack_165 : decode c_M_pack 165 = .ok (.goto 4, 3) := by decide +kernel
theorem d_M_pack_168 : decode c_M_pack 168 = .ok (.iconst (-1), 1) := by decide +kernel
theorem d_M_pack_169 : decode c_M_pack 169 = .ok (.iastore, 1) := by decide +kernel
theorem d_M_pack_170 : decode c_M_pack 170 = .ok (.iload 4, 2) := by decide +kernel
theorem d_M_pack_172 : decode c_M_pack 172 = .ok (.iload 8, 2) := by decide +kernel
theorem d_M_pack_174 : decode c_M_pack 174 = .ok (.ifCond .eq 7, 3) := by decide +kernel
theorem d_M_pack_177 : decode c_M_pack 177 = .ok (.iconst 1, 1) := by decide +kernel
theorem d_M_pack_178 : decode c_M_pack 178 = .ok (.goto 4, 3) := by decide +kernel
theorem d_M_pack_181 : decode c_M_pack 181 = .ok (.iconst 0, 1) := by decide +kernel
theorem d_M_pack_182 : decode c_M_pack 182 = .ok (.iadd, 1) := by decide +kernel
theorem d_M_pack_183 : decode c_M_pack 183 = .ok (.istore 4, 2) := by decide +kernel
theorem d_M_pack_185 : decode c_M_pack 185 = .ok (.iload 5, 2) := by decide +kernel
theorem d_M_pack_187 : decode c_M_pack 187 = .ok (.iload 8, 2) := by decide +kernel
theorem d_M_pack_189 : decode c_M_pack 189 = .ok (.ifCond .eq 7, 3) := by decide +kernel
theorem d_M_pack_192 : decode c_M_pack 192 = .ok (.iconst 0, 1) := by decide +kernel
theorem d_M_pack_193 : decode c_M_pack 193 = .ok (.goto 4, 3) := by decide +kernel
theorem d_M_pack_196 : decode c_M_pack 196 = .ok (.iconst 1, 1) := by decide +kernel
theorem d_M_pack_197 : decode c_M_pack 197 = .ok (.iadd, 1) := by decide +kernel
theorem d_M_pack_198 : decode c_M_pack 198 = .ok (.istore 5, 2) := by decide +kernel
theorem d_M_pack_200 : decode c_M_pack 200 = .ok (.goto (-175), 3) := by decide +kernel
theorem d_M_pack_203 : decode c_M_pack 203 = .ok (.aload_n 0, 1) := by decide +kernel
theorem d_M_pack_204 : decode c_M_pack 204 = .ok (.getfield 36, 3) := by decide +kernel
theorem d_M_pack_207 : decode c_M_pack 207 = .ok (.iload_n 1, 1) := by decide +kernel
theorem d_M_pack_208 : decode c_M_pack 208 = .ok (.iload_n 2, 1) := by decide +kernel
theorem d_M_pack_209 : decode c_M_pack 209 = .ok (.iload_n 3, 1) := by decide +kernel
theorem d_M_pack_210 : decode c_M_pack 210 = .ok (.iadd, 1) := by decide +kernel
theorem d_M_pack_211 : decode c_M_pack 211 = .ok (.iastore, 1) := by decide +kernel
theorem d_M_pack_212 : decode c_M_pack 212 = .ok (.iconst 0, 1) := by decide +kernel
theorem d_M_pack_213 : decode c_M_pack 213 = .ok (.istore 6, 2) := by decide +kernel
theorem d_M_pack_215 : decode c_M_pack 215 = .ok (.iload 6, 2) := by decide +kernel
theorem d_M_pack_217 : decode c_M_pack 217 = .ok (.aload_n 0, 1) := by decide +kernel
theorem d_M_pack_218 : decode c_M_pack 218 = .ok (.getfield 36, 3) := by decide +kernel
theorem d_M_pack_221 : decode c_M_pack 221 = .ok (.iload_n 1, 1) := by decide +kernel
theorem d_M_pack_222 : decode c_M_pack 222 = .ok (.iaload, 1) := by decide +kernel
theorem d_M_pack_223 : decode c_M_pack 223 = .ok (.if_icmp .ge 23, 3) := by decide +kernel
theorem d_M_pack_226 : decode c_M_pack 226 = .ok (.aload_n 0, 1) := by decide +kernel
theorem d_M_pack_227 : decode c_M_pack 227 = .ok (.getfield 42, 3) := by decide +kernel
theorem d_M_pack_230 : decode c_M_pack 230 = .ok (.iload 6, 2) := by decide +kernel
theorem d_M_pack_232 : decode c_M_pack 232 = .ok (.aload_n 0, 1) := by decide +kernel
theorem d_M_pack_233 : decode c_M_pack 233 = .ok (.getfield 39, 3) := by decide +kernel
theorem d_M_pack_236 : decode c_M_pack 236 = .ok (.iload 6, 2) := by decide +kernel
theorem d_M_pack_238 : decode c_M_pack 238 = .ok (.laload, 1) := by decide +kernel
theorem d_M_pack_239 : decode c_M_pack 239 = .ok (.lastore, 1) := by decide +kernel
theorem d_M_pack_240 : decode c_M_pack 240 = .ok (.iinc 6 1, 3) := by decide +kernel
theorem d_M_pack_243 : decode c_M_pack 243 = .ok (.goto (-28), 3) := by decide +kernel
theorem d_M_pack_246 : decode c_M_pack 246 = .ok (.return_, 1) := by decide +kernel
theorem d_M_make_0 : decode c_M_make 0 = .ok (.aload_n 0, 1) := by decide +kernel
theorem d_M_make_1 : decode c_M_make 1 = .ok (.iload_n 1, 1) := by decide +kernel
theorem d_M_make_2 : decode c_M_make 2 = .ok (.iconst 1, 1) := by decide +kernel
theorem d_M_make_3 : decode c_M_make 3 = .ok (.if_icmp .lt 13, 3) := by decide +kernel
theorem d_M_make_6 : decode c_M_make 6 = .ok (.iload_n 1, 1) := by decide +kernel
theorem d_M_make_7 : decode c_M_make 7 = .ok (.bipush 16, 2) := by decide +kernel
theorem d_M_make_9 : decode c_M_make 9 = .ok (.if_icmp .gt 7, 3) := by decide +kernel
theorem d_M_make_12 : decode c_M_make 12 = .ok (.iconst 1, 1) := by decide +kernel
theorem d_M_make_13 : decode c_M_make 13 = .ok (.goto 4, 3) := by decide +kernel
theorem d_M_make_16 : decode c_M_make 16 = .ok (.iconst 0, 1) := by decide +kernel
theorem d_M_make_17 : decode c_M_make 17 = .ok (.iconst 1, 1) := by decide +kernel
theorem d_M_make_18 : decode c_M_make 18 = .ok (.invokevirtual 61, 3) := by decide +kernel
theorem d_M_make_21 : decode c_M_make 21 = .ok (.ifCond .eq 5, 3) := by decide +kernel
theorem d_M_make_24 : decode c_M_make 24 = .ok (.iconst 0, 1) := by decide +kernel
theorem d_M_make_25 : decode c_M_make 25 = .ok (.ireturn, 1) := by decide +kernel
theorem d_M_make_26 : decode c_M_make 26 = .ok (.aload_n 0, 1) := by decide +kernel
theorem d_M_make_27 : decode c_M_make 27 = .ok (.invokevirtual 65, 3) := by decide +kernel
theorem d_M_make_30 : decode c_M_make 30 = .ok (.istore_n 2, 1) := by decide +kernel
theorem d_M_make_31 : decode c_M_make 31 = .ok (.iload_n 2, 1) := by decide +kernel
theorem d_M_make_32 : decode c_M_make 32 = .ok (.iconst 1, 1) := by decide +kernel
theorem d_M_make_33 : decode c_M_make 33 = .ok (.iload_n 1, 1) := by decide +kernel
theorem d_M_make_34 : decode c_M_make 34 = .ok (.ishl, 1) := by decide +kernel
theorem d_M_make_35 : decode c_M_make 35 = .ok (.if_icmp .le 5, 3) := by decide +kernel
theorem d_M_make_38 : decode c_M_make 38 = .ok (.iconst (-1), 1) := by decide +kernel
theorem d_M_make_39 : decode c_M_make 39 = .ok (.ireturn, 1) := by decide +kernel
theorem d_M_make_40 : decode c_M_make 40 = .ok (.iconst 0, 1) := by decide +kernel
theorem d_M_make_41 : decode c_M_make 41 = .ok (.istore_n 3, 1) := by decide +kernel
theorem d_M_make_42 : decode c_M_make 42 = .ok (.iload_n 3, 1) := by decide +kernel
theorem d_M_make_43 : decode c_M_make 43 = .ok (.bipush 48, 2) := by decide +kernel
theorem d_M_make_45 : decode c_M_make 45 = .ok (.if_icmp .ge 23, 3) := by decide +kernel
theorem d_M_make_48 : decode c_M_make 48 = .ok (.aload_n 0, 1) := by decide +kernel
theorem d_M_make_49 : decode c_M_make 49 = .ok (.getfield 13, 3) := by decide +kernel
theorem d_M_make_52 : decode c_M_make 52 = .ok (.iload_n 3, 1) := by decide +kernel
theorem d_M_make_53 : decode c_M_make 53 = .ok (.iconst 0, 1) := by decide +kernel
theorem d_M_make_54 : decode c_M_make 54 = .ok (.iastore, 1) := by decide +kernel
theorem d_M_make_55 : decode c_M_make 55 = .ok (.aload_n 0, 1) := by decide +kernel
theorem d_M_make_56 : decode c_M_make 56 = .ok (.getfield 17, 3) := by decide +kernel
theorem d_M_make_59 : decode c_M_make 59 = .ok (.iload_n 3, 1) := by decide +kernel
theorem d_M_make_60 : decode c_M_make 60 = .ok (.iconst 0, 1) := by decide +kernel
theorem d_M_make_61 : decode c_M_make 61 = .ok (.bastore, 1) := by decide +kernel
theorem d_M_make_62 : decode c_M_make 62 = .ok (.iinc 3 1, 3) := by decide +kernel
theorem d_M_make_65 : decode c_M_make 65 = .ok (.goto (-23), 3) := by decide +kernel
theorem d_M_make_68 : decode c_M_make 68 = .ok (.iload_n 2, 1) := by decide +kernel
theorem d_M_make_69 : decode c_M_make 69 = .ok (.iconst 1, 1) := by decide +kernel
theorem d_M_make_70 : decode c_M_make 70 = .ok (.if_icmp .ne 17, 3) := by decide +kernel
theorem d_M_make_73 : decode c_M_make 73 = .ok (.aload_n 0, 1) := by decide +kernel
theorem d_M_make_74 : decode c_M_make 74 = .ok (.getfield 13, 3) := by decide +kernel
theorem d_M_make_77 : decode c_M_make 77 = .ok (.aload_n 0, 1) := by decide +kernel
theorem d_M_make_78 : decode c_M_make 78 = .ok (.getfield 30, 3) := by decide +kernel
theorem d_M_make_81 : decode c_M_make 81 = .ok (.iconst 0, 1) := by decide +kernel
theorem d_M_make_82 : decode c_M_make 82 = .ok (.iaload, 1) := by decide +kernel
theorem d_M_make_83 : decode c_M_make 83 = .ok (.iconst 1, 1) := by decide +kernel
theorem d_M_make_84 : decode c_M_make 84 = .ok (.iastore, 1) := by decide +kernel
theorem d_M_make_85 : decode c_M_make 85 = .ok (.iconst 1, 1) := by decide +kernel
theorem d_M_make_86 : decode c_M_make 86 = .ok (.ireturn, 1) := by decide +kernel
theorem d_M_make_87 : decode c_M_make 87 = .ok (.iconst 0, 1) := by decide +kernel
theorem d_M_make_88 : decode c_M_make 88 = .ok (.istore_n 3, 1) := by decide +kernel
theorem d_M_make_89 : decode c_M_make 89 = .ok (.iload_n 3, 1) := by decide +kernel
theorem d_M_make_90 : decode c_M_make 90 = .ok (.iload_n 1, 1) := by decide +kernel
theorem d_M_make_91 : decode c_M_make 91 = .ok (.if_icmp .ge 15, 3) := by decide +kernel
theorem d_M_make_94 : decode c_M_make 94 = .ok (.aload_n 0, 1) := by decide +kernel
theorem d_M_make_95 : decode c_M_make 95 = .ok (.iload_n 3, 1) := by decide +kernel
theorem d_M_make_96 : decode c_M_make 96 = .ok (.iload_n 2, 1) := by decide +kernel
theorem d_M_make_97 : decode c_M_make 97 = .ok (.invokevirtual 69, 3) := by decide +kernel
theorem d_M_make_100 : decode c_M_make 100 = .ok (.iinc 3 1, 3) := by decide +kernel
theorem d_M_make_103 : decode c_M_make 103 = .ok (.goto (-14), 3) := by decide +kernel
theorem d_M_make_106 : decode c_M_make 106 = .ok (.iload_n 2, 1) := by decide +kernel
theorem d_M_make_107 : decode c_M_make 107 = .ok (.ifCond .ne 7, 3) := by decide +kernel
theorem d_M_make_110 : decode c_M_make 110 = .ok (.iconst 0, 1) := by decide +kernel
theorem d_M_make_111 : decode c_M_make 111 = .ok (.goto 8, 3) := by decide +kernel
theorem d_M_make_114 : decode c_M_make 114 = .ok (.iconst 2, 1) := by decide +kernel
theorem d_M_make_115 : decode c_M_make 115 = .ok (.iload_n 2, 1) := by decide +kernel
theorem d_M_make_116 : decode c_M_make 116 = .ok (.imul, 1) := by decide +kernel
theorem d_M_make_117 : decode c_M_make 117 = .ok (.iconst 2, 1) := by decide +kernel
theorem d_M_make_118 : decode c_M_make 118 = .ok (.isub, 1) := by decide +kernel
theorem d_M_make_119 : decode c_M_make 119 = .ok (.istore_n 3, 1) := by decide +kernel
theorem d_M_make_120 : decode c_M_make 120 = .ok (.iload_n 1, 1) := by decide +kernel
theorem d_M_make_121 : decode c_M_make 121 = .ok (.iconst 1, 1) := by decide +kernel
theorem d_M_make_122 : decode c_M_make 122 = .ok (.isub, 1) := by decide +kernel
theorem d_M_make_123 : decode c_M_make 123 = .ok (.istore 4, 2) := by decide +kernel
theorem d_M_make_125 : decode c_M_make 125 = .ok (.iload 4, 2) := by decide +kernel
theorem d_M_make_127 : decode c_M_make 127 = .ok (.ifCond .lt 78, 3) := by decide +kernel
theorem d_M_make_130 : decode c_M_make 130 = .ok (.iconst 0, 1) := by decide +kernel
theorem d_M_make_131 : decode c_M_make 131 = .ok (.istore 5, 2) := by decide +kernel
theorem d_M_make_133 : decode c_M_make 133 = .ok (.iconst 0, 1) := by decide +kernel
theorem d_M_make_134 : decode c_M_make 134 = .ok (.istore 6, 2) := by decide +kernel
theorem d_M_make_136 : decode c_M_make 136 = .ok (.iload 6, 2) := by decide +kernel
theorem d_M_make_138 : decode c_M_make 138 = .ok (.iload_n 3, 1) := by decide +kernel
theorem d_M_make_139 : decode c_M_make 139 = .ok (.if_icmp .ge 55, 3) := by decide +kernel
theorem d_M_make_142 : decode c_M_make 142 = .ok (.aload_n 0, 1) := by decide +kernel
theorem d_M_make_143 : decode c_M_make 143 = .ok (.getfield 33, 3) := by decide +kernel
theorem d_M_make_146 : decode c_M_make 146 = .ok (.bipush 96, 2) := by decide +kernel
theorem d_M_make_148 : decode c_M_make 148 = .ok (.iload 4, 2) := by decide +kernel
theorem d_M_make_150 : decode c_M_make 150 = .ok (.imul, 1) := by decide +kernel
theorem d_M_make_151 : decode c_M_make 151 = .ok (.iload 6, 2) := by decide +kernel
theorem d_M_make_153 : decode c_M_make 153 = .ok (.iadd, 1) := by decide +kernel
theorem d_M_make_154 : decode c_M_make 154 = .ok (.iaload, 1) := by decide +kernel
theorem d_M_make_155 : decode c_M_make 155 = .ok (.istore 7, 2) := by decide +kernel
theorem d_M_make_157 : decode c_M_make 157 = .ok (.iload 5, 2) := by decide +kernel
theorem d_M_make_159 : decode c_M_make 159 = .ok (.iload 7, 2) := by decide +kernel
theorem d_M_make_161 : decode c_M_make 161 = .ok (.ifCond .ge 7, 3) := by decide +kernel
theorem d_M_make_164 : decode c_M_make 164 = .ok (.iconst 1, 1) := by decide +kernel
theorem d_M_make_165 : decode c_M_make 165 = .ok (.goto 4, 3) := by decide +kernel
theorem d_M_make_168 : decode c_M_make 168 = .ok (.iconst 0, 1) := by decide +kernel
theorem d_M_make_169 : decode c_M_make 169 = .ok (.iadd, 1) := by decide +kernel
theorem d_M_make_170 : decode c_M_make 170 = .ok (.istore 5, 2) := by decide +kernel
theorem d_M_make_172 : decode c_M_make 172 = .ok (.iload 7, 2) := by decide +kernel
theorem d_M_make_174 : decode c_M_make 174 = .ok (.ifCond .lt 14, 3) := by decide +kernel
theorem d_M_make_177 : decode c_M_make 177 = .ok (.aload_n 0, 1) := by decide +kernel
theorem d_M_make_178 : decode c_M_make 178 = .ok (.getfield 13, 3) := by decide +kernel
theorem d_M_make_181 : decode c_M_make 181 = .ok (.iload 7, 2) := by decide +kernel
theorem d_M_make_183 : decode c_M_make 183 = .ok (.dup2, 1) := by decide +kernel
theorem d_M_make_184 : decode c_M_make 184 = .ok (.iaload, 1) := by decide +kernel
theorem d_M_make_185 : decode c_M_make 185 = .ok (.iconst 1, 1) := by decide +kernel
theorem d_M_make_186 : decode c_M_make 186 = .ok (.iadd, 1) := by decide +kernel
theorem d_M_make_187 : decode c_M_make 187 = .ok (.iastore, 1) := by decide +kernel
theorem d_M_make_188 : decode c_M_make 188 = .ok (.iinc 6 1, 3) := by decide +kernel
theorem d_M_make_191 : decode c_M_make 191 = .ok (.goto (-55), 3) := by decide +kernel
theorem d_M_make_194 : decode c_M_make 194 = .ok (.iconst 2, 1) := by decide +kernel
theorem d_M_make_195 : decode c_M_make 195 = .ok (.iload 5, 2) := by decide +kernel
theorem d_M_make_197 : decode c_M_make 197 = .ok (.imul, 1) := by decide +kernel
theorem d_M_make_198 : decode c_M_make 198 = .ok (.istore_n 3, 1) := by decide +kernel
theorem d_M_make_199 : decode c_M_make 199 = .ok (.iinc 4 (-1), 3) := by decide +kernel
theorem d_M_make_202 : decode c_M_make 202 = .ok (.goto (-77), 3) := by decide +kernel
theorem d_M_make_205 : decode c_M_make 205 = .ok (.iload_n 2, 1) := by decide +kernel
theorem d_M_make_206 : decode c_M_make 206 = .ok (.ireturn, 1) := by decide +kernel
theorem d_M_length_0 : decode c_M_length 0 = .ok (.aload_n 0, 1) := by decide +kernel
theorem d_M_length_1 : decode c_M_length 1 = .ok (.iload_n 1, 1) := by decide +kernel
theorem d_M_length_2 : decode c_M_length 2 = .ok (.invokestatic 55, 3) := by decide +kernel
theorem d_M_length_5 : decode c_M_length 5 = .ok (.iconst 1, 1) := by decide +kernel
theorem d_M_length_6 : decode c_M_length 6 = .ok (.invokevirtual 61, 3) := by decide +kernel
theorem d_M_length_9 : decode c_M_length 9 = .ok (.ifCond .eq 7, 3) := by decide +kernel
theorem d_M_length_12 : decode c_M_length 12 = .ok (.iconst 0, 1) := by decide +kernel
theorem d_M_length_13 : decode c_M_length 13 = .ok (.goto 9, 3) := by decide +kernel
theorem d_M_length_16 : decode c_M_length 16 = .ok (.aload_n 0, 1) := by decide +kernel
theorem d_M_length_17 : decode c_M_length 17 = .ok (.getfield 13, 3) := by decide +kernel
theorem d_M_length_20 : decode c_M_length 20 = .ok (.iload_n 1, 1) := by decide +kernel
theorem d_M_length_21 : decode c_M_length 21 = .ok (.iaload, 1) := by decide +kernel
theorem d_M_length_22 : decode c_M_length 22 = .ok (.ireturn, 1) := by decide +kernel
theorem d_M_fill_0 : decode c_M_fill 0 = .ok (.iconst 0, 1) := by decide +kernel
theorem d_M_fill_1 : decode c_M_fill 1 = .ok (.istore_n 1, 1) := by decide +kernel
theorem d_M_fill_2 : decode c_M_fill 2 = .ok (.iconst 0, 1) := by decide +kernel
theorem d_M_fill_3 : decode c_M_fill 3 = .ok (.istore_n 2, 1) := by decide +kernel
theorem d_M_fill_4 : decode c_M_fill 4 = .ok (.iload_n 2, 1) := by decide +kernel
theorem d_M_fill_5 : decode c_M_fill 5 = .ok (.bipush 48, 2) := by decide +kernel
theorem d_M_fill_7 : decode c_M_fill 7 = .ok (.if_icmp .ge 36, 3) := by decide +kernel
theorem d_M_fill_10 : decode c_M_fill 10 = .ok (.iload_n 1, 1) := by decide +kernel
theorem d_M_fill_11 : decode c_M_fill 11 = .ok (.aload_n 0, 1) := by decide +kernel
theorem d_M_fill_12 : decode c_M_fill 12 = .ok (.getfield 13, 3) := by decide +kernel
theorem d_M_fill_15 : decode c_M_fill 15 = .ok (.iload_n 2, 1) := by decide +kernel
theorem d_M_fill_16 : decode c_M_fill 16 = .ok (.iaload, 1) := by decide +kernel
theorem d_M_fill_17 : decode c_M_fill 17 = .ok (.ifCond .le 17, 3) := by decide +kernel
theorem d_M_fill_20 : decode c_M_fill 20 = .ok (.iconst 1, 1) := by decide +kernel
theorem d_M_fill_21 : decode c_M_fill 21 = .ok (.bipush 16, 2) := by decide +kernel
theorem d_M_fill_23 : decode c_M_fill 23 = .ok (.aload_n 0, 1) := by decide +kernel
theorem d_M_fill_24 : decode c_M_fill 24 = .ok (.getfield 13, 3) := by decide +kernel
theorem d_M_fill_27 : decode c_M_fill 27 = .ok (.iload_n 2, 1) := by decide +kernel
theorem d_M_fill_28 : decode c_M_fill 28 = .ok (.iaload, 1) := by decide +kernel
theorem d_M_fill_29 : decode c_M_fill 29 = .ok (.isub, 1) := by decide +kernel
theorem d_M_fill_30 : decode c_M_fill 30 = .ok (.ishl, 1) := by decide +kernel
theorem d_M_fill_31 : decode c_M_fill 31 = .ok (.goto 4, 3) := by decide +kernel
theorem d_M_fill_34 : decode c_M_fill 34 = .ok (.iconst 0, 1) := by decide +kernel
theorem d_M_fill_35 : decode c_M_fill 35 = .ok (.iadd, 1) := by decide +kernel
theorem d_M_fill_36 : decode c_M_fill 36 = .ok (.istore_n 1, 1) := by decide +kernel
theorem d_M_fill_37 : decode c_M_fill 37 = .ok (.iinc 2 1, 3) := by decide +kernel
theorem d_M_fill_40 : decode c_M_fill 40 = .ok (.goto (-36), 3) := by decide +kernel
theorem d_M_fill_43 : decode c_M_fill 43 = .ok (.iload_n 1, 1) := by decide +kernel
theorem d_M_fill_44 : decode c_M_fill 44 = .ok (.ldc 73, 2) := by decide +kernel
theorem d_M_fill_46 : decode c_M_fill 46 = .ok (.if_icmp .le 7, 3) := by decide +kernel
theorem d_M_fill_49 : decode c_M_fill 49 = .ok (.iconst 2, 1) := by decide +kernel
theorem d_M_fill_50 : decode c_M_fill 50 = .ok (.goto 14, 3) := by decide +kernel
theorem d_M_fill_53 : decode c_M_fill 53 = .ok (.iload_n 1, 1) := by decide +kernel
theorem d_M_fill_54 : decode c_M_fill 54 = .ok (.ldc 73, 2) := by decide +kernel
theorem d_M_fill_56 : decode c_M_fill 56 = .ok (.if_icmp .ne 7, 3) := by decide +kernel
theorem d_M_fill_59 : decode c_M_fill 59 = .ok (.iconst 0, 1) := by decide +kernel
theorem d_M_fill_60 : decode c_M_fill 60 = .ok (.goto 4, 3) := by decide +kernel
theorem d_M_fill_63 : decode c_M_fill 63 = .ok (.iconst 1, 1) := by decide +kernel
theorem d_M_fill_64 : decode c_M_fill 64 = .ok (.ireturn, 1) := by decide +kernel
theorem d_M_check_0 : decode c_M_check 0 = .ok (.aload_n 0, 1) := by decide +kernel
theorem d_M_check_1 : decode c_M_check 1 = .ok (.iconst 0, 1) := by decide +kernel
theorem d_M_check_2 : decode c_M_check 2 = .ok (.putfield 52, 3) := by decide +kernel
theorem d_M_check_5 : decode c_M_check 5 = .ok (.aload_n 0, 1) := by decide +kernel
theorem d_M_check_6 : decode c_M_check 6 = .ok (.invokevirtual 74, 3) := by decide +kernel
theorem d_M_check_9 : decode c_M_check 9 = .ok (.ireturn, 1) := by decide +kernel
theorem d_M_given_0 : decode c_M_given 0 = .ok (.aload_n 0, 1) := by decide +kernel
theorem d_M_given_1 : decode c_M_given 1 = .ok (.iload_n 1, 1) := by decide +kernel
theorem d_M_given_2 : decode c_M_given 2 = .ok (.invokestatic 55, 3) := by decide +kernel
theorem d_M_given_5 : decode c_M_given 5 = .ok (.iload_n 2, 1) := by decide +kernel
theorem d_M_given_6 : decode c_M_given 6 = .ok (.ifCond .lt 13, 3) := by decide +kernel
theorem d_M_given_9 : decode c_M_given 9 = .ok (.iload_n 2, 1) := by decide +kernel
theorem d_M_given_10 : decode c_M_given 10 = .ok (.bipush 16, 2) := by decide +kernel
theorem d_M_given_12 : decode c_M_given 12 = .ok (.if_icmp .gt 7, 3) := by decide +kernel
theorem d_M_given_15 : decode c_M_given 15 = .ok (.iconst 1, 1) := by decide +kernel
theorem d_M_given_16 : decode c_M_given 16 = .ok (.goto 4, 3) := by decide +kernel
theorem d_M_given_19 : decode c_M_given 19 = .ok (.iconst 0, 1) := by decide +kernel
theorem d_M_given_20 : decode c_M_given 20 = .ok (.invokevirtual 61, 3) := by decide +kernel
theorem d_M_given_23 : decode c_M_given 23 = .ok (.ifCond .eq 5, 3) := by decide +kernel
theorem d_M_given_26 : decode c_M_given 26 = .ok (.iconst 0, 1) := by decide +kernel
theorem d_M_given_27 : decode c_M_given 27 = .ok (.ireturn, 1) := by decide +kernel
theorem d_M_given_28 : decode c_M_given 28 = .ok (.aload_n 0, 1) := by decide +kernel
theorem d_M_given_29 : decode c_M_given 29 = .ok (.getfield 13, 3) := by decide +kernel
theorem d_M_given_32 : decode c_M_given 32 = .ok (.iload_n 1, 1) := by decide +kernel
theorem d_M_given_33 : decode c_M_given 33 = .ok (.iload_n 2, 1) := by decide +kernel
theorem d_M_given_34 : decode c_M_given 34 = .ok (.iastore, 1) := by decide +kernel
theorem d_M_given_35 : decode c_M_given 35 = .ok (.aload_n 0, 1) := by decide +kernel
theorem d_M_given_36 : decode c_M_given 36 = .ok (.getfield 17, 3) := by decide +kernel
theorem d_M_given_39 : decode c_M_given 39 = .ok (.iload_n 1, 1) := by decide +kernel
theorem d_M_given_40 : decode c_M_given 40 = .ok (.iconst 0, 1) := by decide +kernel
theorem d_M_given_41 : decode c_M_given 41 = .ok (.bastore, 1) := by decide +kernel
theorem d_M_given_42 : decode c_M_given 42 = .ok (.aload_n 0, 1) := by decide +kernel
theorem d_M_given_43 : decode c_M_given 43 = .ok (.invokevirtual 74, 3) := by decide +kernel
theorem d_M_given_46 : decode c_M_given 46 = .ok (.iconst 2, 1) := by decide +kernel
theorem d_M_given_47 : decode c_M_given 47 = .ok (.if_icmp .ge 7, 3) := by decide +kernel
theorem d_M_given_50 : decode c_M_given 50 = .ok (.iconst 1, 1) := by decide +kernel
theorem d_M_given_51 : decode c_M_given 51 = .ok (.goto 4, 3) := by decide +kernel
theorem d_M_given_54 : decode c_M_given 54 = .ok (.iconst 0, 1) := by decide +kernel
theorem d_M_given_55 : decode c_M_given 55 = .ok (.ireturn, 1) := by decide +kernel
theorem d_M_range_0 : decode c_M_range 0 = .ok (.aload_n 0, 1) := by decide +kernel
theorem d_M_range_1 : decode c_M_range 1 = .ok (.iload_n 1, 1) := by decide +kernel
theorem d_M_range_2 : decode c_M_range 2 = .ok (.invokestatic 55, 3) := by decide +kernel
theorem d_M_range_5 : decode c_M_range 5 = .ok (.iload 4, 2) := by decide +kernel
theorem d_M_range_7 : decode c_M_range 7 = .ok (.iconst 1, 1) := by decide +kernel
theorem d_M_range_8 : decode c_M_range 8 = .ok (.if_icmp .lt 26, 3) := by decide +kernel
theorem d_M_range_11 : decode c_M_range 11 = .ok (.iload 4, 2) := by decide +kernel
theorem d_M_range_13 : decode c_M_range 13 = .ok (.bipush 16, 2) := by decide +kernel
theorem d_M_range_15 : decode c_M_range 15 = .ok (.if_icmp .gt 19, 3) := by decide +kernel
theorem d_M_range_18 : decode c_M_range 18 = .ok (.iload_n 3, 1) := by decide +kernel
theorem d_M_range_19 : decode c_M_range 19 = .ok (.bipush (-32), 2) := by decide +kernel
theorem d_M_range_21 : decode c_M_range 21 = .ok (.if_icmp .lt 13, 3) := by decide +kernel
theorem d_M_range_24 : decode c_M_range 24 = .ok (.iload_n 3, 1) := by decide +kernel
theorem d_M_range_25 : decode c_M_range 25 = .ok (.bipush 32, 2) := by decide +kernel
theorem d_M_range_27 : decode c_M_range 27 = .ok (.if_icmp .gt 7, 3) := by decide +kernel
theorem d_M_range_30 : decode c_M_range 30 = .ok (.iconst 1, 1) := by decide +kernel
theorem d_M_range_31 : decode c_M_range 31 = .ok (.goto 4, 3) := by decide +kernel
theorem d_M_range_34 : decode c_M_range 34 = .ok (.iconst 0, 1) := by decide +kernel
theorem d_M_range_35 : decode c_M_range 35 = .ok (.invokevirtual 61, 3) := by decide +kernel
theorem d_M_range_38 : decode c_M_range 38 = .ok (.ifCond .eq 5, 3) := by decide +kernel
theorem d_M_range_41 : decode c_M_range 41 = .ok (.iconst 0, 1) := by decide +kernel
theorem d_M_range_42 : decode c_M_range 42 = .ok (.ireturn, 1) := by decide +kernel
theorem d_M_range_43 : decode c_M_range 43 = .ok (.aload_n 0, 1) := by decide +kernel
theorem d_M_range_44 : decode c_M_range 44 = .ok (.getfield 13, 3) := by decide +kernel
theorem d_M_range_47 : decode c_M_range 47 = .ok (.iload_n 1, 1) := by decide +kernel
theorem d_M_range_48 : decode c_M_range 48 = .ok (.iload 4, 2) := by decide +kernel
theorem d_M_range_50 : decode c_M_range 50 = .ok (.iastore, 1) := by decide +kernel
theorem d_M_range_51 : decode c_M_range 51 = .ok (.aload_n 0, 1) := by decide +kernel
theorem d_M_range_52 : decode c_M_range 52 = .ok (.getfield 17, 3) := by decide +kernel
theorem d_M_range_55 : decode c_M_range 55 = .ok (.iload_n 1, 1) := by decide +kernel
theorem d_M_range_56 : decode c_M_range 56 = .ok (.iconst 1, 1) := by decide +kernel
theorem d_M_range_57 : decode c_M_range 57 = .ok (.bastore, 1) := by decide +kernel
theorem d_M_range_58 : decode c_M_range 58 = .ok (.aload_n 0, 1) := by decide +kernel
theorem d_M_range_59 : decode c_M_range 59 = .ok (.getfield 21, 3) := by decide +kernel
theorem d_M_range_62 : decode c_M_range 62 = .ok (.iload_n 1, 1) := by decide +kernel
theorem d_M_range_63 : decode c_M_range 63 = .ok (.iload_n 2, 1) := by decide +kernel
theorem d_M_range_64 : decode c_M_range 64 = .ok (.iastore, 1) := by decide +kernel
theorem d_M_range_65 : decode c_M_range 65 = .ok (.aload_n 0, 1) := by decide +kernel
theorem d_M_range_66 : decode c_M_range 66 = .ok (.getfield 24, 3) := by decide +kernel
theorem d_M_range_69 : decode c_M_range 69 = .ok (.iload_n 1, 1) := by decide +kernel
theorem d_M_range_70 : decode c_M_range 70 = .ok (.iload_n 3, 1) := by decide +kernel
theorem d_M_range_71 : decode c_M_range 71 = .ok (.iastore, 1) := by decide +kernel
theorem d_M_range_72 : decode c_M_range 72 = .ok (.aload_n 0, 1) := by decide +kernel
theorem d_M_range_73 : decode c_M_range 73 = .ok (.invokevirtual 74, 3) := by decide +kernel
theorem d_M_range_76 : decode c_M_range 76 = .ok (.iconst 2, 1) := by decide +kernel
theorem d_M_range_77 : decode c_M_range 77 = .ok (.if_icmp .ge 7, 3) := by decide +kernel
theorem d_M_range_80 : decode c_M_range 80 = .ok (.iconst 1, 1) := by decide +kernel
theorem d_M_range_81 : decode c_M_range 81 = .ok (.goto 4, 3) := by decide +kernel
theorem d_M_range_84 : decode c_M_range 84 = .ok (.iconst 0, 1) := by decide +kernel
theorem d_M_range_85 : decode c_M_range 85 = .ok (.ireturn, 1) := by decide +kernel
theorem d_M_makeCodes_0 : decode c_M_makeCodes 0 = .ok (.iconst 0, 1) := by decide +kernel
theorem d_M_makeCodes_1 : decode c_M_makeCodes 1 = .ok (.istore_n 1, 1) := by decide +kernel
theorem d_M_makeCodes_2 : decode c_M_makeCodes 2 = .ok (.iconst 0, 1) := by decide +kernel
theorem d_M_makeCodes_3 : decode c_M_makeCodes 3 = .ok (.istore_n 2, 1) := by decide +kernel
theorem d_M_makeCodes_4 : decode c_M_makeCodes 4 = .ok (.iconst 1, 1) := by decide +kernel
theorem d_M_makeCodes_5 : decode c_M_makeCodes 5 = .ok (.istore_n 3, 1) := by decide +kernel
theorem d_M_makeCodes_6 : decode c_M_makeCodes 6 = .ok (.iload_n 3, 1) := by decide +kernel
theorem d_M_makeCodes_7 : decode c_M_makeCodes 7 = .ok (.bipush 17, 2) := by decide +kernel
theorem d_M_makeCodes_9 : decode c_M_makeCodes 9 = .ok (.if_icmp .ge 149, 3) := by decide +kernel
theorem d_M_makeCodes_12 : decode c_M_makeCodes 12 = .ok (.aload_n 0, 1) := by decide +kernel
theorem d_M_makeCodes_13 : decode c_M_makeCodes 13 = .ok (.getfield 48, 3) := by decide +kernel
theorem d_M_makeCodes_16 : decode c_M_makeCodes 16 = .ok (.iconst 2, 1) := by decide +kernel
theorem d_M_makeCodes_17 : decode c_M_makeCodes 17 = .ok (.if_icmp .ne 10, 3) := by decide +kernel
theorem d_M_makeCodes_20 : decode c_M_makeCodes 20 = .ok (.bipush 17, 2) := by decide +kernel
theorem d_M_makeCodes_22 : decode c_M_makeCodes 22 = .ok (.iload_n 3, 1) := by decide +kernel
theorem d_M_makeCodes_23 : decode c_M_makeCodes 23 = .ok (.isub, 1) := by decide +kernel
theorem d_M_makeCodes_24 : decode c_M_makeCodes 24 = .ok (.goto 4, 3) := by decide +kernel
theorem d_M_makeCodes_27 : decode c_M_makeCodes 27 = .ok (.iload_n 3, 1) := by decide +kernel
theorem d_M_makeCodes_28 : decode c_M_makeCodes 28 = .ok (.istore 4, 2) := by decide +kernel
theorem d_M_makeCodes_30 : decode c_M_makeCodes 30 = .ok (.iconst 0, 1) := by decide +kernel
theorem d_M_makeCodes_31 : decode c_M_makeCodes 31 = .ok (.istore 5, 2) := by decide +kernel
theorem d_M_makeCodes_33 : decode c_M_makeCodes 33 = .ok (.iload 5, 2) := by decide +kernel
theorem d_M_makeCodes_35 : decode c_M_makeCodes 35 = .ok (.bipush 48, 2) := by decide +kernel
theorem d_M_makeCodes_37 : decode c_M_makeCodes 37 = .ok (.if_icmp .ge 115, 3) := by decide +kernel
theorem d_M_makeCodes_40 : decode c_M_makeCodes 40 = .ok (.aload_n 0, 1) := by decide +kernel
theorem d_M_makeCodes_41 : decode c_M_makeCodes 41 = .ok (.getfield 13, 3) := by decide +kernel
theorem d_M_makeCodes_44 : decode c_M_makeCodes 44 = .ok (.iload 5, 2) := by decide +kernel
theorem d_M_makeCodes_46 : decode c_M_makeCodes 46 = .ok (.iaload, 1) := by decide +kernel
theorem d_M_makeCodes_47 : decode c_M_makeCodes 47 = .ok (.iload 4, 2) := by decide +kernel
theorem d_M_makeCodes_49 : decode c_M_makeCodes 49 = .ok (.if_icmp .ne 97, 3) := by decide +kernel
theorem d_M_makeCodes_52 : decode c_M_makeCodes 52 = .ok (.iload_n 1, 1) := by decide +kernel
theorem d_M_makeCodes_53 : decode c_M_makeCodes 53 = .ok (.ifCond .ne 8, 3) := by decide +kernel
theorem d_M_makeCodes_56 : decode c_M_makeCodes 56 = .ok (.iconst 0, 1) := by decide +kernel
theorem d_M_makeCodes_57 : decode c_M_makeCodes 57 = .ok (.istore_n 2, 1) := by decide +kernel
theorem d_M_makeCodes_58 : decode c_M_makeCodes 58 = .ok (.goto 56, 3) := by decide +kernel
theorem d_M_makeCodes_61 : decode c_M_makeCodes 61 = .ok (.aload_n 0, 1) := by decide +kernel
theorem d_M_makeCodes_62 : decode c_M_makeCodes 62 = .ok (.getfield 48, 3) := by decide +kernel
theorem d_M_makeCodes_65 : decode c_M_makeCodes 65 = .ok (.iconst 2, 1) := by decide +kernel
theorem d_M_makeCodes_66 : decode c_M_makeCodes 66 = .ok (.if_icmp .ge 15, 3) := by decide +kernel
theorem d_M_makeCodes_69 : decode c_M_makeCodes 69 = .ok (.iload_n 2, 1) := by decide +kernel
theorem d_M_makeCodes_70 : decode c_M_makeCodes 70 = .ok (.iconst 1, 1) := by decide +kernel
theorem d_M_makeCodes_71 : decode c_M_makeCodes 71 = .ok (.iadd, 1) := by decide +kernel
theorem d_M_makeCodes_72 : decode c_M_makeCodes 72 = .ok (.iload 4, 2) := by decide +kernel
theorem d_M_makeCodes_74 : decode c_M_makeCodes 74 = .ok (.iload_n 1, 1) := by decide +kernel
theorem d_M_makeCodes_75 : decode c_M_makeCodes 75 = .ok (.isub, 1) := by decide +kernel
theorem d_M_makeCodes_76 : decode c_M_makeCodes 76 = .ok (.ishl, 1) := by decide +kernel
theorem d_M_makeCodes_77 : decode c_M_makeCodes 77 = .ok (.istore_n 2, 1) := by decide +kernel
theorem d_M_makeCodes_78 : decode c_M_makeCodes 78 = .ok (.goto 36, 3) := by decide +kernel
theorem d_M_makeCodes_81 : decode c_M_makeCodes 81 = .ok (.iinc 2 1, 3) := by decide +kernel
theorem d_M_makeCodes_84 : decode c_M_makeCodes 84 = .ok (.iload_n 2, 1) := by decide +kernel
theorem d_M_makeCodes_85 : decode c_M_makeCodes 85 = .ok (.iconst 1, 1) := by decide +kernel
theorem d_M_makeCodes_86 : decode c_M_makeCodes 86 = .ok (.iload_n 1, 1) := by decide +kernel
theorem d_M_makeCodes_87 : decode c_M_makeCodes 87 = .ok (.iload 4, 2) := by decide +kernel
theorem d_M_makeCodes_89 : decode c_M_makeCodes 89 = .ok (.isub, 1) := by decide +kernel
theorem d_M_makeCodes_90 : decode c_M_makeCodes 90 = .ok (.ishl, 1) := by decide +kernel
theorem d_M_makeCodes_91 : decode c_M_makeCodes 91 = .ok (.iconst 1, 1) := by decide +kernel
theorem d_M_makeCodes_92 : decode c_M_makeCodes 92 = .ok (.isub, 1) := by decide +kernel
theorem d_M_makeCodes_93 : decode c_M_makeCodes 93 = .ok (.iand, 1) := by decide +kernel
theorem d_M_makeCodes_94 : decode c_M_makeCodes 94 = .ok (.istore 6, 2) := by decide +kernel
theorem d_M_makeCodes_96 : decode c_M_makeCodes 96 = .ok (.iload_n 2, 1) := by decide +kernel
theorem d_M_makeCodes_97 : decode c_M_makeCodes 97 = .ok (.iload_n 1, 1) := by decide +kernel
theorem d_M_makeCodes_98 : decode c_M_makeCodes 98 = .ok (.iload 4, 2) := by decide +kernel
theorem d_M_makeCodes_100 : decode c_M_makeCodes 100 = .ok (.isub, 1) := by decide +kernel
theorem d_M_makeCodes_101 : decode c_M_makeCodes 101 = .ok (.ishr, 1) := by decide +kernel
theorem d_M_makeCodes_102 : decode c_M_makeCodes 102 = .ok (.iload 6, 2) := by decide +kernel
theorem d_M_makeCodes_104 : decode c_M_makeCodes 104 = .ok (.ifCond .le 7, 3) := by decide +kernel
theorem d_M_makeCodes_107 : decode c_M_makeCodes 107 = .ok (.iconst 1, 1) := by decide +kernel
theorem d_M_makeCodes_108 : decode c_M_makeCodes 108 = .ok (.goto 4, 3) := by decide +kernel
theorem d_M_makeCodes_111 : decode c_M_makeCodes 111 = .ok (.iconst 0, 1) := by decide +kernel
theorem d_M_makeCodes_112 : decode c_M_makeCodes 112 = .ok (.iadd, 1) := by decide +kernel
theorem d_M_makeCodes_113 : decode c_M_makeCodes 113 = .ok (.istore_n 2, 1) := by decide +kernel
theorem d_M_makeCodes_114 : decode c_M_makeCodes 114 = .ok (.iload 4, 2) := by decide +kernel
theorem d_M_makeCodes_116 : decode c_M_makeCodes 116 = .ok (.istore_n 1, 1) := by decide +kernel
theorem d_M_makeCodes_117 : decode c_M_makeCodes 117 = .ok (.aload_n 0, 1) := by decide +kernel
theorem d_M_makeCodes_118 : decode c_M_makeCodes 118 = .ok (.getfield 45, 3) := by decide +kernel
theorem d_M_makeCodes_121 : decode c_M_makeCodes 121 = .ok (.iload 5, 2) := by decide +kernel
theorem d_M_makeCodes_123 : decode c_M_makeCodes 123 = .ok (.aload_n 0, 1) := by decide +kernel
theorem d_M_makeCodes_124 : decode c_M_makeCodes 124 = .ok (.getfield 48, 3) := by decide +kernel
theorem d_M_makeCodes_127 : decode c_M_makeCodes 127 = .ok (.iconst 1, 1) := by decide +kernel
theorem d_M_makeCodes_128 : decode c_M_makeCodes 128 = .ok (.if_icmp .ne 16, 3) := by decide +kernel
theorem d_M_makeCodes_131 : decode c_M_makeCodes 131 = .ok (.iload_n 2, 1) := by decide +kernel
theorem d_M_makeCodes_132 : decode c_M_makeCodes 132 = .ok (.iconst (-1), 1) := by decide +kernel
theorem d_M_makeCodes_133 : decode c_M_makeCodes 133 = .ok (.ixor, 1) := by decide +kernel
theorem d_M_makeCodes_134 : decode c_M_makeCodes 134 = .ok (.iconst 1, 1) := by decide +kernel
theorem d_M_makeCodes_135 : decode c_M_makeCodes 135 = .ok (.iload 4, 2) := by decide +kernel
theorem d_M_makeCodes_137 : decode c_M_makeCodes 137 = .ok (.ishl, 1) := by decide +kernel
theorem d_M_makeCodes_138 : decode c_M_makeCodes 138 = .ok (.iconst 1, 1) := by decide +kernel
theorem d_M_makeCodes_139 : decode c_M_makeCodes 139 = .ok (.isub, 1) := by decide +kernel
theorem d_M_makeCodes_140 : decode c_M_makeCodes 140 = .ok (.iand, 1) := by decide +kernel
theorem d_M_makeCodes_141 : decode c_M_makeCodes 141 = .ok (.goto 4, 3) := by decide +kernel
theorem d_M_makeCodes_144 : decode c_M_makeCodes 144 = .ok (.iload_n 2, 1) := by decide +kernel
theorem d_M_makeCodes_145 : decode c_M_makeCodes 145 = .ok (.iastore, 1) := by decide +kernel
theorem d_M_makeCodes_146 : decode c_M_makeCodes 146 = .ok (.iinc 5 1, 3) := by decide +kernel
theorem d_M_makeCodes_149 : decode c_M_makeCodes 149 = .ok (.goto (-116), 3) := by decide +kernel
theorem d_M_makeCodes_152 : decode c_M_makeCodes 152 = .ok (.iinc 3 1, 3) := by decide +kernel
theorem d_M_makeCodes_155 : decode c_M_makeCodes 155 = .ok (.goto (-149), 3) := by decide +kernel
theorem d_M_makeCodes_158 : decode c_M_makeCodes 158 = .ok (.return_, 1) := by decide +kernel
theorem d_M_code_0 : decode c_M_code 0 = .ok (.aload_n 0, 1) := by decide +kernel
theorem d_M_code_1 : decode c_M_code 1 = .ok (.iload_n 1, 1) := by decide +kernel
theorem d_M_code_2 : decode c_M_code 2 = .ok (.invokestatic 55, 3) := by decide +kernel
theorem d_M_code_5 : decode c_M_code 5 = .ok (.aload_n 0, 1) := by decide +kernel
theorem d_M_code_6 : decode c_M_code 6 = .ok (.invokevirtual 74, 3) := by decide +kernel
theorem d_M_code_9 : decode c_M_code 9 = .ok (.iconst 2, 1) := by decide +kernel
theorem d_M_code_10 : decode c_M_code 10 = .ok (.if_icmp .ge 7, 3) := by decide +kernel
theorem d_M_code_13 : decode c_M_code 13 = .ok (.iconst 1, 1) := by decide +kernel
theorem d_M_code_14 : decode c_M_code 14 = .ok (.goto 4, 3) := by decide +kernel
theorem d_M_code_17 : decode c_M_code 17 = .ok (.iconst 0, 1) := by decide +kernel
theorem d_M_code_18 : decode c_M_code 18 = .ok (.invokevirtual 61, 3) := by decide +kernel
theorem d_M_code_21 : decode c_M_code 21 = .ok (.ifCond .eq 5, 3) := by decide +kernel
theorem d_M_code_24 : decode c_M_code 24 = .ok (.lconst 0, 1) := by decide +kernel
theorem d_M_code_25 : decode c_M_code 25 = .ok (.lreturn, 1) := by decide +kernel
theorem d_M_code_26 : decode c_M_code 26 = .ok (.aload_n 0, 1) := by decide +kernel
theorem d_M_code_27 : decode c_M_code 27 = .ok (.invokevirtual 77, 3) := by decide +kernel
theorem d_M_code_30 : decode c_M_code 30 = .ok (.aload_n 0, 1) := by decide +kernel
theorem d_M_code_31 : decode c_M_code 31 = .ok (.getfield 13, 3) := by decide +kernel
theorem d_M_code_34 : decode c_M_code 34 = .ok (.iload_n 1, 1) := by decide +kernel
theorem d_M_code_35 : decode c_M_code 35 = .ok (.iaload, 1) := by decide +kernel
theorem d_M_code_36 : decode c_M_code 36 = .ok (.ifCond .ne 9, 3) := by decide +kernel
theorem d_M_code_39 : decode c_M_code 39 = .ok (.ldc2_w 80, 3) := by decide +kernel
theorem d_M_code_42 : decode c_M_code 42 = .ok (.goto 10, 3) := by decide +kernel
theorem d_M_code_45 : decode c_M_code 45 = .ok (.aload_n 0, 1) := by decide +kernel
theorem d_M_code_46 : decode c_M_code 46 = .ok (.getfield 45, 3) := by decide +kernel
theorem d_M_code_49 : decode c_M_code 49 = .ok (.iload_n 1, 1) := by decide +kernel
theorem d_M_code_50 : decode c_M_code 50 = .ok (.iaload, 1) := by decide +kernel
theorem d_M_code_51 : decode c_M_code 51 = .ok (.i2l, 1) := by decide +kernel
theorem d_M_code_52 : decode c_M_code 52 = .ok (.lreturn, 1) := by decide +kernel
theorem d_M_feed_0 : decode c_M_feed 0 = .ok (.aload_n 0, 1) := by decide +kernel
theorem d_M_feed_1 : decode c_M_feed 1 = .ok (.iload_n 1, 1) := by decide +kernel
theorem d_M_feed_2 : decode c_M_feed 2 = .ok (.ifCond .eq 8, 3) := by decide +kernel
theorem d_M_feed_5 : decode c_M_feed 5 = .ok (.iload_n 1, 1) := by decide +kernel
theorem d_M_feed_6 : decode c_M_feed 6 = .ok (.iconst 1, 1) := by decide +kernel
theorem d_M_feed_7 : decode c_M_feed 7 = .ok (.if_icmp .ne 7, 3) := by decide +kernel
theorem d_M_feed_10 : decode c_M_feed 10 = .ok (.iconst 1, 1) := by decide +kernel
theorem d_M_feed_11 : decode c_M_feed 11 = .ok (.goto 4, 3) := by decide +kernel
theorem d_M_feed_14 : decode c_M_feed 14 = .ok (.iconst 0, 1) := by decide +kernel
theorem d_M_feed_15 : decode c_M_feed 15 = .ok (.iconst 1, 1) := by decide +kernel
theorem d_M_feed_16 : decode c_M_feed 16 = .ok (.invokevirtual 61, 3) := by decide +kernel
theorem d_M_feed_19 : decode c_M_feed 19 = .ok (.ifCond .ne 13, 3) := by decide +kernel
theorem d_M_feed_22 : decode c_M_feed 22 = .ok (.aload_n 0, 1) := by decide +kernel
theorem d_M_feed_23 : decode c_M_feed 23 = .ok (.getfield 82, 3) := by decide +kernel
theorem d_M_feed_26 : decode c_M_feed 26 = .ok (.sipush 400, 3) := by decide +kernel
theorem d_M_feed_29 : decode c_M_feed 29 = .ok (.if_icmp .ne 5, 3) := by decide +kernel
theorem d_M_feed_32 : decode c_M_feed 32 = .ok (.iconst 0, 1) := by decide +kernel
theorem d_M_feed_33 : decode c_M_feed 33 = .ok (.ireturn, 1) := by decide +kernel
theorem d_M_feed_34 : decode c_M_feed 34 = .ok (.aload_n 0, 1) := by decide +kernel
theorem d_M_feed_35 : decode c_M_feed 35 = .ok (.getfield 27, 3) := by decide +kernel
theorem d_M_feed_38 : decode c_M_feed 38 = .ok (.aload_n 0, 1) := by decide +kernel
theorem d_M_feed_39 : decode c_M_feed 39 = .ok (.getfield 82, 3) := by decide +kernel
theorem d_M_feed_42 : decode c_M_feed 42 = .ok (.iload_n 1, 1) := by decide +kernel
theorem d_M_feed_43 : decode c_M_feed 43 = .ok (.iastore, 1) := by decide +kernel
theorem d_M_feed_44 : decode c_M_feed 44 = .ok (.aload_n 0, 1) := by decide +kernel
theorem d_M_feed_45 : decode c_M_feed 45 = .ok (.dup, 1) := by decide +kernel
theorem d_M_feed_46 : decode c_M_feed 46 = .ok (.getfield 82, 3) := by decide +kernel
theorem d_M_feed_49 : decode c_M_feed 49 = .ok (.iconst 1, 1) := by decide +kernel
theorem d_M_feed_50 : decode c_M_feed 50 = .ok (.iadd, 1) := by decide +kernel
theorem d_M_feed_51 : decode c_M_feed 51 = .ok (.putfield 82, 3) := by decide +kernel
theorem d_M_feed_54 : decode c_M_feed 54 = .ok (.iconst 1, 1) := by decide +kernel
theorem d_M_feed_55 : decode c_M_feed 55 = .ok (.ireturn, 1) := by decide +kernel
theorem d_M_drop_0 : decode c_M_drop 0 = .ok (.iload_n 1, 1) := by decide +kernel
theorem d_M_drop_1 : decode c_M_drop 1 = .ok (.istore_n 2, 1) := by decide +kernel
theorem d_M_drop_2 : decode c_M_drop 2 = .ok (.iload_n 2, 1) := by decide +kernel
theorem d_M_drop_3 : decode c_M_drop 3 = .ok (.aload_n 0, 1) := by decide +kernel
theorem d_M_drop_4 : decode c_M_drop 4 = .ok (.getfield 82, 3) := by decide +kernel
theorem d_M_drop_7 : decode c_M_drop 7 = .ok (.if_icmp .ge 23, 3) := by decide +kernel
theorem d_M_drop_10 : decode c_M_drop 10 = .ok (.aload_n 0, 1) := by decide +kernel
theorem d_M_drop_11 : decode c_M_drop 11 = .ok (.getfield 27, 3) := by decide +kernel
theorem d_M_drop_14 : decode c_M_drop 14 = .ok (.iload_n 2, 1) := by decide +kernel
theorem d_M_drop_15 : decode c_M_drop 15 = .ok (.iload_n 1, 1) := by decide +kernel
theorem d_M_drop_16 : decode c_M_drop 16 = .ok (.isub, 1) := by decide +kernel
theorem d_M_drop_17 : decode c_M_drop 17 = .ok (.aload_n 0, 1) := by decide +kernel
theorem d_M_drop_18 : decode c_M_drop 18 = .ok (.getfield 27, 3) := by decide +kernel
theorem d_M_drop_21 : decode c_M_drop 21 = .ok (.iload_n 2, 1) := by decide +kernel
theorem d_M_drop_22 : decode c_M_drop 22 = .ok (.iaload, 1) := by decide +kernel
theorem d_M_drop_23 : decode c_M_drop 23 = .ok (.iastore, 1) := by decide +kernel
theorem d_M_drop_24 : decode c_M_drop 24 = .ok (.iinc 2 1, 3) := by decide +kernel
theorem d_M_drop_27 : decode c_M_drop 27 = .ok (.goto (-25), 3) := by decide +kernel
theorem d_M_drop_30 : decode c_M_drop 30 = .ok (.aload_n 0, 1) := by decide +kernel
theorem d_M_drop_31 : decode c_M_drop 31 = .ok (.dup, 1) := by decide +kernel
theorem d_M_drop_32 : decode c_M_drop 32 = .ok (.getfield 82, 3) := by decide +kernel
theorem d_M_drop_35 : decode c_M_drop 35 = .ok (.iload_n 1, 1) := by decide +kernel
theorem d_M_drop_36 : decode c_M_drop 36 = .ok (.isub, 1) := by decide +kernel
theorem d_M_drop_37 : decode c_M_drop 37 = .ok (.putfield 82, 3) := by decide +kernel
theorem d_M_drop_40 : decode c_M_drop 40 = .ok (.return_, 1) := by decide +kernel
theorem d_M_begins_0 : decode c_M_begins 0 = .ok (.aload_n 0, 1) := by decide +kernel
theorem d_M_begins_1 : decode c_M_begins 1 = .ok (.getfield 13, 3) := by decide +kernel
theorem d_M_begins_4 : decode c_M_begins 4 = .ok (.iload_n 1, 1) := by decide +kernel
theorem d_M_begins_5 : decode c_M_begins 5 = .ok (.iaload, 1) := by decide +kernel
theorem d_M_begins_6 : decode c_M_begins 6 = .ok (.iload_n 2, 1) := by decide +kernel
theorem d_M_begins_7 : decode c_M_begins 7 = .ok (.if_icmp .lt 12, 3) := by decide +kernel
theorem d_M_begins_10 : decode c_M_begins 10 = .ok (.aload_n 0, 1) := by decide +kernel
theorem d_M_begins_11 : decode c_M_begins 11 = .ok (.getfield 13, 3) := by decide +kernel
theorem d_M_begins_14 : decode c_M_begins 14 = .ok (.iload_n 1, 1) := by decide +kernel
theorem d_M_begins_15 : decode c_M_begins 15 = .ok (.iaload, 1) := by decide +kernel
theorem d_M_begins_16 : decode c_M_begins 16 = .ok (.ifCond .ne 5, 3) := by decide +kernel
theorem d_M_begins_19 : decode c_M_begins 19 = .ok (.iconst 0, 1) := by decide +kernel
theorem d_M_begins_20 : decode c_M_begins 20 = .ok (.ireturn, 1) := by decide +kernel
theorem d_M_begins_21 : decode c_M_begins 21 = .ok (.iconst 1, 1) := by decide +kernel
theorem d_M_begins_22 : decode c_M_begins 22 = .ok (.istore_n 3, 1) := by decide +kernel
theorem d_M_begins_23 : decode c_M_begins 23 = .ok (.iconst 0, 1) := by decide +kernel
theorem d_M_begins_24 : decode c_M_begins 24 = .ok (.istore 4, 2) := by decide +kernel
theorem d_M_begins_26 : decode c_M_begins 26 = .ok (.iload 4, 2) := by decide +kernel
theorem d_M_begins_28 : decode c_M_begins 28 = .ok (.iload_n 2, 1) := by decide +kernel
theorem d_M_begins_29 : decode c_M_begins 29 = .ok (.if_icmp .ge 49, 3) := by decide +kernel
theorem d_M_begins_32 : decode c_M_begins 32 = .ok (.iload_n 3, 1) := by decide +kernel
theorem d_M_begins_33 : decode c_M_begins 33 = .ok (.ifCond .eq 37, 3) := by decide +kernel
theorem d_M_begins_36 : decode c_M_begins 36 = .ok (.aload_n 0, 1) := by decide +kernel
theorem d_M_begins_37 : decode c_M_begins 37 = .ok (.getfield 45, 3) := by decide +kernel
theorem d_M_begins_40 : decode c_M_begins 40 = .ok (.iload_n 1, 1) := by decide +kernel
theorem d_M_begins_41 : decode c_M_begins 41 = .ok (.iaload, 1) := by decide +kernel
theorem d_M_begins_42 : decode c_M_begins 42 = .ok (.aload_n 0, 1) := by decide +kernel
theorem d_M_begins_43 : decode c_M_begins 43 = .ok (.getfield 13, 3) := by decide +kernel
theorem d_M_begins_46 : decode c_M_begins 46 = .ok (.iload_n 1, 1) := by decide +kernel
theorem d_M_begins_47 : decode c_M_begins 47 = .ok (.iaload, 1) := by decide +kernel
theorem d_M_begins_48 : decode c_M_begins 48 = .ok (.iconst 1, 1) := by decide +kernel
theorem d_M_begins_49 : decode c_M_begins 49 = .ok (.isub, 1) := by decide +kernel
theorem d_M_begins_50 : decode c_M_begins 50 = .ok (.iload 4, 2) := by decide +kernel
theorem d_M_begins_52 : decode c_M_begins 52 = .ok (.isub, 1) := by decide +kernel
theorem d_M_begins_53 : decode c_M_begins 53 = .ok (.ishr, 1) := by decide +kernel
theorem d_M_begins_54 : decode c_M_begins 54 = .ok (.iconst 1, 1) := by decide +kernel
theorem d_M_begins_55 : decode c_M_begins 55 = .ok (.iand, 1) := by decide +kernel
theorem d_M_begins_56 : decode c_M_begins 56 = .ok (.aload_n 0, 1) := by decide +kernel
theorem d_M_begins_57 : decode c_M_begins 57 = .ok (.getfield 27, 3) := by decide +kernel
theorem d_M_begins_60 : decode c_M_begins 60 = .ok (.iload 4, 2) := by decide +kernel
theorem d_M_begins_62 : decode c_M_begins 62 = .ok (.iaload, 1) := by decide +kernel
theorem d_M_begins_63 : decode c_M_begins 63 = .ok (.if_icmp .ne 7, 3) := by decide +kernel
theorem d_M_begins_66 : decode c_M_begins 66 = .ok (.iconst 1, 1) := by decide +kernel
theorem d_M_begins_67 : decode c_M_begins 67 = .ok (.goto 4, 3) := by decide +kernel
theorem d_M_begins_70 : decode c_M_begins 70 = .ok (.iconst 0, 1) := by decide +kernel
theorem d_M_begins_71 : decode c_M_begins 71 = .ok (.istore_n 3, 1) := by decide +kernel
theorem d_M_begins_72 : decode c_M_begins 72 = .ok (.iinc 4 1, 3) := by decide +kernel
theorem d_M_begins_75 : decode c_M_begins 75 = .ok (.goto (-49), 3) := by decide +kernel
theorem d_M_begins_78 : decode c_M_begins 78 = .ok (.iload_n 3, 1) := by decide +kernel
theorem d_M_begins_79 : decode c_M_begins 79 = .ok (.ireturn, 1) := by decide +kernel
theorem d_M_read_0 : decode c_M_read 0 = .ok (.aload_n 0, 1) := by decide +kernel
theorem d_M_read_1 : decode c_M_read 1 = .ok (.aload_n 0, 1) := by decide +kernel
theorem d_M_read_2 : decode c_M_read 2 = .ok (.invokevirtual 74, 3) := by decide +kernel
theorem d_M_read_5 : decode c_M_read 5 = .ok (.iconst 2, 1) := by decide +kernel
theorem d_M_read_6 : decode c_M_read 6 = .ok (.if_icmp .ge 7, 3) := by decide +kernel
theorem d_M_read_9 : decode c_M_read 9 = .ok (.iconst 1, 1) := by decide +kernel
theorem d_M_read_10 : decode c_M_read 10 = .ok (.goto 4, 3) := by decide +kernel
theorem d_M_read_13 : decode c_M_read 13 = .ok (.iconst 0, 1) := by decide +kernel
theorem d_M_read_14 : decode c_M_read 14 = .ok (.iconst 1, 1) := by decide +kernel
theorem d_M_read_15 : decode c_M_read 15 = .ok (.invokevirtual 61, 3) := by decide +kernel
theorem d_M_read_18 : decode c_M_read 18 = .ok (.ifCond .eq 5, 3) := by decide +kernel
theorem d_M_read_21 : decode c_M_read 21 = .ok (.iconst 0, 1) := by decide +kernel
theorem d_M_read_22 : decode c_M_read 22 = .ok (.ireturn, 1) := by decide +kernel
theorem d_M_read_23 : decode c_M_read 23 = .ok (.aload_n 0, 1) := by decide +kernel
theorem d_M_read_24 : decode c_M_read 24 = .ok (.invokevirtual 77, 3) := by decide +kernel
theorem d_M_read_27 : decode c_M_read 27 = .ok (.iconst 1, 1) := by decide +kernel
theorem d_M_read_28 : decode c_M_read 28 = .ok (.istore_n 1, 1) := by decide +kernel
theorem d_M_read_29 : decode c_M_read 29 = .ok (.iload_n 1, 1) := by decide +kernel
theorem d_M_read_30 : decode c_M_read 30 = .ok (.aload_n 0, 1) := by decide +kernel
theorem d_M_read_31 : decode c_M_read 31 = .ok (.getfield 82, 3) := by decide +kernel
theorem d_M_read_34 : decode c_M_read 34 = .ok (.if_icmp .gt 81, 3) := by decide +kernel
theorem d_M_read_37 : decode c_M_read 37 = .ok (.iconst 0, 1) := by decide +kernel
theorem d_M_read_38 : decode c_M_read 38 = .ok (.istore_n 2, 1) := by decide +kernel
theorem d_M_read_39 : decode c_M_read 39 = .ok (.iconst 0, 1) := by decide +kernel
theorem d_M_read_40 : decode c_M_read 40 = .ok (.istore_n 3, 1) := by decide +kernel
theorem d_M_read_41 : decode c_M_read 41 = .ok (.iload_n 3, 1) := by decide +kernel
theorem d_M_read_42 : decode c_M_read 42 = .ok (.bipush 48, 2) := by decide +kernel
theorem d_M_read_44 : decode c_M_read 44 = .ok (.if_icmp .ge 53, 3) := by decide +kernel
theorem d_M_read_47 : decode c_M_read 47 = .ok (.aload_n 0, 1) := by decide +kernel
theorem d_M_read_48 : decode c_M_read 48 = .ok (.iload_n 3, 1) := by decide +kernel
theorem d_M_read_49 : decode c_M_read 49 = .ok (.iload_n 1, 1) := by decide +kernel
theorem d_M_read_50 : decode c_M_read 50 = .ok (.invokevirtual 85, 3) := by decide +kernel
theorem d_M_read_53 : decode c_M_read 53 = .ok (.istore 4, 2) := by decide +kernel
theorem d_M_read_55 : decode c_M_read 55 = .ok (.iload_n 2, 1) := by decide +kernel
theorem d_M_read_56 : decode c_M_read 56 = .ok (.ifCond .ne 8, 3) := by decide +kernel
theorem d_M_read_59 : decode c_M_read 59 = .ok (.iload 4, 2) := by decide +kernel
theorem d_M_read_61 : decode c_M_read 61 = .ok (.ifCond .eq 7, 3) := by decide +kernel
theorem d_M_read_64 : decode c_M_read 64 = .ok (.iconst 1, 1) := by decide +kernel
theorem d_M_read_65 : decode c_M_read 65 = .ok (.goto 4, 3) := by decide +kernel
theorem d_M_read_68 : decode c_M_read 68 = .ok (.iconst 0, 1) := by decide +kernel
theorem d_M_read_69 : decode c_M_read 69 = .ok (.istore_n 2, 1) := by decide +kernel
theorem d_M_read_70 : decode c_M_read 70 = .ok (.iload 4, 2) := by decide +kernel
theorem d_M_read_72 : decode c_M_read 72 = .ok (.ifCond .eq 19, 3) := by decide +kernel
theorem d_M_read_75 : decode c_M_read 75 = .ok (.aload_n 0, 1) := by decide +kernel
theorem d_M_read_76 : decode c_M_read 76 = .ok (.getfield 13, 3) := by decide +kernel
theorem d_M_read_79 : decode c_M_read 79 = .ok (.iload_n 3, 1) := by decide +kernel
theorem d_M_read_80 : decode c_M_read 80 = .ok (.iaload, 1) := by decide +kernel
theorem d_M_read_81 : decode c_M_read 81 = .ok (.iload_n 1, 1) := by decide +kernel
theorem d_M_read_82 : decode c_M_read 82 = .ok (.if_icmp .ne 9, 3) := by decide +kernel
theorem d_M_read_85 : decode c_M_read 85 = .ok (.aload_n 0, 1) := by decide +kernel
theorem d_M_read_86 : decode c_M_read 86 = .ok (.iload_n 3, 1) := by decide +kernel
theorem d_M_read_87 : decode c_M_read 87 = .ok (.invokevirtual 89, 3) := by decide +kernel
theorem d_M_read_90 : decode c_M_read 90 = .ok (.ireturn, 1) := by decide +kernel
theorem d_M_read_91 : decode c_M_read 91 = .ok (.iinc 3 1, 3) := by decide +kernel
theorem d_M_read_94 : decode c_M_read 94 = .ok (.goto (-53), 3) := by decide +kernel
theorem d_M_read_97 : decode c_M_read 97 = .ok (.iload_n 2, 1) := by decide +kernel
theorem d_M_read_98 : decode c_M_read 98 = .ok (.ifCond .ne 11, 3) := by decide +kernel
theorem d_M_read_101 : decode c_M_read 101 = .ok (.aload_n 0, 1) := by decide +kernel
theorem d_M_read_102 : decode c_M_read 102 = .ok (.iload_n 1, 1) := by decide +kernel
theorem d_M_read_103 : decode c_M_read 103 = .ok (.invokevirtual 93, 3) := by decide +kernel
theorem d_M_read_106 : decode c_M_read 106 = .ok (.bipush (-2), 2) := by decide +kernel
theorem d_M_read_108 : decode c_M_read 108 = .ok (.ireturn, 1) := by decide +kernel
theorem d_M_read_109 : decode c_M_read 109 = .ok (.iinc 1 1, 3) := by decide +kernel
theorem d_M_read_112 : decode c_M_read 112 = .ok (.goto (-83), 3) := by decide +kernel
theorem d_M_read_115 : decode c_M_read 115 = .ok (.iconst (-1), 1) := by decide +kernel
theorem d_M_read_116 : decode c_M_read 116 = .ok (.ireturn, 1) := by decide +kernel
theorem d_M_take_0 : decode c_M_take 0 = .ok (.aload_n 0, 1) := by decide +kernel
theorem d_M_take_1 : decode c_M_take 1 = .ok (.getfield 17, 3) := by decide +kernel
theorem d_M_take_4 : decode c_M_take 4 = .ok (.iload_n 1, 1) := by decide +kernel
theorem d_M_take_5 : decode c_M_take 5 = .ok (.baload, 1) := by decide +kernel
theorem d_M_take_6 : decode c_M_take 6 = .ok (.ifCond .ne 7, 3) := by decide +kernel
theorem d_M_take_9 : decode c_M_take 9 = .ok (.iconst 0, 1) := by decide +kernel
theorem d_M_take_10 : decode c_M_take 10 = .ok (.goto 28, 3) := by decide +kernel
theorem d_M_take_13 : decode c_M_take 13 = .ok (.aload_n 0, 1) := by decide +kernel
theorem d_M_take_14 : decode c_M_take 14 = .ok (.getfield 24, 3) := by decide +kernel
theorem d_M_take_17 : decode c_M_take 17 = .ok (.iload_n 1, 1) := by decide +kernel
theorem d_M_take_18 : decode c_M_take 18 = .ok (.iaload, 1) := by decide +kernel
theorem d_M_take_19 : decode c_M_take 19 = .ok (.ifCond .ge 13, 3) := by decide +kernel
theorem d_M_take_22 : decode c_M_take 22 = .ok (.aload_n 0, 1) := by decide +kernel
theorem d_M_take_23 : decode c_M_take 23 = .ok (.getfield 24, 3) := by decide +kernel
theorem d_M_take_26 : decode c_M_take 26 = .ok (.iload_n 1, 1) := by decide +kernel
theorem d_M_take_27 : decode c_M_take 27 = .ok (.iaload, 1) := by decide +kernel
theorem d_M_take_28 : decode c_M_take 28 = .ok (.ineg, 1) := by decide +kernel
theorem d_M_take_29 : decode c_M_take 29 = .ok (.goto 9, 3) := by decide +kernel
theorem d_M_take_32 : decode c_M_take 32 = .ok (.aload_n 0, 1) := by decide +kernel
theorem d_M_take_33 : decode c_M_take 33 = .ok (.getfield 24, 3) := by decide +kernel
theorem d_M_take_36 : decode c_M_take 36 = .ok (.iload_n 1, 1) := by decide +kernel
theorem d_M_take_37 : decode c_M_take 37 = .ok (.iaload, 1) := by decide +kernel
theorem d_M_take_38 : decode c_M_take 38 = .ok (.istore_n 2, 1) := by decide +kernel
theorem d_M_take_39 : decode c_M_take 39 = .ok (.aload_n 0, 1) := by decide +kernel
theorem d_M_take_40 : decode c_M_take 40 = .ok (.getfield 13, 3) := by decide +kernel
theorem d_M_take_43 : decode c_M_take 43 = .ok (.iload_n 1, 1) := by decide +kernel
theorem d_M_take_44 : decode c_M_take 44 = .ok (.iaload, 1) := by decide +kernel
theorem d_M_take_45 : decode c_M_take 45 = .ok (.iload_n 2, 1) := by decide +kernel
theorem d_M_take_46 : decode c_M_take 46 = .ok (.iadd, 1) := by decide +kernel
theorem d_M_take_47 : decode c_M_take 47 = .ok (.aload_n 0, 1) := by decide +kernel
theorem d_M_take_48 : decode c_M_take 48 = .ok (.getfield 82, 3) := by decide +kernel
theorem d_M_take_51 : decode c_M_take 51 = .ok (.if_icmp .le 5, 3) := by decide +kernel
theorem d_M_take_54 : decode c_M_take 54 = .ok (.iconst (-1), 1) := by decide +kernel
theorem d_M_take_55 : decode c_M_take 55 = .ok (.ireturn, 1) := by decide +kernel
theorem d_M_take_56 : decode c_M_take 56 = .ok (.lconst 0, 1) := by decide +kernel
theorem d_M_take_57 : decode c_M_take 57 = .ok (.lstore_n 3, 1) := by decide +kernel
theorem d_M_take_58 : decode c_M_take 58 = .ok (.iconst 0, 1) := by decide +kernel
theorem d_M_take_59 : decode c_M_take 59 = .ok (.istore 5, 2) := by decide +kernel
theorem d_M_take_61 : decode c_M_take 61 = .ok (.iload 5, 2) := by decide +kernel
theorem d_M_take_63 : decode c_M_take 63 = .ok (.iload_n 2, 1) := by decide +kernel
theorem d_M_take_64 : decode c_M_take 64 = .ok (.if_icmp .ge 31, 3) := by decide +kernel
theorem d_M_take_67 : decode c_M_take 67 = .ok (.ldc2_w 97, 3) := by decide +kernel
theorem d_M_take_70 : decode c_M_take 70 = .ok (.lload_n 3, 1) := by decide +kernel
theorem d_M_take_71 : decode c_M_take 71 = .ok (.lmul, 1) := by decide +kernel
theorem d_M_take_72 : decode c_M_take 72 = .ok (.aload_n 0, 1) := by decide +kernel
theorem d_M_take_73 : decode c_M_take 73 = .ok (.getfield 27, 3) := by decide +kernel
theorem d_M_take_76 : decode c_M_take 76 = .ok (.aload_n 0, 1) := by decide +kernel
theorem d_M_take_77 : decode c_M_take 77 = .ok (.getfield 13, 3) := by decide +kernel
theorem d_M_take_80 : decode c_M_take 80 = .ok (.iload_n 1, 1) := by decide +kernel
theorem d_M_take_81 : decode c_M_take 81 = .ok (.iaload, 1) := by decide +kernel
theorem d_M_take_82 : decode c_M_take 82 = .ok (.iload 5, 2) := by decide +kernel
theorem d_M_take_84 : decode c_M_take 84 = .ok (.iadd, 1) := by decide +kernel
theorem d_M_take_85 : decode c_M_take 85 = .ok (.iaload, 1) := by decide +kernel
theorem d_M_take_86 : decode c_M_take 86 = .ok (.i2l, 1) := by decide +kernel
theorem d_M_take_87 : decode c_M_take 87 = .ok (.ladd, 1) := by decide +kernel
theorem d_M_take_88 : decode c_M_take 88 = .ok (.lstore_n 3, 1) := by decide +kernel
theorem d_M_take_89 : decode c_M_take 89 = .ok (.iinc 5 1, 3) := by decide +kernel
theorem d_M_take_92 : decode c_M_take 92 = .ok (.goto (-31), 3) := by decide +kernel
theorem d_M_take_95 : decode c_M_take 95 = .ok (.aload_n 0, 1) := by decide +kernel
theorem d_M_take_96 : decode c_M_take 96 = .ok (.iconst 1, 1) := by decide +kernel
theorem d_M_take_97 : decode c_M_take 97 = .ok (.putfield 99, 3) := by decide +kernel
theorem d_M_take_100 : decode c_M_take 100 = .ok (.aload_n 0, 1) := by decide +kernel
theorem d_M_take_101 : decode c_M_take 101 = .ok (.aload_n 0, 1) := by decide +kernel
theorem d_M_take_102 : decode c_M_take 102 = .ok (.getfield 17, 3) := by decide +kernel
theorem d_M_take_105 : decode c_M_take 105 = .ok (.iload_n 1, 1) := by decide +kernel
theorem d_M_take_106 : decode c_M_take 106 = .ok (.baload, 1) := by decide +kernel
theorem d_M_take_107 : decode c_M_take 107 = .ok (.ifCond .ne 8, 3) := by decide +kernel
theorem d_M_take_110 : decode c_M_take 110 = .ok (.iload_n 1, 1) := by decide +kernel
theorem d_M_take_111 : decode c_M_take 111 = .ok (.i2l, 1) := by decide +kernel
theorem d_M_take_112 : decode c_M_take 112 = .ok (.goto 33, 3) := by decide +kernel
theorem d_M_take_115 : decode c_M_take 115 = .ok (.aload_n 0, 1) := by decide +kernel
theorem d_M_take_116 : decode c_M_take 116 = .ok (.getfield 24, 3) := by decide +kernel
theorem d_M_take_119 : decode c_M_take 119 = .ok (.iload_n 1, 1) := by decide +kernel
theorem d_M_take_120 : decode c_M_take 120 = .ok (.iaload, 1) := by decide +kernel
theorem d_M_take_121 : decode c_M_take 121 = .ok (.ifCond .ge 15, 3) := by decide +kernel
theorem d_M_take_124 : decode c_M_take 124 = .ok (.aload_n 0, 1) := by decide +kernel
theorem d_M_take_125 : decode c_M_take 125 = .ok (.getfield 21, 3) := by decide +kernel
theorem d_M_take_128 : decode c_M_take 128 = .ok (.iload_n 1, 1) := by decide +kernel
theorem d_M_take_129 : decode c_M_take 129 = .ok (.iaload, 1) := by decide +kernel
theorem d_M_take_130 : decode c_M_take 130 = .ok (.i2l, 1) := by decide +kernel
theorem d_M_take_131 : decode c_M_take 131 = .ok (.lload_n 3, 1) := by decide +kernel
theorem d_M_take_132 : decode c_M_take 132 = .ok (.lsub, 1) := by decide +kernel
theorem d_M_take_133 : decode c_M_take 133 = .ok (.goto 12, 3) := by decide +kernel
theorem d_M_take_136 : decode c_M_take 136 = .ok (.aload_n 0, 1) := by decide +kernel
theorem d_M_take_137 : decode c_M_take 137 = .ok (.getfield 21, 3) := by decide +kernel
theorem d_M_take_140 : decode c_M_take 140 = .ok (.iload_n 1, 1) := by decide +kernel
theorem d_M_take_141 : decode c_M_take 141 = .ok (.iaload, 1) := by decide +kernel
theorem d_M_take_142 : decode c_M_take 142 = .ok (.i2l, 1) := by decide +kernel
theorem d_M_take_143 : decode c_M_take 143 = .ok (.lload_n 3, 1) := by decide +kernel
theorem d_M_take_144 : decode c_M_take 144 = .ok (.ladd, 1) := by decide +kernel
theorem d_M_take_145 : decode c_M_take 145 = .ok (.putfield 103, 3) := by decide +kernel
theorem d_M_take_148 : decode c_M_take 148 = .ok (.aload_n 0, 1) := by decide +kernel
theorem d_M_take_149 : decode c_M_take 149 = .ok (.aload_n 0, 1) := by decide +kernel
theorem d_M_take_150 : decode c_M_take 150 = .ok (.getfield 13, 3) := by decide +kernel
theorem d_M_take_153 : decode c_M_take 153 = .ok (.iload_n 1, 1) := by decide +kernel
theorem d_M_take_154 : decode c_M_take 154 = .ok (.iaload, 1) := by decide +kernel
theorem d_M_take_155 : decode c_M_take 155 = .ok (.iload_n 2, 1) := by decide +kernel
theorem d_M_take_156 : decode c_M_take 156 = .ok (.iadd, 1) := by decide +kernel
theorem d_M_take_157 : decode c_M_take 157 = .ok (.invokevirtual 93, 3) := by decide +kernel
theorem d_M_take_160 : decode c_M_take 160 = .ok (.iload_n 1, 1) := by decide +kernel
theorem d_M_take_161 : decode c_M_take 161 = .ok (.ireturn, 1) := by decide +kernel
theorem d_M_last_0 : decode c_M_last 0 = .ok (.aload_n 0, 1) := by decide +kernel
theorem d_M_last_1 : decode c_M_last 1 = .ok (.aload_n 0, 1) := by decide +kernel
theorem d_M_last_2 : decode c_M_last 2 = .ok (.getfield 99, 3) := by decide +kernel
theorem d_M_last_5 : decode c_M_last 5 = .ok (.iconst 1, 1) := by decide +kernel
theorem d_M_last_6 : decode c_M_last 6 = .ok (.invokevirtual 61, 3) := by decide +kernel
theorem d_M_last_9 : decode c_M_last 9 = .ok (.ifCond .eq 7, 3) := by decide +kernel
theorem d_M_last_12 : decode c_M_last 12 = .ok (.lconst 0, 1) := by decide +kernel
theorem d_M_last_13 : decode c_M_last 13 = .ok (.goto 7, 3) := by decide +kernel
theorem d_M_last_16 : decode c_M_last 16 = .ok (.aload_n 0, 1) := by decide +kernel
theorem d_M_last_17 : decode c_M_last 17 = .ok (.getfield 103, 3) := by decide +kernel
theorem d_M_last_20 : decode c_M_last 20 = .ok (.lreturn, 1) := by decide +kernel
theorem d_M_waiting_0 : decode c_M_waiting 0 = .ok (.aload_n 0, 1) := by decide +kernel
theorem d_M_waiting_1 : decode c_M_waiting 1 = .ok (.iconst 0, 1) := by decide +kernel
theorem d_M_waiting_2 : decode c_M_waiting 2 = .ok (.putfield 52, 3) := by decide +kernel
theorem d_M_waiting_5 : decode c_M_waiting 5 = .ok (.aload_n 0, 1) := by decide +kernel
theorem d_M_waiting_6 : decode c_M_waiting 6 = .ok (.getfield 82, 3) := by decide +kernel
theorem d_M_waiting_9 : decode c_M_waiting 9 = .ok (.ireturn, 1) := by decide +kernel
theorem d_M_sum_0 : decode c_M_sum 0 = .ok (.aload_n 0, 1) := by decide +kernel
theorem d_M_sum_1 : decode c_M_sum 1 = .ok (.iconst 0, 1) := by decide +kernel
theorem d_M_sum_2 : decode c_M_sum 2 = .ok (.putfield 52, 3) := by decide +kernel
theorem d_M_sum_5 : decode c_M_sum 5 = .ok (.lconst 0, 1) := by decide +kernel
theorem d_M_sum_6 : decode c_M_sum 6 = .ok (.lstore_n 1, 1) := by decide +kernel
theorem d_M_sum_7 : decode c_M_sum 7 = .ok (.iconst 0, 1) := by decide +kernel
theorem d_M_sum_8 : decode c_M_sum 8 = .ok (.istore_n 3, 1) := by decide +kernel
theorem d_M_sum_9 : decode c_M_sum 9 = .ok (.iload_n 3, 1) := by decide +kernel
theorem d_M_sum_10 : decode c_M_sum 10 = .ok (.bipush 48, 2) := by decide +kernel
theorem d_M_sum_12 : decode c_M_sum 12 = .ok (.if_icmp .ge 26, 3) := by decide +kernel
theorem d_M_sum_15 : decode c_M_sum 15 = .ok (.lload_n 1, 1) := by decide +kernel
theorem d_M_sum_16 : decode c_M_sum 16 = .ok (.aload_n 0, 1) := by decide +kernel
theorem d_M_sum_17 : decode c_M_sum 17 = .ok (.getfield 7, 3) := by decide +kernel
theorem d_M_sum_20 : decode c_M_sum 20 = .ok (.iload_n 3, 1) := by decide +kernel
theorem d_M_sum_21 : decode c_M_sum 21 = .ok (.laload, 1) := by decide +kernel
theorem d_M_sum_22 : decode c_M_sum 22 = .ok (.aload_n 0, 1) := by decide +kernel
theorem d_M_sum_23 : decode c_M_sum 23 = .ok (.getfield 13, 3) := by decide +kernel
theorem d_M_sum_26 : decode c_M_sum 26 = .ok (.iload_n 3, 1) := by decide +kernel
theorem d_M_sum_27 : decode c_M_sum 27 = .ok (.iaload, 1) := by decide +kernel
theorem d_M_sum_28 : decode c_M_sum 28 = .ok (.i2l, 1) := by decide +kernel
theorem d_M_sum_29 : decode c_M_sum 29 = .ok (.lmul, 1) := by decide +kernel
theorem d_M_sum_30 : decode c_M_sum 30 = .ok (.ladd, 1) := by decide +kernel
theorem d_M_sum_31 : decode c_M_sum 31 = .ok (.lstore_n 1, 1) := by decide +kernel
theorem d_M_sum_32 : decode c_M_sum 32 = .ok (.iinc 3 1, 3) := by decide +kernel
theorem d_M_sum_35 : decode c_M_sum 35 = .ok (.goto (-26), 3) := by decide +kernel
theorem d_M_sum_38 : decode c_M_sum 38 = .ok (.lload_n 1, 1) := by decide +kernel
theorem d_M_sum_39 : decode c_M_sum 39 = .ok (.lreturn, 1) := by decide +kernel
theorem d_M_lengths_0 : decode c_M_lengths 0 = .ok (.aload_n 0, 1) := by decide +kernel
theorem d_M_lengths_1 : decode c_M_lengths 1 = .ok (.iconst 0, 1) := by decide +kernel
theorem d_M_lengths_2 : decode c_M_lengths 2 = .ok (.putfield 52, 3) := by decide +kernel
theorem d_M_lengths_5 : decode c_M_lengths 5 = .ok (.bipush 48, 2) := by decide +kernel
theorem d_M_lengths_7 : decode c_M_lengths 7 = .ok (.istore_n 2, 1) := by decide +kernel
theorem d_M_lengths_8 : decode c_M_lengths 8 = .ok (.iload_n 2, 1) := by decide +kernel
theorem d_M_lengths_9 : decode c_M_lengths 9 = .ok (.ifCond .le 20, 3) := by decide +kernel
theorem d_M_lengths_12 : decode c_M_lengths 12 = .ok (.aload_n 0, 1) := by decide +kernel
theorem d_M_lengths_13 : decode c_M_lengths 13 = .ok (.getfield 13, 3) := by decide +kernel
theorem d_M_lengths_16 : decode c_M_lengths 16 = .ok (.iload_n 2, 1) := by decide +kernel
theorem d_M_lengths_17 : decode c_M_lengths 17 = .ok (.iconst 1, 1) := by decide +kernel
theorem d_M_lengths_18 : decode c_M_lengths 18 = .ok (.isub, 1) := by decide +kernel
theorem d_M_lengths_19 : decode c_M_lengths 19 = .ok (.iaload, 1) := by decide +kernel
theorem d_M_lengths_20 : decode c_M_lengths 20 = .ok (.ifCond .ne 9, 3) := by decide +kernel
theorem d_M_lengths_23 : decode c_M_lengths 23 = .ok (.iinc 2 (-1), 3) := by decide +kernel
theorem d_M_lengths_26 : decode c_M_lengths 26 = .ok (.goto (-18), 3) := by decide +kernel
theorem d_M_lengths_29 : decode c_M_lengths 29 = .ok (.iconst 0, 1) := by decide +kernel
theorem d_M_lengths_30 : decode c_M_lengths 30 = .ok (.istore_n 3, 1) := by decide +kernel
theorem d_M_lengths_31 : decode c_M_lengths 31 = .ok (.iconst 0, 1) := by decide +kernel
theorem d_M_lengths_32 : decode c_M_lengths 32 = .ok (.istore 4, 2) := by decide +kernel
theorem d_M_lengths_34 : decode c_M_lengths 34 = .ok (.iload 4, 2) := by decide +kernel
theorem d_M_lengths_36 : decode c_M_lengths 36 = .ok (.iload_n 2, 1) := by decide +kernel
theorem d_M_lengths_37 : decode c_M_lengths 37 = .ok (.if_icmp .ge 172, 3) := by decide +kernel
theorem d_M_lengths_40 : decode c_M_lengths 40 = .ok (.iconst 1, 1) := by decide +kernel
theorem d_M_lengths_41 : decode c_M_lengths 41 = .ok (.istore 5, 2) := by decide +kernel
theorem d_M_lengths_43 : decode c_M_lengths 43 = .ok (.iload 4, 2) := by decide +kernel
theorem d_M_lengths_45 : decode c_M_lengths 45 = .ok (.iload 5, 2) := by decide +kernel
theorem d_M_lengths_47 : decode c_M_lengths 47 = .ok (.iadd, 1) := by decide +kernel
theorem d_M_lengths_48 : decode c_M_lengths 48 = .ok (.iload_n 2, 1) := by decide +kernel
theorem d_M_lengths_49 : decode c_M_lengths 49 = .ok (.if_icmp .ge 29, 3) := by decide +kernel
theorem d_M_lengths_52 : decode c_M_lengths 52 = .ok (.aload_n 0, 1) := by decide +kernel
theorem d_M_lengths_53 : decode c_M_lengths 53 = .ok (.getfield 13, 3) := by decide +kernel
theorem d_M_lengths_56 : decode c_M_lengths 56 = .ok (.iload 4, 2) := by decide +kernel
theorem d_M_lengths_58 : decode c_M_lengths 58 = .ok (.iload 5, 2) := by decide +kernel
theorem d_M_lengths_60 : decode c_M_lengths 60 = .ok (.iadd, 1) := by decide +kernel
theorem d_M_lengths_61 : decode c_M_lengths 61 = .ok (.iaload, 1) := by decide +kernel
theorem d_M_lengths_62 : decode c_M_lengths 62 = .ok (.aload_n 0, 1) := by decide +kernel
theorem d_M_lengths_63 : decode c_M_lengths 63 = .ok (.getfield 13, 3) := by decide +kernel
theorem d_M_lengths_66 : decode c_M_lengths 66 = .ok (.iload 4, 2) := by decide +kernel
theorem d_M_lengths_68 : decode c_M_lengths 68 = .ok (.iaload, 1) := by decide +kernel
theorem d_M_lengths_69 : decode c_M_lengths 69 = .ok (.if_icmp .ne 9, 3) := by decide +kernel
theorem d_M_lengths_72 : decode c_M_lengths 72 = .ok (.iinc 5 1, 3) := by decide +kernel
theorem d_M_lengths_75 : decode c_M_lengths 75 = .ok (.goto (-32), 3) := by decide +kernel
theorem d_M_lengths_78 : decode c_M_lengths 78 = .ok (.aload_n 0, 1) := by decide +kernel
theorem d_M_lengths_79 : decode c_M_lengths 79 = .ok (.getfield 13, 3) := by decide +kernel
theorem d_M_lengths_82 : decode c_M_lengths 82 = .ok (.iload 4, 2) := by decide +kernel
theorem d_M_lengths_84 : decode c_M_lengths 84 = .ok (.iaload, 1) := by decide +kernel
theorem d_M_lengths_85 : decode c_M_lengths 85 = .ok (.istore 6, 2) := by decide +kernel
theorem d_M_lengths_87 : decode c_M_lengths 87 = .ok (.iconst 1, 1) := by decide +kernel
theorem d_M_lengths_88 : decode c_M_lengths 88 = .ok (.istore 7, 2) := by decide +kernel
theorem d_M_lengths_90 : decode c_M_lengths 90 = .ok (.aload_n 0, 1) := by decide +kernel
theorem d_M_lengths_91 : decode c_M_lengths 91 = .ok (.getfield 13, 3) := by decide +kernel
theorem d_M_lengths_94 : decode c_M_lengths 94 = .ok (.iload 4, 2) := by decide +kernel
theorem d_M_lengths_96 : decode c_M_lengths 96 = .ok (.iaload, 1) := by decide +kernel
theorem d_M_lengths_97 : decode c_M_lengths 97 = .ok (.ifCond .ne 38, 3) := by decide +kernel
theorem d_M_lengths_100 : decode c_M_lengths 100 = .ok (.iload 5, 2) := by decide +kernel
theorem d_M_lengths_102 : decode c_M_lengths 102 = .ok (.iconst 2, 1) := by decide +kernel
theorem d_M_lengths_103 : decode c_M_lengths 103 = .ok (.if_icmp .le 32, 3) := by decide +kernel
theorem d_M_lengths_106 : decode c_M_lengths 106 = .ok (.iload 5, 2) := by decide +kernel
theorem d_M_lengths_108 : decode c_M_lengths 108 = .ok (.sipush 138, 3) := by decide +kernel
theorem d_M_lengths_111 : decode c_M_lengths 111 = .ok (.if_icmp .le 9, 3) := by decide +kernel
theorem d_M_lengths_114 : decode c_M_lengths 114 = .ok (.sipush 138, 3) := by decide +kernel
theorem d_M_lengths_117 : decode c_M_lengths 117 = .ok (.goto 5, 3) := by decide +kernel
theorem d_M_lengths_120 : decode c_M_lengths 120 = .ok (.iload 5, 2) := by decide +kernel
theorem d_M_lengths_122 : decode c_M_lengths 122 = .ok (.istore 7, 2) := by decide +kernel
theorem d_M_lengths_124 : decode c_M_lengths 124 = .ok (.sipush 200, 3) := by decide +kernel
theorem d_M_lengths_127 : decode c_M_lengths 127 = .ok (.iload 7, 2) := by decide +kernel
theorem d_M_lengths_129 : decode c_M_lengths 129 = .ok (.iadd, 1) := by decide +kernel
theorem d_M_lengths_130 : decode c_M_lengths 130 = .ok (.istore 6, 2) := by decide +kernel
theorem d_M_lengths_132 : decode c_M_lengths 132 = .ok (.goto 56, 3) := by decide +kernel
theorem d_M_lengths_135 : decode c_M_lengths 135 = .ok (.iload 4, 2) := by decide +kernel
theorem d_M_lengths_137 : decode c_M_lengths 137 = .ok (.ifCond .le 51, 3) := by decide +kernel
theorem d_M_lengths_140 : decode c_M_lengths 140 = .ok (.aload_n 0, 1) := by decide +kernel
theorem d_M_lengths_141 : decode c_M_lengths 141 = .ok (.getfield 13, 3) := by decide +kernel
theorem d_M_lengths_144 : decode c_M_lengths 144 = .ok (.iload 4, 2) := by decide +kernel
theorem d_M_lengths_146 : decode c_M_lengths 146 = .ok (.iaload, 1) := by decide +kernel
theorem d_M_lengths_147 : decode c_M_lengths 147 = .ok (.aload_n 0, 1) := by decide +kernel
theorem d_M_lengths_148 : decode c_M_lengths 148 = .ok (.getfield 13, 3) := by decide +kernel
theorem d_M_lengths_151 : decode c_M_lengths 151 = .ok (.iload 4, 2) := by decide +kernel
theorem d_M_lengths_153 : decode c_M_lengths 153 = .ok (.iconst 1, 1) := by decide +kernel
theorem d_M_lengths_154 : decode c_M_lengths 154 = .ok (.isub, 1) := by decide +kernel
theorem d_M_lengths_155 : decode c_M_lengths 155 = .ok (.iaload, 1) := by decide +kernel
theorem d_M_lengths_156 : decode c_M_lengths 156 = .ok (.if_icmp .ne 32, 3) := by decide +kernel
theorem d_M_lengths_159 : decode c_M_lengths 159 = .ok (.iload 5, 2) := by decide +kernel
theorem d_M_lengths_161 : decode c_M_lengths 161 = .ok (.iconst 2, 1) := by decide +kernel
theorem d_M_lengths_162 : decode c_M_lengths 162 = .ok (.if_icmp .le 26, 3) := by decide +kernel
theorem d_M_lengths_165 : decode c_M_lengths 165 = .ok (.iload 5, 2) := by decide +kernel
theorem d_M_lengths_167 : decode c_M_lengths 167 = .ok (.bipush 6, 2) := by decide +kernel
theorem d_M_lengths_169 : decode c_M_lengths 169 = .ok (.if_icmp .le 8, 3) := by decide +kernel
theorem d_M_lengths_172 : decode c_M_lengths 172 = .ok (.bipush 6, 2) := by decide +kernel
theorem d_M_lengths_174 : decode c_M_lengths 174 = .ok (.goto 5, 3) := by decide +kernel
theorem d_M_lengths_177 : decode c_M_lengths 177 = .ok (.iload 5, 2) := by decide +kernel
theorem d_M_lengths_179 : decode c_M_lengths 179 = .ok (.istore 7, 2) := by decide +kernel
theorem d_M_lengths_181 : decode c_M_lengths 181 = .ok (.bipush 100, 2) := by decide +kernel
theorem d_M_lengths_183 : decode c_M_lengths 183 = .ok (.iload 7, 2) := by decide +kernel
theorem d_M_lengths_185 : decode c_M_lengths 185 = .ok (.iadd, 1) := by decide +kernel
theorem d_M_lengths_186 : decode c_M_lengths 186 = .ok (.istore 6, 2) := by decide +kernel
theorem d_M_lengths_188 : decode c_M_lengths 188 = .ok (.iload_n 3, 1) := by decide +kernel
theorem d_M_lengths_189 : decode c_M_lengths 189 = .ok (.iload_n 1, 1) := by decide +kernel
theorem d_M_lengths_190 : decode c_M_lengths 190 = .ok (.if_icmp .ne 6, 3) := by decide +kernel
theorem d_M_lengths_193 : decode c_M_lengths 193 = .ok (.iload 6, 2) := by decide +kernel
theorem d_M_lengths_195 : decode c_M_lengths 195 = .ok (.ireturn, 1) := by decide +kernel
theorem d_M_lengths_196 : decode c_M_lengths 196 = .ok (.iinc 3 1, 3) := by decide +kernel
theorem d_M_lengths_199 : decode c_M_lengths 199 = .ok (.iload 4, 2) := by decide +kernel
theorem d_M_lengths_201 : decode c_M_lengths 201 = .ok (.iload 7, 2) := by decide +kernel
theorem d_M_lengths_203 : decode c_M_lengths 203 = .ok (.iadd, 1) := by decide +kernel
theorem d_M_lengths_204 : decode c_M_lengths 204 = .ok (.istore 4, 2) := by decide +kernel
theorem d_M_lengths_206 : decode c_M_lengths 206 = .ok (.goto (-172), 3) := by decide +kernel
theorem d_M_lengths_209 : decode c_M_lengths 209 = .ok (.iconst (-1), 1) := by decide +kernel
theorem d_M_lengths_210 : decode c_M_lengths 210 = .ok (.ireturn, 1) := by decide +kernel
theorem d_M_clear_0 : decode c_M_clear 0 = .ok (.aload_n 0, 1) := by decide +kernel
theorem d_M_clear_1 : decode c_M_clear 1 = .ok (.iconst 0, 1) := by decide +kernel
theorem d_M_clear_2 : decode c_M_clear 2 = .ok (.putfield 52, 3) := by decide +kernel
theorem d_M_clear_5 : decode c_M_clear 5 = .ok (.iconst 0, 1) := by decide +kernel
theorem d_M_clear_6 : decode c_M_clear 6 = .ok (.istore_n 1, 1) := by decide +kernel
theorem d_M_clear_7 : decode c_M_clear 7 = .ok (.iload_n 1, 1) := by decide +kernel
theorem d_M_clear_8 : decode c_M_clear 8 = .ok (.bipush 48, 2) := by decide +kernel
theorem d_M_clear_10 : decode c_M_clear 10 = .ok (.if_icmp .ge 30, 3) := by decide +kernel
theorem d_M_clear_13 : decode c_M_clear 13 = .ok (.aload_n 0, 1) := by decide +kernel
theorem d_M_clear_14 : decode c_M_clear 14 = .ok (.getfield 7, 3) := by decide +kernel
theorem d_M_clear_17 : decode c_M_clear 17 = .ok (.iload_n 1, 1) := by decide +kernel
theorem d_M_clear_18 : decode c_M_clear 18 = .ok (.lconst 0, 1) := by decide +kernel
theorem d_M_clear_19 : decode c_M_clear 19 = .ok (.lastore, 1) := by decide +kernel
theorem d_M_clear_20 : decode c_M_clear 20 = .ok (.aload_n 0, 1) := by decide +kernel
theorem d_M_clear_21 : decode c_M_clear 21 = .ok (.getfield 13, 3) := by decide +kernel
theorem d_M_clear_24 : decode c_M_clear 24 = .ok (.iload_n 1, 1) := by decide +kernel
theorem d_M_clear_25 : decode c_M_clear 25 = .ok (.iconst 0, 1) := by decide +kernel
theorem d_M_clear_26 : decode c_M_clear 26 = .ok (.iastore, 1) := by decide +kernel
theorem d_M_clear_27 : decode c_M_clear 27 = .ok (.aload_n 0, 1) := by decide +kernel
theorem d_M_clear_28 : decode c_M_clear 28 = .ok (.getfield 17, 3) := by decide +kernel
theorem d_M_clear_31 : decode c_M_clear 31 = .ok (.iload_n 1, 1) := by decide +kernel
theorem d_M_clear_32 : decode c_M_clear 32 = .ok (.iconst 0, 1) := by decide +kernel
theorem d_M_clear_33 : decode c_M_clear 33 = .ok (.bastore, 1) := by decide +kernel
theorem d_M_clear_34 : decode c_M_clear 34 = .ok (.iinc 1 1, 3) := by decide +kernel
theorem d_M_clear_37 : decode c_M_clear 37 = .ok (.goto (-30), 3) := by decide +kernel
theorem d_M_clear_40 : decode c_M_clear 40 = .ok (.aload_n 0, 1) := by decide +kernel
theorem d_M_clear_41 : decode c_M_clear 41 = .ok (.iconst 0, 1) := by decide +kernel
theorem d_M_clear_42 : decode c_M_clear 42 = .ok (.putfield 82, 3) := by decide +kernel
theorem d_M_clear_45 : decode c_M_clear 45 = .ok (.aload_n 0, 1) := by decide +kernel
theorem d_M_clear_46 : decode c_M_clear 46 = .ok (.iconst 0, 1) := by decide +kernel
theorem d_M_clear_47 : decode c_M_clear 47 = .ok (.putfield 99, 3) := by decide +kernel
theorem d_M_clear_50 : decode c_M_clear 50 = .ok (.return_, 1) := by decide +kernel
end
section
theorem d_L_cell_0 : decode c_L_cell 0 = .ok (.iload_n 1, 1) := by decide +kernel
theorem d_L_cell_1 : decode c_L_cell 1 = .ok (.aload_n 0, 1) := by decide +kernel
theorem d_L_cell_2 : decode c_L_cell 2 = .ok (.arraylength, 1) := by decide +kernel
theorem d_L_cell_3 : decode c_L_cell 3 = .ok (.if_icmp .ge 9, 3) := by decide +kernel
theorem d_L_cell_6 : decode c_L_cell 6 = .ok (.aload_n 0, 1) := by decide +kernel
theorem d_L_cell_7 : decode c_L_cell 7 = .ok (.iload_n 1, 1) := by decide +kernel
theorem d_L_cell_8 : decode c_L_cell 8 = .ok (.iaload, 1) := by decide +kernel
theorem d_L_cell_9 : decode c_L_cell 9 = .ok (.goto 4, 3) := by decide +kernel
theorem d_L_cell_12 : decode c_L_cell 12 = .ok (.iconst 0, 1) := by decide +kernel
theorem d_L_cell_13 : decode c_L_cell 13 = .ok (.ireturn, 1) := by decide +kernel
theorem d_L_count_0 : decode c_L_count 0 = .ok (.aload 4, 2) := by decide +kernel
theorem d_L_count_2 : decode c_L_count 2 = .ok (.iconst 0, 1) := by decide +kernel
theorem d_L_count_3 : decode c_L_count 3 = .ok (.aload_n 0, 1) := by decide +kernel
theorem d_L_count_4 : decode c_L_count 4 = .ok (.iload_n 1, 1) := by decide +kernel
theorem d_L_count_5 : decode c_L_count 5 = .ok (.lload_n 2, 1) := by decide +kernel
theorem d_L_count_6 : decode c_L_count 6 = .ok (.invokevirtual 7, 3) := by decide +kernel
theorem d_L_count_9 : decode c_L_count 9 = .ok (.ifCond .eq 7, 3) := by decide +kernel
theorem d_L_count_12 : decode c_L_count 12 = .ok (.lconst 1, 1) := by decide +kernel
theorem d_L_count_13 : decode c_L_count 13 = .ok (.goto 4, 3) := by decide +kernel
theorem d_L_count_16 : decode c_L_count 16 = .ok (.lconst 0, 1) := by decide +kernel
theorem d_L_count_17 : decode c_L_count 17 = .ok (.lastore, 1) := by decide +kernel
theorem d_L_count_18 : decode c_L_count 18 = .ok (.goto 11, 3) := by decide +kernel
theorem d_L_count_21 : decode c_L_count 21 = .ok (.astore 5, 2) := by decide +kernel
theorem d_L_count_23 : decode c_L_count 23 = .ok (.iconst 1, 1) := by decide +kernel
theorem d_L_count_24 : decode c_L_count 24 = .ok (.ireturn, 1) := by decide +kernel
theorem d_L_count_25 : decode c_L_count 25 = .ok (.astore 5, 2) := by decide +kernel
theorem d_L_count_27 : decode c_L_count 27 = .ok (.iconst 2, 1) := by decide +kernel
theorem d_L_count_28 : decode c_L_count 28 = .ok (.ireturn, 1) := by decide +kernel
theorem d_L_count_29 : decode c_L_count 29 = .ok (.iconst 0, 1) := by decide +kernel
theorem d_L_count_30 : decode c_L_count 30 = .ok (.ireturn, 1) := by decide +kernel
theorem d_L_make_0 : decode c_L_make 0 = .ok (.aload_n 2, 1) := by decide +kernel
theorem d_L_make_1 : decode c_L_make 1 = .ok (.iconst 0, 1) := by decide +kernel
theorem d_L_make_2 : decode c_L_make 2 = .ok (.aload_n 0, 1) := by decide +kernel
theorem d_L_make_3 : decode c_L_make 3 = .ok (.iload_n 1, 1) := by decide +kernel
theorem d_L_make_4 : decode c_L_make 4 = .ok (.invokevirtual 17, 3) := by decide +kernel
theorem d_L_make_7 : decode c_L_make 7 = .ok (.i2l, 1) := by decide +kernel
theorem d_L_make_8 : decode c_L_make 8 = .ok (.lastore, 1) := by decide +kernel
theorem d_L_make_9 : decode c_L_make 9 = .ok (.goto 6, 3) := by decide +kernel
theorem d_L_make_12 : decode c_L_make 12 = .ok (.astore_n 3, 1) := by decide +kernel
theorem d_L_make_13 : decode c_L_make 13 = .ok (.iconst 1, 1) := by decide +kernel
theorem d_L_make_14 : decode c_L_make 14 = .ok (.ireturn, 1) := by decide +kernel
theorem d_L_make_15 : decode c_L_make 15 = .ok (.iconst 0, 1) := by decide +kernel
theorem d_L_make_16 : decode c_L_make 16 = .ok (.ireturn, 1) := by decide +kernel
theorem d_L_length_0 : decode c_L_length 0 = .ok (.aload_n 2, 1) := by decide +kernel
theorem d_L_length_1 : decode c_L_length 1 = .ok (.iconst 0, 1) := by decide +kernel
theorem d_L_length_2 : decode c_L_length 2 = .ok (.aload_n 0, 1) := by decide +kernel
theorem d_L_length_3 : decode c_L_length 3 = .ok (.iload_n 1, 1) := by decide +kernel
theorem d_L_length_4 : decode c_L_length 4 = .ok (.invokevirtual 21, 3) := by decide +kernel
theorem d_L_length_7 : decode c_L_length 7 = .ok (.i2l, 1) := by decide +kernel
theorem d_L_length_8 : decode c_L_length 8 = .ok (.lastore, 1) := by decide +kernel
theorem d_L_length_9 : decode c_L_length 9 = .ok (.goto 6, 3) := by decide +kernel
theorem d_L_length_12 : decode c_L_length 12 = .ok (.astore_n 3, 1) := by decide +kernel
theorem d_L_length_13 : decode c_L_length 13 = .ok (.iconst 1, 1) := by decide +kernel
theorem d_L_length_14 : decode c_L_length 14 = .ok (.ireturn, 1) := by decide +kernel
theorem d_L_length_15 : decode c_L_length 15 = .ok (.iconst 0, 1) := by decide +kernel
theorem d_L_length_16 : decode c_L_length 16 = .ok (.ireturn, 1) := by decide +kernel
theorem d_L_code_0 : decode c_L_code 0 = .ok (.aload_n 2, 1) := by decide +kernel
theorem d_L_code_1 : decode c_L_code 1 = .ok (.iconst 0, 1) := by decide +kernel
theorem d_L_code_2 : decode c_L_code 2 = .ok (.aload_n 0, 1) := by decide +kernel
theorem d_L_code_3 : decode c_L_code 3 = .ok (.iload_n 1, 1) := by decide +kernel
theorem d_L_code_4 : decode c_L_code 4 = .ok (.invokevirtual 24, 3) := by decide +kernel
theorem d_L_code_7 : decode c_L_code 7 = .ok (.lastore, 1) := by decide +kernel
theorem d_L_code_8 : decode c_L_code 8 = .ok (.goto 9, 3) := by decide +kernel
theorem d_L_code_11 : decode c_L_code 11 = .ok (.astore_n 3, 1) := by decide +kernel
theorem d_L_code_12 : decode c_L_code 12 = .ok (.iconst 1, 1) := by decide +kernel
theorem d_L_code_13 : decode c_L_code 13 = .ok (.ireturn, 1) := by decide +kernel
theorem d_L_code_14 : decode c_L_code 14 = .ok (.astore_n 3, 1) := by decide +kernel
theorem d_L_code_15 : decode c_L_code 15 = .ok (.iconst 2, 1) := by decide +kernel
theorem d_L_code_16 : decode c_L_code 16 = .ok (.ireturn, 1) := by decide +kernel
theorem d_L_code_17 : decode c_L_code 17 = .ok (.iconst 0, 1) := by decide +kernel
theorem d_L_code_18 : decode c_L_code 18 = .ok (.ireturn, 1) := by decide +kernel
theorem d_L_given_0 : decode c_L_given 0 = .ok (.aload_n 3, 1) := by decide +kernel
theorem d_L_given_1 : decode c_L_given 1 = .ok (.iconst 0, 1) := by decide +kernel
theorem d_L_given_2 : decode c_L_given 2 = .ok (.aload_n 0, 1) := by decide +kernel
theorem d_L_given_3 : decode c_L_given 3 = .ok (.iload_n 1, 1) := by decide +kernel
theorem d_L_given_4 : decode c_L_given 4 = .ok (.iload_n 2, 1) := by decide +kernel
theorem d_L_given_5 : decode c_L_given 5 = .ok (.invokevirtual 30, 3) := by decide +kernel
theorem d_L_given_8 : decode c_L_given 8 = .ok (.ifCond .eq 7, 3) := by decide +kernel
theorem d_L_given_11 : decode c_L_given 11 = .ok (.lconst 1, 1) := by decide +kernel
theorem d_L_given_12 : decode c_L_given 12 = .ok (.goto 4, 3) := by decide +kernel
theorem d_L_given_15 : decode c_L_given 15 = .ok (.lconst 0, 1) := by decide +kernel
theorem d_L_given_16 : decode c_L_given 16 = .ok (.lastore, 1) := by decide +kernel
theorem d_L_given_17 : decode c_L_given 17 = .ok (.goto 11, 3) := by decide +kernel
theorem d_L_given_20 : decode c_L_given 20 = .ok (.astore 4, 2) := by decide +kernel
theorem d_L_given_22 : decode c_L_given 22 = .ok (.iconst 1, 1) := by decide +kernel
theorem d_L_given_23 : decode c_L_given 23 = .ok (.ireturn, 1) := by decide +kernel
theorem d_L_given_24 : decode c_L_given 24 = .ok (.astore 4, 2) := by decide +kernel
theorem d_L_given_26 : decode c_L_given 26 = .ok (.iconst 2, 1) := by decide +kernel
theorem d_L_given_27 : decode c_L_given 27 = .ok (.ireturn, 1) := by decide +kernel
theorem d_L_given_28 : decode c_L_given 28 = .ok (.iconst 0, 1) := by decide +kernel
theorem d_L_given_29 : decode c_L_given 29 = .ok (.ireturn, 1) := by decide +kernel
theorem d_L_range_0 : decode c_L_range 0 = .ok (.aload 5, 2) := by decide +kernel
theorem d_L_range_2 : decode c_L_range 2 = .ok (.iconst 0, 1) := by decide +kernel
theorem d_L_range_3 : decode c_L_range 3 = .ok (.aload_n 0, 1) := by decide +kernel
theorem d_L_range_4 : decode c_L_range 4 = .ok (.iload_n 1, 1) := by decide +kernel
theorem d_L_range_5 : decode c_L_range 5 = .ok (.iload_n 2, 1) := by decide +kernel
theorem d_L_range_6 : decode c_L_range 6 = .ok (.iload_n 3, 1) := by decide +kernel
theorem d_L_range_7 : decode c_L_range 7 = .ok (.iload 4, 2) := by decide +kernel
theorem d_L_range_9 : decode c_L_range 9 = .ok (.invokevirtual 34, 3) := by decide +kernel
theorem d_L_range_12 : decode c_L_range 12 = .ok (.ifCond .eq 7, 3) := by decide +kernel
theorem d_L_range_15 : decode c_L_range 15 = .ok (.lconst 1, 1) := by decide +kernel
theorem d_L_range_16 : decode c_L_range 16 = .ok (.goto 4, 3) := by decide +kernel
theorem d_L_range_19 : decode c_L_range 19 = .ok (.lconst 0, 1) := by decide +kernel
theorem d_L_range_20 : decode c_L_range 20 = .ok (.lastore, 1) := by decide +kernel
theorem d_L_range_21 : decode c_L_range 21 = .ok (.goto 11, 3) := by decide +kernel
theorem d_L_range_24 : decode c_L_range 24 = .ok (.astore 6, 2) := by decide +kernel
theorem d_L_range_26 : decode c_L_range 26 = .ok (.iconst 1, 1) := by decide +kernel
theorem d_L_range_27 : decode c_L_range 27 = .ok (.ireturn, 1) := by decide +kernel
theorem d_L_range_28 : decode c_L_range 28 = .ok (.astore 6, 2) := by decide +kernel
theorem d_L_range_30 : decode c_L_range 30 = .ok (.iconst 2, 1) := by decide +kernel
theorem d_L_range_31 : decode c_L_range 31 = .ok (.ireturn, 1) := by decide +kernel
theorem d_L_range_32 : decode c_L_range 32 = .ok (.iconst 0, 1) := by decide +kernel
theorem d_L_range_33 : decode c_L_range 33 = .ok (.ireturn, 1) := by decide +kernel
theorem d_L_feed_0 : decode c_L_feed 0 = .ok (.aload_n 2, 1) := by decide +kernel
theorem d_L_feed_1 : decode c_L_feed 1 = .ok (.iconst 0, 1) := by decide +kernel
theorem d_L_feed_2 : decode c_L_feed 2 = .ok (.aload_n 0, 1) := by decide +kernel
theorem d_L_feed_3 : decode c_L_feed 3 = .ok (.iload_n 1, 1) := by decide +kernel
theorem d_L_feed_4 : decode c_L_feed 4 = .ok (.invokevirtual 38, 3) := by decide +kernel
theorem d_L_feed_7 : decode c_L_feed 7 = .ok (.ifCond .eq 7, 3) := by decide +kernel
theorem d_L_feed_10 : decode c_L_feed 10 = .ok (.lconst 1, 1) := by decide +kernel
theorem d_L_feed_11 : decode c_L_feed 11 = .ok (.goto 4, 3) := by decide +kernel
theorem d_L_feed_14 : decode c_L_feed 14 = .ok (.lconst 0, 1) := by decide +kernel
theorem d_L_feed_15 : decode c_L_feed 15 = .ok (.lastore, 1) := by decide +kernel
theorem d_L_feed_16 : decode c_L_feed 16 = .ok (.goto 6, 3) := by decide +kernel
theorem d_L_feed_19 : decode c_L_feed 19 = .ok (.astore_n 3, 1) := by decide +kernel
theorem d_L_feed_20 : decode c_L_feed 20 = .ok (.iconst 1, 1) := by decide +kernel
theorem d_L_feed_21 : decode c_L_feed 21 = .ok (.ireturn, 1) := by decide +kernel
theorem d_L_feed_22 : decode c_L_feed 22 = .ok (.iconst 0, 1) := by decide +kernel
theorem d_L_feed_23 : decode c_L_feed 23 = .ok (.ireturn, 1) := by decide +kernel
theorem d_L_read_0 : decode c_L_read 0 = .ok (.aload_n 1, 1) := by decide +kernel
theorem d_L_read_1 : decode c_L_read 1 = .ok (.iconst 0, 1) := by decide +kernel
theorem d_L_read_2 : decode c_L_read 2 = .ok (.aload_n 0, 1) := by decide +kernel
theorem d_L_read_3 : decode c_L_read 3 = .ok (.invokevirtual 42, 3) := by decide +kernel
theorem d_L_read_6 : decode c_L_read 6 = .ok (.i2l, 1) := by decide +kernel
theorem d_L_read_7 : decode c_L_read 7 = .ok (.lastore, 1) := by decide +kernel
theorem d_L_read_8 : decode c_L_read 8 = .ok (.goto 6, 3) := by decide +kernel
theorem d_L_read_11 : decode c_L_read 11 = .ok (.astore_n 2, 1) := by decide +kernel
theorem d_L_read_12 : decode c_L_read 12 = .ok (.iconst 1, 1) := by decide +kernel
theorem d_L_read_13 : decode c_L_read 13 = .ok (.ireturn, 1) := by decide +kernel
theorem d_L_read_14 : decode c_L_read 14 = .ok (.iconst 0, 1) := by decide +kernel
theorem d_L_read_15 : decode c_L_read 15 = .ok (.ireturn, 1) := by decide +kernel
theorem d_L_last_0 : decode c_L_last 0 = .ok (.aload_n 1, 1) := by decide +kernel
theorem d_L_last_1 : decode c_L_last 1 = .ok (.iconst 0, 1) := by decide +kernel
theorem d_L_last_2 : decode c_L_last 2 = .ok (.aload_n 0, 1) := by decide +kernel
theorem d_L_last_3 : decode c_L_last 3 = .ok (.invokevirtual 46, 3) := by decide +kernel
theorem d_L_last_6 : decode c_L_last 6 = .ok (.lastore, 1) := by decide +kernel
theorem d_L_last_7 : decode c_L_last 7 = .ok (.goto 6, 3) := by decide +kernel
theorem d_L_last_10 : decode c_L_last 10 = .ok (.astore_n 2, 1) := by decide +kernel
theorem d_L_last_11 : decode c_L_last 11 = .ok (.iconst 1, 1) := by decide +kernel
theorem d_L_last_12 : decode c_L_last 12 = .ok (.ireturn, 1) := by decide +kernel
theorem d_L_last_13 : decode c_L_last 13 = .ok (.iconst 0, 1) := by decide +kernel
theorem d_L_last_14 : decode c_L_last 14 = .ok (.ireturn, 1) := by decide +kernel
theorem d_L_law_0 : decode c_L_law 0 = .ok (.new 8, 3) := by decide +kernel
theorem d_L_law_3 : decode c_L_law 3 = .ok (.dup, 1) := by decide +kernel
theorem d_L_law_4 : decode c_L_law 4 = .ok (.aload_n 0, 1) := by decide +kernel
theorem d_L_law_5 : decode c_L_law 5 = .ok (.iconst 0, 1) := by decide +kernel
theorem d_L_law_6 : decode c_L_law 6 = .ok (.invokestatic 50, 3) := by decide +kernel
theorem d_L_law_9 : decode c_L_law 9 = .ok (.invokespecial 56, 3) := by decide +kernel
theorem d_L_law_12 : decode c_L_law 12 = .ok (.astore_n 1, 1) := by decide +kernel
theorem d_L_law_13 : decode c_L_law 13 = .ok (.new 59, 3) := by decide +kernel
theorem d_L_law_16 : decode c_L_law 16 = .ok (.dup, 1) := by decide +kernel
theorem d_L_law_17 : decode c_L_law 17 = .ok (.aload_n 0, 1) := by decide +kernel
theorem d_L_law_18 : decode c_L_law 18 = .ok (.iconst 0, 1) := by decide +kernel
theorem d_L_law_19 : decode c_L_law 19 = .ok (.invokestatic 50, 3) := by decide +kernel
theorem d_L_law_22 : decode c_L_law 22 = .ok (.invokespecial 61, 3) := by decide +kernel
theorem d_L_law_25 : decode c_L_law 25 = .ok (.astore_n 2, 1) := by decide +kernel
theorem d_L_law_26 : decode c_L_law 26 = .ok (.iconst 1, 1) := by decide +kernel
theorem d_L_law_27 : decode c_L_law 27 = .ok (.newarray .long, 2) := by decide +kernel
theorem d_L_law_29 : decode c_L_law 29 = .ok (.astore_n 3, 1) := by decide +kernel
theorem d_L_law_30 : decode c_L_law 30 = .ok (.iconst 1, 1) := by decide +kernel
theorem d_L_law_31 : decode c_L_law 31 = .ok (.istore 4, 2) := by decide +kernel
theorem d_L_law_33 : decode c_L_law 33 = .ok (.iload 4, 2) := by decide +kernel
theorem d_L_law_35 : decode c_L_law 35 = .ok (.aload_n 0, 1) := by decide +kernel
theorem d_L_law_36 : decode c_L_law 36 = .ok (.arraylength, 1) := by decide +kernel
theorem d_L_law_37 : decode c_L_law 37 = .ok (.iconst 5, 1) := by decide +kernel
theorem d_L_law_38 : decode c_L_law 38 = .ok (.isub, 1) := by decide +kernel
theorem d_L_law_39 : decode c_L_law 39 = .ok (.if_icmp .gt 761, 3) := by decide +kernel
theorem d_L_law_42 : decode c_L_law 42 = .ok (.aload_n 0, 1) := by decide +kernel
theorem d_L_law_43 : decode c_L_law 43 = .ok (.iload 4, 2) := by decide +kernel
theorem d_L_law_45 : decode c_L_law 45 = .ok (.iaload, 1) := by decide +kernel
theorem d_L_law_46 : decode c_L_law 46 = .ok (.bipush 15, 2) := by decide +kernel
theorem d_L_law_48 : decode c_L_law 48 = .ok (.iand, 1) := by decide +kernel
theorem d_L_law_49 : decode c_L_law 49 = .ok (.tableswitch 745 0 13 #[71, 178, 234, 290, 345, 420, 519, 532, 595, 639, 682, 695, 709, 734], 71) := by decide +kernel
theorem d_L_law_120 : decode c_L_law 120 = .ok (.aload_n 1, 1) := by decide +kernel
theorem d_L_law_121 : decode c_L_law 121 = .ok (.aload_n 0, 1) := by decide +kernel
theorem d_L_law_122 : decode c_L_law 122 = .ok (.iload 4, 2) := by decide +kernel
theorem d_L_law_124 : decode c_L_law 124 = .ok (.iconst 1, 1) := by decide +kernel
theorem d_L_law_125 : decode c_L_law 125 = .ok (.iadd, 1) := by decide +kernel
theorem d_L_law_126 : decode c_L_law 126 = .ok (.iaload, 1) := by decide +kernel
theorem d_L_law_127 : decode c_L_law 127 = .ok (.aload_n 0, 1) := by decide +kernel
theorem d_L_law_128 : decode c_L_law 128 = .ok (.iload 4, 2) := by decide +kernel
theorem d_L_law_130 : decode c_L_law 130 = .ok (.iconst 2, 1) := by decide +kernel
theorem d_L_law_131 : decode c_L_law 131 = .ok (.iadd, 1) := by decide +kernel
theorem d_L_law_132 : decode c_L_law 132 = .ok (.iaload, 1) := by decide +kernel
theorem d_L_law_133 : decode c_L_law 133 = .ok (.i2l, 1) := by decide +kernel
theorem d_L_law_134 : decode c_L_law 134 = .ok (.bipush 32, 2) := by decide +kernel
theorem d_L_law_136 : decode c_L_law 136 = .ok (.lshl, 1) := by decide +kernel
theorem d_L_law_137 : decode c_L_law 137 = .ok (.aload_n 0, 1) := by decide +kernel
theorem d_L_law_138 : decode c_L_law 138 = .ok (.iload 4, 2) := by decide +kernel
theorem d_L_law_140 : decode c_L_law 140 = .ok (.iconst 3, 1) := by decide +kernel
theorem d_L_law_141 : decode c_L_law 141 = .ok (.iadd, 1) := by decide +kernel
theorem d_L_law_142 : decode c_L_law 142 = .ok (.iaload, 1) := by decide +kernel
theorem d_L_law_143 : decode c_L_law 143 = .ok (.i2l, 1) := by decide +kernel
theorem d_L_law_144 : decode c_L_law 144 = .ok (.ldc2_w 62, 3) := by decide +kernel
theorem d_L_law_147 : decode c_L_law 147 = .ok (.land, 1) := by decide +kernel
theorem d_L_law_148 : decode c_L_law 148 = .ok (.lor, 1) := by decide +kernel
theorem d_L_law_149 : decode c_L_law 149 = .ok (.aload_n 3, 1) := by decide +kernel
theorem d_L_law_150 : decode c_L_law 150 = .ok (.invokestatic 64, 3) := by decide +kernel
theorem d_L_law_153 : decode c_L_law 153 = .ok (.istore 5, 2) := by decide +kernel
theorem d_L_law_155 : decode c_L_law 155 = .ok (.aload_n 2, 1) := by decide +kernel
theorem d_L_law_156 : decode c_L_law 156 = .ok (.aload_n 0, 1) := by decide +kernel
theorem d_L_law_157 : decode c_L_law 157 = .ok (.iload 4, 2) := by decide +kernel
theorem d_L_law_159 : decode c_L_law 159 = .ok (.iconst 1, 1) := by decide +kernel
theorem d_L_law_160 : decode c_L_law 160 = .ok (.iadd, 1) := by decide +kernel
theorem d_L_law_161 : decode c_L_law 161 = .ok (.iaload, 1) := by decide +kernel
theorem d_L_law_162 : decode c_L_law 162 = .ok (.aload_n 0, 1) := by decide +kernel
theorem d_L_law_163 : decode c_L_law 163 = .ok (.iload 4, 2) := by decide +kernel
theorem d_L_law_165 : decode c_L_law 165 = .ok (.iconst 2, 1) := by decide +kernel
theorem d_L_law_166 : decode c_L_law 166 = .ok (.iadd, 1) := by decide +kernel
theorem d_L_law_167 : decode c_L_law 167 = .ok (.iaload, 1) := by decide +kernel
theorem d_L_law_168 : decode c_L_law 168 = .ok (.i2l, 1) := by decide +kernel
theorem d_L_law_169 : decode c_L_law 169 = .ok (.bipush 32, 2) := by decide +kernel
theorem d_L_law_171 : decode c_L_law 171 = .ok (.lshl, 1) := by decide +kernel
theorem d_L_law_172 : decode c_L_law 172 = .ok (.aload_n 0, 1) := by decide +kernel
theorem d_L_law_173 : decode c_L_law 173 = .ok (.iload 4, 2) := by decide +kernel
theorem d_L_law_175 : decode c_L_law 175 = .ok (.iconst 3, 1) := by decide +kernel
theorem d_L_law_176 : decode c_L_law 176 = .ok (.iadd, 1) := by decide +kernel
theorem d_L_law_177 : decode c_L_law 177 = .ok (.iaload, 1) := by decide +kernel
theorem d_L_law_178 : decode c_L_law 178 = .ok (.i2l, 1) := by decide +kernel
theorem d_L_law_179 : decode c_L_law 179 = .ok (.ldc2_w 62, 3) := by decide +kernel
theorem d_L_law_182 : decode c_L_law 182 = .ok (.land, 1) := by decide +kernel
theorem d_L_law_183 : decode c_L_law 183 = .ok (.lor, 1) := by decide +kernel
theorem d_L_law_184 : decode c_L_law 184 = .ok (.invokevirtual 67, 3) := by decide +kernel
theorem d_L_law_187 : decode c_L_law 187 = .ok (.istore 6, 2) := by decide +kernel
theorem d_L_law_189 : decode c_L_law 189 = .ok (.aload_n 2, 1) := by decide +kernel
theorem d_L_law_190 : decode c_L_law 190 = .ok (.invokevirtual 68, 3) := by decide +kernel
theorem d_L_law_193 : decode c_L_law 193 = .ok (.iload 5, 2) := by decide +kernel
theorem d_L_law_195 : decode c_L_law 195 = .ok (.if_icmp .eq 5, 3) := by decide +kernel
theorem d_L_law_198 : decode c_L_law 198 = .ok (.iconst 0, 1) := by decide +kernel
theorem d_L_law_199 : decode c_L_law 199 = .ok (.ireturn, 1) := by decide +kernel
theorem d_L_law_200 : decode c_L_law 200 = .ok (.iload 5, 2) := by decide +kernel
theorem d_L_law_202 : decode c_L_law 202 = .ok (.ifCond .ne 22, 3) := by decide +kernel
theorem d_L_law_205 : decode c_L_law 205 = .ok (.aload_n 3, 1) := by decide +kernel
theorem d_L_law_206 : decode c_L_law 206 = .ok (.iconst 0, 1) := by decide +kernel
theorem d_L_law_207 : decode c_L_law 207 = .ok (.laload, 1) := by decide +kernel
theorem d_L_law_208 : decode c_L_law 208 = .ok (.iload 6, 2) := by decide +kernel
theorem d_L_law_210 : decode c_L_law 210 = .ok (.ifCond .eq 7, 3) := by decide +kernel
theorem d_L_law_213 : decode c_L_law 213 = .ok (.lconst 1, 1) := by decide +kernel
theorem d_L_law_214 : decode c_L_law 214 = .ok (.goto 4, 3) := by decide +kernel
theorem d_L_law_217 : decode c_L_law 217 = .ok (.lconst 0, 1) := by decide +kernel
theorem d_L_law_218 : decode c_L_law 218 = .ok (.lcmp, 1) := by decide +kernel
theorem d_L_law_219 : decode c_L_law 219 = .ok (.ifCond .eq 5, 3) := by decide +kernel
theorem d_L_law_222 : decode c_L_law 222 = .ok (.iconst 0, 1) := by decide +kernel
theorem d_L_law_223 : decode c_L_law 223 = .ok (.ireturn, 1) := by decide +kernel
theorem d_L_law_224 : decode c_L_law 224 = .ok (.goto 570, 3) := by decide +kernel
theorem d_L_law_227 : decode c_L_law 227 = .ok (.aload_n 1, 1) := by decide +kernel
theorem d_L_law_228 : decode c_L_law 228 = .ok (.aload_n 0, 1) := by decide +kernel
theorem d_L_law_229 : decode c_L_law 229 = .ok (.iload 4, 2) := by decide +kernel
theorem d_L_law_231 : decode c_L_law 231 = .ok (.iconst 1, 1) := by decide +kernel
theorem d_L_law_232 : decode c_L_law 232 = .ok (.iadd, 1) := by decide +kernel
theorem d_L_law_233 : decode c_L_law 233 = .ok (.iaload, 1) := by decide +kernel
theorem d_L_law_234 : decode c_L_law 234 = .ok (.aload_n 3, 1) := by decide +kernel
theorem d_L_law_235 : decode c_L_law 235 = .ok (.invokestatic 71, 3) := by decide +kernel
theorem d_L_law_238 : decode c_L_law 238 = .ok (.istore 5, 2) := by decide +kernel
theorem d_L_law_240 : decode c_L_law 240 = .ok (.aload_n 2, 1) := by decide +kernel
theorem d_L_law_241 : decode c_L_law 241 = .ok (.aload_n 0, 1) := by decide +kernel
theorem d_L_law_242 : decode c_L_law 242 = .ok (.iload 4, 2) := by decide +kernel
theorem d_L_law_244 : decode c_L_law 244 = .ok (.iconst 1, 1) := by decide +kernel
theorem d_L_law_245 : decode c_L_law 245 = .ok (.iadd, 1) := by decide +kernel
theorem d_L_law_246 : decode c_L_law 246 = .ok (.iaload, 1) := by decide +kernel
theorem d_L_law_247 : decode c_L_law 247 = .ok (.invokevirtual 74, 3) := by decide +kernel
theorem d_L_law_250 : decode c_L_law 250 = .ok (.istore 6, 2) := by decide +kernel
theorem d_L_law_252 : decode c_L_law 252 = .ok (.aload_n 2, 1) := by decide +kernel
theorem d_L_law_253 : decode c_L_law 253 = .ok (.invokevirtual 68, 3) := by decide +kernel
theorem d_L_law_256 : decode c_L_law 256 = .ok (.iload 5, 2) := by decide +kernel
theorem d_L_law_258 : decode c_L_law 258 = .ok (.if_icmp .eq 5, 3) := by decide +kernel
theorem d_L_law_261 : decode c_L_law 261 = .ok (.iconst 0, 1) := by decide +kernel
theorem d_L_law_262 : decode c_L_law 262 = .ok (.ireturn, 1) := by decide +kernel
theorem d_L_law_263 : decode c_L_law 263 = .ok (.iload 5, 2) := by decide +kernel
theorem d_L_law_265 : decode c_L_law 265 = .ok (.ifCond .ne 15, 3) := by decide +kernel
theorem d_L_law_268 : decode c_L_law 268 = .ok (.aload_n 3, 1) := by decide +kernel
theorem d_L_law_269 : decode c_L_law 269 = .ok (.iconst 0, 1) := by decide +kernel
theorem d_L_law_270 : decode c_L_law 270 = .ok (.laload, 1) := by decide +kernel
theorem d_L_law_271 : decode c_L_law 271 = .ok (.iload 6, 2) := by decide +kernel
theorem d_L_law_273 : decode c_L_law 273 = .ok (.i2l, 1) := by decide +kernel
theorem d_L_law_274 : decode c_L_law 274 = .ok (.lcmp, 1) := by decide +kernel
theorem d_L_law_275 : decode c_L_law 275 = .ok (.ifCond .eq 5, 3) := by decide +kernel
theorem d_L_law_278 : decode c_L_law 278 = .ok (.iconst 0, 1) := by decide +kernel
theorem d_L_law_279 : decode c_L_law 279 = .ok (.ireturn, 1) := by decide +kernel
theorem d_L_law_280 : decode c_L_law 280 = .ok (.goto 514, 3) := by decide +kernel
theorem d_L_law_283 : decode c_L_law 283 = .ok (.aload_n 1, 1) := by decide +kernel
theorem d_L_law_284 : decode c_L_law 284 = .ok (.aload_n 0, 1) := by decide +kernel
theorem d_L_law_285 : decode c_L_law 285 = .ok (.iload 4, 2) := by decide +kernel
theorem d_L_law_287 : decode c_L_law 287 = .ok (.iconst 1, 1) := by decide +kernel
theorem d_L_law_288 : decode c_L_law 288 = .ok (.iadd, 1) := by decide +kernel
theorem d_L_law_289 : decode c_L_law 289 = .ok (.iaload, 1) := by decide +kernel
theorem d_L_law_290 : decode c_L_law 290 = .ok (.aload_n 3, 1) := by decide +kernel
theorem d_L_law_291 : decode c_L_law 291 = .ok (.invokestatic 75, 3) := by decide +kernel
theorem d_L_law_294 : decode c_L_law 294 = .ok (.istore 5, 2) := by decide +kernel
theorem d_L_law_296 : decode c_L_law 296 = .ok (.aload_n 2, 1) := by decide +kernel
theorem d_L_law_297 : decode c_L_law 297 = .ok (.aload_n 0, 1) := by decide +kernel
theorem d_L_law_298 : decode c_L_law 298 = .ok (.iload 4, 2) := by decide +kernel
theorem d_L_law_300 : decode c_L_law 300 = .ok (.iconst 1, 1) := by decide +kernel
theorem d_L_law_301 : decode c_L_law 301 = .ok (.iadd, 1) := by decide +kernel
theorem d_L_law_302 : decode c_L_law 302 = .ok (.iaload, 1) := by decide +kernel
theorem d_L_law_303 : decode c_L_law 303 = .ok (.invokevirtual 77, 3) := by decide +kernel
theorem d_L_law_306 : decode c_L_law 306 = .ok (.istore 6, 2) := by decide +kernel
theorem d_L_law_308 : decode c_L_law 308 = .ok (.aload_n 2, 1) := by decide +kernel
theorem d_L_law_309 : decode c_L_law 309 = .ok (.invokevirtual 68, 3) := by decide +kernel
theorem d_L_law_312 : decode c_L_law 312 = .ok (.iload 5, 2) := by decide +kernel
theorem d_L_law_314 : decode c_L_law 314 = .ok (.if_icmp .eq 5, 3) := by decide +kernel
theorem d_L_law_317 : decode c_L_law 317 = .ok (.iconst 0, 1) := by decide +kernel
theorem d_L_law_318 : decode c_L_law 318 = .ok (.ireturn, 1) := by decide +kernel
theorem d_L_law_319 : decode c_L_law 319 = .ok (.iload 5, 2) := by decide +kernel
theorem d_L_law_321 : decode c_L_law 321 = .ok (.ifCond .ne 15, 3) := by decide +kernel
theorem d_L_law_324 : decode c_L_law 324 = .ok (.aload_n 3, 1) := by decide +kernel
theorem d_L_law_325 : decode c_L_law 325 = .ok (.iconst 0, 1) := by decide +kernel
theorem d_L_law_326 : decode c_L_law 326 = .ok (.laload, 1) := by decide +kernel
theorem d_L_law_327 : decode c_L_law 327 = .ok (.iload 6, 2) := by decide +kernel
theorem d_L_law_329 : decode c_L_law 329 = .ok (.i2l, 1) := by decide +kernel
theorem d_L_law_330 : decode c_L_law 330 = .ok (.lcmp, 1) := by decide +kernel
theorem d_L_law_331 : decode c_L_law 331 = .ok (.ifCond .eq 5, 3) := by decide +kernel
theorem d_L_law_334 : decode c_L_law 334 = .ok (.iconst 0, 1) := by decide +kernel
theorem d_L_law_335 : decode c_L_law 335 = .ok (.ireturn, 1) := by decide +kernel
theorem d_L_law_336 : decode c_L_law 336 = .ok (.goto 458, 3) := by decide +kernel
theorem d_L_law_339 : decode c_L_law 339 = .ok (.aload_n 1, 1) := by decide +kernel
theorem d_L_law_340 : decode c_L_law 340 = .ok (.aload_n 0, 1) := by decide +kernel
theorem d_L_law_341 : decode c_L_law 341 = .ok (.iload 4, 2) := by decide +kernel
theorem d_L_law_343 : decode c_L_law 343 = .ok (.iconst 1, 1) := by decide +kernel
theorem d_L_law_344 : decode c_L_law 344 = .ok (.iadd, 1) := by decide +kernel
theorem d_L_law_345 : decode c_L_law 345 = .ok (.iaload, 1) := by decide +kernel
theorem d_L_law_346 : decode c_L_law 346 = .ok (.aload_n 3, 1) := by decide +kernel
theorem d_L_law_347 : decode c_L_law 347 = .ok (.invokestatic 78, 3) := by decide +kernel
theorem d_L_law_350 : decode c_L_law 350 = .ok (.istore 5, 2) := by decide +kernel
theorem d_L_law_352 : decode c_L_law 352 = .ok (.aload_n 2, 1) := by decide +kernel
theorem d_L_law_353 : decode c_L_law 353 = .ok (.aload_n 0, 1) := by decide +kernel
theorem d_L_law_354 : decode c_L_law 354 = .ok (.iload 4, 2) := by decide +kernel
theorem d_L_law_356 : decode c_L_law 356 = .ok (.iconst 1, 1) := by decide +kernel
theorem d_L_law_357 : decode c_L_law 357 = .ok (.iadd, 1) := by decide +kernel
theorem d_L_law_358 : decode c_L_law 358 = .ok (.iaload, 1) := by decide +kernel
theorem d_L_law_359 : decode c_L_law 359 = .ok (.invokevirtual 80, 3) := by decide +kernel
theorem d_L_law_362 : decode c_L_law 362 = .ok (.lstore 6, 2) := by decide +kernel
theorem d_L_law_364 : decode c_L_law 364 = .ok (.aload_n 2, 1) := by decide +kernel
theorem d_L_law_365 : decode c_L_law 365 = .ok (.invokevirtual 68, 3) := by decide +kernel
theorem d_L_law_368 : decode c_L_law 368 = .ok (.iload 5, 2) := by decide +kernel
theorem d_L_law_370 : decode c_L_law 370 = .ok (.if_icmp .eq 5, 3) := by decide +kernel
theorem d_L_law_373 : decode c_L_law 373 = .ok (.iconst 0, 1) := by decide +kernel
theorem d_L_law_374 : decode c_L_law 374 = .ok (.ireturn, 1) := by decide +kernel
theorem d_L_law_375 : decode c_L_law 375 = .ok (.iload 5, 2) := by decide +kernel
theorem d_L_law_377 : decode c_L_law 377 = .ok (.ifCond .ne 14, 3) := by decide +kernel
theorem d_L_law_380 : decode c_L_law 380 = .ok (.aload_n 3, 1) := by decide +kernel
theorem d_L_law_381 : decode c_L_law 381 = .ok (.iconst 0, 1) := by decide +kernel
theorem d_L_law_382 : decode c_L_law 382 = .ok (.laload, 1) := by decide +kernel
theorem d_L_law_383 : decode c_L_law 383 = .ok (.lload 6, 2) := by decide +kernel
theorem d_L_law_385 : decode c_L_law 385 = .ok (.lcmp, 1) := by decide +kernel
theorem d_L_law_386 : decode c_L_law 386 = .ok (.ifCond .eq 5, 3) := by decide +kernel
theorem d_L_law_389 : decode c_L_law 389 = .ok (.iconst 0, 1) := by decide +kernel
theorem d_L_law_390 : decode c_L_law 390 = .ok (.ireturn, 1) := by decide +kernel
theorem d_L_law_391 : decode c_L_law 391 = .ok (.goto 403, 3) := by decide +kernel
theorem d_L_law_394 : decode c_L_law 394 = .ok (.aload_n 1, 1) := by decide +kernel
theorem d_L_law_395 : decode c_L_law 395 = .ok (.aload_n 0, 1) := by decide +kernel
theorem d_L_law_396 : decode c_L_law 396 = .ok (.iload 4, 2) := by decide +kernel
theorem d_L_law_398 : decode c_L_law 398 = .ok (.iconst 1, 1) := by decide +kernel
theorem d_L_law_399 : decode c_L_law 399 = .ok (.iadd, 1) := by decide +kernel
theorem d_L_law_400 : decode c_L_law 400 = .ok (.iaload, 1) := by decide +kernel
theorem d_L_law_401 : decode c_L_law 401 = .ok (.aload_n 0, 1) := by decide +kernel
theorem d_L_law_402 : decode c_L_law 402 = .ok (.iload 4, 2) := by decide +kernel
theorem d_L_law_404 : decode c_L_law 404 = .ok (.iconst 2, 1) := by decide +kernel
theorem d_L_law_405 : decode c_L_law 405 = .ok (.iadd, 1) := by decide +kernel
theorem d_L_law_406 : decode c_L_law 406 = .ok (.iaload, 1) := by decide +kernel
theorem d_L_law_407 : decode c_L_law 407 = .ok (.aload_n 3, 1) := by decide +kernel
theorem d_L_law_408 : decode c_L_law 408 = .ok (.invokestatic 81, 3) := by decide +kernel
theorem d_L_law_411 : decode c_L_law 411 = .ok (.istore 5, 2) := by decide +kernel
theorem d_L_law_413 : decode c_L_law 413 = .ok (.aload_n 2, 1) := by decide +kernel
theorem d_L_law_414 : decode c_L_law 414 = .ok (.aload_n 0, 1) := by decide +kernel
theorem d_L_law_415 : decode c_L_law 415 = .ok (.iload 4, 2) := by decide +kernel
theorem d_L_law_417 : decode c_L_law 417 = .ok (.iconst 1, 1) := by decide +kernel
theorem d_L_law_418 : decode c_L_law 418 = .ok (.iadd, 1) := by decide +kernel
theorem d_L_law_419 : decode c_L_law 419 = .ok (.iaload, 1) := by decide +kernel
theorem d_L_law_420 : decode c_L_law 420 = .ok (.aload_n 0, 1) := by decide +kernel
theorem d_L_law_421 : decode c_L_law 421 = .ok (.iload 4, 2) := by decide +kernel
theorem d_L_law_423 : decode c_L_law 423 = .ok (.iconst 2, 1) := by decide +kernel
theorem d_L_law_424 : decode c_L_law 424 = .ok (.iadd, 1) := by decide +kernel
theorem d_L_law_425 : decode c_L_law 425 = .ok (.iaload, 1) := by decide +kernel
theorem d_L_law_426 : decode c_L_law 426 = .ok (.invokevirtual 84, 3) := by decide +kernel
theorem d_L_law_429 : decode c_L_law 429 = .ok (.istore 6, 2) := by decide +kernel
theorem d_L_law_431 : decode c_L_law 431 = .ok (.aload_n 2, 1) := by decide +kernel
theorem d_L_law_432 : decode c_L_law 432 = .ok (.invokevirtual 68, 3) := by decide +kernel
theorem d_L_law_435 : decode c_L_law 435 = .ok (.iload 5, 2) := by decide +kernel
theorem d_L_law_437 : decode c_L_law 437 = .ok (.if_icmp .eq 5, 3) := by decide +kernel
theorem d_L_law_440 : decode c_L_law 440 = .ok (.iconst 0, 1) := by decide +kernel
theorem d_L_law_441 : decode c_L_law 441 = .ok (.ireturn, 1) := by decide +kernel
theorem d_L_law_442 : decode c_L_law 442 = .ok (.iload 5, 2) := by decide +kernel
theorem d_L_law_444 : decode c_L_law 444 = .ok (.ifCond .ne 22, 3) := by decide +kernel
theorem d_L_law_447 : decode c_L_law 447 = .ok (.aload_n 3, 1) := by decide +kernel
theorem d_L_law_448 : decode c_L_law 448 = .ok (.iconst 0, 1) := by decide +kernel
theorem d_L_law_449 : decode c_L_law 449 = .ok (.laload, 1) := by decide +kernel
theorem d_L_law_450 : decode c_L_law 450 = .ok (.iload 6, 2) := by decide +kernel
theorem d_L_law_452 : decode c_L_law 452 = .ok (.ifCond .eq 7, 3) := by decide +kernel
theorem d_L_law_455 : decode c_L_law 455 = .ok (.lconst 1, 1) := by decide +kernel
theorem d_L_law_456 : decode c_L_law 456 = .ok (.goto 4, 3) := by decide +kernel
theorem d_L_law_459 : decode c_L_law 459 = .ok (.lconst 0, 1) := by decide +kernel
theorem d_L_law_460 : decode c_L_law 460 = .ok (.lcmp, 1) := by decide +kernel
theorem d_L_law_461 : decode c_L_law 461 = .ok (.ifCond .eq 5, 3) := by decide +kernel
theorem d_L_law_464 : decode c_L_law 464 = .ok (.iconst 0, 1) := by decide +kernel
theorem d_L_law_465 : decode c_L_law 465 = .ok (.ireturn, 1) := by decide +kernel
theorem d_L_law_466 : decode c_L_law 466 = .ok (.goto 328, 3) := by decide +kernel
theorem d_L_law_469 : decode c_L_law 469 = .ok (.aload_n 1, 1) := by decide +kernel
theorem d_L_law_470 : decode c_L_law 470 = .ok (.aload_n 0, 1) := by decide +kernel
theorem d_L_law_471 : decode c_L_law 471 = .ok (.iload 4, 2) := by decide +kernel
theorem d_L_law_473 : decode c_L_law 473 = .ok (.iconst 1, 1) := by decide +kernel
theorem d_L_law_474 : decode c_L_law 474 = .ok (.iadd, 1) := by decide +kernel
theorem d_L_law_475 : decode c_L_law 475 = .ok (.iaload, 1) := by decide +kernel
theorem d_L_law_476 : decode c_L_law 476 = .ok (.aload_n 0, 1) := by decide +kernel
theorem d_L_law_477 : decode c_L_law 477 = .ok (.iload 4, 2) := by decide +kernel
theorem d_L_law_479 : decode c_L_law 479 = .ok (.iconst 2, 1) := by decide +kernel
theorem d_L_law_480 : decode c_L_law 480 = .ok (.iadd, 1) := by decide +kernel
theorem d_L_law_481 : decode c_L_law 481 = .ok (.iaload, 1) := by decide +kernel
theorem d_L_law_482 : decode c_L_law 482 = .ok (.aload_n 0, 1) := by decide +kernel
theorem d_L_law_483 : decode c_L_law 483 = .ok (.iload 4, 2) := by decide +kernel
theorem d_L_law_485 : decode c_L_law 485 = .ok (.iconst 3, 1) := by decide +kernel
theorem d_L_law_486 : decode c_L_law 486 = .ok (.iadd, 1) := by decide +kernel
theorem d_L_law_487 : decode c_L_law 487 = .ok (.iaload, 1) := by decide +kernel
theorem d_L_law_488 : decode c_L_law 488 = .ok (.aload_n 0, 1) := by decide +kernel
theorem d_L_law_489 : decode c_L_law 489 = .ok (.iload 4, 2) := by decide +kernel
theorem d_L_law_491 : decode c_L_law 491 = .ok (.iconst 4, 1) := by decide +kernel
theorem d_L_law_492 : decode c_L_law 492 = .ok (.iadd, 1) := by decide +kernel
theorem d_L_law_493 : decode c_L_law 493 = .ok (.iaload, 1) := by decide +kernel
theorem d_L_law_494 : decode c_L_law 494 = .ok (.aload_n 3, 1) := by decide +kernel
theorem d_L_law_495 : decode c_L_law 495 = .ok (.invokestatic 85, 3) := by decide +kernel
theorem d_L_law_498 : decode c_L_law 498 = .ok (.istore 5, 2) := by decide +kernel
theorem d_L_law_500 : decode c_L_law 500 = .ok (.aload_n 2, 1) := by decide +kernel
theorem d_L_law_501 : decode c_L_law 501 = .ok (.aload_n 0, 1) := by decide +kernel
theorem d_L_law_502 : decode c_L_law 502 = .ok (.iload 4, 2) := by decide +kernel
theorem d_L_law_504 : decode c_L_law 504 = .ok (.iconst 1, 1) := by decide +kernel
theorem d_L_law_505 : decode c_L_law 505 = .ok (.iadd, 1) := by decide +kernel
theorem d_L_law_506 : decode c_L_law 506 = .ok (.iaload, 1) := by decide +kernel
theorem d_L_law_507 : decode c_L_law 507 = .ok (.aload_n 0, 1) := by decide +kernel
theorem d_L_law_508 : decode c_L_law 508 = .ok (.iload 4, 2) := by decide +kernel
theorem d_L_law_510 : decode c_L_law 510 = .ok (.iconst 2, 1) := by decide +kernel
theorem d_L_law_511 : decode c_L_law 511 = .ok (.iadd, 1) := by decide +kernel
theorem d_L_law_512 : decode c_L_law 512 = .ok (.iaload, 1) := by decide +kernel
theorem d_L_law_513 : decode c_L_law 513 = .ok (.aload_n 0, 1) := by decide +kernel
theorem d_L_law_514 : decode c_L_law 514 = .ok (.iload 4, 2) := by decide +kernel
theorem d_L_law_516 : decode c_L_law 516 = .ok (.iconst 3, 1) := by decide +kernel
theorem d_L_law_517 : decode c_L_law 517 = .ok (.iadd, 1) := by decide +kernel
theorem d_L_law_518 : decode c_L_law 518 = .ok (.iaload, 1) := by decide +kernel
theorem d_L_law_519 : decode c_L_law 519 = .ok (.aload_n 0, 1) := by decide +kernel
theorem d_L_law_520 : decode c_L_law 520 = .ok (.iload 4, 2) := by decide +kernel
theorem d_L_law_522 : decode c_L_law 522 = .ok (.iconst 4, 1) := by decide +kernel
theorem d_L_law_523 : decode c_L_law 523 = .ok (.iadd, 1) := by decide +kernel
theorem d_L_law_524 : decode c_L_law 524 = .ok (.iaload, 1) := by decide +kernel
theorem d_L_law_525 : decode c_L_law 525 = .ok (.invokevirtual 88, 3) := by decide +kernel
theorem d_L_law_528 : decode c_L_law 528 = .ok (.istore 6, 2) := by decide +kernel
theorem d_L_law_530 : decode c_L_law 530 = .ok (.aload_n 2, 1) := by decide +kernel
theorem d_L_law_531 : decode c_L_law 531 = .ok (.invokevirtual 68, 3) := by decide +kernel
theorem d_L_law_534 : decode c_L_law 534 = .ok (.iload 5, 2) := by decide +kernel
theorem d_L_law_536 : decode c_L_law 536 = .ok (.if_icmp .eq 5, 3) := by decide +kernel
theorem d_L_law_539 : decode c_L_law 539 = .ok (.iconst 0, 1) := by decide +kernel
theorem d_L_law_540 : decode c_L_law 540 = .ok (.ireturn, 1) := by decide +kernel
theorem d_L_law_541 : decode c_L_law 541 = .ok (.iload 5, 2) := by decide +kernel
theorem d_L_law_543 : decode c_L_law 543 = .ok (.ifCond .ne 22, 3) := by decide +kernel
theorem d_L_law_546 : decode c_L_law 546 = .ok (.aload_n 3, 1) := by decide +kernel
theorem d_L_law_547 : decode c_L_law 547 = .ok (.iconst 0, 1) := by decide +kernel
theorem d_L_law_548 : decode c_L_law 548 = .ok (.laload, 1) := by decide +kernel
theorem d_L_law_549 : decode c_L_law 549 = .ok (.iload 6, 2) := by decide +kernel
theorem d_L_law_551 : decode c_L_law 551 = .ok (.ifCond .eq 7, 3) := by decide +kernel
theorem d_L_law_554 : decode c_L_law 554 = .ok (.lconst 1, 1) := by decide +kernel
theorem d_L_law_555 : decode c_L_law 555 = .ok (.goto 4, 3) := by decide +kernel
theorem d_L_law_558 : decode c_L_law 558 = .ok (.lconst 0, 1) := by decide +kernel
theorem d_L_law_559 : decode c_L_law 559 = .ok (.lcmp, 1) := by decide +kernel
theorem d_L_law_560 : decode c_L_law 560 = .ok (.ifCond .eq 5, 3) := by decide +kernel
theorem d_L_law_563 : decode c_L_law 563 = .ok (.iconst 0, 1) := by decide +kernel
theorem d_L_law_564 : decode c_L_law 564 = .ok (.ireturn, 1) := by decide +kernel
theorem d_L_law_565 : decode c_L_law 565 = .ok (.goto 229, 3) := by decide +kernel
theorem d_L_law_568 : decode c_L_law 568 = .ok (.aload_n 1, 1) := by decide +kernel
theorem d_L_law_569 : decode c_L_law 569 = .ok (.invokevirtual 89, 3) := by decide +kernel
theorem d_L_law_572 : decode c_L_law 572 = .ok (.aload_n 2, 1) := by decide +kernel
theorem d_L_law_573 : decode c_L_law 573 = .ok (.invokevirtual 92, 3) := by decide +kernel
theorem d_L_law_576 : decode c_L_law 576 = .ok (.if_icmp .eq 218, 3) := by decide +kernel
theorem d_L_law_579 : decode c_L_law 579 = .ok (.iconst 0, 1) := by decide +kernel
theorem d_L_law_580 : decode c_L_law 580 = .ok (.ireturn, 1) := by decide +kernel
theorem d_L_law_581 : decode c_L_law 581 = .ok (.aload_n 1, 1) := by decide +kernel
theorem d_L_law_582 : decode c_L_law 582 = .ok (.aload_n 0, 1) := by decide +kernel
theorem d_L_law_583 : decode c_L_law 583 = .ok (.iload 4, 2) := by decide +kernel
theorem d_L_law_585 : decode c_L_law 585 = .ok (.iconst 1, 1) := by decide +kernel
theorem d_L_law_586 : decode c_L_law 586 = .ok (.iadd, 1) := by decide +kernel
theorem d_L_law_587 : decode c_L_law 587 = .ok (.iaload, 1) := by decide +kernel
theorem d_L_law_588 : decode c_L_law 588 = .ok (.aload_n 3, 1) := by decide +kernel
theorem d_L_law_589 : decode c_L_law 589 = .ok (.invokestatic 93, 3) := by decide +kernel
theorem d_L_law_592 : decode c_L_law 592 = .ok (.istore 5, 2) := by decide +kernel
theorem d_L_law_594 : decode c_L_law 594 = .ok (.aload_n 2, 1) := by decide +kernel
theorem d_L_law_595 : decode c_L_law 595 = .ok (.aload_n 0, 1) := by decide +kernel
theorem d_L_law_596 : decode c_L_law 596 = .ok (.iload 4, 2) := by decide +kernel
theorem d_L_law_598 : decode c_L_law 598 = .ok (.iconst 1, 1) := by decide +kernel
theorem d_L_law_599 : decode c_L_law 599 = .ok (.iadd, 1) := by decide +kernel
theorem d_L_law_600 : decode c_L_law 600 = .ok (.iaload, 1) := by decide +kernel
theorem d_L_law_601 : decode c_L_law 601 = .ok (.invokevirtual 95, 3) := by decide +kernel
theorem d_L_law_604 : decode c_L_law 604 = .ok (.istore 6, 2) := by decide +kernel
theorem d_L_law_606 : decode c_L_law 606 = .ok (.aload_n 2, 1) := by decide +kernel
theorem d_L_law_607 : decode c_L_law 607 = .ok (.invokevirtual 68, 3) := by decide +kernel
theorem d_L_law_610 : decode c_L_law 610 = .ok (.iload 5, 2) := by decide +kernel
theorem d_L_law_612 : decode c_L_law 612 = .ok (.if_icmp .eq 5, 3) := by decide +kernel
theorem d_L_law_615 : decode c_L_law 615 = .ok (.iconst 0, 1) := by decide +kernel
theorem d_L_law_616 : decode c_L_law 616 = .ok (.ireturn, 1) := by decide +kernel
theorem d_L_law_617 : decode c_L_law 617 = .ok (.iload 5, 2) := by decide +kernel
theorem d_L_law_619 : decode c_L_law 619 = .ok (.ifCond .ne 22, 3) := by decide +kernel
theorem d_L_law_622 : decode c_L_law 622 = .ok (.aload_n 3, 1) := by decide +kernel
theorem d_L_law_623 : decode c_L_law 623 = .ok (.iconst 0, 1) := by decide +kernel
theorem d_L_law_624 : decode c_L_law 624 = .ok (.laload, 1) := by decide +kernel
theorem d_L_law_625 : decode c_L_law 625 = .ok (.iload 6, 2) := by decide +kernel
theorem d_L_law_627 : decode c_L_law 627 = .ok (.ifCond .eq 7, 3) := by decide +kernel
theorem d_L_law_630 : decode c_L_law 630 = .ok (.lconst 1, 1) := by decide +kernel
theorem d_L_law_631 : decode c_L_law 631 = .ok (.goto 4, 3) := by decide +kernel
theorem d_L_law_634 : decode c_L_law 634 = .ok (.lconst 0, 1) := by decide +kernel
theorem d_L_law_635 : decode c_L_law 635 = .ok (.lcmp, 1) := by decide +kernel
theorem d_L_law_636 : decode c_L_law 636 = .ok (.ifCond .eq 5, 3) := by decide +kernel
theorem d_L_law_639 : decode c_L_law 639 = .ok (.iconst 0, 1) := by decide +kernel
theorem d_L_law_640 : decode c_L_law 640 = .ok (.ireturn, 1) := by decide +kernel
theorem d_L_law_641 : decode c_L_law 641 = .ok (.goto 153, 3) := by decide +kernel
theorem d_L_law_644 : decode c_L_law 644 = .ok (.aload_n 1, 1) := by decide +kernel
theorem d_L_law_645 : decode c_L_law 645 = .ok (.aload_n 3, 1) := by decide +kernel
theorem d_L_law_646 : decode c_L_law 646 = .ok (.invokestatic 96, 3) := by decide +kernel
theorem d_L_law_649 : decode c_L_law 649 = .ok (.istore 5, 2) := by decide +kernel
theorem d_L_law_651 : decode c_L_law 651 = .ok (.aload_n 2, 1) := by decide +kernel
theorem d_L_law_652 : decode c_L_law 652 = .ok (.invokevirtual 99, 3) := by decide +kernel
theorem d_L_law_655 : decode c_L_law 655 = .ok (.istore 6, 2) := by decide +kernel
theorem d_L_law_657 : decode c_L_law 657 = .ok (.aload_n 2, 1) := by decide +kernel
theorem d_L_law_658 : decode c_L_law 658 = .ok (.invokevirtual 68, 3) := by decide +kernel
theorem d_L_law_661 : decode c_L_law 661 = .ok (.iload 5, 2) := by decide +kernel
theorem d_L_law_663 : decode c_L_law 663 = .ok (.if_icmp .eq 5, 3) := by decide +kernel
theorem d_L_law_666 : decode c_L_law 666 = .ok (.iconst 0, 1) := by decide +kernel
theorem d_L_law_667 : decode c_L_law 667 = .ok (.ireturn, 1) := by decide +kernel
theorem d_L_law_668 : decode c_L_law 668 = .ok (.iload 5, 2) := by decide +kernel
theorem d_L_law_670 : decode c_L_law 670 = .ok (.ifCond .ne 15, 3) := by decide +kernel
theorem d_L_law_673 : decode c_L_law 673 = .ok (.aload_n 3, 1) := by decide +kernel
theorem d_L_law_674 : decode c_L_law 674 = .ok (.iconst 0, 1) := by decide +kernel
theorem d_L_law_675 : decode c_L_law 675 = .ok (.laload, 1) := by decide +kernel
theorem d_L_law_676 : decode c_L_law 676 = .ok (.iload 6, 2) := by decide +kernel
theorem d_L_law_678 : decode c_L_law 678 = .ok (.i2l, 1) := by decide +kernel
theorem d_L_law_679 : decode c_L_law 679 = .ok (.lcmp, 1) := by decide +kernel
theorem d_L_law_680 : decode c_L_law 680 = .ok (.ifCond .eq 5, 3) := by decide +kernel
theorem d_L_law_683 : decode c_L_law 683 = .ok (.iconst 0, 1) := by decide +kernel
theorem d_L_law_684 : decode c_L_law 684 = .ok (.ireturn, 1) := by decide +kernel
theorem d_L_law_685 : decode c_L_law 685 = .ok (.goto 109, 3) := by decide +kernel
theorem d_L_law_688 : decode c_L_law 688 = .ok (.aload_n 1, 1) := by decide +kernel
theorem d_L_law_689 : decode c_L_law 689 = .ok (.aload_n 3, 1) := by decide +kernel
theorem d_L_law_690 : decode c_L_law 690 = .ok (.invokestatic 100, 3) := by decide +kernel
theorem d_L_law_693 : decode c_L_law 693 = .ok (.istore 5, 2) := by decide +kernel
theorem d_L_law_695 : decode c_L_law 695 = .ok (.aload_n 2, 1) := by decide +kernel
theorem d_L_law_696 : decode c_L_law 696 = .ok (.invokevirtual 102, 3) := by decide +kernel
theorem d_L_law_699 : decode c_L_law 699 = .ok (.lstore 6, 2) := by decide +kernel
theorem d_L_law_701 : decode c_L_law 701 = .ok (.aload_n 2, 1) := by decide +kernel
theorem d_L_law_702 : decode c_L_law 702 = .ok (.invokevirtual 68, 3) := by decide +kernel
theorem d_L_law_705 : decode c_L_law 705 = .ok (.iload 5, 2) := by decide +kernel
theorem d_L_law_707 : decode c_L_law 707 = .ok (.if_icmp .eq 5, 3) := by decide +kernel
theorem d_L_law_710 : decode c_L_law 710 = .ok (.iconst 0, 1) := by decide +kernel
theorem d_L_law_711 : decode c_L_law 711 = .ok (.ireturn, 1) := by decide +kernel
theorem d_L_law_712 : decode c_L_law 712 = .ok (.iload 5, 2) := by decide +kernel
theorem d_L_law_714 : decode c_L_law 714 = .ok (.ifCond .ne 14, 3) := by decide +kernel
theorem d_L_law_717 : decode c_L_law 717 = .ok (.aload_n 3, 1) := by decide +kernel
theorem d_L_law_718 : decode c_L_law 718 = .ok (.iconst 0, 1) := by decide +kernel
theorem d_L_law_719 : decode c_L_law 719 = .ok (.laload, 1) := by decide +kernel
theorem d_L_law_720 : decode c_L_law 720 = .ok (.lload 6, 2) := by decide +kernel
theorem d_L_law_722 : decode c_L_law 722 = .ok (.lcmp, 1) := by decide +kernel
theorem d_L_law_723 : decode c_L_law 723 = .ok (.ifCond .eq 5, 3) := by decide +kernel
theorem d_L_law_726 : decode c_L_law 726 = .ok (.iconst 0, 1) := by decide +kernel
theorem d_L_law_727 : decode c_L_law 727 = .ok (.ireturn, 1) := by decide +kernel
theorem d_L_law_728 : decode c_L_law 728 = .ok (.goto 66, 3) := by decide +kernel
theorem d_L_law_731 : decode c_L_law 731 = .ok (.aload_n 1, 1) := by decide +kernel
theorem d_L_law_732 : decode c_L_law 732 = .ok (.invokevirtual 103, 3) := by decide +kernel
theorem d_L_law_735 : decode c_L_law 735 = .ok (.aload_n 2, 1) := by decide +kernel
theorem d_L_law_736 : decode c_L_law 736 = .ok (.invokevirtual 106, 3) := by decide +kernel
theorem d_L_law_739 : decode c_L_law 739 = .ok (.if_icmp .eq 55, 3) := by decide +kernel
theorem d_L_law_742 : decode c_L_law 742 = .ok (.iconst 0, 1) := by decide +kernel
theorem d_L_law_743 : decode c_L_law 743 = .ok (.ireturn, 1) := by decide +kernel
theorem d_L_law_744 : decode c_L_law 744 = .ok (.aload_n 1, 1) := by decide +kernel
theorem d_L_law_745 : decode c_L_law 745 = .ok (.invokevirtual 107, 3) := by decide +kernel
theorem d_L_law_748 : decode c_L_law 748 = .ok (.aload_n 2, 1) := by decide +kernel
theorem d_L_law_749 : decode c_L_law 749 = .ok (.invokevirtual 110, 3) := by decide +kernel
theorem d_L_law_752 : decode c_L_law 752 = .ok (.lcmp, 1) := by decide +kernel
theorem d_L_law_753 : decode c_L_law 753 = .ok (.ifCond .eq 41, 3) := by decide +kernel
theorem d_L_law_756 : decode c_L_law 756 = .ok (.iconst 0, 1) := by decide +kernel
theorem d_L_law_757 : decode c_L_law 757 = .ok (.ireturn, 1) := by decide +kernel
theorem d_L_law_758 : decode c_L_law 758 = .ok (.aload_n 1, 1) := by decide +kernel
theorem d_L_law_759 : decode c_L_law 759 = .ok (.aload_n 0, 1) := by decide +kernel
theorem d_L_law_760 : decode c_L_law 760 = .ok (.iload 4, 2) := by decide +kernel
theorem d_L_law_762 : decode c_L_law 762 = .ok (.iconst 1, 1) := by decide +kernel
theorem d_L_law_763 : decode c_L_law 763 = .ok (.iadd, 1) := by decide +kernel
theorem d_L_law_764 : decode c_L_law 764 = .ok (.iaload, 1) := by decide +kernel
theorem d_L_law_765 : decode c_L_law 765 = .ok (.invokevirtual 111, 3) := by decide +kernel
theorem d_L_law_768 : decode c_L_law 768 = .ok (.aload_n 2, 1) := by decide +kernel
theorem d_L_law_769 : decode c_L_law 769 = .ok (.aload_n 0, 1) := by decide +kernel
theorem d_L_law_770 : decode c_L_law 770 = .ok (.iload 4, 2) := by decide +kernel
theorem d_L_law_772 : decode c_L_law 772 = .ok (.iconst 1, 1) := by decide +kernel
theorem d_L_law_773 : decode c_L_law 773 = .ok (.iadd, 1) := by decide +kernel
theorem d_L_law_774 : decode c_L_law 774 = .ok (.iaload, 1) := by decide +kernel
theorem d_L_law_775 : decode c_L_law 775 = .ok (.invokevirtual 114, 3) := by decide +kernel
theorem d_L_law_778 : decode c_L_law 778 = .ok (.if_icmp .eq 16, 3) := by decide +kernel
theorem d_L_law_781 : decode c_L_law 781 = .ok (.iconst 0, 1) := by decide +kernel
theorem d_L_law_782 : decode c_L_law 782 = .ok (.ireturn, 1) := by decide +kernel
theorem d_L_law_783 : decode c_L_law 783 = .ok (.aload_n 1, 1) := by decide +kernel
theorem d_L_law_784 : decode c_L_law 784 = .ok (.invokevirtual 115, 3) := by decide +kernel
theorem d_L_law_787 : decode c_L_law 787 = .ok (.aload_n 2, 1) := by decide +kernel
theorem d_L_law_788 : decode c_L_law 788 = .ok (.invokevirtual 118, 3) := by decide +kernel
theorem d_L_law_791 : decode c_L_law 791 = .ok (.goto 3, 3) := by decide +kernel
theorem d_L_law_794 : decode c_L_law 794 = .ok (.iinc 4 5, 3) := by decide +kernel
theorem d_L_law_797 : decode c_L_law 797 = .ok (.goto (-764), 3) := by decide +kernel
theorem d_L_law_800 : decode c_L_law 800 = .ok (.iconst 1, 1) := by decide +kernel
theorem d_L_law_801 : decode c_L_law 801 = .ok (.ireturn, 1) := by decide +kernel
end
section
/-- the array classes: int, long, boolean, int arrays -/
abbrev tysG (cs : ClassId × ClassId × ClassId × ClassId) : List (ClassId × FieldType) := [(cs.1, .int), (cs.2.1, .long), (cs.2.2.1, .boolean), (cs.2.2.2, .array .int)]
/-- the tables' words on nest mates, which move with the warmth of the tables -/
def NWs (U : State) : Prop := va_Nw (.fieldLinkNest "BoundedCodes" 119 "BoundedCodes$WaitingBits" "size" "I" "BoundedCodes") U ∧ va_Nw (.fieldLinkNest "BoundedCodes" 78 "BoundedCodes$Table" "lengthOf" "[I" "BoundedCodes") U ∧ va_Nw (.fieldLinkNest "BoundedCodes" 93 "BoundedCodes$Table" "codeOf" "[I" "BoundedCodes") U ∧ va_Nw (.methodLinkNest "BoundedCodes" 9 y_K_init "BoundedCodes") U ∧ va_Nw (.methodLinkNest "BoundedCodes" 18 y_G_init "BoundedCodes") U
theorem NWs.warm {s U : State} (hW : s.WarmedH U.vm) (h : NWs s) : NWs U := ⟨va_Nw.warmF hW h.1, va_Nw.warmF hW h.2.1, va_Nw.warmF hW h.2.2.1, va_Nw.warmM hW h.2.2.2.1, va_Nw.warmM hW h.2.2.2.2⟩
theorem NWs.same {s U : State} (hv : s.vm = U.vm) (h : NWs s) : NWs U := ⟨va_tabs rfl hv h.1, va_tabs rfl hv h.2.1, va_tabs rfl hv h.2.2.1, va_tabs rfl hv h.2.2.2.1, va_tabs rfl hv h.2.2.2.2⟩
/-- what is fixed while a method is walked -/
def CX (p : Program) (s : State) (m : MethodId) (args : Array Value) (c : Code) (cc : ByteArray) (nL : Nat) (own : String) (D : va_G) (cs : ClassId × ClassId × ClassId × ClassId) (A : Nat → Prop) : Prop :=
  CallFix p m c cc nL s args TB own ∧ va_K D CLS (tysG cs) s ∧ (∀ q, s.heap.size ≤ q → A q) ∧ NWs s
/-- from pc, with these locals, this operand stack and this world, the walk comes to Q -/
def GO (p : Program) (l : Launch) (e : Env) (R : Room) (s : State) (m : MethodId) (args : Array Value) (below : List Frame) (meth : Method) (c : Code) (cells slots : Nat) (Q : State → Prop) (A : Nat → Prop) (D : va_G) (nL : Nat) (pc : Nat) (lv : List (Nat × Value)) (st : List Value) (ws : va_W) : Prop :=
  ∀ (H : Heap) (locs : List Loc) (ls : Array Slot), va_P D CLS ws H → va_D A ws → va_S A s.heap H locs → lv_has ls nL lv → W p l e R s m args below meth c H locs cells slots Q (F0 m pc ls st)
section GR
variable {p : Program} {l : Launch} {e : Env} {R : Room} {s : State} {m : MethodId} {args : Array Value} {below : List Frame} {meth : Method} {c : Code} {cells slots : Nat} {Q : State → Prop} {A : Nat → Prop} {D : va_G} {nL : Nat} {cc : ByteArray} {own : String} {cs : ClassId × ClassId × ClassId × ClassId}
variable {pc : Nat} {lv lv' : List (Nat × Value)} {st : List Value} {ws ws' : va_W}

theorem g_iload_n (C : CX p s m args c cc nL own D cs A) {k : Fin 4} {i : Nat} {x : Int32} (d : decode cc pc = .ok (.iload_n k, 1)) (j : Nat) (hi : (k : Nat) = i) (hj : lv[j]? = some (i, .int x)) (g : GO p l e R s m args below meth c cells slots Q A D nL (pc + 1) lv (.int x :: st) ws) : GO p l e R s m args below meth c cells slots Q A D nL pc lv st ws := by
  obtain ⟨⟨hx, hb, hml, hown, ht⟩, hK, hA⟩ := C
  intro H locs ls hP hD hS hl
  exact lv_iload_n hx hb d hi (lv_at hl j hj) (g H locs ls hP hD hS hl)
theorem g_iload (C : CX p s m args c cc nL own D cs A) {i : Nat} {x : Int32} (d : decode cc pc = .ok (.iload i, 2)) (j : Nat) (hj : lv[j]? = some (i, .int x)) (g : GO p l e R s m args below meth c cells slots Q A D nL (pc + 2) lv (.int x :: st) ws) : GO p l e R s m args below meth c cells slots Q A D nL pc lv st ws := by
  obtain ⟨⟨hx, hb, hml, hown, ht⟩, hK, hA⟩ := C
  intro H locs ls hP hD hS hl
  exact lv_iload hx hb d (lv_at hl j hj) (g H locs ls hP hD hS hl)
theorem g_lload_n (C : CX p s m args c cc nL own D cs A) {k : Fin 4} {i : Nat} {x : Int64} (d : decode cc pc = .ok (.lload_n k, 1)) (j : Nat) (hi : (k : Nat) = i) (hj : lv[j]? = some (i, .long x)) (g : GO p l e R s m args below meth c cells slots Q A D nL (pc + 1) lv (.long x :: st) ws) : GO p l e R s m args below meth c cells slots Q A D nL pc lv st ws := by
  obtain ⟨⟨hx, hb, hml, hown, ht⟩, hK, hA⟩ := C
  intro H locs ls hP hD hS hl
  exact lv_lload_n hx hb d hi (lv_at hl j hj) (g H locs ls hP hD hS hl)
theorem g_lload (C : CX p s m args c cc nL own D cs A) {i : Nat} {x : Int64} (d : decode cc pc = .ok (.lload i, 2)) (j : Nat) (hj : lv[j]? = some (i, .long x)) (g : GO p l e R s m args below meth c cells slots Q A D nL (pc + 2) lv (.long x :: st) ws) : GO p l e R s m args below meth c cells slots Q A D nL pc lv st ws := by
  obtain ⟨⟨hx, hb, hml, hown, ht⟩, hK, hA⟩ := C
  intro H locs ls hP hD hS hl
  exact lv_lload hx hb d (lv_at hl j hj) (g H locs ls hP hD hS hl)
theorem g_aload_n (C : CX p s m args c cc nL own D cs A) {k : Fin 4} {i : Nat} {x : Nat} (d : decode cc pc = .ok (.aload_n k, 1)) (j : Nat) (hi : (k : Nat) = i) (hj : lv[j]? = some (i, .ref x)) (g : GO p l e R s m args below meth c cells slots Q A D nL (pc + 1) lv (.ref x :: st) ws) : GO p l e R s m args below meth c cells slots Q A D nL pc lv st ws := by
  obtain ⟨⟨hx, hb, hml, hown, ht⟩, hK, hA⟩ := C
  intro H locs ls hP hD hS hl
  exact lv_aload_n hx hb d hi (lv_at hl j hj) (g H locs ls hP hD hS hl)
theorem g_aload (C : CX p s m args c cc nL own D cs A) {i : Nat} {x : Nat} (d : decode cc pc = .ok (.aload i, 2)) (j : Nat) (hj : lv[j]? = some (i, .ref x)) (g : GO p l e R s m args below meth c cells slots Q A D nL (pc + 2) lv (.ref x :: st) ws) : GO p l e R s m args below meth c cells slots Q A D nL pc lv st ws := by
  obtain ⟨⟨hx, hb, hml, hown, ht⟩, hK, hA⟩ := C
  intro H locs ls hP hD hS hl
  exact lv_aload hx hb d (lv_at hl j hj) (g H locs ls hP hD hS hl)
theorem g_istore_n (C : CX p s m args c cc nL own D cs A) {k : Fin 4} {i : Nat} {x : Int32} (d : decode cc pc = .ok (.istore_n k, 1)) (hi : (k : Nat) = i) (hn : i < nL) (hl9 : (i, Value.int x) :: lv.filter (fun q => !(q.1 == i) && !(q.1 + 1 == i && q.2.category == 2)) = lv') (g : GO p l e R s m args below meth c cells slots Q A D nL (pc + 1) lv' st ws) : GO p l e R s m args below meth c cells slots Q A D nL pc lv (.int x :: st) ws := by
  obtain ⟨⟨hx, hb, hml, hown, ht⟩, hK, hA⟩ := C
  intro H locs ls hP hD hS hl
  exact lv_istore_n hx hb d hi hl hn hl9 (fun ls hl => g H locs ls hP hD hS hl)
theorem g_istore (C : CX p s m args c cc nL own D cs A) {i : Nat} {x : Int32} (d : decode cc pc = .ok (.istore i, 2)) (hn : i < nL) (hl9 : (i, Value.int x) :: lv.filter (fun q => !(q.1 == i) && !(q.1 + 1 == i && q.2.category == 2)) = lv') (g : GO p l e R s m args below meth c cells slots Q A D nL (pc + 2) lv' st ws) : GO p l e R s m args below meth c cells slots Q A D nL pc lv (.int x :: st) ws := by
  obtain ⟨⟨hx, hb, hml, hown, ht⟩, hK, hA⟩ := C
  intro H locs ls hP hD hS hl
  exact lv_istore hx hb d hl hn hl9 (fun ls hl => g H locs ls hP hD hS hl)
theorem g_astore_n (C : CX p s m args c cc nL own D cs A) {k : Fin 4} {i : Nat} {x : Nat} (d : decode cc pc = .ok (.astore_n k, 1)) (hi : (k : Nat) = i) (hn : i < nL) (hl9 : (i, Value.ref x) :: lv.filter (fun q => !(q.1 == i) && !(q.1 + 1 == i && q.2.category == 2)) = lv') (g : GO p l e R s m args below meth c cells slots Q A D nL (pc + 1) lv' st ws) : GO p l e R s m args below meth c cells slots Q A D nL pc lv (.ref x :: st) ws := by
  obtain ⟨⟨hx, hb, hml, hown, ht⟩, hK, hA⟩ := C
  intro H locs ls hP hD hS hl
  exact lv_astore_n hx hb d hi hl hn hl9 (fun ls hl => g H locs ls hP hD hS hl)
theorem g_astore (C : CX p s m args c cc nL own D cs A) {i : Nat} {x : Nat} (d : decode cc pc = .ok (.astore i, 2)) (hn : i < nL) (hl9 : (i, Value.ref x) :: lv.filter (fun q => !(q.1 == i) && !(q.1 + 1 == i && q.2.category == 2)) = lv') (g : GO p l e R s m args below meth c cells slots Q A D nL (pc + 2) lv' st ws) : GO p l e R s m args below meth c cells slots Q A D nL pc lv (.ref x :: st) ws := by
  obtain ⟨⟨hx, hb, hml, hown, ht⟩, hK, hA⟩ := C
  intro H locs ls hP hD hS hl
  exact lv_astore hx hb d hl hn hl9 (fun ls hl => g H locs ls hP hD hS hl)
theorem g_lstore_n (C : CX p s m args c cc nL own D cs A) {k : Fin 4} {i : Nat} {x : Int64} (d : decode cc pc = .ok (.lstore_n k, 1)) (hi : (k : Nat) = i) (hn : i + 1 < nL) (hl9 : (i, Value.long x) :: lv.filter (fun q => !(q.1 == i) && (!(q.1 == i + 1) && !(q.1 + 1 == i && q.2.category == 2))) = lv') (g : GO p l e R s m args below meth c cells slots Q A D nL (pc + 1) lv' st ws) : GO p l e R s m args below meth c cells slots Q A D nL pc lv (.long x :: st) ws := by
  obtain ⟨⟨hx, hb, hml, hown, ht⟩, hK, hA⟩ := C
  intro H locs ls hP hD hS hl
  exact lv_lstore_n hx hb d hi hl hn hl9 (fun ls hl => g H locs ls hP hD hS hl)
theorem g_lstore (C : CX p s m args c cc nL own D cs A) {i : Nat} {x : Int64} (d : decode cc pc = .ok (.lstore i, 2)) (hn : i + 1 < nL) (hl9 : (i, Value.long x) :: lv.filter (fun q => !(q.1 == i) && (!(q.1 == i + 1) && !(q.1 + 1 == i && q.2.category == 2))) = lv') (g : GO p l e R s m args below meth c cells slots Q A D nL (pc + 2) lv' st ws) : GO p l e R s m args below meth c cells slots Q A D nL pc lv (.long x :: st) ws := by
  obtain ⟨⟨hx, hb, hml, hown, ht⟩, hK, hA⟩ := C
  intro H locs ls hP hD hS hl
  exact lv_lstore hx hb d hl hn hl9 (fun ls hl => g H locs ls hP hD hS hl)
theorem g_iinc (C : CX p s m args c cc nL own D cs A) {i k : Nat} {n : Int} {x v : Int32} (d : decode cc pc = .ok (.iinc i n, 3)) (hk : lv[k]? = some (i, .int x)) (hv : x + Int32.ofInt n = v) (hn : i < nL) (hl9 : (i, Value.int v) :: lv.filter (fun q => !(q.1 == i) && !(q.1 + 1 == i && q.2.category == 2)) = lv') (g : GO p l e R s m args below meth c cells slots Q A D nL (pc + 3) lv' st ws) : GO p l e R s m args below meth c cells slots Q A D nL pc lv st ws := by
  obtain ⟨⟨hx, hb, hml, hown, ht⟩, hK, hA⟩ := C
  intro H locs ls hP hD hS hl
  exact lv_iinc hx hb d hl hk hv hn hl9 (fun ls hl => g H locs ls hP hD hS hl)
theorem g_iconst (C : CX p s m args c cc nL own D cs A) {n : Int} {v : Int32} (d : decode cc pc = .ok (.iconst n, 1)) (hv : Int32.ofInt n = v) (g : GO p l e R s m args below meth c cells slots Q A D nL (pc + 1) lv (.int v :: st) ws) : GO p l e R s m args below meth c cells slots Q A D nL pc lv st ws := by
  obtain ⟨⟨hx, hb, hml, hown, ht⟩, hK, hA⟩ := C
  intro H locs ls hP hD hS hl
  exact lv_iconst hx hb d hv (g H locs ls hP hD hS hl)
theorem g_bipush (C : CX p s m args c cc nL own D cs A) {n : Int} {v : Int32} (d : decode cc pc = .ok (.bipush n, 2)) (hv : (Int8.ofInt n).toInt32 = v) (g : GO p l e R s m args below meth c cells slots Q A D nL (pc + 2) lv (.int v :: st) ws) : GO p l e R s m args below meth c cells slots Q A D nL pc lv st ws := by
  obtain ⟨⟨hx, hb, hml, hown, ht⟩, hK, hA⟩ := C
  intro H locs ls hP hD hS hl
  exact lv_bipush hx hb d hv (g H locs ls hP hD hS hl)
theorem g_sipush (C : CX p s m args c cc nL own D cs A) {n : Int} {v : Int32} (d : decode cc pc = .ok (.sipush n, 3)) (hv : (Int16.ofInt n).toInt32 = v) (g : GO p l e R s m args below meth c cells slots Q A D nL (pc + 3) lv (.int v :: st) ws) : GO p l e R s m args below meth c cells slots Q A D nL pc lv st ws := by
  obtain ⟨⟨hx, hb, hml, hown, ht⟩, hK, hA⟩ := C
  intro H locs ls hP hD hS hl
  exact lv_sipush hx hb d hv (g H locs ls hP hD hS hl)
theorem g_lconst (C : CX p s m args c cc nL own D cs A) {n : Fin 2} {v : Int64} (d : decode cc pc = .ok (.lconst n, 1)) (hv : Int64.ofNat (n : Nat) = v) (g : GO p l e R s m args below meth c cells slots Q A D nL (pc + 1) lv (.long v :: st) ws) : GO p l e R s m args below meth c cells slots Q A D nL pc lv st ws := by
  obtain ⟨⟨hx, hb, hml, hown, ht⟩, hK, hA⟩ := C
  intro H locs ls hP hD hS hl
  exact lv_lconst hx hb d hv (g H locs ls hP hD hS hl)
theorem g_ldc (C : CX p s m args c cc nL own D cs A) {i : Nat} {v : Int32} (hw : Cond.constant own i v ∈ TB) (d : decode cc pc = .ok (.ldc i, 2)) (g : GO p l e R s m args below meth c cells slots Q A D nL (pc + 2) lv (.int v :: st) ws) : GO p l e R s m args below meth c cells slots Q A D nL pc lv st ws := by
  obtain ⟨⟨hx, hb, hml, hown, ht⟩, hK, hA⟩ := C
  intro H locs ls hP hD hS hl
  exact lv_ldc hx hb hown (ht _ hw) d (g H locs ls hP hD hS hl)
theorem g_ldc2 (C : CX p s m args c cc nL own D cs A) {i : Nat} {v : Int64} (hw : Cond.constantLong own i v ∈ TB) (d : decode cc pc = .ok (.ldc2_w i, 3)) (g : GO p l e R s m args below meth c cells slots Q A D nL (pc + 3) lv (.long v :: st) ws) : GO p l e R s m args below meth c cells slots Q A D nL pc lv st ws := by
  obtain ⟨⟨hx, hb, hml, hown, ht⟩, hK, hA⟩ := C
  intro H locs ls hP hD hS hl
  exact lv_ldc2 hx hb hown (ht _ hw) d (g H locs ls hP hD hS hl)
theorem g_iadd (C : CX p s m args c cc nL own D cs A) {x y v : Int32} (d : decode cc pc = .ok (.iadd, 1)) (hv : x + y = v) (g : GO p l e R s m args below meth c cells slots Q A D nL (pc + 1) lv (.int v :: st) ws) : GO p l e R s m args below meth c cells slots Q A D nL pc lv (.int y :: .int x :: st) ws := by
  obtain ⟨⟨hx, hb, hml, hown, ht⟩, hK, hA⟩ := C
  intro H locs ls hP hD hS hl
  subst hv
  exact lv_iadd hx hb d (g H locs ls hP hD hS hl)
theorem g_isub (C : CX p s m args c cc nL own D cs A) {x y v : Int32} (d : decode cc pc = .ok (.isub, 1)) (hv : x - y = v) (g : GO p l e R s m args below meth c cells slots Q A D nL (pc + 1) lv (.int v :: st) ws) : GO p l e R s m args below meth c cells slots Q A D nL pc lv (.int y :: .int x :: st) ws := by
  obtain ⟨⟨hx, hb, hml, hown, ht⟩, hK, hA⟩ := C
  intro H locs ls hP hD hS hl
  subst hv
  exact lv_isub hx hb d (g H locs ls hP hD hS hl)
theorem g_imul (C : CX p s m args c cc nL own D cs A) {x y v : Int32} (d : decode cc pc = .ok (.imul, 1)) (hv : x * y = v) (g : GO p l e R s m args below meth c cells slots Q A D nL (pc + 1) lv (.int v :: st) ws) : GO p l e R s m args below meth c cells slots Q A D nL pc lv (.int y :: .int x :: st) ws := by
  obtain ⟨⟨hx, hb, hml, hown, ht⟩, hK, hA⟩ := C
  intro H locs ls hP hD hS hl
  subst hv
  exact lv_imul hx hb d (g H locs ls hP hD hS hl)
theorem g_iand (C : CX p s m args c cc nL own D cs A) {x y v : Int32} (d : decode cc pc = .ok (.iand, 1)) (hv : x &&& y = v) (g : GO p l e R s m args below meth c cells slots Q A D nL (pc + 1) lv (.int v :: st) ws) : GO p l e R s m args below meth c cells slots Q A D nL pc lv (.int y :: .int x :: st) ws := by
  obtain ⟨⟨hx, hb, hml, hown, ht⟩, hK, hA⟩ := C
  intro H locs ls hP hD hS hl
  subst hv
  exact lv_iand hx hb d (g H locs ls hP hD hS hl)
theorem g_ixor (C : CX p s m args c cc nL own D cs A) {x y v : Int32} (d : decode cc pc = .ok (.ixor, 1)) (hv : x ^^^ y = v) (g : GO p l e R s m args below meth c cells slots Q A D nL (pc + 1) lv (.int v :: st) ws) : GO p l e R s m args below meth c cells slots Q A D nL pc lv (.int y :: .int x :: st) ws := by
  obtain ⟨⟨hx, hb, hml, hown, ht⟩, hK, hA⟩ := C
  intro H locs ls hP hD hS hl
  subst hv
  exact lv_ixor hx hb d (g H locs ls hP hD hS hl)
theorem g_ishl (C : CX p s m args c cc nL own D cs A) {x y v : Int32} (d : decode cc pc = .ok (.ishl, 1)) (hv : x <<< (y &&& 31) = v) (g : GO p l e R s m args below meth c cells slots Q A D nL (pc + 1) lv (.int v :: st) ws) : GO p l e R s m args below meth c cells slots Q A D nL pc lv (.int y :: .int x :: st) ws := by
  obtain ⟨⟨hx, hb, hml, hown, ht⟩, hK, hA⟩ := C
  intro H locs ls hP hD hS hl
  subst hv
  exact lv_ishl hx hb d (g H locs ls hP hD hS hl)
theorem g_ishr (C : CX p s m args c cc nL own D cs A) {x y v : Int32} (d : decode cc pc = .ok (.ishr, 1)) (hv : x >>> (y &&& 31) = v) (g : GO p l e R s m args below meth c cells slots Q A D nL (pc + 1) lv (.int v :: st) ws) : GO p l e R s m args below meth c cells slots Q A D nL pc lv (.int y :: .int x :: st) ws := by
  obtain ⟨⟨hx, hb, hml, hown, ht⟩, hK, hA⟩ := C
  intro H locs ls hP hD hS hl
  subst hv
  exact lv_ishr hx hb d (g H locs ls hP hD hS hl)
theorem g_idiv (C : CX p s m args c cc nL own D cs A) {x y v : Int32} (d : decode cc pc = .ok (.idiv, 1)) (hne : ¬ y = 0) (hv : x / y = v) (g : GO p l e R s m args below meth c cells slots Q A D nL (pc + 1) lv (.int v :: st) ws) : GO p l e R s m args below meth c cells slots Q A D nL pc lv (.int y :: .int x :: st) ws := by
  obtain ⟨⟨hx, hb, hml, hown, ht⟩, hK, hA⟩ := C
  intro H locs ls hP hD hS hl
  subst hv
  exact lv_idiv hx hb d hne (g H locs ls hP hD hS hl)
theorem g_irem (C : CX p s m args c cc nL own D cs A) {x y v : Int32} (d : decode cc pc = .ok (.irem, 1)) (hne : ¬ y = 0) (hv : x - x / y * y = v) (g : GO p l e R s m args below meth c cells slots Q A D nL (pc + 1) lv (.int v :: st) ws) : GO p l e R s m args below meth c cells slots Q A D nL pc lv (.int y :: .int x :: st) ws := by
  obtain ⟨⟨hx, hb, hml, hown, ht⟩, hK, hA⟩ := C
  intro H locs ls hP hD hS hl
  subst hv
  exact lv_irem hx hb d hne (g H locs ls hP hD hS hl)
theorem g_ineg (C : CX p s m args c cc nL own D cs A) {x v : Int32} (d : decode cc pc = .ok (.ineg, 1)) (hv : -x = v) (g : GO p l e R s m args below meth c cells slots Q A D nL (pc + 1) lv (.int v :: st) ws) : GO p l e R s m args below meth c cells slots Q A D nL pc lv (.int x :: st) ws := by
  obtain ⟨⟨hx, hb, hml, hown, ht⟩, hK, hA⟩ := C
  intro H locs ls hP hD hS hl
  subst hv
  exact lv_ineg hx hb d (g H locs ls hP hD hS hl)
theorem g_ladd (C : CX p s m args c cc nL own D cs A) {x y v : Int64} (d : decode cc pc = .ok (.ladd, 1)) (hv : x + y = v) (g : GO p l e R s m args below meth c cells slots Q A D nL (pc + 1) lv (.long v :: st) ws) : GO p l e R s m args below meth c cells slots Q A D nL pc lv (.long y :: .long x :: st) ws := by
  obtain ⟨⟨hx, hb, hml, hown, ht⟩, hK, hA⟩ := C
  intro H locs ls hP hD hS hl
  subst hv
  exact lv_ladd hx hb d (g H locs ls hP hD hS hl)
theorem g_lsub (C : CX p s m args c cc nL own D cs A) {x y v : Int64} (d : decode cc pc = .ok (.lsub, 1)) (hv : x - y = v) (g : GO p l e R s m args below meth c cells slots Q A D nL (pc + 1) lv (.long v :: st) ws) : GO p l e R s m args below meth c cells slots Q A D nL pc lv (.long y :: .long x :: st) ws := by
  obtain ⟨⟨hx, hb, hml, hown, ht⟩, hK, hA⟩ := C
  intro H locs ls hP hD hS hl
  subst hv
  exact lv_lsub hx hb d (g H locs ls hP hD hS hl)
theorem g_lmul (C : CX p s m args c cc nL own D cs A) {x y v : Int64} (d : decode cc pc = .ok (.lmul, 1)) (hv : x * y = v) (g : GO p l e R s m args below meth c cells slots Q A D nL (pc + 1) lv (.long v :: st) ws) : GO p l e R s m args below meth c cells slots Q A D nL pc lv (.long y :: .long x :: st) ws := by
  obtain ⟨⟨hx, hb, hml, hown, ht⟩, hK, hA⟩ := C
  intro H locs ls hP hD hS hl
  subst hv
  exact lv_lmul hx hb d (g H locs ls hP hD hS hl)
theorem g_land (C : CX p s m args c cc nL own D cs A) {x y v : Int64} (d : decode cc pc = .ok (.land, 1)) (hv : x &&& y = v) (g : GO p l e R s m args below meth c cells slots Q A D nL (pc + 1) lv (.long v :: st) ws) : GO p l e R s m args below meth c cells slots Q A D nL pc lv (.long y :: .long x :: st) ws := by
  obtain ⟨⟨hx, hb, hml, hown, ht⟩, hK, hA⟩ := C
  intro H locs ls hP hD hS hl
  subst hv
  exact lv_land hx hb d (g H locs ls hP hD hS hl)
theorem g_lor (C : CX p s m args c cc nL own D cs A) {x y v : Int64} (d : decode cc pc = .ok (.lor, 1)) (hv : x ||| y = v) (g : GO p l e R s m args below meth c cells slots Q A D nL (pc + 1) lv (.long v :: st) ws) : GO p l e R s m args below meth c cells slots Q A D nL pc lv (.long y :: .long x :: st) ws := by
  obtain ⟨⟨hx, hb, hml, hown, ht⟩, hK, hA⟩ := C
  intro H locs ls hP hD hS hl
  subst hv
  exact lv_lor hx hb d (g H locs ls hP hD hS hl)
theorem g_lshl (C : CX p s m args c cc nL own D cs A) {x v : Int64} {y : Int32} (d : decode cc pc = .ok (.lshl, 1)) (hv : x <<< (y.toInt64 &&& 63) = v) (g : GO p l e R s m args below meth c cells slots Q A D nL (pc + 1) lv (.long v :: st) ws) : GO p l e R s m args below meth c cells slots Q A D nL pc lv (.int y :: .long x :: st) ws := by
  obtain ⟨⟨hx, hb, hml, hown, ht⟩, hK, hA⟩ := C
  intro H locs ls hP hD hS hl
  exact lv_lshl hx hb d hv (g H locs ls hP hD hS hl)
theorem g_i2l (C : CX p s m args c cc nL own D cs A) {x : Int32} {v : Int64} (d : decode cc pc = .ok (.i2l, 1)) (hv : x.toInt64 = v) (g : GO p l e R s m args below meth c cells slots Q A D nL (pc + 1) lv (.long v :: st) ws) : GO p l e R s m args below meth c cells slots Q A D nL pc lv (.int x :: st) ws := by
  obtain ⟨⟨hx, hb, hml, hown, ht⟩, hK, hA⟩ := C
  intro H locs ls hP hD hS hl
  exact lv_i2l hx hb d hv (g H locs ls hP hD hS hl)
theorem g_l2i (C : CX p s m args c cc nL own D cs A) {x : Int64} {v : Int32} (d : decode cc pc = .ok (.l2i, 1)) (hv : x.toInt32 = v) (g : GO p l e R s m args below meth c cells slots Q A D nL (pc + 1) lv (.int v :: st) ws) : GO p l e R s m args below meth c cells slots Q A D nL pc lv (.long x :: st) ws := by
  obtain ⟨⟨hx, hb, hml, hown, ht⟩, hK, hA⟩ := C
  intro H locs ls hP hD hS hl
  exact lv_l2i hx hb d hv (g H locs ls hP hD hS hl)
theorem g_dup (C : CX p s m args c cc nL own D cs A) {v : Value} (d : decode cc pc = .ok (.dup, 1)) (hc : v.category = 1) (g : GO p l e R s m args below meth c cells slots Q A D nL (pc + 1) lv (v :: v :: st) ws) : GO p l e R s m args below meth c cells slots Q A D nL pc lv (v :: st) ws := by
  obtain ⟨⟨hx, hb, hml, hown, ht⟩, hK, hA⟩ := C
  intro H locs ls hP hD hS hl
  exact lv_dup hx hb d hc (g H locs ls hP hD hS hl)
theorem g_dup2 (C : CX p s m args c cc nL own D cs A) {v w : Value} (d : decode cc pc = .ok (.dup2, 1)) (hc : v.category = 1) (hw : w.category = 1) (g : GO p l e R s m args below meth c cells slots Q A D nL (pc + 1) lv (v :: w :: v :: w :: st) ws) : GO p l e R s m args below meth c cells slots Q A D nL pc lv (v :: w :: st) ws := by
  obtain ⟨⟨hx, hb, hml, hown, ht⟩, hK, hA⟩ := C
  intro H locs ls hP hD hS hl
  exact lv_dup2_11 hx hb d hc hw (g H locs ls hP hD hS hl)
theorem g_goto (C : CX p s m args c cc nL own D cs A) {off : Int} (tgt : Nat) (d : decode cc pc = .ok (.goto off, 3)) (ht9 : (pc : Int) + off = (tgt : Int)) (g : GO p l e R s m args below meth c cells slots Q A D nL tgt lv st ws) : GO p l e R s m args below meth c cells slots Q A D nL pc lv st ws := by
  obtain ⟨⟨hx, hb, hml, hown, ht⟩, hK, hA⟩ := C
  intro H locs ls hP hD hS hl
  exact lv_goto hx hb d ht9 (g H locs ls hP hD hS hl)
theorem g_icmp_eq (C : CX p s m args c cc nL own D cs A) {x y : Int32} {off : Int} (tgt : Nat) (d : decode cc pc = .ok (.if_icmp .eq off, 3)) (ht9 : (pc : Int) + off = (tgt : Int)) (gt : x = y → GO p l e R s m args below meth c cells slots Q A D nL tgt lv st ws) (gf : ¬ (x = y) → GO p l e R s m args below meth c cells slots Q A D nL (pc + 3) lv st ws) : GO p l e R s m args below meth c cells slots Q A D nL pc lv (.int y :: .int x :: st) ws := by
  obtain ⟨⟨hx, hb, hml, hown, ht⟩, hK, hA⟩ := C
  intro H locs ls hP hD hS hl
  refine lv_icmp_eq hx hb d ht9 (fun h => ?_) (fun h => ?_)
  · exact gt (by simpa using h) H locs ls hP hD hS hl
  · exact gf (by simpa using h) H locs ls hP hD hS hl
theorem g_if_eq (C : CX p s m args c cc nL own D cs A) {x : Int32} {off : Int} (tgt : Nat) (d : decode cc pc = .ok (.ifCond .eq off, 3)) (ht9 : (pc : Int) + off = (tgt : Int)) (gt : x = 0 → GO p l e R s m args below meth c cells slots Q A D nL tgt lv st ws) (gf : ¬ (x = 0) → GO p l e R s m args below meth c cells slots Q A D nL (pc + 3) lv st ws) : GO p l e R s m args below meth c cells slots Q A D nL pc lv (.int x :: st) ws := by
  obtain ⟨⟨hx, hb, hml, hown, ht⟩, hK, hA⟩ := C
  intro H locs ls hP hD hS hl
  refine lv_if_eq hx hb d ht9 (fun h => ?_) (fun h => ?_)
  · exact gt (by simpa using h) H locs ls hP hD hS hl
  · exact gf (by simpa using h) H locs ls hP hD hS hl
theorem g_icmp_ne (C : CX p s m args c cc nL own D cs A) {x y : Int32} {off : Int} (tgt : Nat) (d : decode cc pc = .ok (.if_icmp .ne off, 3)) (ht9 : (pc : Int) + off = (tgt : Int)) (gt : ¬ x = y → GO p l e R s m args below meth c cells slots Q A D nL tgt lv st ws) (gf : ¬ (¬ x = y) → GO p l e R s m args below meth c cells slots Q A D nL (pc + 3) lv st ws) : GO p l e R s m args below meth c cells slots Q A D nL pc lv (.int y :: .int x :: st) ws := by
  obtain ⟨⟨hx, hb, hml, hown, ht⟩, hK, hA⟩ := C
  intro H locs ls hP hD hS hl
  refine lv_icmp_ne hx hb d ht9 (fun h => ?_) (fun h => ?_)
  · exact gt (by simpa using h) H locs ls hP hD hS hl
  · exact gf (by simpa using h) H locs ls hP hD hS hl
theorem g_if_ne (C : CX p s m args c cc nL own D cs A) {x : Int32} {off : Int} (tgt : Nat) (d : decode cc pc = .ok (.ifCond .ne off, 3)) (ht9 : (pc : Int) + off = (tgt : Int)) (gt : ¬ x = 0 → GO p l e R s m args below meth c cells slots Q A D nL tgt lv st ws) (gf : ¬ (¬ x = 0) → GO p l e R s m args below meth c cells slots Q A D nL (pc + 3) lv st ws) : GO p l e R s m args below meth c cells slots Q A D nL pc lv (.int x :: st) ws := by
  obtain ⟨⟨hx, hb, hml, hown, ht⟩, hK, hA⟩ := C
  intro H locs ls hP hD hS hl
  refine lv_if_ne hx hb d ht9 (fun h => ?_) (fun h => ?_)
  · exact gt (by simpa using h) H locs ls hP hD hS hl
  · exact gf (by simpa using h) H locs ls hP hD hS hl
theorem g_icmp_lt (C : CX p s m args c cc nL own D cs A) {x y : Int32} {off : Int} (tgt : Nat) (d : decode cc pc = .ok (.if_icmp .lt off, 3)) (ht9 : (pc : Int) + off = (tgt : Int)) (gt : x < y → GO p l e R s m args below meth c cells slots Q A D nL tgt lv st ws) (gf : ¬ (x < y) → GO p l e R s m args below meth c cells slots Q A D nL (pc + 3) lv st ws) : GO p l e R s m args below meth c cells slots Q A D nL pc lv (.int y :: .int x :: st) ws := by
  obtain ⟨⟨hx, hb, hml, hown, ht⟩, hK, hA⟩ := C
  intro H locs ls hP hD hS hl
  refine lv_icmp_lt hx hb d ht9 (fun h => ?_) (fun h => ?_)
  · exact gt (by simpa using h) H locs ls hP hD hS hl
  · exact gf (by simpa using h) H locs ls hP hD hS hl
theorem g_if_lt (C : CX p s m args c cc nL own D cs A) {x : Int32} {off : Int} (tgt : Nat) (d : decode cc pc = .ok (.ifCond .lt off, 3)) (ht9 : (pc : Int) + off = (tgt : Int)) (gt : x < 0 → GO p l e R s m args below meth c cells slots Q A D nL tgt lv st ws) (gf : ¬ (x < 0) → GO p l e R s m args below meth c cells slots Q A D nL (pc + 3) lv st ws) : GO p l e R s m args below meth c cells slots Q A D nL pc lv (.int x :: st) ws := by
  obtain ⟨⟨hx, hb, hml, hown, ht⟩, hK, hA⟩ := C
  intro H locs ls hP hD hS hl
  refine lv_if_lt hx hb d ht9 (fun h => ?_) (fun h => ?_)
  · exact gt (by simpa using h) H locs ls hP hD hS hl
  · exact gf (by simpa using h) H locs ls hP hD hS hl
theorem g_icmp_ge (C : CX p s m args c cc nL own D cs A) {x y : Int32} {off : Int} (tgt : Nat) (d : decode cc pc = .ok (.if_icmp .ge off, 3)) (ht9 : (pc : Int) + off = (tgt : Int)) (gt : y ≤ x → GO p l e R s m args below meth c cells slots Q A D nL tgt lv st ws) (gf : ¬ (y ≤ x) → GO p l e R s m args below meth c cells slots Q A D nL (pc + 3) lv st ws) : GO p l e R s m args below meth c cells slots Q A D nL pc lv (.int y :: .int x :: st) ws := by
  obtain ⟨⟨hx, hb, hml, hown, ht⟩, hK, hA⟩ := C
  intro H locs ls hP hD hS hl
  refine lv_icmp_ge hx hb d ht9 (fun h => ?_) (fun h => ?_)
  · exact gt (by simpa using h) H locs ls hP hD hS hl
  · exact gf (by simpa using h) H locs ls hP hD hS hl
theorem g_if_ge (C : CX p s m args c cc nL own D cs A) {x : Int32} {off : Int} (tgt : Nat) (d : decode cc pc = .ok (.ifCond .ge off, 3)) (ht9 : (pc : Int) + off = (tgt : Int)) (gt : 0 ≤ x → GO p l e R s m args below meth c cells slots Q A D nL tgt lv st ws) (gf : ¬ (0 ≤ x) → GO p l e R s m args below meth c cells slots Q A D nL (pc + 3) lv st ws) : GO p l e R s m args below meth c cells slots Q A D nL pc lv (.int x :: st) ws := by
  obtain ⟨⟨hx, hb, hml, hown, ht⟩, hK, hA⟩ := C
  intro H locs ls hP hD hS hl
  refine lv_if_ge hx hb d ht9 (fun h => ?_) (fun h => ?_)
  · exact gt (by simpa using h) H locs ls hP hD hS hl
  · exact gf (by simpa using h) H locs ls hP hD hS hl
theorem g_icmp_gt (C : CX p s m args c cc nL own D cs A) {x y : Int32} {off : Int} (tgt : Nat) (d : decode cc pc = .ok (.if_icmp .gt off, 3)) (ht9 : (pc : Int) + off = (tgt : Int)) (gt : y < x → GO p l e R s m args below meth c cells slots Q A D nL tgt lv st ws) (gf : ¬ (y < x) → GO p l e R s m args below meth c cells slots Q A D nL (pc + 3) lv st ws) : GO p l e R s m args below meth c cells slots Q A D nL pc lv (.int y :: .int x :: st) ws := by
  obtain ⟨⟨hx, hb, hml, hown, ht⟩, hK, hA⟩ := C
  intro H locs ls hP hD hS hl
  refine lv_icmp_gt hx hb d ht9 (fun h => ?_) (fun h => ?_)
  · exact gt (by simpa using h) H locs ls hP hD hS hl
  · exact gf (by simpa using h) H locs ls hP hD hS hl
theorem g_if_gt (C : CX p s m args c cc nL own D cs A) {x : Int32} {off : Int} (tgt : Nat) (d : decode cc pc = .ok (.ifCond .gt off, 3)) (ht9 : (pc : Int) + off = (tgt : Int)) (gt : 0 < x → GO p l e R s m args below meth c cells slots Q A D nL tgt lv st ws) (gf : ¬ (0 < x) → GO p l e R s m args below meth c cells slots Q A D nL (pc + 3) lv st ws) : GO p l e R s m args below meth c cells slots Q A D nL pc lv (.int x :: st) ws := by
  obtain ⟨⟨hx, hb, hml, hown, ht⟩, hK, hA⟩ := C
  intro H locs ls hP hD hS hl
  refine lv_if_gt hx hb d ht9 (fun h => ?_) (fun h => ?_)
  · exact gt (by simpa using h) H locs ls hP hD hS hl
  · exact gf (by simpa using h) H locs ls hP hD hS hl
theorem g_icmp_le (C : CX p s m args c cc nL own D cs A) {x y : Int32} {off : Int} (tgt : Nat) (d : decode cc pc = .ok (.if_icmp .le off, 3)) (ht9 : (pc : Int) + off = (tgt : Int)) (gt : x ≤ y → GO p l e R s m args below meth c cells slots Q A D nL tgt lv st ws) (gf : ¬ (x ≤ y) → GO p l e R s m args below meth c cells slots Q A D nL (pc + 3) lv st ws) : GO p l e R s m args below meth c cells slots Q A D nL pc lv (.int y :: .int x :: st) ws := by
  obtain ⟨⟨hx, hb, hml, hown, ht⟩, hK, hA⟩ := C
  intro H locs ls hP hD hS hl
  refine lv_icmp_le hx hb d ht9 (fun h => ?_) (fun h => ?_)
  · exact gt (by simpa using h) H locs ls hP hD hS hl
  · exact gf (by simpa using h) H locs ls hP hD hS hl
theorem g_if_le (C : CX p s m args c cc nL own D cs A) {x : Int32} {off : Int} (tgt : Nat) (d : decode cc pc = .ok (.ifCond .le off, 3)) (ht9 : (pc : Int) + off = (tgt : Int)) (gt : x ≤ 0 → GO p l e R s m args below meth c cells slots Q A D nL tgt lv st ws) (gf : ¬ (x ≤ 0) → GO p l e R s m args below meth c cells slots Q A D nL (pc + 3) lv st ws) : GO p l e R s m args below meth c cells slots Q A D nL pc lv (.int x :: st) ws := by
  obtain ⟨⟨hx, hb, hml, hown, ht⟩, hK, hA⟩ := C
  intro H locs ls hP hD hS hl
  refine lv_if_le hx hb d ht9 (fun h => ?_) (fun h => ?_)
  · exact gt (by simpa using h) H locs ls hP hD hS hl
  · exact gf (by simpa using h) H locs ls hP hD hS hl
end GR
end
section
section GR2
variable {p : Program} {l : Launch} {e : Env} {R : Room} {s : State} {m : MethodId} {args : Array Value} {below : List Frame} {meth : Method} {c : Code} {cells slots : Nat} {Q : State → Prop} {A : Nat → Prop} {D : va_G} {nL : Nat} {cc : ByteArray} {own : String} {cs : ClassId × ClassId × ClassId × ClassId}
variable {pc : Nat} {lv lv' : List (Nat × Value)} {st : List Value} {ws ws' : va_W}

theorem n_icmp_eq (C : CX p s m args c cc nL own D cs A) {a b : Nat} {off : Int} (tgt : Nat) (d : decode cc pc = .ok (.if_icmp .eq off, 3)) (ht9 : (pc : Int) + off = (tgt : Int)) (ha : a < 2 ^ 31) (hb9 : b < 2 ^ 31) (gt : a = b → GO p l e R s m args below meth c cells slots Q A D nL tgt lv st ws) (gf : a ≠ b → GO p l e R s m args below meth c cells slots Q A D nL (pc + 3) lv st ws) : GO p l e R s m args below meth c cells slots Q A D nL pc lv (.int (nI b) :: .int (nI a) :: st) ws := by
  exact g_icmp_eq C tgt d ht9 (fun h => gt ((nI_eq ha hb9).mp h)) (fun h => gf (fun q => h (by rw [q])))
theorem n_icmp_ne (C : CX p s m args c cc nL own D cs A) {a b : Nat} {off : Int} (tgt : Nat) (d : decode cc pc = .ok (.if_icmp .ne off, 3)) (ht9 : (pc : Int) + off = (tgt : Int)) (ha : a < 2 ^ 31) (hb9 : b < 2 ^ 31) (gt : a ≠ b → GO p l e R s m args below meth c cells slots Q A D nL tgt lv st ws) (gf : a = b → GO p l e R s m args below meth c cells slots Q A D nL (pc + 3) lv st ws) : GO p l e R s m args below meth c cells slots Q A D nL pc lv (.int (nI b) :: .int (nI a) :: st) ws := by
  exact g_icmp_ne C tgt d ht9 (fun h => gt (fun q => h (by rw [q]))) (fun h => gf ((nI_eq ha hb9).mp (Classical.not_not.mp h)))
theorem n_icmp_lt (C : CX p s m args c cc nL own D cs A) {a b : Nat} {off : Int} (tgt : Nat) (d : decode cc pc = .ok (.if_icmp .lt off, 3)) (ht9 : (pc : Int) + off = (tgt : Int)) (ha : a < 2 ^ 31) (hb9 : b < 2 ^ 31) (gt : a < b → GO p l e R s m args below meth c cells slots Q A D nL tgt lv st ws) (gf : b ≤ a → GO p l e R s m args below meth c cells slots Q A D nL (pc + 3) lv st ws) : GO p l e R s m args below meth c cells slots Q A D nL pc lv (.int (nI b) :: .int (nI a) :: st) ws := by
  exact g_icmp_lt C tgt d ht9 (fun h => gt ((nI_ltI ha hb9).mp h)) (fun h => gf (Nat.not_lt.mp (fun q => h ((nI_ltI ha hb9).mpr q))))
theorem n_icmp_ge (C : CX p s m args c cc nL own D cs A) {a b : Nat} {off : Int} (tgt : Nat) (d : decode cc pc = .ok (.if_icmp .ge off, 3)) (ht9 : (pc : Int) + off = (tgt : Int)) (ha : a < 2 ^ 31) (hb9 : b < 2 ^ 31) (gt : b ≤ a → GO p l e R s m args below meth c cells slots Q A D nL tgt lv st ws) (gf : a < b → GO p l e R s m args below meth c cells slots Q A D nL (pc + 3) lv st ws) : GO p l e R s m args below meth c cells slots Q A D nL pc lv (.int (nI b) :: .int (nI a) :: st) ws := by
  exact g_icmp_ge C tgt d ht9 (fun h => gt ((nI_leI hb9 ha).mp h)) (fun h => gf (Nat.not_le.mp (fun q => h ((nI_leI hb9 ha).mpr q))))
theorem n_icmp_gt (C : CX p s m args c cc nL own D cs A) {a b : Nat} {off : Int} (tgt : Nat) (d : decode cc pc = .ok (.if_icmp .gt off, 3)) (ht9 : (pc : Int) + off = (tgt : Int)) (ha : a < 2 ^ 31) (hb9 : b < 2 ^ 31) (gt : b < a → GO p l e R s m args below meth c cells slots Q A D nL tgt lv st ws) (gf : a ≤ b → GO p l e R s m args below meth c cells slots Q A D nL (pc + 3) lv st ws) : GO p l e R s m args below meth c cells slots Q A D nL pc lv (.int (nI b) :: .int (nI a) :: st) ws := by
  exact g_icmp_gt C tgt d ht9 (fun h => gt ((nI_ltI hb9 ha).mp h)) (fun h => gf (Nat.not_lt.mp (fun q => h ((nI_ltI hb9 ha).mpr q))))
theorem n_icmp_le (C : CX p s m args c cc nL own D cs A) {a b : Nat} {off : Int} (tgt : Nat) (d : decode cc pc = .ok (.if_icmp .le off, 3)) (ht9 : (pc : Int) + off = (tgt : Int)) (ha : a < 2 ^ 31) (hb9 : b < 2 ^ 31) (gt : a ≤ b → GO p l e R s m args below meth c cells slots Q A D nL tgt lv st ws) (gf : b < a → GO p l e R s m args below meth c cells slots Q A D nL (pc + 3) lv st ws) : GO p l e R s m args below meth c cells slots Q A D nL pc lv (.int (nI b) :: .int (nI a) :: st) ws := by
  exact g_icmp_le C tgt d ht9 (fun h => gt ((nI_leI ha hb9).mp h)) (fun h => gf (Nat.not_le.mp (fun q => h ((nI_leI ha hb9).mpr q))))
theorem nI_z {a : Nat} (ha : a < 2 ^ 31) : nI a = 0 ↔ a = 0 := ⟨fun h => Classical.byContradiction fun q => nI_ne0 (Nat.pos_of_ne_zero q) ha h, fun h => by rw [h]; exact nI_0⟩
theorem nI_le0 {a : Nat} (ha : a < 2 ^ 31) : nI a ≤ 0 ↔ a = 0 := ⟨fun h => Classical.byContradiction fun q => nI_nle (Nat.pos_of_ne_zero q) ha h, fun h => by rw [h]; decide⟩
theorem nI_gt0 {a : Nat} (ha : a < 2 ^ 31) : 0 < nI a ↔ 0 < a := by
  rw [Int32.lt_iff_toInt_lt, nI_toInt ha]; simp
theorem n_if_eq (C : CX p s m args c cc nL own D cs A) {a : Nat} {off : Int} (tgt : Nat) (d : decode cc pc = .ok (.ifCond .eq off, 3)) (ht9 : (pc : Int) + off = (tgt : Int)) (ha : a < 2 ^ 31) (gt : a = 0 → GO p l e R s m args below meth c cells slots Q A D nL tgt lv st ws) (gf : 0 < a → GO p l e R s m args below meth c cells slots Q A D nL (pc + 3) lv st ws) : GO p l e R s m args below meth c cells slots Q A D nL pc lv (.int (nI a) :: st) ws := by
  exact g_if_eq C tgt d ht9 (fun h => gt ((nI_z ha).mp h)) (fun h => gf (Nat.pos_of_ne_zero fun q => h ((nI_z ha).mpr q)))
theorem n_if_ne (C : CX p s m args c cc nL own D cs A) {a : Nat} {off : Int} (tgt : Nat) (d : decode cc pc = .ok (.ifCond .ne off, 3)) (ht9 : (pc : Int) + off = (tgt : Int)) (ha : a < 2 ^ 31) (gt : 0 < a → GO p l e R s m args below meth c cells slots Q A D nL tgt lv st ws) (gf : a = 0 → GO p l e R s m args below meth c cells slots Q A D nL (pc + 3) lv st ws) : GO p l e R s m args below meth c cells slots Q A D nL pc lv (.int (nI a) :: st) ws := by
  exact g_if_ne C tgt d ht9 (fun h => gt (Nat.pos_of_ne_zero fun q => h ((nI_z ha).mpr q))) (fun h => gf ((nI_z ha).mp (Classical.not_not.mp h)))
theorem n_if_le (C : CX p s m args c cc nL own D cs A) {a : Nat} {off : Int} (tgt : Nat) (d : decode cc pc = .ok (.ifCond .le off, 3)) (ht9 : (pc : Int) + off = (tgt : Int)) (ha : a < 2 ^ 31) (gt : a = 0 → GO p l e R s m args below meth c cells slots Q A D nL tgt lv st ws) (gf : 0 < a → GO p l e R s m args below meth c cells slots Q A D nL (pc + 3) lv st ws) : GO p l e R s m args below meth c cells slots Q A D nL pc lv (.int (nI a) :: st) ws := by
  exact g_if_le C tgt d ht9 (fun h => gt ((nI_le0 ha).mp h)) (fun h => gf (Nat.pos_of_ne_zero fun q => h ((nI_le0 ha).mpr q)))
theorem n_if_gt (C : CX p s m args c cc nL own D cs A) {a : Nat} {off : Int} (tgt : Nat) (d : decode cc pc = .ok (.ifCond .gt off, 3)) (ht9 : (pc : Int) + off = (tgt : Int)) (ha : a < 2 ^ 31) (gt : 0 < a → GO p l e R s m args below meth c cells slots Q A D nL tgt lv st ws) (gf : a = 0 → GO p l e R s m args below meth c cells slots Q A D nL (pc + 3) lv st ws) : GO p l e R s m args below meth c cells slots Q A D nL pc lv (.int (nI a) :: st) ws := by
  exact g_if_gt C tgt d ht9 (fun h => gt ((nI_gt0 ha).mp h)) (fun h => gf (Nat.eq_zero_of_not_pos fun q => h ((nI_gt0 ha).mpr q)))
theorem n_if_lt (C : CX p s m args c cc nL own D cs A) {a : Nat} {off : Int} (tgt : Nat) (d : decode cc pc = .ok (.ifCond .lt off, 3)) (ht9 : (pc : Int) + off = (tgt : Int)) (ha : a < 2 ^ 31) (gf : GO p l e R s m args below meth c cells slots Q A D nL (pc + 3) lv st ws) : GO p l e R s m args below meth c cells slots Q A D nL pc lv (.int (nI a) :: st) ws :=
  g_if_lt C tgt d ht9 (fun h => absurd h (nI_pos ha)) (fun _ => gf)
theorem n_if_ge (C : CX p s m args c cc nL own D cs A) {a : Nat} {off : Int} (tgt : Nat) (d : decode cc pc = .ok (.ifCond .ge off, 3)) (ht9 : (pc : Int) + off = (tgt : Int)) (ha : a < 2 ^ 31) (gt : GO p l e R s m args below meth c cells slots Q A D nL tgt lv st ws) : GO p l e R s m args below meth c cells slots Q A D nL pc lv (.int (nI a) :: st) ws :=
  g_if_ge C tgt d ht9 (fun _ => gt) (fun h => absurd (nI_pos' ha) h)
theorem lgc_0 (x y : Int64) : lg_cmp x y = 0 ↔ x = y := by
  unfold lg_cmp
  by_cases h1 : y < x
  · have : x ≠ y := fun q => by rw [q] at h1; exact absurd h1 (Int64.lt_irrefl)
    simp [h1, this]
  · by_cases h2 : x = y <;> simp [h1, h2]
theorem lgc_le (x y : Int64) : lg_cmp x y ≤ 0 ↔ x ≤ y := by
  unfold lg_cmp
  by_cases h1 : y < x
  · simp [h1, Int64.not_le.mpr h1]
  · have := Int64.not_lt.mp h1
    by_cases h2 : x = y
    · subst h2; simp [h1]
    · simp [h1, h2, this]
theorem lgc_lt (x y : Int64) : lg_cmp x y < 0 ↔ x < y := by
  unfold lg_cmp
  by_cases h1 : y < x
  · simp [h1, Int64.not_lt.mpr (Int64.le_of_lt h1)]
  · by_cases h2 : x = y
    · subst h2; simp [h1]
    · have : x < y := Int64.lt_of_le_of_ne (Int64.not_lt.mp h1) h2
      simp [h1, h2, this]
theorem g_lcmp_eq (C : CX p s m args c cc nL own D cs A) {x y : Int64} {off : Int} (tgt : Nat) (d1 : decode cc pc = .ok (.lcmp, 1)) (d : decode cc (pc + 1) = .ok (.ifCond .eq off, 3)) (ht9 : ((pc + 1 : Nat) : Int) + off = (tgt : Int)) (gt : x = y → GO p l e R s m args below meth c cells slots Q A D nL tgt lv st ws) (gf : ¬ x = y → GO p l e R s m args below meth c cells slots Q A D nL (pc + 4) lv st ws) : GO p l e R s m args below meth c cells slots Q A D nL pc lv (.long y :: .long x :: st) ws := by
  have CC := C
  obtain ⟨⟨hx, hb, hml, hown, ht⟩, hK, hA⟩ := C
  intro H locs ls hP hD hS hl
  refine W.lcmp hx hb d1 ?_
  refine g_if_eq CC (pc := pc + 1) (st := st) (ws := ws) tgt d ht9 (fun h => ?_) (fun h => ?_) H locs ls hP hD hS hl
  · intro H locs ls hP hD hS hl
    exact gt ((lgc_0 x y).mp h) H locs ls hP hD hS hl
  · intro H locs ls hP hD hS hl
    exact gf (fun q => h ((lgc_0 x y).mpr q)) H locs ls hP hD hS hl
theorem g_lcmp_ne (C : CX p s m args c cc nL own D cs A) {x y : Int64} {off : Int} (tgt : Nat) (d1 : decode cc pc = .ok (.lcmp, 1)) (d : decode cc (pc + 1) = .ok (.ifCond .ne off, 3)) (ht9 : ((pc + 1 : Nat) : Int) + off = (tgt : Int)) (gt : ¬ x = y → GO p l e R s m args below meth c cells slots Q A D nL tgt lv st ws) (gf : x = y → GO p l e R s m args below meth c cells slots Q A D nL (pc + 4) lv st ws) : GO p l e R s m args below meth c cells slots Q A D nL pc lv (.long y :: .long x :: st) ws := by
  have CC := C
  obtain ⟨⟨hx, hb, hml, hown, ht⟩, hK, hA⟩ := C
  intro H locs ls hP hD hS hl
  refine W.lcmp hx hb d1 ?_
  refine g_if_ne CC (pc := pc + 1) (st := st) (ws := ws) tgt d ht9 (fun h => ?_) (fun h => ?_) H locs ls hP hD hS hl
  · intro H locs ls hP hD hS hl
    exact gt (fun q => h ((lgc_0 x y).mpr q)) H locs ls hP hD hS hl
  · intro H locs ls hP hD hS hl
    exact gf ((lgc_0 x y).mp (Classical.not_not.mp h)) H locs ls hP hD hS hl
theorem g_lcmp_le (C : CX p s m args c cc nL own D cs A) {x y : Int64} {off : Int} (tgt : Nat) (d1 : decode cc pc = .ok (.lcmp, 1)) (d : decode cc (pc + 1) = .ok (.ifCond .le off, 3)) (ht9 : ((pc + 1 : Nat) : Int) + off = (tgt : Int)) (gt : x ≤ y → GO p l e R s m args below meth c cells slots Q A D nL tgt lv st ws) (gf : y < x → GO p l e R s m args below meth c cells slots Q A D nL (pc + 4) lv st ws) : GO p l e R s m args below meth c cells slots Q A D nL pc lv (.long y :: .long x :: st) ws := by
  have CC := C
  obtain ⟨⟨hx, hb, hml, hown, ht⟩, hK, hA⟩ := C
  intro H locs ls hP hD hS hl
  refine W.lcmp hx hb d1 ?_
  refine g_if_le CC (pc := pc + 1) (st := st) (ws := ws) tgt d ht9 (fun h => ?_) (fun h => ?_) H locs ls hP hD hS hl
  · intro H locs ls hP hD hS hl
    exact gt ((lgc_le x y).mp h) H locs ls hP hD hS hl
  · intro H locs ls hP hD hS hl
    exact gf (Int64.not_le.mp fun q => h ((lgc_le x y).mpr q)) H locs ls hP hD hS hl
theorem g_lcmp_gt (C : CX p s m args c cc nL own D cs A) {x y : Int64} {off : Int} (tgt : Nat) (d1 : decode cc pc = .ok (.lcmp, 1)) (d : decode cc (pc + 1) = .ok (.ifCond .gt off, 3)) (ht9 : ((pc + 1 : Nat) : Int) + off = (tgt : Int)) (gt : y < x → GO p l e R s m args below meth c cells slots Q A D nL tgt lv st ws) (gf : x ≤ y → GO p l e R s m args below meth c cells slots Q A D nL (pc + 4) lv st ws) : GO p l e R s m args below meth c cells slots Q A D nL pc lv (.long y :: .long x :: st) ws := by
  have CC := C
  obtain ⟨⟨hx, hb, hml, hown, ht⟩, hK, hA⟩ := C
  intro H locs ls hP hD hS hl
  refine W.lcmp hx hb d1 ?_
  refine g_if_gt CC (pc := pc + 1) (st := st) (ws := ws) tgt d ht9 (fun h => ?_) (fun h => ?_) H locs ls hP hD hS hl
  · intro H locs ls hP hD hS hl
    exact gt (Int64.not_le.mp fun q => absurd ((lgc_le x y).mpr q) (Int32.not_le.mpr h)) H locs ls hP hD hS hl
  · intro H locs ls hP hD hS hl
    exact gf ((lgc_le x y).mp (Int32.not_lt.mp h)) H locs ls hP hD hS hl
theorem g_lcmp_lt (C : CX p s m args c cc nL own D cs A) {x y : Int64} {off : Int} (tgt : Nat) (d1 : decode cc pc = .ok (.lcmp, 1)) (d : decode cc (pc + 1) = .ok (.ifCond .lt off, 3)) (ht9 : ((pc + 1 : Nat) : Int) + off = (tgt : Int)) (gt : x < y → GO p l e R s m args below meth c cells slots Q A D nL tgt lv st ws) (gf : y ≤ x → GO p l e R s m args below meth c cells slots Q A D nL (pc + 4) lv st ws) : GO p l e R s m args below meth c cells slots Q A D nL pc lv (.long y :: .long x :: st) ws := by
  have CC := C
  obtain ⟨⟨hx, hb, hml, hown, ht⟩, hK, hA⟩ := C
  intro H locs ls hP hD hS hl
  refine W.lcmp hx hb d1 ?_
  refine g_if_lt CC (pc := pc + 1) (st := st) (ws := ws) tgt d ht9 (fun h => ?_) (fun h => ?_) H locs ls hP hD hS hl
  · intro H locs ls hP hD hS hl
    exact gt ((lgc_lt x y).mp h) H locs ls hP hD hS hl
  · intro H locs ls hP hD hS hl
    exact gf (Int64.not_lt.mp fun q => h ((lgc_lt x y).mpr q)) H locs ls hP hD hS hl
theorem g_lcmp_ge (C : CX p s m args c cc nL own D cs A) {x y : Int64} {off : Int} (tgt : Nat) (d1 : decode cc pc = .ok (.lcmp, 1)) (d : decode cc (pc + 1) = .ok (.ifCond .ge off, 3)) (ht9 : ((pc + 1 : Nat) : Int) + off = (tgt : Int)) (gt : y ≤ x → GO p l e R s m args below meth c cells slots Q A D nL tgt lv st ws) (gf : x < y → GO p l e R s m args below meth c cells slots Q A D nL (pc + 4) lv st ws) : GO p l e R s m args below meth c cells slots Q A D nL pc lv (.long y :: .long x :: st) ws := by
  have CC := C
  obtain ⟨⟨hx, hb, hml, hown, ht⟩, hK, hA⟩ := C
  intro H locs ls hP hD hS hl
  refine W.lcmp hx hb d1 ?_
  refine g_if_ge CC (pc := pc + 1) (st := st) (ws := ws) tgt d ht9 (fun h => ?_) (fun h => ?_) H locs ls hP hD hS hl
  · intro H locs ls hP hD hS hl
    exact gt (Int64.not_lt.mp fun q => absurd ((lgc_lt x y).mpr q) (Int32.not_lt.mpr h)) H locs ls hP hD hS hl
  · intro H locs ls hP hD hS hl
    exact gf ((lgc_lt x y).mp (Int32.not_le.mp h)) H locs ls hP hD hS hl
theorem g_get (C : CX p s m args c cc nL own D cs A) {C9 : String} {T : u_T} {N ci index a : Nat} {fs : List Value} {v : Value} (q0 k : Nat) (hin : ∀ w ∈ u_ws C9 T N, w ∈ TB) (he : ws[q0]? = some (a, .inr (ci, fs))) (hc : CLS[ci]? = some (C9, T, N)) (hk : k < N) (hw : Cond.fieldLink own index C9 (T k).2.1 (T k).2.2.1 ∈ TB) (h1 : (T k).1 = C9) (hv : fs[k]? = some v) (d : decode cc pc = .ok (.getfield index, 3)) (g : GO p l e R s m args below meth c cells slots Q A D nL (pc + 3) lv (v :: st) ws) : GO p l e R s m args below meth c cells slots Q A D nL pc lv (.ref a :: st) ws := by
  obtain ⟨⟨hx, hb, hml, hown, ht⟩, hK, hA⟩ := C
  intro H locs ls hP hD hS hl
  exact va_get (D := D) hx hb ht hin hown hK hP q0 he hc k hk (ht _ hw) (fun _ h9 => by rw [h1] at h9; exact h9) hv d (g H locs ls hP hD hS hl)
theorem g_getN (C : CX p s m args c cc nL own D cs A) {C9 host : String} {T : u_T} {N ci index a : Nat} {fs : List Value} {v : Value} {k : Nat} (hN : va_Nw (.fieldLinkNest own index C9 (T k).2.1 (T k).2.2.1 host) s) (q0 : Nat) (hin : ∀ w ∈ u_ws C9 T N, w ∈ TB) (he : ws[q0]? = some (a, .inr (ci, fs))) (hc : CLS[ci]? = some (C9, T, N)) (hk : k < N) (h1 : (T k).1 = C9) (hv : fs[k]? = some v) (d : decode cc pc = .ok (.getfield index, 3)) (g : GO p l e R s m args below meth c cells slots Q A D nL (pc + 3) lv (v :: st) ws) : GO p l e R s m args below meth c cells slots Q A D nL pc lv (.ref a :: st) ws := by
  obtain ⟨⟨hx, hb, hml, hown, ht⟩, hK, hA⟩ := C
  intro H locs ls hP hD hS hl
  exact va_getN (D := D) hx hb ht hin hown hK hP q0 he hc k hk (va_Nw.use rfl hN) (fun _ h9 => by rw [h1] at h9; exact h9) hv d (g H locs ls hP hD hS hl)
theorem g_put (C : CX p s m args c cc nL own D cs A) {C9 : String} {T : u_T} {N ci index a : Nat} {fs : List Value} {v : Value} {ty : FieldType} (q0 k : Nat) (hin : ∀ w ∈ u_ws C9 T N, w ∈ TB) (ty0 : Nat → FieldType) (hty : ∀ k, k < N → parseFieldDescriptor (T k).2.2.1 = some (ty0 k)) (hnm : ∀ a, a < N → ∀ b, b < N → a ≠ b → (T a).2.1 ≠ (T b).2.1) (he : ws[q0]? = some (a, .inr (ci, fs))) (hc : CLS[ci]? = some (C9, T, N)) (hk : k < N) (hw : Cond.fieldLink own index C9 (T k).2.1 (T k).2.2.1 ∈ TB) (h1 : (T k).1 = C9) (hfin : (T k).2.2.2 = false) (hd : ty0 k = ty) (hn : narrow ty v = v) (hfit : fits ty v = true) (hl9 : k < fs.length) (hws : ws.set q0 (a, .inr (ci, fs.set k v)) = ws') (d : decode cc pc = .ok (.putfield index, 3)) (g : GO p l e R s m args below meth c cells slots Q A D nL (pc + 3) lv st ws') : GO p l e R s m args below meth c cells slots Q A D nL pc lv (v :: .ref a :: st) ws := by
  obtain ⟨⟨hx, hb, hml, hown, ht⟩, hK, hA⟩ := C
  intro H locs ls hP hD hS hl
  subst hws; subst hd
  exact va_put (D := D) (ty := ty0 k) hx hb ht hin ty0 hty hnm hown hK hP hD hS q0 he hc k hk (ht _ hw) (fun _ h9 => by rw [h1] at h9; exact h9) hfin (hty k hk) hn hfit hl9 d (fun H1 locs1 hP1 hD1 hS1 => g H1 locs1 ls hP1 hD1 hS1 hl)
theorem g_putF (C : CX p s m args c cc nL own D cs A) {C9 : String} {T : u_T} {N ci index a : Nat} {fs : List Value} {v : Value} {ty : FieldType} (hin2 : meth.name = "<init>") (q0 k : Nat) (hin : ∀ w ∈ u_ws C9 T N, w ∈ TB) (ty0 : Nat → FieldType) (hty : ∀ k, k < N → parseFieldDescriptor (T k).2.2.1 = some (ty0 k)) (hnm : ∀ a, a < N → ∀ b, b < N → a ≠ b → (T a).2.1 ≠ (T b).2.1) (he : ws[q0]? = some (a, .inr (ci, fs))) (hc : CLS[ci]? = some (C9, T, N)) (hk : k < N) (hw : Cond.fieldLink own index C9 (T k).2.1 (T k).2.2.1 ∈ TB) (h1 : (T k).1 = C9) (ho : C9 = own) (hfin : (T k).2.2.2 = true) (hd : ty0 k = ty) (hn : narrow ty v = v) (hfit : fits ty v = true) (hl9 : k < fs.length) (hws : ws.set q0 (a, .inr (ci, fs.set k v)) = ws') (d : decode cc pc = .ok (.putfield index, 3)) (g : GO p l e R s m args below meth c cells slots Q A D nL (pc + 3) lv st ws') : GO p l e R s m args below meth c cells slots Q A D nL pc lv (v :: .ref a :: st) ws := by
  obtain ⟨⟨hx, hb, hml, hown, ht⟩, hK, hA⟩ := C
  intro H locs ls hP hD hS hl
  subst hws; subst hd
  exact va_putF (D := D) (ty := ty0 k) hx hb ht hin ty0 hty hnm hown hK hP hD hS q0 he hc k hk (ht _ hw) (fun _ h9 => by rw [h1] at h9; exact h9) hfin hin2 (h1.trans ho) (hty k hk) hn hfit hl9 d (fun H1 locs1 hP1 hD1 hS1 => g H1 locs1 ls hP1 hD1 hS1 hl)
theorem g_iald (C : CX p s m args c cc nL own D cs A) {n a i : Nat} {f : Nat → Int32} (q0 : Nat) (ha : ws[q0]? = some (a, .inl (cs.1, n, .inl f))) (hi : i < n) (hn : n < 2 ^ 31) (d : decode cc pc = .ok (.iaload, 1)) (g : GO p l e R s m args below meth c cells slots Q A D nL (pc + 1) lv (.int (f i) :: st) ws) : GO p l e R s m args below meth c cells slots Q A D nL pc lv (.int (nI i) :: .ref a :: st) ws := by
  obtain ⟨⟨hx, hb, hml, hown, ht⟩, hK, hA⟩ := C
  intro H locs ls hP hD hS hl
  refine va_iald hx hb hK hP q0 0 ha rfl (vp_in_nI hi hn) d ?_
  rw [nI_clamp (Nat.lt_trans hi hn)]
  exact g H locs ls hP hD hS hl
theorem g_lald (C : CX p s m args c cc nL own D cs A) {n a i : Nat} {f : Nat → Int64} (q0 : Nat) (ha : ws[q0]? = some (a, .inl (cs.2.1, n, .inr (.inl f)))) (hi : i < n) (hn : n < 2 ^ 31) (d : decode cc pc = .ok (.laload, 1)) (g : GO p l e R s m args below meth c cells slots Q A D nL (pc + 1) lv (.long (f i) :: st) ws) : GO p l e R s m args below meth c cells slots Q A D nL pc lv (.int (nI i) :: .ref a :: st) ws := by
  obtain ⟨⟨hx, hb, hml, hown, ht⟩, hK, hA⟩ := C
  intro H locs ls hP hD hS hl
  refine va_lald hx hb hK hP q0 1 ha rfl (vp_in_nI hi hn) d ?_
  rw [nI_clamp (Nat.lt_trans hi hn)]
  exact g H locs ls hP hD hS hl
theorem g_zald (C : CX p s m args c cc nL own D cs A) {n a i : Nat} {f : Nat → Int32} (q0 : Nat) (ha : ws[q0]? = some (a, .inl (cs.2.2.1, n, .inl f))) (hi : i < n) (hn : n < 2 ^ 31) (d : decode cc pc = .ok (.baload, 1)) (g : GO p l e R s m args below meth c cells slots Q A D nL (pc + 1) lv (.int (f i) :: st) ws) : GO p l e R s m args below meth c cells slots Q A D nL pc lv (.int (nI i) :: .ref a :: st) ws := by
  obtain ⟨⟨hx, hb, hml, hown, ht⟩, hK, hA⟩ := C
  intro H locs ls hP hD hS hl
  refine va_zald hx hb hK hP q0 2 ha rfl (vp_in_nI hi hn) d ?_
  rw [nI_clamp (Nat.lt_trans hi hn)]
  exact g H locs ls hP hD hS hl
theorem g_iast (C : CX p s m args c cc nL own D cs A) {n a i : Nat} {f : Nat → Int32} {v : Int32} (q0 : Nat) (ha : ws[q0]? = some (a, .inl (cs.1, n, .inl f))) (hi : i < n) (hn : n < 2 ^ 31) (hws : ws.set q0 (a, .inl (cs.1, n, .inl (upd f i v))) = ws') (d : decode cc pc = .ok (.iastore, 1)) (g : GO p l e R s m args below meth c cells slots Q A D nL (pc + 1) lv st ws') : GO p l e R s m args below meth c cells slots Q A D nL pc lv (.int v :: .int (nI i) :: .ref a :: st) ws := by
  obtain ⟨⟨hx, hb, hml, hown, ht⟩, hK, hA⟩ := C
  intro H locs ls hP hD hS hl
  subst hws
  refine va_iast hx hb hK hP hD hS q0 0 ha rfl (vp_in_nI hi hn) d (fun H1 locs1 hP1 hD1 hS1 => ?_)
  rw [nI_clamp (Nat.lt_trans hi hn)] at hP1 hD1
  exact g H1 locs1 ls hP1 hD1 hS1 hl
theorem g_last (C : CX p s m args c cc nL own D cs A) {n a i : Nat} {f : Nat → Int64} {v : Int64} (q0 : Nat) (ha : ws[q0]? = some (a, .inl (cs.2.1, n, .inr (.inl f)))) (hi : i < n) (hn : n < 2 ^ 31) (hws : ws.set q0 (a, .inl (cs.2.1, n, .inr (.inl (vp_updL f i v)))) = ws') (d : decode cc pc = .ok (.lastore, 1)) (g : GO p l e R s m args below meth c cells slots Q A D nL (pc + 1) lv st ws') : GO p l e R s m args below meth c cells slots Q A D nL pc lv (.long v :: .int (nI i) :: .ref a :: st) ws := by
  obtain ⟨⟨hx, hb, hml, hown, ht⟩, hK, hA⟩ := C
  intro H locs ls hP hD hS hl
  subst hws
  refine va_last hx hb hK hP hD hS q0 1 ha rfl (vp_in_nI hi hn) d (fun H1 locs1 hP1 hD1 hS1 => ?_)
  rw [nI_clamp (Nat.lt_trans hi hn)] at hP1 hD1
  exact g H1 locs1 ls hP1 hD1 hS1 hl
theorem g_zast (C : CX p s m args c cc nL own D cs A) {n a i b : Nat} {f : Nat → Int32} (q0 : Nat) (ha : ws[q0]? = some (a, .inl (cs.2.2.1, n, .inl f))) (hi : i < n) (hn : n < 2 ^ 31) (hb9 : b < 2) (hws : ws.set q0 (a, .inl (cs.2.2.1, n, .inl (upd f i (nI b)))) = ws') (d : decode cc pc = .ok (.bastore, 1)) (g : GO p l e R s m args below meth c cells slots Q A D nL (pc + 1) lv st ws') : GO p l e R s m args below meth c cells slots Q A D nL pc lv (.int (nI b) :: .int (nI i) :: .ref a :: st) ws := by
  obtain ⟨⟨hx, hb, hml, hown, ht⟩, hK, hA⟩ := C
  intro H locs ls hP hD hS hl
  subst hws
  have hz : vp_nar .boolean (nI b) = nI b := by
    have : b = 0 ∨ b = 1 := by omega
    rcases this with rfl | rfl <;> rfl
  refine va_zast hx hb hK hP hD hS q0 2 ha rfl (vp_in_nI hi hn) d (fun H1 locs1 hP1 hD1 hS1 => ?_)
  rw [nI_clamp (Nat.lt_trans hi hn), hz] at hP1 hD1
  exact g H1 locs1 ls hP1 hD1 hS1 hl
theorem g_lv (ks : List Nat) (h : lv_pick lv ks = lv') (g : GO p l e R s m args below meth c cells slots Q A D nL pc lv' st ws) : GO p l e R s m args below meth c cells slots Q A D nL pc lv st ws := fun H locs ls hP hD hS hl => g H locs ls hP hD hS (lv_sub hl ks h)
theorem g_ws (h : ws = ws') (g : GO p l e R s m args below meth c cells slots Q A D nL pc lv st ws') : GO p l e R s m args below meth c cells slots Q A D nL pc lv st ws := by rw [h]; exact g
/-- an array's contents may be told otherwise where they are the same -/
theorem arrV_congr {cA : ClassId} {n : Nat} {f g : Nat → Value} (h : ∀ j, j < n → f j = g j) : arrV cA n f = arrV cA n g := by
  unfold arrV
  congr 1
  first | (congr 1; funext j; exact h j.val j.isLt) | (apply congrArg; funext j; exact h j.val j.isLt)
theorem g_ci {cA : ClassId} {n a : Nat} {f f2 : Nat → Int32} (q0 : Nat) (ha : ws[q0]? = some (a, .inl (cA, n, .inl f))) (h : ∀ j, j < n → f j = f2 j) (hws : ws.set q0 (a, .inl (cA, n, .inl f2)) = ws') (g : GO p l e R s m args below meth c cells slots Q A D nL pc lv st ws') : GO p l e R s m args below meth c cells slots Q A D nL pc lv st ws := by
  subst hws
  intro H locs ls hP hD hS hl
  refine g H locs ls ?_ (hD.set ha) hS hl
  refine hP.set hD ha ?_ (fun _ _ => rfl)
  have h9 := hP q0 _ ha
  show H[a]? = some (vp_cell cA (n, .inl f2))
  have e9 : vp_cell cA (n, .inl f2) = vp_cell cA (n, .inl f) := by
    rw [vp_cell_i, vp_cell_i]; exact arrV_congr (fun j hj => by rw [h j hj])
  rw [e9]
  exact h9
theorem g_cl {cA : ClassId} {n a : Nat} {f f2 : Nat → Int64} (q0 : Nat) (ha : ws[q0]? = some (a, .inl (cA, n, .inr (.inl f)))) (h : ∀ j, j < n → f j = f2 j) (hws : ws.set q0 (a, .inl (cA, n, .inr (.inl f2))) = ws') (g : GO p l e R s m args below meth c cells slots Q A D nL pc lv st ws') : GO p l e R s m args below meth c cells slots Q A D nL pc lv st ws := by
  subst hws
  intro H locs ls hP hD hS hl
  refine g H locs ls ?_ (hD.set ha) hS hl
  refine hP.set hD ha ?_ (fun _ _ => rfl)
  have h9 := hP q0 _ ha
  show H[a]? = some (vp_cell cA (n, .inr (.inl f2)))
  have e9 : vp_cell cA (n, .inr (.inl f2)) = vp_cell cA (n, .inr (.inl f)) := by
    rw [vp_cell_l, vp_cell_l]; exact arrV_congr (fun j hj => by rw [h j hj])
  rw [e9]
  exact h9
end GR2
end
section
/-- contracts: the world ws before, the answer and the world behind -/
def PCW (D : va_G) (cs : ClassId × ClassId × ClassId × ClassId) (av : List Value) (sz : Nat) (ws : va_W) : Array Value → State → Prop :=
  va_Pc av (fun U => U.heap.size = sz ∧ va_P D CLS ws U.heap ∧ va_K D CLS (tysG cs) U ∧ va_D (fun _ => True) ws ∧ NWs U)
abbrev QI (D : va_G) (r : Int32) (ws' : va_W) (A : Nat → Prop) : Array Value → State → Outcome → State → Prop := va_Qi (fun x (_ : Unit) => x = r) (fun _ t => va_P D CLS ws' t.heap) A
abbrev QL (D : va_G) (r : Int64) (ws' : va_W) (A : Nat → Prop) : Array Value → State → Outcome → State → Prop := va_Ql (fun x (_ : Unit) => x = r) (fun _ t => va_P D CLS ws' t.heap) A
abbrev QV (D : va_G) (ws' : va_W) (A : Nat → Prop) : Array Value → State → Outcome → State → Prop := va_Qv (fun (_ : Unit) => True) (fun _ t => va_P D CLS ws' t.heap) A
def MG (l : Launch) (y : MethodName) (k : Cond) (rm : Room) (D : va_G) (cs : ClassId × ClassId × ClassId × ClassId) (av : List Value) (ws : va_W) (Qf : (Nat → Prop) → Array Value → State → Outcome → State → Prop) : Prop :=
  ∀ sz, Met l y (k :: TB) rm (PCW D cs av sz ws) (Qf (va_A ws sz)) 0 0 (va_A ws sz)
theorem MG.mk {l : Launch} {y : MethodName} {cc : ByteArray} {maxL : Nat} {ret : Option FieldType} {rm : Room} {D : va_G} {cs : ClassId × ClassId × ClassId × ClassId} {av : List Value} {ws : va_W} {Qf : (Nat → Prop) → Array Value → State → Outcome → State → Prop} {own : String}
    (hy : plainName y.cls = true) (ho : y.cls = own) (hn : (lg_sl av).length ≤ maxL)
    (body : ∀ (p : Program) (e : Env) (s : State) (m : MethodId) (below : List Frame) (meth : Method) (c : Code) (A : Nat → Prop), CX p s m av.toArray c cc maxL own D cs A → meth.sig.returnType = ret → meth.locks = false →
      GO p l e rm s m av.toArray below meth c 0 0 (MQ below (Qf A) av.toArray s 0 0 A) A D maxL 0 (lv_args 0 av) [] ws) : MG l y (.code y cc maxL ret) rm D cs av ws Qf := by
  intro sz
  refine Met.ofW (cc := cc) (maxL := maxL) (ret := ret) hy rfl ?_
  intro p e s m args below meth c s₁ B hml hv
  obtain ⟨rfl, hsz, hP, hK, hD0, hNW⟩ := hv
  have hts := atoms_spec (ws := .code y cc maxL ret :: TB) B.pre
  have hown : s.vm.findClass own = some m.cls := by rw [← ho]; exact findClass_of_methodNamed B.named
  subst hsz
  have hD := hD0.self (sz := s.heap.size)
  have hl := lv_entry av hn
  rw [lg_entry_eq]
  exact body p e s m below meth c (va_A ws s.heap.size) ⟨⟨B.exec, B.bytes, hml, hown, fun w h => hts w (List.mem_cons_of_mem _ h)⟩, hK, fun q h => Or.inr h, hNW⟩ B.returns B.notSynchronized s.heap [] _ hP hD va_S.rf hl
theorem PCW.blind {D : va_G} {cs : ClassId × ClassId × ClassId × ClassId} {av : List Value} {sz : Nat} {ws : va_W} : FrameBlind (PCW D cs av sz ws) := fun a U g mk q => by
  obtain ⟨q0, q1, qP, qK, qD, qN⟩ := q
  exact ⟨q0, q1, qP, va_K.moved (u := U) (U := U.calling g mk a) (Vm.Alike.refl U.vm) qK, qD, NWs.same (s := U) (U := U.calling g mk a) rfl qN⟩
/-- a world whose places isC hold other things at the same addresses -/
def wUpd : va_W → List Nat → va_W → va_W
  | ws, i :: is, c :: cs => wUpd (ws.set i c) is cs
  | ws, _, _ => ws
theorem wUpd_at : ∀ (isC : List Nat) (ws wc : va_W), (∀ (j i : Nat) (c : Nat × va_E), isC[j]? = some i → wc[j]? = some c → ∃ e, ws[i]? = some (c.1, e)) → isC.length = wc.length →
    (∀ (k : Nat) (q : Nat × va_E), (wUpd ws isC wc)[k]? = some q → q ∈ wc ∨ (k ∉ isC ∧ ws[k]? = some q)) ∧ (∀ k : Nat, ((wUpd ws isC wc)[k]?).map (·.1) = (ws[k]?).map (·.1))
  | [], ws, [], _, _ => ⟨fun k q h => Or.inr ⟨List.not_mem_nil, h⟩, fun k => rfl⟩
  | [], ws, c :: cs, _, hl => by simp at hl
  | i :: is, ws, [], _, hl => by simp at hl
  | i :: is, ws, c :: cs, h, hl => by
    obtain ⟨e0, he0⟩ := h 0 i c rfl rfl
    have hlt := (List.getElem?_eq_some_iff.mp he0).1
    have hset : ∀ k : Nat, ((ws.set i c)[k]?).map (·.1) = (ws[k]?).map (·.1) := by
      intro k
      by_cases hk : i = k
      · subst hk
        rw [List.getElem?_set_self hlt, he0]; rfl
      · rw [List.getElem?_set_ne hk]
    have ih := wUpd_at is (ws.set i c) cs (fun j i2 c2 h1 h2 => by
      obtain ⟨e2, he2⟩ := h (j + 1) i2 c2 (by simpa using h1) (by simpa using h2)
      have h3 := hset i2
      rw [he2] at h3
      cases h4 : (ws.set i c)[i2]? with
      | none => rw [h4] at h3; cases h3
      | some x =>
        rw [h4] at h3
        have : x.1 = c2.1 := by simpa using h3
        exact ⟨x.2, by rw [← this]⟩) (by simpa using hl)
    refine ⟨fun k q hq => ?_, fun k => (ih.2 k).trans (hset k)⟩
    rcases ih.1 k q hq with h1 | ⟨h1, h2⟩
    · exact Or.inl (List.mem_cons_of_mem _ h1)
    · by_cases hk : i = k
      · subst hk
        rw [List.getElem?_set_self hlt] at h2
        cases h2
        exact Or.inl List.mem_cons_self
      · rw [List.getElem?_set_ne hk] at h2
        exact Or.inr ⟨fun q9 => (List.mem_cons.mp q9).elim (fun q8 => hk q8.symm) h1, h2⟩
theorem va_D.addr {A : Nat → Prop} {ws ws2 : va_W} (hD : va_D A ws) (h : ∀ k : Nat, (ws2[k]?).map (·.1) = (ws[k]?).map (·.1)) : va_D A ws2 := by
  have key : ∀ (k : Nat) (q : Nat × va_E), ws2[k]? = some q → ∃ q0, ws[k]? = some q0 ∧ q0.1 = q.1 := by
    intro k q hk
    have h1 := h k
    rw [hk] at h1
    cases h2 : ws[k]? with
    | none => rw [h2] at h1; cases h1
    | some x => rw [h2] at h1; exact ⟨x, rfl, by simpa using h1.symm⟩
  refine ⟨fun i j x y hi hj hxy => ?_, fun k q hk => ?_⟩
  · obtain ⟨x0, h1, h2⟩ := key i x hi
    obtain ⟨y0, h3, h4⟩ := key j y hj
    exact hD.1 i j x0 y0 h1 h3 (h2.trans (hxy.trans h4.symm))
  · obtain ⟨q0, h1, h2⟩ := key k q hk
    rw [← h2]
    exact hD.2 k q0 h1
theorem w_upd {D : va_G} {A : Nat → Prop} {ws wc wc' : va_W} {H H1 : Heap} (isC : List Nat) (hP : va_P D CLS ws H) (hD : va_D A ws) (hC : isC.map (fun i => ws[i]?) = wc.map some) (hadr : wc'.map (·.1) = wc.map (·.1))
    (hk : ∀ q : Nat, q < H.size → ¬ va_A wc H.size q → H1[q]? = H[q]?) (hP1 : va_P D CLS wc' H1) : va_P D CLS (wUpd ws isC wc') H1 ∧ va_D A (wUpd ws isC wc') := by
  have hlen : isC.length = wc.length := by simpa using congrArg List.length hC
  have hlen' : wc'.length = wc.length := by simpa using congrArg List.length hadr
  have hat : ∀ (j i : Nat) (c : Nat × va_E), isC[j]? = some i → wc[j]? = some c → ws[i]? = some c := by
    intro j i c h1 h2
    have h3 : (isC.map (fun i => ws[i]?))[j]? = (wc.map some)[j]? := by rw [hC]
    rw [List.getElem?_map, List.getElem?_map, h1, h2] at h3
    simpa using h3
  have hadr2 : ∀ (j : Nat) (c : Nat × va_E), wc'[j]? = some c → ∃ c0, wc[j]? = some c0 ∧ c0.1 = c.1 := by
    intro j c h1
    have h3 : (wc'.map (·.1))[j]? = (wc.map (·.1))[j]? := by rw [hadr]
    rw [List.getElem?_map, List.getElem?_map, h1] at h3
    cases h2 : wc[j]? with
    | none => rw [h2] at h3; cases h3
    | some x => rw [h2] at h3; exact ⟨x, rfl, by simpa using h3.symm⟩
  obtain ⟨u1, u2⟩ := wUpd_at isC ws wc' (fun j i c h1 h2 => by
    obtain ⟨c0, h3, h4⟩ := hadr2 j c h2
    exact ⟨c0.2, by rw [← h4]; exact hat j i c0 h1 h3⟩) (hlen.trans hlen'.symm)
  refine ⟨fun k q hq => ?_, hD.addr u2⟩
  rcases u1 k q hq with h1 | ⟨h1, h2⟩
  · obtain ⟨j, hj⟩ := List.getElem?_of_mem h1
    exact hP1 j q hj
  · have hlt := (hP k q h2).lt
    refine (hP k q h2).kept (hk q.1 hlt ?_)
    rintro (⟨j, e9, hj⟩ | h9)
    · have hj2 : j < isC.length := by rw [hlen]; exact (List.getElem?_eq_some_iff.mp hj).1
      have hij : isC[j]? = some isC[j] := List.getElem?_eq_getElem hj2
      have := hD.1 k isC[j] q (q.1, e9) h2 (hat j _ _ hij hj) rfl
      exact h1 (by rw [this]; exact List.getElem_mem hj2)
    · omega
theorem tb_wsV {own C : String} {idx : Nat} {y : MethodName} {k : Cond} (w1 : Cond.methodLink own idx y ∈ TB) (w2 : Cond.instanceMethod y ∈ TB) (w3 : Cond.selects C y y ∈ TB) (w4 : Cond.initialized C ∈ TB) (w5 : k ∈ TB) : GoodIn TB (wsV own idx C y (k :: TB)) := by
  intro w h
  have h : w ∈ ([.methodLink own idx y, .instanceMethod y, .selects C y y, .initialized C] : List Cond) ++ (k :: TB) := h
  rcases List.mem_append.mp h with h | h
  · have : w ∈ TB := by
      simp only [List.mem_cons, List.not_mem_nil, or_false] at h
      rcases h with rfl | rfl | rfl | rfl
      · exact w1
      · exact w2
      · exact w3
      · exact w4
    exact ⟨this, tb_good this⟩
  · exact tb_cons w5 w h
theorem tb_wsS {own : String} {idx : Nat} {y : MethodName} {k : Cond} (w1 : Cond.methodLink own idx y ∈ TB) (w2 : Cond.static y ∈ TB) (w4 : Cond.initialized y.cls ∈ TB) (w5 : k ∈ TB) : GoodIn TB (va_wsS own idx y (k :: TB)) := by
  intro w h
  have h : w ∈ ([.methodLink own idx y, .static y, .initialized y.cls] : List Cond) ++ (k :: TB) := h
  rcases List.mem_append.mp h with h | h
  · have : w ∈ TB := by
      simp only [List.mem_cons, List.not_mem_nil, or_false] at h
      rcases h with rfl | rfl | rfl
      · exact w1
      · exact w2
      · exact w4
    exact ⟨this, tb_good this⟩
  · exact tb_cons w5 w h
section GR3
variable {p : Program} {l : Launch} {e : Env} {R : Room} {s : State} {m : MethodId} {args : Array Value} {below : List Frame} {meth : Method} {c : Code} {cells slots : Nat} {Q : State → Prop} {A : Nat → Prop} {D : va_G} {nL : Nat} {cc : ByteArray} {own : String} {cs : ClassId × ClassId × ClassId × ClassId}
variable {pc : Nat} {lv lv' : List (Nat × Value)} {st : List Value} {ws ws' : va_W}


theorem g_iret (C : CX p s m args c cc nL own D cs A) {v r : Int32} (hr : meth.sig.returnType = some .int) (hlocks : meth.locks = false) (hv : v = r) (hws : ws = ws') (d : decode cc pc = .ok (.ireturn, 1)) : GO p l e R s m args below meth c cells slots (MQ below (QI D r ws' A) args s cells slots A) A D nL pc lv [.int v] ws := by
  obtain ⟨⟨hx, hb, hml, hown, ht⟩, hK, hA⟩ := C
  intro H locs ls hP hD hS hl
  subst hws
  exact W.iret (v := v) hx hb hr (fun t ht hW => ⟨⟨v, (), rfl, hv, by show va_P D CLS ws t.heap; rw [ht]; exact hP⟩, hS.F ht⟩) hS.2.2 d hlocks
theorem g_zret (C : CX p s m args c cc nL own D cs A) {v r : Int32} (hr : meth.sig.returnType = some .boolean) (hlocks : meth.locks = false) (hn : narrow .boolean (.int v) = .int v) (hv : v = r) (hws : ws = ws') (d : decode cc pc = .ok (.ireturn, 1)) : GO p l e R s m args below meth c cells slots (MQ below (QI D r ws' A) args s cells slots A) A D nL pc lv [.int v] ws := by
  obtain ⟨⟨hx, hb, hml, hown, ht⟩, hK, hA⟩ := C
  intro H locs ls hP hD hS hl
  subst hws
  exact W.zret (v := v) hx hb hr hn (fun t ht hW => ⟨⟨v, (), rfl, hv, by show va_P D CLS ws t.heap; rw [ht]; exact hP⟩, hS.F ht⟩) hS.2.2 d hlocks
theorem g_lret (C : CX p s m args c cc nL own D cs A) {v r : Int64} (hr : meth.sig.returnType = some .long) (hlocks : meth.locks = false) (hv : v = r) (hws : ws = ws') (d : decode cc pc = .ok (.lreturn, 1)) : GO p l e R s m args below meth c cells slots (MQ below (QL D r ws' A) args s cells slots A) A D nL pc lv [.long v] ws := by
  obtain ⟨⟨hx, hb, hml, hown, ht⟩, hK, hA⟩ := C
  intro H locs ls hP hD hS hl
  subst hws
  exact W.lret (v := v) hx hb hr (fun t ht hW => ⟨⟨v, (), rfl, hv, by show va_P D CLS ws t.heap; rw [ht]; exact hP⟩, hS.F ht⟩) hS.2.2 d hlocks
theorem g_vret (C : CX p s m args c cc nL own D cs A) (hr : meth.sig.returnType = none) (hlocks : meth.locks = false) (hws : ws = ws') (d : decode cc pc = .ok (.return_, 1)) : GO p l e R s m args below meth c cells slots (MQ below (QV D ws' A) args s cells slots A) A D nL pc lv [] ws := by
  obtain ⟨⟨hx, hb, hml, hown, ht⟩, hK, hA⟩ := C
  intro H locs ls hP hD hS hl
  subst hws
  exact W.vret hx hb hr (fun t ht hW => ⟨⟨(), rfl, trivial, by show va_P D CLS ws t.heap; rw [ht]; exact hP⟩, hS.F ht⟩) hS.2.2 d hlocks

theorem g_callVi (C : CX p s m args c cc nL own D cs A) {y : MethodName} {bytes : ByteArray} {maxL n index : Nat} {ret : Option FieldType} {rm : Room} {wc wc' : va_W} {As rest st0 : List Value} {b ci N : Nat} {C9 : String} {T : u_T} {fs : List Value} {r : Int32} (hM : MG l y (.code y bytes maxL ret) rm D cs (.ref b :: As) wc (QI D r wc')) (w1 : Cond.methodLink own index y ∈ TB) (w2 : Cond.instanceMethod y ∈ TB) (w3 : Cond.selects C9 y y ∈ TB) (w4 : Cond.initialized C9 ∈ TB) (w5 : Cond.code y bytes maxL ret ∈ TB) (hcl : y.cls = C9) (q0 : Nat) (hrecv : wc[q0]? = some (b, .inr (ci, fs))) (hc9 : CLS[ci]? = some (C9, T, N))
    (hnm : y.cls ≠ "java/lang/invoke/MethodHandle" ∧ y.cls ≠ "java/lang/invoke/VarHandle" ∧ (parseMethodDescriptor y.desc).map (fun d => d.parameters.length) = some n) (hnA : As.length = n)
    (hrm : rm.cells = 0 ∧ rm.slots = 0 ∧ (rm.frames + 1 ≤ R.frames ∧ 8 + (maxL + 11) + rm.locals ≤ R.locals) ∧ cells + 0 ≤ R.cells ∧ slots + 0 ≤ R.slots)
    (hst : st0 = As.reverse ++ .ref b :: rest) (isC : List Nat) (hC : isC.map (fun i => ws[i]?) = wc.map some) (hadr : wc'.map (·.1) = wc.map (·.1)) (hnd : va_nd isC = true) (hrest : (rest.map fun v => v.category).sum ≤ 8) (hws : wUpd ws isC wc' = ws')
    (d : decode cc pc = .ok (.invokevirtual index, 3)) (g : GO p l e R s m args below meth c cells slots Q A D nL (pc + 3) lv (.int r :: rest) ws') : GO p l e R s m args below meth c cells slots Q A D nL pc lv st0 ws := by
  obtain ⟨⟨hx, hb, hml, hown, ht⟩, hK, hA, hNW⟩ := C
  intro H locs ls hP hD hS hl
  have hPc : va_P D CLS wc H := hP.sub isC (by
    have e9 : isC.filterMap (fun i => ws[i]?) = (isC.map (fun i => ws[i]?)).filterMap id := by rw [List.filterMap_map]; rfl
    rw [e9, hC, List.filterMap_map]; simp)
  have hDc := hD.sub isC hnd hC
  have hKc := hK
  have hFc := va_free (wc := wc) hD hS hA isC hC
  have hpre : ∀ U : State, U.heap = H → s.WarmedH U.vm → PCW D cs (.ref b :: As) H.size wc (Value.ref b :: As).toArray U := fun U hU hW => ⟨rfl, by rw [hU], by rw [hU]; exact hPc, va_K.moved hW.alike hK, hDc.weaken (fun _ _ _ _ => trivial), NWs.warm hW hNW⟩
  refine va_calli (va_runV (As := As) (rest := rest) ⟨hx, hb, hml, hown, ht⟩ (hM H.size) (cwV n ht (tb_wsV w1 w2 w3 w4 w5) rfl hrm.1 hrm.2.1 ⟨hcl, hnm.1, hnm.2.1, hnm.2.2⟩ hrm.2.2.1) ⟨PCW.blind, va_recv hKc hPc (q0 := q0) hc9 hrecv, hpre⟩ rfl hnA hl.1 hst (lv_room hrest) d ⟨hrm.2.2.2.1, hrm.2.2.2.2⟩) hS (fun q _ h => hFc q h) hFc (fun r_ u t H1 locs1 ht9 hvm hw hB hz1 hk1 hS1 => ?_)
  subst hw
  rw [ht9] at hB
  obtain ⟨hP9, hD9⟩ := w_upd isC hP hD hC hadr hk1 hB
  rw [hws] at hP9 hD9
  exact g H1 locs1 ls hP9 hD9 hS1 hl
theorem g_callVl (C : CX p s m args c cc nL own D cs A) {y : MethodName} {bytes : ByteArray} {maxL n index : Nat} {ret : Option FieldType} {rm : Room} {wc wc' : va_W} {As rest st0 : List Value} {b ci N : Nat} {C9 : String} {T : u_T} {fs : List Value} {r : Int64} (hM : MG l y (.code y bytes maxL ret) rm D cs (.ref b :: As) wc (QL D r wc')) (w1 : Cond.methodLink own index y ∈ TB) (w2 : Cond.instanceMethod y ∈ TB) (w3 : Cond.selects C9 y y ∈ TB) (w4 : Cond.initialized C9 ∈ TB) (w5 : Cond.code y bytes maxL ret ∈ TB) (hcl : y.cls = C9) (q0 : Nat) (hrecv : wc[q0]? = some (b, .inr (ci, fs))) (hc9 : CLS[ci]? = some (C9, T, N))
    (hnm : y.cls ≠ "java/lang/invoke/MethodHandle" ∧ y.cls ≠ "java/lang/invoke/VarHandle" ∧ (parseMethodDescriptor y.desc).map (fun d => d.parameters.length) = some n) (hnA : As.length = n)
    (hrm : rm.cells = 0 ∧ rm.slots = 0 ∧ (rm.frames + 1 ≤ R.frames ∧ 8 + (maxL + 11) + rm.locals ≤ R.locals) ∧ cells + 0 ≤ R.cells ∧ slots + 0 ≤ R.slots)
    (hst : st0 = As.reverse ++ .ref b :: rest) (isC : List Nat) (hC : isC.map (fun i => ws[i]?) = wc.map some) (hadr : wc'.map (·.1) = wc.map (·.1)) (hnd : va_nd isC = true) (hrest : (rest.map fun v => v.category).sum ≤ 8) (hws : wUpd ws isC wc' = ws')
    (d : decode cc pc = .ok (.invokevirtual index, 3)) (g : GO p l e R s m args below meth c cells slots Q A D nL (pc + 3) lv (.long r :: rest) ws') : GO p l e R s m args below meth c cells slots Q A D nL pc lv st0 ws := by
  obtain ⟨⟨hx, hb, hml, hown, ht⟩, hK, hA, hNW⟩ := C
  intro H locs ls hP hD hS hl
  have hPc : va_P D CLS wc H := hP.sub isC (by
    have e9 : isC.filterMap (fun i => ws[i]?) = (isC.map (fun i => ws[i]?)).filterMap id := by rw [List.filterMap_map]; rfl
    rw [e9, hC, List.filterMap_map]; simp)
  have hDc := hD.sub isC hnd hC
  have hKc := hK
  have hFc := va_free (wc := wc) hD hS hA isC hC
  have hpre : ∀ U : State, U.heap = H → s.WarmedH U.vm → PCW D cs (.ref b :: As) H.size wc (Value.ref b :: As).toArray U := fun U hU hW => ⟨rfl, by rw [hU], by rw [hU]; exact hPc, va_K.moved hW.alike hK, hDc.weaken (fun _ _ _ _ => trivial), NWs.warm hW hNW⟩
  refine va_calll (va_runV (As := As) (rest := rest) ⟨hx, hb, hml, hown, ht⟩ (hM H.size) (cwV n ht (tb_wsV w1 w2 w3 w4 w5) rfl hrm.1 hrm.2.1 ⟨hcl, hnm.1, hnm.2.1, hnm.2.2⟩ hrm.2.2.1) ⟨PCW.blind, va_recv hKc hPc (q0 := q0) hc9 hrecv, hpre⟩ rfl hnA hl.1 hst (lv_room hrest) d ⟨hrm.2.2.2.1, hrm.2.2.2.2⟩) hS (fun q _ h => hFc q h) hFc (fun r_ u t H1 locs1 ht9 hvm hw hB hz1 hk1 hS1 => ?_)
  subst hw
  rw [ht9] at hB
  obtain ⟨hP9, hD9⟩ := w_upd isC hP hD hC hadr hk1 hB
  rw [hws] at hP9 hD9
  exact g H1 locs1 ls hP9 hD9 hS1 hl
theorem g_callVv (C : CX p s m args c cc nL own D cs A) {y : MethodName} {bytes : ByteArray} {maxL n index : Nat} {ret : Option FieldType} {rm : Room} {wc wc' : va_W} {As rest st0 : List Value} {b ci N : Nat} {C9 : String} {T : u_T} {fs : List Value}  (hM : MG l y (.code y bytes maxL ret) rm D cs (.ref b :: As) wc (QV D wc')) (w1 : Cond.methodLink own index y ∈ TB) (w2 : Cond.instanceMethod y ∈ TB) (w3 : Cond.selects C9 y y ∈ TB) (w4 : Cond.initialized C9 ∈ TB) (w5 : Cond.code y bytes maxL ret ∈ TB) (hcl : y.cls = C9) (q0 : Nat) (hrecv : wc[q0]? = some (b, .inr (ci, fs))) (hc9 : CLS[ci]? = some (C9, T, N))
    (hnm : y.cls ≠ "java/lang/invoke/MethodHandle" ∧ y.cls ≠ "java/lang/invoke/VarHandle" ∧ (parseMethodDescriptor y.desc).map (fun d => d.parameters.length) = some n) (hnA : As.length = n)
    (hrm : rm.cells = 0 ∧ rm.slots = 0 ∧ (rm.frames + 1 ≤ R.frames ∧ 8 + (maxL + 11) + rm.locals ≤ R.locals) ∧ cells + 0 ≤ R.cells ∧ slots + 0 ≤ R.slots)
    (hst : st0 = As.reverse ++ .ref b :: rest) (isC : List Nat) (hC : isC.map (fun i => ws[i]?) = wc.map some) (hadr : wc'.map (·.1) = wc.map (·.1)) (hnd : va_nd isC = true) (hrest : (rest.map fun v => v.category).sum ≤ 8) (hws : wUpd ws isC wc' = ws')
    (d : decode cc pc = .ok (.invokevirtual index, 3)) (g : GO p l e R s m args below meth c cells slots Q A D nL (pc + 3) lv rest ws') : GO p l e R s m args below meth c cells slots Q A D nL pc lv st0 ws := by
  obtain ⟨⟨hx, hb, hml, hown, ht⟩, hK, hA, hNW⟩ := C
  intro H locs ls hP hD hS hl
  have hPc : va_P D CLS wc H := hP.sub isC (by
    have e9 : isC.filterMap (fun i => ws[i]?) = (isC.map (fun i => ws[i]?)).filterMap id := by rw [List.filterMap_map]; rfl
    rw [e9, hC, List.filterMap_map]; simp)
  have hDc := hD.sub isC hnd hC
  have hKc := hK
  have hFc := va_free (wc := wc) hD hS hA isC hC
  have hpre : ∀ U : State, U.heap = H → s.WarmedH U.vm → PCW D cs (.ref b :: As) H.size wc (Value.ref b :: As).toArray U := fun U hU hW => ⟨rfl, by rw [hU], by rw [hU]; exact hPc, va_K.moved hW.alike hK, hDc.weaken (fun _ _ _ _ => trivial), NWs.warm hW hNW⟩
  refine va_callv (va_runV (As := As) (rest := rest) ⟨hx, hb, hml, hown, ht⟩ (hM H.size) (cwV n ht (tb_wsV w1 w2 w3 w4 w5) rfl hrm.1 hrm.2.1 ⟨hcl, hnm.1, hnm.2.1, hnm.2.2⟩ hrm.2.2.1) ⟨PCW.blind, va_recv hKc hPc (q0 := q0) hc9 hrecv, hpre⟩ rfl hnA hl.1 hst (lv_room hrest) d ⟨hrm.2.2.2.1, hrm.2.2.2.2⟩) hS (fun q _ h => hFc q h) hFc (fun u t H1 locs1 ht9 hvm hw hB hz1 hk1 hS1 => ?_)
  rw [ht9] at hB
  obtain ⟨hP9, hD9⟩ := w_upd isC hP hD hC hadr hk1 hB
  rw [hws] at hP9 hD9
  exact g H1 locs1 ls hP9 hD9 hS1 hl
theorem g_callSi (C : CX p s m args c cc nL own D cs A) {y : MethodName} {bytes : ByteArray} {maxL n index : Nat} {ret : Option FieldType} {rm : Room} {wc wc' : va_W} {As rest st0 : List Value}  {r : Int32} (hM : MG l y (.code y bytes maxL ret) rm D cs As wc (QI D r wc')) (w1 : Cond.methodLink own index y ∈ TB) (w2 : Cond.static y ∈ TB) (w4 : Cond.initialized y.cls ∈ TB) (w5 : Cond.code y bytes maxL ret ∈ TB)
    (hnm : y.cls ≠ "java/lang/invoke/MethodHandle" ∧ y.cls ≠ "java/lang/invoke/VarHandle" ∧ (parseMethodDescriptor y.desc).map (fun d => d.parameters.length) = some n) (hnA : As.length = n)
    (hrm : rm.cells = 0 ∧ rm.slots = 0 ∧ (rm.frames + 1 ≤ R.frames ∧ 8 + (maxL + 11) + rm.locals ≤ R.locals) ∧ cells + 0 ≤ R.cells ∧ slots + 0 ≤ R.slots)
    (hst : st0 = As.reverse ++ rest) (isC : List Nat) (hC : isC.map (fun i => ws[i]?) = wc.map some) (hadr : wc'.map (·.1) = wc.map (·.1)) (hnd : va_nd isC = true) (hrest : (rest.map fun v => v.category).sum ≤ 8) (hws : wUpd ws isC wc' = ws')
    (d : decode cc pc = .ok (.invokestatic index, 3)) (g : GO p l e R s m args below meth c cells slots Q A D nL (pc + 3) lv (.int r :: rest) ws') : GO p l e R s m args below meth c cells slots Q A D nL pc lv st0 ws := by
  obtain ⟨⟨hx, hb, hml, hown, ht⟩, hK, hA, hNW⟩ := C
  intro H locs ls hP hD hS hl
  have hPc : va_P D CLS wc H := hP.sub isC (by
    have e9 : isC.filterMap (fun i => ws[i]?) = (isC.map (fun i => ws[i]?)).filterMap id := by rw [List.filterMap_map]; rfl
    rw [e9, hC, List.filterMap_map]; simp)
  have hDc := hD.sub isC hnd hC
  have hKc := hK
  have hFc := va_free (wc := wc) hD hS hA isC hC
  have hpre : ∀ U : State, U.heap = H → s.WarmedH U.vm → PCW D cs As H.size wc (As).toArray U := fun U hU hW => ⟨rfl, by rw [hU], by rw [hU]; exact hPc, va_K.moved hW.alike hK, hDc.weaken (fun _ _ _ _ => trivial), NWs.warm hW hNW⟩
  refine va_calli (va_runS (As := As) (rest := rest) ⟨hx, hb, hml, hown, ht⟩ (hM H.size) (va_cwS n ht (tb_wsS w1 w2 w4 w5) rfl hrm.1 hrm.2.1 hnm hrm.2.2.1) ⟨PCW.blind, hpre⟩ rfl hnA hl.1 hst (lv_room hrest) d ⟨hrm.2.2.2.1, hrm.2.2.2.2⟩) hS (fun q _ h => hFc q h) hFc (fun r_ u t H1 locs1 ht9 hvm hw hB hz1 hk1 hS1 => ?_)
  subst hw
  rw [ht9] at hB
  obtain ⟨hP9, hD9⟩ := w_upd isC hP hD hC hadr hk1 hB
  rw [hws] at hP9 hD9
  exact g H1 locs1 ls hP9 hD9 hS1 hl
theorem g_callSl (C : CX p s m args c cc nL own D cs A) {y : MethodName} {bytes : ByteArray} {maxL n index : Nat} {ret : Option FieldType} {rm : Room} {wc wc' : va_W} {As rest st0 : List Value}  {r : Int64} (hM : MG l y (.code y bytes maxL ret) rm D cs As wc (QL D r wc')) (w1 : Cond.methodLink own index y ∈ TB) (w2 : Cond.static y ∈ TB) (w4 : Cond.initialized y.cls ∈ TB) (w5 : Cond.code y bytes maxL ret ∈ TB)
    (hnm : y.cls ≠ "java/lang/invoke/MethodHandle" ∧ y.cls ≠ "java/lang/invoke/VarHandle" ∧ (parseMethodDescriptor y.desc).map (fun d => d.parameters.length) = some n) (hnA : As.length = n)
    (hrm : rm.cells = 0 ∧ rm.slots = 0 ∧ (rm.frames + 1 ≤ R.frames ∧ 8 + (maxL + 11) + rm.locals ≤ R.locals) ∧ cells + 0 ≤ R.cells ∧ slots + 0 ≤ R.slots)
    (hst : st0 = As.reverse ++ rest) (isC : List Nat) (hC : isC.map (fun i => ws[i]?) = wc.map some) (hadr : wc'.map (·.1) = wc.map (·.1)) (hnd : va_nd isC = true) (hrest : (rest.map fun v => v.category).sum ≤ 8) (hws : wUpd ws isC wc' = ws')
    (d : decode cc pc = .ok (.invokestatic index, 3)) (g : GO p l e R s m args below meth c cells slots Q A D nL (pc + 3) lv (.long r :: rest) ws') : GO p l e R s m args below meth c cells slots Q A D nL pc lv st0 ws := by
  obtain ⟨⟨hx, hb, hml, hown, ht⟩, hK, hA, hNW⟩ := C
  intro H locs ls hP hD hS hl
  have hPc : va_P D CLS wc H := hP.sub isC (by
    have e9 : isC.filterMap (fun i => ws[i]?) = (isC.map (fun i => ws[i]?)).filterMap id := by rw [List.filterMap_map]; rfl
    rw [e9, hC, List.filterMap_map]; simp)
  have hDc := hD.sub isC hnd hC
  have hKc := hK
  have hFc := va_free (wc := wc) hD hS hA isC hC
  have hpre : ∀ U : State, U.heap = H → s.WarmedH U.vm → PCW D cs As H.size wc (As).toArray U := fun U hU hW => ⟨rfl, by rw [hU], by rw [hU]; exact hPc, va_K.moved hW.alike hK, hDc.weaken (fun _ _ _ _ => trivial), NWs.warm hW hNW⟩
  refine va_calll (va_runS (As := As) (rest := rest) ⟨hx, hb, hml, hown, ht⟩ (hM H.size) (va_cwS n ht (tb_wsS w1 w2 w4 w5) rfl hrm.1 hrm.2.1 hnm hrm.2.2.1) ⟨PCW.blind, hpre⟩ rfl hnA hl.1 hst (lv_room hrest) d ⟨hrm.2.2.2.1, hrm.2.2.2.2⟩) hS (fun q _ h => hFc q h) hFc (fun r_ u t H1 locs1 ht9 hvm hw hB hz1 hk1 hS1 => ?_)
  subst hw
  rw [ht9] at hB
  obtain ⟨hP9, hD9⟩ := w_upd isC hP hD hC hadr hk1 hB
  rw [hws] at hP9 hD9
  exact g H1 locs1 ls hP9 hD9 hS1 hl
theorem g_callSv (C : CX p s m args c cc nL own D cs A) {y : MethodName} {bytes : ByteArray} {maxL n index : Nat} {ret : Option FieldType} {rm : Room} {wc wc' : va_W} {As rest st0 : List Value}   (hM : MG l y (.code y bytes maxL ret) rm D cs As wc (QV D wc')) (w1 : Cond.methodLink own index y ∈ TB) (w2 : Cond.static y ∈ TB) (w4 : Cond.initialized y.cls ∈ TB) (w5 : Cond.code y bytes maxL ret ∈ TB)
    (hnm : y.cls ≠ "java/lang/invoke/MethodHandle" ∧ y.cls ≠ "java/lang/invoke/VarHandle" ∧ (parseMethodDescriptor y.desc).map (fun d => d.parameters.length) = some n) (hnA : As.length = n)
    (hrm : rm.cells = 0 ∧ rm.slots = 0 ∧ (rm.frames + 1 ≤ R.frames ∧ 8 + (maxL + 11) + rm.locals ≤ R.locals) ∧ cells + 0 ≤ R.cells ∧ slots + 0 ≤ R.slots)
    (hst : st0 = As.reverse ++ rest) (isC : List Nat) (hC : isC.map (fun i => ws[i]?) = wc.map some) (hadr : wc'.map (·.1) = wc.map (·.1)) (hnd : va_nd isC = true) (hrest : (rest.map fun v => v.category).sum ≤ 8) (hws : wUpd ws isC wc' = ws')
    (d : decode cc pc = .ok (.invokestatic index, 3)) (g : GO p l e R s m args below meth c cells slots Q A D nL (pc + 3) lv rest ws') : GO p l e R s m args below meth c cells slots Q A D nL pc lv st0 ws := by
  obtain ⟨⟨hx, hb, hml, hown, ht⟩, hK, hA, hNW⟩ := C
  intro H locs ls hP hD hS hl
  have hPc : va_P D CLS wc H := hP.sub isC (by
    have e9 : isC.filterMap (fun i => ws[i]?) = (isC.map (fun i => ws[i]?)).filterMap id := by rw [List.filterMap_map]; rfl
    rw [e9, hC, List.filterMap_map]; simp)
  have hDc := hD.sub isC hnd hC
  have hKc := hK
  have hFc := va_free (wc := wc) hD hS hA isC hC
  have hpre : ∀ U : State, U.heap = H → s.WarmedH U.vm → PCW D cs As H.size wc (As).toArray U := fun U hU hW => ⟨rfl, by rw [hU], by rw [hU]; exact hPc, va_K.moved hW.alike hK, hDc.weaken (fun _ _ _ _ => trivial), NWs.warm hW hNW⟩
  refine va_callv (va_runS (As := As) (rest := rest) ⟨hx, hb, hml, hown, ht⟩ (hM H.size) (va_cwS n ht (tb_wsS w1 w2 w4 w5) rfl hrm.1 hrm.2.1 hnm hrm.2.2.1) ⟨PCW.blind, hpre⟩ rfl hnA hl.1 hst (lv_room hrest) d ⟨hrm.2.2.2.1, hrm.2.2.2.2⟩) hS (fun q _ h => hFc q h) hFc (fun u t H1 locs1 ht9 hvm hw hB hz1 hk1 hS1 => ?_)
  rw [ht9] at hB
  obtain ⟨hP9, hD9⟩ := w_upd isC hP hD hC hadr hk1 hB
  rw [hws] at hP9 hD9
  exact g H1 locs1 ls hP9 hD9 hS1 hl
end GR3
end
section
/-- numbers in arrays -/
def updN (f : Nat → Nat) (k v : Nat) : Nat → Nat := fun j => if j = k then v else f j
theorem updN_s {f : Nat → Nat} {k v : Nat} : updN f k v k = v := if_pos rfl
theorem updN_n {f : Nat → Nat} {k v j : Nat} (h : j ≠ k) : updN f k v j = f j := if_neg h
theorem upd_nI (f : Nat → Nat) (k v : Nat) : upd (fun j => nI (f j)) k (nI v) = fun j => nI (updN f k v j) := by
  funext j; unfold upd updN; split <;> rfl
theorem upd_lN (f : Nat → Nat) (k v : Nat) : vp_updL (fun j => lN (f j)) k (lN v) = fun j => lN (updN f k v j) := by
  funext j; unfold vp_updL updN; split <;> rfl
theorem nI_dec {a : Nat} (h : 0 < a) : nI a + Int32.ofInt (-1) = nI (a - 1) := by
  have := sb_m1 h
  exact this
theorem n_amt : ∀ b, b < 32 → ((nI b &&& 31).toBitVec.smod 32).toNat = b := by decide +kernel
theorem n_shl {a b : Nat} (h : b < 32 ∧ a * 2 ^ b < 2 ^ 32) : nI a <<< (nI b &&& 31) = nI (a * 2 ^ b) := pk_shlN _ b (n_amt b h.1) h.2
theorem n_shr {a b : Nat} (ha : a < 2 ^ 31) (hb : b < 32) : nI a >>> (nI b &&& 31) = nI (a / 2 ^ b) := pk_shrN ha _ b (n_amt b hb)
section GR4
variable {p : Program} {l : Launch} {e : Env} {R : Room} {s : State} {m : MethodId} {args : Array Value} {below : List Frame} {meth : Method} {c : Code} {cells slots : Nat} {Q : State → Prop} {A : Nat → Prop} {D : va_G} {nL : Nat} {cc : ByteArray} {own : String} {cs : ClassId × ClassId × ClassId × ClassId}
variable {pc : Nat} {lv lv' : List (Nat × Value)} {st : List Value} {ws ws' : va_W}

theorem n_iast (C : CX p s m args c cc nL own D cs A) {n a i v : Nat} {f : Nat → Nat} (q0 : Nat) (ha : ws[q0]? = some (a, .inl (cs.1, n, .inl (fun j => nI (f j))))) (hi : i < n) (hn : n < 2 ^ 31) (hws : ws.set q0 (a, .inl (cs.1, n, .inl (fun j => nI (updN f i v j)))) = ws') (d : decode cc pc = .ok (.iastore, 1)) (g : GO p l e R s m args below meth c cells slots Q A D nL (pc + 1) lv st ws') : GO p l e R s m args below meth c cells slots Q A D nL pc lv (.int (nI v) :: .int (nI i) :: .ref a :: st) ws :=
  g_iast C q0 ha hi hn (by rw [upd_nI]; exact hws) d g
theorem n_last (C : CX p s m args c cc nL own D cs A) {n a i v : Nat} {f : Nat → Nat} (q0 : Nat) (ha : ws[q0]? = some (a, .inl (cs.2.1, n, .inr (.inl (fun j => lN (f j)))))) (hi : i < n) (hn : n < 2 ^ 31) (hws : ws.set q0 (a, .inl (cs.2.1, n, .inr (.inl (fun j => lN (updN f i v j))))) = ws') (d : decode cc pc = .ok (.lastore, 1)) (g : GO p l e R s m args below meth c cells slots Q A D nL (pc + 1) lv st ws') : GO p l e R s m args below meth c cells slots Q A D nL pc lv (.long (lN v) :: .int (nI i) :: .ref a :: st) ws :=
  g_last C q0 ha hi hn (by rw [upd_lN]; exact hws) d g
theorem n_zast (C : CX p s m args c cc nL own D cs A) {n a i v : Nat} {f : Nat → Nat} (q0 : Nat) (ha : ws[q0]? = some (a, .inl (cs.2.2.1, n, .inl (fun j => nI (f j))))) (hi : i < n) (hn : n < 2 ^ 31) (hv : v < 2) (hws : ws.set q0 (a, .inl (cs.2.2.1, n, .inl (fun j => nI (updN f i v j)))) = ws') (d : decode cc pc = .ok (.bastore, 1)) (g : GO p l e R s m args below meth c cells slots Q A D nL (pc + 1) lv st ws') : GO p l e R s m args below meth c cells slots Q A D nL pc lv (.int (nI v) :: .int (nI i) :: .ref a :: st) ws :=
  g_zast C q0 ha hi hn hv (by rw [upd_nI]; exact hws) d g
theorem n_lcmp_eq (C : CX p s m args c cc nL own D cs A) {a b : Nat} {off : Int} (tgt : Nat) (d1 : decode cc pc = .ok (.lcmp, 1)) (d : decode cc (pc + 1) = .ok (.ifCond .eq off, 3)) (ht9 : ((pc + 1 : Nat) : Int) + off = (tgt : Int)) (ha : a < 2 ^ 63) (hb9 : b < 2 ^ 63) (gt : a = b → GO p l e R s m args below meth c cells slots Q A D nL tgt lv st ws) (gf : a ≠ b → GO p l e R s m args below meth c cells slots Q A D nL (pc + 4) lv st ws) : GO p l e R s m args below meth c cells slots Q A D nL pc lv (.long (lN b) :: .long (lN a) :: st) ws :=
  g_lcmp_eq C tgt d1 d ht9 (fun h => gt ((pk_lEQ ha hb9).mp h)) (fun h => gf (fun q => h (by rw [q])))
theorem n_lcmp_ne (C : CX p s m args c cc nL own D cs A) {a b : Nat} {off : Int} (tgt : Nat) (d1 : decode cc pc = .ok (.lcmp, 1)) (d : decode cc (pc + 1) = .ok (.ifCond .ne off, 3)) (ht9 : ((pc + 1 : Nat) : Int) + off = (tgt : Int)) (ha : a < 2 ^ 63) (hb9 : b < 2 ^ 63) (gt : a ≠ b → GO p l e R s m args below meth c cells slots Q A D nL tgt lv st ws) (gf : a = b → GO p l e R s m args below meth c cells slots Q A D nL (pc + 4) lv st ws) : GO p l e R s m args below meth c cells slots Q A D nL pc lv (.long (lN b) :: .long (lN a) :: st) ws :=
  g_lcmp_ne C tgt d1 d ht9 (fun h => gt (fun q => h (by rw [q]))) (fun h => gf ((pk_lEQ ha hb9).mp h))
theorem n_lcmp_lt (C : CX p s m args c cc nL own D cs A) {a b : Nat} {off : Int} (tgt : Nat) (d1 : decode cc pc = .ok (.lcmp, 1)) (d : decode cc (pc + 1) = .ok (.ifCond .lt off, 3)) (ht9 : ((pc + 1 : Nat) : Int) + off = (tgt : Int)) (ha : a < 2 ^ 63) (hb9 : b < 2 ^ 63) (gt : a < b → GO p l e R s m args below meth c cells slots Q A D nL tgt lv st ws) (gf : b ≤ a → GO p l e R s m args below meth c cells slots Q A D nL (pc + 4) lv st ws) : GO p l e R s m args below meth c cells slots Q A D nL pc lv (.long (lN b) :: .long (lN a) :: st) ws :=
  g_lcmp_lt C tgt d1 d ht9 (fun h => gt ((pk_lLT ha hb9).mp h)) (fun h => gf ((pk_lLE hb9 ha).mp h))
theorem n_lcmp_ge (C : CX p s m args c cc nL own D cs A) {a b : Nat} {off : Int} (tgt : Nat) (d1 : decode cc pc = .ok (.lcmp, 1)) (d : decode cc (pc + 1) = .ok (.ifCond .ge off, 3)) (ht9 : ((pc + 1 : Nat) : Int) + off = (tgt : Int)) (ha : a < 2 ^ 63) (hb9 : b < 2 ^ 63) (gt : b ≤ a → GO p l e R s m args below meth c cells slots Q A D nL tgt lv st ws) (gf : a < b → GO p l e R s m args below meth c cells slots Q A D nL (pc + 4) lv st ws) : GO p l e R s m args below meth c cells slots Q A D nL pc lv (.long (lN b) :: .long (lN a) :: st) ws :=
  g_lcmp_ge C tgt d1 d ht9 (fun h => gt ((pk_lLE hb9 ha).mp h)) (fun h => gf ((pk_lLT ha hb9).mp h))
theorem n_lcmp_gt (C : CX p s m args c cc nL own D cs A) {a b : Nat} {off : Int} (tgt : Nat) (d1 : decode cc pc = .ok (.lcmp, 1)) (d : decode cc (pc + 1) = .ok (.ifCond .gt off, 3)) (ht9 : ((pc + 1 : Nat) : Int) + off = (tgt : Int)) (ha : a < 2 ^ 63) (hb9 : b < 2 ^ 63) (gt : b < a → GO p l e R s m args below meth c cells slots Q A D nL tgt lv st ws) (gf : a ≤ b → GO p l e R s m args below meth c cells slots Q A D nL (pc + 4) lv st ws) : GO p l e R s m args below meth c cells slots Q A D nL pc lv (.long (lN b) :: .long (lN a) :: st) ws :=
  g_lcmp_gt C tgt d1 d ht9 (fun h => gt ((pk_lLT hb9 ha).mp h)) (fun h => gf ((pk_lLE ha hb9).mp h))
theorem n_lcmp_le (C : CX p s m args c cc nL own D cs A) {a b : Nat} {off : Int} (tgt : Nat) (d1 : decode cc pc = .ok (.lcmp, 1)) (d : decode cc (pc + 1) = .ok (.ifCond .le off, 3)) (ht9 : ((pc + 1 : Nat) : Int) + off = (tgt : Int)) (ha : a < 2 ^ 63) (hb9 : b < 2 ^ 63) (gt : a ≤ b → GO p l e R s m args below meth c cells slots Q A D nL tgt lv st ws) (gf : b < a → GO p l e R s m args below meth c cells slots Q A D nL (pc + 4) lv st ws) : GO p l e R s m args below meth c cells slots Q A D nL pc lv (.long (lN b) :: .long (lN a) :: st) ws :=
  g_lcmp_le C tgt d1 d ht9 (fun h => gt ((pk_lLE ha hb9).mp h)) (fun h => gf ((pk_lLT hb9 ha).mp h))
/-- contents told otherwise, by numbers -/
theorem n_ci {cA : ClassId} {n a : Nat} {f f2 : Nat → Nat} (q0 : Nat) (ha : ws[q0]? = some (a, .inl (cA, n, .inl (fun j => nI (f j))))) (h : ∀ j, j < n → f j = f2 j) (hws : ws.set q0 (a, .inl (cA, n, .inl (fun j => nI (f2 j)))) = ws') (g : GO p l e R s m args below meth c cells slots Q A D nL pc lv st ws') : GO p l e R s m args below meth c cells slots Q A D nL pc lv st ws := g_ci q0 ha (fun j hj => by rw [h j hj]) hws g
theorem n_cl {cA : ClassId} {n a : Nat} {f f2 : Nat → Nat} (q0 : Nat) (ha : ws[q0]? = some (a, .inl (cA, n, .inr (.inl (fun j => lN (f j)))))) (h : ∀ j, j < n → f j = f2 j) (hws : ws.set q0 (a, .inl (cA, n, .inr (.inl (fun j => lN (f2 j))))) = ws') (g : GO p l e R s m args below meth c cells slots Q A D nL pc lv st ws') : GO p l e R s m args below meth c cells slots Q A D nL pc lv st ws := g_cl q0 ha (fun j hj => by rw [h j hj]) hws g
end GR4
end
section
/-- how many of the first n symbols have the length j -/
def shr (ln : Nat → Nat) : Nat → Nat → Nat
  | 0, _ => 0
  | n + 1, j => shr ln n j + if ln n = j then 1 else 0
theorem shr_le (ln : Nat → Nat) (j : Nat) : ∀ n, shr ln n j ≤ n
  | 0 => Nat.le_refl _
  | n + 1 => by have := shr_le ln j n; unfold shr; split <;> omega
theorem shr_upd (ln : Nat → Nat) (n : Nat) : updN (shr ln n) (ln n) (shr ln n (ln n) + 1) = shr ln (n + 1) := by
  funext j
  by_cases h : j = ln n
  · subst h; rw [updN_s]; simp [shr]
  · rw [updN_n h]; simp [shr, Ne.symm h]
theorem shr_mono (ln : Nat → Nat) (j : Nat) : ∀ {a b : Nat}, a ≤ b → shr ln a j ≤ shr ln b j
  | a, 0, h => by have : a = 0 := by omega
                  subst this; exact Nat.le_refl _
  | a, b + 1, h => by
    by_cases e : a = b + 1
    · subst e; exact Nat.le_refl _
    · have := shr_mono ln j (a := a) (b := b) (by omega)
      show _ ≤ shr ln b j + _
      omega
theorem shr_lt (ln : Nat → Nat) {j : Nat} (h : j < 48) : shr ln j (ln j) < shr ln 48 (ln j) := by
  have h1 : shr ln (j + 1) (ln j) = shr ln j (ln j) + 1 := by simp [shr]
  have h2 := shr_mono ln (ln j) (a := j + 1) (b := 48) (by omega)
  omega
/-- complete 0, incomplete 1, over-full 2 -/
def stt (fl : Nat) : Nat := if 65536 < fl then 2 else if fl = 65536 then 0 else 1
/-- shortest first: the number behind the codes of length k -/
def cbS (sn : Nat → Nat) : Nat → Nat
  | 0 => 0
  | k + 1 => 2 * cbS sn k + sn (k + 1)
/-- longest first: the number behind the codes of length 17 - k -/
def cbL (sn : Nat → Nat) : Nat → Nat
  | 0 => 0
  | k + 1 => (cbL sn k + 1) / 2 + sn (16 - k)
theorem cbL_le {sn : Nat → Nat} (h : ∀ j, sn j ≤ 48) : ∀ k, cbL sn k ≤ 100
  | 0 => Nat.zero_le _
  | k + 1 => by have := cbL_le h k; have := h (16 - k); show (cbL sn k + 1) / 2 + sn (16 - k) ≤ 100; omega
/-- the first code of a length -/
def stc (rl : Nat) (sn : Nat → Nat) (j : Nat) : Nat := if rl = 2 then (cbL sn (16 - j) + 1) / 2 else 2 * cbS sn (j - 1)
/-- the fill, in parts of 65536, of the lengths 1 .. k -/
def flp (sn : Nat → Nat) : Nat → Nat
  | 0 => 0
  | k + 1 => flp sn k + sn (k + 1) * (65536 / 2 ^ (k + 1))
/-- the code of a symbol with a length -/
def cdv (rl : Nat) (ln : Nat → Nat) (j : Nat) : Nat :=
  if rl = 1 then 2 ^ (ln j) - 1 - (stc rl (shr ln 48) (ln j) + shr ln j (ln j)) else stc rl (shr ln 48) (ln j) + shr ln j (ln j)
/-- the fill of a table -/
def fll (ln : Nat → Nat) : Nat := flp (shr ln 48) 16
theorem flp_le {sn : Nat → Nat} (h : ∀ j, sn j ≤ 48) : ∀ k, flp sn k ≤ k * 3145728
  | 0 => Nat.zero_le _
  | k + 1 => by
    have h1 := flp_le h k
    have h2 := h (k + 1)
    have h3 : 65536 / 2 ^ (k + 1) ≤ 65536 := Nat.div_le_self _ _
    have h4 : sn (k + 1) * (65536 / 2 ^ (k + 1)) ≤ 48 * 65536 := Nat.mul_le_mul h2 h3
    show flp sn k + sn (k + 1) * (65536 / 2 ^ (k + 1)) ≤ _
    omega
theorem fll_lt (ln : Nat → Nat) : fll ln < 2 ^ 31 := by
  have := flp_le (sn := shr ln 48) (fun j => shr_le ln j 48) 16
  unfold fll; omega
theorem cbS_flp (sn : Nat → Nat) : ∀ k, k ≤ 16 → cbS sn k * 2 ^ (16 - k) = flp sn k
  | 0, _ => by simp [cbS, flp]
  | k + 1, h => by
    have ih := cbS_flp sn k (by omega)
    have e1 : 2 ^ (16 - k) = 2 * 2 ^ (16 - (k + 1)) := by
      rw [← Nat.pow_succ']; congr 1; omega
    have e2 : 65536 / 2 ^ (k + 1) = 2 ^ (16 - (k + 1)) := by
      have : 65536 = 2 ^ (16 - (k + 1)) * 2 ^ (k + 1) := by rw [← Nat.pow_add]; rw [show 16 - (k + 1) + (k + 1) = 16 by omega]
      rw [this, Nat.mul_div_cancel _ (Nat.two_pow_pos _)]
    show (2 * cbS sn k + sn (k + 1)) * 2 ^ (16 - (k + 1)) = flp sn k + sn (k + 1) * (65536 / 2 ^ (k + 1))
    rw [e2, ← ih, e1, Nat.add_mul]
    congr 1
    rw [Nat.mul_assoc, Nat.mul_left_comm]
theorem flp_mono (sn : Nat → Nat) : ∀ {a b : Nat}, a ≤ b → flp sn a ≤ flp sn b
  | a, 0, h => by have : a = 0 := by omega
                  subst this; exact Nat.le_refl _
  | a, b + 1, h => by
    by_cases e : a = b + 1
    · subst e; exact Nat.le_refl _
    · have := flp_mono sn (a := a) (b := b) (by omega)
      show _ ≤ flp sn b + _
      omega
/-- a table that isn't over-full: codes of a length fit, shortest first -/
theorem kraftS {sn : Nat → Nat} (h : flp sn 16 ≤ 65536) {k : Nat} (hk : k ≤ 16) : cbS sn k ≤ 2 ^ k := by
  have h1 := cbS_flp sn k hk
  have h2 := flp_mono sn hk
  have e1 : 65536 = 2 ^ k * 2 ^ (16 - k) := by rw [← Nat.pow_add]; rw [show k + (16 - k) = 16 by omega]
  have h3 : cbS sn k * 2 ^ (16 - k) ≤ 2 ^ k * 2 ^ (16 - k) := by omega
  exact Nat.le_of_mul_le_mul_right h3 (Nat.two_pow_pos _)
theorem cdv_inv {rl : Nat} {ln : Nat → Nat} (hr : rl = 1) (h : fll ln ≤ 65536) {j : Nat} (hj : j < 48) (h0 : 0 < ln j) (h16 : ln j ≤ 16) : stc rl (shr ln 48) (ln j) + shr ln j (ln j) < 2 ^ (ln j) := by
  have h1 := shr_lt ln hj
  have h2 := kraftS (sn := shr ln 48) h h16
  obtain ⟨k, hk⟩ : ∃ k, ln j = k + 1 := ⟨ln j - 1, by omega⟩
  rw [hk] at h1 h2 ⊢
  subst hr
  simp only [stc, cbS] at h2 ⊢
  simp
  omega
/-- the next codes while lengths are gone through, shortest first -/
def nxS (sn xn : Nat → Nat) (k : Nat) : Nat → Nat := fun j => if 1 ≤ j ∧ j < k then 2 * cbS sn (j - 1) else xn j
theorem nxS_up (sn xn : Nat → Nat) (k : Nat) : updN (nxS sn xn (k + 1)) (k + 1) (2 * cbS sn k) = nxS sn xn (k + 2) := by
  funext j
  unfold updN nxS
  by_cases h : j = k + 1
  · subst h; simp
  · simp only [h, if_false]
    have : (1 ≤ j ∧ j < k + 1) ↔ (1 ≤ j ∧ j < k + 2) := by omega
    simp only [this]
/-- .. longest first -/
def nxL (sn xn : Nat → Nat) (k : Nat) : Nat → Nat := fun j => if k < j ∧ j ≤ 16 then (cbL sn (16 - j) + 1) / 2 else xn j
theorem nxL_up (sn xn : Nat → Nat) {k : Nat} (h0 : 0 < k) (hk : k ≤ 16) : updN (nxL sn xn k) k ((cbL sn (16 - k) + 1) / 2) = nxL sn xn (k - 1) := by
  funext j
  unfold updN nxL
  by_cases h : j = k
  · subst h; simp; omega
  · simp only [h, if_false]
    have : (k < j ∧ j ≤ 16) ↔ (k - 1 < j ∧ j ≤ 16) := by omega
    simp only [this]
theorem nxS_0 (sn xn : Nat → Nat) : nxS sn xn (0 + 1) = xn := by funext j; unfold nxS; rw [if_neg (by omega)]
theorem nxL_16 (sn xn : Nat → Nat) : nxL sn xn 16 = xn := by funext j; unfold nxL; rw [if_neg (by omega)]
/-- next codes and codes while symbols get theirs -/
def nxG (x0 ln : Nat → Nat) (s : Nat) : Nat → Nat := fun j => if j = 0 then x0 0 else x0 j + shr ln s j
def cdG (x0 ln cn : Nat → Nat) (rl s : Nat) : Nat → Nat := fun j => if j < s ∧ 0 < ln j then (if rl = 1 then 2 ^ (ln j) - 1 - (x0 (ln j) + shr ln j (ln j)) else x0 (ln j) + shr ln j (ln j)) else cn j
theorem nxG_up (x0 ln : Nat → Nat) (s : Nat) (h : 0 < ln s) : updN (nxG x0 ln s) (ln s) (nxG x0 ln s (ln s) + 1) = nxG x0 ln (s + 1) := by
  funext j
  unfold updN nxG
  by_cases e : j = ln s
  · subst e
    have : ln s ≠ 0 := by omega
    simp [this, shr]; omega
  · simp only [e, if_false, shr, Ne.symm e]
    simp
theorem nxG_keep (x0 ln : Nat → Nat) (s : Nat) (h : ln s = 0) : nxG x0 ln s = nxG x0 ln (s + 1) := by
  funext j
  unfold nxG
  by_cases e : j = 0
  · simp [e]
  · have : ¬ 0 = j := fun q => e q.symm
    simp [e, shr, h, this]
theorem cdG_keep (x0 ln cn : Nat → Nat) (rl s : Nat) (h : ln s = 0) : cdG x0 ln cn rl s = cdG x0 ln cn rl (s + 1) := by
  funext j
  unfold cdG
  have : (j < s ∧ 0 < ln j) ↔ (j < s + 1 ∧ 0 < ln j) := by
    constructor
    · intro q; exact ⟨by omega, q.2⟩
    · intro q
      have : j ≠ s := fun e => by rw [e, h] at q; exact absurd q.2 (by omega)
      exact ⟨by omega, q.2⟩
  simp only [this]
theorem cdG_up (x0 ln cn : Nat → Nat) (rl s : Nat) (h : 0 < ln s) : updN (cdG x0 ln cn rl s) s (if rl = 1 then 2 ^ (ln s) - 1 - nxG x0 ln s (ln s) else nxG x0 ln s (ln s)) = cdG x0 ln cn rl (s + 1) := by
  have hne : ln s ≠ 0 := by omega
  funext j
  unfold updN cdG nxG
  by_cases e : j = s
  · subst e; simp [h, hne]
  · simp only [e, if_false]
    have : (j < s ∧ 0 < ln j) ↔ (j < s + 1 ∧ 0 < ln j) := by omega
    simp only [this]
/-- what renew leaves -/
def cN (rl : Nat) (ln cn : Nat → Nat) : Nat → Nat := if fll ln ≤ 65536 then cdG (stc rl (shr ln 48)) ln cn rl 48 else cn
def xN (rl : Nat) (ln xn : Nat → Nat) : Nat → Nat := if fll ln ≤ 65536 then nxG (if rl = 2 then nxL (shr ln 48) xn 0 else nxS (shr ln 48) xn 17) ln 48 else xn
def oI (o : Option Nat) : Int32 := match o with
  | some s => nI s
  | none => -1
/-- the symbol's code has these first bits -/
def bgP (ln cn : Nat → Nat) (fi nn s : Nat) : Bool := decide (nn ≤ ln s) && decide (cn s / 2 ^ (ln s - nn) = fi)
def sbb (ln cn : Nat → Nat) (fi nn : Nat) : Option Nat := (List.range 48).find? (bgP ln cn fi nn)
/-- one more than the last of the first k symbols that has a length -/
def eol (ln : Nat → Nat) : Nat → Nat
  | 0 => 0
  | k + 1 => if ln k = 0 then eol ln k else k + 1
/-- how many from 'at' on, of n, have the length L -/
def rnf (ln : Nat → Nat) (L : Nat) : Nat → Nat → Nat
  | 0, _ => 0
  | n + 1, at9 => if ln at9 = L then rnf ln L n (at9 + 1) + 1 else 0
theorem rnf_step (ln : Nat → Nat) (L : Nat) {en at9 : Nat} (h : at9 < en) (e : ln at9 = L) : rnf ln L (en - at9) at9 = rnf ln L (en - (at9 + 1)) (at9 + 1) + 1 := by
  obtain ⟨k, hk⟩ : ∃ k, en - at9 = k + 1 := ⟨en - at9 - 1, by omega⟩
  rw [hk, show en - (at9 + 1) = k by omega]
  simp [rnf, e]
theorem rnf_stop (ln : Nat → Nat) (L : Nat) {en at9 : Nat} (h : at9 < en) (e : ln at9 ≠ L) : rnf ln L (en - at9) at9 = 0 := by
  obtain ⟨k, hk⟩ : ∃ k, en - at9 = k + 1 := ⟨en - at9 - 1, by omega⟩
  rw [hk]
  simp [rnf, e]
end
section
set_option maxHeartbeats 4000000 in
set_option maxRecDepth 100000 in
theorem m_T_state (l : Launch) (D : va_G) (cs : ClassId × ClassId × ClassId × ClassId) (a al ac ah an rl : Nat) (ln cn sn xn : Nat → Nat) (fl : Nat) (hf : fl < 2 ^ 31) : MG l y_T_state k_T_state { frames := 0, cells := 0, slots := 0, locals := 0 } D cs [.ref a] [(a, .inr (1, [.int (nI (rl)), .ref al, .ref ac, .ref ah, .ref an, .int (nI (fl))])), (al, .inl (cs.1, 48, .inl (fun j => nI (ln j)))), (ac, .inl (cs.1, 48, .inl (fun j => nI (cn j)))), (ah, .inl (cs.1, 17, .inl (fun j => nI (sn j)))), (an, .inl (cs.1, 17, .inl (fun j => nI (xn j))))] (QI D (nI (stt fl)) [(a, .inr (1, [.int (nI (rl)), .ref al, .ref ac, .ref ah, .ref an, .int (nI (fl))])), (al, .inl (cs.1, 48, .inl (fun j => nI (ln j)))), (ac, .inl (cs.1, 48, .inl (fun j => nI (cn j)))), (ah, .inl (cs.1, 17, .inl (fun j => nI (sn j)))), (an, .inl (cs.1, 17, .inl (fun j => nI (xn j))))]) := by
  refine MG.mk (own := RT) (by decide) rfl (Nat.le_of_ble_eq_true rfl) ?_
  intro p e s m below meth c A C hr hlk
  refine g_lv (lv' := [(0, .ref a)]) [0] rfl ?_
  refine g_aload_n C d_T_state_0 0 rfl rfl ?_
  refine g_get C (T := FT) (N := 6) 0 5 inT rfl rfl (by decide) tw_83 rfl rfl d_T_state_1 ?_
  refine g_ldc C (v := nI 65536) tw_138 d_T_state_4 ?_
  refine n_icmp_le C 11 d_T_state_6 (by decide) (by omega) (by omega) (fun h6 => ?_) (fun h6 => ?_)
  · refine g_aload_n C d_T_state_11 0 rfl rfl ?_
    refine g_get C (T := FT) (N := 6) 0 5 inT rfl rfl (by decide) tw_83 rfl rfl d_T_state_12 ?_
    refine g_ldc C (v := nI 65536) tw_138 d_T_state_15 ?_
    refine n_icmp_ne C 24 d_T_state_17 (by decide) (by omega) (by omega) (fun h17 => ?_) (fun h17 => ?_)
    · refine g_iconst C (v := nI 1) d_T_state_24 rfl ?_
      exact g_iret C hr hlk (congrArg nI (by unfold stt; (repeat' split) <;> first | rfl | omega)) rfl d_T_state_25
    · refine g_iconst C (v := nI 0) d_T_state_20 rfl ?_
      refine g_goto C 25 d_T_state_21 (by decide) ?_
      exact g_iret C hr hlk (congrArg nI (by unfold stt; (repeat' split) <;> first | rfl | omega)) rfl d_T_state_25
  · refine g_iconst C (v := nI 2) d_T_state_9 rfl ?_
    exact g_iret C hr hlk (congrArg nI (by unfold stt; (repeat' split) <;> first | rfl | omega)) rfl d_T_state_10
set_option maxHeartbeats 4000000 in
set_option maxRecDepth 100000 in
theorem l_T_cs1 {p : Program} {l : Launch} {e : Env} {s : State} {m : MethodId} {args : Array Value} {below : List Frame} {meth : Method} {c : Code} {Q : State → Prop} {A : Nat → Prop} {D : va_G} {cs : ClassId × ClassId × ClassId × ClassId} (C : CX p s m args c c_T_countSharing 2 RT D cs A) (a al ac ah an rl : Nat) (ln cn sn xn : Nat → Nat) (fl : Nat) 
    (K : ∀ sn9 : Nat → Nat, (∀ j, j < 17 → sn9 j = 0) → GO p l e { frames := 0, cells := 0, slots := 0, locals := 0 } s m args below meth c 0 0 Q A D 2 21 [(0, .ref a)] [] [(a, .inr (1, [.int (nI (rl)), .ref al, .ref ac, .ref ah, .ref an, .int (nI (fl))])), (al, .inl (cs.1, 48, .inl (fun j => nI (ln j)))), (ac, .inl (cs.1, 48, .inl (fun j => nI (cn j)))), (ah, .inl (cs.1, 17, .inl (fun j => nI (sn9 j)))), (an, .inl (cs.1, 17, .inl (fun j => nI (xn j))))])
    : ∀ (n : Nat) (i : Nat) (g : Nat → Nat), 17 - i = n → (i ≤ 17) → (∀ j, j < i → g j = 0) → GO p l e { frames := 0, cells := 0, slots := 0, locals := 0 } s m args below meth c 0 0 Q A D 2 2 [(0, .ref a), (1, .int (nI (i)))] [] [(a, .inr (1, [.int (nI (rl)), .ref al, .ref ac, .ref ah, .ref an, .int (nI (fl))])), (al, .inl (cs.1, 48, .inl (fun j => nI (ln j)))), (ac, .inl (cs.1, 48, .inl (fun j => nI (cn j)))), (ah, .inl (cs.1, 17, .inl (fun j => nI (g j)))), (an, .inl (cs.1, 17, .inl (fun j => nI (xn j))))] := by
  intro n
  induction n using Nat.strongRecOn with
  | _ n ih =>
  intro i  g  hn hi hg
  refine g_iload_n C d_T_countSharing_2 1 rfl rfl ?_
  refine g_bipush C (v := nI 16) d_T_countSharing_3 rfl ?_
  refine n_icmp_gt C 21 d_T_countSharing_5 (by decide) (by omega) (by omega) (fun h5 => ?_) (fun h5 => ?_)
  · refine g_lv (lv' := [(0, .ref a)]) [0] rfl ?_
    exact K g (fun j hj => hg j (by omega))
  · refine g_aload_n C d_T_countSharing_8 0 rfl rfl ?_
    refine g_get C (T := FT) (N := 6) 0 3 inT rfl rfl (by decide) tw_81 rfl rfl d_T_countSharing_9 ?_
    refine g_iload_n C d_T_countSharing_12 1 rfl rfl ?_
    refine g_iconst C (v := nI 0) d_T_countSharing_13 rfl ?_
    refine n_iast C (ws' := [(a, .inr (1, [.int (nI (rl)), .ref al, .ref ac, .ref ah, .ref an, .int (nI (fl))])), (al, .inl (cs.1, 48, .inl (fun j => nI (ln j)))), (ac, .inl (cs.1, 48, .inl (fun j => nI (cn j)))), (ah, .inl (cs.1, 17, .inl (fun j => nI ((updN (g) (i) (0)) j)))), (an, .inl (cs.1, 17, .inl (fun j => nI (xn j))))]) 3 rfl (by omega) (by decide) rfl d_T_countSharing_14 ?_
    refine g_iinc C (lv' := [(1, .int (nI (i + 1))), (0, .ref a)]) (k := 1) d_T_countSharing_15 rfl (nI_1 _) (by decide) rfl ?_
    refine g_goto C 2 d_T_countSharing_18 (by decide) ?_
    refine g_lv (lv' := [(0, .ref a), (1, .int (nI (i + 1)))]) [1, 0] rfl ?_
    exact ih (17 - (i + 1)) (by omega) (i + 1) _ rfl (by omega) (fun j hj => by unfold updN; split; rfl; exact hg j (by omega))
set_option maxHeartbeats 4000000 in
set_option maxRecDepth 100000 in
theorem l_T_cs2 {p : Program} {l : Launch} {e : Env} {s : State} {m : MethodId} {args : Array Value} {below : List Frame} {meth : Method} {c : Code} {Q : State → Prop} {A : Nat → Prop} {D : va_G} {cs : ClassId × ClassId × ClassId × ClassId} (C : CX p s m args c c_T_countSharing 2 RT D cs A) (a al ac ah an rl : Nat) (ln cn sn xn : Nat → Nat) (fl : Nat) (hl : ∀ j, j < 48 → ln j ≤ 16)
    (K : GO p l e { frames := 0, cells := 0, slots := 0, locals := 0 } s m args below meth c 0 0 Q A D 2 50 [(0, .ref a)] [] [(a, .inr (1, [.int (nI (rl)), .ref al, .ref ac, .ref ah, .ref an, .int (nI (fl))])), (al, .inl (cs.1, 48, .inl (fun j => nI (ln j)))), (ac, .inl (cs.1, 48, .inl (fun j => nI (cn j)))), (ah, .inl (cs.1, 17, .inl (fun j => nI ((shr ln 48) j)))), (an, .inl (cs.1, 17, .inl (fun j => nI (xn j))))])
    : ∀ (n : Nat) (i : Nat), 48 - i = n → (i ≤ 48) → GO p l e { frames := 0, cells := 0, slots := 0, locals := 0 } s m args below meth c 0 0 Q A D 2 23 [(0, .ref a), (1, .int (nI (i)))] [] [(a, .inr (1, [.int (nI (rl)), .ref al, .ref ac, .ref ah, .ref an, .int (nI (fl))])), (al, .inl (cs.1, 48, .inl (fun j => nI (ln j)))), (ac, .inl (cs.1, 48, .inl (fun j => nI (cn j)))), (ah, .inl (cs.1, 17, .inl (fun j => nI ((shr ln i) j)))), (an, .inl (cs.1, 17, .inl (fun j => nI (xn j))))] := by
  intro n
  induction n using Nat.strongRecOn with
  | _ n ih =>
  intro i  hn hi
  refine g_iload_n C d_T_countSharing_23 1 rfl rfl ?_
  refine g_bipush C (v := nI 48) d_T_countSharing_24 rfl ?_
  refine n_icmp_ge C 50 d_T_countSharing_26 (by decide) (by omega) (by omega) (fun h26 => ?_) (fun h26 => ?_)
  · refine g_lv (lv' := [(0, .ref a)]) [0] rfl ?_
    have e9 : i = 48 := by omega
    subst e9
    exact K
  · refine g_aload_n C d_T_countSharing_29 0 rfl rfl ?_
    refine g_get C (T := FT) (N := 6) 0 3 inT rfl rfl (by decide) tw_81 rfl rfl d_T_countSharing_30 ?_
    refine g_aload_n C d_T_countSharing_33 0 rfl rfl ?_
    refine g_get C (T := FT) (N := 6) 0 1 inT rfl rfl (by decide) tw_77 rfl rfl d_T_countSharing_34 ?_
    refine g_iload_n C d_T_countSharing_37 1 rfl rfl ?_
    refine g_iald C 1 rfl (by omega) (by decide) d_T_countSharing_38 ?_
    refine g_dup2 C d_T_countSharing_39 rfl rfl ?_
    refine g_iald C 3 rfl (by have := hl i (by omega); omega) (by decide) d_T_countSharing_40 ?_
    refine g_iconst C (v := nI 1) d_T_countSharing_41 rfl ?_
    refine g_iadd C (v := nI ((shr ln i) (ln (i)) + 1)) d_T_countSharing_42 (nI_add _ _) ?_
    refine n_iast C (ws' := [(a, .inr (1, [.int (nI (rl)), .ref al, .ref ac, .ref ah, .ref an, .int (nI (fl))])), (al, .inl (cs.1, 48, .inl (fun j => nI (ln j)))), (ac, .inl (cs.1, 48, .inl (fun j => nI (cn j)))), (ah, .inl (cs.1, 17, .inl (fun j => nI ((updN ((shr ln i)) (ln (i)) ((shr ln i) (ln (i)) + 1)) j)))), (an, .inl (cs.1, 17, .inl (fun j => nI (xn j))))]) 3 rfl (by have := hl i (by omega); omega) (by decide) rfl d_T_countSharing_43 ?_
    refine g_iinc C (lv' := [(1, .int (nI (i + 1))), (0, .ref a)]) (k := 1) d_T_countSharing_44 rfl (nI_1 _) (by decide) rfl ?_
    refine g_goto C 23 d_T_countSharing_47 (by decide) ?_
    refine g_ws (ws' := [(a, .inr (1, [.int (nI (rl)), .ref al, .ref ac, .ref ah, .ref an, .int (nI (fl))])), (al, .inl (cs.1, 48, .inl (fun j => nI (ln j)))), (ac, .inl (cs.1, 48, .inl (fun j => nI (cn j)))), (ah, .inl (cs.1, 17, .inl (fun j => nI ((shr ln (i + 1)) j)))), (an, .inl (cs.1, 17, .inl (fun j => nI (xn j))))]) (by rw [shr_upd]) ?_
    refine g_lv (lv' := [(0, .ref a), (1, .int (nI (i + 1)))]) [1, 0] rfl ?_
    exact ih (48 - (i + 1)) (by omega) (i + 1) rfl (by omega)
set_option maxHeartbeats 4000000 in
set_option maxRecDepth 100000 in
theorem m_T_countSharing (l : Launch) (D : va_G) (cs : ClassId × ClassId × ClassId × ClassId) (a al ac ah an rl : Nat) (ln cn sn xn : Nat → Nat) (fl : Nat) (hl : ∀ j, j < 48 → ln j ≤ 16) : MG l y_T_countSharing k_T_countSharing { frames := 0, cells := 0, slots := 0, locals := 0 } D cs [.ref a] [(a, .inr (1, [.int (nI (rl)), .ref al, .ref ac, .ref ah, .ref an, .int (nI (fl))])), (al, .inl (cs.1, 48, .inl (fun j => nI (ln j)))), (ac, .inl (cs.1, 48, .inl (fun j => nI (cn j)))), (ah, .inl (cs.1, 17, .inl (fun j => nI (sn j)))), (an, .inl (cs.1, 17, .inl (fun j => nI (xn j))))] (QV D [(a, .inr (1, [.int (nI (rl)), .ref al, .ref ac, .ref ah, .ref an, .int (nI (fl))])), (al, .inl (cs.1, 48, .inl (fun j => nI (ln j)))), (ac, .inl (cs.1, 48, .inl (fun j => nI (cn j)))), (ah, .inl (cs.1, 17, .inl (fun j => nI ((shr ln 48) j)))), (an, .inl (cs.1, 17, .inl (fun j => nI (xn j))))]) := by
  refine MG.mk (own := RT) (by decide) rfl (Nat.le_of_ble_eq_true rfl) ?_
  intro p e s m below meth c A C hr hlk
  refine g_lv (lv' := [(0, .ref a)]) [0] rfl ?_
  refine g_iconst C (v := nI 0) d_T_countSharing_0 rfl ?_
  refine g_istore_n C (lv' := [(1, .int (nI (0))), (0, .ref a)]) d_T_countSharing_1 rfl (by decide) rfl ?_
  refine g_lv (lv' := [(0, .ref a), (1, .int (nI (0)))]) [1, 0] rfl ?_
  refine l_T_cs1 C a al ac ah an rl ln cn sn xn fl ?_ _ 0 sn rfl (by omega) (fun j hj => absurd hj (by omega))
  intro sn9 hs9
  refine n_ci (f2 := shr ln 0) (ws' := [(a, .inr (1, [.int (nI (rl)), .ref al, .ref ac, .ref ah, .ref an, .int (nI (fl))])), (al, .inl (cs.1, 48, .inl (fun j => nI (ln j)))), (ac, .inl (cs.1, 48, .inl (fun j => nI (cn j)))), (ah, .inl (cs.1, 17, .inl (fun j => nI ((shr ln 0) j)))), (an, .inl (cs.1, 17, .inl (fun j => nI (xn j))))]) 3 rfl (fun j hj => by rw [hs9 j hj]; rfl) rfl ?_
  refine g_iconst C (v := nI 0) d_T_countSharing_21 rfl ?_
  refine g_istore_n C (lv' := [(1, .int (nI (0))), (0, .ref a)]) d_T_countSharing_22 rfl (by decide) rfl ?_
  refine g_lv (lv' := [(0, .ref a), (1, .int (nI (0)))]) [1, 0] rfl ?_
  refine l_T_cs2 C a al ac ah an rl ln cn sn xn fl hl ?_ _ 0 rfl (by omega)
  exact g_vret C hr hlk rfl d_T_countSharing_50
end
section
set_option maxHeartbeats 4000000 in
set_option maxRecDepth 100000 in
theorem l_T_ss {p : Program} {l : Launch} {e : Env} {s : State} {m : MethodId} {args : Array Value} {below : List Frame} {meth : Method} {c : Code} {Q : State → Prop} {A : Nat → Prop} {D : va_G} {cs : ClassId × ClassId × ClassId × ClassId} (C : CX p s m args c c_T_startShortestFirst 3 RT D cs A) (a al ac ah an rl : Nat) (ln cn sn xn : Nat → Nat) (fl : Nat) 
    (K : GO p l e { frames := 0, cells := 0, slots := 0, locals := 0 } s m args below meth c 0 0 Q A D 3 36 [(0, .ref a)] [] [(a, .inr (1, [.int (nI (rl)), .ref al, .ref ac, .ref ah, .ref an, .int (nI (fl))])), (al, .inl (cs.1, 48, .inl (fun j => nI (ln j)))), (ac, .inl (cs.1, 48, .inl (fun j => nI (cn j)))), (ah, .inl (cs.1, 17, .inl (fun j => nI (sn j)))), (an, .inl (cs.1, 17, .inl (fun j => nI ((nxS sn xn 17) j))))])
    : ∀ (n : Nat) (k : Nat), 16 - k = n → (k ≤ 16) → GO p l e { frames := 0, cells := 0, slots := 0, locals := 0 } s m args below meth c 0 0 Q A D 3 4 [(0, .ref a), (1, .int (nI (cbS sn k))), (2, .int (nI (k + 1)))] [] [(a, .inr (1, [.int (nI (rl)), .ref al, .ref ac, .ref ah, .ref an, .int (nI (fl))])), (al, .inl (cs.1, 48, .inl (fun j => nI (ln j)))), (ac, .inl (cs.1, 48, .inl (fun j => nI (cn j)))), (ah, .inl (cs.1, 17, .inl (fun j => nI (sn j)))), (an, .inl (cs.1, 17, .inl (fun j => nI ((nxS sn xn (k + 1)) j))))] := by
  intro n
  induction n using Nat.strongRecOn with
  | _ n ih =>
  intro k  hn hk
  refine g_iload_n C d_T_startShortestFirst_4 2 rfl rfl ?_
  refine g_bipush C (v := nI 16) d_T_startShortestFirst_5 rfl ?_
  refine n_icmp_gt C 36 d_T_startShortestFirst_7 (by decide) (by omega) (by omega) (fun h7 => ?_) (fun h7 => ?_)
  · refine g_lv (lv' := [(0, .ref a)]) [0] rfl ?_
    have e9 : k = 16 := by omega
    subst e9
    exact K
  · refine g_iconst C (v := nI 2) d_T_startShortestFirst_10 rfl ?_
    refine g_iload_n C d_T_startShortestFirst_11 1 rfl rfl ?_
    refine g_imul C (v := nI ((2) * (cbS sn k))) d_T_startShortestFirst_12 (pk_mul _ _) ?_
    refine g_istore_n C (lv' := [(1, .int (nI ((2) * (cbS sn k)))), (0, .ref a), (2, .int (nI (k + 1)))]) d_T_startShortestFirst_13 rfl (by decide) rfl ?_
    refine g_aload_n C d_T_startShortestFirst_14 1 rfl rfl ?_
    refine g_get C (T := FT) (N := 6) 0 4 inT rfl rfl (by decide) tw_82 rfl rfl d_T_startShortestFirst_15 ?_
    refine g_iload_n C d_T_startShortestFirst_18 2 rfl rfl ?_
    refine g_iload_n C d_T_startShortestFirst_19 0 rfl rfl ?_
    refine n_iast C (ws' := [(a, .inr (1, [.int (nI (rl)), .ref al, .ref ac, .ref ah, .ref an, .int (nI (fl))])), (al, .inl (cs.1, 48, .inl (fun j => nI (ln j)))), (ac, .inl (cs.1, 48, .inl (fun j => nI (cn j)))), (ah, .inl (cs.1, 17, .inl (fun j => nI (sn j)))), (an, .inl (cs.1, 17, .inl (fun j => nI ((updN ((nxS sn xn (k + 1))) (k + 1) ((2) * (cbS sn k))) j))))]) 4 rfl (by omega) (by decide) rfl d_T_startShortestFirst_20 ?_
    refine g_iload_n C d_T_startShortestFirst_21 0 rfl rfl ?_
    refine g_aload_n C d_T_startShortestFirst_22 1 rfl rfl ?_
    refine g_get C (T := FT) (N := 6) 0 3 inT rfl rfl (by decide) tw_81 rfl rfl d_T_startShortestFirst_23 ?_
    refine g_iload_n C d_T_startShortestFirst_26 2 rfl rfl ?_
    refine g_iald C 3 rfl (by omega) (by decide) d_T_startShortestFirst_27 ?_
    refine g_iadd C (v := nI ((2) * (cbS sn k) + (sn (k + 1)))) d_T_startShortestFirst_28 (nI_add _ _) ?_
    refine g_istore_n C (lv' := [(1, .int (nI ((2) * (cbS sn k) + (sn (k + 1))))), (0, .ref a), (2, .int (nI (k + 1)))]) d_T_startShortestFirst_29 rfl (by decide) rfl ?_
    refine g_iinc C (lv' := [(2, .int (nI (k + 1 + 1))), (1, .int (nI ((2) * (cbS sn k) + (sn (k + 1))))), (0, .ref a)]) (k := 2) d_T_startShortestFirst_30 rfl (nI_1 _) (by decide) rfl ?_
    refine g_goto C 4 d_T_startShortestFirst_33 (by decide) ?_
    refine g_ws (ws' := [(a, .inr (1, [.int (nI (rl)), .ref al, .ref ac, .ref ah, .ref an, .int (nI (fl))])), (al, .inl (cs.1, 48, .inl (fun j => nI (ln j)))), (ac, .inl (cs.1, 48, .inl (fun j => nI (cn j)))), (ah, .inl (cs.1, 17, .inl (fun j => nI (sn j)))), (an, .inl (cs.1, 17, .inl (fun j => nI ((nxS sn xn (k + 1 + 1)) j))))]) (by rw [nxS_up]) ?_
    refine g_lv (lv' := [(0, .ref a), (1, .int (nI ((2) * (cbS sn k) + (sn (k + 1))))), (2, .int (nI (k + 1 + 1)))]) [2, 1, 0] rfl ?_
    exact ih (16 - (k + 1)) (by omega) (k + 1) rfl (by omega)
set_option maxHeartbeats 4000000 in
set_option maxRecDepth 100000 in
theorem m_T_startShortestFirst (l : Launch) (D : va_G) (cs : ClassId × ClassId × ClassId × ClassId) (a al ac ah an rl : Nat) (ln cn sn xn : Nat → Nat) (fl : Nat) : MG l y_T_startShortestFirst k_T_startShortestFirst { frames := 0, cells := 0, slots := 0, locals := 0 } D cs [.ref a] [(a, .inr (1, [.int (nI (rl)), .ref al, .ref ac, .ref ah, .ref an, .int (nI (fl))])), (al, .inl (cs.1, 48, .inl (fun j => nI (ln j)))), (ac, .inl (cs.1, 48, .inl (fun j => nI (cn j)))), (ah, .inl (cs.1, 17, .inl (fun j => nI (sn j)))), (an, .inl (cs.1, 17, .inl (fun j => nI (xn j))))] (QV D [(a, .inr (1, [.int (nI (rl)), .ref al, .ref ac, .ref ah, .ref an, .int (nI (fl))])), (al, .inl (cs.1, 48, .inl (fun j => nI (ln j)))), (ac, .inl (cs.1, 48, .inl (fun j => nI (cn j)))), (ah, .inl (cs.1, 17, .inl (fun j => nI (sn j)))), (an, .inl (cs.1, 17, .inl (fun j => nI ((nxS sn xn 17) j))))]) := by
  refine MG.mk (own := RT) (by decide) rfl (Nat.le_of_ble_eq_true rfl) ?_
  intro p e s m below meth c A C hr hlk
  refine g_lv (lv' := [(0, .ref a)]) [0] rfl ?_
  refine g_iconst C (v := nI 0) d_T_startShortestFirst_0 rfl ?_
  refine g_istore_n C (lv' := [(1, .int (nI (0))), (0, .ref a)]) d_T_startShortestFirst_1 rfl (by decide) rfl ?_
  refine g_iconst C (v := nI 1) d_T_startShortestFirst_2 rfl ?_
  refine g_istore_n C (lv' := [(2, .int (nI (1))), (1, .int (nI (0))), (0, .ref a)]) d_T_startShortestFirst_3 rfl (by decide) rfl ?_
  refine g_ws (ws' := [(a, .inr (1, [.int (nI (rl)), .ref al, .ref ac, .ref ah, .ref an, .int (nI (fl))])), (al, .inl (cs.1, 48, .inl (fun j => nI (ln j)))), (ac, .inl (cs.1, 48, .inl (fun j => nI (cn j)))), (ah, .inl (cs.1, 17, .inl (fun j => nI (sn j)))), (an, .inl (cs.1, 17, .inl (fun j => nI ((nxS sn xn (0 + 1)) j))))]) (by rw [nxS_0]) ?_
  refine g_lv (lv' := [(0, .ref a), (1, .int (nI (0))), (2, .int (nI (1)))]) [2, 1, 0] rfl ?_
  refine l_T_ss C a al ac ah an rl ln cn sn xn fl ?_ _ 0 rfl (by omega)
  exact g_vret C hr hlk rfl d_T_startShortestFirst_36
set_option maxHeartbeats 4000000 in
set_option maxRecDepth 100000 in
theorem l_T_sl {p : Program} {l : Launch} {e : Env} {s : State} {m : MethodId} {args : Array Value} {below : List Frame} {meth : Method} {c : Code} {Q : State → Prop} {A : Nat → Prop} {D : va_G} {cs : ClassId × ClassId × ClassId × ClassId} (C : CX p s m args c c_T_startLongestFirst 3 RT D cs A) (a al ac ah an rl : Nat) (ln cn sn xn : Nat → Nat) (fl : Nat) (hs : ∀ j, sn j ≤ 48)
    (K : GO p l e { frames := 0, cells := 0, slots := 0, locals := 0 } s m args below meth c 0 0 Q A D 3 38 [(0, .ref a)] [] [(a, .inr (1, [.int (nI (rl)), .ref al, .ref ac, .ref ah, .ref an, .int (nI (fl))])), (al, .inl (cs.1, 48, .inl (fun j => nI (ln j)))), (ac, .inl (cs.1, 48, .inl (fun j => nI (cn j)))), (ah, .inl (cs.1, 17, .inl (fun j => nI (sn j)))), (an, .inl (cs.1, 17, .inl (fun j => nI ((nxL sn xn 0) j))))])
    : ∀ (n : Nat) (k : Nat), k = n → (k ≤ 16) → GO p l e { frames := 0, cells := 0, slots := 0, locals := 0 } s m args below meth c 0 0 Q A D 3 5 [(0, .ref a), (1, .int (nI (cbL sn (16 - k)))), (2, .int (nI (k)))] [] [(a, .inr (1, [.int (nI (rl)), .ref al, .ref ac, .ref ah, .ref an, .int (nI (fl))])), (al, .inl (cs.1, 48, .inl (fun j => nI (ln j)))), (ac, .inl (cs.1, 48, .inl (fun j => nI (cn j)))), (ah, .inl (cs.1, 17, .inl (fun j => nI (sn j)))), (an, .inl (cs.1, 17, .inl (fun j => nI ((nxL sn xn k) j))))] := by
  intro n
  induction n using Nat.strongRecOn with
  | _ n ih =>
  intro k  hn hk
  refine g_iload_n C d_T_startLongestFirst_5 2 rfl rfl ?_
  refine g_iconst C (v := nI 1) d_T_startLongestFirst_6 rfl ?_
  refine n_icmp_lt C 38 d_T_startLongestFirst_7 (by decide) (by omega) (by omega) (fun h7 => ?_) (fun h7 => ?_)
  · refine g_lv (lv' := [(0, .ref a)]) [0] rfl ?_
    have e9 : k = 0 := by omega
    subst e9
    exact K
  · refine g_iload_n C d_T_startLongestFirst_10 1 rfl rfl ?_
    refine g_iconst C (v := nI 1) d_T_startLongestFirst_11 rfl ?_
    refine g_iadd C (v := nI (cbL sn (16 - k) + 1)) d_T_startLongestFirst_12 (nI_add _ _) ?_
    refine g_iconst C (v := nI 2) d_T_startLongestFirst_13 rfl ?_
    refine g_idiv C (v := nI ((cbL sn (16 - k) + 1) / 2)) d_T_startLongestFirst_14 (nI_ne0 (n := 2) (by omega) (by omega)) (pk_div (d := 2) (by have := cbL_le hs (16 - k); omega) (by omega) (by omega)) ?_
    refine g_istore_n C (lv' := [(1, .int (nI ((cbL sn (16 - k) + 1) / 2))), (0, .ref a), (2, .int (nI (k)))]) d_T_startLongestFirst_15 rfl (by decide) rfl ?_
    refine g_aload_n C d_T_startLongestFirst_16 1 rfl rfl ?_
    refine g_get C (T := FT) (N := 6) 0 4 inT rfl rfl (by decide) tw_82 rfl rfl d_T_startLongestFirst_17 ?_
    refine g_iload_n C d_T_startLongestFirst_20 2 rfl rfl ?_
    refine g_iload_n C d_T_startLongestFirst_21 0 rfl rfl ?_
    refine n_iast C (ws' := [(a, .inr (1, [.int (nI (rl)), .ref al, .ref ac, .ref ah, .ref an, .int (nI (fl))])), (al, .inl (cs.1, 48, .inl (fun j => nI (ln j)))), (ac, .inl (cs.1, 48, .inl (fun j => nI (cn j)))), (ah, .inl (cs.1, 17, .inl (fun j => nI (sn j)))), (an, .inl (cs.1, 17, .inl (fun j => nI ((updN ((nxL sn xn k)) (k) ((cbL sn (16 - k) + 1) / 2)) j))))]) 4 rfl (by omega) (by decide) rfl d_T_startLongestFirst_22 ?_
    refine g_iload_n C d_T_startLongestFirst_23 0 rfl rfl ?_
    refine g_aload_n C d_T_startLongestFirst_24 1 rfl rfl ?_
    refine g_get C (T := FT) (N := 6) 0 3 inT rfl rfl (by decide) tw_81 rfl rfl d_T_startLongestFirst_25 ?_
    refine g_iload_n C d_T_startLongestFirst_28 2 rfl rfl ?_
    refine g_iald C 3 rfl (by omega) (by decide) d_T_startLongestFirst_29 ?_
    refine g_iadd C (v := nI ((cbL sn (16 - k) + 1) / 2 + (sn (k)))) d_T_startLongestFirst_30 (nI_add _ _) ?_
    refine g_istore_n C (lv' := [(1, .int (nI ((cbL sn (16 - k) + 1) / 2 + (sn (k))))), (0, .ref a), (2, .int (nI (k)))]) d_T_startLongestFirst_31 rfl (by decide) rfl ?_
    refine g_iinc C (lv' := [(2, .int (nI (k - 1))), (1, .int (nI ((cbL sn (16 - k) + 1) / 2 + (sn (k))))), (0, .ref a)]) (k := 2) d_T_startLongestFirst_32 rfl (nI_dec (by omega)) (by decide) rfl ?_
    refine g_goto C 5 d_T_startLongestFirst_35 (by decide) ?_
    refine g_ws (ws' := [(a, .inr (1, [.int (nI (rl)), .ref al, .ref ac, .ref ah, .ref an, .int (nI (fl))])), (al, .inl (cs.1, 48, .inl (fun j => nI (ln j)))), (ac, .inl (cs.1, 48, .inl (fun j => nI (cn j)))), (ah, .inl (cs.1, 17, .inl (fun j => nI (sn j)))), (an, .inl (cs.1, 17, .inl (fun j => nI ((nxL sn xn (k - 1)) j))))]) (by rw [nxL_up sn xn (by omega) hk]) ?_
    have e8 : (cbL sn (16 - k) + 1) / 2 + sn k = cbL sn (16 - (k - 1)) := by
      rw [show 16 - (k - 1) = (16 - k) + 1 by omega]; show _ = (cbL sn (16 - k) + 1) / 2 + sn (16 - (16 - k)); rw [show 16 - (16 - k) = k by omega]
    rw [e8]
    refine g_lv (lv' := [(0, .ref a), (1, .int (nI (cbL sn (16 - (k - 1))))), (2, .int (nI (k - 1)))]) [2, 1, 0] rfl ?_
    exact ih (k - 1) (by omega) (k - 1) rfl (by omega)
set_option maxHeartbeats 4000000 in
set_option maxRecDepth 100000 in
theorem m_T_startLongestFirst (l : Launch) (D : va_G) (cs : ClassId × ClassId × ClassId × ClassId) (a al ac ah an rl : Nat) (ln cn sn xn : Nat → Nat) (fl : Nat) (hs : ∀ j, sn j ≤ 48) : MG l y_T_startLongestFirst k_T_startLongestFirst { frames := 0, cells := 0, slots := 0, locals := 0 } D cs [.ref a] [(a, .inr (1, [.int (nI (rl)), .ref al, .ref ac, .ref ah, .ref an, .int (nI (fl))])), (al, .inl (cs.1, 48, .inl (fun j => nI (ln j)))), (ac, .inl (cs.1, 48, .inl (fun j => nI (cn j)))), (ah, .inl (cs.1, 17, .inl (fun j => nI (sn j)))), (an, .inl (cs.1, 17, .inl (fun j => nI (xn j))))] (QV D [(a, .inr (1, [.int (nI (rl)), .ref al, .ref ac, .ref ah, .ref an, .int (nI (fl))])), (al, .inl (cs.1, 48, .inl (fun j => nI (ln j)))), (ac, .inl (cs.1, 48, .inl (fun j => nI (cn j)))), (ah, .inl (cs.1, 17, .inl (fun j => nI (sn j)))), (an, .inl (cs.1, 17, .inl (fun j => nI ((nxL sn xn 0) j))))]) := by
  refine MG.mk (own := RT) (by decide) rfl (Nat.le_of_ble_eq_true rfl) ?_
  intro p e s m below meth c A C hr hlk
  refine g_lv (lv' := [(0, .ref a)]) [0] rfl ?_
  refine g_iconst C (v := nI 0) d_T_startLongestFirst_0 rfl ?_
  refine g_istore_n C (lv' := [(1, .int (nI (0))), (0, .ref a)]) d_T_startLongestFirst_1 rfl (by decide) rfl ?_
  refine g_bipush C (v := nI 16) d_T_startLongestFirst_2 rfl ?_
  refine g_istore_n C (lv' := [(2, .int (nI (16))), (1, .int (nI (0))), (0, .ref a)]) d_T_startLongestFirst_4 rfl (by decide) rfl ?_
  refine g_ws (ws' := [(a, .inr (1, [.int (nI (rl)), .ref al, .ref ac, .ref ah, .ref an, .int (nI (fl))])), (al, .inl (cs.1, 48, .inl (fun j => nI (ln j)))), (ac, .inl (cs.1, 48, .inl (fun j => nI (cn j)))), (ah, .inl (cs.1, 17, .inl (fun j => nI (sn j)))), (an, .inl (cs.1, 17, .inl (fun j => nI ((nxL sn xn 16) j))))]) (by rw [nxL_16]) ?_
  refine g_lv (lv' := [(0, .ref a), (1, .int (nI (0))), (2, .int (nI (16)))]) [2, 1, 0] rfl ?_
  refine l_T_sl C a al ac ah an rl ln cn sn xn fl hs ?_ _ 16 rfl (by omega)
  exact g_vret C hr hlk rfl d_T_startLongestFirst_38
set_option maxHeartbeats 4000000 in
set_option maxRecDepth 100000 in
theorem m_T_takeCode (l : Launch) (D : va_G) (cs : ClassId × ClassId × ClassId × ClassId) (a al ac ah an rl : Nat) (ln cn sn xn : Nat → Nat) (fl : Nat) (L : Nat) (hL : L ≤ 16) (h1 : rl = 1 → xn L < 2 ^ L) (hrl : rl < 3) : MG l y_T_takeCode k_T_takeCode { frames := 0, cells := 0, slots := 0, locals := 0 } D cs [.ref a, .int (nI (L))] [(a, .inr (1, [.int (nI (rl)), .ref al, .ref ac, .ref ah, .ref an, .int (nI (fl))])), (al, .inl (cs.1, 48, .inl (fun j => nI (ln j)))), (ac, .inl (cs.1, 48, .inl (fun j => nI (cn j)))), (ah, .inl (cs.1, 17, .inl (fun j => nI (sn j)))), (an, .inl (cs.1, 17, .inl (fun j => nI (xn j))))] (QI D (nI (if rl = 1 then 2 ^ L - 1 - xn L else xn L)) [(a, .inr (1, [.int (nI (rl)), .ref al, .ref ac, .ref ah, .ref an, .int (nI (fl))])), (al, .inl (cs.1, 48, .inl (fun j => nI (ln j)))), (ac, .inl (cs.1, 48, .inl (fun j => nI (cn j)))), (ah, .inl (cs.1, 17, .inl (fun j => nI (sn j)))), (an, .inl (cs.1, 17, .inl (fun j => nI ((updN xn L (xn L + 1)) j))))]) := by
  refine MG.mk (own := RT) (by decide) rfl (Nat.le_of_ble_eq_true rfl) ?_
  intro p e s m below meth c A C hr hlk
  refine g_lv (lv' := [(0, .ref a), (1, .int (nI (L)))]) [0, 1] rfl ?_
  refine g_aload_n C d_T_takeCode_0 0 rfl rfl ?_
  refine g_get C (T := FT) (N := 6) 0 4 inT rfl rfl (by decide) tw_82 rfl rfl d_T_takeCode_1 ?_
  refine g_iload_n C d_T_takeCode_4 1 rfl rfl ?_
  refine g_iald C 4 rfl (by omega) (by decide) d_T_takeCode_5 ?_
  refine g_istore_n C (lv' := [(2, .int (nI (xn (L)))), (0, .ref a), (1, .int (nI (L)))]) d_T_takeCode_6 rfl (by decide) rfl ?_
  refine g_aload_n C d_T_takeCode_7 1 rfl rfl ?_
  refine g_get C (T := FT) (N := 6) 0 4 inT rfl rfl (by decide) tw_82 rfl rfl d_T_takeCode_8 ?_
  refine g_iload_n C d_T_takeCode_11 2 rfl rfl ?_
  refine g_dup2 C d_T_takeCode_12 rfl rfl ?_
  refine g_iald C 4 rfl (by omega) (by decide) d_T_takeCode_13 ?_
  refine g_iconst C (v := nI 1) d_T_takeCode_14 rfl ?_
  refine g_iadd C (v := nI (xn (L) + 1)) d_T_takeCode_15 (nI_add _ _) ?_
  refine n_iast C (ws' := [(a, .inr (1, [.int (nI (rl)), .ref al, .ref ac, .ref ah, .ref an, .int (nI (fl))])), (al, .inl (cs.1, 48, .inl (fun j => nI (ln j)))), (ac, .inl (cs.1, 48, .inl (fun j => nI (cn j)))), (ah, .inl (cs.1, 17, .inl (fun j => nI (sn j)))), (an, .inl (cs.1, 17, .inl (fun j => nI ((updN (xn) (L) (xn (L) + 1)) j))))]) 4 rfl (by omega) (by decide) rfl d_T_takeCode_16 ?_
  refine g_aload_n C d_T_takeCode_17 1 rfl rfl ?_
  refine g_get C (T := FT) (N := 6) 0 0 inT rfl rfl (by decide) tw_76 rfl rfl d_T_takeCode_18 ?_
  refine g_iconst C (v := nI 1) d_T_takeCode_21 rfl ?_
  refine n_icmp_ne C 35 d_T_takeCode_22 (by decide) (by omega) (by omega) (fun h22 => ?_) (fun h22 => ?_)
  · refine g_iload_n C d_T_takeCode_35 0 rfl rfl ?_
    exact g_iret C hr hlk (by first | (rw [if_pos (by assumption)]) | (rw [if_neg (by assumption)])) rfl d_T_takeCode_36
  · refine g_iconst C (v := nI 1) d_T_takeCode_25 rfl ?_
    refine g_iload_n C d_T_takeCode_26 2 rfl rfl ?_
    refine g_ishl C (v := nI (2 ^ L)) d_T_takeCode_27 ((n_shl ⟨by omega, by have : 2 ^ L ≤ 2 ^ 16 := Nat.pow_le_pow_right (by omega) hL; omega⟩).trans (by rw [Nat.one_mul])) ?_
    refine g_iconst C (v := nI 1) d_T_takeCode_28 rfl ?_
    refine g_isub C (v := nI (2 ^ L - 1)) d_T_takeCode_29 (pk_sub (by have := Nat.two_pow_pos L; omega)) ?_
    refine g_iload_n C d_T_takeCode_30 0 rfl rfl ?_
    refine g_isub C (v := nI (2 ^ L - 1 - xn L)) d_T_takeCode_31 (pk_sub (by have := h1 (by omega); omega)) ?_
    refine g_goto C 36 d_T_takeCode_32 (by decide) ?_
    exact g_iret C hr hlk (by first | (rw [if_pos (by assumption)]) | (rw [if_neg (by assumption)])) rfl d_T_takeCode_36
end
section
set_option maxHeartbeats 4000000 in
set_option maxRecDepth 100000 in
theorem l_T_gc {p : Program} {l : Launch} {e : Env} {s : State} {m : MethodId} {args : Array Value} {below : List Frame} {meth : Method} {c : Code} {Q : State → Prop} {A : Nat → Prop} {D : va_G} {cs : ClassId × ClassId × ClassId × ClassId} (C : CX p s m args c c_T_giveCodes 2 RT D cs A) (a al ac ah an rl : Nat) (ln cn sn xn : Nat → Nat) (fl : Nat) (x0 : Nat → Nat) (hl : ∀ j, j < 48 → ln j ≤ 16) (hrl : rl < 3) (hB : rl = 1 → ∀ j, j < 48 → 0 < ln j → x0 (ln j) + shr ln j (ln j) < 2 ^ (ln j))
    (K : GO p l e { frames := 1, cells := 0, slots := 0, locals := 22 } s m args below meth c 0 0 Q A D 2 58 [(0, .ref a)] [] [(a, .inr (1, [.int (nI (rl)), .ref al, .ref ac, .ref ah, .ref an, .int (nI (fl))])), (al, .inl (cs.1, 48, .inl (fun j => nI (ln j)))), (ac, .inl (cs.1, 48, .inl (fun j => nI ((cdG x0 ln cn rl 48) j)))), (ah, .inl (cs.1, 17, .inl (fun j => nI (sn j)))), (an, .inl (cs.1, 17, .inl (fun j => nI ((nxG x0 ln 48) j))))])
    : ∀ (n : Nat) (i : Nat), 48 - i = n → (i ≤ 48) → GO p l e { frames := 1, cells := 0, slots := 0, locals := 22 } s m args below meth c 0 0 Q A D 2 21 [(0, .ref a), (1, .int (nI (i)))] [] [(a, .inr (1, [.int (nI (rl)), .ref al, .ref ac, .ref ah, .ref an, .int (nI (fl))])), (al, .inl (cs.1, 48, .inl (fun j => nI (ln j)))), (ac, .inl (cs.1, 48, .inl (fun j => nI ((cdG x0 ln cn rl i) j)))), (ah, .inl (cs.1, 17, .inl (fun j => nI (sn j)))), (an, .inl (cs.1, 17, .inl (fun j => nI ((nxG x0 ln i) j))))] := by
  intro n
  induction n using Nat.strongRecOn with
  | _ n ih =>
  intro i  hn hi
  refine g_iload_n C d_T_giveCodes_21 1 rfl rfl ?_
  refine g_bipush C (v := nI 48) d_T_giveCodes_22 rfl ?_
  refine n_icmp_ge C 58 d_T_giveCodes_24 (by decide) (by omega) (by omega) (fun h24 => ?_) (fun h24 => ?_)
  · refine g_lv (lv' := [(0, .ref a)]) [0] rfl ?_
    have e9 : i = 48 := by omega
    subst e9
    exact K
  · refine g_aload_n C d_T_giveCodes_27 0 rfl rfl ?_
    refine g_get C (T := FT) (N := 6) 0 1 inT rfl rfl (by decide) tw_77 rfl rfl d_T_giveCodes_28 ?_
    refine g_iload_n C d_T_giveCodes_31 1 rfl rfl ?_
    refine g_iald C 1 rfl (by omega) (by decide) d_T_giveCodes_32 ?_
    refine n_if_le C 52 d_T_giveCodes_33 (by decide) (by have := hl i (by omega); omega) (fun h33 => ?_) (fun h33 => ?_)
    · refine g_ws (ws' := [(a, .inr (1, [.int (nI (rl)), .ref al, .ref ac, .ref ah, .ref an, .int (nI (fl))])), (al, .inl (cs.1, 48, .inl (fun j => nI (ln j)))), (ac, .inl (cs.1, 48, .inl (fun j => nI ((cdG x0 ln cn rl (i + 1)) j)))), (ah, .inl (cs.1, 17, .inl (fun j => nI (sn j)))), (an, .inl (cs.1, 17, .inl (fun j => nI ((nxG x0 ln (i + 1)) j))))]) (by first | rw [cdG_keep x0 ln cn rl i (by omega), nxG_keep x0 ln i (by omega)] | rw [nxG_up x0 ln i (by omega), cdG_up x0 ln cn rl i (by omega)]) ?_
      refine g_iinc C (lv' := [(1, .int (nI (i + 1))), (0, .ref a)]) (k := 1) d_T_giveCodes_52 rfl (nI_1 _) (by decide) rfl ?_
      refine g_goto C 21 d_T_giveCodes_55 (by decide) ?_
      refine g_lv (lv' := [(0, .ref a), (1, .int (nI (i + 1)))]) [1, 0] rfl ?_
      exact ih (48 - (i + 1)) (by omega) (i + 1) rfl (by omega)
    · refine g_aload_n C d_T_giveCodes_36 0 rfl rfl ?_
      refine g_get C (T := FT) (N := 6) 0 2 inT rfl rfl (by decide) tw_79 rfl rfl d_T_giveCodes_37 ?_
      refine g_iload_n C d_T_giveCodes_40 1 rfl rfl ?_
      refine g_aload_n C d_T_giveCodes_41 0 rfl rfl ?_
      refine g_aload_n C d_T_giveCodes_42 0 rfl rfl ?_
      refine g_get C (T := FT) (N := 6) 0 1 inT rfl rfl (by decide) tw_77 rfl rfl d_T_giveCodes_43 ?_
      refine g_iload_n C d_T_giveCodes_46 1 rfl rfl ?_
      refine g_iald C 1 rfl (by omega) (by decide) d_T_giveCodes_47 ?_
      refine g_callVi C (n := 1) (ws' := [(a, .inr (1, [.int (nI (rl)), .ref al, .ref ac, .ref ah, .ref an, .int (nI (fl))])), (al, .inl (cs.1, 48, .inl (fun j => nI (ln j)))), (ac, .inl (cs.1, 48, .inl (fun j => nI ((cdG x0 ln cn rl i) j)))), (ah, .inl (cs.1, 17, .inl (fun j => nI (sn j)))), (an, .inl (cs.1, 17, .inl (fun j => nI ((updN ((nxG x0 ln i)) (ln (i)) (((nxG x0 ln i)) (ln (i)) + 1)) j))))]) (As := [.int (nI (ln (i)))]) (rest := [.int (nI (i)), .ref ac]) (m_T_takeCode l D cs a al ac ah an (rl) (ln) ((cdG x0 ln cn rl i)) (sn) ((nxG x0 ln i)) (fl) (ln (i)) (hl i (by omega)) (fun h9 => by have := hB h9 i (by omega) (by omega); simpa [nxG, show ln i ≠ 0 by omega] using this) hrl) tw_193 tw_195 ts_7 tw_4 tw_196 rfl 0 rfl rfl (by decide +kernel) rfl ⟨rfl, rfl, by decide, by decide, by decide⟩ rfl [0, 1, 2, 3, 4] rfl rfl (by decide) (Nat.le_of_ble_eq_true rfl) rfl d_T_giveCodes_48 ?_
      refine n_iast C (ws' := [(a, .inr (1, [.int (nI (rl)), .ref al, .ref ac, .ref ah, .ref an, .int (nI (fl))])), (al, .inl (cs.1, 48, .inl (fun j => nI (ln j)))), (ac, .inl (cs.1, 48, .inl (fun j => nI ((updN ((cdG x0 ln cn rl i)) (i) (if rl = 1 then 2 ^ (ln (i)) - 1 - (nxG x0 ln i) (ln (i)) else (nxG x0 ln i) (ln (i)))) j)))), (ah, .inl (cs.1, 17, .inl (fun j => nI (sn j)))), (an, .inl (cs.1, 17, .inl (fun j => nI ((updN ((nxG x0 ln i)) (ln (i)) (((nxG x0 ln i)) (ln (i)) + 1)) j))))]) 2 rfl (by omega) (by decide) rfl d_T_giveCodes_51 ?_
      refine g_ws (ws' := [(a, .inr (1, [.int (nI (rl)), .ref al, .ref ac, .ref ah, .ref an, .int (nI (fl))])), (al, .inl (cs.1, 48, .inl (fun j => nI (ln j)))), (ac, .inl (cs.1, 48, .inl (fun j => nI ((cdG x0 ln cn rl (i + 1)) j)))), (ah, .inl (cs.1, 17, .inl (fun j => nI (sn j)))), (an, .inl (cs.1, 17, .inl (fun j => nI ((nxG x0 ln (i + 1)) j))))]) (by first | rw [cdG_keep x0 ln cn rl i (by omega), nxG_keep x0 ln i (by omega)] | rw [nxG_up x0 ln i (by omega), cdG_up x0 ln cn rl i (by omega)]) ?_
      refine g_iinc C (lv' := [(1, .int (nI (i + 1))), (0, .ref a)]) (k := 1) d_T_giveCodes_52 rfl (nI_1 _) (by decide) rfl ?_
      refine g_goto C 21 d_T_giveCodes_55 (by decide) ?_
      refine g_lv (lv' := [(0, .ref a), (1, .int (nI (i + 1)))]) [1, 0] rfl ?_
      exact ih (48 - (i + 1)) (by omega) (i + 1) rfl (by omega)
theorem cdG_0 (x0 ln cn : Nat → Nat) (rl : Nat) : cdG x0 ln cn rl 0 = cn := by funext j; unfold cdG; rw [if_neg (by omega)]
theorem nxG_0 (x0 ln : Nat → Nat) : nxG x0 ln 0 = x0 := by
  funext j; unfold nxG
  by_cases h : j = 0
  · simp [h]
  · simp [h, shr]
theorem hB_of {rl : Nat} {ln xn : Nat → Nat} (hl : ∀ j, j < 48 → ln j ≤ 16) (hf : fll ln ≤ 65536) (h1 : rl = 1) : ∀ j, j < 48 → 0 < ln j → nxS (shr ln 48) xn 17 (ln j) + shr ln j (ln j) < 2 ^ (ln j) := by
  intro j hj h0
  have := cdv_inv h1 hf hj h0 (hl j hj)
  have h9 := hl j hj
  have e : nxS (shr ln 48) xn 17 (ln j) = stc rl (shr ln 48) (ln j) := by
    unfold nxS stc; rw [if_pos (by omega), if_neg (by omega)]
  rw [e]; exact this
/-- codes by the first codes of their lengths -/
theorem cdG_x {rl : Nat} {ln xn cn : Nat → Nat} (hl : ∀ j, j < 48 → ln j ≤ 16) (j : Nat) (hj : j < 48) : cdG (if rl = 2 then nxL (shr ln 48) xn 0 else nxS (shr ln 48) xn 17) ln cn rl 48 j = cdG (stc rl (shr ln 48)) ln cn rl 48 j := by
  unfold cdG
  by_cases h0 : j < 48 ∧ 0 < ln j
  · have h9 := hl j hj
    have e : (if rl = 2 then nxL (shr ln 48) xn 0 else nxS (shr ln 48) xn 17) (ln j) = stc rl (shr ln 48) (ln j) := by
      unfold stc
      by_cases h2 : rl = 2
      · rw [if_pos h2, if_pos h2]; unfold nxL; rw [if_pos (by omega)]
      · rw [if_neg h2, if_neg h2]; unfold nxS; rw [if_pos (by omega)]
    rw [if_pos h0, if_pos h0, e]
  · rw [if_neg h0, if_neg h0]
set_option maxHeartbeats 4000000 in
set_option maxRecDepth 100000 in
theorem m_T_giveCodes (l : Launch) (D : va_G) (cs : ClassId × ClassId × ClassId × ClassId) (a al ac ah an rl : Nat) (ln cn xn : Nat → Nat) (fl : Nat) (hl : ∀ j, j < 48 → ln j ≤ 16) (hrl : rl < 3) (hf : fll ln ≤ 65536) : MG l y_T_giveCodes k_T_giveCodes { frames := 1, cells := 0, slots := 0, locals := 22 } D cs [.ref a] [(a, .inr (1, [.int (nI (rl)), .ref al, .ref ac, .ref ah, .ref an, .int (nI (fl))])), (al, .inl (cs.1, 48, .inl (fun j => nI (ln j)))), (ac, .inl (cs.1, 48, .inl (fun j => nI (cn j)))), (ah, .inl (cs.1, 17, .inl (fun j => nI ((shr ln 48) j)))), (an, .inl (cs.1, 17, .inl (fun j => nI (xn j))))] (QV D [(a, .inr (1, [.int (nI (rl)), .ref al, .ref ac, .ref ah, .ref an, .int (nI (fl))])), (al, .inl (cs.1, 48, .inl (fun j => nI (ln j)))), (ac, .inl (cs.1, 48, .inl (fun j => nI ((cdG (stc rl (shr ln 48)) ln cn rl 48) j)))), (ah, .inl (cs.1, 17, .inl (fun j => nI ((shr ln 48) j)))), (an, .inl (cs.1, 17, .inl (fun j => nI ((nxG (if rl = 2 then nxL (shr ln 48) xn 0 else nxS (shr ln 48) xn 17) ln 48) j))))]) := by
  refine MG.mk (own := RT) (by decide) rfl (Nat.le_of_ble_eq_true rfl) ?_
  intro p e s m below meth c A C hr hlk
  refine g_lv (lv' := [(0, .ref a)]) [0] rfl ?_
  refine g_aload_n C d_T_giveCodes_0 0 rfl rfl ?_
  refine g_get C (T := FT) (N := 6) 0 0 inT rfl rfl (by decide) tw_76 rfl rfl d_T_giveCodes_1 ?_
  refine g_iconst C (v := nI 2) d_T_giveCodes_4 rfl ?_
  refine n_icmp_ne C 15 d_T_giveCodes_5 (by decide) (by omega) (by omega) (fun h5 => ?_) (fun h5 => ?_)
  · refine g_aload_n C d_T_giveCodes_15 0 rfl rfl ?_
    refine g_callVv C (n := 0) (ws' := [(a, .inr (1, [.int (nI (rl)), .ref al, .ref ac, .ref ah, .ref an, .int (nI (fl))])), (al, .inl (cs.1, 48, .inl (fun j => nI (ln j)))), (ac, .inl (cs.1, 48, .inl (fun j => nI (cn j)))), (ah, .inl (cs.1, 17, .inl (fun j => nI ((shr ln 48) j)))), (an, .inl (cs.1, 17, .inl (fun j => nI ((nxS ((shr ln 48)) (xn) 17) j))))]) (As := []) (rest := []) (m_T_startShortestFirst l D cs a al ac ah an (rl) (ln) (cn) ((shr ln 48)) (xn) (fl) ) tw_189 tw_191 ts_6 tw_4 tw_192 rfl 0 rfl rfl (by decide +kernel) rfl ⟨rfl, rfl, by decide, by decide, by decide⟩ rfl [0, 1, 2, 3, 4] rfl rfl (by decide) (Nat.le_of_ble_eq_true rfl) rfl d_T_giveCodes_16 ?_
    refine g_iconst C (v := nI 0) d_T_giveCodes_19 rfl ?_
    refine g_istore_n C (lv' := [(1, .int (nI (0))), (0, .ref a)]) d_T_giveCodes_20 rfl (by decide) rfl ?_
    refine g_ws (ws' := [(a, .inr (1, [.int (nI (rl)), .ref al, .ref ac, .ref ah, .ref an, .int (nI (fl))])), (al, .inl (cs.1, 48, .inl (fun j => nI (ln j)))), (ac, .inl (cs.1, 48, .inl (fun j => nI ((cdG ((nxS ((shr ln 48)) (xn) 17)) ln cn rl 0) j)))), (ah, .inl (cs.1, 17, .inl (fun j => nI ((shr ln 48) j)))), (an, .inl (cs.1, 17, .inl (fun j => nI ((nxG ((nxS ((shr ln 48)) (xn) 17)) ln 0) j))))]) (by rw [cdG_0, nxG_0]) ?_
    refine g_lv (lv' := [(0, .ref a), (1, .int (nI (0)))]) [1, 0] rfl ?_
    refine l_T_gc C a al ac ah an rl ln cn (shr ln 48) ((nxS ((shr ln 48)) (xn) 17)) fl ((nxS ((shr ln 48)) (xn) 17)) hl hrl (fun h9 => hB_of hl hf h9) ?_ _ 0 rfl (by omega)
    refine n_ci (f2 := cdG (stc rl (shr ln 48)) ln cn rl 48) (ws' := [(a, .inr (1, [.int (nI (rl)), .ref al, .ref ac, .ref ah, .ref an, .int (nI (fl))])), (al, .inl (cs.1, 48, .inl (fun j => nI (ln j)))), (ac, .inl (cs.1, 48, .inl (fun j => nI ((cdG (stc rl (shr ln 48)) ln cn rl 48) j)))), (ah, .inl (cs.1, 17, .inl (fun j => nI ((shr ln 48) j)))), (an, .inl (cs.1, 17, .inl (fun j => nI ((nxG ((nxS ((shr ln 48)) (xn) 17)) ln 48) j))))]) 2 rfl (fun j hj => by rw [← cdG_x (xn := xn) hl j hj, if_neg (by omega)]) rfl ?_
    refine g_ws (ws' := [(a, .inr (1, [.int (nI (rl)), .ref al, .ref ac, .ref ah, .ref an, .int (nI (fl))])), (al, .inl (cs.1, 48, .inl (fun j => nI (ln j)))), (ac, .inl (cs.1, 48, .inl (fun j => nI ((cdG (stc rl (shr ln 48)) ln cn rl 48) j)))), (ah, .inl (cs.1, 17, .inl (fun j => nI ((shr ln 48) j)))), (an, .inl (cs.1, 17, .inl (fun j => nI ((nxG (if rl = 2 then nxL (shr ln 48) xn 0 else nxS (shr ln 48) xn 17) ln 48) j))))]) (by rw [if_neg (show ¬ rl = 2 by omega)]) ?_
    exact g_vret C hr hlk rfl d_T_giveCodes_58
  · refine g_aload_n C d_T_giveCodes_8 0 rfl rfl ?_
    refine g_callVv C (n := 0) (ws' := [(a, .inr (1, [.int (nI (rl)), .ref al, .ref ac, .ref ah, .ref an, .int (nI (fl))])), (al, .inl (cs.1, 48, .inl (fun j => nI (ln j)))), (ac, .inl (cs.1, 48, .inl (fun j => nI (cn j)))), (ah, .inl (cs.1, 17, .inl (fun j => nI ((shr ln 48) j)))), (an, .inl (cs.1, 17, .inl (fun j => nI ((nxL ((shr ln 48)) (xn) 0) j))))]) (As := []) (rest := []) (m_T_startLongestFirst l D cs a al ac ah an (rl) (ln) (cn) ((shr ln 48)) (xn) (fl) (fun j => shr_le ln j 48)) tw_185 tw_187 ts_5 tw_4 tw_188 rfl 0 rfl rfl (by decide +kernel) rfl ⟨rfl, rfl, by decide, by decide, by decide⟩ rfl [0, 1, 2, 3, 4] rfl rfl (by decide) (Nat.le_of_ble_eq_true rfl) rfl d_T_giveCodes_9 ?_
    refine g_goto C 19 d_T_giveCodes_12 (by decide) ?_
    refine g_iconst C (v := nI 0) d_T_giveCodes_19 rfl ?_
    refine g_istore_n C (lv' := [(1, .int (nI (0))), (0, .ref a)]) d_T_giveCodes_20 rfl (by decide) rfl ?_
    refine g_ws (ws' := [(a, .inr (1, [.int (nI (rl)), .ref al, .ref ac, .ref ah, .ref an, .int (nI (fl))])), (al, .inl (cs.1, 48, .inl (fun j => nI (ln j)))), (ac, .inl (cs.1, 48, .inl (fun j => nI ((cdG ((nxL ((shr ln 48)) (xn) 0)) ln cn rl 0) j)))), (ah, .inl (cs.1, 17, .inl (fun j => nI ((shr ln 48) j)))), (an, .inl (cs.1, 17, .inl (fun j => nI ((nxG ((nxL ((shr ln 48)) (xn) 0)) ln 0) j))))]) (by rw [cdG_0, nxG_0]) ?_
    refine g_lv (lv' := [(0, .ref a), (1, .int (nI (0)))]) [1, 0] rfl ?_
    refine l_T_gc C a al ac ah an rl ln cn (shr ln 48) ((nxL ((shr ln 48)) (xn) 0)) fl ((nxL ((shr ln 48)) (xn) 0)) hl hrl (fun h9 => absurd h9 (by omega)) ?_ _ 0 rfl (by omega)
    refine n_ci (f2 := cdG (stc rl (shr ln 48)) ln cn rl 48) (ws' := [(a, .inr (1, [.int (nI (rl)), .ref al, .ref ac, .ref ah, .ref an, .int (nI (fl))])), (al, .inl (cs.1, 48, .inl (fun j => nI (ln j)))), (ac, .inl (cs.1, 48, .inl (fun j => nI ((cdG (stc rl (shr ln 48)) ln cn rl 48) j)))), (ah, .inl (cs.1, 17, .inl (fun j => nI ((shr ln 48) j)))), (an, .inl (cs.1, 17, .inl (fun j => nI ((nxG ((nxL ((shr ln 48)) (xn) 0)) ln 48) j))))]) 2 rfl (fun j hj => by rw [← cdG_x (xn := xn) hl j hj, if_pos (by omega)]) rfl ?_
    refine g_ws (ws' := [(a, .inr (1, [.int (nI (rl)), .ref al, .ref ac, .ref ah, .ref an, .int (nI (fl))])), (al, .inl (cs.1, 48, .inl (fun j => nI (ln j)))), (ac, .inl (cs.1, 48, .inl (fun j => nI ((cdG (stc rl (shr ln 48)) ln cn rl 48) j)))), (ah, .inl (cs.1, 17, .inl (fun j => nI ((shr ln 48) j)))), (an, .inl (cs.1, 17, .inl (fun j => nI ((nxG (if rl = 2 then nxL (shr ln 48) xn 0 else nxS (shr ln 48) xn 17) ln 48) j))))]) (by rw [if_pos (show rl = 2 by omega)]) ?_
    exact g_vret C hr hlk rfl d_T_giveCodes_58
end
section
set_option maxHeartbeats 4000000 in
set_option maxRecDepth 100000 in
theorem l_T_rn {p : Program} {l : Launch} {e : Env} {s : State} {m : MethodId} {args : Array Value} {below : List Frame} {meth : Method} {c : Code} {Q : State → Prop} {A : Nat → Prop} {D : va_G} {cs : ClassId × ClassId × ClassId × ClassId} (C : CX p s m args c c_T_renew 2 RT D cs A) (a al ac ah an rl : Nat) (ln cn xn : Nat → Nat) 
    (K : GO p l e { frames := 2, cells := 0, slots := 0, locals := 43 } s m args below meth c 0 0 Q A D 2 43 [(0, .ref a)] [] [(a, .inr (1, [.int (nI (rl)), .ref al, .ref ac, .ref ah, .ref an, .int (nI (fll ln))])), (al, .inl (cs.1, 48, .inl (fun j => nI (ln j)))), (ac, .inl (cs.1, 48, .inl (fun j => nI (cn j)))), (ah, .inl (cs.1, 17, .inl (fun j => nI ((shr ln 48) j)))), (an, .inl (cs.1, 17, .inl (fun j => nI (xn j))))])
    : ∀ (n : Nat) (k : Nat), 16 - k = n → (k ≤ 16) → GO p l e { frames := 2, cells := 0, slots := 0, locals := 43 } s m args below meth c 0 0 Q A D 2 11 [(0, .ref a), (1, .int (nI (k + 1)))] [] [(a, .inr (1, [.int (nI (rl)), .ref al, .ref ac, .ref ah, .ref an, .int (nI (flp (shr ln 48) k))])), (al, .inl (cs.1, 48, .inl (fun j => nI (ln j)))), (ac, .inl (cs.1, 48, .inl (fun j => nI (cn j)))), (ah, .inl (cs.1, 17, .inl (fun j => nI ((shr ln 48) j)))), (an, .inl (cs.1, 17, .inl (fun j => nI (xn j))))] := by
  intro n
  induction n using Nat.strongRecOn with
  | _ n ih =>
  intro k  hn hk
  refine g_iload_n C d_T_renew_11 1 rfl rfl ?_
  refine g_bipush C (v := nI 16) d_T_renew_12 rfl ?_
  refine n_icmp_gt C 43 d_T_renew_14 (by decide) (by omega) (by omega) (fun h14 => ?_) (fun h14 => ?_)
  · refine g_lv (lv' := [(0, .ref a)]) [0] rfl ?_
    have e9 : k = 16 := by omega
    subst e9
    exact K
  · refine g_aload_n C d_T_renew_17 0 rfl rfl ?_
    refine g_dup C d_T_renew_18 rfl ?_
    refine g_get C (T := FT) (N := 6) 0 5 inT rfl rfl (by decide) tw_83 rfl rfl d_T_renew_19 ?_
    refine g_aload_n C d_T_renew_22 0 rfl rfl ?_
    refine g_get C (T := FT) (N := 6) 0 3 inT rfl rfl (by decide) tw_81 rfl rfl d_T_renew_23 ?_
    refine g_iload_n C d_T_renew_26 1 rfl rfl ?_
    refine g_iald C 3 rfl (by omega) (by decide) d_T_renew_27 ?_
    refine g_ldc C (v := nI 65536) tw_138 d_T_renew_28 ?_
    refine g_iload_n C d_T_renew_30 1 rfl rfl ?_
    refine g_ishr C (v := nI (65536 / 2 ^ (k + 1))) d_T_renew_31 (n_shr (by omega) (by omega)) ?_
    refine g_imul C (v := nI (((shr ln 48) (k + 1)) * (65536 / 2 ^ (k + 1)))) d_T_renew_32 (pk_mul _ _) ?_
    refine g_iadd C (v := nI (flp (shr ln 48) k + (((shr ln 48) (k + 1)) * (65536 / 2 ^ (k + 1))))) d_T_renew_33 (nI_add _ _) ?_
    refine g_put C (T := FT) (N := 6) (ws' := [(a, .inr (1, [.int (nI (rl)), .ref al, .ref ac, .ref ah, .ref an, .int (nI (flp (shr ln 48) k + (((shr ln 48) (k + 1)) * (65536 / 2 ^ (k + 1)))))])), (al, .inl (cs.1, 48, .inl (fun j => nI (ln j)))), (ac, .inl (cs.1, 48, .inl (fun j => nI (cn j)))), (ah, .inl (cs.1, 17, .inl (fun j => nI ((shr ln 48) j)))), (an, .inl (cs.1, 17, .inl (fun j => nI (xn j))))]) 0 5 inT tyT okT nmT rfl rfl (by decide) tw_83 rfl rfl rfl rfl rfl (Nat.le_of_ble_eq_true rfl) rfl d_T_renew_34 ?_
    refine g_iinc C (lv' := [(1, .int (nI (k + 1 + 1))), (0, .ref a)]) (k := 1) d_T_renew_37 rfl (nI_1 _) (by decide) rfl ?_
    refine g_goto C 11 d_T_renew_40 (by decide) ?_
    refine g_lv (lv' := [(0, .ref a), (1, .int (nI (k + 1 + 1)))]) [1, 0] rfl ?_
    exact ih (16 - (k + 1)) (by omega) (k + 1) rfl (by omega)
set_option maxHeartbeats 4000000 in
set_option maxRecDepth 100000 in
theorem m_T_renew (l : Launch) (D : va_G) (cs : ClassId × ClassId × ClassId × ClassId) (a al ac ah an rl : Nat) (ln cn sn xn : Nat → Nat) (fl : Nat) (hl : ∀ j, j < 48 → ln j ≤ 16) (hrl : rl < 3) : MG l y_T_renew k_T_renew { frames := 2, cells := 0, slots := 0, locals := 43 } D cs [.ref a] [(a, .inr (1, [.int (nI (rl)), .ref al, .ref ac, .ref ah, .ref an, .int (nI (fl))])), (al, .inl (cs.1, 48, .inl (fun j => nI (ln j)))), (ac, .inl (cs.1, 48, .inl (fun j => nI (cn j)))), (ah, .inl (cs.1, 17, .inl (fun j => nI (sn j)))), (an, .inl (cs.1, 17, .inl (fun j => nI (xn j))))] (QV D [(a, .inr (1, [.int (nI (rl)), .ref al, .ref ac, .ref ah, .ref an, .int (nI (fll ln))])), (al, .inl (cs.1, 48, .inl (fun j => nI (ln j)))), (ac, .inl (cs.1, 48, .inl (fun j => nI ((cN rl ln cn) j)))), (ah, .inl (cs.1, 17, .inl (fun j => nI ((shr ln 48) j)))), (an, .inl (cs.1, 17, .inl (fun j => nI ((xN rl ln xn) j))))]) := by
  refine MG.mk (own := RT) (by decide) rfl (Nat.le_of_ble_eq_true rfl) ?_
  intro p e s m below meth c A C hr hlk
  refine g_lv (lv' := [(0, .ref a)]) [0] rfl ?_
  refine g_aload_n C d_T_renew_0 0 rfl rfl ?_
  refine g_callVv C (n := 0) (ws' := [(a, .inr (1, [.int (nI (rl)), .ref al, .ref ac, .ref ah, .ref an, .int (nI (fl))])), (al, .inl (cs.1, 48, .inl (fun j => nI (ln j)))), (ac, .inl (cs.1, 48, .inl (fun j => nI (cn j)))), (ah, .inl (cs.1, 17, .inl (fun j => nI ((shr (ln) 48) j)))), (an, .inl (cs.1, 17, .inl (fun j => nI (xn j))))]) (As := []) (rest := []) (m_T_countSharing l D cs a al ac ah an (rl) (ln) (cn) (sn) (xn) (fl) hl) tw_177 tw_179 ts_3 tw_4 tw_180 rfl 0 rfl rfl (by decide +kernel) rfl ⟨rfl, rfl, by decide, by decide, by decide⟩ rfl [0, 1, 2, 3, 4] rfl rfl (by decide) (Nat.le_of_ble_eq_true rfl) rfl d_T_renew_1 ?_
  refine g_aload_n C d_T_renew_4 0 rfl rfl ?_
  refine g_iconst C (v := nI 0) d_T_renew_5 rfl ?_
  refine g_put C (T := FT) (N := 6) (ws' := [(a, .inr (1, [.int (nI (rl)), .ref al, .ref ac, .ref ah, .ref an, .int (nI (0))])), (al, .inl (cs.1, 48, .inl (fun j => nI (ln j)))), (ac, .inl (cs.1, 48, .inl (fun j => nI (cn j)))), (ah, .inl (cs.1, 17, .inl (fun j => nI ((shr (ln) 48) j)))), (an, .inl (cs.1, 17, .inl (fun j => nI (xn j))))]) 0 5 inT tyT okT nmT rfl rfl (by decide) tw_83 rfl rfl rfl rfl rfl (Nat.le_of_ble_eq_true rfl) rfl d_T_renew_6 ?_
  refine g_iconst C (v := nI 1) d_T_renew_9 rfl ?_
  refine g_istore_n C (lv' := [(1, .int (nI (1))), (0, .ref a)]) d_T_renew_10 rfl (by decide) rfl ?_
  refine g_lv (lv' := [(0, .ref a), (1, .int (nI (1)))]) [1, 0] rfl ?_
  refine l_T_rn C a al ac ah an rl ln cn xn ?_ _ 0 rfl (by omega)
  refine g_aload_n C d_T_renew_43 0 rfl rfl ?_
  refine g_get C (T := FT) (N := 6) 0 5 inT rfl rfl (by decide) tw_83 rfl rfl d_T_renew_44 ?_
  refine g_ldc C (v := nI 65536) tw_138 d_T_renew_47 ?_
  refine n_icmp_gt C 56 d_T_renew_49 (by decide) (fll_lt ln) (by omega) (fun h49 => ?_) (fun h49 => ?_)
  · exact g_vret C hr hlk (by unfold cN xN; first | rw [if_pos (show fll ln ≤ 65536 by omega), if_pos (show fll ln ≤ 65536 by omega)] | rw [if_neg (show ¬ fll ln ≤ 65536 by omega), if_neg (show ¬ fll ln ≤ 65536 by omega)]) d_T_renew_56
  · refine g_aload_n C d_T_renew_52 0 rfl rfl ?_
    refine g_callVv C (n := 0) (ws' := [(a, .inr (1, [.int (nI (rl)), .ref al, .ref ac, .ref ah, .ref an, .int (nI (fll ln))])), (al, .inl (cs.1, 48, .inl (fun j => nI (ln j)))), (ac, .inl (cs.1, 48, .inl (fun j => nI ((cdG (stc (rl) (shr (ln) 48)) (ln) (cn) (rl) 48) j)))), (ah, .inl (cs.1, 17, .inl (fun j => nI ((shr ln 48) j)))), (an, .inl (cs.1, 17, .inl (fun j => nI ((nxG (if (rl) = 2 then nxL (shr (ln) 48) (xn) 0 else nxS (shr (ln) 48) (xn) 17) (ln) 48) j))))]) (As := []) (rest := []) (m_T_giveCodes l D cs a al ac ah an (rl) (ln) (cn) (xn) (fll ln) hl hrl (by omega)) tw_181 tw_183 ts_4 tw_4 tw_184 rfl 0 rfl rfl (by decide +kernel) rfl ⟨rfl, rfl, by decide, by decide, by decide⟩ rfl [0, 1, 2, 3, 4] rfl rfl (by decide) (Nat.le_of_ble_eq_true rfl) rfl d_T_renew_53 ?_
    exact g_vret C hr hlk (by unfold cN xN; first | rw [if_pos (show fll ln ≤ 65536 by omega), if_pos (show fll ln ≤ 65536 by omega)] | rw [if_neg (show ¬ fll ln ≤ 65536 by omega), if_neg (show ¬ fll ln ≤ 65536 by omega)]) d_T_renew_56
end
section
theorem sbb_none {ln cn : Nat → Nat} {fi nn : Nat} (h : ∀ j, j < 48 → bgP ln cn fi nn j = false) : sbb ln cn fi nn = none := by
  unfold sbb
  rw [List.find?_eq_none]
  intro x hx
  rw [h x (List.mem_range.mp hx)]; simp
theorem find_some {p : Nat → Bool} {n i : Nat} (hi : i < n) (hp : p i = true) (h : ∀ j, j < i → p j = false) : (List.range n).find? p = some i := by
  rw [List.find?_range_eq_some]
  exact ⟨hp, List.mem_range.mpr hi, fun j hj => by rw [h j hj]; rfl⟩

set_option maxHeartbeats 4000000 in
set_option maxRecDepth 100000 in
theorem l_T_sb {p : Program} {l : Launch} {e : Env} {s : State} {m : MethodId} {args : Array Value} {below : List Frame} {meth : Method} {c : Code} {A : Nat → Prop} {D : va_G} {cs : ClassId × ClassId × ClassId × ClassId} (C : CX p s m args c c_T_symbolBegunBy 5 RT D cs A) (a al ac ah an rl : Nat) (ln cn sn xn : Nat → Nat) (fl : Nat) (fi nn : Nat) (hl : ∀ j, j < 48 → ln j ≤ 16) (hc : ∀ j, j < 48 → cn j < 2 ^ 31) (hn1 : nn ≤ 16) (hf : fi < 2 ^ 31) (hr : meth.sig.returnType = some .int) (hlk : meth.locks = false)
    : ∀ (n : Nat) (i : Nat), 48 - i = n → (i ≤ 48) → (∀ j, j < i → bgP ln cn fi nn j = false) → GO p l e { frames := 0, cells := 0, slots := 0, locals := 0 } s m args below meth c 0 0 (MQ below (QI D (oI (sbb ln cn fi nn)) [(a, .inr (1, [.int (nI (rl)), .ref al, .ref ac, .ref ah, .ref an, .int (nI (fl))])), (al, .inl (cs.1, 48, .inl (fun j => nI (ln j)))), (ac, .inl (cs.1, 48, .inl (fun j => nI (cn j)))), (ah, .inl (cs.1, 17, .inl (fun j => nI (sn j)))), (an, .inl (cs.1, 17, .inl (fun j => nI (xn j))))] A) args s 0 0 A) A D 5 2 [(0, .ref a), (1, .int (nI (fi))), (2, .int (nI (nn))), (3, .int (nI (i)))] [] [(a, .inr (1, [.int (nI (rl)), .ref al, .ref ac, .ref ah, .ref an, .int (nI (fl))])), (al, .inl (cs.1, 48, .inl (fun j => nI (ln j)))), (ac, .inl (cs.1, 48, .inl (fun j => nI (cn j)))), (ah, .inl (cs.1, 17, .inl (fun j => nI (sn j)))), (an, .inl (cs.1, 17, .inl (fun j => nI (xn j))))] := by
  intro n
  induction n using Nat.strongRecOn with
  | _ n ih =>
  intro i  hn hi hp
  refine g_iload_n C d_T_symbolBegunBy_2 3 rfl rfl ?_
  refine g_bipush C (v := nI 48) d_T_symbolBegunBy_3 rfl ?_
  refine n_icmp_ge C 44 d_T_symbolBegunBy_5 (by decide) (by omega) (by omega) (fun h5 => ?_) (fun h5 => ?_)
  · refine g_iconst C (v := (-1)) d_T_symbolBegunBy_44 rfl ?_
    exact g_iret C hr hlk (by rw [sbb_none (fun j hj => hp j (by omega))]; rfl) rfl d_T_symbolBegunBy_45
  · refine g_aload_n C d_T_symbolBegunBy_8 0 rfl rfl ?_
    refine g_get C (T := FT) (N := 6) 0 1 inT rfl rfl (by decide) tw_77 rfl rfl d_T_symbolBegunBy_9 ?_
    refine g_iload_n C d_T_symbolBegunBy_12 3 rfl rfl ?_
    refine g_iald C 1 rfl (by omega) (by decide) d_T_symbolBegunBy_13 ?_
    rcases Nat.lt_or_ge (ln i) nn with hb | hb
    · refine g_iload_n C d_T_symbolBegunBy_14 2 rfl rfl ?_
      refine g_isub C (v := nI (ln i) - nI (nn)) d_T_symbolBegunBy_15 rfl ?_
      refine g_istore C (lv' := [(4, .int (nI (ln i) - nI (nn))), (0, .ref a), (1, .int (nI (fi))), (2, .int (nI (nn))), (3, .int (nI (i)))]) d_T_symbolBegunBy_16 (by decide) rfl ?_
      refine g_iload C d_T_symbolBegunBy_18 0 rfl ?_
      refine g_if_lt C 38 d_T_symbolBegunBy_20 (by decide) (fun _ => ?_) (fun h => absurd (pk_sneg (by omega) hb) h)
      refine g_iinc C (lv' := [(3, .int (nI (i + 1))), (4, .int (nI (ln i) - nI (nn))), (0, .ref a), (1, .int (nI (fi))), (2, .int (nI (nn)))]) (k := 4) d_T_symbolBegunBy_38 rfl (nI_1 _) (by decide) rfl ?_
      refine g_goto C 2 d_T_symbolBegunBy_41 (by decide) ?_
      refine g_lv (lv' := [(0, .ref a), (1, .int (nI (fi))), (2, .int (nI (nn))), (3, .int (nI (i + 1)))]) [2, 3, 4, 0] rfl ?_
      exact ih (48 - (i + 1)) (by omega) (i + 1) rfl (by omega) (fun j hj => by
      by_cases e : j = i
      · subst e; unfold bgP; first | (rw [decide_eq_false (show ¬ nn ≤ ln j by omega)]; rfl) | (rw [decide_eq_false h33, Bool.and_false])
      · exact hp j (by omega))
    · refine g_iload_n C d_T_symbolBegunBy_14 2 rfl rfl ?_
      refine g_isub C (v := nI (ln i - nn)) d_T_symbolBegunBy_15 (pk_sub hb) ?_
      refine g_istore C (lv' := [(4, .int (nI (ln i - nn))), (0, .ref a), (1, .int (nI (fi))), (2, .int (nI (nn))), (3, .int (nI (i)))]) d_T_symbolBegunBy_16 (by decide) rfl ?_
      refine g_iload C d_T_symbolBegunBy_18 0 rfl ?_
      refine n_if_lt C 38 d_T_symbolBegunBy_20 (by decide) (by have := hl i (by omega); omega) ?_
      refine g_aload_n C d_T_symbolBegunBy_23 1 rfl rfl ?_
      refine g_get C (T := FT) (N := 6) 0 2 inT rfl rfl (by decide) tw_79 rfl rfl d_T_symbolBegunBy_24 ?_
      refine g_iload_n C d_T_symbolBegunBy_27 4 rfl rfl ?_
      refine g_iald C 2 rfl (by omega) (by decide) d_T_symbolBegunBy_28 ?_
      refine g_iload C d_T_symbolBegunBy_29 0 rfl ?_
      refine g_ishr C (v := nI ((cn (i)) / 2 ^ (ln i - nn))) d_T_symbolBegunBy_31 (n_shr (hc i (by omega)) (by have := hl i (by omega); omega)) ?_
      refine g_iload_n C d_T_symbolBegunBy_32 2 rfl rfl ?_
      refine n_icmp_ne C 38 d_T_symbolBegunBy_33 (by decide) (Nat.lt_of_le_of_lt (Nat.div_le_self _ _) (hc i (by omega))) hf (fun h33 => ?_) (fun h33 => ?_)
      · refine g_iinc C (lv' := [(3, .int (nI (i + 1))), (4, .int (nI (ln i - nn))), (0, .ref a), (1, .int (nI (fi))), (2, .int (nI (nn)))]) (k := 4) d_T_symbolBegunBy_38 rfl (nI_1 _) (by decide) rfl ?_
        refine g_goto C 2 d_T_symbolBegunBy_41 (by decide) ?_
        refine g_lv (lv' := [(0, .ref a), (1, .int (nI (fi))), (2, .int (nI (nn))), (3, .int (nI (i + 1)))]) [2, 3, 4, 0] rfl ?_
        exact ih (48 - (i + 1)) (by omega) (i + 1) rfl (by omega) (fun j hj => by
      by_cases e : j = i
      · subst e; unfold bgP; first | (rw [decide_eq_false (show ¬ nn ≤ ln j by omega)]; rfl) | (rw [decide_eq_false h33, Bool.and_false])
      · exact hp j (by omega))
      · refine g_iload_n C d_T_symbolBegunBy_36 4 rfl rfl ?_
        exact g_iret C hr hlk (by
      have e9 : sbb ln cn fi nn = some i := find_some (by omega) (by unfold bgP; rw [decide_eq_true hb, decide_eq_true h33]; rfl) hp
      rw [e9]; rfl) rfl d_T_symbolBegunBy_37
set_option maxHeartbeats 4000000 in
set_option maxRecDepth 100000 in
theorem m_T_symbolBegunBy (l : Launch) (D : va_G) (cs : ClassId × ClassId × ClassId × ClassId) (a al ac ah an rl : Nat) (ln cn sn xn : Nat → Nat) (fl : Nat) (fi nn : Nat) (hl : ∀ j, j < 48 → ln j ≤ 16) (hc : ∀ j, j < 48 → cn j < 2 ^ 31) (hn1 : nn ≤ 16) (hf : fi < 2 ^ 31) : MG l y_T_symbolBegunBy k_T_symbolBegunBy { frames := 0, cells := 0, slots := 0, locals := 0 } D cs [.ref a, .int (nI (fi)), .int (nI (nn))] [(a, .inr (1, [.int (nI (rl)), .ref al, .ref ac, .ref ah, .ref an, .int (nI (fl))])), (al, .inl (cs.1, 48, .inl (fun j => nI (ln j)))), (ac, .inl (cs.1, 48, .inl (fun j => nI (cn j)))), (ah, .inl (cs.1, 17, .inl (fun j => nI (sn j)))), (an, .inl (cs.1, 17, .inl (fun j => nI (xn j))))] (QI D (oI (sbb ln cn fi nn)) [(a, .inr (1, [.int (nI (rl)), .ref al, .ref ac, .ref ah, .ref an, .int (nI (fl))])), (al, .inl (cs.1, 48, .inl (fun j => nI (ln j)))), (ac, .inl (cs.1, 48, .inl (fun j => nI (cn j)))), (ah, .inl (cs.1, 17, .inl (fun j => nI (sn j)))), (an, .inl (cs.1, 17, .inl (fun j => nI (xn j))))]) := by
  refine MG.mk (own := RT) (by decide) rfl (Nat.le_of_ble_eq_true rfl) ?_
  intro p e s m below meth c A C hr hlk
  refine g_lv (lv' := [(0, .ref a), (1, .int (nI (fi))), (2, .int (nI (nn)))]) [0, 1, 2] rfl ?_
  refine g_iconst C (v := nI 0) d_T_symbolBegunBy_0 rfl ?_
  refine g_istore_n C (lv' := [(3, .int (nI (0))), (0, .ref a), (1, .int (nI (fi))), (2, .int (nI (nn)))]) d_T_symbolBegunBy_1 rfl (by decide) rfl ?_
  refine g_lv (lv' := [(0, .ref a), (1, .int (nI (fi))), (2, .int (nI (nn))), (3, .int (nI (0)))]) [1, 2, 3, 0] rfl ?_
  exact l_T_sb C a al ac ah an rl ln cn sn xn fl fi nn hl hc hn1 hf hr hlk _ 0 rfl (by omega) (fun j hj => absurd hj (by omega))
set_option maxHeartbeats 4000000 in
set_option maxRecDepth 100000 in
theorem l_T_el {p : Program} {l : Launch} {e : Env} {s : State} {m : MethodId} {args : Array Value} {below : List Frame} {meth : Method} {c : Code} {A : Nat → Prop} {D : va_G} {cs : ClassId × ClassId × ClassId × ClassId} (C : CX p s m args c c_T_endOfLengths 2 RT D cs A) (a al ac ah an rl : Nat) (ln cn sn xn : Nat → Nat) (fl : Nat) (hl : ∀ j, j < 48 → ln j ≤ 16) (hr : meth.sig.returnType = some .int) (hlk : meth.locks = false)
    : ∀ (n : Nat) (k : Nat), k = n → (k ≤ 48) → (eol ln 48 = eol ln k) → GO p l e { frames := 0, cells := 0, slots := 0, locals := 0 } s m args below meth c 0 0 (MQ below (QI D (nI (eol ln 48)) [(a, .inr (1, [.int (nI (rl)), .ref al, .ref ac, .ref ah, .ref an, .int (nI (fl))])), (al, .inl (cs.1, 48, .inl (fun j => nI (ln j)))), (ac, .inl (cs.1, 48, .inl (fun j => nI (cn j)))), (ah, .inl (cs.1, 17, .inl (fun j => nI (sn j)))), (an, .inl (cs.1, 17, .inl (fun j => nI (xn j))))] A) args s 0 0 A) A D 2 3 [(0, .ref a), (1, .int (nI (k)))] [] [(a, .inr (1, [.int (nI (rl)), .ref al, .ref ac, .ref ah, .ref an, .int (nI (fl))])), (al, .inl (cs.1, 48, .inl (fun j => nI (ln j)))), (ac, .inl (cs.1, 48, .inl (fun j => nI (cn j)))), (ah, .inl (cs.1, 17, .inl (fun j => nI (sn j)))), (an, .inl (cs.1, 17, .inl (fun j => nI (xn j))))] := by
  intro n
  induction n using Nat.strongRecOn with
  | _ n ih =>
  intro k  hn hk he
  refine g_iload_n C d_T_endOfLengths_3 1 rfl rfl ?_
  refine n_if_le C 24 d_T_endOfLengths_4 (by decide) (by omega) (fun h4 => ?_) (fun h4 => ?_)
  · refine g_iload_n C d_T_endOfLengths_24 1 rfl rfl ?_
    exact g_iret C hr hlk (congrArg nI (by
      rw [he]
      first | (subst h4; rfl) | (obtain ⟨k9, rfl⟩ : ∃ k9, k = k9 + 1 := ⟨k - 1, by omega⟩; simp only [Nat.add_sub_cancel] at h15; rw [eol, if_neg (by omega)]))) rfl d_T_endOfLengths_25
  · refine g_aload_n C d_T_endOfLengths_7 0 rfl rfl ?_
    refine g_get C (T := FT) (N := 6) 0 1 inT rfl rfl (by decide) tw_77 rfl rfl d_T_endOfLengths_8 ?_
    refine g_iload_n C d_T_endOfLengths_11 1 rfl rfl ?_
    refine g_iconst C (v := nI 1) d_T_endOfLengths_12 rfl ?_
    refine g_isub C (v := nI ((k) - (1))) d_T_endOfLengths_13 (pk_sub (by omega)) ?_
    refine g_iald C 1 rfl (by omega) (by decide) d_T_endOfLengths_14 ?_
    refine n_if_ne C 24 d_T_endOfLengths_15 (by decide) (by have := hl (k - 1) (by omega); omega) (fun h15 => ?_) (fun h15 => ?_)
    · refine g_iload_n C d_T_endOfLengths_24 1 rfl rfl ?_
      exact g_iret C hr hlk (congrArg nI (by
      rw [he]
      first | (subst h4; rfl) | (obtain ⟨k9, rfl⟩ : ∃ k9, k = k9 + 1 := ⟨k - 1, by omega⟩; simp only [Nat.add_sub_cancel] at h15; rw [eol, if_neg (by omega)]))) rfl d_T_endOfLengths_25
    · refine g_iinc C (lv' := [(1, .int (nI (k - 1))), (0, .ref a)]) (k := 1) d_T_endOfLengths_18 rfl (nI_dec (by omega)) (by decide) rfl ?_
      refine g_goto C 3 d_T_endOfLengths_21 (by decide) ?_
      refine g_lv (lv' := [(0, .ref a), (1, .int (nI (k - 1)))]) [1, 0] rfl ?_
      exact ih (k - 1) (by omega) (k - 1) rfl (by omega) (by
      rw [he]
      obtain ⟨k9, rfl⟩ : ∃ k9, k = k9 + 1 := ⟨k - 1, by omega⟩
      simp only [Nat.add_sub_cancel] at h15 ⊢
      rw [eol, if_pos h15])
set_option maxHeartbeats 4000000 in
set_option maxRecDepth 100000 in
theorem m_T_endOfLengths (l : Launch) (D : va_G) (cs : ClassId × ClassId × ClassId × ClassId) (a al ac ah an rl : Nat) (ln cn sn xn : Nat → Nat) (fl : Nat) (hl : ∀ j, j < 48 → ln j ≤ 16) : MG l y_T_endOfLengths k_T_endOfLengths { frames := 0, cells := 0, slots := 0, locals := 0 } D cs [.ref a] [(a, .inr (1, [.int (nI (rl)), .ref al, .ref ac, .ref ah, .ref an, .int (nI (fl))])), (al, .inl (cs.1, 48, .inl (fun j => nI (ln j)))), (ac, .inl (cs.1, 48, .inl (fun j => nI (cn j)))), (ah, .inl (cs.1, 17, .inl (fun j => nI (sn j)))), (an, .inl (cs.1, 17, .inl (fun j => nI (xn j))))] (QI D (nI (eol ln 48)) [(a, .inr (1, [.int (nI (rl)), .ref al, .ref ac, .ref ah, .ref an, .int (nI (fl))])), (al, .inl (cs.1, 48, .inl (fun j => nI (ln j)))), (ac, .inl (cs.1, 48, .inl (fun j => nI (cn j)))), (ah, .inl (cs.1, 17, .inl (fun j => nI (sn j)))), (an, .inl (cs.1, 17, .inl (fun j => nI (xn j))))]) := by
  refine MG.mk (own := RT) (by decide) rfl (Nat.le_of_ble_eq_true rfl) ?_
  intro p e s m below meth c A C hr hlk
  refine g_lv (lv' := [(0, .ref a)]) [0] rfl ?_
  refine g_bipush C (v := nI 48) d_T_endOfLengths_0 rfl ?_
  refine g_istore_n C (lv' := [(1, .int (nI (48))), (0, .ref a)]) d_T_endOfLengths_2 rfl (by decide) rfl ?_
  refine g_lv (lv' := [(0, .ref a), (1, .int (nI (48)))]) [1, 0] rfl ?_
  exact l_T_el C a al ac ah an rl ln cn sn xn fl hl hr hlk _ 48 rfl (by omega) rfl
set_option maxHeartbeats 4000000 in
set_option maxRecDepth 100000 in
theorem l_T_ro {p : Program} {l : Launch} {e : Env} {s : State} {m : MethodId} {args : Array Value} {below : List Frame} {meth : Method} {c : Code} {A : Nat → Prop} {D : va_G} {cs : ClassId × ClassId × ClassId × ClassId} (C : CX p s m args c c_T_runOf 5 RT D cs A) (a al ac ah an rl : Nat) (ln cn sn xn : Nat → Nat) (fl : Nat) (L fr en : Nat) (hl : ∀ j, j < 48 → ln j ≤ 16) (hL : L < 2 ^ 31) (hen : en ≤ 48) (hfr : fr ≤ en) (hr : meth.sig.returnType = some .int) (hlk : meth.locks = false)
    : ∀ (n : Nat) (k : Nat), en - k = n → (k ≤ en) → (fr ≤ k) → (rnf ln L (en - fr) fr = (k - fr) + rnf ln L (en - k) k) → GO p l e { frames := 0, cells := 0, slots := 0, locals := 0 } s m args below meth c 0 0 (MQ below (QI D (nI (rnf ln L (en - fr) fr)) [(a, .inr (1, [.int (nI (rl)), .ref al, .ref ac, .ref ah, .ref an, .int (nI (fl))])), (al, .inl (cs.1, 48, .inl (fun j => nI (ln j)))), (ac, .inl (cs.1, 48, .inl (fun j => nI (cn j)))), (ah, .inl (cs.1, 17, .inl (fun j => nI (sn j)))), (an, .inl (cs.1, 17, .inl (fun j => nI (xn j))))] A) args s 0 0 A) A D 5 3 [(0, .ref a), (1, .int (nI (L))), (2, .int (nI (fr))), (3, .int (nI (en))), (4, .int (nI (k)))] [] [(a, .inr (1, [.int (nI (rl)), .ref al, .ref ac, .ref ah, .ref an, .int (nI (fl))])), (al, .inl (cs.1, 48, .inl (fun j => nI (ln j)))), (ac, .inl (cs.1, 48, .inl (fun j => nI (cn j)))), (ah, .inl (cs.1, 17, .inl (fun j => nI (sn j)))), (an, .inl (cs.1, 17, .inl (fun j => nI (xn j))))] := by
  intro n
  induction n using Nat.strongRecOn with
  | _ n ih =>
  intro k  hn hk hk2 he
  refine g_iload C d_T_runOf_3 4 rfl ?_
  refine g_iload_n C d_T_runOf_5 3 rfl rfl ?_
  refine n_icmp_ge C 26 d_T_runOf_6 (by decide) (by omega) (by omega) (fun h6 => ?_) (fun h6 => ?_)
  · refine g_iload C d_T_runOf_26 4 rfl ?_
    refine g_iload_n C d_T_runOf_28 2 rfl rfl ?_
    refine g_isub C (v := nI ((k) - (fr))) d_T_runOf_29 (pk_sub (by omega)) ?_
    exact g_iret C hr hlk (congrArg nI (by
      rw [he]
      first | (have e9 : en - k = 0 := by omega
               rw [e9]; rfl) | (rw [rnf_stop ln L (by omega) h17]; rfl))) rfl d_T_runOf_30
  · refine g_aload_n C d_T_runOf_9 0 rfl rfl ?_
    refine g_get C (T := FT) (N := 6) 0 1 inT rfl rfl (by decide) tw_77 rfl rfl d_T_runOf_10 ?_
    refine g_iload C d_T_runOf_13 4 rfl ?_
    refine g_iald C 1 rfl (by omega) (by decide) d_T_runOf_15 ?_
    refine g_iload_n C d_T_runOf_16 1 rfl rfl ?_
    refine n_icmp_ne C 26 d_T_runOf_17 (by decide) (by have := hl k (by omega); omega) hL (fun h17 => ?_) (fun h17 => ?_)
    · refine g_iload C d_T_runOf_26 4 rfl ?_
      refine g_iload_n C d_T_runOf_28 2 rfl rfl ?_
      refine g_isub C (v := nI ((k) - (fr))) d_T_runOf_29 (pk_sub (by omega)) ?_
      exact g_iret C hr hlk (congrArg nI (by
      rw [he]
      first | (have e9 : en - k = 0 := by omega
               rw [e9]; rfl) | (rw [rnf_stop ln L (by omega) h17]; rfl))) rfl d_T_runOf_30
    · refine g_iinc C (lv' := [(4, .int (nI (k + 1))), (0, .ref a), (1, .int (nI (L))), (2, .int (nI (fr))), (3, .int (nI (en)))]) (k := 4) d_T_runOf_20 rfl (nI_1 _) (by decide) rfl ?_
      refine g_goto C 3 d_T_runOf_23 (by decide) ?_
      refine g_lv (lv' := [(0, .ref a), (1, .int (nI (L))), (2, .int (nI (fr))), (3, .int (nI (en))), (4, .int (nI (k + 1)))]) [1, 2, 3, 4, 0] rfl ?_
      exact ih (en - (k + 1)) (by omega) (k + 1) rfl (by omega) (by omega) (by rw [he, rnf_step ln L (by omega) h17]; omega)
set_option maxHeartbeats 4000000 in
set_option maxRecDepth 100000 in
theorem m_T_runOf (l : Launch) (D : va_G) (cs : ClassId × ClassId × ClassId × ClassId) (a al ac ah an rl : Nat) (ln cn sn xn : Nat → Nat) (fl : Nat) (L fr en : Nat) (hl : ∀ j, j < 48 → ln j ≤ 16) (hL : L < 2 ^ 31) (hen : en ≤ 48) (hfr : fr ≤ en) : MG l y_T_runOf k_T_runOf { frames := 0, cells := 0, slots := 0, locals := 0 } D cs [.ref a, .int (nI (L)), .int (nI (fr)), .int (nI (en))] [(a, .inr (1, [.int (nI (rl)), .ref al, .ref ac, .ref ah, .ref an, .int (nI (fl))])), (al, .inl (cs.1, 48, .inl (fun j => nI (ln j)))), (ac, .inl (cs.1, 48, .inl (fun j => nI (cn j)))), (ah, .inl (cs.1, 17, .inl (fun j => nI (sn j)))), (an, .inl (cs.1, 17, .inl (fun j => nI (xn j))))] (QI D (nI (rnf ln L (en - fr) fr)) [(a, .inr (1, [.int (nI (rl)), .ref al, .ref ac, .ref ah, .ref an, .int (nI (fl))])), (al, .inl (cs.1, 48, .inl (fun j => nI (ln j)))), (ac, .inl (cs.1, 48, .inl (fun j => nI (cn j)))), (ah, .inl (cs.1, 17, .inl (fun j => nI (sn j)))), (an, .inl (cs.1, 17, .inl (fun j => nI (xn j))))]) := by
  refine MG.mk (own := RT) (by decide) rfl (Nat.le_of_ble_eq_true rfl) ?_
  intro p e s m below meth c A C hr hlk
  refine g_lv (lv' := [(0, .ref a), (1, .int (nI (L))), (2, .int (nI (fr))), (3, .int (nI (en)))]) [0, 1, 2, 3] rfl ?_
  refine g_iload_n C d_T_runOf_0 2 rfl rfl ?_
  refine g_istore C (lv' := [(4, .int (nI (fr))), (0, .ref a), (1, .int (nI (L))), (2, .int (nI (fr))), (3, .int (nI (en)))]) d_T_runOf_1 (by decide) rfl ?_
  refine g_lv (lv' := [(0, .ref a), (1, .int (nI (L))), (2, .int (nI (fr))), (3, .int (nI (en))), (4, .int (nI (fr)))]) [1, 2, 3, 4, 0] rfl ?_
  exact l_T_ro C a al ac ah an rl ln cn sn xn fl L fr en hl hL hen hfr hr hlk _ fr rfl hfr (by omega) (by omega)
end
section
/-- n bits behind the first bh ones, as a number -/
def nmb (rb : Nat → Nat) (st bh : Nat) : Nat → Nat
  | 0 => 0
  | k + 1 => 2 * nmb rb st bh k + rb ((st + (bh + k)) % 400)

set_option maxHeartbeats 4000000 in
set_option maxRecDepth 100000 in
theorem m_G_append (l : Launch) (D : va_G) (cs : ClassId × ClassId × ClassId × ClassId) (g gr : Nat) (rb : Nat → Nat) (st sz : Nat) (bt : Nat) (hs : st < 400) (hz : sz ≤ 400) : MG l y_G_append k_G_append { frames := 0, cells := 0, slots := 0, locals := 0 } D cs [.ref g, .int (nI (bt))] [(g, .inr (2, [.ref gr, .int (nI (st)), .int (nI (sz))])), (gr, .inl (cs.1, 400, .inl (fun j => nI (rb j))))] (QI D (nI (if sz < 400 then 1 else 0)) [(g, .inr (2, [.ref gr, .int (nI (st)), .int (nI (if sz < 400 then sz + 1 else sz))])), (gr, .inl (cs.1, 400, .inl (fun j => nI ((if sz < 400 then updN rb ((st + sz) % 400) bt else rb) j))))]) := by
  refine MG.mk (own := RG) (by decide) rfl (Nat.le_of_ble_eq_true rfl) ?_
  intro p e s m below meth c A C hr hlk
  refine g_lv (lv' := [(0, .ref g), (1, .int (nI (bt)))]) [0, 1] rfl ?_
  refine g_aload_n C d_G_append_0 0 rfl rfl ?_
  refine g_get C (T := FG) (N := 3) 0 2 inG rfl rfl (by decide) tw_58 rfl rfl d_G_append_1 ?_
  refine g_sipush C (v := nI 400) d_G_append_4 rfl ?_
  refine n_icmp_lt C 12 d_G_append_7 (by decide) (by omega) (by omega) (fun h7 => ?_) (fun h7 => ?_)
  · refine g_aload_n C d_G_append_12 0 rfl rfl ?_
    refine g_get C (T := FG) (N := 3) 0 0 inG rfl rfl (by decide) tw_56 rfl rfl d_G_append_13 ?_
    refine g_aload_n C d_G_append_16 0 rfl rfl ?_
    refine g_get C (T := FG) (N := 3) 0 1 inG rfl rfl (by decide) tw_57 rfl rfl d_G_append_17 ?_
    refine g_aload_n C d_G_append_20 0 rfl rfl ?_
    refine g_get C (T := FG) (N := 3) 0 2 inG rfl rfl (by decide) tw_58 rfl rfl d_G_append_21 ?_
    refine g_iadd C (v := nI (st + sz)) d_G_append_24 (nI_add _ _) ?_
    refine g_sipush C (v := nI 400) d_G_append_25 rfl ?_
    refine g_irem C (v := nI ((st + sz) % (400))) d_G_append_28 (nI_ne0 (by omega) (by omega)) (pk_rem (by omega) (by omega) (by omega)) ?_
    refine g_iload_n C d_G_append_29 1 rfl rfl ?_
    refine n_iast C (ws' := [(g, .inr (2, [.ref gr, .int (nI (st)), .int (nI (sz))])), (gr, .inl (cs.1, 400, .inl (fun j => nI ((updN (rb) ((st + sz) % (400)) (bt)) j))))]) 1 rfl (by omega) (by decide) rfl d_G_append_30 ?_
    refine g_aload_n C d_G_append_31 0 rfl rfl ?_
    refine g_dup C d_G_append_32 rfl ?_
    refine g_get C (T := FG) (N := 3) 0 2 inG rfl rfl (by decide) tw_58 rfl rfl d_G_append_33 ?_
    refine g_iconst C (v := nI 1) d_G_append_36 rfl ?_
    refine g_iadd C (v := nI (sz + 1)) d_G_append_37 (nI_add _ _) ?_
    refine g_put C (T := FG) (N := 3) (ws' := [(g, .inr (2, [.ref gr, .int (nI (st)), .int (nI (sz + 1))])), (gr, .inl (cs.1, 400, .inl (fun j => nI ((updN (rb) ((st + sz) % (400)) (bt)) j))))]) 0 2 inG tyG okG nmG rfl rfl (by decide) tw_58 rfl rfl rfl rfl rfl (Nat.le_of_ble_eq_true rfl) rfl d_G_append_38 ?_
    refine g_iconst C (v := nI 1) d_G_append_41 rfl ?_
    exact g_zret C hr hlk rfl (by first | rw [if_pos (show sz < 400 by omega)] | rw [if_neg (show ¬ sz < 400 by omega)]) (by first | rw [if_pos (show sz < 400 by omega), if_pos (show sz < 400 by omega)] | rw [if_neg (show ¬ sz < 400 by omega), if_neg (show ¬ sz < 400 by omega)]) d_G_append_42
  · refine g_iconst C (v := nI 0) d_G_append_10 rfl ?_
    exact g_zret C hr hlk rfl (by first | rw [if_pos (show sz < 400 by omega)] | rw [if_neg (show ¬ sz < 400 by omega)]) (by first | rw [if_pos (show sz < 400 by omega), if_pos (show sz < 400 by omega)] | rw [if_neg (show ¬ sz < 400 by omega), if_neg (show ¬ sz < 400 by omega)]) d_G_append_11
set_option maxHeartbeats 4000000 in
set_option maxRecDepth 100000 in
theorem l_G_nb {p : Program} {l : Launch} {e : Env} {s : State} {m : MethodId} {args : Array Value} {below : List Frame} {meth : Method} {c : Code} {A : Nat → Prop} {D : va_G} {cs : ClassId × ClassId × ClassId × ClassId} (C : CX p s m args c c_G_number 6 RG D cs A) (g gr : Nat) (rb : Nat → Nat) (st sz : Nat) (bh nn : Nat) (hs : st < 400) (hb : ∀ j, j < 400 → rb j < 2) (hn9 : bh + nn ≤ 400) (hr : meth.sig.returnType = some .long) (hlk : meth.locks = false)
    : ∀ (n : Nat) (k : Nat), nn - k = n → (k ≤ nn) → GO p l e { frames := 0, cells := 0, slots := 0, locals := 0 } s m args below meth c 0 0 (MQ below (QL D (lN (nmb rb st bh nn)) [(g, .inr (2, [.ref gr, .int (nI (st)), .int (nI (sz))])), (gr, .inl (cs.1, 400, .inl (fun j => nI (rb j))))] A) args s 0 0 A) A D 6 5 [(0, .ref g), (1, .int (nI (bh))), (2, .int (nI (nn))), (3, .long (lN (nmb rb st bh k))), (5, .int (nI (bh + k)))] [] [(g, .inr (2, [.ref gr, .int (nI (st)), .int (nI (sz))])), (gr, .inl (cs.1, 400, .inl (fun j => nI (rb j))))] := by
  intro n
  induction n using Nat.strongRecOn with
  | _ n ih =>
  intro k  hn hk
  refine g_iload C d_G_number_5 4 rfl ?_
  refine g_iload_n C d_G_number_7 1 rfl rfl ?_
  refine g_iload_n C d_G_number_8 2 rfl rfl ?_
  refine g_iadd C (v := nI (bh + nn)) d_G_number_9 (nI_add _ _) ?_
  refine n_icmp_ge C 43 d_G_number_10 (by decide) (by omega) (by omega) (fun h10 => ?_) (fun h10 => ?_)
  · refine g_lload_n C d_G_number_43 3 rfl rfl ?_
    exact g_lret C hr hlk (by rw [show k = nn by omega]) rfl d_G_number_44
  · refine g_ldc2 C (v := lN 2) tw_410 d_G_number_13 ?_
    refine g_lload_n C d_G_number_16 3 rfl rfl ?_
    refine g_lmul C (v := lN ((2) * (nmb rb st bh k))) d_G_number_17 (lN_mul _ _) ?_
    refine g_aload_n C d_G_number_18 0 rfl rfl ?_
    refine g_get C (T := FG) (N := 3) 0 0 inG rfl rfl (by decide) tw_56 rfl rfl d_G_number_19 ?_
    refine g_aload_n C d_G_number_22 0 rfl rfl ?_
    refine g_get C (T := FG) (N := 3) 0 1 inG rfl rfl (by decide) tw_57 rfl rfl d_G_number_23 ?_
    refine g_iload C d_G_number_26 4 rfl ?_
    refine g_iadd C (v := nI (st + (bh + k))) d_G_number_28 (nI_add _ _) ?_
    refine g_sipush C (v := nI 400) d_G_number_29 rfl ?_
    refine g_irem C (v := nI ((st + (bh + k)) % (400))) d_G_number_32 (nI_ne0 (by omega) (by omega)) (pk_rem (by omega) (by omega) (by omega)) ?_
    refine g_iald C 1 rfl (Nat.mod_lt _ (by omega)) (by decide) d_G_number_33 ?_
    refine g_i2l C (v := lN (rb ((st + (bh + k)) % (400)))) d_G_number_34 (nI_l (by have := hb ((st + (bh + k)) % 400) (Nat.mod_lt _ (by omega)); omega)) ?_
    refine g_ladd C (v := lN ((2) * (nmb rb st bh k) + (rb ((st + (bh + k)) % (400))))) d_G_number_35 (lN_add _ _) ?_
    refine g_lstore_n C (lv' := [(3, .long (lN ((2) * (nmb rb st bh k) + (rb ((st + (bh + k)) % (400)))))), (0, .ref g), (1, .int (nI (bh))), (2, .int (nI (nn))), (5, .int (nI (bh + k)))]) d_G_number_36 rfl (by decide) rfl ?_
    refine g_iinc C (lv' := [(5, .int (nI (bh + k + 1))), (3, .long (lN ((2) * (nmb rb st bh k) + (rb ((st + (bh + k)) % (400)))))), (0, .ref g), (1, .int (nI (bh))), (2, .int (nI (nn)))]) (k := 4) d_G_number_37 rfl (nI_1 _) (by decide) rfl ?_
    refine g_goto C 5 d_G_number_40 (by decide) ?_
    refine g_lv (lv' := [(0, .ref g), (1, .int (nI (bh))), (2, .int (nI (nn))), (3, .long (lN ((2) * (nmb rb st bh k) + (rb ((st + (bh + k)) % (400)))))), (5, .int (nI (bh + k + 1)))]) [2, 3, 4, 1, 0] rfl ?_
    exact ih (nn - (k + 1)) (by omega) (k + 1) rfl (by omega)
set_option maxHeartbeats 4000000 in
set_option maxRecDepth 100000 in
theorem m_G_number (l : Launch) (D : va_G) (cs : ClassId × ClassId × ClassId × ClassId) (g gr : Nat) (rb : Nat → Nat) (st sz : Nat) (bh nn : Nat) (hs : st < 400) (hb : ∀ j, j < 400 → rb j < 2) (hn9 : bh + nn ≤ 400) : MG l y_G_number k_G_number { frames := 0, cells := 0, slots := 0, locals := 0 } D cs [.ref g, .int (nI (bh)), .int (nI (nn))] [(g, .inr (2, [.ref gr, .int (nI (st)), .int (nI (sz))])), (gr, .inl (cs.1, 400, .inl (fun j => nI (rb j))))] (QL D (lN (nmb rb st bh nn)) [(g, .inr (2, [.ref gr, .int (nI (st)), .int (nI (sz))])), (gr, .inl (cs.1, 400, .inl (fun j => nI (rb j))))]) := by
  refine MG.mk (own := RG) (by decide) rfl (Nat.le_of_ble_eq_true rfl) ?_
  intro p e s m below meth c A C hr hlk
  refine g_lv (lv' := [(0, .ref g), (1, .int (nI (bh))), (2, .int (nI (nn)))]) [0, 1, 2] rfl ?_
  refine g_lconst C (v := lN 0) d_G_number_0 rfl ?_
  refine g_lstore_n C (lv' := [(3, .long (lN (0))), (0, .ref g), (1, .int (nI (bh))), (2, .int (nI (nn)))]) d_G_number_1 rfl (by decide) rfl ?_
  refine g_iload_n C d_G_number_2 2 rfl rfl ?_
  refine g_istore C (lv' := [(5, .int (nI (bh))), (3, .long (lN (0))), (0, .ref g), (1, .int (nI (bh))), (2, .int (nI (nn)))]) d_G_number_3 (by decide) rfl ?_
  refine g_lv (lv' := [(0, .ref g), (1, .int (nI (bh))), (2, .int (nI (nn))), (3, .long (lN (0))), (5, .int (nI (bh)))]) [2, 3, 4, 1, 0] rfl ?_
  exact l_G_nb C g gr rb st sz bh nn hs hb hn9 hr hlk _ 0 rfl (by omega)
set_option maxHeartbeats 4000000 in
set_option maxRecDepth 100000 in
theorem m_G_drop (l : Launch) (D : va_G) (cs : ClassId × ClassId × ClassId × ClassId) (g gr : Nat) (rb : Nat → Nat) (st sz : Nat) (nn : Nat) (hs : st < 400) (hz : sz ≤ 400) (hn9 : nn ≤ sz) : MG l y_G_drop k_G_drop { frames := 0, cells := 0, slots := 0, locals := 0 } D cs [.ref g, .int (nI (nn))] [(g, .inr (2, [.ref gr, .int (nI (st)), .int (nI (sz))])), (gr, .inl (cs.1, 400, .inl (fun j => nI (rb j))))] (QV D [(g, .inr (2, [.ref gr, .int (nI ((st + nn) % 400)), .int (nI (sz - nn))])), (gr, .inl (cs.1, 400, .inl (fun j => nI (rb j))))]) := by
  refine MG.mk (own := RG) (by decide) rfl (Nat.le_of_ble_eq_true rfl) ?_
  intro p e s m below meth c A C hr hlk
  refine g_lv (lv' := [(0, .ref g), (1, .int (nI (nn)))]) [0, 1] rfl ?_
  refine g_aload_n C d_G_drop_0 0 rfl rfl ?_
  refine g_aload_n C d_G_drop_1 0 rfl rfl ?_
  refine g_get C (T := FG) (N := 3) 0 1 inG rfl rfl (by decide) tw_57 rfl rfl d_G_drop_2 ?_
  refine g_iload_n C d_G_drop_5 1 rfl rfl ?_
  refine g_iadd C (v := nI (st + nn)) d_G_drop_6 (nI_add _ _) ?_
  refine g_sipush C (v := nI 400) d_G_drop_7 rfl ?_
  refine g_irem C (v := nI ((st + nn) % (400))) d_G_drop_10 (nI_ne0 (by omega) (by omega)) (pk_rem (by omega) (by omega) (by omega)) ?_
  refine g_put C (T := FG) (N := 3) (ws' := [(g, .inr (2, [.ref gr, .int (nI ((st + nn) % (400))), .int (nI (sz))])), (gr, .inl (cs.1, 400, .inl (fun j => nI (rb j))))]) 0 1 inG tyG okG nmG rfl rfl (by decide) tw_57 rfl rfl rfl rfl rfl (Nat.le_of_ble_eq_true rfl) rfl d_G_drop_11 ?_
  refine g_aload_n C d_G_drop_14 0 rfl rfl ?_
  refine g_dup C d_G_drop_15 rfl ?_
  refine g_get C (T := FG) (N := 3) 0 2 inG rfl rfl (by decide) tw_58 rfl rfl d_G_drop_16 ?_
  refine g_iload_n C d_G_drop_19 1 rfl rfl ?_
  refine g_isub C (v := nI ((sz) - (nn))) d_G_drop_20 (pk_sub (by omega)) ?_
  refine g_put C (T := FG) (N := 3) (ws' := [(g, .inr (2, [.ref gr, .int (nI ((st + nn) % (400))), .int (nI ((sz) - (nn)))])), (gr, .inl (cs.1, 400, .inl (fun j => nI (rb j))))]) 0 2 inG tyG okG nmG rfl rfl (by decide) tw_58 rfl rfl rfl rfl rfl (Nat.le_of_ble_eq_true rfl) rfl d_G_drop_21 ?_
  exact g_vret C hr hlk rfl d_G_drop_24
end
section
set_option maxHeartbeats 4000000 in
set_option maxRecDepth 100000 in
theorem m_B_check (l : Launch) (D : va_G) (cs : ClassId × ClassId × ClassId × ClassId) (b k bc bl bx a al ac ah an g gr : Nat) (ct : Nat → Nat) (lo ex : Nat → Int32) (wr : Nat) (lv9 : Int64) (rl : Nat) (ln cn sn xn : Nat → Nat) (fl : Nat) (rb : Nat → Nat) (st sz : Nat) (hf : fl < 2 ^ 31) : MG l y_B_check k_B_check { frames := 1, cells := 0, slots := 0, locals := 20 } D cs [.ref b] [(b, .inr (3, [.ref a, .ref k, .ref g, .ref bc, .ref bl, .ref bx, .int (nI (wr)), .long (lv9)])), (bc, .inl (cs.2.1, 48, .inr (.inl (fun j => lN (ct j))))), (bl, .inl (cs.1, 48, .inl (lo))), (bx, .inl (cs.1, 48, .inl (ex))), (a, .inr (1, [.int (nI (rl)), .ref al, .ref ac, .ref ah, .ref an, .int (nI (fl))])), (al, .inl (cs.1, 48, .inl (fun j => nI (ln j)))), (ac, .inl (cs.1, 48, .inl (fun j => nI (cn j)))), (ah, .inl (cs.1, 17, .inl (fun j => nI (sn j)))), (an, .inl (cs.1, 17, .inl (fun j => nI (xn j)))), (g, .inr (2, [.ref gr, .int (nI (st)), .int (nI (sz))])), (gr, .inl (cs.1, 400, .inl (fun j => nI (rb j))))] (QI D (nI (stt fl)) [(b, .inr (3, [.ref a, .ref k, .ref g, .ref bc, .ref bl, .ref bx, .int (nI (wr)), .long (lv9)])), (bc, .inl (cs.2.1, 48, .inr (.inl (fun j => lN (ct j))))), (bl, .inl (cs.1, 48, .inl (lo))), (bx, .inl (cs.1, 48, .inl (ex))), (a, .inr (1, [.int (nI (rl)), .ref al, .ref ac, .ref ah, .ref an, .int (nI (fl))])), (al, .inl (cs.1, 48, .inl (fun j => nI (ln j)))), (ac, .inl (cs.1, 48, .inl (fun j => nI (cn j)))), (ah, .inl (cs.1, 17, .inl (fun j => nI (sn j)))), (an, .inl (cs.1, 17, .inl (fun j => nI (xn j)))), (g, .inr (2, [.ref gr, .int (nI (st)), .int (nI (sz))])), (gr, .inl (cs.1, 400, .inl (fun j => nI (rb j))))]) := by
  refine MG.mk (own := RB) (by decide) rfl (Nat.le_of_ble_eq_true rfl) ?_
  intro p e s m below meth c A C hr hlk
  refine g_lv (lv' := [(0, .ref b)]) [0] rfl ?_
  refine g_aload_n C d_B_check_0 0 rfl rfl ?_
  refine g_get C (T := FB) (N := 8) 0 0 inB rfl rfl (by decide) tw_105 rfl rfl d_B_check_1 ?_
  refine g_callVi C (n := 0) (ws' := [(b, .inr (3, [.ref a, .ref k, .ref g, .ref bc, .ref bl, .ref bx, .int (nI (wr)), .long (lv9)])), (bc, .inl (cs.2.1, 48, .inr (.inl (fun j => lN (ct j))))), (bl, .inl (cs.1, 48, .inl (lo))), (bx, .inl (cs.1, 48, .inl (ex))), (a, .inr (1, [.int (nI (rl)), .ref al, .ref ac, .ref ah, .ref an, .int (nI (fl))])), (al, .inl (cs.1, 48, .inl (fun j => nI (ln j)))), (ac, .inl (cs.1, 48, .inl (fun j => nI (cn j)))), (ah, .inl (cs.1, 17, .inl (fun j => nI (sn j)))), (an, .inl (cs.1, 17, .inl (fun j => nI (xn j)))), (g, .inr (2, [.ref gr, .int (nI (st)), .int (nI (sz))])), (gr, .inl (cs.1, 400, .inl (fun j => nI (rb j))))]) (As := []) (rest := []) (m_T_state l D cs a al ac ah an (rl) (ln) (cn) (sn) (xn) (fl) hf) tw_134 tw_135 tw_136 tw_4 tw_137 rfl 0 rfl rfl (by decide +kernel) rfl ⟨rfl, rfl, by decide, by decide, by decide⟩ rfl [4, 5, 6, 7, 8] rfl rfl (by decide) (Nat.le_of_ble_eq_true rfl) rfl d_B_check_4 ?_
  exact g_iret C hr hlk rfl rfl d_B_check_7
set_option maxHeartbeats 4000000 in
set_option maxRecDepth 100000 in
theorem m_B_waiting (l : Launch) (D : va_G) (cs : ClassId × ClassId × ClassId × ClassId) (b k bc bl bx a al ac ah an g gr : Nat) (ct : Nat → Nat) (lo ex : Nat → Int32) (wr : Nat) (lv9 : Int64) (rl : Nat) (ln cn sn xn : Nat → Nat) (fl : Nat) (rb : Nat → Nat) (st sz : Nat) : MG l y_B_waiting k_B_waiting { frames := 0, cells := 0, slots := 0, locals := 0 } D cs [.ref b] [(b, .inr (3, [.ref a, .ref k, .ref g, .ref bc, .ref bl, .ref bx, .int (nI (wr)), .long (lv9)])), (bc, .inl (cs.2.1, 48, .inr (.inl (fun j => lN (ct j))))), (bl, .inl (cs.1, 48, .inl (lo))), (bx, .inl (cs.1, 48, .inl (ex))), (a, .inr (1, [.int (nI (rl)), .ref al, .ref ac, .ref ah, .ref an, .int (nI (fl))])), (al, .inl (cs.1, 48, .inl (fun j => nI (ln j)))), (ac, .inl (cs.1, 48, .inl (fun j => nI (cn j)))), (ah, .inl (cs.1, 17, .inl (fun j => nI (sn j)))), (an, .inl (cs.1, 17, .inl (fun j => nI (xn j)))), (g, .inr (2, [.ref gr, .int (nI (st)), .int (nI (sz))])), (gr, .inl (cs.1, 400, .inl (fun j => nI (rb j))))] (QI D (nI (sz)) [(b, .inr (3, [.ref a, .ref k, .ref g, .ref bc, .ref bl, .ref bx, .int (nI (wr)), .long (lv9)])), (bc, .inl (cs.2.1, 48, .inr (.inl (fun j => lN (ct j))))), (bl, .inl (cs.1, 48, .inl (lo))), (bx, .inl (cs.1, 48, .inl (ex))), (a, .inr (1, [.int (nI (rl)), .ref al, .ref ac, .ref ah, .ref an, .int (nI (fl))])), (al, .inl (cs.1, 48, .inl (fun j => nI (ln j)))), (ac, .inl (cs.1, 48, .inl (fun j => nI (cn j)))), (ah, .inl (cs.1, 17, .inl (fun j => nI (sn j)))), (an, .inl (cs.1, 17, .inl (fun j => nI (xn j)))), (g, .inr (2, [.ref gr, .int (nI (st)), .int (nI (sz))])), (gr, .inl (cs.1, 400, .inl (fun j => nI (rb j))))]) := by
  refine MG.mk (own := RB) (by decide) rfl (Nat.le_of_ble_eq_true rfl) ?_
  intro p e s m below meth c A C hr hlk
  refine g_lv (lv' := [(0, .ref b)]) [0] rfl ?_
  refine g_aload_n C d_B_waiting_0 0 rfl rfl ?_
  refine g_get C (T := FB) (N := 8) 0 2 inB rfl rfl (by decide) tw_107 rfl rfl d_B_waiting_1 ?_
  refine g_getN C (T := FG) (N := 3) (k := 2) C.2.2.2.1 9 inG rfl rfl (by decide) rfl rfl d_B_waiting_4 ?_
  exact g_iret C hr hlk rfl rfl d_B_waiting_7
/-- counts times lengths -/
def smv (ct ln : Nat → Nat) : Nat → Nat
  | 0 => 0
  | k + 1 => smv ct ln k + ct k * ln k
set_option maxHeartbeats 4000000 in
set_option maxRecDepth 100000 in
theorem l_B_sum {p : Program} {l : Launch} {e : Env} {s : State} {m : MethodId} {args : Array Value} {below : List Frame} {meth : Method} {c : Code} {A : Nat → Prop} {D : va_G} {cs : ClassId × ClassId × ClassId × ClassId} (C : CX p s m args c c_B_sum 4 RB D cs A) (b k bc bl bx a al ac ah an g gr : Nat) (ct : Nat → Nat) (lo ex : Nat → Int32) (wr : Nat) (lv9 : Int64) (rl : Nat) (ln cn sn xn : Nat → Nat) (fl : Nat) (rb : Nat → Nat) (st sz : Nat) (hl : ∀ j, j < 48 → ln j ≤ 16) (hr : meth.sig.returnType = some .long) (hlk : meth.locks = false)
    : ∀ (n : Nat) (i : Nat), 48 - i = n → (i ≤ 48) → GO p l e { frames := 0, cells := 0, slots := 0, locals := 0 } s m args below meth c 0 0 (MQ below (QL D (lN (smv ct ln 48)) [(b, .inr (3, [.ref a, .ref k, .ref g, .ref bc, .ref bl, .ref bx, .int (nI (wr)), .long (lv9)])), (bc, .inl (cs.2.1, 48, .inr (.inl (fun j => lN (ct j))))), (bl, .inl (cs.1, 48, .inl (lo))), (bx, .inl (cs.1, 48, .inl (ex))), (a, .inr (1, [.int (nI (rl)), .ref al, .ref ac, .ref ah, .ref an, .int (nI (fl))])), (al, .inl (cs.1, 48, .inl (fun j => nI (ln j)))), (ac, .inl (cs.1, 48, .inl (fun j => nI (cn j)))), (ah, .inl (cs.1, 17, .inl (fun j => nI (sn j)))), (an, .inl (cs.1, 17, .inl (fun j => nI (xn j)))), (g, .inr (2, [.ref gr, .int (nI (st)), .int (nI (sz))])), (gr, .inl (cs.1, 400, .inl (fun j => nI (rb j))))] A) args s 0 0 A) A D 4 4 [(0, .ref b), (1, .long (lN (smv ct ln i))), (3, .int (nI (i)))] [] [(b, .inr (3, [.ref a, .ref k, .ref g, .ref bc, .ref bl, .ref bx, .int (nI (wr)), .long (lv9)])), (bc, .inl (cs.2.1, 48, .inr (.inl (fun j => lN (ct j))))), (bl, .inl (cs.1, 48, .inl (lo))), (bx, .inl (cs.1, 48, .inl (ex))), (a, .inr (1, [.int (nI (rl)), .ref al, .ref ac, .ref ah, .ref an, .int (nI (fl))])), (al, .inl (cs.1, 48, .inl (fun j => nI (ln j)))), (ac, .inl (cs.1, 48, .inl (fun j => nI (cn j)))), (ah, .inl (cs.1, 17, .inl (fun j => nI (sn j)))), (an, .inl (cs.1, 17, .inl (fun j => nI (xn j)))), (g, .inr (2, [.ref gr, .int (nI (st)), .int (nI (sz))])), (gr, .inl (cs.1, 400, .inl (fun j => nI (rb j))))] := by
  intro n
  induction n using Nat.strongRecOn with
  | _ n ih =>
  intro i  hn hi
  refine g_iload_n C d_B_sum_4 2 rfl rfl ?_
  refine g_bipush C (v := nI 48) d_B_sum_5 rfl ?_
  refine n_icmp_ge C 36 d_B_sum_7 (by decide) (by omega) (by omega) (fun h7 => ?_) (fun h7 => ?_)
  · refine g_lload_n C d_B_sum_36 1 rfl rfl ?_
    exact g_lret C hr hlk (by rw [show i = 48 by omega]) rfl d_B_sum_37
  · refine g_lload_n C d_B_sum_10 1 rfl rfl ?_
    refine g_aload_n C d_B_sum_11 0 rfl rfl ?_
    refine g_get C (T := FB) (N := 8) 0 3 inB rfl rfl (by decide) tw_108 rfl rfl d_B_sum_12 ?_
    refine g_iload_n C d_B_sum_15 2 rfl rfl ?_
    refine g_lald C 1 rfl (by omega) (by decide) d_B_sum_16 ?_
    refine g_aload_n C d_B_sum_17 0 rfl rfl ?_
    refine g_get C (T := FB) (N := 8) 0 0 inB rfl rfl (by decide) tw_105 rfl rfl d_B_sum_18 ?_
    refine g_getN C (T := FT) (N := 6) (k := 1) C.2.2.2.2.1 4 inT rfl rfl (by decide) rfl rfl d_B_sum_21 ?_
    refine g_iload_n C d_B_sum_24 2 rfl rfl ?_
    refine g_iald C 5 rfl (by omega) (by decide) d_B_sum_25 ?_
    refine g_i2l C (v := lN (ln (i))) d_B_sum_26 (nI_l (by have := hl i (by omega); omega)) ?_
    refine g_lmul C (v := lN ((ct (i)) * (ln (i)))) d_B_sum_27 (lN_mul _ _) ?_
    refine g_ladd C (v := lN (smv ct ln i + ((ct (i)) * (ln (i))))) d_B_sum_28 (lN_add _ _) ?_
    refine g_lstore_n C (lv' := [(1, .long (lN (smv ct ln i + ((ct (i)) * (ln (i)))))), (0, .ref b), (3, .int (nI (i)))]) d_B_sum_29 rfl (by decide) rfl ?_
    refine g_iinc C (lv' := [(3, .int (nI (i + 1))), (1, .long (lN (smv ct ln i + ((ct (i)) * (ln (i)))))), (0, .ref b)]) (k := 2) d_B_sum_30 rfl (nI_1 _) (by decide) rfl ?_
    refine g_goto C 4 d_B_sum_33 (by decide) ?_
    refine g_lv (lv' := [(0, .ref b), (1, .long (lN (smv ct ln i + ((ct (i)) * (ln (i)))))), (3, .int (nI (i + 1)))]) [2, 1, 0] rfl ?_
    exact ih (48 - (i + 1)) (by omega) (i + 1) rfl (by omega)
set_option maxHeartbeats 4000000 in
set_option maxRecDepth 100000 in
theorem m_B_sum (l : Launch) (D : va_G) (cs : ClassId × ClassId × ClassId × ClassId) (b k bc bl bx a al ac ah an g gr : Nat) (ct : Nat → Nat) (lo ex : Nat → Int32) (wr : Nat) (lv9 : Int64) (rl : Nat) (ln cn sn xn : Nat → Nat) (fl : Nat) (rb : Nat → Nat) (st sz : Nat) (hl : ∀ j, j < 48 → ln j ≤ 16) : MG l y_B_sum k_B_sum { frames := 0, cells := 0, slots := 0, locals := 0 } D cs [.ref b] [(b, .inr (3, [.ref a, .ref k, .ref g, .ref bc, .ref bl, .ref bx, .int (nI (wr)), .long (lv9)])), (bc, .inl (cs.2.1, 48, .inr (.inl (fun j => lN (ct j))))), (bl, .inl (cs.1, 48, .inl (lo))), (bx, .inl (cs.1, 48, .inl (ex))), (a, .inr (1, [.int (nI (rl)), .ref al, .ref ac, .ref ah, .ref an, .int (nI (fl))])), (al, .inl (cs.1, 48, .inl (fun j => nI (ln j)))), (ac, .inl (cs.1, 48, .inl (fun j => nI (cn j)))), (ah, .inl (cs.1, 17, .inl (fun j => nI (sn j)))), (an, .inl (cs.1, 17, .inl (fun j => nI (xn j)))), (g, .inr (2, [.ref gr, .int (nI (st)), .int (nI (sz))])), (gr, .inl (cs.1, 400, .inl (fun j => nI (rb j))))] (QL D (lN (smv ct ln 48)) [(b, .inr (3, [.ref a, .ref k, .ref g, .ref bc, .ref bl, .ref bx, .int (nI (wr)), .long (lv9)])), (bc, .inl (cs.2.1, 48, .inr (.inl (fun j => lN (ct j))))), (bl, .inl (cs.1, 48, .inl (lo))), (bx, .inl (cs.1, 48, .inl (ex))), (a, .inr (1, [.int (nI (rl)), .ref al, .ref ac, .ref ah, .ref an, .int (nI (fl))])), (al, .inl (cs.1, 48, .inl (fun j => nI (ln j)))), (ac, .inl (cs.1, 48, .inl (fun j => nI (cn j)))), (ah, .inl (cs.1, 17, .inl (fun j => nI (sn j)))), (an, .inl (cs.1, 17, .inl (fun j => nI (xn j)))), (g, .inr (2, [.ref gr, .int (nI (st)), .int (nI (sz))])), (gr, .inl (cs.1, 400, .inl (fun j => nI (rb j))))]) := by
  refine MG.mk (own := RB) (by decide) rfl (Nat.le_of_ble_eq_true rfl) ?_
  intro p e s m below meth c A C hr hlk
  refine g_lv (lv' := [(0, .ref b)]) [0] rfl ?_
  refine g_lconst C (v := lN 0) d_B_sum_0 rfl ?_
  refine g_lstore_n C (lv' := [(1, .long (lN (0))), (0, .ref b)]) d_B_sum_1 rfl (by decide) rfl ?_
  refine g_iconst C (v := nI 0) d_B_sum_2 rfl ?_
  refine g_istore_n C (lv' := [(3, .int (nI (0))), (1, .long (lN (0))), (0, .ref b)]) d_B_sum_3 rfl (by decide) rfl ?_
  refine g_lv (lv' := [(0, .ref b), (1, .long (lN (0))), (3, .int (nI (0)))]) [2, 1, 0] rfl ?_
  exact l_B_sum C b k bc bl bx a al ac ah an g gr ct lo ex wr lv9 rl ln cn sn xn fl rb st sz hl hr hlk _ 0 rfl (by omega)
set_option maxHeartbeats 4000000 in
set_option maxRecDepth 100000 in
theorem m_B_dropRange (l : Launch) (D : va_G) (cs : ClassId × ClassId × ClassId × ClassId) (b k bc bl bx a al ac ah an g gr : Nat) (ct : Nat → Nat) (lo ex : Nat → Int32) (wr : Nat) (lv9 : Int64) (rl : Nat) (ln cn sn xn : Nat → Nat) (fl : Nat) (rb : Nat → Nat) (st sz : Nat) (y : Nat) (hy : y < 48) : MG l y_B_dropRange k_B_dropRange { frames := 0, cells := 0, slots := 0, locals := 0 } D cs [.ref b, .int (nI (y))] [(b, .inr (3, [.ref a, .ref k, .ref g, .ref bc, .ref bl, .ref bx, .int (nI (wr)), .long (lv9)])), (bc, .inl (cs.2.1, 48, .inr (.inl (fun j => lN (ct j))))), (bl, .inl (cs.1, 48, .inl (lo))), (bx, .inl (cs.1, 48, .inl (ex))), (a, .inr (1, [.int (nI (rl)), .ref al, .ref ac, .ref ah, .ref an, .int (nI (fl))])), (al, .inl (cs.1, 48, .inl (fun j => nI (ln j)))), (ac, .inl (cs.1, 48, .inl (fun j => nI (cn j)))), (ah, .inl (cs.1, 17, .inl (fun j => nI (sn j)))), (an, .inl (cs.1, 17, .inl (fun j => nI (xn j)))), (g, .inr (2, [.ref gr, .int (nI (st)), .int (nI (sz))])), (gr, .inl (cs.1, 400, .inl (fun j => nI (rb j))))] (QV D [(b, .inr (3, [.ref a, .ref k, .ref g, .ref bc, .ref bl, .ref bx, .int (nI (wr)), .long (lv9)])), (bc, .inl (cs.2.1, 48, .inr (.inl (fun j => lN (ct j))))), (bl, .inl (cs.1, 48, .inl (upd (lo) (y) (nI (y))))), (bx, .inl (cs.1, 48, .inl (upd (ex) (y) (nI (0))))), (a, .inr (1, [.int (nI (rl)), .ref al, .ref ac, .ref ah, .ref an, .int (nI (fl))])), (al, .inl (cs.1, 48, .inl (fun j => nI (ln j)))), (ac, .inl (cs.1, 48, .inl (fun j => nI (cn j)))), (ah, .inl (cs.1, 17, .inl (fun j => nI (sn j)))), (an, .inl (cs.1, 17, .inl (fun j => nI (xn j)))), (g, .inr (2, [.ref gr, .int (nI (st)), .int (nI (sz))])), (gr, .inl (cs.1, 400, .inl (fun j => nI (rb j))))]) := by
  refine MG.mk (own := RB) (by decide) rfl (Nat.le_of_ble_eq_true rfl) ?_
  intro p e s m below meth c A C hr hlk
  refine g_lv (lv' := [(0, .ref b), (1, .int (nI (y)))]) [0, 1] rfl ?_
  refine g_aload_n C d_B_dropRange_0 0 rfl rfl ?_
  refine g_get C (T := FB) (N := 8) 0 4 inB rfl rfl (by decide) tw_109 rfl rfl d_B_dropRange_1 ?_
  refine g_iload_n C d_B_dropRange_4 1 rfl rfl ?_
  refine g_iload_n C d_B_dropRange_5 1 rfl rfl ?_
  refine g_iast C (ws' := [(b, .inr (3, [.ref a, .ref k, .ref g, .ref bc, .ref bl, .ref bx, .int (nI (wr)), .long (lv9)])), (bc, .inl (cs.2.1, 48, .inr (.inl (fun j => lN (ct j))))), (bl, .inl (cs.1, 48, .inl (upd (lo) (y) (nI (y))))), (bx, .inl (cs.1, 48, .inl (ex))), (a, .inr (1, [.int (nI (rl)), .ref al, .ref ac, .ref ah, .ref an, .int (nI (fl))])), (al, .inl (cs.1, 48, .inl (fun j => nI (ln j)))), (ac, .inl (cs.1, 48, .inl (fun j => nI (cn j)))), (ah, .inl (cs.1, 17, .inl (fun j => nI (sn j)))), (an, .inl (cs.1, 17, .inl (fun j => nI (xn j)))), (g, .inr (2, [.ref gr, .int (nI (st)), .int (nI (sz))])), (gr, .inl (cs.1, 400, .inl (fun j => nI (rb j))))]) 2 rfl (by omega) (by decide) rfl d_B_dropRange_6 ?_
  refine g_aload_n C d_B_dropRange_7 0 rfl rfl ?_
  refine g_get C (T := FB) (N := 8) 0 5 inB rfl rfl (by decide) tw_110 rfl rfl d_B_dropRange_8 ?_
  refine g_iload_n C d_B_dropRange_11 1 rfl rfl ?_
  refine g_iconst C (v := nI 0) d_B_dropRange_12 rfl ?_
  refine g_iast C (ws' := [(b, .inr (3, [.ref a, .ref k, .ref g, .ref bc, .ref bl, .ref bx, .int (nI (wr)), .long (lv9)])), (bc, .inl (cs.2.1, 48, .inr (.inl (fun j => lN (ct j))))), (bl, .inl (cs.1, 48, .inl (upd (lo) (y) (nI (y))))), (bx, .inl (cs.1, 48, .inl (upd (ex) (y) (nI (0))))), (a, .inr (1, [.int (nI (rl)), .ref al, .ref ac, .ref ah, .ref an, .int (nI (fl))])), (al, .inl (cs.1, 48, .inl (fun j => nI (ln j)))), (ac, .inl (cs.1, 48, .inl (fun j => nI (cn j)))), (ah, .inl (cs.1, 17, .inl (fun j => nI (sn j)))), (an, .inl (cs.1, 17, .inl (fun j => nI (xn j)))), (g, .inr (2, [.ref gr, .int (nI (st)), .int (nI (sz))])), (gr, .inl (cs.1, 400, .inl (fun j => nI (rb j))))]) 3 rfl (by omega) (by decide) rfl d_B_dropRange_13 ?_
  exact g_vret C hr hlk rfl d_B_dropRange_14
set_option maxHeartbeats 4000000 in
set_option maxRecDepth 100000 in
theorem l_B_dar {p : Program} {l : Launch} {e : Env} {s : State} {m : MethodId} {args : Array Value} {below : List Frame} {meth : Method} {c : Code} {Q : State → Prop} {A : Nat → Prop} {D : va_G} {cs : ClassId × ClassId × ClassId × ClassId} (C : CX p s m args c c_B_dropAllRanges 2 RB D cs A) (b k bc bl bx a al ac ah an g gr : Nat) (ct : Nat → Nat) (lo ex : Nat → Int32) (wr : Nat) (lv9 : Int64) (rl : Nat) (ln cn sn xn : Nat → Nat) (fl : Nat) (rb : Nat → Nat) (st sz : Nat) 
    (K : GO p l e { frames := 1, cells := 0, slots := 0, locals := 21 } s m args below meth c 0 0 Q A D 2 19 [(0, .ref b)] [] [(b, .inr (3, [.ref a, .ref k, .ref g, .ref bc, .ref bl, .ref bx, .int (nI (wr)), .long (lv9)])), (bc, .inl (cs.2.1, 48, .inr (.inl (fun j => lN (ct j))))), (bl, .inl (cs.1, 48, .inl (fun j => nI j))), (bx, .inl (cs.1, 48, .inl (fun _ => nI 0))), (a, .inr (1, [.int (nI (rl)), .ref al, .ref ac, .ref ah, .ref an, .int (nI (fl))])), (al, .inl (cs.1, 48, .inl (fun j => nI (ln j)))), (ac, .inl (cs.1, 48, .inl (fun j => nI (cn j)))), (ah, .inl (cs.1, 17, .inl (fun j => nI (sn j)))), (an, .inl (cs.1, 17, .inl (fun j => nI (xn j)))), (g, .inr (2, [.ref gr, .int (nI (st)), .int (nI (sz))])), (gr, .inl (cs.1, 400, .inl (fun j => nI (rb j))))])
    : ∀ (n : Nat) (i : Nat) (lo2 ex2 : Nat → Int32), 48 - i = n → (i ≤ 48) → (∀ j, j < i → lo2 j = nI j ∧ ex2 j = nI 0) → GO p l e { frames := 1, cells := 0, slots := 0, locals := 21 } s m args below meth c 0 0 Q A D 2 2 [(0, .ref b), (1, .int (nI (i)))] [] [(b, .inr (3, [.ref a, .ref k, .ref g, .ref bc, .ref bl, .ref bx, .int (nI (wr)), .long (lv9)])), (bc, .inl (cs.2.1, 48, .inr (.inl (fun j => lN (ct j))))), (bl, .inl (cs.1, 48, .inl (lo2))), (bx, .inl (cs.1, 48, .inl (ex2))), (a, .inr (1, [.int (nI (rl)), .ref al, .ref ac, .ref ah, .ref an, .int (nI (fl))])), (al, .inl (cs.1, 48, .inl (fun j => nI (ln j)))), (ac, .inl (cs.1, 48, .inl (fun j => nI (cn j)))), (ah, .inl (cs.1, 17, .inl (fun j => nI (sn j)))), (an, .inl (cs.1, 17, .inl (fun j => nI (xn j)))), (g, .inr (2, [.ref gr, .int (nI (st)), .int (nI (sz))])), (gr, .inl (cs.1, 400, .inl (fun j => nI (rb j))))] := by
  intro n
  induction n using Nat.strongRecOn with
  | _ n ih =>
  intro i  lo2 ex2  hn hi hq
  refine g_iload_n C d_B_dropAllRanges_2 1 rfl rfl ?_
  refine g_bipush C (v := nI 48) d_B_dropAllRanges_3 rfl ?_
  refine n_icmp_ge C 19 d_B_dropAllRanges_5 (by decide) (by omega) (by omega) (fun h5 => ?_) (fun h5 => ?_)
  · refine g_lv (lv' := [(0, .ref b)]) [0] rfl ?_
    refine g_ci (f2 := fun j => nI j) (ws' := [(b, .inr (3, [.ref a, .ref k, .ref g, .ref bc, .ref bl, .ref bx, .int (nI (wr)), .long (lv9)])), (bc, .inl (cs.2.1, 48, .inr (.inl (fun j => lN (ct j))))), (bl, .inl (cs.1, 48, .inl (fun j => nI j))), (bx, .inl (cs.1, 48, .inl (ex2))), (a, .inr (1, [.int (nI (rl)), .ref al, .ref ac, .ref ah, .ref an, .int (nI (fl))])), (al, .inl (cs.1, 48, .inl (fun j => nI (ln j)))), (ac, .inl (cs.1, 48, .inl (fun j => nI (cn j)))), (ah, .inl (cs.1, 17, .inl (fun j => nI (sn j)))), (an, .inl (cs.1, 17, .inl (fun j => nI (xn j)))), (g, .inr (2, [.ref gr, .int (nI (st)), .int (nI (sz))])), (gr, .inl (cs.1, 400, .inl (fun j => nI (rb j))))]) 2 rfl (fun j hj => (hq j (by omega)).1) rfl ?_
    refine g_ci (f2 := fun _ => nI 0) (ws' := [(b, .inr (3, [.ref a, .ref k, .ref g, .ref bc, .ref bl, .ref bx, .int (nI (wr)), .long (lv9)])), (bc, .inl (cs.2.1, 48, .inr (.inl (fun j => lN (ct j))))), (bl, .inl (cs.1, 48, .inl (fun j => nI j))), (bx, .inl (cs.1, 48, .inl (fun _ => nI 0))), (a, .inr (1, [.int (nI (rl)), .ref al, .ref ac, .ref ah, .ref an, .int (nI (fl))])), (al, .inl (cs.1, 48, .inl (fun j => nI (ln j)))), (ac, .inl (cs.1, 48, .inl (fun j => nI (cn j)))), (ah, .inl (cs.1, 17, .inl (fun j => nI (sn j)))), (an, .inl (cs.1, 17, .inl (fun j => nI (xn j)))), (g, .inr (2, [.ref gr, .int (nI (st)), .int (nI (sz))])), (gr, .inl (cs.1, 400, .inl (fun j => nI (rb j))))]) 3 rfl (fun j hj => (hq j (by omega)).2) rfl ?_
    exact K
  · refine g_aload_n C d_B_dropAllRanges_8 0 rfl rfl ?_
    refine g_iload_n C d_B_dropAllRanges_9 1 rfl rfl ?_
    refine g_callVv C (n := 1) (ws' := [(b, .inr (3, [.ref a, .ref k, .ref g, .ref bc, .ref bl, .ref bx, .int (nI (wr)), .long (lv9)])), (bc, .inl (cs.2.1, 48, .inr (.inl (fun j => lN (ct j))))), (bl, .inl (cs.1, 48, .inl (upd (lo2) (i) (nI (i))))), (bx, .inl (cs.1, 48, .inl (upd (ex2) (i) (nI (0))))), (a, .inr (1, [.int (nI (rl)), .ref al, .ref ac, .ref ah, .ref an, .int (nI (fl))])), (al, .inl (cs.1, 48, .inl (fun j => nI (ln j)))), (ac, .inl (cs.1, 48, .inl (fun j => nI (cn j)))), (ah, .inl (cs.1, 17, .inl (fun j => nI (sn j)))), (an, .inl (cs.1, 17, .inl (fun j => nI (xn j)))), (g, .inr (2, [.ref gr, .int (nI (st)), .int (nI (sz))])), (gr, .inl (cs.1, 400, .inl (fun j => nI (rb j))))]) (As := [.int (nI (i))]) (rest := []) (m_B_dropRange l D cs b k bc bl bx a al ac ah an g gr (ct) (lo2) (ex2) (wr) (lv9) (rl) (ln) (cn) (sn) (xn) (fl) (rb) (st) (sz) (i) (by omega)) tw_101 tw_103 ts_1 tw_1 tw_104 rfl 0 rfl rfl (by decide +kernel) rfl ⟨rfl, rfl, by decide, by decide, by decide⟩ rfl [0, 1, 2, 3, 4, 5, 6, 7, 8, 9, 10] rfl rfl (by decide) (Nat.le_of_ble_eq_true rfl) rfl d_B_dropAllRanges_10 ?_
    refine g_iinc C (lv' := [(1, .int (nI (i + 1))), (0, .ref b)]) (k := 1) d_B_dropAllRanges_13 rfl (nI_1 _) (by decide) rfl ?_
    refine g_goto C 2 d_B_dropAllRanges_16 (by decide) ?_
    refine g_lv (lv' := [(0, .ref b), (1, .int (nI (i + 1)))]) [1, 0] rfl ?_
    exact ih (48 - (i + 1)) (by omega) (i + 1) _ _ rfl (by omega) (fun j hj => by
      unfold upd
      by_cases e : j = i
      · subst e; simp
      · simp only [e, if_false]; exact hq j (by omega))
set_option maxHeartbeats 4000000 in
set_option maxRecDepth 100000 in
theorem m_B_dropAllRanges (l : Launch) (D : va_G) (cs : ClassId × ClassId × ClassId × ClassId) (b k bc bl bx a al ac ah an g gr : Nat) (ct : Nat → Nat) (lo ex : Nat → Int32) (wr : Nat) (lv9 : Int64) (rl : Nat) (ln cn sn xn : Nat → Nat) (fl : Nat) (rb : Nat → Nat) (st sz : Nat) : MG l y_B_dropAllRanges k_B_dropAllRanges { frames := 1, cells := 0, slots := 0, locals := 21 } D cs [.ref b] [(b, .inr (3, [.ref a, .ref k, .ref g, .ref bc, .ref bl, .ref bx, .int (nI (wr)), .long (lv9)])), (bc, .inl (cs.2.1, 48, .inr (.inl (fun j => lN (ct j))))), (bl, .inl (cs.1, 48, .inl (lo))), (bx, .inl (cs.1, 48, .inl (ex))), (a, .inr (1, [.int (nI (rl)), .ref al, .ref ac, .ref ah, .ref an, .int (nI (fl))])), (al, .inl (cs.1, 48, .inl (fun j => nI (ln j)))), (ac, .inl (cs.1, 48, .inl (fun j => nI (cn j)))), (ah, .inl (cs.1, 17, .inl (fun j => nI (sn j)))), (an, .inl (cs.1, 17, .inl (fun j => nI (xn j)))), (g, .inr (2, [.ref gr, .int (nI (st)), .int (nI (sz))])), (gr, .inl (cs.1, 400, .inl (fun j => nI (rb j))))] (QV D [(b, .inr (3, [.ref a, .ref k, .ref g, .ref bc, .ref bl, .ref bx, .int (nI (wr)), .long (lv9)])), (bc, .inl (cs.2.1, 48, .inr (.inl (fun j => lN (ct j))))), (bl, .inl (cs.1, 48, .inl (fun j => nI j))), (bx, .inl (cs.1, 48, .inl (fun _ => nI 0))), (a, .inr (1, [.int (nI (rl)), .ref al, .ref ac, .ref ah, .ref an, .int (nI (fl))])), (al, .inl (cs.1, 48, .inl (fun j => nI (ln j)))), (ac, .inl (cs.1, 48, .inl (fun j => nI (cn j)))), (ah, .inl (cs.1, 17, .inl (fun j => nI (sn j)))), (an, .inl (cs.1, 17, .inl (fun j => nI (xn j)))), (g, .inr (2, [.ref gr, .int (nI (st)), .int (nI (sz))])), (gr, .inl (cs.1, 400, .inl (fun j => nI (rb j))))]) := by
  refine MG.mk (own := RB) (by decide) rfl (Nat.le_of_ble_eq_true rfl) ?_
  intro p e s m below meth c A C hr hlk
  refine g_lv (lv' := [(0, .ref b)]) [0] rfl ?_
  refine g_iconst C (v := nI 0) d_B_dropAllRanges_0 rfl ?_
  refine g_istore_n C (lv' := [(1, .int (nI (0))), (0, .ref b)]) d_B_dropAllRanges_1 rfl (by decide) rfl ?_
  refine g_lv (lv' := [(0, .ref b), (1, .int (nI (0)))]) [1, 0] rfl ?_
  refine l_B_dar C b k bc bl bx a al ac ah an g gr ct lo ex wr lv9 rl ln cn sn xn fl rb st sz ?_ _ 0 lo ex rfl (by omega) (fun j hj => absurd hj (by omega))
  exact g_vret C hr hlk rfl d_B_dropAllRanges_19
end
section
section GR5
variable {p : Program} {l : Launch} {e : Env} {R : Room} {s : State} {m : MethodId} {args : Array Value} {below : List Frame} {meth : Method} {c : Code} {cells slots : Nat} {Q : State → Prop} {A : Nat → Prop} {D : va_G} {nL : Nat} {cc : ByteArray} {own : String} {cs : ClassId × ClassId × ClassId × ClassId}
variable {pc : Nat} {lv lv' : List (Nat × Value)} {st : List Value} {ws ws' : va_W}

theorem g_mmin (C : CX p s m args c cc nL own D cs A) {a b idx : Nat} (w1 : Cond.methodLink own idx Lib.Math.min.name ∈ TB) (hR : 1 ≤ R.frames ∧ (st.map fun v => v.category).sum + 13 ≤ R.locals ∧ cells ≤ R.cells ∧ slots ≤ R.slots) (ha : a < 2 ^ 31) (hb9 : b < 2 ^ 31) (d : decode cc pc = .ok (.invokestatic idx, 3)) (g : GO p l e R s m args below meth c cells slots Q A D nL (pc + 3) lv (.int (nI (min a b)) :: st) ws) : GO p l e R s m args below meth c cells slots Q A D nL pc lv (.int (nI b) :: .int (nI a) :: st) ws := by
  obtain ⟨⟨hx, hb, hml, hown, ht⟩, hK, hA⟩ := C
  intro H locs ls hP hD hS hl
  refine va_mmin hx hb (hml.trans hl.1.symm) hown (ht _ w1) (ht _ tw_164) (ht _ tw_5) (ht _ tw_165) hR.1 hR.2.1 hR.2.2.1 hR.2.2.2 d ?_
  have e9 : (if nI b < nI a then nI b else nI a) = nI (min a b) := by
    by_cases h : b < a
    · rw [if_pos ((nI_ltI hb9 ha).mpr h), Nat.min_eq_right (by omega)]
    · rw [if_neg (fun q => h ((nI_ltI hb9 ha).mp q)), Nat.min_eq_left (by omega)]
  rw [e9]
  exact g H locs ls hP hD hS hl
theorem abs_nI {x : Int32} (h1 : -1000 ≤ x.toInt) (h2 : x.toInt ≤ 1000) : (if 0 ≤ x then x else 0 - x) = nI x.toInt.natAbs := by
  by_cases h : 0 ≤ x
  · rw [if_pos h]
    have h3 : 0 ≤ x.toInt := by have := Int32.le_iff_toInt_le.mp h; simpa using this
    apply Int32.toInt_inj.mp
    rw [nI_toInt (by omega)]; omega
  · rw [if_neg h]
    have h3 : x.toInt < 0 := by
      have := Int32.not_le.mp h
      have := Int32.lt_iff_toInt_lt.mp this; simpa using this
    apply Int32.toInt_inj.mp
    rw [nI_toInt (by omega), Int32.toInt_sub]
    rw [Int32.toInt_zero, Int.bmod_eq_of_le (by omega) (by omega)]
    omega
theorem g_mabs (C : CX p s m args c cc nL own D cs A) {x : Int32} {idx : Nat} (w1 : Cond.methodLink own idx Lib.Math.abs.name ∈ TB) (hR : 1 ≤ R.frames ∧ (st.map fun v => v.category).sum + 13 ≤ R.locals ∧ cells ≤ R.cells ∧ slots ≤ R.slots) (h1 : -1000 ≤ x.toInt) (h2 : x.toInt ≤ 1000) (d : decode cc pc = .ok (.invokestatic idx, 3)) (g : GO p l e R s m args below meth c cells slots Q A D nL (pc + 3) lv (.int (nI x.toInt.natAbs) :: st) ws) : GO p l e R s m args below meth c cells slots Q A D nL pc lv (.int x :: st) ws := by
  obtain ⟨⟨hx, hb, hml, hown, ht⟩, hK, hA⟩ := C
  intro H locs ls hP hD hS hl
  refine va_mabs hx hb (hml.trans hl.1.symm) hown (ht _ w1) (ht _ tw_420) (ht _ tw_5) (ht _ tw_421) hR.1 hR.2.1 hR.2.2.1 hR.2.2.2 d ?_
  rw [abs_nI h1 h2]
  exact g H locs ls hP hD hS hl
end GR5
end
section
/-- the number told at a place -/
def ntd (ln : Nat → Nat) (en at9 : Nat) : Nat :=
  if 3 ≤ rnf ln 0 (en - at9) at9 then 200 + min (rnf ln 0 (en - at9) at9) 138
  else if 3 ≤ (if at9 = 0 then 0 else rnf ln (ln (at9 - 1)) (en - at9) at9) then 100 + min (if at9 = 0 then 0 else rnf ln (ln (at9 - 1)) (en - at9) at9) 6 else ln at9
/-- how many lengths it tells -/
def ltb (t : Nat) : Nat := if 200 < t then t - 200 else if 100 < t then t - 100 else 1
theorem ntd_le {ln : Nat → Nat} (hl : ∀ j, j < 48 → ln j ≤ 16) {en at9 : Nat} (h : at9 < 48) : ntd ln en at9 ≤ 338 := by
  have := hl at9 h
  unfold ntd; (repeat' split) <;> omega
theorem ltb_le {t : Nat} (h : t ≤ 338) : ltb t ≤ 138 := by unfold ltb; (repeat' split) <;> omega
theorem rnf_le (ln : Nat → Nat) (L : Nat) : ∀ n at9, rnf ln L n at9 ≤ n
  | 0, _ => Nat.zero_le _
  | n + 1, at9 => by have := rnf_le ln L n (at9 + 1); unfold rnf; split <;> omega
/-- number i of those told from number q on, at a place -/
def rsl (ln : Nat → Nat) (en : Nat) (i : Int32) : Nat → Nat → Nat → Int32
  | 0, _, _ => -1
  | f + 1, at9, q => if at9 < en then (if nI q = i then nI (ntd ln en at9) else rsl ln en i f (at9 + ltb (ntd ln en at9)) (q + 1)) else -1
theorem rsl_end {ln : Nat → Nat} {en : Nat} {i : Int32} {at9 q : Nat} (h : en ≤ at9) : ∀ f, rsl ln en i f at9 q = -1
  | 0 => rfl
  | f + 1 => by rw [rsl, if_neg (by omega)]
theorem rsl_hit {ln : Nat → Nat} {en : Nat} {i : Int32} {at9 q : Nat} (hq : q < 48) (h : at9 < en) (e : nI q = i) : rsl ln en i (48 - q) at9 q = nI (ntd ln en at9) := by
  obtain ⟨f9, hf9⟩ : ∃ f9, 48 - q = f9 + 1 := ⟨48 - q - 1, by omega⟩
  rw [hf9, rsl, if_pos h, if_pos e]
theorem rsl_next {ln : Nat → Nat} {en : Nat} {i : Int32} {at9 q : Nat} (hq : q < 48) (h : at9 < en) (e : ¬ nI q = i) : rsl ln en i (48 - q) at9 q = rsl ln en i (48 - (q + 1)) (at9 + ltb (ntd ln en at9)) (q + 1) := by
  obtain ⟨f9, hf9⟩ : ∃ f9, 48 - q = f9 + 1 := ⟨48 - q - 1, by omega⟩
  rw [hf9, rsl, if_pos h, if_neg e, show 48 - (q + 1) = f9 by omega]
theorem eol_le (ln : Nat → Nat) : ∀ k, eol ln k ≤ k
  | 0 => Nat.le_refl _
  | k + 1 => by have := eol_le ln k; unfold eol; split <;> omega

set_option maxHeartbeats 4000000 in
set_option maxRecDepth 100000 in
theorem m_B_tellLength (l : Launch) (D : va_G) (cs : ClassId × ClassId × ClassId × ClassId) (b k bc bl bx a al ac ah an g gr : Nat) (ct : Nat → Nat) (lo ex : Nat → Int32) (wr : Nat) (lv9 : Int64) (rl : Nat) (ln cn sn xn : Nat → Nat) (fl : Nat) (rb : Nat → Nat) (st sz : Nat) (y L : Nat) (hy : y < 48) (hL : L ≤ 16) (hl : ∀ j, j < 48 → ln j ≤ 16) (hrl : rl < 3) : MG l y_B_tellLength k_B_tellLength { frames := 3, cells := 0, slots := 0, locals := 64 } D cs [.ref b, .int (nI (y)), .int (nI (L))] [(b, .inr (3, [.ref a, .ref k, .ref g, .ref bc, .ref bl, .ref bx, .int (nI (wr)), .long (lv9)])), (bc, .inl (cs.2.1, 48, .inr (.inl (fun j => lN (ct j))))), (bl, .inl (cs.1, 48, .inl (lo))), (bx, .inl (cs.1, 48, .inl (ex))), (a, .inr (1, [.int (nI (rl)), .ref al, .ref ac, .ref ah, .ref an, .int (nI (fl))])), (al, .inl (cs.1, 48, .inl (fun j => nI (ln j)))), (ac, .inl (cs.1, 48, .inl (fun j => nI (cn j)))), (ah, .inl (cs.1, 17, .inl (fun j => nI (sn j)))), (an, .inl (cs.1, 17, .inl (fun j => nI (xn j)))), (g, .inr (2, [.ref gr, .int (nI (st)), .int (nI (sz))])), (gr, .inl (cs.1, 400, .inl (fun j => nI (rb j))))] (QI D (nI (if stt (fll (updN ln y L)) = 2 then 0 else 1)) [(b, .inr (3, [.ref a, .ref k, .ref g, .ref bc, .ref bl, .ref bx, .int (nI (wr)), .long (lv9)])), (bc, .inl (cs.2.1, 48, .inr (.inl (fun j => lN (ct j))))), (bl, .inl (cs.1, 48, .inl (lo))), (bx, .inl (cs.1, 48, .inl (ex))), (a, .inr (1, [.int (nI (rl)), .ref al, .ref ac, .ref ah, .ref an, .int (nI (fll (updN ln y L)))])), (al, .inl (cs.1, 48, .inl (fun j => nI ((updN (ln) (y) (L)) j)))), (ac, .inl (cs.1, 48, .inl (fun j => nI ((cN rl (updN ln y L) cn) j)))), (ah, .inl (cs.1, 17, .inl (fun j => nI ((shr (updN ln y L) 48) j)))), (an, .inl (cs.1, 17, .inl (fun j => nI ((xN rl (updN ln y L) xn) j)))), (g, .inr (2, [.ref gr, .int (nI (st)), .int (nI (sz))])), (gr, .inl (cs.1, 400, .inl (fun j => nI (rb j))))]) := by
  refine MG.mk (own := RB) (by decide) rfl (Nat.le_of_ble_eq_true rfl) ?_
  intro p e s m below meth c A C hr hlk
  refine g_lv (lv' := [(0, .ref b), (1, .int (nI (y))), (2, .int (nI (L)))]) [0, 1, 2] rfl ?_
  refine g_aload_n C d_B_tellLength_0 0 rfl rfl ?_
  refine g_get C (T := FB) (N := 8) 0 0 inB rfl rfl (by decide) tw_105 rfl rfl d_B_tellLength_1 ?_
  refine g_getN C (T := FT) (N := 6) (k := 1) C.2.2.2.2.1 4 inT rfl rfl (by decide) rfl rfl d_B_tellLength_4 ?_
  refine g_iload_n C d_B_tellLength_7 1 rfl rfl ?_
  refine g_iload_n C d_B_tellLength_8 2 rfl rfl ?_
  refine n_iast C (ws' := [(b, .inr (3, [.ref a, .ref k, .ref g, .ref bc, .ref bl, .ref bx, .int (nI (wr)), .long (lv9)])), (bc, .inl (cs.2.1, 48, .inr (.inl (fun j => lN (ct j))))), (bl, .inl (cs.1, 48, .inl (lo))), (bx, .inl (cs.1, 48, .inl (ex))), (a, .inr (1, [.int (nI (rl)), .ref al, .ref ac, .ref ah, .ref an, .int (nI (fl))])), (al, .inl (cs.1, 48, .inl (fun j => nI ((updN (ln) (y) (L)) j)))), (ac, .inl (cs.1, 48, .inl (fun j => nI (cn j)))), (ah, .inl (cs.1, 17, .inl (fun j => nI (sn j)))), (an, .inl (cs.1, 17, .inl (fun j => nI (xn j)))), (g, .inr (2, [.ref gr, .int (nI (st)), .int (nI (sz))])), (gr, .inl (cs.1, 400, .inl (fun j => nI (rb j))))]) 5 rfl (by omega) (by decide) rfl d_B_tellLength_9 ?_
  refine g_aload_n C d_B_tellLength_10 0 rfl rfl ?_
  refine g_get C (T := FB) (N := 8) 0 0 inB rfl rfl (by decide) tw_105 rfl rfl d_B_tellLength_11 ?_
  refine g_callVv C (n := 0) (ws' := [(b, .inr (3, [.ref a, .ref k, .ref g, .ref bc, .ref bl, .ref bx, .int (nI (wr)), .long (lv9)])), (bc, .inl (cs.2.1, 48, .inr (.inl (fun j => lN (ct j))))), (bl, .inl (cs.1, 48, .inl (lo))), (bx, .inl (cs.1, 48, .inl (ex))), (a, .inr (1, [.int (nI (rl)), .ref al, .ref ac, .ref ah, .ref an, .int (nI (fll ((updN (ln) (y) (L)))))])), (al, .inl (cs.1, 48, .inl (fun j => nI ((updN (ln) (y) (L)) j)))), (ac, .inl (cs.1, 48, .inl (fun j => nI ((cN (rl) ((updN (ln) (y) (L))) (cn)) j)))), (ah, .inl (cs.1, 17, .inl (fun j => nI ((shr ((updN (ln) (y) (L))) 48) j)))), (an, .inl (cs.1, 17, .inl (fun j => nI ((xN (rl) ((updN (ln) (y) (L))) (xn)) j)))), (g, .inr (2, [.ref gr, .int (nI (st)), .int (nI (sz))])), (gr, .inl (cs.1, 400, .inl (fun j => nI (rb j))))]) (As := []) (rest := []) (m_T_renew l D cs a al ac ah an (rl) ((updN (ln) (y) (L))) (cn) (sn) (xn) (fl) (fun j hj => by unfold updN; split; exact hL; exact hl j hj) hrl) tw_173 tw_174 tw_175 tw_4 tw_176 rfl 0 rfl rfl (by decide +kernel) rfl ⟨rfl, rfl, by decide, by decide, by decide⟩ rfl [4, 5, 6, 7, 8] rfl rfl (by decide) (Nat.le_of_ble_eq_true rfl) rfl d_B_tellLength_14 ?_
  refine g_aload_n C d_B_tellLength_17 0 rfl rfl ?_
  refine g_get C (T := FB) (N := 8) 0 0 inB rfl rfl (by decide) tw_105 rfl rfl d_B_tellLength_18 ?_
  refine g_callVi C (n := 0) (ws' := [(b, .inr (3, [.ref a, .ref k, .ref g, .ref bc, .ref bl, .ref bx, .int (nI (wr)), .long (lv9)])), (bc, .inl (cs.2.1, 48, .inr (.inl (fun j => lN (ct j))))), (bl, .inl (cs.1, 48, .inl (lo))), (bx, .inl (cs.1, 48, .inl (ex))), (a, .inr (1, [.int (nI (rl)), .ref al, .ref ac, .ref ah, .ref an, .int (nI (fll ((updN (ln) (y) (L)))))])), (al, .inl (cs.1, 48, .inl (fun j => nI ((updN (ln) (y) (L)) j)))), (ac, .inl (cs.1, 48, .inl (fun j => nI ((cN (rl) ((updN (ln) (y) (L))) (cn)) j)))), (ah, .inl (cs.1, 17, .inl (fun j => nI ((shr ((updN (ln) (y) (L))) 48) j)))), (an, .inl (cs.1, 17, .inl (fun j => nI ((xN (rl) ((updN (ln) (y) (L))) (xn)) j)))), (g, .inr (2, [.ref gr, .int (nI (st)), .int (nI (sz))])), (gr, .inl (cs.1, 400, .inl (fun j => nI (rb j))))]) (As := []) (rest := []) (m_T_state l D cs a al ac ah an (rl) ((updN (ln) (y) (L))) ((cN (rl) ((updN (ln) (y) (L))) (cn))) ((shr ((updN (ln) (y) (L))) 48)) ((xN (rl) ((updN (ln) (y) (L))) (xn))) (fll ((updN (ln) (y) (L)))) (fll_lt _)) tw_134 tw_135 tw_136 tw_4 tw_137 rfl 0 rfl rfl (by decide +kernel) rfl ⟨rfl, rfl, by decide, by decide, by decide⟩ rfl [4, 5, 6, 7, 8] rfl rfl (by decide) (Nat.le_of_ble_eq_true rfl) rfl d_B_tellLength_21 ?_
  refine g_iconst C (v := nI 2) d_B_tellLength_24 rfl ?_
  refine n_icmp_eq C 32 d_B_tellLength_25 (by decide) (by unfold stt; (repeat' split) <;> omega) (by omega) (fun h25 => ?_) (fun h25 => ?_)
  · refine g_iconst C (v := nI 0) d_B_tellLength_32 rfl ?_
    exact g_zret C hr hlk rfl (by first | rw [if_pos (by assumption)] | rw [if_neg (by assumption)]) rfl d_B_tellLength_33
  · refine g_iconst C (v := nI 1) d_B_tellLength_28 rfl ?_
    refine g_goto C 33 d_B_tellLength_29 (by decide) ?_
    exact g_zret C hr hlk rfl (by first | rw [if_pos (by assumption)] | rw [if_neg (by assumption)]) rfl d_B_tellLength_33
set_option maxHeartbeats 4000000 in
set_option maxRecDepth 100000 in
theorem m_B_numberTold (l : Launch) (D : va_G) (cs : ClassId × ClassId × ClassId × ClassId) (b k bc bl bx a al ac ah an g gr : Nat) (ct : Nat → Nat) (lo ex : Nat → Int32) (wr : Nat) (lv9 : Int64) (rl : Nat) (ln cn sn xn : Nat → Nat) (fl : Nat) (rb : Nat → Nat) (st sz : Nat) (at9 en : Nat) (hl : ∀ j, j < 48 → ln j ≤ 16) (he : en ≤ 48) (ha : at9 < en) : MG l y_B_numberTold k_B_numberTold { frames := 1, cells := 0, slots := 0, locals := 24 } D cs [.ref b, .int (nI (at9)), .int (nI (en))] [(b, .inr (3, [.ref a, .ref k, .ref g, .ref bc, .ref bl, .ref bx, .int (nI (wr)), .long (lv9)])), (bc, .inl (cs.2.1, 48, .inr (.inl (fun j => lN (ct j))))), (bl, .inl (cs.1, 48, .inl (lo))), (bx, .inl (cs.1, 48, .inl (ex))), (a, .inr (1, [.int (nI (rl)), .ref al, .ref ac, .ref ah, .ref an, .int (nI (fl))])), (al, .inl (cs.1, 48, .inl (fun j => nI (ln j)))), (ac, .inl (cs.1, 48, .inl (fun j => nI (cn j)))), (ah, .inl (cs.1, 17, .inl (fun j => nI (sn j)))), (an, .inl (cs.1, 17, .inl (fun j => nI (xn j)))), (g, .inr (2, [.ref gr, .int (nI (st)), .int (nI (sz))])), (gr, .inl (cs.1, 400, .inl (fun j => nI (rb j))))] (QI D (nI (ntd ln en at9)) [(b, .inr (3, [.ref a, .ref k, .ref g, .ref bc, .ref bl, .ref bx, .int (nI (wr)), .long (lv9)])), (bc, .inl (cs.2.1, 48, .inr (.inl (fun j => lN (ct j))))), (bl, .inl (cs.1, 48, .inl (lo))), (bx, .inl (cs.1, 48, .inl (ex))), (a, .inr (1, [.int (nI (rl)), .ref al, .ref ac, .ref ah, .ref an, .int (nI (fl))])), (al, .inl (cs.1, 48, .inl (fun j => nI (ln j)))), (ac, .inl (cs.1, 48, .inl (fun j => nI (cn j)))), (ah, .inl (cs.1, 17, .inl (fun j => nI (sn j)))), (an, .inl (cs.1, 17, .inl (fun j => nI (xn j)))), (g, .inr (2, [.ref gr, .int (nI (st)), .int (nI (sz))])), (gr, .inl (cs.1, 400, .inl (fun j => nI (rb j))))]) := by
  refine MG.mk (own := RB) (by decide) rfl (Nat.le_of_ble_eq_true rfl) ?_
  intro p e s m below meth c A C hr hlk
  refine g_lv (lv' := [(0, .ref b), (1, .int (nI (at9))), (2, .int (nI (en)))]) [0, 1, 2] rfl ?_
  refine g_aload_n C d_B_numberTold_0 0 rfl rfl ?_
  refine g_get C (T := FB) (N := 8) 0 0 inB rfl rfl (by decide) tw_105 rfl rfl d_B_numberTold_1 ?_
  refine g_iconst C (v := nI 0) d_B_numberTold_4 rfl ?_
  refine g_iload_n C d_B_numberTold_5 1 rfl rfl ?_
  refine g_iload_n C d_B_numberTold_6 2 rfl rfl ?_
  refine g_callVi C (n := 3) (ws' := [(b, .inr (3, [.ref a, .ref k, .ref g, .ref bc, .ref bl, .ref bx, .int (nI (wr)), .long (lv9)])), (bc, .inl (cs.2.1, 48, .inr (.inl (fun j => lN (ct j))))), (bl, .inl (cs.1, 48, .inl (lo))), (bx, .inl (cs.1, 48, .inl (ex))), (a, .inr (1, [.int (nI (rl)), .ref al, .ref ac, .ref ah, .ref an, .int (nI (fl))])), (al, .inl (cs.1, 48, .inl (fun j => nI (ln j)))), (ac, .inl (cs.1, 48, .inl (fun j => nI (cn j)))), (ah, .inl (cs.1, 17, .inl (fun j => nI (sn j)))), (an, .inl (cs.1, 17, .inl (fun j => nI (xn j)))), (g, .inr (2, [.ref gr, .int (nI (st)), .int (nI (sz))])), (gr, .inl (cs.1, 400, .inl (fun j => nI (rb j))))]) (As := [.int (nI (0)), .int (nI (at9)), .int (nI (en))]) (rest := []) (m_T_runOf l D cs a al ac ah an (rl) (ln) (cn) (sn) (xn) (fl) (0) (at9) (en) hl (by omega) he (by omega)) tw_159 tw_160 tw_161 tw_4 tw_162 rfl 0 rfl rfl (by decide +kernel) rfl ⟨rfl, rfl, by decide, by decide, by decide⟩ rfl [4, 5, 6, 7, 8] rfl rfl (by decide) (Nat.le_of_ble_eq_true rfl) rfl d_B_numberTold_7 ?_
  refine g_istore_n C (lv' := [(3, .int (nI (rnf (ln) (0) ((en) - (at9)) (at9)))), (0, .ref b), (1, .int (nI (at9))), (2, .int (nI (en)))]) d_B_numberTold_10 rfl (by decide) rfl ?_
  refine g_iload_n C d_B_numberTold_11 0 rfl rfl ?_
  refine g_iconst C (v := nI 3) d_B_numberTold_12 rfl ?_
  refine n_icmp_lt C 28 d_B_numberTold_13 (by decide) (by have := rnf_le ln 0 (en - at9) at9; omega) (by omega) (fun h13 => ?_) (fun h13 => ?_)
  · refine g_iload_n C d_B_numberTold_28 2 rfl rfl ?_
    refine n_if_ne C 36 d_B_numberTold_29 (by decide) (by omega) (fun h29 => ?_) (fun h29 => ?_)
    · refine g_aload_n C d_B_numberTold_36 1 rfl rfl ?_
      refine g_get C (T := FB) (N := 8) 0 0 inB rfl rfl (by decide) tw_105 rfl rfl d_B_numberTold_37 ?_
      refine g_aload_n C d_B_numberTold_40 1 rfl rfl ?_
      refine g_get C (T := FB) (N := 8) 0 0 inB rfl rfl (by decide) tw_105 rfl rfl d_B_numberTold_41 ?_
      refine g_getN C (T := FT) (N := 6) (k := 1) C.2.2.2.2.1 4 inT rfl rfl (by decide) rfl rfl d_B_numberTold_44 ?_
      refine g_iload_n C d_B_numberTold_47 2 rfl rfl ?_
      refine g_iconst C (v := nI 1) d_B_numberTold_48 rfl ?_
      refine g_isub C (v := nI ((at9) - (1))) d_B_numberTold_49 (pk_sub (by omega)) ?_
      refine g_iald C 5 rfl (by omega) (by decide) d_B_numberTold_50 ?_
      refine g_iload_n C d_B_numberTold_51 2 rfl rfl ?_
      refine g_iload_n C d_B_numberTold_52 3 rfl rfl ?_
      refine g_callVi C (n := 3) (ws' := [(b, .inr (3, [.ref a, .ref k, .ref g, .ref bc, .ref bl, .ref bx, .int (nI (wr)), .long (lv9)])), (bc, .inl (cs.2.1, 48, .inr (.inl (fun j => lN (ct j))))), (bl, .inl (cs.1, 48, .inl (lo))), (bx, .inl (cs.1, 48, .inl (ex))), (a, .inr (1, [.int (nI (rl)), .ref al, .ref ac, .ref ah, .ref an, .int (nI (fl))])), (al, .inl (cs.1, 48, .inl (fun j => nI (ln j)))), (ac, .inl (cs.1, 48, .inl (fun j => nI (cn j)))), (ah, .inl (cs.1, 17, .inl (fun j => nI (sn j)))), (an, .inl (cs.1, 17, .inl (fun j => nI (xn j)))), (g, .inr (2, [.ref gr, .int (nI (st)), .int (nI (sz))])), (gr, .inl (cs.1, 400, .inl (fun j => nI (rb j))))]) (As := [.int (nI (ln ((at9) - (1)))), .int (nI (at9)), .int (nI (en))]) (rest := []) (m_T_runOf l D cs a al ac ah an (rl) (ln) (cn) (sn) (xn) (fl) (ln ((at9) - (1))) (at9) (en) hl (by have := hl (at9 - 1) (by omega); omega) he (by omega)) tw_159 tw_160 tw_161 tw_4 tw_162 rfl 0 rfl rfl (by decide +kernel) rfl ⟨rfl, rfl, by decide, by decide, by decide⟩ rfl [4, 5, 6, 7, 8] rfl rfl (by decide) (Nat.le_of_ble_eq_true rfl) rfl d_B_numberTold_53 ?_
      refine g_istore C (lv' := [(4, .int (nI (rnf (ln) (ln ((at9) - (1))) ((en) - (at9)) (at9)))), (3, .int (nI (rnf (ln) (0) ((en) - (at9)) (at9)))), (0, .ref b), (1, .int (nI (at9))), (2, .int (nI (en)))]) d_B_numberTold_56 (by decide) rfl ?_
      refine g_iload C d_B_numberTold_58 0 rfl ?_
      refine g_iconst C (v := nI 3) d_B_numberTold_60 rfl ?_
      refine n_icmp_lt C 75 d_B_numberTold_61 (by decide) (by have := rnf_le ln (ln (at9 - 1)) (en - at9) at9; omega) (by omega) (fun h61 => ?_) (fun h61 => ?_)
      · refine g_aload_n C d_B_numberTold_75 2 rfl rfl ?_
        refine g_get C (T := FB) (N := 8) 0 0 inB rfl rfl (by decide) tw_105 rfl rfl d_B_numberTold_76 ?_
        refine g_getN C (T := FT) (N := 6) (k := 1) C.2.2.2.2.1 4 inT rfl rfl (by decide) rfl rfl d_B_numberTold_79 ?_
        refine g_iload_n C d_B_numberTold_82 3 rfl rfl ?_
        refine g_iald C 5 rfl (by omega) (by decide) d_B_numberTold_83 ?_
        exact g_iret C hr hlk (congrArg nI (by
      unfold ntd
      first
        | rw [if_pos (by assumption)]
        | (rw [if_neg (show ¬ 3 ≤ rnf ln 0 (en - at9) at9 by omega), if_neg (show ¬ at9 = 0 by omega), if_pos (by assumption)])
        | (rw [if_neg (show ¬ 3 ≤ rnf ln 0 (en - at9) at9 by omega), if_neg (show ¬ at9 = 0 by omega), if_neg (show ¬ 3 ≤ rnf ln (ln (at9 - 1)) (en - at9) at9 by omega)])
        | (rw [if_neg (show ¬ 3 ≤ rnf ln 0 (en - at9) at9 by omega), if_pos (show at9 = 0 by omega), if_neg (by omega)]))) rfl d_B_numberTold_84
      · refine g_bipush C (v := nI 100) d_B_numberTold_64 rfl ?_
        refine g_iload C d_B_numberTold_66 0 rfl ?_
        refine g_bipush C (v := nI 6) d_B_numberTold_68 rfl ?_
        refine g_mmin C tw_163 ⟨by decide, Nat.le_of_ble_eq_true rfl, by decide, by decide⟩ (by have := rnf_le ln (ln (at9 - 1)) (en - at9) at9; omega) (by omega) d_B_numberTold_70 ?_
        refine g_iadd C (v := nI (100 + (min (rnf (ln) (ln ((at9) - (1))) ((en) - (at9)) (at9)) (6)))) d_B_numberTold_73 (nI_add _ _) ?_
        exact g_iret C hr hlk (congrArg nI (by
      unfold ntd
      first
        | rw [if_pos (by assumption)]
        | (rw [if_neg (show ¬ 3 ≤ rnf ln 0 (en - at9) at9 by omega), if_neg (show ¬ at9 = 0 by omega), if_pos (by assumption)])
        | (rw [if_neg (show ¬ 3 ≤ rnf ln 0 (en - at9) at9 by omega), if_neg (show ¬ at9 = 0 by omega), if_neg (show ¬ 3 ≤ rnf ln (ln (at9 - 1)) (en - at9) at9 by omega)])
        | (rw [if_neg (show ¬ 3 ≤ rnf ln 0 (en - at9) at9 by omega), if_pos (show at9 = 0 by omega), if_neg (by omega)]))) rfl d_B_numberTold_74
    · refine g_iconst C (v := nI 0) d_B_numberTold_32 rfl ?_
      refine g_goto C 56 d_B_numberTold_33 (by decide) ?_
      refine g_istore C (lv' := [(4, .int (nI (0))), (3, .int (nI (rnf (ln) (0) ((en) - (at9)) (at9)))), (0, .ref b), (1, .int (nI (at9))), (2, .int (nI (en)))]) d_B_numberTold_56 (by decide) rfl ?_
      refine g_iload C d_B_numberTold_58 0 rfl ?_
      refine g_iconst C (v := nI 3) d_B_numberTold_60 rfl ?_
      refine n_icmp_lt C 75 d_B_numberTold_61 (by decide) (by omega) (by omega) (fun _ => ?_) (fun h => absurd h (by omega))
      refine g_aload_n C d_B_numberTold_75 2 rfl rfl ?_
      refine g_get C (T := FB) (N := 8) 0 0 inB rfl rfl (by decide) tw_105 rfl rfl d_B_numberTold_76 ?_
      refine g_getN C (T := FT) (N := 6) (k := 1) C.2.2.2.2.1 4 inT rfl rfl (by decide) rfl rfl d_B_numberTold_79 ?_
      refine g_iload_n C d_B_numberTold_82 3 rfl rfl ?_
      refine g_iald C 5 rfl (by omega) (by decide) d_B_numberTold_83 ?_
      exact g_iret C hr hlk (congrArg nI (by
      unfold ntd
      first
        | rw [if_pos (by assumption)]
        | (rw [if_neg (show ¬ 3 ≤ rnf ln 0 (en - at9) at9 by omega), if_neg (show ¬ at9 = 0 by omega), if_pos (by assumption)])
        | (rw [if_neg (show ¬ 3 ≤ rnf ln 0 (en - at9) at9 by omega), if_neg (show ¬ at9 = 0 by omega), if_neg (show ¬ 3 ≤ rnf ln (ln (at9 - 1)) (en - at9) at9 by omega)])
        | (rw [if_neg (show ¬ 3 ≤ rnf ln 0 (en - at9) at9 by omega), if_pos (show at9 = 0 by omega), if_neg (by omega)]))) rfl d_B_numberTold_84
  · refine g_sipush C (v := nI 200) d_B_numberTold_16 rfl ?_
    refine g_iload_n C d_B_numberTold_19 0 rfl rfl ?_
    refine g_sipush C (v := nI 138) d_B_numberTold_20 rfl ?_
    refine g_mmin C tw_163 ⟨by decide, Nat.le_of_ble_eq_true rfl, by decide, by decide⟩ (by have := rnf_le ln 0 (en - at9) at9; omega) (by omega) d_B_numberTold_23 ?_
    refine g_iadd C (v := nI (200 + (min (rnf (ln) (0) ((en) - (at9)) (at9)) (138)))) d_B_numberTold_26 (nI_add _ _) ?_
    exact g_iret C hr hlk (congrArg nI (by
      unfold ntd
      first
        | rw [if_pos (by assumption)]
        | (rw [if_neg (show ¬ 3 ≤ rnf ln 0 (en - at9) at9 by omega), if_neg (show ¬ at9 = 0 by omega), if_pos (by assumption)])
        | (rw [if_neg (show ¬ 3 ≤ rnf ln 0 (en - at9) at9 by omega), if_neg (show ¬ at9 = 0 by omega), if_neg (show ¬ 3 ≤ rnf ln (ln (at9 - 1)) (en - at9) at9 by omega)])
        | (rw [if_neg (show ¬ 3 ≤ rnf ln 0 (en - at9) at9 by omega), if_pos (show at9 = 0 by omega), if_neg (by omega)]))) rfl d_B_numberTold_27
set_option maxHeartbeats 4000000 in
set_option maxRecDepth 100000 in
theorem m_B_lengthsToldBy (l : Launch) (D : va_G) (cs : ClassId × ClassId × ClassId × ClassId) (t : Nat) (ht9 : t < 2 ^ 31) : MG l y_B_lengthsToldBy k_B_lengthsToldBy { frames := 0, cells := 0, slots := 0, locals := 0 } D cs [.int (nI (t))] [] (QI D (nI (ltb t)) []) := by
  refine MG.mk (own := RB) (by decide) rfl (Nat.le_of_ble_eq_true rfl) ?_
  intro p e s m below meth c A C hr hlk
  refine g_lv (lv' := [(0, .int (nI (t)))]) [0] rfl ?_
  refine g_iload_n C d_B_lengthsToldBy_0 0 rfl rfl ?_
  refine g_sipush C (v := nI 200) d_B_lengthsToldBy_1 rfl ?_
  refine n_icmp_le C 13 d_B_lengthsToldBy_4 (by decide) (by omega) (by omega) (fun h4 => ?_) (fun h4 => ?_)
  · refine g_iload_n C d_B_lengthsToldBy_13 0 rfl rfl ?_
    refine g_bipush C (v := nI 100) d_B_lengthsToldBy_14 rfl ?_
    refine n_icmp_le C 26 d_B_lengthsToldBy_16 (by decide) (by omega) (by omega) (fun h16 => ?_) (fun h16 => ?_)
    · refine g_iconst C (v := nI 1) d_B_lengthsToldBy_26 rfl ?_
      exact g_iret C hr hlk (congrArg nI (by unfold ltb; (repeat' split) <;> omega)) rfl d_B_lengthsToldBy_27
    · refine g_iload_n C d_B_lengthsToldBy_19 0 rfl rfl ?_
      refine g_bipush C (v := nI 100) d_B_lengthsToldBy_20 rfl ?_
      refine g_isub C (v := nI ((t) - (100))) d_B_lengthsToldBy_22 (pk_sub (by omega)) ?_
      refine g_goto C 27 d_B_lengthsToldBy_23 (by decide) ?_
      exact g_iret C hr hlk (congrArg nI (by unfold ltb; (repeat' split) <;> omega)) rfl d_B_lengthsToldBy_27
  · refine g_iload_n C d_B_lengthsToldBy_7 0 rfl rfl ?_
    refine g_sipush C (v := nI 200) d_B_lengthsToldBy_8 rfl ?_
    refine g_isub C (v := nI ((t) - (200))) d_B_lengthsToldBy_11 (pk_sub (by omega)) ?_
    exact g_iret C hr hlk (congrArg nI (by unfold ltb; (repeat' split) <;> omega)) rfl d_B_lengthsToldBy_12
set_option maxHeartbeats 4000000 in
set_option maxRecDepth 100000 in
theorem l_B_lgs {p : Program} {l : Launch} {e : Env} {s : State} {m : MethodId} {args : Array Value} {below : List Frame} {meth : Method} {c : Code} {A : Nat → Prop} {D : va_G} {cs : ClassId × ClassId × ClassId × ClassId} (C : CX p s m args c c_B_lengths 6 RB D cs A) (b k bc bl bx a al ac ah an g gr : Nat) (ct : Nat → Nat) (lo ex : Nat → Int32) (wr : Nat) (lv9 : Int64) (rl : Nat) (ln cn sn xn : Nat → Nat) (fl : Nat) (rb : Nat → Nat) (st sz : Nat) (i9 : Int32) (hl : ∀ j, j < 48 → ln j ≤ 16) (hr : meth.sig.returnType = some .int) (hlk : meth.locks = false)
    : ∀ (n : Nat) (q t : Nat), 48 - q = n → (q ≤ 48) → (t ≤ 400) → (rsl ln (eol ln 48) i9 48 0 0 = rsl ln (eol ln 48) i9 (48 - q) t q) → GO p l e { frames := 2, cells := 0, slots := 0, locals := 48 } s m args below meth c 0 0 (MQ below (QI D (rsl ln (eol ln 48) i9 48 0 0) [(b, .inr (3, [.ref a, .ref k, .ref g, .ref bc, .ref bl, .ref bx, .int (nI (wr)), .long (lv9)])), (bc, .inl (cs.2.1, 48, .inr (.inl (fun j => lN (ct j))))), (bl, .inl (cs.1, 48, .inl (lo))), (bx, .inl (cs.1, 48, .inl (ex))), (a, .inr (1, [.int (nI (rl)), .ref al, .ref ac, .ref ah, .ref an, .int (nI (fl))])), (al, .inl (cs.1, 48, .inl (fun j => nI (ln j)))), (ac, .inl (cs.1, 48, .inl (fun j => nI (cn j)))), (ah, .inl (cs.1, 17, .inl (fun j => nI (sn j)))), (an, .inl (cs.1, 17, .inl (fun j => nI (xn j)))), (g, .inr (2, [.ref gr, .int (nI (st)), .int (nI (sz))])), (gr, .inl (cs.1, 400, .inl (fun j => nI (rb j))))] A) args s 0 0 A) A D 6 13 [(0, .ref b), (1, .int (i9)), (2, .int (nI (eol ln 48))), (3, .int (nI (t))), (4, .int (nI (q)))] [] [(b, .inr (3, [.ref a, .ref k, .ref g, .ref bc, .ref bl, .ref bx, .int (nI (wr)), .long (lv9)])), (bc, .inl (cs.2.1, 48, .inr (.inl (fun j => lN (ct j))))), (bl, .inl (cs.1, 48, .inl (lo))), (bx, .inl (cs.1, 48, .inl (ex))), (a, .inr (1, [.int (nI (rl)), .ref al, .ref ac, .ref ah, .ref an, .int (nI (fl))])), (al, .inl (cs.1, 48, .inl (fun j => nI (ln j)))), (ac, .inl (cs.1, 48, .inl (fun j => nI (cn j)))), (ah, .inl (cs.1, 17, .inl (fun j => nI (sn j)))), (an, .inl (cs.1, 17, .inl (fun j => nI (xn j)))), (g, .inr (2, [.ref gr, .int (nI (st)), .int (nI (sz))])), (gr, .inl (cs.1, 400, .inl (fun j => nI (rb j))))] := by
  intro n
  induction n using Nat.strongRecOn with
  | _ n ih =>
  intro q t  hn hq ht he
  refine g_iload C d_B_lengths_13 4 rfl ?_
  refine g_bipush C (v := nI 48) d_B_lengths_15 rfl ?_
  refine n_icmp_ge C 56 d_B_lengths_17 (by decide) (by omega) (by omega) (fun h17 => ?_) (fun h17 => ?_)
  · refine g_iconst C (v := (-1)) d_B_lengths_56 rfl ?_
    exact g_iret C hr hlk (by rw [he]; first | exact (rsl_end (by omega) _).symm | (rw [show 48 - q = 0 by omega]; rfl)) rfl d_B_lengths_57
  · refine g_iload_n C d_B_lengths_20 3 rfl rfl ?_
    refine g_iload_n C d_B_lengths_21 2 rfl rfl ?_
    refine n_icmp_ge C 56 d_B_lengths_22 (by decide) (by omega) (by have := eol_le ln 48; omega) (fun h22 => ?_) (fun h22 => ?_)
    · refine g_iconst C (v := (-1)) d_B_lengths_56 rfl ?_
      exact g_iret C hr hlk (by rw [he]; first | exact (rsl_end (by omega) _).symm | (rw [show 48 - q = 0 by omega]; rfl)) rfl d_B_lengths_57
    · refine g_aload_n C d_B_lengths_25 0 rfl rfl ?_
      refine g_iload_n C d_B_lengths_26 3 rfl rfl ?_
      refine g_iload_n C d_B_lengths_27 2 rfl rfl ?_
      refine g_callVi C (n := 2) (ws' := [(b, .inr (3, [.ref a, .ref k, .ref g, .ref bc, .ref bl, .ref bx, .int (nI (wr)), .long (lv9)])), (bc, .inl (cs.2.1, 48, .inr (.inl (fun j => lN (ct j))))), (bl, .inl (cs.1, 48, .inl (lo))), (bx, .inl (cs.1, 48, .inl (ex))), (a, .inr (1, [.int (nI (rl)), .ref al, .ref ac, .ref ah, .ref an, .int (nI (fl))])), (al, .inl (cs.1, 48, .inl (fun j => nI (ln j)))), (ac, .inl (cs.1, 48, .inl (fun j => nI (cn j)))), (ah, .inl (cs.1, 17, .inl (fun j => nI (sn j)))), (an, .inl (cs.1, 17, .inl (fun j => nI (xn j)))), (g, .inr (2, [.ref gr, .int (nI (st)), .int (nI (sz))])), (gr, .inl (cs.1, 400, .inl (fun j => nI (rb j))))]) (As := [.int (nI (t)), .int (nI (eol ln 48))]) (rest := []) (m_B_numberTold l D cs b k bc bl bx a al ac ah an g gr (ct) (lo) (ex) (wr) (lv9) (rl) (ln) (cn) (sn) (xn) (fl) (rb) (st) (sz) (t) (eol ln 48) hl (eol_le ln 48) (by omega)) tw_155 tw_157 ts_2 tw_1 tw_158 rfl 0 rfl rfl (by decide +kernel) rfl ⟨rfl, rfl, by decide, by decide, by decide⟩ rfl [0, 1, 2, 3, 4, 5, 6, 7, 8, 9, 10] rfl rfl (by decide) (Nat.le_of_ble_eq_true rfl) rfl d_B_lengths_28 ?_
      refine g_istore C (lv' := [(5, .int (nI (ntd (ln) (eol ln 48) (t)))), (0, .ref b), (1, .int (i9)), (2, .int (nI (eol ln 48))), (3, .int (nI (t))), (4, .int (nI (q)))]) d_B_lengths_31 (by decide) rfl ?_
      refine g_iload C d_B_lengths_33 5 rfl ?_
      refine g_iload_n C d_B_lengths_35 2 rfl rfl ?_
      refine g_icmp_ne C 42 d_B_lengths_36 (by decide) (fun h36 => ?_) (fun h36 => ?_)
      · refine g_iload_n C d_B_lengths_42 4 rfl rfl ?_
        refine g_iload C d_B_lengths_43 0 rfl ?_
        refine g_callSi C (n := 1) (ws' := [(b, .inr (3, [.ref a, .ref k, .ref g, .ref bc, .ref bl, .ref bx, .int (nI (wr)), .long (lv9)])), (bc, .inl (cs.2.1, 48, .inr (.inl (fun j => lN (ct j))))), (bl, .inl (cs.1, 48, .inl (lo))), (bx, .inl (cs.1, 48, .inl (ex))), (a, .inr (1, [.int (nI (rl)), .ref al, .ref ac, .ref ah, .ref an, .int (nI (fl))])), (al, .inl (cs.1, 48, .inl (fun j => nI (ln j)))), (ac, .inl (cs.1, 48, .inl (fun j => nI (cn j)))), (ah, .inl (cs.1, 17, .inl (fun j => nI (sn j)))), (an, .inl (cs.1, 17, .inl (fun j => nI (xn j)))), (g, .inr (2, [.ref gr, .int (nI (st)), .int (nI (sz))])), (gr, .inl (cs.1, 400, .inl (fun j => nI (rb j))))]) (As := [.int (nI (ntd (ln) (eol ln 48) (t)))]) (rest := [.int (nI (t))]) (m_B_lengthsToldBy l D cs (ntd (ln) (eol ln 48) (t)) (by have := ntd_le (en := eol ln 48) hl (at9 := t) (by have := eol_le ln 48; omega); omega)) tw_166 tw_167 tw_1 tw_168 (by decide +kernel) rfl ⟨rfl, rfl, by decide, by decide, by decide⟩ rfl [] rfl rfl (by decide) (Nat.le_of_ble_eq_true rfl) rfl d_B_lengths_45 ?_
        refine g_iadd C (v := nI (t + (ltb (ntd (ln) (eol ln 48) (t))))) d_B_lengths_48 (nI_add _ _) ?_
        refine g_istore_n C (lv' := [(3, .int (nI (t + (ltb (ntd (ln) (eol ln 48) (t)))))), (5, .int (nI (ntd (ln) (eol ln 48) (t)))), (0, .ref b), (1, .int (i9)), (2, .int (nI (eol ln 48))), (4, .int (nI (q)))]) d_B_lengths_49 rfl (by decide) rfl ?_
        refine g_iinc C (lv' := [(4, .int (nI (q + 1))), (3, .int (nI (t + (ltb (ntd (ln) (eol ln 48) (t)))))), (5, .int (nI (ntd (ln) (eol ln 48) (t)))), (0, .ref b), (1, .int (i9)), (2, .int (nI (eol ln 48)))]) (k := 5) d_B_lengths_50 rfl (nI_1 _) (by decide) rfl ?_
        refine g_goto C 13 d_B_lengths_53 (by decide) ?_
        refine g_lv (lv' := [(0, .ref b), (1, .int (i9)), (2, .int (nI (eol ln 48))), (3, .int (nI (t + (ltb (ntd (ln) (eol ln 48) (t)))))), (4, .int (nI (q + 1)))]) [3, 4, 5, 1, 0] rfl ?_
        exact ih (48 - (q + 1)) (by omega) (q + 1) _ rfl (by omega) (by have := ltb_le (ntd_le (en := eol ln 48) hl (at9 := t) (by have := eol_le ln 48; omega)); have := eol_le ln 48; omega) (by rw [he, rsl_next (by omega) (by omega) h36])
      · refine g_iload C d_B_lengths_39 0 rfl ?_
        exact g_iret C hr hlk (by rw [he, rsl_hit (by omega) (by omega) (Classical.not_not.mp h36)]) rfl d_B_lengths_41
set_option maxHeartbeats 4000000 in
set_option maxRecDepth 100000 in
theorem m_B_lengths (l : Launch) (D : va_G) (cs : ClassId × ClassId × ClassId × ClassId) (b k bc bl bx a al ac ah an g gr : Nat) (ct : Nat → Nat) (lo ex : Nat → Int32) (wr : Nat) (lv9 : Int64) (rl : Nat) (ln cn sn xn : Nat → Nat) (fl : Nat) (rb : Nat → Nat) (st sz : Nat) (i9 : Int32) (hl : ∀ j, j < 48 → ln j ≤ 16) : MG l y_B_lengths k_B_lengths { frames := 2, cells := 0, slots := 0, locals := 48 } D cs [.ref b, .int (i9)] [(b, .inr (3, [.ref a, .ref k, .ref g, .ref bc, .ref bl, .ref bx, .int (nI (wr)), .long (lv9)])), (bc, .inl (cs.2.1, 48, .inr (.inl (fun j => lN (ct j))))), (bl, .inl (cs.1, 48, .inl (lo))), (bx, .inl (cs.1, 48, .inl (ex))), (a, .inr (1, [.int (nI (rl)), .ref al, .ref ac, .ref ah, .ref an, .int (nI (fl))])), (al, .inl (cs.1, 48, .inl (fun j => nI (ln j)))), (ac, .inl (cs.1, 48, .inl (fun j => nI (cn j)))), (ah, .inl (cs.1, 17, .inl (fun j => nI (sn j)))), (an, .inl (cs.1, 17, .inl (fun j => nI (xn j)))), (g, .inr (2, [.ref gr, .int (nI (st)), .int (nI (sz))])), (gr, .inl (cs.1, 400, .inl (fun j => nI (rb j))))] (QI D (rsl ln (eol ln 48) i9 48 0 0) [(b, .inr (3, [.ref a, .ref k, .ref g, .ref bc, .ref bl, .ref bx, .int (nI (wr)), .long (lv9)])), (bc, .inl (cs.2.1, 48, .inr (.inl (fun j => lN (ct j))))), (bl, .inl (cs.1, 48, .inl (lo))), (bx, .inl (cs.1, 48, .inl (ex))), (a, .inr (1, [.int (nI (rl)), .ref al, .ref ac, .ref ah, .ref an, .int (nI (fl))])), (al, .inl (cs.1, 48, .inl (fun j => nI (ln j)))), (ac, .inl (cs.1, 48, .inl (fun j => nI (cn j)))), (ah, .inl (cs.1, 17, .inl (fun j => nI (sn j)))), (an, .inl (cs.1, 17, .inl (fun j => nI (xn j)))), (g, .inr (2, [.ref gr, .int (nI (st)), .int (nI (sz))])), (gr, .inl (cs.1, 400, .inl (fun j => nI (rb j))))]) := by
  refine MG.mk (own := RB) (by decide) rfl (Nat.le_of_ble_eq_true rfl) ?_
  intro p e s m below meth c A C hr hlk
  refine g_lv (lv' := [(0, .ref b), (1, .int (i9))]) [0, 1] rfl ?_
  refine g_aload_n C d_B_lengths_0 0 rfl rfl ?_
  refine g_get C (T := FB) (N := 8) 0 0 inB rfl rfl (by decide) tw_105 rfl rfl d_B_lengths_1 ?_
  refine g_callVi C (n := 0) (ws' := [(b, .inr (3, [.ref a, .ref k, .ref g, .ref bc, .ref bl, .ref bx, .int (nI (wr)), .long (lv9)])), (bc, .inl (cs.2.1, 48, .inr (.inl (fun j => lN (ct j))))), (bl, .inl (cs.1, 48, .inl (lo))), (bx, .inl (cs.1, 48, .inl (ex))), (a, .inr (1, [.int (nI (rl)), .ref al, .ref ac, .ref ah, .ref an, .int (nI (fl))])), (al, .inl (cs.1, 48, .inl (fun j => nI (ln j)))), (ac, .inl (cs.1, 48, .inl (fun j => nI (cn j)))), (ah, .inl (cs.1, 17, .inl (fun j => nI (sn j)))), (an, .inl (cs.1, 17, .inl (fun j => nI (xn j)))), (g, .inr (2, [.ref gr, .int (nI (st)), .int (nI (sz))])), (gr, .inl (cs.1, 400, .inl (fun j => nI (rb j))))]) (As := []) (rest := []) (m_T_endOfLengths l D cs a al ac ah an (rl) (ln) (cn) (sn) (xn) (fl) hl) tw_151 tw_152 tw_153 tw_4 tw_154 rfl 0 rfl rfl (by decide +kernel) rfl ⟨rfl, rfl, by decide, by decide, by decide⟩ rfl [4, 5, 6, 7, 8] rfl rfl (by decide) (Nat.le_of_ble_eq_true rfl) rfl d_B_lengths_4 ?_
  refine g_istore_n C (lv' := [(2, .int (nI (eol (ln) 48))), (0, .ref b), (1, .int (i9))]) d_B_lengths_7 rfl (by decide) rfl ?_
  refine g_iconst C (v := nI 0) d_B_lengths_8 rfl ?_
  refine g_istore_n C (lv' := [(3, .int (nI (0))), (2, .int (nI (eol (ln) 48))), (0, .ref b), (1, .int (i9))]) d_B_lengths_9 rfl (by decide) rfl ?_
  refine g_iconst C (v := nI 0) d_B_lengths_10 rfl ?_
  refine g_istore C (lv' := [(4, .int (nI (0))), (3, .int (nI (0))), (2, .int (nI (eol (ln) 48))), (0, .ref b), (1, .int (i9))]) d_B_lengths_11 (by decide) rfl ?_
  refine g_lv (lv' := [(0, .ref b), (1, .int (i9)), (2, .int (nI (eol (ln) 48))), (3, .int (nI (0))), (4, .int (nI (0)))]) [3, 4, 2, 1, 0] rfl ?_
  exact l_B_lgs C b k bc bl bx a al ac ah an g gr ct lo ex wr lv9 rl ln cn sn xn fl rb st sz i9 hl hr hlk _ 0 0 rfl (by omega) (by omega) rfl
end
section
set_option maxHeartbeats 4000000 in
set_option maxRecDepth 100000 in
theorem l_B_clr {p : Program} {l : Launch} {e : Env} {s : State} {m : MethodId} {args : Array Value} {below : List Frame} {meth : Method} {c : Code} {Q : State → Prop} {A : Nat → Prop} {D : va_G} {cs : ClassId × ClassId × ClassId × ClassId} (C : CX p s m args c c_B_clear 2 RB D cs A) (b k bc bl bx a al ac ah an g gr : Nat) (ct : Nat → Nat) (lo ex : Nat → Int32) (wr : Nat) (lv9 : Int64) (rl : Nat) (ln cn sn xn : Nat → Nat) (fl : Nat) (rb : Nat → Nat) (st sz : Nat) 
    (K : GO p l e { frames := 3, cells := 0, slots := 0, locals := 64 } s m args below meth c 0 0 Q A D 2 31 [(0, .ref b)] [] [(b, .inr (3, [.ref a, .ref k, .ref g, .ref bc, .ref bl, .ref bx, .int (nI (wr)), .long (lv9)])), (bc, .inl (cs.2.1, 48, .inr (.inl (fun j => lN ((fun _ => 0) j))))), (bl, .inl (cs.1, 48, .inl (lo))), (bx, .inl (cs.1, 48, .inl (ex))), (a, .inr (1, [.int (nI (rl)), .ref al, .ref ac, .ref ah, .ref an, .int (nI (fl))])), (al, .inl (cs.1, 48, .inl (fun j => nI ((fun _ => 0) j)))), (ac, .inl (cs.1, 48, .inl (fun j => nI (cn j)))), (ah, .inl (cs.1, 17, .inl (fun j => nI (sn j)))), (an, .inl (cs.1, 17, .inl (fun j => nI (xn j)))), (g, .inr (2, [.ref gr, .int (nI (st)), .int (nI (sz))])), (gr, .inl (cs.1, 400, .inl (fun j => nI (rb j))))])
    : ∀ (n : Nat) (i : Nat) (ct2 ln2 : Nat → Nat), 48 - i = n → (i ≤ 48) → (∀ j, j < i → ct2 j = 0 ∧ ln2 j = 0) → GO p l e { frames := 3, cells := 0, slots := 0, locals := 64 } s m args below meth c 0 0 Q A D 2 2 [(0, .ref b), (1, .int (nI (i)))] [] [(b, .inr (3, [.ref a, .ref k, .ref g, .ref bc, .ref bl, .ref bx, .int (nI (wr)), .long (lv9)])), (bc, .inl (cs.2.1, 48, .inr (.inl (fun j => lN (ct2 j))))), (bl, .inl (cs.1, 48, .inl (lo))), (bx, .inl (cs.1, 48, .inl (ex))), (a, .inr (1, [.int (nI (rl)), .ref al, .ref ac, .ref ah, .ref an, .int (nI (fl))])), (al, .inl (cs.1, 48, .inl (fun j => nI (ln2 j)))), (ac, .inl (cs.1, 48, .inl (fun j => nI (cn j)))), (ah, .inl (cs.1, 17, .inl (fun j => nI (sn j)))), (an, .inl (cs.1, 17, .inl (fun j => nI (xn j)))), (g, .inr (2, [.ref gr, .int (nI (st)), .int (nI (sz))])), (gr, .inl (cs.1, 400, .inl (fun j => nI (rb j))))] := by
  intro n
  induction n using Nat.strongRecOn with
  | _ n ih =>
  intro i  ct2 ln2  hn hi hq
  refine g_iload_n C d_B_clear_2 1 rfl rfl ?_
  refine g_bipush C (v := nI 48) d_B_clear_3 rfl ?_
  refine n_icmp_ge C 31 d_B_clear_5 (by decide) (by omega) (by omega) (fun h5 => ?_) (fun h5 => ?_)
  · refine g_lv (lv' := [(0, .ref b)]) [0] rfl ?_
    refine n_cl (f2 := fun _ => 0) (ws' := [(b, .inr (3, [.ref a, .ref k, .ref g, .ref bc, .ref bl, .ref bx, .int (nI (wr)), .long (lv9)])), (bc, .inl (cs.2.1, 48, .inr (.inl (fun j => lN ((fun _ => 0) j))))), (bl, .inl (cs.1, 48, .inl (lo))), (bx, .inl (cs.1, 48, .inl (ex))), (a, .inr (1, [.int (nI (rl)), .ref al, .ref ac, .ref ah, .ref an, .int (nI (fl))])), (al, .inl (cs.1, 48, .inl (fun j => nI (ln2 j)))), (ac, .inl (cs.1, 48, .inl (fun j => nI (cn j)))), (ah, .inl (cs.1, 17, .inl (fun j => nI (sn j)))), (an, .inl (cs.1, 17, .inl (fun j => nI (xn j)))), (g, .inr (2, [.ref gr, .int (nI (st)), .int (nI (sz))])), (gr, .inl (cs.1, 400, .inl (fun j => nI (rb j))))]) 1 rfl (fun j hj => (hq j (by omega)).1) rfl ?_
    refine n_ci (f2 := fun _ => 0) (ws' := [(b, .inr (3, [.ref a, .ref k, .ref g, .ref bc, .ref bl, .ref bx, .int (nI (wr)), .long (lv9)])), (bc, .inl (cs.2.1, 48, .inr (.inl (fun j => lN ((fun _ => 0) j))))), (bl, .inl (cs.1, 48, .inl (lo))), (bx, .inl (cs.1, 48, .inl (ex))), (a, .inr (1, [.int (nI (rl)), .ref al, .ref ac, .ref ah, .ref an, .int (nI (fl))])), (al, .inl (cs.1, 48, .inl (fun j => nI ((fun _ => 0) j)))), (ac, .inl (cs.1, 48, .inl (fun j => nI (cn j)))), (ah, .inl (cs.1, 17, .inl (fun j => nI (sn j)))), (an, .inl (cs.1, 17, .inl (fun j => nI (xn j)))), (g, .inr (2, [.ref gr, .int (nI (st)), .int (nI (sz))])), (gr, .inl (cs.1, 400, .inl (fun j => nI (rb j))))]) 5 rfl (fun j hj => (hq j (by omega)).2) rfl ?_
    exact K
  · refine g_aload_n C d_B_clear_8 0 rfl rfl ?_
    refine g_get C (T := FB) (N := 8) 0 3 inB rfl rfl (by decide) tw_108 rfl rfl d_B_clear_9 ?_
    refine g_iload_n C d_B_clear_12 1 rfl rfl ?_
    refine g_lconst C (v := lN 0) d_B_clear_13 rfl ?_
    refine n_last C (ws' := [(b, .inr (3, [.ref a, .ref k, .ref g, .ref bc, .ref bl, .ref bx, .int (nI (wr)), .long (lv9)])), (bc, .inl (cs.2.1, 48, .inr (.inl (fun j => lN ((updN (ct2) (i) (0)) j))))), (bl, .inl (cs.1, 48, .inl (lo))), (bx, .inl (cs.1, 48, .inl (ex))), (a, .inr (1, [.int (nI (rl)), .ref al, .ref ac, .ref ah, .ref an, .int (nI (fl))])), (al, .inl (cs.1, 48, .inl (fun j => nI (ln2 j)))), (ac, .inl (cs.1, 48, .inl (fun j => nI (cn j)))), (ah, .inl (cs.1, 17, .inl (fun j => nI (sn j)))), (an, .inl (cs.1, 17, .inl (fun j => nI (xn j)))), (g, .inr (2, [.ref gr, .int (nI (st)), .int (nI (sz))])), (gr, .inl (cs.1, 400, .inl (fun j => nI (rb j))))]) 1 rfl (by omega) (by decide) rfl d_B_clear_14 ?_
    refine g_aload_n C d_B_clear_15 0 rfl rfl ?_
    refine g_get C (T := FB) (N := 8) 0 0 inB rfl rfl (by decide) tw_105 rfl rfl d_B_clear_16 ?_
    refine g_getN C (T := FT) (N := 6) (k := 1) C.2.2.2.2.1 4 inT rfl rfl (by decide) rfl rfl d_B_clear_19 ?_
    refine g_iload_n C d_B_clear_22 1 rfl rfl ?_
    refine g_iconst C (v := nI 0) d_B_clear_23 rfl ?_
    refine n_iast C (ws' := [(b, .inr (3, [.ref a, .ref k, .ref g, .ref bc, .ref bl, .ref bx, .int (nI (wr)), .long (lv9)])), (bc, .inl (cs.2.1, 48, .inr (.inl (fun j => lN ((updN (ct2) (i) (0)) j))))), (bl, .inl (cs.1, 48, .inl (lo))), (bx, .inl (cs.1, 48, .inl (ex))), (a, .inr (1, [.int (nI (rl)), .ref al, .ref ac, .ref ah, .ref an, .int (nI (fl))])), (al, .inl (cs.1, 48, .inl (fun j => nI ((updN (ln2) (i) (0)) j)))), (ac, .inl (cs.1, 48, .inl (fun j => nI (cn j)))), (ah, .inl (cs.1, 17, .inl (fun j => nI (sn j)))), (an, .inl (cs.1, 17, .inl (fun j => nI (xn j)))), (g, .inr (2, [.ref gr, .int (nI (st)), .int (nI (sz))])), (gr, .inl (cs.1, 400, .inl (fun j => nI (rb j))))]) 5 rfl (by omega) (by decide) rfl d_B_clear_24 ?_
    refine g_iinc C (lv' := [(1, .int (nI (i + 1))), (0, .ref b)]) (k := 1) d_B_clear_25 rfl (nI_1 _) (by decide) rfl ?_
    refine g_goto C 2 d_B_clear_28 (by decide) ?_
    refine g_lv (lv' := [(0, .ref b), (1, .int (nI (i + 1)))]) [1, 0] rfl ?_
    exact ih (48 - (i + 1)) (by omega) (i + 1) _ _ rfl (by omega) (fun j hj => by
      unfold updN
      by_cases e : j = i
      · subst e; simp
      · simp only [e, if_false]; exact hq j (by omega))
set_option maxHeartbeats 4000000 in
set_option maxRecDepth 100000 in
theorem m_B_clear (l : Launch) (D : va_G) (cs : ClassId × ClassId × ClassId × ClassId) (b k bc bl bx a al ac ah an g gr : Nat) (ct : Nat → Nat) (lo ex : Nat → Int32) (wr : Nat) (lv9 : Int64) (rl : Nat) (ln cn sn xn : Nat → Nat) (fl : Nat) (rb : Nat → Nat) (st sz : Nat) (hrl : rl < 3) (hs : st < 400) (hz : sz ≤ 400) : MG l y_B_clear k_B_clear { frames := 3, cells := 0, slots := 0, locals := 64 } D cs [.ref b] [(b, .inr (3, [.ref a, .ref k, .ref g, .ref bc, .ref bl, .ref bx, .int (nI (wr)), .long (lv9)])), (bc, .inl (cs.2.1, 48, .inr (.inl (fun j => lN (ct j))))), (bl, .inl (cs.1, 48, .inl (lo))), (bx, .inl (cs.1, 48, .inl (ex))), (a, .inr (1, [.int (nI (rl)), .ref al, .ref ac, .ref ah, .ref an, .int (nI (fl))])), (al, .inl (cs.1, 48, .inl (fun j => nI (ln j)))), (ac, .inl (cs.1, 48, .inl (fun j => nI (cn j)))), (ah, .inl (cs.1, 17, .inl (fun j => nI (sn j)))), (an, .inl (cs.1, 17, .inl (fun j => nI (xn j)))), (g, .inr (2, [.ref gr, .int (nI (st)), .int (nI (sz))])), (gr, .inl (cs.1, 400, .inl (fun j => nI (rb j))))] (QV D [(b, .inr (3, [.ref a, .ref k, .ref g, .ref bc, .ref bl, .ref bx, .int (nI (0)), .long (lv9)])), (bc, .inl (cs.2.1, 48, .inr (.inl (fun j => lN ((fun _ => 0) j))))), (bl, .inl (cs.1, 48, .inl (fun j => nI j))), (bx, .inl (cs.1, 48, .inl (fun _ => nI 0))), (a, .inr (1, [.int (nI (rl)), .ref al, .ref ac, .ref ah, .ref an, .int (nI (fll ((fun _ => 0))))])), (al, .inl (cs.1, 48, .inl (fun j => nI ((fun _ => 0) j)))), (ac, .inl (cs.1, 48, .inl (fun j => nI ((cN (rl) ((fun _ => 0)) (cn)) j)))), (ah, .inl (cs.1, 17, .inl (fun j => nI ((shr ((fun _ => 0)) 48) j)))), (an, .inl (cs.1, 17, .inl (fun j => nI ((xN (rl) ((fun _ => 0)) (xn)) j)))), (g, .inr (2, [.ref gr, .int (nI (((st) + (sz)) % 400)), .int (nI ((sz) - (sz)))])), (gr, .inl (cs.1, 400, .inl (fun j => nI (rb j))))]) := by
  refine MG.mk (own := RB) (by decide) rfl (Nat.le_of_ble_eq_true rfl) ?_
  intro p e s m below meth c A C hr hlk
  refine g_lv (lv' := [(0, .ref b)]) [0] rfl ?_
  refine g_iconst C (v := nI 0) d_B_clear_0 rfl ?_
  refine g_istore_n C (lv' := [(1, .int (nI (0))), (0, .ref b)]) d_B_clear_1 rfl (by decide) rfl ?_
  refine g_lv (lv' := [(0, .ref b), (1, .int (nI (0)))]) [1, 0] rfl ?_
  refine l_B_clr C b k bc bl bx a al ac ah an g gr ct lo ex wr lv9 rl ln cn sn xn fl rb st sz ?_ _ 0 ct ln rfl (by omega) (fun j hj => absurd hj (by omega))
  refine g_aload_n C d_B_clear_31 0 rfl rfl ?_
  refine g_get C (T := FB) (N := 8) 0 0 inB rfl rfl (by decide) tw_105 rfl rfl d_B_clear_32 ?_
  refine g_callVv C (n := 0) (ws' := [(b, .inr (3, [.ref a, .ref k, .ref g, .ref bc, .ref bl, .ref bx, .int (nI (wr)), .long (lv9)])), (bc, .inl (cs.2.1, 48, .inr (.inl (fun j => lN ((fun _ => 0) j))))), (bl, .inl (cs.1, 48, .inl (lo))), (bx, .inl (cs.1, 48, .inl (ex))), (a, .inr (1, [.int (nI (rl)), .ref al, .ref ac, .ref ah, .ref an, .int (nI (fll ((fun _ => 0))))])), (al, .inl (cs.1, 48, .inl (fun j => nI ((fun _ => 0) j)))), (ac, .inl (cs.1, 48, .inl (fun j => nI ((cN (rl) ((fun _ => 0)) (cn)) j)))), (ah, .inl (cs.1, 17, .inl (fun j => nI ((shr ((fun _ => 0)) 48) j)))), (an, .inl (cs.1, 17, .inl (fun j => nI ((xN (rl) ((fun _ => 0)) (xn)) j)))), (g, .inr (2, [.ref gr, .int (nI (st)), .int (nI (sz))])), (gr, .inl (cs.1, 400, .inl (fun j => nI (rb j))))]) (As := []) (rest := []) (m_T_renew l D cs a al ac ah an (rl) ((fun _ => 0)) (cn) (sn) (xn) (fl) (fun j hj => Nat.zero_le _) hrl) tw_173 tw_174 tw_175 tw_4 tw_176 rfl 0 rfl rfl (by decide +kernel) rfl ⟨rfl, rfl, by decide, by decide, by decide⟩ rfl [4, 5, 6, 7, 8] rfl rfl (by decide) (Nat.le_of_ble_eq_true rfl) rfl d_B_clear_35 ?_
  refine g_aload_n C d_B_clear_38 0 rfl rfl ?_
  refine g_callVv C (n := 0) (ws' := [(b, .inr (3, [.ref a, .ref k, .ref g, .ref bc, .ref bl, .ref bx, .int (nI (wr)), .long (lv9)])), (bc, .inl (cs.2.1, 48, .inr (.inl (fun j => lN ((fun _ => 0) j))))), (bl, .inl (cs.1, 48, .inl (fun j => nI j))), (bx, .inl (cs.1, 48, .inl (fun _ => nI 0))), (a, .inr (1, [.int (nI (rl)), .ref al, .ref ac, .ref ah, .ref an, .int (nI (fll ((fun _ => 0))))])), (al, .inl (cs.1, 48, .inl (fun j => nI ((fun _ => 0) j)))), (ac, .inl (cs.1, 48, .inl (fun j => nI ((cN (rl) ((fun _ => 0)) (cn)) j)))), (ah, .inl (cs.1, 17, .inl (fun j => nI ((shr ((fun _ => 0)) 48) j)))), (an, .inl (cs.1, 17, .inl (fun j => nI ((xN (rl) ((fun _ => 0)) (xn)) j)))), (g, .inr (2, [.ref gr, .int (nI (st)), .int (nI (sz))])), (gr, .inl (cs.1, 400, .inl (fun j => nI (rb j))))]) (As := []) (rest := []) (m_B_dropAllRanges l D cs b k bc bl bx a al ac ah an g gr ((fun _ => 0)) (lo) (ex) (wr) (lv9) (rl) ((fun _ => 0)) ((cN (rl) ((fun _ => 0)) (cn))) ((shr ((fun _ => 0)) 48)) ((xN (rl) ((fun _ => 0)) (xn))) (fll ((fun _ => 0))) (rb) (st) (sz) ) tw_97 tw_99 ts_0 tw_1 tw_100 rfl 0 rfl rfl (by decide +kernel) rfl ⟨rfl, rfl, by decide, by decide, by decide⟩ rfl [0, 1, 2, 3, 4, 5, 6, 7, 8, 9, 10] rfl rfl (by decide) (Nat.le_of_ble_eq_true rfl) rfl d_B_clear_39 ?_
  refine g_aload_n C d_B_clear_42 0 rfl rfl ?_
  refine g_get C (T := FB) (N := 8) 0 2 inB rfl rfl (by decide) tw_107 rfl rfl d_B_clear_43 ?_
  refine g_aload_n C d_B_clear_46 0 rfl rfl ?_
  refine g_get C (T := FB) (N := 8) 0 2 inB rfl rfl (by decide) tw_107 rfl rfl d_B_clear_47 ?_
  refine g_getN C (T := FG) (N := 3) (k := 2) C.2.2.2.1 9 inG rfl rfl (by decide) rfl rfl d_B_clear_50 ?_
  refine g_callVv C (n := 1) (ws' := [(b, .inr (3, [.ref a, .ref k, .ref g, .ref bc, .ref bl, .ref bx, .int (nI (wr)), .long (lv9)])), (bc, .inl (cs.2.1, 48, .inr (.inl (fun j => lN ((fun _ => 0) j))))), (bl, .inl (cs.1, 48, .inl (fun j => nI j))), (bx, .inl (cs.1, 48, .inl (fun _ => nI 0))), (a, .inr (1, [.int (nI (rl)), .ref al, .ref ac, .ref ah, .ref an, .int (nI (fll ((fun _ => 0))))])), (al, .inl (cs.1, 48, .inl (fun j => nI ((fun _ => 0) j)))), (ac, .inl (cs.1, 48, .inl (fun j => nI ((cN (rl) ((fun _ => 0)) (cn)) j)))), (ah, .inl (cs.1, 17, .inl (fun j => nI ((shr ((fun _ => 0)) 48) j)))), (an, .inl (cs.1, 17, .inl (fun j => nI ((xN (rl) ((fun _ => 0)) (xn)) j)))), (g, .inr (2, [.ref gr, .int (nI (((st) + (sz)) % 400)), .int (nI ((sz) - (sz)))])), (gr, .inl (cs.1, 400, .inl (fun j => nI (rb j))))]) (As := [.int (nI (sz))]) (rest := []) (m_G_drop l D cs g gr (rb) (st) (sz) (sz) hs hz (Nat.le_refl _)) tw_197 tw_198 tw_199 tw_3 tw_200 rfl 0 rfl rfl (by decide +kernel) rfl ⟨rfl, rfl, by decide, by decide, by decide⟩ rfl [9, 10] rfl rfl (by decide) (Nat.le_of_ble_eq_true rfl) rfl d_B_clear_53 ?_
  refine g_aload_n C d_B_clear_56 0 rfl rfl ?_
  refine g_iconst C (v := nI 0) d_B_clear_57 rfl ?_
  refine g_put C (T := FB) (N := 8) (ws' := [(b, .inr (3, [.ref a, .ref k, .ref g, .ref bc, .ref bl, .ref bx, .int (nI (0)), .long (lv9)])), (bc, .inl (cs.2.1, 48, .inr (.inl (fun j => lN ((fun _ => 0) j))))), (bl, .inl (cs.1, 48, .inl (fun j => nI j))), (bx, .inl (cs.1, 48, .inl (fun _ => nI 0))), (a, .inr (1, [.int (nI (rl)), .ref al, .ref ac, .ref ah, .ref an, .int (nI (fll ((fun _ => 0))))])), (al, .inl (cs.1, 48, .inl (fun j => nI ((fun _ => 0) j)))), (ac, .inl (cs.1, 48, .inl (fun j => nI ((cN (rl) ((fun _ => 0)) (cn)) j)))), (ah, .inl (cs.1, 17, .inl (fun j => nI ((shr ((fun _ => 0)) 48) j)))), (an, .inl (cs.1, 17, .inl (fun j => nI ((xN (rl) ((fun _ => 0)) (xn)) j)))), (g, .inr (2, [.ref gr, .int (nI (((st) + (sz)) % 400)), .int (nI ((sz) - (sz)))])), (gr, .inl (cs.1, 400, .inl (fun j => nI (rb j))))]) 0 6 inB tyB okB nmB rfl rfl (by decide) tw_111 rfl rfl rfl rfl rfl (Nat.le_of_ble_eq_true rfl) rfl d_B_clear_58 ?_
  exact g_vret C hr hlk rfl d_B_clear_61
set_option maxHeartbeats 4000000 in
set_option maxRecDepth 100000 in
theorem m_B_takeSymbol_w (l : Launch) (D : va_G) (cs : ClassId × ClassId × ClassId × ClassId) (b k bc bl bx a al ac ah an g gr : Nat) (ct : Nat → Nat) (lo ex : Nat → Int32) (wr : Nat) (lv9 : Int64) (rl : Nat) (ln cn sn xn : Nat → Nat) (fl : Nat) (rb : Nat → Nat) (st sz : Nat) (y : Nat) (hy : y < 48) (hl : ∀ j, j < 48 → ln j ≤ 16) (hx : ∀ j, j < 48 → -32 ≤ (ex j).toInt ∧ (ex j).toInt ≤ 32) (hs : st < 400) (hz : sz ≤ 400) (hb : ∀ j, j < 400 → rb j < 2) (hw : sz < ln y + (ex y).toInt.natAbs) : MG l y_B_takeSymbol k_B_takeSymbol { frames := 1, cells := 0, slots := 0, locals := 25 } D cs [.ref b, .int (nI (y))] [(b, .inr (3, [.ref a, .ref k, .ref g, .ref bc, .ref bl, .ref bx, .int (nI (wr)), .long (lv9)])), (bc, .inl (cs.2.1, 48, .inr (.inl (fun j => lN (ct j))))), (bl, .inl (cs.1, 48, .inl (lo))), (bx, .inl (cs.1, 48, .inl (ex))), (a, .inr (1, [.int (nI (rl)), .ref al, .ref ac, .ref ah, .ref an, .int (nI (fl))])), (al, .inl (cs.1, 48, .inl (fun j => nI (ln j)))), (ac, .inl (cs.1, 48, .inl (fun j => nI (cn j)))), (ah, .inl (cs.1, 17, .inl (fun j => nI (sn j)))), (an, .inl (cs.1, 17, .inl (fun j => nI (xn j)))), (g, .inr (2, [.ref gr, .int (nI (st)), .int (nI (sz))])), (gr, .inl (cs.1, 400, .inl (fun j => nI (rb j))))] (QI D ((-1)) [(b, .inr (3, [.ref a, .ref k, .ref g, .ref bc, .ref bl, .ref bx, .int (nI (wr)), .long (lv9)])), (bc, .inl (cs.2.1, 48, .inr (.inl (fun j => lN (ct j))))), (bl, .inl (cs.1, 48, .inl (lo))), (bx, .inl (cs.1, 48, .inl (ex))), (a, .inr (1, [.int (nI (rl)), .ref al, .ref ac, .ref ah, .ref an, .int (nI (fl))])), (al, .inl (cs.1, 48, .inl (fun j => nI (ln j)))), (ac, .inl (cs.1, 48, .inl (fun j => nI (cn j)))), (ah, .inl (cs.1, 17, .inl (fun j => nI (sn j)))), (an, .inl (cs.1, 17, .inl (fun j => nI (xn j)))), (g, .inr (2, [.ref gr, .int (nI (st)), .int (nI (sz))])), (gr, .inl (cs.1, 400, .inl (fun j => nI (rb j))))]) := by
  refine MG.mk (own := RB) (by decide) rfl (Nat.le_of_ble_eq_true rfl) ?_
  intro p e s m below meth c A C hr hlk
  refine g_lv (lv' := [(0, .ref b), (1, .int (nI (y)))]) [0, 1] rfl ?_
  refine g_aload_n C d_B_takeSymbol_0 0 rfl rfl ?_
  refine g_get C (T := FB) (N := 8) 0 0 inB rfl rfl (by decide) tw_105 rfl rfl d_B_takeSymbol_1 ?_
  refine g_getN C (T := FT) (N := 6) (k := 1) C.2.2.2.2.1 4 inT rfl rfl (by decide) rfl rfl d_B_takeSymbol_4 ?_
  refine g_iload_n C d_B_takeSymbol_7 1 rfl rfl ?_
  refine g_iald C 5 rfl (by omega) (by decide) d_B_takeSymbol_8 ?_
  refine g_istore_n C (lv' := [(2, .int (nI (ln (y)))), (0, .ref b), (1, .int (nI (y)))]) d_B_takeSymbol_9 rfl (by decide) rfl ?_
  refine g_aload_n C d_B_takeSymbol_10 1 rfl rfl ?_
  refine g_get C (T := FB) (N := 8) 0 5 inB rfl rfl (by decide) tw_110 rfl rfl d_B_takeSymbol_11 ?_
  refine g_iload_n C d_B_takeSymbol_14 2 rfl rfl ?_
  refine g_iald C 3 rfl (by omega) (by decide) d_B_takeSymbol_15 ?_
  refine g_mabs C tw_419 ⟨by decide, Nat.le_of_ble_eq_true rfl, by decide, by decide⟩ (by have := hx y hy; omega) (by have := hx y hy; omega) d_B_takeSymbol_16 ?_
  refine g_istore_n C (lv' := [(3, .int (nI ((ex (y)).toInt.natAbs))), (2, .int (nI (ln (y)))), (0, .ref b), (1, .int (nI (y)))]) d_B_takeSymbol_19 rfl (by decide) rfl ?_
  refine g_aload_n C d_B_takeSymbol_20 2 rfl rfl ?_
  refine g_get C (T := FB) (N := 8) 0 2 inB rfl rfl (by decide) tw_107 rfl rfl d_B_takeSymbol_21 ?_
  refine g_getN C (T := FG) (N := 3) (k := 2) C.2.2.2.1 9 inG rfl rfl (by decide) rfl rfl d_B_takeSymbol_24 ?_
  refine g_iload_n C d_B_takeSymbol_27 1 rfl rfl ?_
  refine g_iload_n C d_B_takeSymbol_28 0 rfl rfl ?_
  refine g_iadd C (v := nI (ln (y) + ((ex (y)).toInt.natAbs))) d_B_takeSymbol_29 (nI_add _ _) ?_
  refine n_icmp_ge C 35 d_B_takeSymbol_30 (by decide) (by omega) (by have := hl y hy; have := hx y hy; omega) (fun h => absurd h (by omega)) (fun _ => ?_)
  refine g_iconst C (v := (-1)) d_B_takeSymbol_33 rfl ?_
  exact g_iret C hr hlk rfl rfl d_B_takeSymbol_34
section GTOL
variable {p : Program} {l : Launch} {e : Env} {R : Room} {s : State} {m : MethodId} {args : Array Value} {below : List Frame} {meth : Method} {c : Code} {cells slots : Nat} {Q : State → Prop} {A : Nat → Prop} {D : va_G} {nL : Nat} {cc : ByteArray} {own : String} {cs : ClassId × ClassId × ClassId × ClassId}
variable {pc : Nat} {lv lv' : List (Nat × Value)} {st : List Value} {ws ws' : va_W}
theorem g_tol {x v : Int64} (h : x = v) (g : GO p l e R s m args below meth c cells slots Q A D nL pc lv (.long v :: st) ws) : GO p l e R s m args below meth c cells slots Q A D nL pc lv (.long x :: st) ws := by rw [h]; exact g
end GTOL
theorem ge_nlt {x : Int32} (h : 0 ≤ x) : ¬ x < 0 := Int32.not_lt.mpr h
theorem nge_lt {x : Int32} (h : ¬ 0 ≤ x) : x < 0 := Int32.not_le.mp h
set_option maxHeartbeats 4000000 in
set_option maxRecDepth 100000 in
theorem m_B_takeSymbol_t (l : Launch) (D : va_G) (cs : ClassId × ClassId × ClassId × ClassId) (b k bc bl bx a al ac ah an g gr : Nat) (ct : Nat → Nat) (lo ex : Nat → Int32) (wr : Nat) (lv9 : Int64) (rl : Nat) (ln cn sn xn : Nat → Nat) (fl : Nat) (rb : Nat → Nat) (st sz : Nat) (y : Nat) (hy : y < 48) (hl : ∀ j, j < 48 → ln j ≤ 16) (hx : ∀ j, j < 48 → -32 ≤ (ex j).toInt ∧ (ex j).toInt ≤ 32) (hs : st < 400) (hz : sz ≤ 400) (hb : ∀ j, j < 400 → rb j < 2) (hw : ln y + (ex y).toInt.natAbs ≤ sz) : MG l y_B_takeSymbol k_B_takeSymbol { frames := 1, cells := 0, slots := 0, locals := 25 } D cs [.ref b, .int (nI (y))] [(b, .inr (3, [.ref a, .ref k, .ref g, .ref bc, .ref bl, .ref bx, .int (nI (wr)), .long (lv9)])), (bc, .inl (cs.2.1, 48, .inr (.inl (fun j => lN (ct j))))), (bl, .inl (cs.1, 48, .inl (lo))), (bx, .inl (cs.1, 48, .inl (ex))), (a, .inr (1, [.int (nI (rl)), .ref al, .ref ac, .ref ah, .ref an, .int (nI (fl))])), (al, .inl (cs.1, 48, .inl (fun j => nI (ln j)))), (ac, .inl (cs.1, 48, .inl (fun j => nI (cn j)))), (ah, .inl (cs.1, 17, .inl (fun j => nI (sn j)))), (an, .inl (cs.1, 17, .inl (fun j => nI (xn j)))), (g, .inr (2, [.ref gr, .int (nI (st)), .int (nI (sz))])), (gr, .inl (cs.1, 400, .inl (fun j => nI (rb j))))] (QI D (nI (y)) [(b, .inr (3, [.ref a, .ref k, .ref g, .ref bc, .ref bl, .ref bx, .int (nI (1)), .long ((if (ex y) < 0 then (lo y).toInt64 - lN (nmb rb st (ln y) (ex y).toInt.natAbs) else (lo y).toInt64 + lN (nmb rb st (ln y) (ex y).toInt.natAbs)))])), (bc, .inl (cs.2.1, 48, .inr (.inl (fun j => lN (ct j))))), (bl, .inl (cs.1, 48, .inl (lo))), (bx, .inl (cs.1, 48, .inl (ex))), (a, .inr (1, [.int (nI (rl)), .ref al, .ref ac, .ref ah, .ref an, .int (nI (fl))])), (al, .inl (cs.1, 48, .inl (fun j => nI (ln j)))), (ac, .inl (cs.1, 48, .inl (fun j => nI (cn j)))), (ah, .inl (cs.1, 17, .inl (fun j => nI (sn j)))), (an, .inl (cs.1, 17, .inl (fun j => nI (xn j)))), (g, .inr (2, [.ref gr, .int (nI (((st) + (ln y + (ex y).toInt.natAbs)) % 400)), .int (nI ((sz) - (ln y + (ex y).toInt.natAbs)))])), (gr, .inl (cs.1, 400, .inl (fun j => nI (rb j))))]) := by
  refine MG.mk (own := RB) (by decide) rfl (Nat.le_of_ble_eq_true rfl) ?_
  intro p e s m below meth c A C hr hlk
  refine g_lv (lv' := [(0, .ref b), (1, .int (nI (y)))]) [0, 1] rfl ?_
  refine g_aload_n C d_B_takeSymbol_0 0 rfl rfl ?_
  refine g_get C (T := FB) (N := 8) 0 0 inB rfl rfl (by decide) tw_105 rfl rfl d_B_takeSymbol_1 ?_
  refine g_getN C (T := FT) (N := 6) (k := 1) C.2.2.2.2.1 4 inT rfl rfl (by decide) rfl rfl d_B_takeSymbol_4 ?_
  refine g_iload_n C d_B_takeSymbol_7 1 rfl rfl ?_
  refine g_iald C 5 rfl (by omega) (by decide) d_B_takeSymbol_8 ?_
  refine g_istore_n C (lv' := [(2, .int (nI (ln (y)))), (0, .ref b), (1, .int (nI (y)))]) d_B_takeSymbol_9 rfl (by decide) rfl ?_
  refine g_aload_n C d_B_takeSymbol_10 1 rfl rfl ?_
  refine g_get C (T := FB) (N := 8) 0 5 inB rfl rfl (by decide) tw_110 rfl rfl d_B_takeSymbol_11 ?_
  refine g_iload_n C d_B_takeSymbol_14 2 rfl rfl ?_
  refine g_iald C 3 rfl (by omega) (by decide) d_B_takeSymbol_15 ?_
  refine g_mabs C tw_419 ⟨by decide, Nat.le_of_ble_eq_true rfl, by decide, by decide⟩ (by have := hx y hy; omega) (by have := hx y hy; omega) d_B_takeSymbol_16 ?_
  refine g_istore_n C (lv' := [(3, .int (nI ((ex (y)).toInt.natAbs))), (2, .int (nI (ln (y)))), (0, .ref b), (1, .int (nI (y)))]) d_B_takeSymbol_19 rfl (by decide) rfl ?_
  refine g_aload_n C d_B_takeSymbol_20 2 rfl rfl ?_
  refine g_get C (T := FB) (N := 8) 0 2 inB rfl rfl (by decide) tw_107 rfl rfl d_B_takeSymbol_21 ?_
  refine g_getN C (T := FG) (N := 3) (k := 2) C.2.2.2.1 9 inG rfl rfl (by decide) rfl rfl d_B_takeSymbol_24 ?_
  refine g_iload_n C d_B_takeSymbol_27 1 rfl rfl ?_
  refine g_iload_n C d_B_takeSymbol_28 0 rfl rfl ?_
  refine g_iadd C (v := nI (ln (y) + ((ex (y)).toInt.natAbs))) d_B_takeSymbol_29 (nI_add _ _) ?_
  refine n_icmp_ge C 35 d_B_takeSymbol_30 (by decide) (by omega) (by have := hl y hy; have := hx y hy; omega) (fun _ => ?_) (fun h => absurd h (by omega))
  refine g_aload_n C d_B_takeSymbol_35 2 rfl rfl ?_
  refine g_get C (T := FB) (N := 8) 0 2 inB rfl rfl (by decide) tw_107 rfl rfl d_B_takeSymbol_36 ?_
  refine g_iload_n C d_B_takeSymbol_39 1 rfl rfl ?_
  refine g_iload_n C d_B_takeSymbol_40 0 rfl rfl ?_
  refine g_callVl C (n := 2) (ws' := [(b, .inr (3, [.ref a, .ref k, .ref g, .ref bc, .ref bl, .ref bx, .int (nI (wr)), .long (lv9)])), (bc, .inl (cs.2.1, 48, .inr (.inl (fun j => lN (ct j))))), (bl, .inl (cs.1, 48, .inl (lo))), (bx, .inl (cs.1, 48, .inl (ex))), (a, .inr (1, [.int (nI (rl)), .ref al, .ref ac, .ref ah, .ref an, .int (nI (fl))])), (al, .inl (cs.1, 48, .inl (fun j => nI (ln j)))), (ac, .inl (cs.1, 48, .inl (fun j => nI (cn j)))), (ah, .inl (cs.1, 17, .inl (fun j => nI (sn j)))), (an, .inl (cs.1, 17, .inl (fun j => nI (xn j)))), (g, .inr (2, [.ref gr, .int (nI (st)), .int (nI (sz))])), (gr, .inl (cs.1, 400, .inl (fun j => nI (rb j))))]) (As := [.int (nI (ln (y))), .int (nI ((ex (y)).toInt.natAbs))]) (rest := []) (m_G_number l D cs g gr (rb) (st) (sz) (ln (y)) ((ex (y)).toInt.natAbs) hs hb (by omega)) tw_406 tw_407 tw_408 tw_3 tw_409 rfl 0 rfl rfl (by decide +kernel) rfl ⟨rfl, rfl, by decide, by decide, by decide⟩ rfl [9, 10] rfl rfl (by decide) (Nat.le_of_ble_eq_true rfl) rfl d_B_takeSymbol_41 ?_
  refine g_lstore C (lv' := [(4, .long (lN (nmb (rb) (st) (ln (y)) ((ex (y)).toInt.natAbs)))), (3, .int (nI ((ex (y)).toInt.natAbs))), (2, .int (nI (ln (y)))), (0, .ref b), (1, .int (nI (y)))]) d_B_takeSymbol_44 (by decide) rfl ?_
  refine g_aload_n C d_B_takeSymbol_46 3 rfl rfl ?_
  refine g_get C (T := FB) (N := 8) 0 4 inB rfl rfl (by decide) tw_109 rfl rfl d_B_takeSymbol_47 ?_
  refine g_iload_n C d_B_takeSymbol_50 4 rfl rfl ?_
  refine g_iald C 2 rfl (by omega) (by decide) d_B_takeSymbol_51 ?_
  refine g_i2l C (v := (lo (y)).toInt64) d_B_takeSymbol_52 rfl ?_
  refine g_lstore C (lv' := [(6, .long ((lo (y)).toInt64)), (4, .long (lN (nmb (rb) (st) (ln (y)) ((ex (y)).toInt.natAbs)))), (3, .int (nI ((ex (y)).toInt.natAbs))), (2, .int (nI (ln (y)))), (0, .ref b), (1, .int (nI (y)))]) d_B_takeSymbol_53 (by decide) rfl ?_
  refine g_aload_n C d_B_takeSymbol_55 4 rfl rfl ?_
  refine g_aload_n C d_B_takeSymbol_56 4 rfl rfl ?_
  refine g_get C (T := FB) (N := 8) 0 5 inB rfl rfl (by decide) tw_110 rfl rfl d_B_takeSymbol_57 ?_
  refine g_iload_n C d_B_takeSymbol_60 5 rfl rfl ?_
  refine g_iald C 3 rfl (by omega) (by decide) d_B_takeSymbol_61 ?_
  refine g_if_ge C 73 d_B_takeSymbol_62 (by decide) (fun h62 => ?_) (fun h62 => ?_)
  · have h62 := ge_nlt h62
    refine g_lload C d_B_takeSymbol_73 0 rfl ?_
    refine g_lload C d_B_takeSymbol_75 1 rfl ?_
    refine g_ladd C (v := ((lo (y)).toInt64) + (lN (nmb (rb) (st) (ln (y)) ((ex (y)).toInt.natAbs)))) d_B_takeSymbol_77 rfl ?_
    refine g_tol (v := (if (ex y) < 0 then (lo y).toInt64 - lN (nmb rb st (ln y) (ex y).toInt.natAbs) else (lo y).toInt64 + lN (nmb rb st (ln y) (ex y).toInt.natAbs))) (by first | rw [if_pos (by assumption)] | rw [if_neg (by assumption)]) ?_
    refine g_put C (T := FB) (N := 8) (ws' := [(b, .inr (3, [.ref a, .ref k, .ref g, .ref bc, .ref bl, .ref bx, .int (nI (wr)), .long ((if (ex y) < 0 then (lo y).toInt64 - lN (nmb rb st (ln y) (ex y).toInt.natAbs) else (lo y).toInt64 + lN (nmb rb st (ln y) (ex y).toInt.natAbs)))])), (bc, .inl (cs.2.1, 48, .inr (.inl (fun j => lN (ct j))))), (bl, .inl (cs.1, 48, .inl (lo))), (bx, .inl (cs.1, 48, .inl (ex))), (a, .inr (1, [.int (nI (rl)), .ref al, .ref ac, .ref ah, .ref an, .int (nI (fl))])), (al, .inl (cs.1, 48, .inl (fun j => nI (ln j)))), (ac, .inl (cs.1, 48, .inl (fun j => nI (cn j)))), (ah, .inl (cs.1, 17, .inl (fun j => nI (sn j)))), (an, .inl (cs.1, 17, .inl (fun j => nI (xn j)))), (g, .inr (2, [.ref gr, .int (nI (st)), .int (nI (sz))])), (gr, .inl (cs.1, 400, .inl (fun j => nI (rb j))))]) 0 7 inB tyB okB nmB rfl rfl (by decide) tw_112 rfl rfl rfl rfl rfl (Nat.le_of_ble_eq_true rfl) rfl d_B_takeSymbol_78 ?_
    refine g_aload_n C d_B_takeSymbol_81 4 rfl rfl ?_
    refine g_iconst C (v := nI 1) d_B_takeSymbol_82 rfl ?_
    refine g_put C (T := FB) (N := 8) (ws' := [(b, .inr (3, [.ref a, .ref k, .ref g, .ref bc, .ref bl, .ref bx, .int (nI (1)), .long ((if (ex y) < 0 then (lo y).toInt64 - lN (nmb rb st (ln y) (ex y).toInt.natAbs) else (lo y).toInt64 + lN (nmb rb st (ln y) (ex y).toInt.natAbs)))])), (bc, .inl (cs.2.1, 48, .inr (.inl (fun j => lN (ct j))))), (bl, .inl (cs.1, 48, .inl (lo))), (bx, .inl (cs.1, 48, .inl (ex))), (a, .inr (1, [.int (nI (rl)), .ref al, .ref ac, .ref ah, .ref an, .int (nI (fl))])), (al, .inl (cs.1, 48, .inl (fun j => nI (ln j)))), (ac, .inl (cs.1, 48, .inl (fun j => nI (cn j)))), (ah, .inl (cs.1, 17, .inl (fun j => nI (sn j)))), (an, .inl (cs.1, 17, .inl (fun j => nI (xn j)))), (g, .inr (2, [.ref gr, .int (nI (st)), .int (nI (sz))])), (gr, .inl (cs.1, 400, .inl (fun j => nI (rb j))))]) 0 6 inB tyB okB nmB rfl rfl (by decide) tw_111 rfl rfl rfl rfl rfl (Nat.le_of_ble_eq_true rfl) rfl d_B_takeSymbol_83 ?_
    refine g_aload_n C d_B_takeSymbol_86 4 rfl rfl ?_
    refine g_get C (T := FB) (N := 8) 0 2 inB rfl rfl (by decide) tw_107 rfl rfl d_B_takeSymbol_87 ?_
    refine g_iload_n C d_B_takeSymbol_90 3 rfl rfl ?_
    refine g_iload_n C d_B_takeSymbol_91 2 rfl rfl ?_
    refine g_iadd C (v := nI (ln (y) + ((ex (y)).toInt.natAbs))) d_B_takeSymbol_92 (nI_add _ _) ?_
    refine g_callVv C (n := 1) (ws' := [(b, .inr (3, [.ref a, .ref k, .ref g, .ref bc, .ref bl, .ref bx, .int (nI (1)), .long ((if (ex y) < 0 then (lo y).toInt64 - lN (nmb rb st (ln y) (ex y).toInt.natAbs) else (lo y).toInt64 + lN (nmb rb st (ln y) (ex y).toInt.natAbs)))])), (bc, .inl (cs.2.1, 48, .inr (.inl (fun j => lN (ct j))))), (bl, .inl (cs.1, 48, .inl (lo))), (bx, .inl (cs.1, 48, .inl (ex))), (a, .inr (1, [.int (nI (rl)), .ref al, .ref ac, .ref ah, .ref an, .int (nI (fl))])), (al, .inl (cs.1, 48, .inl (fun j => nI (ln j)))), (ac, .inl (cs.1, 48, .inl (fun j => nI (cn j)))), (ah, .inl (cs.1, 17, .inl (fun j => nI (sn j)))), (an, .inl (cs.1, 17, .inl (fun j => nI (xn j)))), (g, .inr (2, [.ref gr, .int (nI (((st) + (ln (y) + ((ex (y)).toInt.natAbs))) % 400)), .int (nI ((sz) - (ln (y) + ((ex (y)).toInt.natAbs))))])), (gr, .inl (cs.1, 400, .inl (fun j => nI (rb j))))]) (As := [.int (nI (ln (y) + ((ex (y)).toInt.natAbs)))]) (rest := []) (m_G_drop l D cs g gr (rb) (st) (sz) (ln (y) + ((ex (y)).toInt.natAbs)) hs hz (by omega)) tw_197 tw_198 tw_199 tw_3 tw_200 rfl 0 rfl rfl (by decide +kernel) rfl ⟨rfl, rfl, by decide, by decide, by decide⟩ rfl [9, 10] rfl rfl (by decide) (Nat.le_of_ble_eq_true rfl) rfl d_B_takeSymbol_93 ?_
    refine g_iload_n C d_B_takeSymbol_96 5 rfl rfl ?_
    exact g_iret C hr hlk rfl rfl d_B_takeSymbol_97
  · have h62 := nge_lt h62
    refine g_lload C d_B_takeSymbol_65 0 rfl ?_
    refine g_lload C d_B_takeSymbol_67 1 rfl ?_
    refine g_lsub C (v := ((lo (y)).toInt64) - (lN (nmb (rb) (st) (ln (y)) ((ex (y)).toInt.natAbs)))) d_B_takeSymbol_69 rfl ?_
    refine g_goto C 78 d_B_takeSymbol_70 (by decide) ?_
    refine g_tol (v := (if (ex y) < 0 then (lo y).toInt64 - lN (nmb rb st (ln y) (ex y).toInt.natAbs) else (lo y).toInt64 + lN (nmb rb st (ln y) (ex y).toInt.natAbs))) (by first | rw [if_pos (by assumption)] | rw [if_neg (by assumption)]) ?_
    refine g_put C (T := FB) (N := 8) (ws' := [(b, .inr (3, [.ref a, .ref k, .ref g, .ref bc, .ref bl, .ref bx, .int (nI (wr)), .long ((if (ex y) < 0 then (lo y).toInt64 - lN (nmb rb st (ln y) (ex y).toInt.natAbs) else (lo y).toInt64 + lN (nmb rb st (ln y) (ex y).toInt.natAbs)))])), (bc, .inl (cs.2.1, 48, .inr (.inl (fun j => lN (ct j))))), (bl, .inl (cs.1, 48, .inl (lo))), (bx, .inl (cs.1, 48, .inl (ex))), (a, .inr (1, [.int (nI (rl)), .ref al, .ref ac, .ref ah, .ref an, .int (nI (fl))])), (al, .inl (cs.1, 48, .inl (fun j => nI (ln j)))), (ac, .inl (cs.1, 48, .inl (fun j => nI (cn j)))), (ah, .inl (cs.1, 17, .inl (fun j => nI (sn j)))), (an, .inl (cs.1, 17, .inl (fun j => nI (xn j)))), (g, .inr (2, [.ref gr, .int (nI (st)), .int (nI (sz))])), (gr, .inl (cs.1, 400, .inl (fun j => nI (rb j))))]) 0 7 inB tyB okB nmB rfl rfl (by decide) tw_112 rfl rfl rfl rfl rfl (Nat.le_of_ble_eq_true rfl) rfl d_B_takeSymbol_78 ?_
    refine g_aload_n C d_B_takeSymbol_81 4 rfl rfl ?_
    refine g_iconst C (v := nI 1) d_B_takeSymbol_82 rfl ?_
    refine g_put C (T := FB) (N := 8) (ws' := [(b, .inr (3, [.ref a, .ref k, .ref g, .ref bc, .ref bl, .ref bx, .int (nI (1)), .long ((if (ex y) < 0 then (lo y).toInt64 - lN (nmb rb st (ln y) (ex y).toInt.natAbs) else (lo y).toInt64 + lN (nmb rb st (ln y) (ex y).toInt.natAbs)))])), (bc, .inl (cs.2.1, 48, .inr (.inl (fun j => lN (ct j))))), (bl, .inl (cs.1, 48, .inl (lo))), (bx, .inl (cs.1, 48, .inl (ex))), (a, .inr (1, [.int (nI (rl)), .ref al, .ref ac, .ref ah, .ref an, .int (nI (fl))])), (al, .inl (cs.1, 48, .inl (fun j => nI (ln j)))), (ac, .inl (cs.1, 48, .inl (fun j => nI (cn j)))), (ah, .inl (cs.1, 17, .inl (fun j => nI (sn j)))), (an, .inl (cs.1, 17, .inl (fun j => nI (xn j)))), (g, .inr (2, [.ref gr, .int (nI (st)), .int (nI (sz))])), (gr, .inl (cs.1, 400, .inl (fun j => nI (rb j))))]) 0 6 inB tyB okB nmB rfl rfl (by decide) tw_111 rfl rfl rfl rfl rfl (Nat.le_of_ble_eq_true rfl) rfl d_B_takeSymbol_83 ?_
    refine g_aload_n C d_B_takeSymbol_86 4 rfl rfl ?_
    refine g_get C (T := FB) (N := 8) 0 2 inB rfl rfl (by decide) tw_107 rfl rfl d_B_takeSymbol_87 ?_
    refine g_iload_n C d_B_takeSymbol_90 3 rfl rfl ?_
    refine g_iload_n C d_B_takeSymbol_91 2 rfl rfl ?_
    refine g_iadd C (v := nI (ln (y) + ((ex (y)).toInt.natAbs))) d_B_takeSymbol_92 (nI_add _ _) ?_
    refine g_callVv C (n := 1) (ws' := [(b, .inr (3, [.ref a, .ref k, .ref g, .ref bc, .ref bl, .ref bx, .int (nI (1)), .long ((if (ex y) < 0 then (lo y).toInt64 - lN (nmb rb st (ln y) (ex y).toInt.natAbs) else (lo y).toInt64 + lN (nmb rb st (ln y) (ex y).toInt.natAbs)))])), (bc, .inl (cs.2.1, 48, .inr (.inl (fun j => lN (ct j))))), (bl, .inl (cs.1, 48, .inl (lo))), (bx, .inl (cs.1, 48, .inl (ex))), (a, .inr (1, [.int (nI (rl)), .ref al, .ref ac, .ref ah, .ref an, .int (nI (fl))])), (al, .inl (cs.1, 48, .inl (fun j => nI (ln j)))), (ac, .inl (cs.1, 48, .inl (fun j => nI (cn j)))), (ah, .inl (cs.1, 17, .inl (fun j => nI (sn j)))), (an, .inl (cs.1, 17, .inl (fun j => nI (xn j)))), (g, .inr (2, [.ref gr, .int (nI (((st) + (ln (y) + ((ex (y)).toInt.natAbs))) % 400)), .int (nI ((sz) - (ln (y) + ((ex (y)).toInt.natAbs))))])), (gr, .inl (cs.1, 400, .inl (fun j => nI (rb j))))]) (As := [.int (nI (ln (y) + ((ex (y)).toInt.natAbs)))]) (rest := []) (m_G_drop l D cs g gr (rb) (st) (sz) (ln (y) + ((ex (y)).toInt.natAbs)) hs hz (by omega)) tw_197 tw_198 tw_199 tw_3 tw_200 rfl 0 rfl rfl (by decide +kernel) rfl ⟨rfl, rfl, by decide, by decide, by decide⟩ rfl [9, 10] rfl rfl (by decide) (Nat.le_of_ble_eq_true rfl) rfl d_B_takeSymbol_93 ?_
    refine g_iload_n C d_B_takeSymbol_96 5 rfl rfl ?_
    exact g_iret C hr hlk rfl rfl d_B_takeSymbol_97
end
section
theorem xa_O : ∀ w ∈ (vx_atS "BoundedCodes" 152 "java/lang/IndexOutOfBoundsException" ["java/lang/RuntimeException", "java/lang/Exception"]).filter goodWord, w ∈ TB := fun w h => tb_l ((show ∀ w ∈ (vx_atS "BoundedCodes" 152 "java/lang/IndexOutOfBoundsException" ["java/lang/RuntimeException", "java/lang/Exception"]).filter goodWord, w ∈ lw_tbl by decide +kernel) w h) (List.mem_filter.mp h).2
theorem xb_O : ∀ w ∈ (vx_atS "BoundedCodes" 152 "java/lang/IndexOutOfBoundsException" ["java/lang/RuntimeException", "java/lang/Exception"]).filter (fun w => !goodWord w), w ∈ [Cond.castable "java/lang/IndexOutOfBoundsException" "java/lang/IndexOutOfBoundsException", .declares ⟨"java/lang/RuntimeException", "<init>", "(Ljava/lang/String;)V"⟩, .declares ⟨"java/lang/Exception", "<init>", "(Ljava/lang/String;)V"⟩, .declares ⟨"java/lang/Throwable", "<init>", "(Ljava/lang/String;)V"⟩] := by decide +kernel
theorem xg_O : ∀ w ∈ Cond.classLink "BoundedCodes" 148 "java/lang/IndexOutOfBoundsException" :: Cond.initialized "java/lang/IndexOutOfBoundsException" :: vx_atS "BoundedCodes" 152 "java/lang/IndexOutOfBoundsException" ["java/lang/RuntimeException", "java/lang/Exception"], vx_ot w = true := by decide +kernel
theorem xa_A : ∀ w ∈ (vx_atS "BoundedCodes" 69 "java/lang/IllegalArgumentException" ["java/lang/RuntimeException", "java/lang/Exception"]).filter goodWord, w ∈ TB := fun w h => tb_l ((show ∀ w ∈ (vx_atS "BoundedCodes" 69 "java/lang/IllegalArgumentException" ["java/lang/RuntimeException", "java/lang/Exception"]).filter goodWord, w ∈ lw_tbl by decide +kernel) w h) (List.mem_filter.mp h).2
theorem xb_A : ∀ w ∈ (vx_atS "BoundedCodes" 69 "java/lang/IllegalArgumentException" ["java/lang/RuntimeException", "java/lang/Exception"]).filter (fun w => !goodWord w), w ∈ [Cond.castable "java/lang/IllegalArgumentException" "java/lang/IllegalArgumentException", .declares ⟨"java/lang/RuntimeException", "<init>", "(Ljava/lang/String;)V"⟩, .declares ⟨"java/lang/Exception", "<init>", "(Ljava/lang/String;)V"⟩, .declares ⟨"java/lang/Throwable", "<init>", "(Ljava/lang/String;)V"⟩] := by decide +kernel
theorem xg_A : ∀ w ∈ Cond.classLink "BoundedCodes" 65 "java/lang/IllegalArgumentException" :: Cond.initialized "java/lang/IllegalArgumentException" :: vx_atS "BoundedCodes" 69 "java/lang/IllegalArgumentException" ["java/lang/RuntimeException", "java/lang/Exception"], vx_ot w = true := by decide +kernel
theorem xa_S : ∀ w ∈ (vx_atS "BoundedCodes" 157 "java/lang/IllegalStateException" ["java/lang/RuntimeException", "java/lang/Exception"]).filter goodWord, w ∈ TB := fun w h => tb_l ((show ∀ w ∈ (vx_atS "BoundedCodes" 157 "java/lang/IllegalStateException" ["java/lang/RuntimeException", "java/lang/Exception"]).filter goodWord, w ∈ lw_tbl by decide +kernel) w h) (List.mem_filter.mp h).2
theorem xb_S : ∀ w ∈ (vx_atS "BoundedCodes" 157 "java/lang/IllegalStateException" ["java/lang/RuntimeException", "java/lang/Exception"]).filter (fun w => !goodWord w), w ∈ [Cond.castable "java/lang/IllegalStateException" "java/lang/IllegalStateException", .declares ⟨"java/lang/RuntimeException", "<init>", "(Ljava/lang/String;)V"⟩, .declares ⟨"java/lang/Exception", "<init>", "(Ljava/lang/String;)V"⟩, .declares ⟨"java/lang/Throwable", "<init>", "(Ljava/lang/String;)V"⟩] := by decide +kernel
theorem xg_S : ∀ w ∈ Cond.classLink "BoundedCodes" 153 "java/lang/IllegalStateException" :: Cond.initialized "java/lang/IllegalStateException" :: vx_atS "BoundedCodes" 157 "java/lang/IllegalStateException" ["java/lang/RuntimeException", "java/lang/Exception"], vx_ot w = true := by decide +kernel
def vaCs (C T : String) (U : State) : Prop := (Cond.castable C T).before #[] U = true
theorem vaCs.same {C T : String} {s U : State} (hv : s.vm = U.vm) (h : vaCs C T s) : vaCs C T U := va_tabs rfl hv h
theorem vaCs.warm {C T : String} {s U : State} (hW : s.WarmedH U.vm) (h : vaCs C T s) : vaCs C T U := by
  have h1 : (Cond.castable C T).before #[] (s.setVm U.vm) = true := by rw [Cond.castable_setVm hW.alike]; exact h
  exact va_tabs (u := s.setVm U.vm) rfl rfl h1
def vaDc (y : MethodName) (U : State) : Prop := (Cond.declares y).before #[] U = true
theorem vaDc.moved {y : MethodName} {u U : State} (hvm : u.vm.Alike U.vm) (h : vaDc y u) : vaDc y U := by
  have h1 : (Cond.declares y).before #[] (u.setVm U.vm) = true := by rw [Cond.declares_setVm hvm]; exact h
  exact va_tabs (u := u.setVm U.vm) rfl rfl h1
theorem vaDc.use {y : MethodName} {A : Array Value} {U : State} (h : vaDc y U) : (Cond.declares y).before A U = true := va_tabs rfl rfl h
theorem vaCs.use {C T : String} {A : Array Value} {U : State} (h : vaCs C T U) : (Cond.castable C T).before A U = true := va_tabs rfl rfl h
/-- what a throw asks of the tables beside the words: casts, and the texts -/
def XF (U : State) : Prop := vaCs "java/lang/IndexOutOfBoundsException" "java/lang/IndexOutOfBoundsException" U ∧ vaCs "java/lang/IllegalArgumentException" "java/lang/IllegalArgumentException" U ∧ vaCs "java/lang/IllegalStateException" "java/lang/IllegalStateException" U ∧ va_Nc "java/lang/IllegalArgumentException" "java/lang/IndexOutOfBoundsException" U ∧ va_Nc "java/lang/IllegalStateException" "java/lang/IndexOutOfBoundsException" U ∧ vaDc ⟨"java/lang/RuntimeException", "<init>", "(Ljava/lang/String;)V"⟩ U ∧ vaDc ⟨"java/lang/Exception", "<init>", "(Ljava/lang/String;)V"⟩ U ∧ vaDc ⟨"java/lang/Throwable", "<init>", "(Ljava/lang/String;)V"⟩ U ∧ (∃ sa, vk_R "BoundedCodes" 150 "there is no such symbol" sa U) ∧ (∃ sa, vk_R "BoundedCodes" 67 "the count is not 0 .. 1000000000" sa U) ∧ (∃ sa, vk_R "BoundedCodes" 72 "the most is not 1 .. 16" sa U) ∧ (∃ sa, vk_R "BoundedCodes" 155 "the table is over-full" sa U) ∧ (∃ sa, vk_R "BoundedCodes" 96 "the length is not 0 .. 16" sa U) ∧ (∃ sa, vk_R "BoundedCodes" 105 "the length is not 1 .. 16" sa U) ∧ (∃ sa, vk_R "BoundedCodes" 107 "the extra bits are not -32 .. 32" sa U) ∧ (∃ sa, vk_R "BoundedCodes" 113 "the bit is not 0 or 1" sa U) ∧ (∃ sa, vk_R "BoundedCodes" 137 "no symbol was read" sa U)
theorem XF.warm {s U : State} (hW : s.WarmedH U.vm) (h : XF s) : XF U := ⟨vaCs.warm hW h.1, vaCs.warm hW h.2.1, vaCs.warm hW h.2.2.1, va_Nc.moved (hW.alike) h.2.2.2.1, va_Nc.moved (hW.alike) h.2.2.2.2.1, vaDc.moved (hW.alike) h.2.2.2.2.2.1, vaDc.moved (hW.alike) h.2.2.2.2.2.2.1, vaDc.moved (hW.alike) h.2.2.2.2.2.2.2.1, (let ⟨sa, q⟩ := h.2.2.2.2.2.2.2.2.1; ⟨sa, vk_R.warm hW q⟩), (let ⟨sa, q⟩ := h.2.2.2.2.2.2.2.2.2.1; ⟨sa, vk_R.warm hW q⟩), (let ⟨sa, q⟩ := h.2.2.2.2.2.2.2.2.2.2.1; ⟨sa, vk_R.warm hW q⟩), (let ⟨sa, q⟩ := h.2.2.2.2.2.2.2.2.2.2.2.1; ⟨sa, vk_R.warm hW q⟩), (let ⟨sa, q⟩ := h.2.2.2.2.2.2.2.2.2.2.2.2.1; ⟨sa, vk_R.warm hW q⟩), (let ⟨sa, q⟩ := h.2.2.2.2.2.2.2.2.2.2.2.2.2.1; ⟨sa, vk_R.warm hW q⟩), (let ⟨sa, q⟩ := h.2.2.2.2.2.2.2.2.2.2.2.2.2.2.1; ⟨sa, vk_R.warm hW q⟩), (let ⟨sa, q⟩ := h.2.2.2.2.2.2.2.2.2.2.2.2.2.2.2.1; ⟨sa, vk_R.warm hW q⟩), (let ⟨sa, q⟩ := h.2.2.2.2.2.2.2.2.2.2.2.2.2.2.2.2; ⟨sa, vk_R.warm hW q⟩)⟩
theorem XF.same {s U : State} (hv : s.vm = U.vm) (h : XF s) : XF U := ⟨vaCs.same hv h.1, vaCs.same hv h.2.1, vaCs.same hv h.2.2.1, va_Nc.moved (by rw [← hv]; exact Vm.Alike.refl _) h.2.2.2.1, va_Nc.moved (by rw [← hv]; exact Vm.Alike.refl _) h.2.2.2.2.1, vaDc.moved (by rw [← hv]; exact Vm.Alike.refl _) h.2.2.2.2.2.1, vaDc.moved (by rw [← hv]; exact Vm.Alike.refl _) h.2.2.2.2.2.2.1, vaDc.moved (by rw [← hv]; exact Vm.Alike.refl _) h.2.2.2.2.2.2.2.1, (let ⟨sa, q⟩ := h.2.2.2.2.2.2.2.2.1; ⟨sa, vk_R.same hv.symm q⟩), (let ⟨sa, q⟩ := h.2.2.2.2.2.2.2.2.2.1; ⟨sa, vk_R.same hv.symm q⟩), (let ⟨sa, q⟩ := h.2.2.2.2.2.2.2.2.2.2.1; ⟨sa, vk_R.same hv.symm q⟩), (let ⟨sa, q⟩ := h.2.2.2.2.2.2.2.2.2.2.2.1; ⟨sa, vk_R.same hv.symm q⟩), (let ⟨sa, q⟩ := h.2.2.2.2.2.2.2.2.2.2.2.2.1; ⟨sa, vk_R.same hv.symm q⟩), (let ⟨sa, q⟩ := h.2.2.2.2.2.2.2.2.2.2.2.2.2.1; ⟨sa, vk_R.same hv.symm q⟩), (let ⟨sa, q⟩ := h.2.2.2.2.2.2.2.2.2.2.2.2.2.2.1; ⟨sa, vk_R.same hv.symm q⟩), (let ⟨sa, q⟩ := h.2.2.2.2.2.2.2.2.2.2.2.2.2.2.2.1; ⟨sa, vk_R.same hv.symm q⟩), (let ⟨sa, q⟩ := h.2.2.2.2.2.2.2.2.2.2.2.2.2.2.2.2; ⟨sa, vk_R.same hv.symm q⟩)⟩
def XS (A : Nat → Prop) (U : State) (H : Heap) : Prop := vx_Zq Jvm.Bundle.tN "UNASSIGNED_STACK" Jvm.Bundle.steD A U H ∧ vx_Zq Jvm.Bundle.tN "SUPPRESSED_SENTINEL" Jvm.Bundle.listD A U H
theorem XS.moved {A : Nat → Prop} {u U : State} {H : Heap} (hvm : u.vm.Alike U.vm) (h : XS A u H) : XS A U H := ⟨vx_Zq.moved hvm h.1, vx_Zq.moved hvm h.2⟩
theorem XS.kept {A : Nat → Prop} {U : State} {H H1 : Heap} (h : XS A U H) (hq : ∀ a : Nat, a < H.size → ¬ A a → H1[a]? = H[a]?) : XS A U H1 := ⟨vx_Zq.kept h.1 hq, vx_Zq.kept h.2 hq⟩
theorem XS.narrow {A B : Nat → Prop} {U : State} {H : Heap} (h : XS A U H) (hAB : ∀ q, B q → A q) : XS B U H := ⟨vx_Zq.narrow h.1 hAB, vx_Zq.narrow h.2 hAB⟩
def PCX (D : va_G) (cs : ClassId × ClassId × ClassId × ClassId) (av : List Value) (sz : Nat) (ws : va_W) : Array Value → State → Prop :=
  va_Pc av (fun U => U.heap.size = sz ∧ va_P D CLS ws U.heap ∧ va_K D CLS (tysG cs) U ∧ va_D (fun _ => True) ws ∧ NWs U ∧ XF U ∧ XS (va_A ws sz) U U.heap)
theorem PCX.blind {D : va_G} {cs : ClassId × ClassId × ClassId × ClassId} {av : List Value} {sz : Nat} {ws : va_W} : FrameBlind (PCX D cs av sz ws) := fun a U g mk q => by
  obtain ⟨q0, q1, qP, qK, qD, qN, qX, qS⟩ := q
  exact ⟨q0, q1, qP, va_K.moved (u := U) (U := U.calling g mk a) (Vm.Alike.refl U.vm) qK, qD, NWs.same (s := U) (U := U.calling g mk a) rfl qN, XF.same (s := U) (U := U.calling g mk a) rfl qX, XS.moved (u := U) (U := U.calling g mk a) (Vm.Alike.refl U.vm) qS⟩
abbrev QF (A : Nat → Prop) : Array Value → State → Outcome → State → Prop := va_Qv (fun (_ : Unit) => False) (fun _ _ => True) A
abbrev XC9 (D : va_G) (E : String) (ws : va_W) (A : Nat → Prop) : String → State → State → Prop := vx_X (fun (_ : Unit) => True) (fun E' _ t => E' = E ∧ va_P D CLS ws t.heap) A
/-- a method that throws E, and changes nothing -/
def MT (l : Launch) (y : MethodName) (k : Cond) (rm : Room) (D : va_G) (cs : ClassId × ClassId × ClassId × ClassId) (av : List Value) (ws : va_W) (E : String) : Prop :=
  ∀ sz, vx_Met l y (k :: TB) rm (PCX D cs av sz ws) (QF (va_A ws sz)) (XC9 D E ws (va_A ws sz)) 1 6 (va_A ws sz)
theorem MT.mk {l : Launch} {y : MethodName} {cc : ByteArray} {maxL : Nat} {ret : Option FieldType} {rm : Room} {D : va_G} {cs : ClassId × ClassId × ClassId × ClassId} {av : List Value} {ws : va_W} {E own : String}
    (hy : plainName y.cls = true) (ho : y.cls = own) (hn : (lg_sl av).length ≤ maxL)
    (body : ∀ (p : Program) (e : Env) (s : State) (m : MethodId) (below : List Frame) (meth : Method) (c : Code) (A : Nat → Prop), CX p s m av.toArray c cc maxL own D cs A → XF s → XS A s s.heap → (∀ x ∈ c.exceptionTable.toList, False) → meth.locks = false →
      GO p l e rm s m av.toArray below meth c 0 0 (vx_MQ below (QF A) (XC9 D E ws A) av.toArray s 1 6 A) A D maxL 0 (lv_args 0 av) [] ws) : MT l y (.code y cc maxL ret) rm D cs av ws E := by
  intro sz
  refine vx_ofW (cc := cc) (maxL := maxL) (ret := ret) hy rfl ?_
  intro p e s m args below meth c s₁ B hml hex hv
  obtain ⟨rfl, hsz, hP, hK, hD0, hNW, hXF, hXS⟩ := hv
  have hts := atoms_spec (ws := .code y cc maxL ret :: TB) B.pre
  have hown : s.vm.findClass own = some m.cls := by rw [← ho]; exact findClass_of_methodNamed B.named
  subst hsz
  have hD := hD0.self (sz := s.heap.size)
  have hl := lv_entry av hn
  rw [lg_entry_eq]
  exact body p e s m below meth c (va_A ws s.heap.size) ⟨⟨B.exec, B.bytes, hml, hown, fun w h => hts w (List.mem_cons_of_mem _ h)⟩, hK, fun q h => Or.inr h, hNW⟩ hXF hXS hex B.notSynchronized s.heap [] _ hP hD va_S.rf hl
section GR6
variable {p : Program} {l : Launch} {e : Env} {R : Room} {s : State} {m : MethodId} {args : Array Value} {below : List Frame} {meth : Method} {c : Code} {cells slots : Nat} {Q : State → Prop} {A : Nat → Prop} {D : va_G} {nL : Nat} {cc : ByteArray} {own : String} {cs : ClassId × ClassId × ClassId × ClassId}
variable {pc : Nat} {lv lv' : List (Nat × Value)} {st : List Value} {ws ws' : va_W}

theorem xc_of {E : String} {H : Heap} {locs : List Loc} (hP : va_P D CLS ws H) (hS : va_S A s.heap H locs) (t : State) (h1 : H.size ≤ t.heap.size) (h2 : ∀ q : Nat, q < H.size → t.heap[q]? = H[q]?) : XC9 D E ws A E s t := by
  refine ⟨(), trivial, ⟨rfl, hP.kept (fun k q hk => h2 q.1 (hP k q hk).lt)⟩, Nat.le_trans hS.1 h1, fun q hq hA => ?_⟩
  rw [h2 q (Nat.lt_of_lt_of_le hq hS.1)]
  exact hS.2.1 q hq hA
theorem g_throw (C : CX p s m args c cc nL "BoundedCodes" D cs A) (hl9 : l.stackTraces = false) {cls text : String} {ik is ic sa : Nat} {Qc : Array Value → State → Outcome → State → Prop} (hcls : Jvm.Bundle.fit cls = true) (wk : Cond.classLink "BoundedCodes" ik cls ∈ TB) (wi : Cond.initialized cls ∈ TB) (hstr : vk_R "BoundedCodes" is text sa s) (hcs : vaCs cls cls s)
    (xa : ∀ w ∈ (vx_atS "BoundedCodes" ic cls ["java/lang/RuntimeException", "java/lang/Exception"]).filter goodWord, w ∈ TB) (xb : ∀ w ∈ (vx_atS "BoundedCodes" ic cls ["java/lang/RuntimeException", "java/lang/Exception"]).filter (fun w => !goodWord w), w ∈ [Cond.castable cls cls, .declares ⟨"java/lang/RuntimeException", "<init>", "(Ljava/lang/String;)V"⟩, .declares ⟨"java/lang/Exception", "<init>", "(Ljava/lang/String;)V"⟩, .declares ⟨"java/lang/Throwable", "<init>", "(Ljava/lang/String;)V"⟩]) (xg : ∀ w ∈ Cond.classLink "BoundedCodes" ik cls :: Cond.initialized cls :: vx_atS "BoundedCodes" ic cls ["java/lang/RuntimeException", "java/lang/Exception"], vx_ot w = true)
    (xf : XF s) (xs : XS A s s.heap) (hex : ∀ x ∈ c.exceptionTable.toList, False) (hlk : meth.locks = false) (hR : 5 < R.frames ∧ 82 + (st.map fun v => v.category).sum ≤ R.locals ∧ 1 ≤ R.cells ∧ 6 ≤ R.slots)
    (d0 : decode cc pc = .ok (.new ik, 3)) (d3 : decode cc (pc + 3) = .ok (.dup, 1)) (d4 : decode cc (pc + 4) = .ok (.ldc is, 2)) (d6 : decode cc (pc + 6) = .ok (.invokespecial ic, 3)) (d9 : decode cc (pc + 9) = .ok (.athrow, 1)) :
    GO p l e R s m args below meth c 0 0 (vx_MQ below Qc (XC9 D cls ws A) args s 1 6 A) A D nL pc lv st ws := by
  obtain ⟨⟨hx, hb, hml, hown, ht⟩, hK, hA, hNW⟩ := C
  intro H locs ls hP hD hS hl
  exact vx_throwS hx hb hl9 hown hcls (by decide +kernel) (ht _ wk) (ht _ wi) hstr (vx_hat (fun w h => ht w (xa w h)) xb (vx_c hcs.use (vx_c (vaDc.use xf.2.2.2.2.2.1) (vx_c (vaDc.use xf.2.2.2.2.2.2.1) (vx_c (vaDc.use xf.2.2.2.2.2.2.2.1) vx_n))))) xg xs.1 xs.2 hS (hl.1.trans hml.symm) d0 d3 d4 d6 d9 (fun x h => (hex x h).elim) hR.1 (by have := hR.2.1; simp only [List.length_cons, List.length_nil]; omega) (by have := hR.2.2.1; omega) (by have := hR.2.2.2; omega) hlk (fun t _ h1 h2 => xc_of hP hS t h1 h2) hS.2.2 (Nat.le_refl _) (Nat.le_refl _)
theorem g_callVt_out (C : CX p s m args c cc nL own D cs A) {y : MethodName} {bytes : ByteArray} {maxL n index : Nat} {ret : Option FieldType} {rm : Room} {wc : va_W} {As rest st0 : List Value} {E : String} {b ci N : Nat} {C9 : String} {T : u_T} {fs : List Value} {Qc : Array Value → State → Outcome → State → Prop} (hM : MT l y (.code y bytes maxL ret) rm D cs (.ref b :: As) wc E) (w1 : Cond.methodLink own index y ∈ TB) (w2 : Cond.instanceMethod y ∈ TB) (w3 : Cond.selects C9 y y ∈ TB) (w4 : Cond.initialized C9 ∈ TB) (w5 : Cond.code y bytes maxL ret ∈ TB) (hcl : y.cls = C9) (q0 : Nat) (hrecv : wc[q0]? = some (b, .inr (ci, fs))) (hc9 : CLS[ci]? = some (C9, T, N))
    (xf : XF s) (xs : XS A s s.heap) (hex : ∀ x ∈ c.exceptionTable.toList, False) (hlk : meth.locks = false)
    (hnm : y.cls ≠ "java/lang/invoke/MethodHandle" ∧ y.cls ≠ "java/lang/invoke/VarHandle" ∧ (parseMethodDescriptor y.desc).map (fun d => d.parameters.length) = some n) (hnA : As.length = n)
    (hrm : rm.cells = 1 ∧ rm.slots = 6 ∧ (rm.frames + 1 ≤ R.frames ∧ 8 + (maxL + 11) + rm.locals ≤ R.locals) ∧ 0 + 1 ≤ R.cells ∧ 0 + 6 ≤ R.slots)
    (hst : st0 = As.reverse ++ .ref b :: rest) (isC : List Nat) (hC : isC.map (fun i => ws[i]?) = wc.map some) (hnd : va_nd isC = true) (hrest : (rest.map fun v => v.category).sum ≤ 8) (hws : wUpd ws isC wc = ws)
    (d : decode cc pc = .ok (.invokevirtual index, 3))  : GO p l e R s m args below meth c 0 0 (vx_MQ below Qc (XC9 D E ws A) args s 1 6 A) A D nL pc lv st0 ws := by
  obtain ⟨⟨hx, hb, hml, hown, ht⟩, hK, hA, hNW⟩ := C
  intro H locs ls hP hD hS hl
  have hPc : va_P D CLS wc H := hP.sub isC (by
    have e9 : isC.filterMap (fun i => ws[i]?) = (isC.map (fun i => ws[i]?)).filterMap id := by rw [List.filterMap_map]; rfl
    rw [e9, hC, List.filterMap_map]; simp)
  have hDc := hD.sub isC hnd hC
  have hKc := hK
  have hFc := va_free (wc := wc) hD hS hA isC hC
  have hpre : ∀ U : State, U.heap = H → s.WarmedH U.vm → PCX D cs (.ref b :: As) H.size wc (Value.ref b :: As).toArray U := fun U hU hW => ⟨rfl, by rw [hU], by rw [hU]; exact hPc, va_K.moved hW.alike hK, hDc.weaken (fun _ _ _ _ => trivial), NWs.warm hW hNW, XF.warm hW xf, by
    rw [hU]; exact XS.moved hW.alike ((xs.kept hS.2.1).narrow hFc)⟩
  refine vx_callv (vx_runV (As := As) (rest := rest) ⟨hx, hb, hml, hown, ht⟩ (hM H.size) (cwV n ht (tb_wsV w1 w2 w3 w4 w5) rfl hrm.1 hrm.2.1 ⟨hcl, hnm.1, hnm.2.1, hnm.2.2⟩ hrm.2.2.1) ⟨PCX.blind, va_recv hKc hPc (q0 := q0) hc9 hrecv, hpre⟩ rfl hnA hl.1 hst (lv_room hrest) d ⟨hrm.2.2.2.1, hrm.2.2.2.2⟩) hS (fun q _ h => hFc q h) hFc (fun q _ h => hFc q h) (fun E9 ce q9 u t H1 locs1 ht9 hvm hw hB hz1 hk1 hS1 hce hcv hcl9 => ?_) (fun u t H1 locs1 ht9 hvm hw hB hz1 hk1 hS1 => hw.elim)
  · rcases hB with ⟨rfl, hB⟩
    rw [ht9] at hB
    obtain ⟨hP9, hD9⟩ := w_upd isC hP hD hC rfl hk1 hB
    rw [hws] at hP9 hD9
    refine vx_widen (k := 1) (n := 6) (by omega) (by omega) ?_
    exact vx_out (fun x h => (hex x h).elim) hlk hce hcv hcl9 (fun t2 ht2 _ => xc_of hP9 hS1 t2 (by rw [ht2]; exact Nat.le_refl _) (fun q _ => by rw [ht2])) hS1.2.2 (Nat.le_refl _) (Nat.le_refl _)
theorem g_callSt_out (C : CX p s m args c cc nL own D cs A) {y : MethodName} {bytes : ByteArray} {maxL n index : Nat} {ret : Option FieldType} {rm : Room} {wc : va_W} {As rest st0 : List Value} {E : String}  {Qc : Array Value → State → Outcome → State → Prop} (hM : MT l y (.code y bytes maxL ret) rm D cs As wc E) (w1 : Cond.methodLink own index y ∈ TB) (w2 : Cond.static y ∈ TB) (w4 : Cond.initialized y.cls ∈ TB) (w5 : Cond.code y bytes maxL ret ∈ TB)
    (xf : XF s) (xs : XS A s s.heap) (hex : ∀ x ∈ c.exceptionTable.toList, False) (hlk : meth.locks = false)
    (hnm : y.cls ≠ "java/lang/invoke/MethodHandle" ∧ y.cls ≠ "java/lang/invoke/VarHandle" ∧ (parseMethodDescriptor y.desc).map (fun d => d.parameters.length) = some n) (hnA : As.length = n)
    (hrm : rm.cells = 1 ∧ rm.slots = 6 ∧ (rm.frames + 1 ≤ R.frames ∧ 8 + (maxL + 11) + rm.locals ≤ R.locals) ∧ 0 + 1 ≤ R.cells ∧ 0 + 6 ≤ R.slots)
    (hst : st0 = As.reverse ++ rest) (isC : List Nat) (hC : isC.map (fun i => ws[i]?) = wc.map some) (hnd : va_nd isC = true) (hrest : (rest.map fun v => v.category).sum ≤ 8) (hws : wUpd ws isC wc = ws)
    (d : decode cc pc = .ok (.invokestatic index, 3))  : GO p l e R s m args below meth c 0 0 (vx_MQ below Qc (XC9 D E ws A) args s 1 6 A) A D nL pc lv st0 ws := by
  obtain ⟨⟨hx, hb, hml, hown, ht⟩, hK, hA, hNW⟩ := C
  intro H locs ls hP hD hS hl
  have hPc : va_P D CLS wc H := hP.sub isC (by
    have e9 : isC.filterMap (fun i => ws[i]?) = (isC.map (fun i => ws[i]?)).filterMap id := by rw [List.filterMap_map]; rfl
    rw [e9, hC, List.filterMap_map]; simp)
  have hDc := hD.sub isC hnd hC
  have hKc := hK
  have hFc := va_free (wc := wc) hD hS hA isC hC
  have hpre : ∀ U : State, U.heap = H → s.WarmedH U.vm → PCX D cs As H.size wc (As).toArray U := fun U hU hW => ⟨rfl, by rw [hU], by rw [hU]; exact hPc, va_K.moved hW.alike hK, hDc.weaken (fun _ _ _ _ => trivial), NWs.warm hW hNW, XF.warm hW xf, by
    rw [hU]; exact XS.moved hW.alike ((xs.kept hS.2.1).narrow hFc)⟩
  refine vx_callv (vx_runS (As := As) (rest := rest) ⟨hx, hb, hml, hown, ht⟩ (hM H.size) (va_cwS n ht (tb_wsS w1 w2 w4 w5) rfl hrm.1 hrm.2.1 hnm hrm.2.2.1) ⟨PCX.blind, hpre⟩ rfl hnA hl.1 hst (lv_room hrest) d ⟨hrm.2.2.2.1, hrm.2.2.2.2⟩) hS (fun q _ h => hFc q h) hFc (fun q _ h => hFc q h) (fun E9 ce q9 u t H1 locs1 ht9 hvm hw hB hz1 hk1 hS1 hce hcv hcl9 => ?_) (fun u t H1 locs1 ht9 hvm hw hB hz1 hk1 hS1 => hw.elim)
  · rcases hB with ⟨rfl, hB⟩
    rw [ht9] at hB
    obtain ⟨hP9, hD9⟩ := w_upd isC hP hD hC rfl hk1 hB
    rw [hws] at hP9 hD9
    refine vx_widen (k := 1) (n := 6) (by omega) (by omega) ?_
    exact vx_out (fun x h => (hex x h).elim) hlk hce hcv hcl9 (fun t2 ht2 _ => xc_of hP9 hS1 t2 (by rw [ht2]; exact Nat.le_refl _) (fun q _ => by rw [ht2])) hS1.2.2 (Nat.le_refl _) (Nat.le_refl _)
theorem g_callVt_cat (C : CX p s m args c cc nL own D cs A) {y : MethodName} {bytes : ByteArray} {maxL n index : Nat} {ret : Option FieldType} {rm : Room} {wc : va_W} {As rest st0 : List Value} {E : String} {b ci N : Nat} {C9 : String} {T : u_T} {fs : List Value} {pc9 : Nat} (hM : MT l y (.code y bytes maxL ret) rm D cs (.ref b :: As) wc E) (w1 : Cond.methodLink own index y ∈ TB) (w2 : Cond.instanceMethod y ∈ TB) (w3 : Cond.selects C9 y y ∈ TB) (w4 : Cond.initialized C9 ∈ TB) (w5 : Cond.code y bytes maxL ret ∈ TB) (hcl : y.cls = C9) (q0 : Nat) (hrecv : wc[q0]? = some (b, .inr (ci, fs))) (hc9 : CLS[ci]? = some (C9, T, N))
    (xf : XF s) (xs : XS A s s.heap) (pre : List ExceptionTableEntry) (x9 : ExceptionTableEntry) (suf : List ExceptionTableEntry) (hsplit : c.exceptionTable.toList = pre ++ x9 :: suf) (hpass : ∀ z ∈ pre, covers z pc = false ∨ (z.catchType ≠ 0 ∧ ∃ nm : String, Cond.classLink own z.catchType nm ∈ TB ∧ va_Nc E nm s)) (hx9 : covers x9 pc = true) (h09 : x9.catchType ≠ 0) (wl : Cond.classLink own x9.catchType E ∈ TB) (hcs : vaCs E E s) (hpc : x9.handlerPc = pc9)
    (hnm : y.cls ≠ "java/lang/invoke/MethodHandle" ∧ y.cls ≠ "java/lang/invoke/VarHandle" ∧ (parseMethodDescriptor y.desc).map (fun d => d.parameters.length) = some n) (hnA : As.length = n)
    (hrm : rm.cells = 1 ∧ rm.slots = 6 ∧ (rm.frames + 1 ≤ R.frames ∧ 8 + (maxL + 11) + rm.locals ≤ R.locals) ∧ 0 + 1 ≤ R.cells ∧ 0 + 6 ≤ R.slots)
    (hst : st0 = As.reverse ++ .ref b :: rest) (isC : List Nat) (hC : isC.map (fun i => ws[i]?) = wc.map some) (hnd : va_nd isC = true) (hrest : (rest.map fun v => v.category).sum ≤ 8) (hws : wUpd ws isC wc = ws)
    (d : decode cc pc = .ok (.invokevirtual index, 3)) (g : ∀ q9 : Nat, GO p l e R s m args below meth c 1 6 Q A D nL pc9 lv [.ref q9] ws) : GO p l e R s m args below meth c 0 0 Q A D nL pc lv st0 ws := by
  obtain ⟨⟨hx, hb, hml, hown, ht⟩, hK, hA, hNW⟩ := C
  intro H locs ls hP hD hS hl
  have hPc : va_P D CLS wc H := hP.sub isC (by
    have e9 : isC.filterMap (fun i => ws[i]?) = (isC.map (fun i => ws[i]?)).filterMap id := by rw [List.filterMap_map]; rfl
    rw [e9, hC, List.filterMap_map]; simp)
  have hDc := hD.sub isC hnd hC
  have hKc := hK
  have hFc := va_free (wc := wc) hD hS hA isC hC
  have hpre : ∀ U : State, U.heap = H → s.WarmedH U.vm → PCX D cs (.ref b :: As) H.size wc (Value.ref b :: As).toArray U := fun U hU hW => ⟨rfl, by rw [hU], by rw [hU]; exact hPc, va_K.moved hW.alike hK, hDc.weaken (fun _ _ _ _ => trivial), NWs.warm hW hNW, XF.warm hW xf, by
    rw [hU]; exact XS.moved hW.alike ((xs.kept hS.2.1).narrow hFc)⟩
  refine vx_callv (vx_runV (As := As) (rest := rest) ⟨hx, hb, hml, hown, ht⟩ (hM H.size) (cwV n ht (tb_wsV w1 w2 w3 w4 w5) rfl hrm.1 hrm.2.1 ⟨hcl, hnm.1, hnm.2.1, hnm.2.2⟩ hrm.2.2.1) ⟨PCX.blind, va_recv hKc hPc (q0 := q0) hc9 hrecv, hpre⟩ rfl hnA hl.1 hst (lv_room hrest) d ⟨hrm.2.2.2.1, hrm.2.2.2.2⟩) hS (fun q _ h => hFc q h) hFc (fun q _ h => hFc q h) (fun E9 ce q9 u t H1 locs1 ht9 hvm hw hB hz1 hk1 hS1 hce hcv hcl9 => ?_) (fun u t H1 locs1 ht9 hvm hw hB hz1 hk1 hS1 => hw.elim)
  · rcases hB with ⟨rfl, hB⟩
    rw [ht9] at hB
    obtain ⟨hP9, hD9⟩ := w_upd isC hP hD hC rfl hk1 hB
    rw [hws] at hP9 hD9
    refine vx_catch hown pre x9 suf hsplit (fun z hz => (hpass z hz).imp id (fun h => ⟨h.1, h.2.choose, ht _ h.2.choose_spec.1, h.2.choose_spec.2⟩)) hx9 h09 (ht _ wl) hcs.use hce hcv hcl9 ?_
    rw [hpc]
    exact W.widen (by omega) (by omega) (g q9 H1 locs1 ls hP9 hD9 hS1 hl)
end GR6
end
section
set_option maxHeartbeats 4000000 in
set_option maxRecDepth 100000 in
theorem m_B_needSymbol (l : Launch) (D : va_G) (cs : ClassId × ClassId × ClassId × ClassId) (y : Nat) (hy : y < 48) : MG l y_B_needSymbol k_B_needSymbol { frames := 0, cells := 0, slots := 0, locals := 0 } D cs [.int (nI (y))] [] (QV D []) := by
  refine MG.mk (own := RB) (by decide) rfl (Nat.le_of_ble_eq_true rfl) ?_
  intro p e s m below meth c A C hr hlk
  refine g_lv (lv' := [(0, .int (nI (y)))]) [0] rfl ?_
  refine g_iload_n C d_B_needSymbol_0 0 rfl rfl ?_
  refine n_if_lt C 10 d_B_needSymbol_1 (by decide) (by omega) ?_
  refine g_iload_n C d_B_needSymbol_4 0 rfl rfl ?_
  refine g_bipush C (v := nI 48) d_B_needSymbol_5 rfl ?_
  refine n_icmp_lt C 20 d_B_needSymbol_7 (by decide) (by omega) (by omega) (fun h7 => ?_) (fun h7 => ?_)
  · exact g_vret C hr hlk rfl d_B_needSymbol_20
  · exact absurd hy (by omega)
set_option maxHeartbeats 4000000 in
set_option maxRecDepth 100000 in
theorem t_B_needSymbol (l : Launch) (hl9 : l.stackTraces = false) (D : va_G) (cs : ClassId × ClassId × ClassId × ClassId) (x : Int32) (hx : x < 0 ∨ ¬ x < nI 48) : MT l y_B_needSymbol k_B_needSymbol { frames := 6, cells := 1, slots := 6, locals := 82 } D cs [.int (x)] [] "java/lang/IndexOutOfBoundsException" := by
  refine MT.mk (own := RB) (by decide) rfl (Nat.le_of_ble_eq_true rfl) ?_
  intro p e s m below meth c A C xf xs hex hlk
  refine g_lv (lv' := [(0, .int (x))]) [0] rfl ?_
  refine g_iload_n C d_B_needSymbol_0 0 rfl rfl ?_
  refine g_if_lt C 10 d_B_needSymbol_1 (by decide) (fun h1 => ?_) (fun h1 => ?_)
  · obtain ⟨sa, hsa⟩ := xf.2.2.2.2.2.2.2.2.1
    exact g_throw C hl9 (by decide +kernel) tw_216 tw_10 hsa xf.1 xa_O xb_O xg_O xf xs hex hlk ⟨by decide, Nat.le_of_ble_eq_true rfl, by decide, by decide⟩ d_B_needSymbol_10 d_B_needSymbol_13 d_B_needSymbol_14 d_B_needSymbol_16 d_B_needSymbol_19
  · refine g_iload_n C d_B_needSymbol_4 0 rfl rfl ?_
    refine g_bipush C (v := nI 48) d_B_needSymbol_5 rfl ?_
    refine g_icmp_lt C 20 d_B_needSymbol_7 (by decide) (fun h7 => ?_) (fun h7 => ?_)
    · exact hx.elim (fun h => absurd h (by assumption)) (fun h => absurd (by assumption) h)
    · obtain ⟨sa, hsa⟩ := xf.2.2.2.2.2.2.2.2.1
      exact g_throw C hl9 (by decide +kernel) tw_216 tw_10 hsa xf.1 xa_O xb_O xg_O xf xs hex hlk ⟨by decide, Nat.le_of_ble_eq_true rfl, by decide, by decide⟩ d_B_needSymbol_10 d_B_needSymbol_13 d_B_needSymbol_14 d_B_needSymbol_16 d_B_needSymbol_19
set_option maxHeartbeats 4000000 in
set_option maxRecDepth 100000 in
theorem m_B_needCodes (l : Launch) (D : va_G) (cs : ClassId × ClassId × ClassId × ClassId) (b k bc bl bx a al ac ah an g gr : Nat) (ct : Nat → Nat) (lo ex : Nat → Int32) (wr : Nat) (lv9 : Int64) (rl : Nat) (ln cn sn xn : Nat → Nat) (fl : Nat) (rb : Nat → Nat) (st sz : Nat) (hf : fl ≤ 65536) : MG l y_B_needCodes k_B_needCodes { frames := 1, cells := 0, slots := 0, locals := 20 } D cs [.ref b] [(b, .inr (3, [.ref a, .ref k, .ref g, .ref bc, .ref bl, .ref bx, .int (nI (wr)), .long (lv9)])), (bc, .inl (cs.2.1, 48, .inr (.inl (fun j => lN (ct j))))), (bl, .inl (cs.1, 48, .inl (lo))), (bx, .inl (cs.1, 48, .inl (ex))), (a, .inr (1, [.int (nI (rl)), .ref al, .ref ac, .ref ah, .ref an, .int (nI (fl))])), (al, .inl (cs.1, 48, .inl (fun j => nI (ln j)))), (ac, .inl (cs.1, 48, .inl (fun j => nI (cn j)))), (ah, .inl (cs.1, 17, .inl (fun j => nI (sn j)))), (an, .inl (cs.1, 17, .inl (fun j => nI (xn j)))), (g, .inr (2, [.ref gr, .int (nI (st)), .int (nI (sz))])), (gr, .inl (cs.1, 400, .inl (fun j => nI (rb j))))] (QV D [(b, .inr (3, [.ref a, .ref k, .ref g, .ref bc, .ref bl, .ref bx, .int (nI (wr)), .long (lv9)])), (bc, .inl (cs.2.1, 48, .inr (.inl (fun j => lN (ct j))))), (bl, .inl (cs.1, 48, .inl (lo))), (bx, .inl (cs.1, 48, .inl (ex))), (a, .inr (1, [.int (nI (rl)), .ref al, .ref ac, .ref ah, .ref an, .int (nI (fl))])), (al, .inl (cs.1, 48, .inl (fun j => nI (ln j)))), (ac, .inl (cs.1, 48, .inl (fun j => nI (cn j)))), (ah, .inl (cs.1, 17, .inl (fun j => nI (sn j)))), (an, .inl (cs.1, 17, .inl (fun j => nI (xn j)))), (g, .inr (2, [.ref gr, .int (nI (st)), .int (nI (sz))])), (gr, .inl (cs.1, 400, .inl (fun j => nI (rb j))))]) := by
  refine MG.mk (own := RB) (by decide) rfl (Nat.le_of_ble_eq_true rfl) ?_
  intro p e s m below meth c A C hr hlk
  refine g_lv (lv' := [(0, .ref b)]) [0] rfl ?_
  refine g_aload_n C d_B_needCodes_0 0 rfl rfl ?_
  refine g_get C (T := FB) (N := 8) 0 0 inB rfl rfl (by decide) tw_105 rfl rfl d_B_needCodes_1 ?_
  refine g_callVi C (n := 0) (ws' := [(b, .inr (3, [.ref a, .ref k, .ref g, .ref bc, .ref bl, .ref bx, .int (nI (wr)), .long (lv9)])), (bc, .inl (cs.2.1, 48, .inr (.inl (fun j => lN (ct j))))), (bl, .inl (cs.1, 48, .inl (lo))), (bx, .inl (cs.1, 48, .inl (ex))), (a, .inr (1, [.int (nI (rl)), .ref al, .ref ac, .ref ah, .ref an, .int (nI (fl))])), (al, .inl (cs.1, 48, .inl (fun j => nI (ln j)))), (ac, .inl (cs.1, 48, .inl (fun j => nI (cn j)))), (ah, .inl (cs.1, 17, .inl (fun j => nI (sn j)))), (an, .inl (cs.1, 17, .inl (fun j => nI (xn j)))), (g, .inr (2, [.ref gr, .int (nI (st)), .int (nI (sz))])), (gr, .inl (cs.1, 400, .inl (fun j => nI (rb j))))]) (As := []) (rest := []) (m_T_state l D cs a al ac ah an (rl) (ln) (cn) (sn) (xn) (fl) (by omega)) tw_134 tw_135 tw_136 tw_4 tw_137 rfl 0 rfl rfl (by decide +kernel) rfl ⟨rfl, rfl, by decide, by decide, by decide⟩ rfl [4, 5, 6, 7, 8] rfl rfl (by decide) (Nat.le_of_ble_eq_true rfl) rfl d_B_needCodes_4 ?_
  refine g_iconst C (v := nI 2) d_B_needCodes_7 rfl ?_
  refine n_icmp_ne C 21 d_B_needCodes_8 (by decide) (by unfold stt; (repeat' split) <;> omega) (by omega) (fun _ => ?_) (fun h => absurd h (by unfold stt; (repeat' split) <;> omega))
  exact g_vret C hr hlk rfl d_B_needCodes_21
set_option maxHeartbeats 4000000 in
set_option maxRecDepth 100000 in
theorem t_B_needCodes (l : Launch) (hl9 : l.stackTraces = false) (D : va_G) (cs : ClassId × ClassId × ClassId × ClassId) (b k bc bl bx a al ac ah an g gr : Nat) (ct : Nat → Nat) (lo ex : Nat → Int32) (wr : Nat) (lv9 : Int64) (rl : Nat) (ln cn sn xn : Nat → Nat) (fl : Nat) (rb : Nat → Nat) (st sz : Nat) (hf : 65536 < fl) (hf2 : fl < 2 ^ 31) : MT l y_B_needCodes k_B_needCodes { frames := 6, cells := 1, slots := 6, locals := 82 } D cs [.ref b] [(b, .inr (3, [.ref a, .ref k, .ref g, .ref bc, .ref bl, .ref bx, .int (nI (wr)), .long (lv9)])), (bc, .inl (cs.2.1, 48, .inr (.inl (fun j => lN (ct j))))), (bl, .inl (cs.1, 48, .inl (lo))), (bx, .inl (cs.1, 48, .inl (ex))), (a, .inr (1, [.int (nI (rl)), .ref al, .ref ac, .ref ah, .ref an, .int (nI (fl))])), (al, .inl (cs.1, 48, .inl (fun j => nI (ln j)))), (ac, .inl (cs.1, 48, .inl (fun j => nI (cn j)))), (ah, .inl (cs.1, 17, .inl (fun j => nI (sn j)))), (an, .inl (cs.1, 17, .inl (fun j => nI (xn j)))), (g, .inr (2, [.ref gr, .int (nI (st)), .int (nI (sz))])), (gr, .inl (cs.1, 400, .inl (fun j => nI (rb j))))] "java/lang/IllegalStateException" := by
  refine MT.mk (own := RB) (by decide) rfl (Nat.le_of_ble_eq_true rfl) ?_
  intro p e s m below meth c A C xf xs hex hlk
  refine g_lv (lv' := [(0, .ref b)]) [0] rfl ?_
  refine g_aload_n C d_B_needCodes_0 0 rfl rfl ?_
  refine g_get C (T := FB) (N := 8) 0 0 inB rfl rfl (by decide) tw_105 rfl rfl d_B_needCodes_1 ?_
  refine g_callVi C (n := 0) (ws' := [(b, .inr (3, [.ref a, .ref k, .ref g, .ref bc, .ref bl, .ref bx, .int (nI (wr)), .long (lv9)])), (bc, .inl (cs.2.1, 48, .inr (.inl (fun j => lN (ct j))))), (bl, .inl (cs.1, 48, .inl (lo))), (bx, .inl (cs.1, 48, .inl (ex))), (a, .inr (1, [.int (nI (rl)), .ref al, .ref ac, .ref ah, .ref an, .int (nI (fl))])), (al, .inl (cs.1, 48, .inl (fun j => nI (ln j)))), (ac, .inl (cs.1, 48, .inl (fun j => nI (cn j)))), (ah, .inl (cs.1, 17, .inl (fun j => nI (sn j)))), (an, .inl (cs.1, 17, .inl (fun j => nI (xn j)))), (g, .inr (2, [.ref gr, .int (nI (st)), .int (nI (sz))])), (gr, .inl (cs.1, 400, .inl (fun j => nI (rb j))))]) (As := []) (rest := []) (m_T_state l D cs a al ac ah an (rl) (ln) (cn) (sn) (xn) (fl) hf2) tw_134 tw_135 tw_136 tw_4 tw_137 rfl 0 rfl rfl (by decide +kernel) rfl ⟨rfl, rfl, by decide, by decide, by decide⟩ rfl [4, 5, 6, 7, 8] rfl rfl (by decide) (Nat.le_of_ble_eq_true rfl) rfl d_B_needCodes_4 ?_
  refine g_iconst C (v := nI 2) d_B_needCodes_7 rfl ?_
  refine n_icmp_ne C 21 d_B_needCodes_8 (by decide) (by unfold stt; (repeat' split) <;> omega) (by omega) (fun h => absurd h (by unfold stt; (repeat' split) <;> omega)) (fun _ => ?_)
  obtain ⟨sa, hsa⟩ := xf.2.2.2.2.2.2.2.2.2.2.2.1
  exact g_throw C hl9 (by decide +kernel) tw_349 tw_12 hsa xf.2.2.1 xa_S xb_S xg_S xf xs hex hlk ⟨by decide, Nat.le_of_ble_eq_true rfl, by decide, by decide⟩ d_B_needCodes_11 d_B_needCodes_14 d_B_needCodes_15 d_B_needCodes_17 d_B_needCodes_20
end
section
set_option maxHeartbeats 4000000 in
set_option maxRecDepth 100000 in
theorem m_B_count (l : Launch) (D : va_G) (cs : ClassId × ClassId × ClassId × ClassId) (b k bc bl bx a al ac ah an g gr : Nat) (ct : Nat → Nat) (lo ex : Nat → Int32) (wr : Nat) (lv9 : Int64) (rl : Nat) (ln cn sn xn : Nat → Nat) (fl : Nat) (rb : Nat → Nat) (st sz : Nat) (y n9 : Nat) (hy : y < 48) (hn9 : n9 ≤ 1000000000) (hct : ∀ j, j < 48 → ct j ≤ 1000000000) : MG l y_B_count k_B_count { frames := 1, cells := 0, slots := 0, locals := 20 } D cs [.ref b, .int (nI (y)), .long (lN (n9))] [(b, .inr (3, [.ref a, .ref k, .ref g, .ref bc, .ref bl, .ref bx, .int (nI (wr)), .long (lv9)])), (bc, .inl (cs.2.1, 48, .inr (.inl (fun j => lN (ct j))))), (bl, .inl (cs.1, 48, .inl (lo))), (bx, .inl (cs.1, 48, .inl (ex))), (a, .inr (1, [.int (nI (rl)), .ref al, .ref ac, .ref ah, .ref an, .int (nI (fl))])), (al, .inl (cs.1, 48, .inl (fun j => nI (ln j)))), (ac, .inl (cs.1, 48, .inl (fun j => nI (cn j)))), (ah, .inl (cs.1, 17, .inl (fun j => nI (sn j)))), (an, .inl (cs.1, 17, .inl (fun j => nI (xn j)))), (g, .inr (2, [.ref gr, .int (nI (st)), .int (nI (sz))])), (gr, .inl (cs.1, 400, .inl (fun j => nI (rb j))))] (QI D (nI (if ct y = n9 then 0 else 1)) [(b, .inr (3, [.ref a, .ref k, .ref g, .ref bc, .ref bl, .ref bx, .int (nI (wr)), .long (lv9)])), (bc, .inl (cs.2.1, 48, .inr (.inl (fun j => lN ((updN (ct) (y) (n9)) j))))), (bl, .inl (cs.1, 48, .inl (lo))), (bx, .inl (cs.1, 48, .inl (ex))), (a, .inr (1, [.int (nI (rl)), .ref al, .ref ac, .ref ah, .ref an, .int (nI (fl))])), (al, .inl (cs.1, 48, .inl (fun j => nI (ln j)))), (ac, .inl (cs.1, 48, .inl (fun j => nI (cn j)))), (ah, .inl (cs.1, 17, .inl (fun j => nI (sn j)))), (an, .inl (cs.1, 17, .inl (fun j => nI (xn j)))), (g, .inr (2, [.ref gr, .int (nI (st)), .int (nI (sz))])), (gr, .inl (cs.1, 400, .inl (fun j => nI (rb j))))]) := by
  refine MG.mk (own := RB) (by decide) rfl (Nat.le_of_ble_eq_true rfl) ?_
  intro p e s m below meth c A C hr hlk
  refine g_lv (lv' := [(0, .ref b), (1, .int (nI (y))), (2, .long (lN (n9)))]) [0, 1, 2] rfl ?_
  refine g_iload_n C d_B_count_0 1 rfl rfl ?_
  refine g_callSv C (n := 1) (ws' := [(b, .inr (3, [.ref a, .ref k, .ref g, .ref bc, .ref bl, .ref bx, .int (nI (wr)), .long (lv9)])), (bc, .inl (cs.2.1, 48, .inr (.inl (fun j => lN (ct j))))), (bl, .inl (cs.1, 48, .inl (lo))), (bx, .inl (cs.1, 48, .inl (ex))), (a, .inr (1, [.int (nI (rl)), .ref al, .ref ac, .ref ah, .ref an, .int (nI (fl))])), (al, .inl (cs.1, 48, .inl (fun j => nI (ln j)))), (ac, .inl (cs.1, 48, .inl (fun j => nI (cn j)))), (ah, .inl (cs.1, 17, .inl (fun j => nI (sn j)))), (an, .inl (cs.1, 17, .inl (fun j => nI (xn j)))), (g, .inr (2, [.ref gr, .int (nI (st)), .int (nI (sz))])), (gr, .inl (cs.1, 400, .inl (fun j => nI (rb j))))]) (As := [.int (nI (y))]) (rest := []) (m_B_needSymbol l D cs (y) (by omega)) tw_213 tw_214 tw_1 tw_215 (by decide +kernel) rfl ⟨rfl, rfl, by decide, by decide, by decide⟩ rfl [] rfl rfl (by decide) (Nat.le_of_ble_eq_true rfl) rfl d_B_count_1 ?_
  refine g_lload_n C d_B_count_4 2 rfl rfl ?_
  refine g_lconst C (v := lN 0) d_B_count_5 rfl ?_
  refine n_lcmp_lt C 18 d_B_count_6 d_B_count_7 (by decide) (by omega) (by omega) (fun h => absurd h (by omega)) (fun _ => ?_)
  refine g_lload_n C d_B_count_10 2 rfl rfl ?_
  refine g_ldc2 C (v := lN 1000000000) tw_284 d_B_count_11 ?_
  refine n_lcmp_le C 28 d_B_count_14 d_B_count_15 (by decide) (by omega) (by omega) (fun _ => ?_) (fun h => absurd h (by omega))
  refine g_aload_n C d_B_count_28 0 rfl rfl ?_
  refine g_get C (T := FB) (N := 8) 0 3 inB rfl rfl (by decide) tw_108 rfl rfl d_B_count_29 ?_
  refine g_iload_n C d_B_count_32 1 rfl rfl ?_
  refine g_lald C 1 rfl (by omega) (by decide) d_B_count_33 ?_
  refine g_lload_n C d_B_count_34 2 rfl rfl ?_
  refine n_lcmp_eq C 43 d_B_count_35 d_B_count_36 (by decide) (by have := hct y hy; omega) (by omega) (fun h35 => ?_) (fun h35 => ?_)
  · refine g_iconst C (v := nI 0) d_B_count_43 rfl ?_
    refine g_istore C (lv' := [(4, .int (nI (0))), (0, .ref b), (1, .int (nI (y))), (2, .long (lN (n9)))]) d_B_count_44 (by decide) rfl ?_
    refine g_aload_n C d_B_count_46 1 rfl rfl ?_
    refine g_get C (T := FB) (N := 8) 0 3 inB rfl rfl (by decide) tw_108 rfl rfl d_B_count_47 ?_
    refine g_iload_n C d_B_count_50 2 rfl rfl ?_
    refine g_lload_n C d_B_count_51 3 rfl rfl ?_
    refine n_last C (ws' := [(b, .inr (3, [.ref a, .ref k, .ref g, .ref bc, .ref bl, .ref bx, .int (nI (wr)), .long (lv9)])), (bc, .inl (cs.2.1, 48, .inr (.inl (fun j => lN ((updN (ct) (y) (n9)) j))))), (bl, .inl (cs.1, 48, .inl (lo))), (bx, .inl (cs.1, 48, .inl (ex))), (a, .inr (1, [.int (nI (rl)), .ref al, .ref ac, .ref ah, .ref an, .int (nI (fl))])), (al, .inl (cs.1, 48, .inl (fun j => nI (ln j)))), (ac, .inl (cs.1, 48, .inl (fun j => nI (cn j)))), (ah, .inl (cs.1, 17, .inl (fun j => nI (sn j)))), (an, .inl (cs.1, 17, .inl (fun j => nI (xn j)))), (g, .inr (2, [.ref gr, .int (nI (st)), .int (nI (sz))])), (gr, .inl (cs.1, 400, .inl (fun j => nI (rb j))))]) 1 rfl (by omega) (by decide) rfl d_B_count_52 ?_
    refine g_iload C d_B_count_53 0 rfl ?_
    exact g_zret C hr hlk rfl (by first | rw [if_pos (by assumption)] | rw [if_neg (by assumption)]) rfl d_B_count_55
  · refine g_iconst C (v := nI 1) d_B_count_39 rfl ?_
    refine g_goto C 44 d_B_count_40 (by decide) ?_
    refine g_istore C (lv' := [(4, .int (nI (1))), (0, .ref b), (1, .int (nI (y))), (2, .long (lN (n9)))]) d_B_count_44 (by decide) rfl ?_
    refine g_aload_n C d_B_count_46 1 rfl rfl ?_
    refine g_get C (T := FB) (N := 8) 0 3 inB rfl rfl (by decide) tw_108 rfl rfl d_B_count_47 ?_
    refine g_iload_n C d_B_count_50 2 rfl rfl ?_
    refine g_lload_n C d_B_count_51 3 rfl rfl ?_
    refine n_last C (ws' := [(b, .inr (3, [.ref a, .ref k, .ref g, .ref bc, .ref bl, .ref bx, .int (nI (wr)), .long (lv9)])), (bc, .inl (cs.2.1, 48, .inr (.inl (fun j => lN ((updN (ct) (y) (n9)) j))))), (bl, .inl (cs.1, 48, .inl (lo))), (bx, .inl (cs.1, 48, .inl (ex))), (a, .inr (1, [.int (nI (rl)), .ref al, .ref ac, .ref ah, .ref an, .int (nI (fl))])), (al, .inl (cs.1, 48, .inl (fun j => nI (ln j)))), (ac, .inl (cs.1, 48, .inl (fun j => nI (cn j)))), (ah, .inl (cs.1, 17, .inl (fun j => nI (sn j)))), (an, .inl (cs.1, 17, .inl (fun j => nI (xn j)))), (g, .inr (2, [.ref gr, .int (nI (st)), .int (nI (sz))])), (gr, .inl (cs.1, 400, .inl (fun j => nI (rb j))))]) 1 rfl (by omega) (by decide) rfl d_B_count_52 ?_
    refine g_iload C d_B_count_53 0 rfl ?_
    exact g_zret C hr hlk rfl (by first | rw [if_pos (by assumption)] | rw [if_neg (by assumption)]) rfl d_B_count_55
set_option maxHeartbeats 4000000 in
set_option maxRecDepth 100000 in
theorem t_B_count_o (l : Launch) (hl9 : l.stackTraces = false) (D : va_G) (cs : ClassId × ClassId × ClassId × ClassId) (b k bc bl bx a al ac ah an g gr : Nat) (ct : Nat → Nat) (lo ex : Nat → Int32) (wr : Nat) (lv9 : Int64) (rl : Nat) (ln cn sn xn : Nat → Nat) (fl : Nat) (rb : Nat → Nat) (st sz : Nat) (x : Int32) (hx : x < 0 ∨ ¬ x < nI 48) (n9 : Int64) : MT l y_B_count k_B_count { frames := 7, cells := 1, slots := 6, locals := 102 } D cs [.ref b, .int (x), .long (n9)] [(b, .inr (3, [.ref a, .ref k, .ref g, .ref bc, .ref bl, .ref bx, .int (nI (wr)), .long (lv9)])), (bc, .inl (cs.2.1, 48, .inr (.inl (fun j => lN (ct j))))), (bl, .inl (cs.1, 48, .inl (lo))), (bx, .inl (cs.1, 48, .inl (ex))), (a, .inr (1, [.int (nI (rl)), .ref al, .ref ac, .ref ah, .ref an, .int (nI (fl))])), (al, .inl (cs.1, 48, .inl (fun j => nI (ln j)))), (ac, .inl (cs.1, 48, .inl (fun j => nI (cn j)))), (ah, .inl (cs.1, 17, .inl (fun j => nI (sn j)))), (an, .inl (cs.1, 17, .inl (fun j => nI (xn j)))), (g, .inr (2, [.ref gr, .int (nI (st)), .int (nI (sz))])), (gr, .inl (cs.1, 400, .inl (fun j => nI (rb j))))] "java/lang/IndexOutOfBoundsException" := by
  refine MT.mk (own := RB) (by decide) rfl (Nat.le_of_ble_eq_true rfl) ?_
  intro p e s m below meth c A C xf xs hex hlk
  refine g_lv (lv' := [(0, .ref b), (1, .int (x)), (2, .long (n9))]) [0, 1, 2] rfl ?_
  refine g_iload_n C d_B_count_0 1 rfl rfl ?_
  exact g_callSt_out C (n := 1) (As := [.int (x)]) (rest := []) (t_B_needSymbol l hl9 D cs (x) hx) tw_213 tw_214 tw_1 tw_215 xf xs hex hlk (by decide +kernel) rfl ⟨rfl, rfl, by decide, by decide, by decide⟩ rfl [] rfl (by decide) (Nat.le_of_ble_eq_true rfl) rfl d_B_count_1
set_option maxHeartbeats 4000000 in
set_option maxRecDepth 100000 in
theorem t_B_count_a (l : Launch) (hl9 : l.stackTraces = false) (D : va_G) (cs : ClassId × ClassId × ClassId × ClassId) (b k bc bl bx a al ac ah an g gr : Nat) (ct : Nat → Nat) (lo ex : Nat → Int32) (wr : Nat) (lv9 : Int64) (rl : Nat) (ln cn sn xn : Nat → Nat) (fl : Nat) (rb : Nat → Nat) (st sz : Nat) (y : Nat) (hy : y < 48) (n9 : Int64) (hx : n9 < lN 0 ∨ lN 1000000000 < n9) : MT l y_B_count k_B_count { frames := 7, cells := 1, slots := 6, locals := 102 } D cs [.ref b, .int (nI (y)), .long (n9)] [(b, .inr (3, [.ref a, .ref k, .ref g, .ref bc, .ref bl, .ref bx, .int (nI (wr)), .long (lv9)])), (bc, .inl (cs.2.1, 48, .inr (.inl (fun j => lN (ct j))))), (bl, .inl (cs.1, 48, .inl (lo))), (bx, .inl (cs.1, 48, .inl (ex))), (a, .inr (1, [.int (nI (rl)), .ref al, .ref ac, .ref ah, .ref an, .int (nI (fl))])), (al, .inl (cs.1, 48, .inl (fun j => nI (ln j)))), (ac, .inl (cs.1, 48, .inl (fun j => nI (cn j)))), (ah, .inl (cs.1, 17, .inl (fun j => nI (sn j)))), (an, .inl (cs.1, 17, .inl (fun j => nI (xn j)))), (g, .inr (2, [.ref gr, .int (nI (st)), .int (nI (sz))])), (gr, .inl (cs.1, 400, .inl (fun j => nI (rb j))))] "java/lang/IllegalArgumentException" := by
  refine MT.mk (own := RB) (by decide) rfl (Nat.le_of_ble_eq_true rfl) ?_
  intro p e s m below meth c A C xf xs hex hlk
  refine g_lv (lv' := [(0, .ref b), (1, .int (nI (y))), (2, .long (n9))]) [0, 1, 2] rfl ?_
  refine g_iload_n C d_B_count_0 1 rfl rfl ?_
  refine g_callSv C (n := 1) (ws' := [(b, .inr (3, [.ref a, .ref k, .ref g, .ref bc, .ref bl, .ref bx, .int (nI (wr)), .long (lv9)])), (bc, .inl (cs.2.1, 48, .inr (.inl (fun j => lN (ct j))))), (bl, .inl (cs.1, 48, .inl (lo))), (bx, .inl (cs.1, 48, .inl (ex))), (a, .inr (1, [.int (nI (rl)), .ref al, .ref ac, .ref ah, .ref an, .int (nI (fl))])), (al, .inl (cs.1, 48, .inl (fun j => nI (ln j)))), (ac, .inl (cs.1, 48, .inl (fun j => nI (cn j)))), (ah, .inl (cs.1, 17, .inl (fun j => nI (sn j)))), (an, .inl (cs.1, 17, .inl (fun j => nI (xn j)))), (g, .inr (2, [.ref gr, .int (nI (st)), .int (nI (sz))])), (gr, .inl (cs.1, 400, .inl (fun j => nI (rb j))))]) (As := [.int (nI (y))]) (rest := []) (m_B_needSymbol l D cs (y) (by omega)) tw_213 tw_214 tw_1 tw_215 (by decide +kernel) rfl ⟨rfl, rfl, by decide, by decide, by decide⟩ rfl [] rfl rfl (by decide) (Nat.le_of_ble_eq_true rfl) rfl d_B_count_1 ?_
  refine g_lload_n C d_B_count_4 2 rfl rfl ?_
  refine g_lconst C (v := lN 0) d_B_count_5 rfl ?_
  refine g_lcmp_lt C 18 d_B_count_6 d_B_count_7 (by decide) (fun h6 => ?_) (fun h6 => ?_)
  · obtain ⟨sa, hsa⟩ := xf.2.2.2.2.2.2.2.2.2.1
    exact g_throw C hl9 (by decide +kernel) tw_285 tw_11 hsa xf.2.1 xa_A xb_A xg_A xf xs hex hlk ⟨by decide, Nat.le_of_ble_eq_true rfl, by decide, by decide⟩ d_B_count_18 d_B_count_21 d_B_count_22 d_B_count_24 d_B_count_27
  · refine g_lload_n C d_B_count_10 2 rfl rfl ?_
    refine g_ldc2 C (v := lN 1000000000) tw_284 d_B_count_11 ?_
    refine g_lcmp_le C 28 d_B_count_14 d_B_count_15 (by decide) (fun h14 => ?_) (fun h14 => ?_)
    · exact hx.elim (fun h => absurd h (Int64.not_lt.mpr (by assumption))) (fun h => absurd h (Int64.not_lt.mpr (by assumption)))
    · obtain ⟨sa, hsa⟩ := xf.2.2.2.2.2.2.2.2.2.1
      exact g_throw C hl9 (by decide +kernel) tw_285 tw_11 hsa xf.2.1 xa_A xb_A xg_A xf xs hex hlk ⟨by decide, Nat.le_of_ble_eq_true rfl, by decide, by decide⟩ d_B_count_18 d_B_count_21 d_B_count_22 d_B_count_24 d_B_count_27
set_option maxHeartbeats 4000000 in
set_option maxRecDepth 100000 in
theorem m_B_length (l : Launch) (D : va_G) (cs : ClassId × ClassId × ClassId × ClassId) (b k bc bl bx a al ac ah an g gr : Nat) (ct : Nat → Nat) (lo ex : Nat → Int32) (wr : Nat) (lv9 : Int64) (rl : Nat) (ln cn sn xn : Nat → Nat) (fl : Nat) (rb : Nat → Nat) (st sz : Nat) (y : Nat) (hy : y < 48) : MG l y_B_length k_B_length { frames := 1, cells := 0, slots := 0, locals := 20 } D cs [.ref b, .int (nI (y))] [(b, .inr (3, [.ref a, .ref k, .ref g, .ref bc, .ref bl, .ref bx, .int (nI (wr)), .long (lv9)])), (bc, .inl (cs.2.1, 48, .inr (.inl (fun j => lN (ct j))))), (bl, .inl (cs.1, 48, .inl (lo))), (bx, .inl (cs.1, 48, .inl (ex))), (a, .inr (1, [.int (nI (rl)), .ref al, .ref ac, .ref ah, .ref an, .int (nI (fl))])), (al, .inl (cs.1, 48, .inl (fun j => nI (ln j)))), (ac, .inl (cs.1, 48, .inl (fun j => nI (cn j)))), (ah, .inl (cs.1, 17, .inl (fun j => nI (sn j)))), (an, .inl (cs.1, 17, .inl (fun j => nI (xn j)))), (g, .inr (2, [.ref gr, .int (nI (st)), .int (nI (sz))])), (gr, .inl (cs.1, 400, .inl (fun j => nI (rb j))))] (QI D (nI (ln (y))) [(b, .inr (3, [.ref a, .ref k, .ref g, .ref bc, .ref bl, .ref bx, .int (nI (wr)), .long (lv9)])), (bc, .inl (cs.2.1, 48, .inr (.inl (fun j => lN (ct j))))), (bl, .inl (cs.1, 48, .inl (lo))), (bx, .inl (cs.1, 48, .inl (ex))), (a, .inr (1, [.int (nI (rl)), .ref al, .ref ac, .ref ah, .ref an, .int (nI (fl))])), (al, .inl (cs.1, 48, .inl (fun j => nI (ln j)))), (ac, .inl (cs.1, 48, .inl (fun j => nI (cn j)))), (ah, .inl (cs.1, 17, .inl (fun j => nI (sn j)))), (an, .inl (cs.1, 17, .inl (fun j => nI (xn j)))), (g, .inr (2, [.ref gr, .int (nI (st)), .int (nI (sz))])), (gr, .inl (cs.1, 400, .inl (fun j => nI (rb j))))]) := by
  refine MG.mk (own := RB) (by decide) rfl (Nat.le_of_ble_eq_true rfl) ?_
  intro p e s m below meth c A C hr hlk
  refine g_lv (lv' := [(0, .ref b), (1, .int (nI (y)))]) [0, 1] rfl ?_
  refine g_iload_n C d_B_length_0 1 rfl rfl ?_
  refine g_callSv C (n := 1) (ws' := [(b, .inr (3, [.ref a, .ref k, .ref g, .ref bc, .ref bl, .ref bx, .int (nI (wr)), .long (lv9)])), (bc, .inl (cs.2.1, 48, .inr (.inl (fun j => lN (ct j))))), (bl, .inl (cs.1, 48, .inl (lo))), (bx, .inl (cs.1, 48, .inl (ex))), (a, .inr (1, [.int (nI (rl)), .ref al, .ref ac, .ref ah, .ref an, .int (nI (fl))])), (al, .inl (cs.1, 48, .inl (fun j => nI (ln j)))), (ac, .inl (cs.1, 48, .inl (fun j => nI (cn j)))), (ah, .inl (cs.1, 17, .inl (fun j => nI (sn j)))), (an, .inl (cs.1, 17, .inl (fun j => nI (xn j)))), (g, .inr (2, [.ref gr, .int (nI (st)), .int (nI (sz))])), (gr, .inl (cs.1, 400, .inl (fun j => nI (rb j))))]) (As := [.int (nI (y))]) (rest := []) (m_B_needSymbol l D cs (y) (by omega)) tw_213 tw_214 tw_1 tw_215 (by decide +kernel) rfl ⟨rfl, rfl, by decide, by decide, by decide⟩ rfl [] rfl rfl (by decide) (Nat.le_of_ble_eq_true rfl) rfl d_B_length_1 ?_
  refine g_aload_n C d_B_length_4 0 rfl rfl ?_
  refine g_get C (T := FB) (N := 8) 0 0 inB rfl rfl (by decide) tw_105 rfl rfl d_B_length_5 ?_
  refine g_getN C (T := FT) (N := 6) (k := 1) C.2.2.2.2.1 4 inT rfl rfl (by decide) rfl rfl d_B_length_8 ?_
  refine g_iload_n C d_B_length_11 1 rfl rfl ?_
  refine g_iald C 5 rfl (by omega) (by decide) d_B_length_12 ?_
  exact g_iret C hr hlk rfl rfl d_B_length_13
set_option maxHeartbeats 4000000 in
set_option maxRecDepth 100000 in
theorem t_B_length_o (l : Launch) (hl9 : l.stackTraces = false) (D : va_G) (cs : ClassId × ClassId × ClassId × ClassId) (b k bc bl bx a al ac ah an g gr : Nat) (ct : Nat → Nat) (lo ex : Nat → Int32) (wr : Nat) (lv9 : Int64) (rl : Nat) (ln cn sn xn : Nat → Nat) (fl : Nat) (rb : Nat → Nat) (st sz : Nat) (x : Int32) (hx : x < 0 ∨ ¬ x < nI 48) : MT l y_B_length k_B_length { frames := 7, cells := 1, slots := 6, locals := 102 } D cs [.ref b, .int (x)] [(b, .inr (3, [.ref a, .ref k, .ref g, .ref bc, .ref bl, .ref bx, .int (nI (wr)), .long (lv9)])), (bc, .inl (cs.2.1, 48, .inr (.inl (fun j => lN (ct j))))), (bl, .inl (cs.1, 48, .inl (lo))), (bx, .inl (cs.1, 48, .inl (ex))), (a, .inr (1, [.int (nI (rl)), .ref al, .ref ac, .ref ah, .ref an, .int (nI (fl))])), (al, .inl (cs.1, 48, .inl (fun j => nI (ln j)))), (ac, .inl (cs.1, 48, .inl (fun j => nI (cn j)))), (ah, .inl (cs.1, 17, .inl (fun j => nI (sn j)))), (an, .inl (cs.1, 17, .inl (fun j => nI (xn j)))), (g, .inr (2, [.ref gr, .int (nI (st)), .int (nI (sz))])), (gr, .inl (cs.1, 400, .inl (fun j => nI (rb j))))] "java/lang/IndexOutOfBoundsException" := by
  refine MT.mk (own := RB) (by decide) rfl (Nat.le_of_ble_eq_true rfl) ?_
  intro p e s m below meth c A C xf xs hex hlk
  refine g_lv (lv' := [(0, .ref b), (1, .int (x))]) [0, 1] rfl ?_
  refine g_iload_n C d_B_length_0 1 rfl rfl ?_
  exact g_callSt_out C (n := 1) (As := [.int (x)]) (rest := []) (t_B_needSymbol l hl9 D cs (x) hx) tw_213 tw_214 tw_1 tw_215 xf xs hex hlk (by decide +kernel) rfl ⟨rfl, rfl, by decide, by decide, by decide⟩ rfl [] rfl (by decide) (Nat.le_of_ble_eq_true rfl) rfl d_B_length_1
set_option maxHeartbeats 4000000 in
set_option maxRecDepth 100000 in
theorem m_B_code (l : Launch) (D : va_G) (cs : ClassId × ClassId × ClassId × ClassId) (b k bc bl bx a al ac ah an g gr : Nat) (ct : Nat → Nat) (lo ex : Nat → Int32) (wr : Nat) (lv9 : Int64) (rl : Nat) (ln cn sn xn : Nat → Nat) (fl : Nat) (rb : Nat → Nat) (st sz : Nat) (y : Nat) (hy : y < 48) (hl : ∀ j, j < 48 → ln j ≤ 16) (hc : ∀ j, j < 48 → cn j < 2 ^ 31) (hf : fl ≤ 65536) : MG l y_B_code k_B_code { frames := 2, cells := 0, slots := 0, locals := 40 } D cs [.ref b, .int (nI (y))] [(b, .inr (3, [.ref a, .ref k, .ref g, .ref bc, .ref bl, .ref bx, .int (nI (wr)), .long (lv9)])), (bc, .inl (cs.2.1, 48, .inr (.inl (fun j => lN (ct j))))), (bl, .inl (cs.1, 48, .inl (lo))), (bx, .inl (cs.1, 48, .inl (ex))), (a, .inr (1, [.int (nI (rl)), .ref al, .ref ac, .ref ah, .ref an, .int (nI (fl))])), (al, .inl (cs.1, 48, .inl (fun j => nI (ln j)))), (ac, .inl (cs.1, 48, .inl (fun j => nI (cn j)))), (ah, .inl (cs.1, 17, .inl (fun j => nI (sn j)))), (an, .inl (cs.1, 17, .inl (fun j => nI (xn j)))), (g, .inr (2, [.ref gr, .int (nI (st)), .int (nI (sz))])), (gr, .inl (cs.1, 400, .inl (fun j => nI (rb j))))] (QL D (if ln y = 0 then (-1) else lN (cn y)) [(b, .inr (3, [.ref a, .ref k, .ref g, .ref bc, .ref bl, .ref bx, .int (nI (wr)), .long (lv9)])), (bc, .inl (cs.2.1, 48, .inr (.inl (fun j => lN (ct j))))), (bl, .inl (cs.1, 48, .inl (lo))), (bx, .inl (cs.1, 48, .inl (ex))), (a, .inr (1, [.int (nI (rl)), .ref al, .ref ac, .ref ah, .ref an, .int (nI (fl))])), (al, .inl (cs.1, 48, .inl (fun j => nI (ln j)))), (ac, .inl (cs.1, 48, .inl (fun j => nI (cn j)))), (ah, .inl (cs.1, 17, .inl (fun j => nI (sn j)))), (an, .inl (cs.1, 17, .inl (fun j => nI (xn j)))), (g, .inr (2, [.ref gr, .int (nI (st)), .int (nI (sz))])), (gr, .inl (cs.1, 400, .inl (fun j => nI (rb j))))]) := by
  refine MG.mk (own := RB) (by decide) rfl (Nat.le_of_ble_eq_true rfl) ?_
  intro p e s m below meth c A C hr hlk
  refine g_lv (lv' := [(0, .ref b), (1, .int (nI (y)))]) [0, 1] rfl ?_
  refine g_iload_n C d_B_code_0 1 rfl rfl ?_
  refine g_callSv C (n := 1) (ws' := [(b, .inr (3, [.ref a, .ref k, .ref g, .ref bc, .ref bl, .ref bx, .int (nI (wr)), .long (lv9)])), (bc, .inl (cs.2.1, 48, .inr (.inl (fun j => lN (ct j))))), (bl, .inl (cs.1, 48, .inl (lo))), (bx, .inl (cs.1, 48, .inl (ex))), (a, .inr (1, [.int (nI (rl)), .ref al, .ref ac, .ref ah, .ref an, .int (nI (fl))])), (al, .inl (cs.1, 48, .inl (fun j => nI (ln j)))), (ac, .inl (cs.1, 48, .inl (fun j => nI (cn j)))), (ah, .inl (cs.1, 17, .inl (fun j => nI (sn j)))), (an, .inl (cs.1, 17, .inl (fun j => nI (xn j)))), (g, .inr (2, [.ref gr, .int (nI (st)), .int (nI (sz))])), (gr, .inl (cs.1, 400, .inl (fun j => nI (rb j))))]) (As := [.int (nI (y))]) (rest := []) (m_B_needSymbol l D cs (y) (by omega)) tw_213 tw_214 tw_1 tw_215 (by decide +kernel) rfl ⟨rfl, rfl, by decide, by decide, by decide⟩ rfl [] rfl rfl (by decide) (Nat.le_of_ble_eq_true rfl) rfl d_B_code_1 ?_
  refine g_aload_n C d_B_code_4 0 rfl rfl ?_
  refine g_callVv C (n := 0) (ws' := [(b, .inr (3, [.ref a, .ref k, .ref g, .ref bc, .ref bl, .ref bx, .int (nI (wr)), .long (lv9)])), (bc, .inl (cs.2.1, 48, .inr (.inl (fun j => lN (ct j))))), (bl, .inl (cs.1, 48, .inl (lo))), (bx, .inl (cs.1, 48, .inl (ex))), (a, .inr (1, [.int (nI (rl)), .ref al, .ref ac, .ref ah, .ref an, .int (nI (fl))])), (al, .inl (cs.1, 48, .inl (fun j => nI (ln j)))), (ac, .inl (cs.1, 48, .inl (fun j => nI (cn j)))), (ah, .inl (cs.1, 17, .inl (fun j => nI (sn j)))), (an, .inl (cs.1, 17, .inl (fun j => nI (xn j)))), (g, .inr (2, [.ref gr, .int (nI (st)), .int (nI (sz))])), (gr, .inl (cs.1, 400, .inl (fun j => nI (rb j))))]) (As := []) (rest := []) (m_B_needCodes l D cs b k bc bl bx a al ac ah an g gr (ct) (lo) (ex) (wr) (lv9) (rl) (ln) (cn) (sn) (xn) (fl) (rb) (st) (sz) (by omega)) tw_345 tw_347 ts_12 tw_1 tw_348 rfl 0 rfl rfl (by decide +kernel) rfl ⟨rfl, rfl, by decide, by decide, by decide⟩ rfl [0, 1, 2, 3, 4, 5, 6, 7, 8, 9, 10] rfl rfl (by decide) (Nat.le_of_ble_eq_true rfl) rfl d_B_code_5 ?_
  refine g_aload_n C d_B_code_8 0 rfl rfl ?_
  refine g_get C (T := FB) (N := 8) 0 0 inB rfl rfl (by decide) tw_105 rfl rfl d_B_code_9 ?_
  refine g_getN C (T := FT) (N := 6) (k := 1) C.2.2.2.2.1 4 inT rfl rfl (by decide) rfl rfl d_B_code_12 ?_
  refine g_iload_n C d_B_code_15 1 rfl rfl ?_
  refine g_iald C 5 rfl (by omega) (by decide) d_B_code_16 ?_
  refine n_if_ne C 26 d_B_code_17 (by decide) (by have := hl y hy; omega) (fun h17 => ?_) (fun h17 => ?_)
  · refine g_aload_n C d_B_code_26 0 rfl rfl ?_
    refine g_get C (T := FB) (N := 8) 0 0 inB rfl rfl (by decide) tw_105 rfl rfl d_B_code_27 ?_
    refine g_getN C (T := FT) (N := 6) (k := 2) C.2.2.2.2.2.1 4 inT rfl rfl (by decide) rfl rfl d_B_code_30 ?_
    refine g_iload_n C d_B_code_33 1 rfl rfl ?_
    refine g_iald C 6 rfl (by omega) (by decide) d_B_code_34 ?_
    refine g_i2l C (v := lN (cn (y))) d_B_code_35 (nI_l (hc y hy)) ?_
    exact g_lret C hr hlk (by first | rw [if_pos (by assumption)] | rw [if_neg (by omega)]) rfl d_B_code_36
  · refine g_ldc2 C (v := (-1)) tw_365 d_B_code_20 ?_
    refine g_goto C 36 d_B_code_23 (by decide) ?_
    exact g_lret C hr hlk (by first | rw [if_pos (by assumption)] | rw [if_neg (by omega)]) rfl d_B_code_36
set_option maxHeartbeats 4000000 in
set_option maxRecDepth 100000 in
theorem t_B_code_o (l : Launch) (hl9 : l.stackTraces = false) (D : va_G) (cs : ClassId × ClassId × ClassId × ClassId) (b k bc bl bx a al ac ah an g gr : Nat) (ct : Nat → Nat) (lo ex : Nat → Int32) (wr : Nat) (lv9 : Int64) (rl : Nat) (ln cn sn xn : Nat → Nat) (fl : Nat) (rb : Nat → Nat) (st sz : Nat) (x : Int32) (hx : x < 0 ∨ ¬ x < nI 48) : MT l y_B_code k_B_code { frames := 7, cells := 1, slots := 6, locals := 102 } D cs [.ref b, .int (x)] [(b, .inr (3, [.ref a, .ref k, .ref g, .ref bc, .ref bl, .ref bx, .int (nI (wr)), .long (lv9)])), (bc, .inl (cs.2.1, 48, .inr (.inl (fun j => lN (ct j))))), (bl, .inl (cs.1, 48, .inl (lo))), (bx, .inl (cs.1, 48, .inl (ex))), (a, .inr (1, [.int (nI (rl)), .ref al, .ref ac, .ref ah, .ref an, .int (nI (fl))])), (al, .inl (cs.1, 48, .inl (fun j => nI (ln j)))), (ac, .inl (cs.1, 48, .inl (fun j => nI (cn j)))), (ah, .inl (cs.1, 17, .inl (fun j => nI (sn j)))), (an, .inl (cs.1, 17, .inl (fun j => nI (xn j)))), (g, .inr (2, [.ref gr, .int (nI (st)), .int (nI (sz))])), (gr, .inl (cs.1, 400, .inl (fun j => nI (rb j))))] "java/lang/IndexOutOfBoundsException" := by
  refine MT.mk (own := RB) (by decide) rfl (Nat.le_of_ble_eq_true rfl) ?_
  intro p e s m below meth c A C xf xs hex hlk
  refine g_lv (lv' := [(0, .ref b), (1, .int (x))]) [0, 1] rfl ?_
  refine g_iload_n C d_B_code_0 1 rfl rfl ?_
  exact g_callSt_out C (n := 1) (As := [.int (x)]) (rest := []) (t_B_needSymbol l hl9 D cs (x) hx) tw_213 tw_214 tw_1 tw_215 xf xs hex hlk (by decide +kernel) rfl ⟨rfl, rfl, by decide, by decide, by decide⟩ rfl [] rfl (by decide) (Nat.le_of_ble_eq_true rfl) rfl d_B_code_1
set_option maxHeartbeats 4000000 in
set_option maxRecDepth 100000 in
theorem t_B_code_s (l : Launch) (hl9 : l.stackTraces = false) (D : va_G) (cs : ClassId × ClassId × ClassId × ClassId) (b k bc bl bx a al ac ah an g gr : Nat) (ct : Nat → Nat) (lo ex : Nat → Int32) (wr : Nat) (lv9 : Int64) (rl : Nat) (ln cn sn xn : Nat → Nat) (fl : Nat) (rb : Nat → Nat) (st sz : Nat) (y : Nat) (hy : y < 48) (hf : 65536 < fl) (hf2 : fl < 2 ^ 31) : MT l y_B_code k_B_code { frames := 7, cells := 1, slots := 6, locals := 102 } D cs [.ref b, .int (nI (y))] [(b, .inr (3, [.ref a, .ref k, .ref g, .ref bc, .ref bl, .ref bx, .int (nI (wr)), .long (lv9)])), (bc, .inl (cs.2.1, 48, .inr (.inl (fun j => lN (ct j))))), (bl, .inl (cs.1, 48, .inl (lo))), (bx, .inl (cs.1, 48, .inl (ex))), (a, .inr (1, [.int (nI (rl)), .ref al, .ref ac, .ref ah, .ref an, .int (nI (fl))])), (al, .inl (cs.1, 48, .inl (fun j => nI (ln j)))), (ac, .inl (cs.1, 48, .inl (fun j => nI (cn j)))), (ah, .inl (cs.1, 17, .inl (fun j => nI (sn j)))), (an, .inl (cs.1, 17, .inl (fun j => nI (xn j)))), (g, .inr (2, [.ref gr, .int (nI (st)), .int (nI (sz))])), (gr, .inl (cs.1, 400, .inl (fun j => nI (rb j))))] "java/lang/IllegalStateException" := by
  refine MT.mk (own := RB) (by decide) rfl (Nat.le_of_ble_eq_true rfl) ?_
  intro p e s m below meth c A C xf xs hex hlk
  refine g_lv (lv' := [(0, .ref b), (1, .int (nI (y)))]) [0, 1] rfl ?_
  refine g_iload_n C d_B_code_0 1 rfl rfl ?_
  refine g_callSv C (n := 1) (ws' := [(b, .inr (3, [.ref a, .ref k, .ref g, .ref bc, .ref bl, .ref bx, .int (nI (wr)), .long (lv9)])), (bc, .inl (cs.2.1, 48, .inr (.inl (fun j => lN (ct j))))), (bl, .inl (cs.1, 48, .inl (lo))), (bx, .inl (cs.1, 48, .inl (ex))), (a, .inr (1, [.int (nI (rl)), .ref al, .ref ac, .ref ah, .ref an, .int (nI (fl))])), (al, .inl (cs.1, 48, .inl (fun j => nI (ln j)))), (ac, .inl (cs.1, 48, .inl (fun j => nI (cn j)))), (ah, .inl (cs.1, 17, .inl (fun j => nI (sn j)))), (an, .inl (cs.1, 17, .inl (fun j => nI (xn j)))), (g, .inr (2, [.ref gr, .int (nI (st)), .int (nI (sz))])), (gr, .inl (cs.1, 400, .inl (fun j => nI (rb j))))]) (As := [.int (nI (y))]) (rest := []) (m_B_needSymbol l D cs (y) (by omega)) tw_213 tw_214 tw_1 tw_215 (by decide +kernel) rfl ⟨rfl, rfl, by decide, by decide, by decide⟩ rfl [] rfl rfl (by decide) (Nat.le_of_ble_eq_true rfl) rfl d_B_code_1 ?_
  refine g_aload_n C d_B_code_4 0 rfl rfl ?_
  exact g_callVt_out C (n := 0) (As := []) (rest := []) (t_B_needCodes l hl9 D cs b k bc bl bx a al ac ah an g gr (ct) (lo) (ex) (wr) (lv9) (rl) (ln) (cn) (sn) (xn) (fl) (rb) (st) (sz) hf hf2) tw_345 tw_347 ts_12 tw_1 tw_348 rfl 0 rfl rfl xf xs hex hlk (by decide +kernel) rfl ⟨rfl, rfl, by decide, by decide, by decide⟩ rfl [0, 1, 2, 3, 4, 5, 6, 7, 8, 9, 10] rfl (by decide) (Nat.le_of_ble_eq_true rfl) rfl d_B_code_5
set_option maxHeartbeats 4000000 in
set_option maxRecDepth 100000 in
theorem m_B_given (l : Launch) (D : va_G) (cs : ClassId × ClassId × ClassId × ClassId) (b k bc bl bx a al ac ah an g gr : Nat) (ct : Nat → Nat) (lo ex : Nat → Int32) (wr : Nat) (lv9 : Int64) (rl : Nat) (ln cn sn xn : Nat → Nat) (fl : Nat) (rb : Nat → Nat) (st sz : Nat) (y L : Nat) (hy : y < 48) (hL : L ≤ 16) (hl : ∀ j, j < 48 → ln j ≤ 16) (hrl : rl < 3) : MG l y_B_given k_B_given { frames := 4, cells := 0, slots := 0, locals := 86 } D cs [.ref b, .int (nI (y)), .int (nI (L))] [(b, .inr (3, [.ref a, .ref k, .ref g, .ref bc, .ref bl, .ref bx, .int (nI (wr)), .long (lv9)])), (bc, .inl (cs.2.1, 48, .inr (.inl (fun j => lN (ct j))))), (bl, .inl (cs.1, 48, .inl (lo))), (bx, .inl (cs.1, 48, .inl (ex))), (a, .inr (1, [.int (nI (rl)), .ref al, .ref ac, .ref ah, .ref an, .int (nI (fl))])), (al, .inl (cs.1, 48, .inl (fun j => nI (ln j)))), (ac, .inl (cs.1, 48, .inl (fun j => nI (cn j)))), (ah, .inl (cs.1, 17, .inl (fun j => nI (sn j)))), (an, .inl (cs.1, 17, .inl (fun j => nI (xn j)))), (g, .inr (2, [.ref gr, .int (nI (st)), .int (nI (sz))])), (gr, .inl (cs.1, 400, .inl (fun j => nI (rb j))))] (QI D (nI (if stt (fll (updN ln y L)) = 2 then 0 else 1)) [(b, .inr (3, [.ref a, .ref k, .ref g, .ref bc, .ref bl, .ref bx, .int (nI (wr)), .long (lv9)])), (bc, .inl (cs.2.1, 48, .inr (.inl (fun j => lN (ct j))))), (bl, .inl (cs.1, 48, .inl (upd (lo) (y) (nI (y))))), (bx, .inl (cs.1, 48, .inl (upd (ex) (y) (nI (0))))), (a, .inr (1, [.int (nI (rl)), .ref al, .ref ac, .ref ah, .ref an, .int (nI (fll (updN (ln) (y) (L))))])), (al, .inl (cs.1, 48, .inl (fun j => nI ((updN (ln) (y) (L)) j)))), (ac, .inl (cs.1, 48, .inl (fun j => nI ((cN (rl) (updN (ln) (y) (L)) (cn)) j)))), (ah, .inl (cs.1, 17, .inl (fun j => nI ((shr (updN (ln) (y) (L)) 48) j)))), (an, .inl (cs.1, 17, .inl (fun j => nI ((xN (rl) (updN (ln) (y) (L)) (xn)) j)))), (g, .inr (2, [.ref gr, .int (nI (st)), .int (nI (sz))])), (gr, .inl (cs.1, 400, .inl (fun j => nI (rb j))))]) := by
  refine MG.mk (own := RB) (by decide) rfl (Nat.le_of_ble_eq_true rfl) ?_
  intro p e s m below meth c A C hr hlk
  refine g_lv (lv' := [(0, .ref b), (1, .int (nI (y))), (2, .int (nI (L)))]) [0, 1, 2] rfl ?_
  refine g_iload_n C d_B_given_0 1 rfl rfl ?_
  refine g_callSv C (n := 1) (ws' := [(b, .inr (3, [.ref a, .ref k, .ref g, .ref bc, .ref bl, .ref bx, .int (nI (wr)), .long (lv9)])), (bc, .inl (cs.2.1, 48, .inr (.inl (fun j => lN (ct j))))), (bl, .inl (cs.1, 48, .inl (lo))), (bx, .inl (cs.1, 48, .inl (ex))), (a, .inr (1, [.int (nI (rl)), .ref al, .ref ac, .ref ah, .ref an, .int (nI (fl))])), (al, .inl (cs.1, 48, .inl (fun j => nI (ln j)))), (ac, .inl (cs.1, 48, .inl (fun j => nI (cn j)))), (ah, .inl (cs.1, 17, .inl (fun j => nI (sn j)))), (an, .inl (cs.1, 17, .inl (fun j => nI (xn j)))), (g, .inr (2, [.ref gr, .int (nI (st)), .int (nI (sz))])), (gr, .inl (cs.1, 400, .inl (fun j => nI (rb j))))]) (As := [.int (nI (y))]) (rest := []) (m_B_needSymbol l D cs (y) (by omega)) tw_213 tw_214 tw_1 tw_215 (by decide +kernel) rfl ⟨rfl, rfl, by decide, by decide, by decide⟩ rfl [] rfl rfl (by decide) (Nat.le_of_ble_eq_true rfl) rfl d_B_given_1 ?_
  refine g_iload_n C d_B_given_4 2 rfl rfl ?_
  refine n_if_lt C 14 d_B_given_5 (by decide) (by omega) ?_
  refine g_iload_n C d_B_given_8 2 rfl rfl ?_
  refine g_bipush C (v := nI 16) d_B_given_9 rfl ?_
  refine n_icmp_le C 24 d_B_given_11 (by decide) (by omega) (by omega) (fun _ => ?_) (fun h => absurd h (by omega))
  refine g_aload_n C d_B_given_24 0 rfl rfl ?_
  refine g_iload_n C d_B_given_25 1 rfl rfl ?_
  refine g_callVv C (n := 1) (ws' := [(b, .inr (3, [.ref a, .ref k, .ref g, .ref bc, .ref bl, .ref bx, .int (nI (wr)), .long (lv9)])), (bc, .inl (cs.2.1, 48, .inr (.inl (fun j => lN (ct j))))), (bl, .inl (cs.1, 48, .inl (upd (lo) (y) (nI (y))))), (bx, .inl (cs.1, 48, .inl (upd (ex) (y) (nI (0))))), (a, .inr (1, [.int (nI (rl)), .ref al, .ref ac, .ref ah, .ref an, .int (nI (fl))])), (al, .inl (cs.1, 48, .inl (fun j => nI (ln j)))), (ac, .inl (cs.1, 48, .inl (fun j => nI (cn j)))), (ah, .inl (cs.1, 17, .inl (fun j => nI (sn j)))), (an, .inl (cs.1, 17, .inl (fun j => nI (xn j)))), (g, .inr (2, [.ref gr, .int (nI (st)), .int (nI (sz))])), (gr, .inl (cs.1, 400, .inl (fun j => nI (rb j))))]) (As := [.int (nI (y))]) (rest := []) (m_B_dropRange l D cs b k bc bl bx a al ac ah an g gr (ct) (lo) (ex) (wr) (lv9) (rl) (ln) (cn) (sn) (xn) (fl) (rb) (st) (sz) (y) (by omega)) tw_101 tw_103 ts_1 tw_1 tw_104 rfl 0 rfl rfl (by decide +kernel) rfl ⟨rfl, rfl, by decide, by decide, by decide⟩ rfl [0, 1, 2, 3, 4, 5, 6, 7, 8, 9, 10] rfl rfl (by decide) (Nat.le_of_ble_eq_true rfl) rfl d_B_given_26 ?_
  refine g_aload_n C d_B_given_29 0 rfl rfl ?_
  refine g_iload_n C d_B_given_30 1 rfl rfl ?_
  refine g_iload_n C d_B_given_31 2 rfl rfl ?_
  refine g_callVi C (n := 2) (ws' := [(b, .inr (3, [.ref a, .ref k, .ref g, .ref bc, .ref bl, .ref bx, .int (nI (wr)), .long (lv9)])), (bc, .inl (cs.2.1, 48, .inr (.inl (fun j => lN (ct j))))), (bl, .inl (cs.1, 48, .inl (upd (lo) (y) (nI (y))))), (bx, .inl (cs.1, 48, .inl (upd (ex) (y) (nI (0))))), (a, .inr (1, [.int (nI (rl)), .ref al, .ref ac, .ref ah, .ref an, .int (nI (fll (updN (ln) (y) (L))))])), (al, .inl (cs.1, 48, .inl (fun j => nI ((updN (ln) (y) (L)) j)))), (ac, .inl (cs.1, 48, .inl (fun j => nI ((cN (rl) (updN (ln) (y) (L)) (cn)) j)))), (ah, .inl (cs.1, 17, .inl (fun j => nI ((shr (updN (ln) (y) (L)) 48) j)))), (an, .inl (cs.1, 17, .inl (fun j => nI ((xN (rl) (updN (ln) (y) (L)) (xn)) j)))), (g, .inr (2, [.ref gr, .int (nI (st)), .int (nI (sz))])), (gr, .inl (cs.1, 400, .inl (fun j => nI (rb j))))]) (As := [.int (nI (y)), .int (nI (L))]) (rest := []) (m_B_tellLength l D cs b k bc bl bx a al ac ah an g gr (ct) (upd (lo) (y) (nI (y))) (upd (ex) (y) (nI (0))) (wr) (lv9) (rl) (ln) (cn) (sn) (xn) (fl) (rb) (st) (sz) (y) (L) (by omega) (by omega) hl hrl) tw_374 tw_376 ts_13 tw_1 tw_377 rfl 0 rfl rfl (by decide +kernel) rfl ⟨rfl, rfl, by decide, by decide, by decide⟩ rfl [0, 1, 2, 3, 4, 5, 6, 7, 8, 9, 10] rfl rfl (by decide) (Nat.le_of_ble_eq_true rfl) rfl d_B_given_32 ?_
  exact g_zret C hr hlk (by split <;> rfl) rfl rfl d_B_given_35
set_option maxHeartbeats 4000000 in
set_option maxRecDepth 100000 in
theorem t_B_given_o (l : Launch) (hl9 : l.stackTraces = false) (D : va_G) (cs : ClassId × ClassId × ClassId × ClassId) (b k bc bl bx a al ac ah an g gr : Nat) (ct : Nat → Nat) (lo ex : Nat → Int32) (wr : Nat) (lv9 : Int64) (rl : Nat) (ln cn sn xn : Nat → Nat) (fl : Nat) (rb : Nat → Nat) (st sz : Nat) (x : Int32) (hx : x < 0 ∨ ¬ x < nI 48) (z : Int32) : MT l y_B_given k_B_given { frames := 7, cells := 1, slots := 6, locals := 102 } D cs [.ref b, .int (x), .int (z)] [(b, .inr (3, [.ref a, .ref k, .ref g, .ref bc, .ref bl, .ref bx, .int (nI (wr)), .long (lv9)])), (bc, .inl (cs.2.1, 48, .inr (.inl (fun j => lN (ct j))))), (bl, .inl (cs.1, 48, .inl (lo))), (bx, .inl (cs.1, 48, .inl (ex))), (a, .inr (1, [.int (nI (rl)), .ref al, .ref ac, .ref ah, .ref an, .int (nI (fl))])), (al, .inl (cs.1, 48, .inl (fun j => nI (ln j)))), (ac, .inl (cs.1, 48, .inl (fun j => nI (cn j)))), (ah, .inl (cs.1, 17, .inl (fun j => nI (sn j)))), (an, .inl (cs.1, 17, .inl (fun j => nI (xn j)))), (g, .inr (2, [.ref gr, .int (nI (st)), .int (nI (sz))])), (gr, .inl (cs.1, 400, .inl (fun j => nI (rb j))))] "java/lang/IndexOutOfBoundsException" := by
  refine MT.mk (own := RB) (by decide) rfl (Nat.le_of_ble_eq_true rfl) ?_
  intro p e s m below meth c A C xf xs hex hlk
  refine g_lv (lv' := [(0, .ref b), (1, .int (x)), (2, .int (z))]) [0, 1, 2] rfl ?_
  refine g_iload_n C d_B_given_0 1 rfl rfl ?_
  exact g_callSt_out C (n := 1) (As := [.int (x)]) (rest := []) (t_B_needSymbol l hl9 D cs (x) hx) tw_213 tw_214 tw_1 tw_215 xf xs hex hlk (by decide +kernel) rfl ⟨rfl, rfl, by decide, by decide, by decide⟩ rfl [] rfl (by decide) (Nat.le_of_ble_eq_true rfl) rfl d_B_given_1
set_option maxHeartbeats 4000000 in
set_option maxRecDepth 100000 in
theorem t_B_given_a (l : Launch) (hl9 : l.stackTraces = false) (D : va_G) (cs : ClassId × ClassId × ClassId × ClassId) (b k bc bl bx a al ac ah an g gr : Nat) (ct : Nat → Nat) (lo ex : Nat → Int32) (wr : Nat) (lv9 : Int64) (rl : Nat) (ln cn sn xn : Nat → Nat) (fl : Nat) (rb : Nat → Nat) (st sz : Nat) (y : Nat) (hy : y < 48) (x : Int32) (hx : x < 0 ∨ ¬ x ≤ nI 16) : MT l y_B_given k_B_given { frames := 7, cells := 1, slots := 6, locals := 102 } D cs [.ref b, .int (nI (y)), .int (x)] [(b, .inr (3, [.ref a, .ref k, .ref g, .ref bc, .ref bl, .ref bx, .int (nI (wr)), .long (lv9)])), (bc, .inl (cs.2.1, 48, .inr (.inl (fun j => lN (ct j))))), (bl, .inl (cs.1, 48, .inl (lo))), (bx, .inl (cs.1, 48, .inl (ex))), (a, .inr (1, [.int (nI (rl)), .ref al, .ref ac, .ref ah, .ref an, .int (nI (fl))])), (al, .inl (cs.1, 48, .inl (fun j => nI (ln j)))), (ac, .inl (cs.1, 48, .inl (fun j => nI (cn j)))), (ah, .inl (cs.1, 17, .inl (fun j => nI (sn j)))), (an, .inl (cs.1, 17, .inl (fun j => nI (xn j)))), (g, .inr (2, [.ref gr, .int (nI (st)), .int (nI (sz))])), (gr, .inl (cs.1, 400, .inl (fun j => nI (rb j))))] "java/lang/IllegalArgumentException" := by
  refine MT.mk (own := RB) (by decide) rfl (Nat.le_of_ble_eq_true rfl) ?_
  intro p e s m below meth c A C xf xs hex hlk
  refine g_lv (lv' := [(0, .ref b), (1, .int (nI (y))), (2, .int (x))]) [0, 1, 2] rfl ?_
  refine g_iload_n C d_B_given_0 1 rfl rfl ?_
  refine g_callSv C (n := 1) (ws' := [(b, .inr (3, [.ref a, .ref k, .ref g, .ref bc, .ref bl, .ref bx, .int (nI (wr)), .long (lv9)])), (bc, .inl (cs.2.1, 48, .inr (.inl (fun j => lN (ct j))))), (bl, .inl (cs.1, 48, .inl (lo))), (bx, .inl (cs.1, 48, .inl (ex))), (a, .inr (1, [.int (nI (rl)), .ref al, .ref ac, .ref ah, .ref an, .int (nI (fl))])), (al, .inl (cs.1, 48, .inl (fun j => nI (ln j)))), (ac, .inl (cs.1, 48, .inl (fun j => nI (cn j)))), (ah, .inl (cs.1, 17, .inl (fun j => nI (sn j)))), (an, .inl (cs.1, 17, .inl (fun j => nI (xn j)))), (g, .inr (2, [.ref gr, .int (nI (st)), .int (nI (sz))])), (gr, .inl (cs.1, 400, .inl (fun j => nI (rb j))))]) (As := [.int (nI (y))]) (rest := []) (m_B_needSymbol l D cs (y) (by omega)) tw_213 tw_214 tw_1 tw_215 (by decide +kernel) rfl ⟨rfl, rfl, by decide, by decide, by decide⟩ rfl [] rfl rfl (by decide) (Nat.le_of_ble_eq_true rfl) rfl d_B_given_1 ?_
  refine g_iload_n C d_B_given_4 2 rfl rfl ?_
  refine g_if_lt C 14 d_B_given_5 (by decide) (fun h5 => ?_) (fun h5 => ?_)
  · obtain ⟨sa, hsa⟩ := xf.2.2.2.2.2.2.2.2.2.2.2.2.1
    exact g_throw C hl9 (by decide +kernel) tw_285 tw_11 hsa xf.2.1 xa_A xb_A xg_A xf xs hex hlk ⟨by decide, Nat.le_of_ble_eq_true rfl, by decide, by decide⟩ d_B_given_14 d_B_given_17 d_B_given_18 d_B_given_20 d_B_given_23
  · refine g_iload_n C d_B_given_8 2 rfl rfl ?_
    refine g_bipush C (v := nI 16) d_B_given_9 rfl ?_
    refine g_icmp_le C 24 d_B_given_11 (by decide) (fun h11 => ?_) (fun h11 => ?_)
    · exact hx.elim (fun h => absurd h (by assumption)) (fun h => absurd (by assumption) h)
    · obtain ⟨sa, hsa⟩ := xf.2.2.2.2.2.2.2.2.2.2.2.2.1
      exact g_throw C hl9 (by decide +kernel) tw_285 tw_11 hsa xf.2.1 xa_A xb_A xg_A xf xs hex hlk ⟨by decide, Nat.le_of_ble_eq_true rfl, by decide, by decide⟩ d_B_given_14 d_B_given_17 d_B_given_18 d_B_given_20 d_B_given_23
set_option maxHeartbeats 4000000 in
set_option maxRecDepth 100000 in
theorem m_B_range (l : Launch) (D : va_G) (cs : ClassId × ClassId × ClassId × ClassId) (b k bc bl bx a al ac ah an g gr : Nat) (ct : Nat → Nat) (lo ex : Nat → Int32) (wr : Nat) (lv9 : Int64) (rl : Nat) (ln cn sn xn : Nat → Nat) (fl : Nat) (rb : Nat → Nat) (st sz : Nat) (y L : Nat) (lw e9 : Int32) (hy : y < 48) (h1L : 1 ≤ L) (hL : L ≤ 16) (he : ¬ e9 < (-32)) (he2 : e9 ≤ nI 32) (hl : ∀ j, j < 48 → ln j ≤ 16) (hrl : rl < 3) : MG l y_B_range k_B_range { frames := 4, cells := 0, slots := 0, locals := 86 } D cs [.ref b, .int (nI (y)), .int (lw), .int (e9), .int (nI (L))] [(b, .inr (3, [.ref a, .ref k, .ref g, .ref bc, .ref bl, .ref bx, .int (nI (wr)), .long (lv9)])), (bc, .inl (cs.2.1, 48, .inr (.inl (fun j => lN (ct j))))), (bl, .inl (cs.1, 48, .inl (lo))), (bx, .inl (cs.1, 48, .inl (ex))), (a, .inr (1, [.int (nI (rl)), .ref al, .ref ac, .ref ah, .ref an, .int (nI (fl))])), (al, .inl (cs.1, 48, .inl (fun j => nI (ln j)))), (ac, .inl (cs.1, 48, .inl (fun j => nI (cn j)))), (ah, .inl (cs.1, 17, .inl (fun j => nI (sn j)))), (an, .inl (cs.1, 17, .inl (fun j => nI (xn j)))), (g, .inr (2, [.ref gr, .int (nI (st)), .int (nI (sz))])), (gr, .inl (cs.1, 400, .inl (fun j => nI (rb j))))] (QI D (nI (if stt (fll (updN ln y L)) = 2 then 0 else 1)) [(b, .inr (3, [.ref a, .ref k, .ref g, .ref bc, .ref bl, .ref bx, .int (nI (wr)), .long (lv9)])), (bc, .inl (cs.2.1, 48, .inr (.inl (fun j => lN (ct j))))), (bl, .inl (cs.1, 48, .inl (upd (lo) (y) (lw)))), (bx, .inl (cs.1, 48, .inl (upd (ex) (y) (e9)))), (a, .inr (1, [.int (nI (rl)), .ref al, .ref ac, .ref ah, .ref an, .int (nI (fll (updN (ln) (y) (L))))])), (al, .inl (cs.1, 48, .inl (fun j => nI ((updN (ln) (y) (L)) j)))), (ac, .inl (cs.1, 48, .inl (fun j => nI ((cN (rl) (updN (ln) (y) (L)) (cn)) j)))), (ah, .inl (cs.1, 17, .inl (fun j => nI ((shr (updN (ln) (y) (L)) 48) j)))), (an, .inl (cs.1, 17, .inl (fun j => nI ((xN (rl) (updN (ln) (y) (L)) (xn)) j)))), (g, .inr (2, [.ref gr, .int (nI (st)), .int (nI (sz))])), (gr, .inl (cs.1, 400, .inl (fun j => nI (rb j))))]) := by
  refine MG.mk (own := RB) (by decide) rfl (Nat.le_of_ble_eq_true rfl) ?_
  intro p e s m below meth c A C hr hlk
  refine g_lv (lv' := [(0, .ref b), (1, .int (nI (y))), (2, .int (lw)), (3, .int (e9)), (4, .int (nI (L)))]) [0, 1, 2, 3, 4] rfl ?_
  refine g_iload_n C d_B_range_0 1 rfl rfl ?_
  refine g_callSv C (n := 1) (ws' := [(b, .inr (3, [.ref a, .ref k, .ref g, .ref bc, .ref bl, .ref bx, .int (nI (wr)), .long (lv9)])), (bc, .inl (cs.2.1, 48, .inr (.inl (fun j => lN (ct j))))), (bl, .inl (cs.1, 48, .inl (lo))), (bx, .inl (cs.1, 48, .inl (ex))), (a, .inr (1, [.int (nI (rl)), .ref al, .ref ac, .ref ah, .ref an, .int (nI (fl))])), (al, .inl (cs.1, 48, .inl (fun j => nI (ln j)))), (ac, .inl (cs.1, 48, .inl (fun j => nI (cn j)))), (ah, .inl (cs.1, 17, .inl (fun j => nI (sn j)))), (an, .inl (cs.1, 17, .inl (fun j => nI (xn j)))), (g, .inr (2, [.ref gr, .int (nI (st)), .int (nI (sz))])), (gr, .inl (cs.1, 400, .inl (fun j => nI (rb j))))]) (As := [.int (nI (y))]) (rest := []) (m_B_needSymbol l D cs (y) (by omega)) tw_213 tw_214 tw_1 tw_215 (by decide +kernel) rfl ⟨rfl, rfl, by decide, by decide, by decide⟩ rfl [] rfl rfl (by decide) (Nat.le_of_ble_eq_true rfl) rfl d_B_range_1 ?_
  refine g_iload C d_B_range_4 4 rfl ?_
  refine g_iconst C (v := nI 1) d_B_range_6 rfl ?_
  refine n_icmp_lt C 17 d_B_range_7 (by decide) (by omega) (by omega) (fun h => absurd h (by omega)) (fun _ => ?_)
  refine g_iload C d_B_range_10 4 rfl ?_
  refine g_bipush C (v := nI 16) d_B_range_12 rfl ?_
  refine n_icmp_le C 27 d_B_range_14 (by decide) (by omega) (by omega) (fun _ => ?_) (fun h => absurd h (by omega))
  refine g_iload_n C d_B_range_27 3 rfl rfl ?_
  refine g_bipush C (v := (-32)) d_B_range_28 rfl ?_
  refine g_icmp_lt C 39 d_B_range_30 (by decide) (fun h30 => ?_) (fun h30 => ?_)
  · first | exact absurd (by assumption) he | exact absurd he2 (by assumption)
  · refine g_iload_n C d_B_range_33 3 rfl rfl ?_
    refine g_bipush C (v := nI 32) d_B_range_34 rfl ?_
    refine g_icmp_le C 49 d_B_range_36 (by decide) (fun h36 => ?_) (fun h36 => ?_)
    · refine g_aload_n C d_B_range_49 0 rfl rfl ?_
      refine g_get C (T := FB) (N := 8) 0 4 inB rfl rfl (by decide) tw_109 rfl rfl d_B_range_50 ?_
      refine g_iload_n C d_B_range_53 1 rfl rfl ?_
      refine g_iload_n C d_B_range_54 2 rfl rfl ?_
      refine g_iast C (ws' := [(b, .inr (3, [.ref a, .ref k, .ref g, .ref bc, .ref bl, .ref bx, .int (nI (wr)), .long (lv9)])), (bc, .inl (cs.2.1, 48, .inr (.inl (fun j => lN (ct j))))), (bl, .inl (cs.1, 48, .inl (upd (lo) (y) (lw)))), (bx, .inl (cs.1, 48, .inl (ex))), (a, .inr (1, [.int (nI (rl)), .ref al, .ref ac, .ref ah, .ref an, .int (nI (fl))])), (al, .inl (cs.1, 48, .inl (fun j => nI (ln j)))), (ac, .inl (cs.1, 48, .inl (fun j => nI (cn j)))), (ah, .inl (cs.1, 17, .inl (fun j => nI (sn j)))), (an, .inl (cs.1, 17, .inl (fun j => nI (xn j)))), (g, .inr (2, [.ref gr, .int (nI (st)), .int (nI (sz))])), (gr, .inl (cs.1, 400, .inl (fun j => nI (rb j))))]) 2 rfl (by omega) (by decide) rfl d_B_range_55 ?_
      refine g_aload_n C d_B_range_56 0 rfl rfl ?_
      refine g_get C (T := FB) (N := 8) 0 5 inB rfl rfl (by decide) tw_110 rfl rfl d_B_range_57 ?_
      refine g_iload_n C d_B_range_60 1 rfl rfl ?_
      refine g_iload_n C d_B_range_61 3 rfl rfl ?_
      refine g_iast C (ws' := [(b, .inr (3, [.ref a, .ref k, .ref g, .ref bc, .ref bl, .ref bx, .int (nI (wr)), .long (lv9)])), (bc, .inl (cs.2.1, 48, .inr (.inl (fun j => lN (ct j))))), (bl, .inl (cs.1, 48, .inl (upd (lo) (y) (lw)))), (bx, .inl (cs.1, 48, .inl (upd (ex) (y) (e9)))), (a, .inr (1, [.int (nI (rl)), .ref al, .ref ac, .ref ah, .ref an, .int (nI (fl))])), (al, .inl (cs.1, 48, .inl (fun j => nI (ln j)))), (ac, .inl (cs.1, 48, .inl (fun j => nI (cn j)))), (ah, .inl (cs.1, 17, .inl (fun j => nI (sn j)))), (an, .inl (cs.1, 17, .inl (fun j => nI (xn j)))), (g, .inr (2, [.ref gr, .int (nI (st)), .int (nI (sz))])), (gr, .inl (cs.1, 400, .inl (fun j => nI (rb j))))]) 3 rfl (by omega) (by decide) rfl d_B_range_62 ?_
      refine g_aload_n C d_B_range_63 0 rfl rfl ?_
      refine g_iload_n C d_B_range_64 1 rfl rfl ?_
      refine g_iload C d_B_range_65 4 rfl ?_
      refine g_callVi C (n := 2) (ws' := [(b, .inr (3, [.ref a, .ref k, .ref g, .ref bc, .ref bl, .ref bx, .int (nI (wr)), .long (lv9)])), (bc, .inl (cs.2.1, 48, .inr (.inl (fun j => lN (ct j))))), (bl, .inl (cs.1, 48, .inl (upd (lo) (y) (lw)))), (bx, .inl (cs.1, 48, .inl (upd (ex) (y) (e9)))), (a, .inr (1, [.int (nI (rl)), .ref al, .ref ac, .ref ah, .ref an, .int (nI (fll (updN (ln) (y) (L))))])), (al, .inl (cs.1, 48, .inl (fun j => nI ((updN (ln) (y) (L)) j)))), (ac, .inl (cs.1, 48, .inl (fun j => nI ((cN (rl) (updN (ln) (y) (L)) (cn)) j)))), (ah, .inl (cs.1, 17, .inl (fun j => nI ((shr (updN (ln) (y) (L)) 48) j)))), (an, .inl (cs.1, 17, .inl (fun j => nI ((xN (rl) (updN (ln) (y) (L)) (xn)) j)))), (g, .inr (2, [.ref gr, .int (nI (st)), .int (nI (sz))])), (gr, .inl (cs.1, 400, .inl (fun j => nI (rb j))))]) (As := [.int (nI (y)), .int (nI (L))]) (rest := []) (m_B_tellLength l D cs b k bc bl bx a al ac ah an g gr (ct) (upd (lo) (y) (lw)) (upd (ex) (y) (e9)) (wr) (lv9) (rl) (ln) (cn) (sn) (xn) (fl) (rb) (st) (sz) (y) (L) (by omega) (by omega) hl hrl) tw_374 tw_376 ts_13 tw_1 tw_377 rfl 0 rfl rfl (by decide +kernel) rfl ⟨rfl, rfl, by decide, by decide, by decide⟩ rfl [0, 1, 2, 3, 4, 5, 6, 7, 8, 9, 10] rfl rfl (by decide) (Nat.le_of_ble_eq_true rfl) rfl d_B_range_67 ?_
      exact g_zret C hr hlk (by split <;> rfl) rfl rfl d_B_range_70
    · first | exact absurd (by assumption) he | exact absurd he2 (by assumption)
set_option maxHeartbeats 4000000 in
set_option maxRecDepth 100000 in
theorem t_B_range_o (l : Launch) (hl9 : l.stackTraces = false) (D : va_G) (cs : ClassId × ClassId × ClassId × ClassId) (b k bc bl bx a al ac ah an g gr : Nat) (ct : Nat → Nat) (lo ex : Nat → Int32) (wr : Nat) (lv9 : Int64) (rl : Nat) (ln cn sn xn : Nat → Nat) (fl : Nat) (rb : Nat → Nat) (st sz : Nat) (x : Int32) (hx : x < 0 ∨ ¬ x < nI 48) (z1 z2 z3 : Int32) : MT l y_B_range k_B_range { frames := 7, cells := 1, slots := 6, locals := 102 } D cs [.ref b, .int (x), .int (z1), .int (z2), .int (z3)] [(b, .inr (3, [.ref a, .ref k, .ref g, .ref bc, .ref bl, .ref bx, .int (nI (wr)), .long (lv9)])), (bc, .inl (cs.2.1, 48, .inr (.inl (fun j => lN (ct j))))), (bl, .inl (cs.1, 48, .inl (lo))), (bx, .inl (cs.1, 48, .inl (ex))), (a, .inr (1, [.int (nI (rl)), .ref al, .ref ac, .ref ah, .ref an, .int (nI (fl))])), (al, .inl (cs.1, 48, .inl (fun j => nI (ln j)))), (ac, .inl (cs.1, 48, .inl (fun j => nI (cn j)))), (ah, .inl (cs.1, 17, .inl (fun j => nI (sn j)))), (an, .inl (cs.1, 17, .inl (fun j => nI (xn j)))), (g, .inr (2, [.ref gr, .int (nI (st)), .int (nI (sz))])), (gr, .inl (cs.1, 400, .inl (fun j => nI (rb j))))] "java/lang/IndexOutOfBoundsException" := by
  refine MT.mk (own := RB) (by decide) rfl (Nat.le_of_ble_eq_true rfl) ?_
  intro p e s m below meth c A C xf xs hex hlk
  refine g_lv (lv' := [(0, .ref b), (1, .int (x)), (2, .int (z1)), (3, .int (z2)), (4, .int (z3))]) [0, 1, 2, 3, 4] rfl ?_
  refine g_iload_n C d_B_range_0 1 rfl rfl ?_
  exact g_callSt_out C (n := 1) (As := [.int (x)]) (rest := []) (t_B_needSymbol l hl9 D cs (x) hx) tw_213 tw_214 tw_1 tw_215 xf xs hex hlk (by decide +kernel) rfl ⟨rfl, rfl, by decide, by decide, by decide⟩ rfl [] rfl (by decide) (Nat.le_of_ble_eq_true rfl) rfl d_B_range_1
set_option maxHeartbeats 4000000 in
set_option maxRecDepth 100000 in
theorem t_B_range_a (l : Launch) (hl9 : l.stackTraces = false) (D : va_G) (cs : ClassId × ClassId × ClassId × ClassId) (b k bc bl bx a al ac ah an g gr : Nat) (ct : Nat → Nat) (lo ex : Nat → Int32) (wr : Nat) (lv9 : Int64) (rl : Nat) (ln cn sn xn : Nat → Nat) (fl : Nat) (rb : Nat → Nat) (st sz : Nat) (y : Nat) (hy : y < 48) (lw e9 z : Int32) (hx : (z < nI 1 ∨ ¬ z ≤ nI 16) ∨ (e9 < (-32) ∨ ¬ e9 ≤ nI 32)) : MT l y_B_range k_B_range { frames := 7, cells := 1, slots := 6, locals := 102 } D cs [.ref b, .int (nI (y)), .int (lw), .int (e9), .int (z)] [(b, .inr (3, [.ref a, .ref k, .ref g, .ref bc, .ref bl, .ref bx, .int (nI (wr)), .long (lv9)])), (bc, .inl (cs.2.1, 48, .inr (.inl (fun j => lN (ct j))))), (bl, .inl (cs.1, 48, .inl (lo))), (bx, .inl (cs.1, 48, .inl (ex))), (a, .inr (1, [.int (nI (rl)), .ref al, .ref ac, .ref ah, .ref an, .int (nI (fl))])), (al, .inl (cs.1, 48, .inl (fun j => nI (ln j)))), (ac, .inl (cs.1, 48, .inl (fun j => nI (cn j)))), (ah, .inl (cs.1, 17, .inl (fun j => nI (sn j)))), (an, .inl (cs.1, 17, .inl (fun j => nI (xn j)))), (g, .inr (2, [.ref gr, .int (nI (st)), .int (nI (sz))])), (gr, .inl (cs.1, 400, .inl (fun j => nI (rb j))))] "java/lang/IllegalArgumentException" := by
  refine MT.mk (own := RB) (by decide) rfl (Nat.le_of_ble_eq_true rfl) ?_
  intro p e s m below meth c A C xf xs hex hlk
  refine g_lv (lv' := [(0, .ref b), (1, .int (nI (y))), (2, .int (lw)), (3, .int (e9)), (4, .int (z))]) [0, 1, 2, 3, 4] rfl ?_
  refine g_iload_n C d_B_range_0 1 rfl rfl ?_
  refine g_callSv C (n := 1) (ws' := [(b, .inr (3, [.ref a, .ref k, .ref g, .ref bc, .ref bl, .ref bx, .int (nI (wr)), .long (lv9)])), (bc, .inl (cs.2.1, 48, .inr (.inl (fun j => lN (ct j))))), (bl, .inl (cs.1, 48, .inl (lo))), (bx, .inl (cs.1, 48, .inl (ex))), (a, .inr (1, [.int (nI (rl)), .ref al, .ref ac, .ref ah, .ref an, .int (nI (fl))])), (al, .inl (cs.1, 48, .inl (fun j => nI (ln j)))), (ac, .inl (cs.1, 48, .inl (fun j => nI (cn j)))), (ah, .inl (cs.1, 17, .inl (fun j => nI (sn j)))), (an, .inl (cs.1, 17, .inl (fun j => nI (xn j)))), (g, .inr (2, [.ref gr, .int (nI (st)), .int (nI (sz))])), (gr, .inl (cs.1, 400, .inl (fun j => nI (rb j))))]) (As := [.int (nI (y))]) (rest := []) (m_B_needSymbol l D cs (y) (by omega)) tw_213 tw_214 tw_1 tw_215 (by decide +kernel) rfl ⟨rfl, rfl, by decide, by decide, by decide⟩ rfl [] rfl rfl (by decide) (Nat.le_of_ble_eq_true rfl) rfl d_B_range_1 ?_
  refine g_iload C d_B_range_4 4 rfl ?_
  refine g_iconst C (v := nI 1) d_B_range_6 rfl ?_
  refine g_icmp_lt C 17 d_B_range_7 (by decide) (fun h7 => ?_) (fun h7 => ?_)
  · obtain ⟨sa, hsa⟩ := xf.2.2.2.2.2.2.2.2.2.2.2.2.2.1
    exact g_throw C hl9 (by decide +kernel) tw_285 tw_11 hsa xf.2.1 xa_A xb_A xg_A xf xs hex hlk ⟨by decide, Nat.le_of_ble_eq_true rfl, by decide, by decide⟩ d_B_range_17 d_B_range_20 d_B_range_21 d_B_range_23 d_B_range_26
  · refine g_iload C d_B_range_10 4 rfl ?_
    refine g_bipush C (v := nI 16) d_B_range_12 rfl ?_
    refine g_icmp_le C 27 d_B_range_14 (by decide) (fun h14 => ?_) (fun h14 => ?_)
    · refine g_iload_n C d_B_range_27 3 rfl rfl ?_
      refine g_bipush C (v := (-32)) d_B_range_28 rfl ?_
      refine g_icmp_lt C 39 d_B_range_30 (by decide) (fun h30 => ?_) (fun h30 => ?_)
      · obtain ⟨sa, hsa⟩ := xf.2.2.2.2.2.2.2.2.2.2.2.2.2.2.1
        exact g_throw C hl9 (by decide +kernel) tw_285 tw_11 hsa xf.2.1 xa_A xb_A xg_A xf xs hex hlk ⟨by decide, Nat.le_of_ble_eq_true rfl, by decide, by decide⟩ d_B_range_39 d_B_range_42 d_B_range_43 d_B_range_45 d_B_range_48
      · refine g_iload_n C d_B_range_33 3 rfl rfl ?_
        refine g_bipush C (v := nI 32) d_B_range_34 rfl ?_
        refine g_icmp_le C 49 d_B_range_36 (by decide) (fun h36 => ?_) (fun h36 => ?_)
        · exact hx.elim (fun hx => hx.elim (fun h => absurd h (by assumption)) (fun h => absurd (by assumption) h)) (fun hx => hx.elim (fun h => absurd h (by assumption)) (fun h => absurd (by assumption) h))
        · obtain ⟨sa, hsa⟩ := xf.2.2.2.2.2.2.2.2.2.2.2.2.2.2.1
          exact g_throw C hl9 (by decide +kernel) tw_285 tw_11 hsa xf.2.1 xa_A xb_A xg_A xf xs hex hlk ⟨by decide, Nat.le_of_ble_eq_true rfl, by decide, by decide⟩ d_B_range_39 d_B_range_42 d_B_range_43 d_B_range_45 d_B_range_48
    · obtain ⟨sa, hsa⟩ := xf.2.2.2.2.2.2.2.2.2.2.2.2.2.1
      exact g_throw C hl9 (by decide +kernel) tw_285 tw_11 hsa xf.2.1 xa_A xb_A xg_A xf xs hex hlk ⟨by decide, Nat.le_of_ble_eq_true rfl, by decide, by decide⟩ d_B_range_17 d_B_range_20 d_B_range_21 d_B_range_23 d_B_range_26
set_option maxHeartbeats 4000000 in
set_option maxRecDepth 100000 in
theorem m_B_feed (l : Launch) (D : va_G) (cs : ClassId × ClassId × ClassId × ClassId) (b k bc bl bx a al ac ah an g gr : Nat) (ct : Nat → Nat) (lo ex : Nat → Int32) (wr : Nat) (lv9 : Int64) (rl : Nat) (ln cn sn xn : Nat → Nat) (fl : Nat) (rb : Nat → Nat) (st sz : Nat) (bt : Nat) (hbt : bt < 2) (hs : st < 400) (hz : sz ≤ 400) : MG l y_B_feed k_B_feed { frames := 1, cells := 0, slots := 0, locals := 21 } D cs [.ref b, .int (nI (bt))] [(b, .inr (3, [.ref a, .ref k, .ref g, .ref bc, .ref bl, .ref bx, .int (nI (wr)), .long (lv9)])), (bc, .inl (cs.2.1, 48, .inr (.inl (fun j => lN (ct j))))), (bl, .inl (cs.1, 48, .inl (lo))), (bx, .inl (cs.1, 48, .inl (ex))), (a, .inr (1, [.int (nI (rl)), .ref al, .ref ac, .ref ah, .ref an, .int (nI (fl))])), (al, .inl (cs.1, 48, .inl (fun j => nI (ln j)))), (ac, .inl (cs.1, 48, .inl (fun j => nI (cn j)))), (ah, .inl (cs.1, 17, .inl (fun j => nI (sn j)))), (an, .inl (cs.1, 17, .inl (fun j => nI (xn j)))), (g, .inr (2, [.ref gr, .int (nI (st)), .int (nI (sz))])), (gr, .inl (cs.1, 400, .inl (fun j => nI (rb j))))] (QI D (nI (if sz < 400 then 1 else 0)) [(b, .inr (3, [.ref a, .ref k, .ref g, .ref bc, .ref bl, .ref bx, .int (nI (wr)), .long (lv9)])), (bc, .inl (cs.2.1, 48, .inr (.inl (fun j => lN (ct j))))), (bl, .inl (cs.1, 48, .inl (lo))), (bx, .inl (cs.1, 48, .inl (ex))), (a, .inr (1, [.int (nI (rl)), .ref al, .ref ac, .ref ah, .ref an, .int (nI (fl))])), (al, .inl (cs.1, 48, .inl (fun j => nI (ln j)))), (ac, .inl (cs.1, 48, .inl (fun j => nI (cn j)))), (ah, .inl (cs.1, 17, .inl (fun j => nI (sn j)))), (an, .inl (cs.1, 17, .inl (fun j => nI (xn j)))), (g, .inr (2, [.ref gr, .int (nI (st)), .int (nI (if sz < 400 then sz + 1 else sz))])), (gr, .inl (cs.1, 400, .inl (fun j => nI ((if sz < 400 then updN (rb) ((st + sz) % 400) (bt) else rb) j))))]) := by
  refine MG.mk (own := RB) (by decide) rfl (Nat.le_of_ble_eq_true rfl) ?_
  intro p e s m below meth c A C hr hlk
  refine g_lv (lv' := [(0, .ref b), (1, .int (nI (bt)))]) [0, 1] rfl ?_
  refine g_iload_n C d_B_feed_0 1 rfl rfl ?_
  refine n_if_eq C 19 d_B_feed_1 (by decide) (by omega) (fun h1 => ?_) (fun h1 => ?_)
  · refine g_aload_n C d_B_feed_19 0 rfl rfl ?_
    refine g_get C (T := FB) (N := 8) 0 2 inB rfl rfl (by decide) tw_107 rfl rfl d_B_feed_20 ?_
    refine g_iload_n C d_B_feed_23 1 rfl rfl ?_
    refine g_callVi C (n := 1) (ws' := [(b, .inr (3, [.ref a, .ref k, .ref g, .ref bc, .ref bl, .ref bx, .int (nI (wr)), .long (lv9)])), (bc, .inl (cs.2.1, 48, .inr (.inl (fun j => lN (ct j))))), (bl, .inl (cs.1, 48, .inl (lo))), (bx, .inl (cs.1, 48, .inl (ex))), (a, .inr (1, [.int (nI (rl)), .ref al, .ref ac, .ref ah, .ref an, .int (nI (fl))])), (al, .inl (cs.1, 48, .inl (fun j => nI (ln j)))), (ac, .inl (cs.1, 48, .inl (fun j => nI (cn j)))), (ah, .inl (cs.1, 17, .inl (fun j => nI (sn j)))), (an, .inl (cs.1, 17, .inl (fun j => nI (xn j)))), (g, .inr (2, [.ref gr, .int (nI (st)), .int (nI (if sz < 400 then sz + 1 else sz))])), (gr, .inl (cs.1, 400, .inl (fun j => nI ((if sz < 400 then updN (rb) ((st + sz) % 400) (bt) else rb) j))))]) (As := [.int (nI (bt))]) (rest := []) (m_G_append l D cs g gr (rb) (st) (sz) (bt) (by omega) (by omega)) tw_395 tw_396 tw_397 tw_3 tw_398 rfl 0 rfl rfl (by decide +kernel) rfl ⟨rfl, rfl, by decide, by decide, by decide⟩ rfl [9, 10] rfl rfl (by decide) (Nat.le_of_ble_eq_true rfl) rfl d_B_feed_24 ?_
    exact g_zret C hr hlk (by split <;> rfl) rfl rfl d_B_feed_27
  · refine g_iload_n C d_B_feed_4 1 rfl rfl ?_
    refine g_iconst C (v := nI 1) d_B_feed_5 rfl ?_
    refine n_icmp_eq C 19 d_B_feed_6 (by decide) (by omega) (by omega) (fun h6 => ?_) (fun h6 => ?_)
    · refine g_aload_n C d_B_feed_19 0 rfl rfl ?_
      refine g_get C (T := FB) (N := 8) 0 2 inB rfl rfl (by decide) tw_107 rfl rfl d_B_feed_20 ?_
      refine g_iload_n C d_B_feed_23 1 rfl rfl ?_
      refine g_callVi C (n := 1) (ws' := [(b, .inr (3, [.ref a, .ref k, .ref g, .ref bc, .ref bl, .ref bx, .int (nI (wr)), .long (lv9)])), (bc, .inl (cs.2.1, 48, .inr (.inl (fun j => lN (ct j))))), (bl, .inl (cs.1, 48, .inl (lo))), (bx, .inl (cs.1, 48, .inl (ex))), (a, .inr (1, [.int (nI (rl)), .ref al, .ref ac, .ref ah, .ref an, .int (nI (fl))])), (al, .inl (cs.1, 48, .inl (fun j => nI (ln j)))), (ac, .inl (cs.1, 48, .inl (fun j => nI (cn j)))), (ah, .inl (cs.1, 17, .inl (fun j => nI (sn j)))), (an, .inl (cs.1, 17, .inl (fun j => nI (xn j)))), (g, .inr (2, [.ref gr, .int (nI (st)), .int (nI (if sz < 400 then sz + 1 else sz))])), (gr, .inl (cs.1, 400, .inl (fun j => nI ((if sz < 400 then updN (rb) ((st + sz) % 400) (bt) else rb) j))))]) (As := [.int (nI (bt))]) (rest := []) (m_G_append l D cs g gr (rb) (st) (sz) (bt) (by omega) (by omega)) tw_395 tw_396 tw_397 tw_3 tw_398 rfl 0 rfl rfl (by decide +kernel) rfl ⟨rfl, rfl, by decide, by decide, by decide⟩ rfl [9, 10] rfl rfl (by decide) (Nat.le_of_ble_eq_true rfl) rfl d_B_feed_24 ?_
      exact g_zret C hr hlk (by split <;> rfl) rfl rfl d_B_feed_27
    · exact absurd hbt (by omega)
set_option maxHeartbeats 4000000 in
set_option maxRecDepth 100000 in
theorem t_B_feed (l : Launch) (hl9 : l.stackTraces = false) (D : va_G) (cs : ClassId × ClassId × ClassId × ClassId) (b k bc bl bx a al ac ah an g gr : Nat) (ct : Nat → Nat) (lo ex : Nat → Int32) (wr : Nat) (lv9 : Int64) (rl : Nat) (ln cn sn xn : Nat → Nat) (fl : Nat) (rb : Nat → Nat) (st sz : Nat) (x : Int32) (hx : ¬ x = 0) (hx1 : ¬ x = nI 1) : MT l y_B_feed k_B_feed { frames := 7, cells := 1, slots := 6, locals := 102 } D cs [.ref b, .int (x)] [(b, .inr (3, [.ref a, .ref k, .ref g, .ref bc, .ref bl, .ref bx, .int (nI (wr)), .long (lv9)])), (bc, .inl (cs.2.1, 48, .inr (.inl (fun j => lN (ct j))))), (bl, .inl (cs.1, 48, .inl (lo))), (bx, .inl (cs.1, 48, .inl (ex))), (a, .inr (1, [.int (nI (rl)), .ref al, .ref ac, .ref ah, .ref an, .int (nI (fl))])), (al, .inl (cs.1, 48, .inl (fun j => nI (ln j)))), (ac, .inl (cs.1, 48, .inl (fun j => nI (cn j)))), (ah, .inl (cs.1, 17, .inl (fun j => nI (sn j)))), (an, .inl (cs.1, 17, .inl (fun j => nI (xn j)))), (g, .inr (2, [.ref gr, .int (nI (st)), .int (nI (sz))])), (gr, .inl (cs.1, 400, .inl (fun j => nI (rb j))))] "java/lang/IllegalArgumentException" := by
  refine MT.mk (own := RB) (by decide) rfl (Nat.le_of_ble_eq_true rfl) ?_
  intro p e s m below meth c A C xf xs hex hlk
  refine g_lv (lv' := [(0, .ref b), (1, .int (x))]) [0, 1] rfl ?_
  refine g_iload_n C d_B_feed_0 1 rfl rfl ?_
  refine g_if_eq C 19 d_B_feed_1 (by decide) (fun h1 => ?_) (fun h1 => ?_)
  · first | exact absurd (by assumption) hx | exact absurd (by assumption) hx1
  · refine g_iload_n C d_B_feed_4 1 rfl rfl ?_
    refine g_iconst C (v := nI 1) d_B_feed_5 rfl ?_
    refine g_icmp_eq C 19 d_B_feed_6 (by decide) (fun h6 => ?_) (fun h6 => ?_)
    · first | exact absurd (by assumption) hx | exact absurd (by assumption) hx1
    · obtain ⟨sa, hsa⟩ := xf.2.2.2.2.2.2.2.2.2.2.2.2.2.2.2.1
      exact g_throw C hl9 (by decide +kernel) tw_285 tw_11 hsa xf.2.1 xa_A xb_A xg_A xf xs hex hlk ⟨by decide, Nat.le_of_ble_eq_true rfl, by decide, by decide⟩ d_B_feed_9 d_B_feed_12 d_B_feed_13 d_B_feed_15 d_B_feed_18
set_option maxHeartbeats 4000000 in
set_option maxRecDepth 100000 in
theorem m_B_last (l : Launch) (D : va_G) (cs : ClassId × ClassId × ClassId × ClassId) (b k bc bl bx a al ac ah an g gr : Nat) (ct : Nat → Nat) (lo ex : Nat → Int32) (wr : Nat) (lv9 : Int64) (rl : Nat) (ln cn sn xn : Nat → Nat) (fl : Nat) (rb : Nat → Nat) (st sz : Nat) (hw : wr = 1) : MG l y_B_last k_B_last { frames := 0, cells := 0, slots := 0, locals := 0 } D cs [.ref b] [(b, .inr (3, [.ref a, .ref k, .ref g, .ref bc, .ref bl, .ref bx, .int (nI (wr)), .long (lv9)])), (bc, .inl (cs.2.1, 48, .inr (.inl (fun j => lN (ct j))))), (bl, .inl (cs.1, 48, .inl (lo))), (bx, .inl (cs.1, 48, .inl (ex))), (a, .inr (1, [.int (nI (rl)), .ref al, .ref ac, .ref ah, .ref an, .int (nI (fl))])), (al, .inl (cs.1, 48, .inl (fun j => nI (ln j)))), (ac, .inl (cs.1, 48, .inl (fun j => nI (cn j)))), (ah, .inl (cs.1, 17, .inl (fun j => nI (sn j)))), (an, .inl (cs.1, 17, .inl (fun j => nI (xn j)))), (g, .inr (2, [.ref gr, .int (nI (st)), .int (nI (sz))])), (gr, .inl (cs.1, 400, .inl (fun j => nI (rb j))))] (QL D (lv9) [(b, .inr (3, [.ref a, .ref k, .ref g, .ref bc, .ref bl, .ref bx, .int (nI (wr)), .long (lv9)])), (bc, .inl (cs.2.1, 48, .inr (.inl (fun j => lN (ct j))))), (bl, .inl (cs.1, 48, .inl (lo))), (bx, .inl (cs.1, 48, .inl (ex))), (a, .inr (1, [.int (nI (rl)), .ref al, .ref ac, .ref ah, .ref an, .int (nI (fl))])), (al, .inl (cs.1, 48, .inl (fun j => nI (ln j)))), (ac, .inl (cs.1, 48, .inl (fun j => nI (cn j)))), (ah, .inl (cs.1, 17, .inl (fun j => nI (sn j)))), (an, .inl (cs.1, 17, .inl (fun j => nI (xn j)))), (g, .inr (2, [.ref gr, .int (nI (st)), .int (nI (sz))])), (gr, .inl (cs.1, 400, .inl (fun j => nI (rb j))))]) := by
  refine MG.mk (own := RB) (by decide) rfl (Nat.le_of_ble_eq_true rfl) ?_
  intro p e s m below meth c A C hr hlk
  refine g_lv (lv' := [(0, .ref b)]) [0] rfl ?_
  refine g_aload_n C d_B_last_0 0 rfl rfl ?_
  refine g_get C (T := FB) (N := 8) 0 6 inB rfl rfl (by decide) tw_111 rfl rfl d_B_last_1 ?_
  refine n_if_ne C 17 d_B_last_4 (by decide) (by omega) (fun _ => ?_) (fun h => absurd h (by omega))
  refine g_aload_n C d_B_last_17 0 rfl rfl ?_
  refine g_get C (T := FB) (N := 8) 0 7 inB rfl rfl (by decide) tw_112 rfl rfl d_B_last_18 ?_
  exact g_lret C hr hlk rfl rfl d_B_last_21
set_option maxHeartbeats 4000000 in
set_option maxRecDepth 100000 in
theorem t_B_last (l : Launch) (hl9 : l.stackTraces = false) (D : va_G) (cs : ClassId × ClassId × ClassId × ClassId) (b k bc bl bx a al ac ah an g gr : Nat) (ct : Nat → Nat) (lo ex : Nat → Int32) (wr : Nat) (lv9 : Int64) (rl : Nat) (ln cn sn xn : Nat → Nat) (fl : Nat) (rb : Nat → Nat) (st sz : Nat) (hw : wr = 0) : MT l y_B_last k_B_last { frames := 6, cells := 1, slots := 6, locals := 82 } D cs [.ref b] [(b, .inr (3, [.ref a, .ref k, .ref g, .ref bc, .ref bl, .ref bx, .int (nI (wr)), .long (lv9)])), (bc, .inl (cs.2.1, 48, .inr (.inl (fun j => lN (ct j))))), (bl, .inl (cs.1, 48, .inl (lo))), (bx, .inl (cs.1, 48, .inl (ex))), (a, .inr (1, [.int (nI (rl)), .ref al, .ref ac, .ref ah, .ref an, .int (nI (fl))])), (al, .inl (cs.1, 48, .inl (fun j => nI (ln j)))), (ac, .inl (cs.1, 48, .inl (fun j => nI (cn j)))), (ah, .inl (cs.1, 17, .inl (fun j => nI (sn j)))), (an, .inl (cs.1, 17, .inl (fun j => nI (xn j)))), (g, .inr (2, [.ref gr, .int (nI (st)), .int (nI (sz))])), (gr, .inl (cs.1, 400, .inl (fun j => nI (rb j))))] "java/lang/IllegalArgumentException" := by
  refine MT.mk (own := RB) (by decide) rfl (Nat.le_of_ble_eq_true rfl) ?_
  intro p e s m below meth c A C xf xs hex hlk
  refine g_lv (lv' := [(0, .ref b)]) [0] rfl ?_
  refine g_aload_n C d_B_last_0 0 rfl rfl ?_
  refine g_get C (T := FB) (N := 8) 0 6 inB rfl rfl (by decide) tw_111 rfl rfl d_B_last_1 ?_
  refine n_if_ne C 17 d_B_last_4 (by decide) (by omega) (fun h => absurd h (by omega)) (fun _ => ?_)
  obtain ⟨sa, hsa⟩ := xf.2.2.2.2.2.2.2.2.2.2.2.2.2.2.2.2
  exact g_throw C hl9 (by decide +kernel) tw_285 tw_11 hsa xf.2.1 xa_A xb_A xg_A xf xs hex hlk ⟨by decide, Nat.le_of_ble_eq_true rfl, by decide, by decide⟩ d_B_last_7 d_B_last_10 d_B_last_11 d_B_last_13 d_B_last_16
set_option maxHeartbeats 4000000 in
set_option maxRecDepth 100000 in
theorem t_B_read (l : Launch) (hl9 : l.stackTraces = false) (D : va_G) (cs : ClassId × ClassId × ClassId × ClassId) (b k bc bl bx a al ac ah an g gr : Nat) (ct : Nat → Nat) (lo ex : Nat → Int32) (wr : Nat) (lv9 : Int64) (rl : Nat) (ln cn sn xn : Nat → Nat) (fl : Nat) (rb : Nat → Nat) (st sz : Nat) (hf : 65536 < fl) (hf2 : fl < 2 ^ 31) : MT l y_B_read k_B_read { frames := 7, cells := 1, slots := 6, locals := 102 } D cs [.ref b] [(b, .inr (3, [.ref a, .ref k, .ref g, .ref bc, .ref bl, .ref bx, .int (nI (wr)), .long (lv9)])), (bc, .inl (cs.2.1, 48, .inr (.inl (fun j => lN (ct j))))), (bl, .inl (cs.1, 48, .inl (lo))), (bx, .inl (cs.1, 48, .inl (ex))), (a, .inr (1, [.int (nI (rl)), .ref al, .ref ac, .ref ah, .ref an, .int (nI (fl))])), (al, .inl (cs.1, 48, .inl (fun j => nI (ln j)))), (ac, .inl (cs.1, 48, .inl (fun j => nI (cn j)))), (ah, .inl (cs.1, 17, .inl (fun j => nI (sn j)))), (an, .inl (cs.1, 17, .inl (fun j => nI (xn j)))), (g, .inr (2, [.ref gr, .int (nI (st)), .int (nI (sz))])), (gr, .inl (cs.1, 400, .inl (fun j => nI (rb j))))] "java/lang/IllegalStateException" := by
  refine MT.mk (own := RB) (by decide) rfl (Nat.le_of_ble_eq_true rfl) ?_
  intro p e s m below meth c A C xf xs hex hlk
  refine g_lv (lv' := [(0, .ref b)]) [0] rfl ?_
  refine g_aload_n C d_B_read_0 0 rfl rfl ?_
  exact g_callVt_out C (n := 0) (As := []) (rest := []) (t_B_needCodes l hl9 D cs b k bc bl bx a al ac ah an g gr (ct) (lo) (ex) (wr) (lv9) (rl) (ln) (cn) (sn) (xn) (fl) (rb) (st) (sz) hf hf2) tw_345 tw_347 ts_12 tw_1 tw_348 rfl 0 rfl rfl xf xs hex hlk (by decide +kernel) rfl ⟨rfl, rfl, by decide, by decide, by decide⟩ rfl [0, 1, 2, 3, 4, 5, 6, 7, 8, 9, 10] rfl (by decide) (Nat.le_of_ble_eq_true rfl) rfl d_B_read_1
set_option maxHeartbeats 4000000 in
set_option maxRecDepth 100000 in
theorem t_B_make (l : Launch) (hl9 : l.stackTraces = false) (D : va_G) (cs : ClassId × ClassId × ClassId × ClassId) (b k bc bl bx a al ac ah an g gr : Nat) (ct : Nat → Nat) (lo ex : Nat → Int32) (wr : Nat) (lv9 : Int64) (rl : Nat) (ln cn sn xn : Nat → Nat) (fl : Nat) (rb : Nat → Nat) (st sz : Nat) (x : Int32) (hx : x < nI 1 ∨ ¬ x ≤ nI 16) : MT l y_B_make k_B_make { frames := 6, cells := 1, slots := 6, locals := 82 } D cs [.ref b, .int (x)] [(b, .inr (3, [.ref a, .ref k, .ref g, .ref bc, .ref bl, .ref bx, .int (nI (wr)), .long (lv9)])), (bc, .inl (cs.2.1, 48, .inr (.inl (fun j => lN (ct j))))), (bl, .inl (cs.1, 48, .inl (lo))), (bx, .inl (cs.1, 48, .inl (ex))), (a, .inr (1, [.int (nI (rl)), .ref al, .ref ac, .ref ah, .ref an, .int (nI (fl))])), (al, .inl (cs.1, 48, .inl (fun j => nI (ln j)))), (ac, .inl (cs.1, 48, .inl (fun j => nI (cn j)))), (ah, .inl (cs.1, 17, .inl (fun j => nI (sn j)))), (an, .inl (cs.1, 17, .inl (fun j => nI (xn j)))), (g, .inr (2, [.ref gr, .int (nI (st)), .int (nI (sz))])), (gr, .inl (cs.1, 400, .inl (fun j => nI (rb j))))] "java/lang/IllegalArgumentException" := by
  refine MT.mk (own := RB) (by decide) rfl (Nat.le_of_ble_eq_true rfl) ?_
  intro p e s m below meth c A C xf xs hex hlk
  refine g_lv (lv' := [(0, .ref b), (1, .int (x))]) [0, 1] rfl ?_
  refine g_iload_n C d_B_make_0 1 rfl rfl ?_
  refine g_iconst C (v := nI 1) d_B_make_1 rfl ?_
  refine g_icmp_lt C 11 d_B_make_2 (by decide) (fun h2 => ?_) (fun h2 => ?_)
  · obtain ⟨sa, hsa⟩ := xf.2.2.2.2.2.2.2.2.2.2.1
    exact g_throw C hl9 (by decide +kernel) tw_285 tw_11 hsa xf.2.1 xa_A xb_A xg_A xf xs hex hlk ⟨by decide, Nat.le_of_ble_eq_true rfl, by decide, by decide⟩ d_B_make_11 d_B_make_14 d_B_make_15 d_B_make_17 d_B_make_20
  · refine g_iload_n C d_B_make_5 1 rfl rfl ?_
    refine g_bipush C (v := nI 16) d_B_make_6 rfl ?_
    refine g_icmp_le C 21 d_B_make_8 (by decide) (fun h8 => ?_) (fun h8 => ?_)
    · exact hx.elim (fun h => absurd h (by assumption)) (fun h => absurd (by assumption) h)
    · obtain ⟨sa, hsa⟩ := xf.2.2.2.2.2.2.2.2.2.2.1
      exact g_throw C hl9 (by decide +kernel) tw_285 tw_11 hsa xf.2.1 xa_A xb_A xg_A xf xs hex hlk ⟨by decide, Nat.le_of_ble_eq_true rfl, by decide, by decide⟩ d_B_make_11 d_B_make_14 d_B_make_15 d_B_make_17 d_B_make_20
end
section
/-- reading: (0, 0) waits; (1, n) n bits begin no code; (2, y) the symbol y -/
def rdL (ln cn rb : Nat → Nat) (st sz : Nat) : Nat → Nat → Nat × Nat
  | 0, _ => (0, 0)
  | f + 1, n => if n ≤ sz then (match sbb ln cn (nmb rb st 0 n) n with
      | none => (1, n)
      | some y => if ln y = n then (2, y) else rdL ln cn rb st sz f (n + 1)) else (0, 0)
theorem sbb_some {ln cn : Nat → Nat} {fi nn y : Nat} (h : sbb ln cn fi nn = some y) : y < 48 ∧ nn ≤ ln y ∧ cn y / 2 ^ (ln y - nn) = fi := by
  unfold sbb at h
  rw [List.find?_range_eq_some] at h
  obtain ⟨h1, h2, -⟩ := h
  unfold bgP at h1
  simp only [Bool.and_eq_true, decide_eq_true_eq] at h1
  exact ⟨List.mem_range.mp h2, h1.1, h1.2⟩
section RD
variable {ln cn rb : Nat → Nat} {st sz k y : Nat}
theorem rdL_fu (hk : k ≤ 16) : ∃ f, 17 - k = f + 1 ∧ 17 - (k + 1) = f := ⟨16 - k, by omega, by omega⟩
theorem rdL_sz (h : sz < k) : rdL ln cn rb st sz (17 - k) k = (0, 0) := by
  cases 17 - k with
  | zero => rfl
  | succ f => rw [rdL, if_neg (by omega)]
theorem rdL_none (hk : k ≤ 16) (h : k ≤ sz) (hs : sbb ln cn (nmb rb st 0 k) k = none) : rdL ln cn rb st sz (17 - k) k = (1, k) := by
  obtain ⟨f, e1, -⟩ := rdL_fu hk
  rw [e1, rdL, if_pos h, hs]
theorem rdL_hit (hk : k ≤ 16) (h : k ≤ sz) (hs : sbb ln cn (nmb rb st 0 k) k = some y) (hy : ln y = k) : rdL ln cn rb st sz (17 - k) k = (2, y) := by
  obtain ⟨f, e1, -⟩ := rdL_fu hk
  rw [e1, rdL, if_pos h, hs]
  show (if ln y = k then _ else _) = _
  rw [if_pos hy]
theorem rdL_next (hk : k ≤ 16) (h : k ≤ sz) (hs : sbb ln cn (nmb rb st 0 k) k = some y) (hy : ln y ≠ k) : rdL ln cn rb st sz (17 - k) k = rdL ln cn rb st sz (17 - (k + 1)) (k + 1) := by
  obtain ⟨f, e1, e2⟩ := rdL_fu hk
  rw [e1, e2, rdL, if_pos h, hs]
  show (if ln y = k then _ else _) = _
  rw [if_neg hy]
end RD
theorem nmb_lt {rb : Nat → Nat} (hb : ∀ j, j < 400 → rb j < 2) (st bh : Nat) : ∀ n, nmb rb st bh n < 2 ^ n
  | 0 => by show 0 < 2 ^ 0; decide
  | n + 1 => by
    have h1 := nmb_lt hb st bh n
    have h2 := hb ((st + (bh + n)) % 400) (Nat.mod_lt _ (by omega))
    show 2 * nmb rb st bh n + rb ((st + (bh + n)) % 400) < 2 ^ (n + 1)
    rw [Nat.pow_succ]; omega
theorem nI_nm1 {y : Nat} (h : y < 2 ^ 31) : ¬ nI y = (-1) := fun q => by
  have h1 := nI_toInt h
  rw [q] at h1
  have : (-1 : Int32).toInt = -1 := by decide
  omega

set_option maxHeartbeats 4000000 in
set_option maxRecDepth 100000 in
theorem l_B_read {p : Program} {l : Launch} {e : Env} {s : State} {m : MethodId} {args : Array Value} {below : List Frame} {meth : Method} {c : Code} {Q : State → Prop} {A : Nat → Prop} {D : va_G} {cs : ClassId × ClassId × ClassId × ClassId} (C : CX p s m args c c_B_read 3 RB D cs A) (b k bc bl bx a al ac ah an g gr : Nat) (ct : Nat → Nat) (lo ex : Nat → Int32) (wr : Nat) (lv9 : Int64) (rl : Nat) (ln cn sn xn : Nat → Nat) (fl : Nat) (rb : Nat → Nat) (st sz : Nat) (hl : ∀ j, j < 48 → ln j ≤ 16) (hc : ∀ j, j < 48 → cn j < 2 ^ 31) (hs : st < 400) (hz : sz ≤ 400) (hb : ∀ j, j < 400 → rb j < 2)
    (Kw : rdL ln cn rb st sz 16 1 = (0, 0) → GO p l e { frames := 2, cells := 0, slots := 0, locals := 52 } s m args below meth c 0 0 Q A D 3 83 [(0, .ref b)] [] [(b, .inr (3, [.ref a, .ref k, .ref g, .ref bc, .ref bl, .ref bx, .int (nI (wr)), .long (lv9)])), (bc, .inl (cs.2.1, 48, .inr (.inl (fun j => lN (ct j))))), (bl, .inl (cs.1, 48, .inl (lo))), (bx, .inl (cs.1, 48, .inl (ex))), (a, .inr (1, [.int (nI (rl)), .ref al, .ref ac, .ref ah, .ref an, .int (nI (fl))])), (al, .inl (cs.1, 48, .inl (fun j => nI (ln j)))), (ac, .inl (cs.1, 48, .inl (fun j => nI (cn j)))), (ah, .inl (cs.1, 17, .inl (fun j => nI (sn j)))), (an, .inl (cs.1, 17, .inl (fun j => nI (xn j)))), (g, .inr (2, [.ref gr, .int (nI (st)), .int (nI (sz))])), (gr, .inl (cs.1, 400, .inl (fun j => nI (rb j))))])
    (Kn : ∀ kq : Nat, 1 ≤ kq → kq ≤ 16 → kq ≤ sz → rdL ln cn rb st sz 16 1 = (1, kq) → GO p l e { frames := 2, cells := 0, slots := 0, locals := 52 } s m args below meth c 0 0 Q A D 3 47 [(0, .ref b), (1, .int (nI (kq)))] [] [(b, .inr (3, [.ref a, .ref k, .ref g, .ref bc, .ref bl, .ref bx, .int (nI (wr)), .long (lv9)])), (bc, .inl (cs.2.1, 48, .inr (.inl (fun j => lN (ct j))))), (bl, .inl (cs.1, 48, .inl (lo))), (bx, .inl (cs.1, 48, .inl (ex))), (a, .inr (1, [.int (nI (rl)), .ref al, .ref ac, .ref ah, .ref an, .int (nI (fl))])), (al, .inl (cs.1, 48, .inl (fun j => nI (ln j)))), (ac, .inl (cs.1, 48, .inl (fun j => nI (cn j)))), (ah, .inl (cs.1, 17, .inl (fun j => nI (sn j)))), (an, .inl (cs.1, 17, .inl (fun j => nI (xn j)))), (g, .inr (2, [.ref gr, .int (nI (st)), .int (nI (sz))])), (gr, .inl (cs.1, 400, .inl (fun j => nI (rb j))))])
    (Kt : ∀ y : Nat, y < 48 → rdL ln cn rb st sz 16 1 = (2, y) → GO p l e { frames := 2, cells := 0, slots := 0, locals := 52 } s m args below meth c 0 0 Q A D 3 71 [(0, .ref b), (2, .int (nI (y)))] [] [(b, .inr (3, [.ref a, .ref k, .ref g, .ref bc, .ref bl, .ref bx, .int (nI (wr)), .long (lv9)])), (bc, .inl (cs.2.1, 48, .inr (.inl (fun j => lN (ct j))))), (bl, .inl (cs.1, 48, .inl (lo))), (bx, .inl (cs.1, 48, .inl (ex))), (a, .inr (1, [.int (nI (rl)), .ref al, .ref ac, .ref ah, .ref an, .int (nI (fl))])), (al, .inl (cs.1, 48, .inl (fun j => nI (ln j)))), (ac, .inl (cs.1, 48, .inl (fun j => nI (cn j)))), (ah, .inl (cs.1, 17, .inl (fun j => nI (sn j)))), (an, .inl (cs.1, 17, .inl (fun j => nI (xn j)))), (g, .inr (2, [.ref gr, .int (nI (st)), .int (nI (sz))])), (gr, .inl (cs.1, 400, .inl (fun j => nI (rb j))))])
    : ∀ (n : Nat) (kq : Nat), 17 - kq = n → (1 ≤ kq) → (kq ≤ 17) → (rdL ln cn rb st sz 16 1 = rdL ln cn rb st sz (17 - kq) kq) → GO p l e { frames := 2, cells := 0, slots := 0, locals := 52 } s m args below meth c 0 0 Q A D 3 6 [(0, .ref b), (1, .int (nI (kq)))] [] [(b, .inr (3, [.ref a, .ref k, .ref g, .ref bc, .ref bl, .ref bx, .int (nI (wr)), .long (lv9)])), (bc, .inl (cs.2.1, 48, .inr (.inl (fun j => lN (ct j))))), (bl, .inl (cs.1, 48, .inl (lo))), (bx, .inl (cs.1, 48, .inl (ex))), (a, .inr (1, [.int (nI (rl)), .ref al, .ref ac, .ref ah, .ref an, .int (nI (fl))])), (al, .inl (cs.1, 48, .inl (fun j => nI (ln j)))), (ac, .inl (cs.1, 48, .inl (fun j => nI (cn j)))), (ah, .inl (cs.1, 17, .inl (fun j => nI (sn j)))), (an, .inl (cs.1, 17, .inl (fun j => nI (xn j)))), (g, .inr (2, [.ref gr, .int (nI (st)), .int (nI (sz))])), (gr, .inl (cs.1, 400, .inl (fun j => nI (rb j))))] := by
  intro n
  induction n using Nat.strongRecOn with
  | _ n ih =>
  intro kq  hn h1k hk he
  refine g_iload_n C d_B_read_6 1 rfl rfl ?_
  refine g_bipush C (v := nI 16) d_B_read_7 rfl ?_
  refine n_icmp_gt C 83 d_B_read_9 (by decide) (by omega) (by omega) (fun h9 => ?_) (fun h9 => ?_)
  · refine g_lv (lv' := [(0, .ref b)]) [0] rfl ?_
    exact Kw (he.trans (by first | exact rdL_sz (by omega) | (rw [show 17 - kq = 0 by omega]; rfl)))
  · refine g_iload_n C d_B_read_12 1 rfl rfl ?_
    refine g_aload_n C d_B_read_13 0 rfl rfl ?_
    refine g_get C (T := FB) (N := 8) 0 2 inB rfl rfl (by decide) tw_107 rfl rfl d_B_read_14 ?_
    refine g_getN C (T := FG) (N := 3) (k := 2) C.2.2.2.1 9 inG rfl rfl (by decide) rfl rfl d_B_read_17 ?_
    refine n_icmp_gt C 83 d_B_read_20 (by decide) (by omega) (by omega) (fun h20 => ?_) (fun h20 => ?_)
    · refine g_lv (lv' := [(0, .ref b)]) [0] rfl ?_
      exact Kw (he.trans (by first | exact rdL_sz (by omega) | (rw [show 17 - kq = 0 by omega]; rfl)))
    · refine g_aload_n C d_B_read_23 0 rfl rfl ?_
      refine g_get C (T := FB) (N := 8) 0 0 inB rfl rfl (by decide) tw_105 rfl rfl d_B_read_24 ?_
      refine g_aload_n C d_B_read_27 0 rfl rfl ?_
      refine g_get C (T := FB) (N := 8) 0 2 inB rfl rfl (by decide) tw_107 rfl rfl d_B_read_28 ?_
      refine g_iconst C (v := nI 0) d_B_read_31 rfl ?_
      refine g_iload_n C d_B_read_32 1 rfl rfl ?_
      refine g_callVl C (n := 2) (ws' := [(b, .inr (3, [.ref a, .ref k, .ref g, .ref bc, .ref bl, .ref bx, .int (nI (wr)), .long (lv9)])), (bc, .inl (cs.2.1, 48, .inr (.inl (fun j => lN (ct j))))), (bl, .inl (cs.1, 48, .inl (lo))), (bx, .inl (cs.1, 48, .inl (ex))), (a, .inr (1, [.int (nI (rl)), .ref al, .ref ac, .ref ah, .ref an, .int (nI (fl))])), (al, .inl (cs.1, 48, .inl (fun j => nI (ln j)))), (ac, .inl (cs.1, 48, .inl (fun j => nI (cn j)))), (ah, .inl (cs.1, 17, .inl (fun j => nI (sn j)))), (an, .inl (cs.1, 17, .inl (fun j => nI (xn j)))), (g, .inr (2, [.ref gr, .int (nI (st)), .int (nI (sz))])), (gr, .inl (cs.1, 400, .inl (fun j => nI (rb j))))]) (As := [.int (nI (0)), .int (nI (kq))]) (rest := [.ref a]) (m_G_number l D cs g gr (rb) (st) (sz) (0) (kq) hs hb (by omega)) tw_406 tw_407 tw_408 tw_3 tw_409 rfl 0 rfl rfl (by decide +kernel) rfl ⟨rfl, rfl, by decide, by decide, by decide⟩ rfl [9, 10] rfl rfl (by decide) (Nat.le_of_ble_eq_true rfl) rfl d_B_read_33 ?_
      refine g_l2i C (v := nI (nmb (rb) (st) (0) (kq))) d_B_read_36 (lN_i _) ?_
      refine g_iload_n C d_B_read_37 1 rfl rfl ?_
      refine g_callVi C (n := 2) (ws' := [(b, .inr (3, [.ref a, .ref k, .ref g, .ref bc, .ref bl, .ref bx, .int (nI (wr)), .long (lv9)])), (bc, .inl (cs.2.1, 48, .inr (.inl (fun j => lN (ct j))))), (bl, .inl (cs.1, 48, .inl (lo))), (bx, .inl (cs.1, 48, .inl (ex))), (a, .inr (1, [.int (nI (rl)), .ref al, .ref ac, .ref ah, .ref an, .int (nI (fl))])), (al, .inl (cs.1, 48, .inl (fun j => nI (ln j)))), (ac, .inl (cs.1, 48, .inl (fun j => nI (cn j)))), (ah, .inl (cs.1, 17, .inl (fun j => nI (sn j)))), (an, .inl (cs.1, 17, .inl (fun j => nI (xn j)))), (g, .inr (2, [.ref gr, .int (nI (st)), .int (nI (sz))])), (gr, .inl (cs.1, 400, .inl (fun j => nI (rb j))))]) (As := [.int (nI (nmb (rb) (st) (0) (kq))), .int (nI (kq))]) (rest := []) (m_T_symbolBegunBy l D cs a al ac ah an (rl) (ln) (cn) (sn) (xn) (fl) (nmb (rb) (st) (0) (kq)) (kq) hl hc (by omega) (Nat.lt_of_lt_of_le (nmb_lt hb st 0 kq) (Nat.pow_le_pow_right (by omega) (show kq ≤ 31 by omega)))) tw_411 tw_412 tw_413 tw_4 tw_414 rfl 0 rfl rfl (by decide +kernel) rfl ⟨rfl, rfl, by decide, by decide, by decide⟩ rfl [4, 5, 6, 7, 8] rfl rfl (by decide) (Nat.le_of_ble_eq_true rfl) rfl d_B_read_38 ?_
      rcases hsb : sbb ln cn (nmb rb st 0 kq) kq with _ | y
      · show GO _ _ _ _ _ _ _ _ _ _ _ _ _ _ _ _ _ _ (.int (-1) :: _) _
        refine g_istore_n C (lv' := [(2, .int ((-1))), (0, .ref b), (1, .int (nI (kq)))]) d_B_read_41 rfl (by decide) rfl ?_
        refine g_iload_n C d_B_read_42 0 rfl rfl ?_
        refine g_iconst C (v := (-1)) d_B_read_43 rfl ?_
        refine g_icmp_ne C 58 d_B_read_44 (by decide) (fun h => absurd rfl h) (fun _ => ?_)
        refine g_lv (lv' := [(0, .ref b), (1, .int (nI (kq)))]) [1, 2] rfl ?_
        exact Kn kq h1k (by omega) (by omega) (he.trans (rdL_none (by omega) (by omega) hsb))
      · show GO _ _ _ _ _ _ _ _ _ _ _ _ _ _ _ _ _ _ (.int (nI y) :: _) _
        obtain ⟨hy, hy1, -⟩ := sbb_some hsb
        refine g_istore_n C (lv' := [(2, .int (nI (y))), (0, .ref b), (1, .int (nI (kq)))]) d_B_read_41 rfl (by decide) rfl ?_
        refine g_iload_n C d_B_read_42 0 rfl rfl ?_
        refine g_iconst C (v := (-1)) d_B_read_43 rfl ?_
        refine g_icmp_ne C 58 d_B_read_44 (by decide) (fun _ => ?_) (fun h => absurd (nI_nm1 (by omega)) h)
        refine g_aload_n C d_B_read_58 1 rfl rfl ?_
        refine g_get C (T := FB) (N := 8) 0 0 inB rfl rfl (by decide) tw_105 rfl rfl d_B_read_59 ?_
        refine g_getN C (T := FT) (N := 6) (k := 1) C.2.2.2.2.1 4 inT rfl rfl (by decide) rfl rfl d_B_read_62 ?_
        refine g_iload_n C d_B_read_65 0 rfl rfl ?_
        refine g_iald C 5 rfl hy (by decide) d_B_read_66 ?_
        refine g_iload_n C d_B_read_67 2 rfl rfl ?_
        refine n_icmp_ne C 77 d_B_read_68 (by decide) (by have := hl y hy; omega) (by omega) (fun h68 => ?_) (fun h68 => ?_)
        · refine g_iinc C (lv' := [(1, .int (nI (kq + 1))), (2, .int (nI (y))), (0, .ref b)]) (k := 2) d_B_read_77 rfl (nI_1 _) (by decide) rfl ?_
          refine g_goto C 6 d_B_read_80 (by decide) ?_
          refine g_lv (lv' := [(0, .ref b), (1, .int (nI (kq + 1)))]) [2, 0] rfl ?_
          exact ih (17 - (kq + 1)) (by omega) (kq + 1) rfl (by omega) (by omega) (he.trans (rdL_next (by omega) (by omega) hsb h68))
        · refine g_lv (lv' := [(0, .ref b), (2, .int (nI (y)))]) [1, 0] rfl ?_
          exact Kt y hy (he.trans (rdL_hit (by omega) (by omega) hsb h68))
set_option maxHeartbeats 4000000 in
set_option maxRecDepth 100000 in
theorem m_B_read_w (l : Launch) (D : va_G) (cs : ClassId × ClassId × ClassId × ClassId) (b k bc bl bx a al ac ah an g gr : Nat) (ct : Nat → Nat) (lo ex : Nat → Int32) (wr : Nat) (lv9 : Int64) (rl : Nat) (ln cn sn xn : Nat → Nat) (fl : Nat) (rb : Nat → Nat) (st sz : Nat) (hl : ∀ j, j < 48 → ln j ≤ 16) (hc : ∀ j, j < 48 → cn j < 2 ^ 31) (hs : st < 400) (hz : sz ≤ 400) (hb : ∀ j, j < 400 → rb j < 2) (hf : fl ≤ 65536) (hrd : rdL ln cn rb st sz 16 1 = (0, 0)) : MG l y_B_read k_B_read { frames := 2, cells := 0, slots := 0, locals := 52 } D cs [.ref b] [(b, .inr (3, [.ref a, .ref k, .ref g, .ref bc, .ref bl, .ref bx, .int (nI (wr)), .long (lv9)])), (bc, .inl (cs.2.1, 48, .inr (.inl (fun j => lN (ct j))))), (bl, .inl (cs.1, 48, .inl (lo))), (bx, .inl (cs.1, 48, .inl (ex))), (a, .inr (1, [.int (nI (rl)), .ref al, .ref ac, .ref ah, .ref an, .int (nI (fl))])), (al, .inl (cs.1, 48, .inl (fun j => nI (ln j)))), (ac, .inl (cs.1, 48, .inl (fun j => nI (cn j)))), (ah, .inl (cs.1, 17, .inl (fun j => nI (sn j)))), (an, .inl (cs.1, 17, .inl (fun j => nI (xn j)))), (g, .inr (2, [.ref gr, .int (nI (st)), .int (nI (sz))])), (gr, .inl (cs.1, 400, .inl (fun j => nI (rb j))))] (QI D ((-1)) [(b, .inr (3, [.ref a, .ref k, .ref g, .ref bc, .ref bl, .ref bx, .int (nI (wr)), .long (lv9)])), (bc, .inl (cs.2.1, 48, .inr (.inl (fun j => lN (ct j))))), (bl, .inl (cs.1, 48, .inl (lo))), (bx, .inl (cs.1, 48, .inl (ex))), (a, .inr (1, [.int (nI (rl)), .ref al, .ref ac, .ref ah, .ref an, .int (nI (fl))])), (al, .inl (cs.1, 48, .inl (fun j => nI (ln j)))), (ac, .inl (cs.1, 48, .inl (fun j => nI (cn j)))), (ah, .inl (cs.1, 17, .inl (fun j => nI (sn j)))), (an, .inl (cs.1, 17, .inl (fun j => nI (xn j)))), (g, .inr (2, [.ref gr, .int (nI (st)), .int (nI (sz))])), (gr, .inl (cs.1, 400, .inl (fun j => nI (rb j))))]) := by
  refine MG.mk (own := RB) (by decide) rfl (Nat.le_of_ble_eq_true rfl) ?_
  intro p e s m below meth c A C hr hlk
  refine g_lv (lv' := [(0, .ref b)]) [0] rfl ?_
  refine g_aload_n C d_B_read_0 0 rfl rfl ?_
  refine g_callVv C (n := 0) (ws' := [(b, .inr (3, [.ref a, .ref k, .ref g, .ref bc, .ref bl, .ref bx, .int (nI (wr)), .long (lv9)])), (bc, .inl (cs.2.1, 48, .inr (.inl (fun j => lN (ct j))))), (bl, .inl (cs.1, 48, .inl (lo))), (bx, .inl (cs.1, 48, .inl (ex))), (a, .inr (1, [.int (nI (rl)), .ref al, .ref ac, .ref ah, .ref an, .int (nI (fl))])), (al, .inl (cs.1, 48, .inl (fun j => nI (ln j)))), (ac, .inl (cs.1, 48, .inl (fun j => nI (cn j)))), (ah, .inl (cs.1, 17, .inl (fun j => nI (sn j)))), (an, .inl (cs.1, 17, .inl (fun j => nI (xn j)))), (g, .inr (2, [.ref gr, .int (nI (st)), .int (nI (sz))])), (gr, .inl (cs.1, 400, .inl (fun j => nI (rb j))))]) (As := []) (rest := []) (m_B_needCodes l D cs b k bc bl bx a al ac ah an g gr (ct) (lo) (ex) (wr) (lv9) (rl) (ln) (cn) (sn) (xn) (fl) (rb) (st) (sz) (by omega)) tw_345 tw_347 ts_12 tw_1 tw_348 rfl 0 rfl rfl (by decide +kernel) rfl ⟨rfl, rfl, by decide, by decide, by decide⟩ rfl [0, 1, 2, 3, 4, 5, 6, 7, 8, 9, 10] rfl rfl (by decide) (Nat.le_of_ble_eq_true rfl) rfl d_B_read_1 ?_
  refine g_iconst C (v := nI 1) d_B_read_4 rfl ?_
  refine g_istore_n C (lv' := [(1, .int (nI (1))), (0, .ref b)]) d_B_read_5 rfl (by decide) rfl ?_
  refine g_lv (lv' := [(0, .ref b), (1, .int (nI (1)))]) [1, 0] rfl ?_
  refine l_B_read C b k bc bl bx a al ac ah an g gr ct lo ex wr lv9 rl ln cn sn xn fl rb st sz hl hc hs hz hb ?_ (fun k9 _ _ _ h => absurd (h.symm.trans hrd) (by simp)) (fun y9 _ h => absurd (h.symm.trans hrd) (by simp)) _ 1 rfl (by omega) (by omega) rfl
  intro _
  refine g_iconst C (v := (-1)) d_B_read_83 rfl ?_
  exact g_iret C hr hlk rfl rfl d_B_read_84
set_option maxHeartbeats 4000000 in
set_option maxRecDepth 100000 in
theorem m_B_read_n (l : Launch) (D : va_G) (cs : ClassId × ClassId × ClassId × ClassId) (b k bc bl bx a al ac ah an g gr : Nat) (ct : Nat → Nat) (lo ex : Nat → Int32) (wr : Nat) (lv9 : Int64) (rl : Nat) (ln cn sn xn : Nat → Nat) (fl : Nat) (rb : Nat → Nat) (st sz : Nat) (hl : ∀ j, j < 48 → ln j ≤ 16) (hc : ∀ j, j < 48 → cn j < 2 ^ 31) (hs : st < 400) (hz : sz ≤ 400) (hb : ∀ j, j < 400 → rb j < 2) (hf : fl ≤ 65536) (kk : Nat) (hrd : rdL ln cn rb st sz 16 1 = (1, kk)) : MG l y_B_read k_B_read { frames := 2, cells := 0, slots := 0, locals := 52 } D cs [.ref b] [(b, .inr (3, [.ref a, .ref k, .ref g, .ref bc, .ref bl, .ref bx, .int (nI (wr)), .long (lv9)])), (bc, .inl (cs.2.1, 48, .inr (.inl (fun j => lN (ct j))))), (bl, .inl (cs.1, 48, .inl (lo))), (bx, .inl (cs.1, 48, .inl (ex))), (a, .inr (1, [.int (nI (rl)), .ref al, .ref ac, .ref ah, .ref an, .int (nI (fl))])), (al, .inl (cs.1, 48, .inl (fun j => nI (ln j)))), (ac, .inl (cs.1, 48, .inl (fun j => nI (cn j)))), (ah, .inl (cs.1, 17, .inl (fun j => nI (sn j)))), (an, .inl (cs.1, 17, .inl (fun j => nI (xn j)))), (g, .inr (2, [.ref gr, .int (nI (st)), .int (nI (sz))])), (gr, .inl (cs.1, 400, .inl (fun j => nI (rb j))))] (QI D ((-2)) [(b, .inr (3, [.ref a, .ref k, .ref g, .ref bc, .ref bl, .ref bx, .int (nI (wr)), .long (lv9)])), (bc, .inl (cs.2.1, 48, .inr (.inl (fun j => lN (ct j))))), (bl, .inl (cs.1, 48, .inl (lo))), (bx, .inl (cs.1, 48, .inl (ex))), (a, .inr (1, [.int (nI (rl)), .ref al, .ref ac, .ref ah, .ref an, .int (nI (fl))])), (al, .inl (cs.1, 48, .inl (fun j => nI (ln j)))), (ac, .inl (cs.1, 48, .inl (fun j => nI (cn j)))), (ah, .inl (cs.1, 17, .inl (fun j => nI (sn j)))), (an, .inl (cs.1, 17, .inl (fun j => nI (xn j)))), (g, .inr (2, [.ref gr, .int (nI (((st) + (kk)) % 400)), .int (nI ((sz) - (kk)))])), (gr, .inl (cs.1, 400, .inl (fun j => nI (rb j))))]) := by
  refine MG.mk (own := RB) (by decide) rfl (Nat.le_of_ble_eq_true rfl) ?_
  intro p e s m below meth c A C hr hlk
  refine g_lv (lv' := [(0, .ref b)]) [0] rfl ?_
  refine g_aload_n C d_B_read_0 0 rfl rfl ?_
  refine g_callVv C (n := 0) (ws' := [(b, .inr (3, [.ref a, .ref k, .ref g, .ref bc, .ref bl, .ref bx, .int (nI (wr)), .long (lv9)])), (bc, .inl (cs.2.1, 48, .inr (.inl (fun j => lN (ct j))))), (bl, .inl (cs.1, 48, .inl (lo))), (bx, .inl (cs.1, 48, .inl (ex))), (a, .inr (1, [.int (nI (rl)), .ref al, .ref ac, .ref ah, .ref an, .int (nI (fl))])), (al, .inl (cs.1, 48, .inl (fun j => nI (ln j)))), (ac, .inl (cs.1, 48, .inl (fun j => nI (cn j)))), (ah, .inl (cs.1, 17, .inl (fun j => nI (sn j)))), (an, .inl (cs.1, 17, .inl (fun j => nI (xn j)))), (g, .inr (2, [.ref gr, .int (nI (st)), .int (nI (sz))])), (gr, .inl (cs.1, 400, .inl (fun j => nI (rb j))))]) (As := []) (rest := []) (m_B_needCodes l D cs b k bc bl bx a al ac ah an g gr (ct) (lo) (ex) (wr) (lv9) (rl) (ln) (cn) (sn) (xn) (fl) (rb) (st) (sz) (by omega)) tw_345 tw_347 ts_12 tw_1 tw_348 rfl 0 rfl rfl (by decide +kernel) rfl ⟨rfl, rfl, by decide, by decide, by decide⟩ rfl [0, 1, 2, 3, 4, 5, 6, 7, 8, 9, 10] rfl rfl (by decide) (Nat.le_of_ble_eq_true rfl) rfl d_B_read_1 ?_
  refine g_iconst C (v := nI 1) d_B_read_4 rfl ?_
  refine g_istore_n C (lv' := [(1, .int (nI (1))), (0, .ref b)]) d_B_read_5 rfl (by decide) rfl ?_
  refine g_lv (lv' := [(0, .ref b), (1, .int (nI (1)))]) [1, 0] rfl ?_
  refine l_B_read C b k bc bl bx a al ac ah an g gr ct lo ex wr lv9 rl ln cn sn xn fl rb st sz hl hc hs hz hb (fun h => absurd (h.symm.trans hrd) (by simp)) ?_ (fun y9 _ h => absurd (h.symm.trans hrd) (by simp)) _ 1 rfl (by omega) (by omega) rfl
  intro k9 h1k hk16 hksz hrd2
  obtain rfl : k9 = kk := by have := hrd2.symm.trans hrd; simpa using this
  refine g_aload_n C d_B_read_47 0 rfl rfl ?_
  refine g_get C (T := FB) (N := 8) 0 2 inB rfl rfl (by decide) tw_107 rfl rfl d_B_read_48 ?_
  refine g_iload_n C d_B_read_51 1 rfl rfl ?_
  refine g_callVv C (n := 1) (ws' := [(b, .inr (3, [.ref a, .ref k, .ref g, .ref bc, .ref bl, .ref bx, .int (nI (wr)), .long (lv9)])), (bc, .inl (cs.2.1, 48, .inr (.inl (fun j => lN (ct j))))), (bl, .inl (cs.1, 48, .inl (lo))), (bx, .inl (cs.1, 48, .inl (ex))), (a, .inr (1, [.int (nI (rl)), .ref al, .ref ac, .ref ah, .ref an, .int (nI (fl))])), (al, .inl (cs.1, 48, .inl (fun j => nI (ln j)))), (ac, .inl (cs.1, 48, .inl (fun j => nI (cn j)))), (ah, .inl (cs.1, 17, .inl (fun j => nI (sn j)))), (an, .inl (cs.1, 17, .inl (fun j => nI (xn j)))), (g, .inr (2, [.ref gr, .int (nI (((st) + (k9)) % 400)), .int (nI ((sz) - (k9)))])), (gr, .inl (cs.1, 400, .inl (fun j => nI (rb j))))]) (As := [.int (nI (k9))]) (rest := []) (m_G_drop l D cs g gr (rb) (st) (sz) (k9) hs hz hksz) tw_197 tw_198 tw_199 tw_3 tw_200 rfl 0 rfl rfl (by decide +kernel) rfl ⟨rfl, rfl, by decide, by decide, by decide⟩ rfl [9, 10] rfl rfl (by decide) (Nat.le_of_ble_eq_true rfl) rfl d_B_read_52 ?_
  refine g_bipush C (v := (-2)) d_B_read_55 rfl ?_
  exact g_iret C hr hlk rfl rfl d_B_read_57
set_option maxHeartbeats 4000000 in
set_option maxRecDepth 100000 in
theorem m_B_read_u (l : Launch) (D : va_G) (cs : ClassId × ClassId × ClassId × ClassId) (b k bc bl bx a al ac ah an g gr : Nat) (ct : Nat → Nat) (lo ex : Nat → Int32) (wr : Nat) (lv9 : Int64) (rl : Nat) (ln cn sn xn : Nat → Nat) (fl : Nat) (rb : Nat → Nat) (st sz : Nat) (hl : ∀ j, j < 48 → ln j ≤ 16) (hc : ∀ j, j < 48 → cn j < 2 ^ 31) (hs : st < 400) (hz : sz ≤ 400) (hb : ∀ j, j < 400 → rb j < 2) (hf : fl ≤ 65536) (y : Nat) (hrd : rdL ln cn rb st sz 16 1 = (2, y)) (hx : ∀ j, j < 48 → -32 ≤ (ex j).toInt ∧ (ex j).toInt ≤ 32) (hw : sz < ln y + (ex y).toInt.natAbs) : MG l y_B_read k_B_read { frames := 2, cells := 0, slots := 0, locals := 52 } D cs [.ref b] [(b, .inr (3, [.ref a, .ref k, .ref g, .ref bc, .ref bl, .ref bx, .int (nI (wr)), .long (lv9)])), (bc, .inl (cs.2.1, 48, .inr (.inl (fun j => lN (ct j))))), (bl, .inl (cs.1, 48, .inl (lo))), (bx, .inl (cs.1, 48, .inl (ex))), (a, .inr (1, [.int (nI (rl)), .ref al, .ref ac, .ref ah, .ref an, .int (nI (fl))])), (al, .inl (cs.1, 48, .inl (fun j => nI (ln j)))), (ac, .inl (cs.1, 48, .inl (fun j => nI (cn j)))), (ah, .inl (cs.1, 17, .inl (fun j => nI (sn j)))), (an, .inl (cs.1, 17, .inl (fun j => nI (xn j)))), (g, .inr (2, [.ref gr, .int (nI (st)), .int (nI (sz))])), (gr, .inl (cs.1, 400, .inl (fun j => nI (rb j))))] (QI D ((-1)) [(b, .inr (3, [.ref a, .ref k, .ref g, .ref bc, .ref bl, .ref bx, .int (nI (wr)), .long (lv9)])), (bc, .inl (cs.2.1, 48, .inr (.inl (fun j => lN (ct j))))), (bl, .inl (cs.1, 48, .inl (lo))), (bx, .inl (cs.1, 48, .inl (ex))), (a, .inr (1, [.int (nI (rl)), .ref al, .ref ac, .ref ah, .ref an, .int (nI (fl))])), (al, .inl (cs.1, 48, .inl (fun j => nI (ln j)))), (ac, .inl (cs.1, 48, .inl (fun j => nI (cn j)))), (ah, .inl (cs.1, 17, .inl (fun j => nI (sn j)))), (an, .inl (cs.1, 17, .inl (fun j => nI (xn j)))), (g, .inr (2, [.ref gr, .int (nI (st)), .int (nI (sz))])), (gr, .inl (cs.1, 400, .inl (fun j => nI (rb j))))]) := by
  refine MG.mk (own := RB) (by decide) rfl (Nat.le_of_ble_eq_true rfl) ?_
  intro p e s m below meth c A C hr hlk
  refine g_lv (lv' := [(0, .ref b)]) [0] rfl ?_
  refine g_aload_n C d_B_read_0 0 rfl rfl ?_
  refine g_callVv C (n := 0) (ws' := [(b, .inr (3, [.ref a, .ref k, .ref g, .ref bc, .ref bl, .ref bx, .int (nI (wr)), .long (lv9)])), (bc, .inl (cs.2.1, 48, .inr (.inl (fun j => lN (ct j))))), (bl, .inl (cs.1, 48, .inl (lo))), (bx, .inl (cs.1, 48, .inl (ex))), (a, .inr (1, [.int (nI (rl)), .ref al, .ref ac, .ref ah, .ref an, .int (nI (fl))])), (al, .inl (cs.1, 48, .inl (fun j => nI (ln j)))), (ac, .inl (cs.1, 48, .inl (fun j => nI (cn j)))), (ah, .inl (cs.1, 17, .inl (fun j => nI (sn j)))), (an, .inl (cs.1, 17, .inl (fun j => nI (xn j)))), (g, .inr (2, [.ref gr, .int (nI (st)), .int (nI (sz))])), (gr, .inl (cs.1, 400, .inl (fun j => nI (rb j))))]) (As := []) (rest := []) (m_B_needCodes l D cs b k bc bl bx a al ac ah an g gr (ct) (lo) (ex) (wr) (lv9) (rl) (ln) (cn) (sn) (xn) (fl) (rb) (st) (sz) (by omega)) tw_345 tw_347 ts_12 tw_1 tw_348 rfl 0 rfl rfl (by decide +kernel) rfl ⟨rfl, rfl, by decide, by decide, by decide⟩ rfl [0, 1, 2, 3, 4, 5, 6, 7, 8, 9, 10] rfl rfl (by decide) (Nat.le_of_ble_eq_true rfl) rfl d_B_read_1 ?_
  refine g_iconst C (v := nI 1) d_B_read_4 rfl ?_
  refine g_istore_n C (lv' := [(1, .int (nI (1))), (0, .ref b)]) d_B_read_5 rfl (by decide) rfl ?_
  refine g_lv (lv' := [(0, .ref b), (1, .int (nI (1)))]) [1, 0] rfl ?_
  refine l_B_read C b k bc bl bx a al ac ah an g gr ct lo ex wr lv9 rl ln cn sn xn fl rb st sz hl hc hs hz hb (fun h => absurd (h.symm.trans hrd) (by simp)) (fun k9 _ _ _ h => absurd (h.symm.trans hrd) (by simp)) ?_ _ 1 rfl (by omega) (by omega) rfl
  intro y9 hy hrd2
  obtain rfl : y9 = y := by have := hrd2.symm.trans hrd; simpa using this
  refine g_aload_n C d_B_read_71 0 rfl rfl ?_
  refine g_iload_n C d_B_read_72 1 rfl rfl ?_
  refine g_callVi C (n := 1) (ws' := [(b, .inr (3, [.ref a, .ref k, .ref g, .ref bc, .ref bl, .ref bx, .int (nI (wr)), .long (lv9)])), (bc, .inl (cs.2.1, 48, .inr (.inl (fun j => lN (ct j))))), (bl, .inl (cs.1, 48, .inl (lo))), (bx, .inl (cs.1, 48, .inl (ex))), (a, .inr (1, [.int (nI (rl)), .ref al, .ref ac, .ref ah, .ref an, .int (nI (fl))])), (al, .inl (cs.1, 48, .inl (fun j => nI (ln j)))), (ac, .inl (cs.1, 48, .inl (fun j => nI (cn j)))), (ah, .inl (cs.1, 17, .inl (fun j => nI (sn j)))), (an, .inl (cs.1, 17, .inl (fun j => nI (xn j)))), (g, .inr (2, [.ref gr, .int (nI (st)), .int (nI (sz))])), (gr, .inl (cs.1, 400, .inl (fun j => nI (rb j))))]) (As := [.int (nI (y9))]) (rest := []) (m_B_takeSymbol_w l D cs b k bc bl bx a al ac ah an g gr (ct) (lo) (ex) (wr) (lv9) (rl) (ln) (cn) (sn) (xn) (fl) (rb) (st) (sz) (y9) hy hl hx hs hz hb hw) tw_415 tw_417 ts_14 tw_1 tw_418 rfl 0 rfl rfl (by decide +kernel) rfl ⟨rfl, rfl, by decide, by decide, by decide⟩ rfl [0, 1, 2, 3, 4, 5, 6, 7, 8, 9, 10] rfl rfl (by decide) (Nat.le_of_ble_eq_true rfl) rfl d_B_read_73 ?_
  exact g_iret C hr hlk rfl rfl d_B_read_76
set_option maxHeartbeats 4000000 in
set_option maxRecDepth 100000 in
theorem m_B_read_t (l : Launch) (D : va_G) (cs : ClassId × ClassId × ClassId × ClassId) (b k bc bl bx a al ac ah an g gr : Nat) (ct : Nat → Nat) (lo ex : Nat → Int32) (wr : Nat) (lv9 : Int64) (rl : Nat) (ln cn sn xn : Nat → Nat) (fl : Nat) (rb : Nat → Nat) (st sz : Nat) (hl : ∀ j, j < 48 → ln j ≤ 16) (hc : ∀ j, j < 48 → cn j < 2 ^ 31) (hs : st < 400) (hz : sz ≤ 400) (hb : ∀ j, j < 400 → rb j < 2) (hf : fl ≤ 65536) (y : Nat) (hrd : rdL ln cn rb st sz 16 1 = (2, y)) (hx : ∀ j, j < 48 → -32 ≤ (ex j).toInt ∧ (ex j).toInt ≤ 32) (hw : ln y + (ex y).toInt.natAbs ≤ sz) : MG l y_B_read k_B_read { frames := 2, cells := 0, slots := 0, locals := 52 } D cs [.ref b] [(b, .inr (3, [.ref a, .ref k, .ref g, .ref bc, .ref bl, .ref bx, .int (nI (wr)), .long (lv9)])), (bc, .inl (cs.2.1, 48, .inr (.inl (fun j => lN (ct j))))), (bl, .inl (cs.1, 48, .inl (lo))), (bx, .inl (cs.1, 48, .inl (ex))), (a, .inr (1, [.int (nI (rl)), .ref al, .ref ac, .ref ah, .ref an, .int (nI (fl))])), (al, .inl (cs.1, 48, .inl (fun j => nI (ln j)))), (ac, .inl (cs.1, 48, .inl (fun j => nI (cn j)))), (ah, .inl (cs.1, 17, .inl (fun j => nI (sn j)))), (an, .inl (cs.1, 17, .inl (fun j => nI (xn j)))), (g, .inr (2, [.ref gr, .int (nI (st)), .int (nI (sz))])), (gr, .inl (cs.1, 400, .inl (fun j => nI (rb j))))] (QI D (nI (y)) [(b, .inr (3, [.ref a, .ref k, .ref g, .ref bc, .ref bl, .ref bx, .int (nI (1)), .long ((if (ex y) < 0 then (lo y).toInt64 - lN (nmb rb st (ln y) (ex y).toInt.natAbs) else (lo y).toInt64 + lN (nmb rb st (ln y) (ex y).toInt.natAbs)))])), (bc, .inl (cs.2.1, 48, .inr (.inl (fun j => lN (ct j))))), (bl, .inl (cs.1, 48, .inl (lo))), (bx, .inl (cs.1, 48, .inl (ex))), (a, .inr (1, [.int (nI (rl)), .ref al, .ref ac, .ref ah, .ref an, .int (nI (fl))])), (al, .inl (cs.1, 48, .inl (fun j => nI (ln j)))), (ac, .inl (cs.1, 48, .inl (fun j => nI (cn j)))), (ah, .inl (cs.1, 17, .inl (fun j => nI (sn j)))), (an, .inl (cs.1, 17, .inl (fun j => nI (xn j)))), (g, .inr (2, [.ref gr, .int (nI (((st) + (ln y + (ex y).toInt.natAbs)) % 400)), .int (nI ((sz) - (ln y + (ex y).toInt.natAbs)))])), (gr, .inl (cs.1, 400, .inl (fun j => nI (rb j))))]) := by
  refine MG.mk (own := RB) (by decide) rfl (Nat.le_of_ble_eq_true rfl) ?_
  intro p e s m below meth c A C hr hlk
  refine g_lv (lv' := [(0, .ref b)]) [0] rfl ?_
  refine g_aload_n C d_B_read_0 0 rfl rfl ?_
  refine g_callVv C (n := 0) (ws' := [(b, .inr (3, [.ref a, .ref k, .ref g, .ref bc, .ref bl, .ref bx, .int (nI (wr)), .long (lv9)])), (bc, .inl (cs.2.1, 48, .inr (.inl (fun j => lN (ct j))))), (bl, .inl (cs.1, 48, .inl (lo))), (bx, .inl (cs.1, 48, .inl (ex))), (a, .inr (1, [.int (nI (rl)), .ref al, .ref ac, .ref ah, .ref an, .int (nI (fl))])), (al, .inl (cs.1, 48, .inl (fun j => nI (ln j)))), (ac, .inl (cs.1, 48, .inl (fun j => nI (cn j)))), (ah, .inl (cs.1, 17, .inl (fun j => nI (sn j)))), (an, .inl (cs.1, 17, .inl (fun j => nI (xn j)))), (g, .inr (2, [.ref gr, .int (nI (st)), .int (nI (sz))])), (gr, .inl (cs.1, 400, .inl (fun j => nI (rb j))))]) (As := []) (rest := []) (m_B_needCodes l D cs b k bc bl bx a al ac ah an g gr (ct) (lo) (ex) (wr) (lv9) (rl) (ln) (cn) (sn) (xn) (fl) (rb) (st) (sz) (by omega)) tw_345 tw_347 ts_12 tw_1 tw_348 rfl 0 rfl rfl (by decide +kernel) rfl ⟨rfl, rfl, by decide, by decide, by decide⟩ rfl [0, 1, 2, 3, 4, 5, 6, 7, 8, 9, 10] rfl rfl (by decide) (Nat.le_of_ble_eq_true rfl) rfl d_B_read_1 ?_
  refine g_iconst C (v := nI 1) d_B_read_4 rfl ?_
  refine g_istore_n C (lv' := [(1, .int (nI (1))), (0, .ref b)]) d_B_read_5 rfl (by decide) rfl ?_
  refine g_lv (lv' := [(0, .ref b), (1, .int (nI (1)))]) [1, 0] rfl ?_
  refine l_B_read C b k bc bl bx a al ac ah an g gr ct lo ex wr lv9 rl ln cn sn xn fl rb st sz hl hc hs hz hb (fun h => absurd (h.symm.trans hrd) (by simp)) (fun k9 _ _ _ h => absurd (h.symm.trans hrd) (by simp)) ?_ _ 1 rfl (by omega) (by omega) rfl
  intro y9 hy hrd2
  obtain rfl : y9 = y := by have := hrd2.symm.trans hrd; simpa using this
  refine g_aload_n C d_B_read_71 0 rfl rfl ?_
  refine g_iload_n C d_B_read_72 1 rfl rfl ?_
  refine g_callVi C (n := 1) (ws' := [(b, .inr (3, [.ref a, .ref k, .ref g, .ref bc, .ref bl, .ref bx, .int (nI (1)), .long ((if (ex y9) < 0 then (lo y9).toInt64 - lN (nmb rb st (ln y9) (ex y9).toInt.natAbs) else (lo y9).toInt64 + lN (nmb rb st (ln y9) (ex y9).toInt.natAbs)))])), (bc, .inl (cs.2.1, 48, .inr (.inl (fun j => lN (ct j))))), (bl, .inl (cs.1, 48, .inl (lo))), (bx, .inl (cs.1, 48, .inl (ex))), (a, .inr (1, [.int (nI (rl)), .ref al, .ref ac, .ref ah, .ref an, .int (nI (fl))])), (al, .inl (cs.1, 48, .inl (fun j => nI (ln j)))), (ac, .inl (cs.1, 48, .inl (fun j => nI (cn j)))), (ah, .inl (cs.1, 17, .inl (fun j => nI (sn j)))), (an, .inl (cs.1, 17, .inl (fun j => nI (xn j)))), (g, .inr (2, [.ref gr, .int (nI (((st) + (ln y9 + (ex y9).toInt.natAbs)) % 400)), .int (nI ((sz) - (ln y9 + (ex y9).toInt.natAbs)))])), (gr, .inl (cs.1, 400, .inl (fun j => nI (rb j))))]) (As := [.int (nI (y9))]) (rest := []) (m_B_takeSymbol_t l D cs b k bc bl bx a al ac ah an g gr (ct) (lo) (ex) (wr) (lv9) (rl) (ln) (cn) (sn) (xn) (fl) (rb) (st) (sz) (y9) hy hl hx hs hz hb hw) tw_415 tw_417 ts_14 tw_1 tw_418 rfl 0 rfl rfl (by decide +kernel) rfl ⟨rfl, rfl, by decide, by decide, by decide⟩ rfl [0, 1, 2, 3, 4, 5, 6, 7, 8, 9, 10] rfl rfl (by decide) (Nat.le_of_ble_eq_true rfl) rfl d_B_read_73 ?_
  exact g_iret C hr hlk rfl rfl d_B_read_76
end
section
theorem dec_raw (a : Nat) : nI a + Int32.ofInt (-1) = nI a - 1 := by
  rw [Int32.sub_eq_add_neg]; rfl
theorem nI_0m1 : nI 0 - 1 = (-1 : Int32) := by decide
/-- a symbol put behind those of no greater count, the places from 't' on moved up -/
def ins (ct : Nat → Nat) (y : Nat) : Nat → (Nat → Nat) → (Nat → Nat)
  | 0, od => updN od 0 y
  | t + 1, od => if ct y < ct (od t) then ins ct y t (updN od (t + 1) (od t)) else updN od (t + 1) y
/-- the symbols with a count below k, from the greatest on, put in -/
def srt (ct : Nat → Nat) : Nat → (Nat → Nat) → Nat → (Nat → Nat) × Nat
  | 0, od, cd => (od, cd)
  | k + 1, od, cd => if 0 < ct k then srt ct k (ins ct k cd od) (cd + 1) else srt ct k od cd
theorem ins_lt {ct : Nat → Nat} {y : Nat} (hy : y < 48) : ∀ (t : Nat) (od : Nat → Nat), (∀ j, j < t → od j < 48) → ∀ N, t ≤ N → (∀ j, t < j → j ≤ N → od j < 48) → ∀ j, j ≤ N → ins ct y t od j < 48
  | 0, od, h, N, hN, h2, j, hj => by
    show updN od 0 y j < 48
    unfold updN; split
    · exact hy
    · exact h2 j (by omega) hj
  | t + 1, od, h, N, hN, h2, j, hj => by
    unfold ins
    split
    · refine ins_lt hy t _ (fun i hi => ?_) N (by omega) (fun i h1 h3 => ?_) j hj
      · rw [updN_n (by omega)]; exact h i (by omega)
      · unfold updN; split
        · exact h t (by omega)
        · exact h2 i (by omega) h3
    · unfold updN; split
      · exact hy
      · rcases Nat.lt_or_ge j (t + 1) with q | q
        · exact h j q
        · exact h2 j (by omega) hj

set_option maxHeartbeats 4000000 in
set_option maxRecDepth 100000 in
theorem l_K_ins {p : Program} {l : Launch} {e : Env} {s : State} {m : MethodId} {args : Array Value} {below : List Frame} {meth : Method} {c : Code} {Q : State → Prop} {A : Nat → Prop} {D : va_G} {cs : ClassId × ClassId × ClassId × ClassId} (C : CX p s m args c c_K_insert 4 RK D cs A) (k ko kp kr ks bc rs : Nat) (ct od : Nat → Nat) (cd : Nat) (y : Nat) (hy : y < 48) (hct : ∀ j, j < 48 → ct j ≤ 1000000000) (hcd : cd < 48)
    (K : ∀ (t : Nat) (o2 : Nat → Nat), t ≤ cd → updN o2 t y = ins ct y cd od → GO p l e { frames := 0, cells := 0, slots := 0, locals := 0 } s m args below meth c 0 0 Q A D 4 46 [(0, .ref k), (1, .int (nI (y))), (3, .int (nI (t)))] [] [(k, .inr (0, [.ref ko, .ref kp, .ref kr, .ref ks, .int (nI (rs)), .int (nI (cd))])), (ko, .inl (cs.1, 48, .inl (fun j => nI (o2 j)))), (bc, .inl (cs.2.1, 48, .inr (.inl (fun j => lN (ct j)))))])
    : ∀ (n : Nat) (t : Nat) (o2 : Nat → Nat), t = n → (t ≤ cd) → (∀ j, j < t → o2 j < 48) → (ins ct y t o2 = ins ct y cd od) → GO p l e { frames := 0, cells := 0, slots := 0, locals := 0 } s m args below meth c 0 0 Q A D 4 5 [(0, .ref k), (1, .int (nI (y))), (2, .ref bc), (3, .int (nI (t)))] [] [(k, .inr (0, [.ref ko, .ref kp, .ref kr, .ref ks, .int (nI (rs)), .int (nI (cd))])), (ko, .inl (cs.1, 48, .inl (fun j => nI (o2 j)))), (bc, .inl (cs.2.1, 48, .inr (.inl (fun j => lN (ct j)))))] := by
  intro n
  induction n using Nat.strongRecOn with
  | _ n ih =>
  intro t  o2  hn ht ho he
  refine g_iload_n C d_K_insert_5 3 rfl rfl ?_
  refine n_if_le C 46 d_K_insert_6 (by decide) (by omega) (fun h6 => ?_) (fun h6 => ?_)
  · refine g_lv (lv' := [(0, .ref k), (1, .int (nI (y))), (3, .int (nI (t)))]) [0, 1, 3] rfl ?_
    exact K t o2 ht (by
      rw [← he]
      first
        | (rw [show t = 0 by omega]; rfl)
        | (obtain ⟨t9, rfl⟩ : ∃ t9, t = t9 + 1 := ⟨t - 1, by omega⟩
           simp only [Nat.add_sub_cancel] at h22
           rw [ins, if_neg (by omega)]))
  · refine g_aload_n C d_K_insert_9 2 rfl rfl ?_
    refine g_aload_n C d_K_insert_10 0 rfl rfl ?_
    refine g_get C (T := FK) (N := 6) 0 0 inK rfl rfl (by decide) tw_29 rfl rfl d_K_insert_11 ?_
    refine g_iload_n C d_K_insert_14 3 rfl rfl ?_
    refine g_iconst C (v := nI 1) d_K_insert_15 rfl ?_
    refine g_isub C (v := nI ((t) - (1))) d_K_insert_16 (pk_sub (by omega)) ?_
    refine g_iald C 1 rfl (by omega) (by decide) d_K_insert_17 ?_
    refine g_lald C 2 rfl (ho _ (by omega)) (by decide) d_K_insert_18 ?_
    refine g_aload_n C d_K_insert_19 2 rfl rfl ?_
    refine g_iload_n C d_K_insert_20 1 rfl rfl ?_
    refine g_lald C 2 rfl (by omega) (by decide) d_K_insert_21 ?_
    refine n_lcmp_le C 46 d_K_insert_22 d_K_insert_23 (by decide) (by have := hct _ (ho (t - 1) (by omega)); omega) (by have := hct y hy; omega) (fun h22 => ?_) (fun h22 => ?_)
    · refine g_lv (lv' := [(0, .ref k), (1, .int (nI (y))), (3, .int (nI (t)))]) [0, 1, 3] rfl ?_
      exact K t o2 ht (by
      rw [← he]
      first
        | (rw [show t = 0 by omega]; rfl)
        | (obtain ⟨t9, rfl⟩ : ∃ t9, t = t9 + 1 := ⟨t - 1, by omega⟩
           simp only [Nat.add_sub_cancel] at h22
           rw [ins, if_neg (by omega)]))
    · refine g_aload_n C d_K_insert_26 0 rfl rfl ?_
      refine g_get C (T := FK) (N := 6) 0 0 inK rfl rfl (by decide) tw_29 rfl rfl d_K_insert_27 ?_
      refine g_iload_n C d_K_insert_30 3 rfl rfl ?_
      refine g_aload_n C d_K_insert_31 0 rfl rfl ?_
      refine g_get C (T := FK) (N := 6) 0 0 inK rfl rfl (by decide) tw_29 rfl rfl d_K_insert_32 ?_
      refine g_iload_n C d_K_insert_35 3 rfl rfl ?_
      refine g_iconst C (v := nI 1) d_K_insert_36 rfl ?_
      refine g_isub C (v := nI ((t) - (1))) d_K_insert_37 (pk_sub (by omega)) ?_
      refine g_iald C 1 rfl (by omega) (by decide) d_K_insert_38 ?_
      refine n_iast C (ws' := [(k, .inr (0, [.ref ko, .ref kp, .ref kr, .ref ks, .int (nI (rs)), .int (nI (cd))])), (ko, .inl (cs.1, 48, .inl (fun j => nI ((updN (o2) (t) (o2 ((t) - (1)))) j)))), (bc, .inl (cs.2.1, 48, .inr (.inl (fun j => lN (ct j)))))]) 1 rfl (by omega) (by decide) rfl d_K_insert_39 ?_
      refine g_iinc C (lv' := [(3, .int (nI (t - 1))), (0, .ref k), (1, .int (nI (y))), (2, .ref bc)]) (k := 3) d_K_insert_40 rfl (nI_dec (by omega)) (by decide) rfl ?_
      refine g_goto C 5 d_K_insert_43 (by decide) ?_
      refine g_lv (lv' := [(0, .ref k), (1, .int (nI (y))), (2, .ref bc), (3, .int (nI (t - 1)))]) [1, 2, 3, 0] rfl ?_
      exact ih (t - 1) (by omega) (t - 1) _ rfl (by omega) (fun j hj => by rw [updN_n (by omega)]; exact ho j (by omega)) (by
      rw [← he]
      obtain ⟨t9, rfl⟩ : ∃ t9, t = t9 + 1 := ⟨t - 1, by omega⟩
      simp only [Nat.add_sub_cancel] at h22 ⊢
      rw [ins, if_pos h22])
set_option maxHeartbeats 4000000 in
set_option maxRecDepth 100000 in
theorem m_K_insert (l : Launch) (D : va_G) (cs : ClassId × ClassId × ClassId × ClassId) (k ko kp kr ks bc rs : Nat) (ct od : Nat → Nat) (cd : Nat) (y : Nat) (hy : y < 48) (hct : ∀ j, j < 48 → ct j ≤ 1000000000) (hcd : cd < 48) (ho : ∀ j, j < cd → od j < 48) : MG l y_K_insert k_K_insert { frames := 0, cells := 0, slots := 0, locals := 0 } D cs [.ref k, .int (nI (y)), .ref bc] [(k, .inr (0, [.ref ko, .ref kp, .ref kr, .ref ks, .int (nI (rs)), .int (nI (cd))])), (ko, .inl (cs.1, 48, .inl (fun j => nI (od j)))), (bc, .inl (cs.2.1, 48, .inr (.inl (fun j => lN (ct j)))))] (QV D [(k, .inr (0, [.ref ko, .ref kp, .ref kr, .ref ks, .int (nI (rs)), .int (nI (cd + 1))])), (ko, .inl (cs.1, 48, .inl (fun j => nI ((ins ct y cd od) j)))), (bc, .inl (cs.2.1, 48, .inr (.inl (fun j => lN (ct j)))))]) := by
  refine MG.mk (own := RK) (by decide) rfl (Nat.le_of_ble_eq_true rfl) ?_
  intro p e s m below meth c A C hr hlk
  refine g_lv (lv' := [(0, .ref k), (1, .int (nI (y))), (2, .ref bc)]) [0, 1, 2] rfl ?_
  refine g_aload_n C d_K_insert_0 0 rfl rfl ?_
  refine g_get C (T := FK) (N := 6) 0 5 inK rfl rfl (by decide) tw_34 rfl rfl d_K_insert_1 ?_
  refine g_istore_n C (lv' := [(3, .int (nI (cd))), (0, .ref k), (1, .int (nI (y))), (2, .ref bc)]) d_K_insert_4 rfl (by decide) rfl ?_
  refine g_lv (lv' := [(0, .ref k), (1, .int (nI (y))), (2, .ref bc), (3, .int (nI (cd)))]) [1, 2, 3, 0] rfl ?_
  refine l_K_ins C k ko kp kr ks bc rs ct od cd y hy hct hcd ?_ _ cd od rfl (Nat.le_refl _) ho rfl
  intro t o2 ht he9
  refine g_aload_n C d_K_insert_46 0 rfl rfl ?_
  refine g_get C (T := FK) (N := 6) 0 0 inK rfl rfl (by decide) tw_29 rfl rfl d_K_insert_47 ?_
  refine g_iload_n C d_K_insert_50 2 rfl rfl ?_
  refine g_iload_n C d_K_insert_51 1 rfl rfl ?_
  refine n_iast C (ws' := [(k, .inr (0, [.ref ko, .ref kp, .ref kr, .ref ks, .int (nI (rs)), .int (nI (cd))])), (ko, .inl (cs.1, 48, .inl (fun j => nI ((updN (o2) (t) (y)) j)))), (bc, .inl (cs.2.1, 48, .inr (.inl (fun j => lN (ct j)))))]) 1 rfl (by omega) (by decide) rfl d_K_insert_52 ?_
  refine g_ws (ws' := [(k, .inr (0, [.ref ko, .ref kp, .ref kr, .ref ks, .int (nI (rs)), .int (nI (cd))])), (ko, .inl (cs.1, 48, .inl (fun j => nI ((ins ct y cd od) j)))), (bc, .inl (cs.2.1, 48, .inr (.inl (fun j => lN (ct j)))))]) (by rw [he9]) ?_
  refine g_aload_n C d_K_insert_53 0 rfl rfl ?_
  refine g_dup C d_K_insert_54 rfl ?_
  refine g_get C (T := FK) (N := 6) 0 5 inK rfl rfl (by decide) tw_34 rfl rfl d_K_insert_55 ?_
  refine g_iconst C (v := nI 1) d_K_insert_58 rfl ?_
  refine g_iadd C (v := nI (cd + 1)) d_K_insert_59 (nI_add _ _) ?_
  refine g_put C (T := FK) (N := 6) (ws' := [(k, .inr (0, [.ref ko, .ref kp, .ref kr, .ref ks, .int (nI (rs)), .int (nI (cd + 1))])), (ko, .inl (cs.1, 48, .inl (fun j => nI ((ins ct y cd od) j)))), (bc, .inl (cs.2.1, 48, .inr (.inl (fun j => lN (ct j)))))]) 0 5 inK tyK okK nmK rfl rfl (by decide) tw_34 rfl rfl rfl rfl rfl (Nat.le_of_ble_eq_true rfl) rfl d_K_insert_60 ?_
  exact g_vret C hr hlk rfl d_K_insert_63
set_option maxHeartbeats 4000000 in
set_option maxRecDepth 100000 in
theorem l_K_srt {p : Program} {l : Launch} {e : Env} {s : State} {m : MethodId} {args : Array Value} {below : List Frame} {meth : Method} {c : Code} {A : Nat → Prop} {D : va_G} {cs : ClassId × ClassId × ClassId × ClassId} (C : CX p s m args c c_K_sortSymbols 3 RK D cs A) (k ko kp kr ks bc rs : Nat) (ct od : Nat → Nat) (cd : Nat) (hct : ∀ j, j < 48 → ct j ≤ 1000000000) (hr : meth.sig.returnType = some .int) (hlk : meth.locks = false) : ∀ (n : Nat) (t : Nat) (o2 : Nat → Nat) (c2 : Nat), t = n → t ≤ 48 → c2 + t ≤ 48 → (∀ j, j < c2 → o2 j < 48) → srt ct t o2 c2 = srt ct 48 od 0 → GO p l e { frames := 1, cells := 0, slots := 0, locals := 23 } s m args below meth c 0 0 (MQ below (QI D (nI (srt ct 48 od 0).2) [(k, .inr (0, [.ref ko, .ref kp, .ref kr, .ref ks, .int (nI (rs)), .int (nI ((srt ct 48 od 0).2))])), (ko, .inl (cs.1, 48, .inl (fun j => nI ((srt ct 48 od 0).1 j)))), (bc, .inl (cs.2.1, 48, .inr (.inl (fun j => lN (ct j)))))] A) args s 0 0 A) A D 3 8 [(0, .ref k), (1, .ref bc), (2, .int (nI t - 1))] [] [(k, .inr (0, [.ref ko, .ref kp, .ref kr, .ref ks, .int (nI (rs)), .int (nI (c2))])), (ko, .inl (cs.1, 48, .inl (fun j => nI (o2 j)))), (bc, .inl (cs.2.1, 48, .inr (.inl (fun j => lN (ct j)))))] := by
  intro n
  induction n with
  | zero =>
    intro t o2 c2 hn ht hc ho he
    subst hn
    rw [nI_0m1]
    refine g_iload_n C d_K_sortSymbols_8 2 rfl rfl ?_
    refine g_if_lt C 32 d_K_sortSymbols_9 (by decide) (fun _ => ?_) (fun h => absurd (by decide) h)
    refine g_aload_n C d_K_sortSymbols_32 0 rfl rfl ?_
    refine g_get C (T := FK) (N := 6) 0 5 inK rfl rfl (by decide) tw_34 rfl rfl d_K_sortSymbols_33 ?_
    exact g_iret C hr hlk (by rw [← he]; rfl) (by rw [← he]; rfl) d_K_sortSymbols_36
  | succ t ih =>
    intro t9 o2 c2 hn ht hc ho he
    subst hn
    rw [nI_pred t]
    refine g_iload_n C d_K_sortSymbols_8 2 rfl rfl ?_
    refine n_if_lt C 32 d_K_sortSymbols_9 (by decide) (by omega) ?_
    refine g_aload_n C d_K_sortSymbols_12 1 rfl rfl ?_
    refine g_iload_n C d_K_sortSymbols_13 2 rfl rfl ?_
    refine g_lald C 2 rfl (by omega) (by decide) d_K_sortSymbols_14 ?_
    refine g_lconst C (v := lN 0) d_K_sortSymbols_15 rfl ?_
    refine n_lcmp_le C 26 d_K_sortSymbols_16 d_K_sortSymbols_17 (by decide) (by have := hct t (by omega); omega) (by omega) (fun h16 => ?_) (fun h16 => ?_)
    · refine g_iinc C (lv' := [(2, .int (nI (t) - 1)), (0, .ref k), (1, .ref bc)]) (k := 2) d_K_sortSymbols_26 rfl (dec_raw _) (by decide) rfl ?_
      refine g_goto C 8 d_K_sortSymbols_29 (by decide) ?_
      refine g_lv (lv' := [(0, .ref k), (1, .ref bc), (2, .int (nI (t) - 1))]) [1, 2, 0] rfl ?_
      exact ih t _ _ rfl (by omega) (by omega) ho (by rw [← he, srt, if_neg (by omega)])
    · refine g_aload_n C d_K_sortSymbols_20 0 rfl rfl ?_
      refine g_iload_n C d_K_sortSymbols_21 2 rfl rfl ?_
      refine g_aload_n C d_K_sortSymbols_22 1 rfl rfl ?_
      refine g_callVv C (n := 2) (ws' := [(k, .inr (0, [.ref ko, .ref kp, .ref kr, .ref ks, .int (nI (rs)), .int (nI (c2 + 1))])), (ko, .inl (cs.1, 48, .inl (fun j => nI ((ins ct (t) (c2) o2) j)))), (bc, .inl (cs.2.1, 48, .inr (.inl (fun j => lN (ct j)))))]) (As := [.int (nI (t)), .ref bc]) (rest := []) (m_K_insert l D cs k ko kp kr ks bc (rs) (ct) (o2) (c2) (t) (by omega) hct (by omega) ho) tw_313 tw_315 ts_9 tw_2 tw_316 rfl 0 rfl rfl (by decide +kernel) rfl ⟨rfl, rfl, by decide, by decide, by decide⟩ rfl [0, 1, 2] rfl rfl (by decide) (Nat.le_of_ble_eq_true rfl) rfl d_K_sortSymbols_23 ?_
      refine g_iinc C (lv' := [(2, .int (nI (t) - 1)), (0, .ref k), (1, .ref bc)]) (k := 2) d_K_sortSymbols_26 rfl (dec_raw _) (by decide) rfl ?_
      refine g_goto C 8 d_K_sortSymbols_29 (by decide) ?_
      refine g_lv (lv' := [(0, .ref k), (1, .ref bc), (2, .int (nI (t) - 1))]) [1, 2, 0] rfl ?_
      exact ih t _ _ rfl (by omega) (by omega) (fun j hj => ins_lt (by omega) c2 o2 ho c2 (Nat.le_refl _) (fun i h1 h2 => absurd h1 (by omega)) j (by omega)) (by rw [← he, srt, if_pos (by omega)])
set_option maxHeartbeats 4000000 in
set_option maxRecDepth 100000 in
theorem m_K_sortSymbols (l : Launch) (D : va_G) (cs : ClassId × ClassId × ClassId × ClassId) (k ko kp kr ks bc rs : Nat) (ct od : Nat → Nat) (cd : Nat) (hct : ∀ j, j < 48 → ct j ≤ 1000000000) : MG l y_K_sortSymbols k_K_sortSymbols { frames := 1, cells := 0, slots := 0, locals := 23 } D cs [.ref k, .ref bc] [(k, .inr (0, [.ref ko, .ref kp, .ref kr, .ref ks, .int (nI (rs)), .int (nI (cd))])), (ko, .inl (cs.1, 48, .inl (fun j => nI (od j)))), (bc, .inl (cs.2.1, 48, .inr (.inl (fun j => lN (ct j)))))] (QI D (nI ((srt ct 48 od 0).2)) [(k, .inr (0, [.ref ko, .ref kp, .ref kr, .ref ks, .int (nI (rs)), .int (nI ((srt ct 48 od 0).2))])), (ko, .inl (cs.1, 48, .inl (fun j => nI ((srt ct 48 od 0).1 j)))), (bc, .inl (cs.2.1, 48, .inr (.inl (fun j => lN (ct j)))))]) := by
  refine MG.mk (own := RK) (by decide) rfl (Nat.le_of_ble_eq_true rfl) ?_
  intro p e s m below meth c A C hr hlk
  refine g_lv (lv' := [(0, .ref k), (1, .ref bc)]) [0, 1] rfl ?_
  refine g_aload_n C d_K_sortSymbols_0 0 rfl rfl ?_
  refine g_iconst C (v := nI 0) d_K_sortSymbols_1 rfl ?_
  refine g_put C (T := FK) (N := 6) (ws' := [(k, .inr (0, [.ref ko, .ref kp, .ref kr, .ref ks, .int (nI (rs)), .int (nI (0))])), (ko, .inl (cs.1, 48, .inl (fun j => nI (od j)))), (bc, .inl (cs.2.1, 48, .inr (.inl (fun j => lN (ct j)))))]) 0 5 inK tyK okK nmK rfl rfl (by decide) tw_34 rfl rfl rfl rfl rfl (Nat.le_of_ble_eq_true rfl) rfl d_K_sortSymbols_2 ?_
  refine g_bipush C (v := nI 47) d_K_sortSymbols_5 rfl ?_
  refine g_istore_n C (lv' := [(2, .int (nI (47))), (0, .ref k), (1, .ref bc)]) d_K_sortSymbols_7 rfl (by decide) rfl ?_
  refine g_lv (lv' := [(0, .ref k), (1, .ref bc), (2, .int (nI (47)))]) [1, 2, 0] rfl ?_
  exact l_K_srt C k ko kp kr ks bc rs ct od cd hct hr hlk 48 48 od 0 rfl (by omega) (by omega) (fun j hj => absurd hj (by omega)) rfl
end
section
/-- the rows of a grid of 16 rows of 48 numbers -/
def rowsW (cI : ClassId) (ra : Nat → Nat) (pl : Nat → Nat → Nat) : va_W := (List.range 16).map (fun i => (ra i, .inl (cI, 48, .inl (fun j => nI (pl i j)))))
def updG (pl : Nat → Nat → Nat) (i j v : Nat) : Nat → Nat → Nat := fun r => if r = i then updN (pl i) j v else pl r
theorem rows_at {cI : ClassId} {ra : Nat → Nat} {pl : Nat → Nat → Nat} {X : va_W} {i : Nat} (h : i < 16) : (X ++ rowsW cI ra pl)[X.length + i]? = some (ra i, .inl (cI, 48, .inl (fun j => nI (pl i j)))) := by
  rw [List.getElem?_append_right (by omega)]
  simp [rowsW, h]
theorem rows_set {cI : ClassId} {ra : Nat → Nat} {pl : Nat → Nat → Nat} {X : va_W} {i j v : Nat} (h : i < 16) : (X ++ rowsW cI ra pl).set (X.length + i) (ra i, .inl (cI, 48, .inl (fun q => nI (updN (pl i) j v q)))) = X ++ rowsW cI ra (updG pl i j v) := by
  apply List.ext_getElem?
  intro k
  by_cases hk : k = X.length + i
  · subst hk
    rw [List.getElem?_set_self (by simp [rowsW]; omega), rows_at h]
    simp [updG]
  · rw [List.getElem?_set_ne (Ne.symm hk)]
    by_cases hl : k < X.length
    · rw [List.getElem?_append_left hl, List.getElem?_append_left hl]
    · obtain ⟨q, rfl⟩ : ∃ q, k = X.length + q := ⟨k - X.length, by omega⟩
      have hq : q ≠ i := fun e => hk (by rw [e])
      by_cases h16 : q < 16
      · rw [rows_at h16, rows_at h16]
        simp [updG, hq]
      · rw [List.getElem?_append_right (by omega), List.getElem?_append_right (by omega)]
        have e9 : (List.range 16)[q]? = none := List.getElem?_eq_none (by simp; omega)
        simp [rowsW, e9]
section GR7
variable {p : Program} {l : Launch} {e : Env} {R : Room} {s : State} {m : MethodId} {args : Array Value} {below : List Frame} {meth : Method} {c : Code} {cells slots : Nat} {Q : State → Prop} {A : Nat → Prop} {D : va_G} {nL : Nat} {cc : ByteArray} {own : String} {cs : ClassId × ClassId × ClassId × ClassId}
variable {pc : Nat} {lv lv' : List (Nat × Value)} {st : List Value} {ws ws' : va_W}

theorem g_aald (C : CX p s m args c cc nL own D cs A) {a i : Nat} {ra : Nat → Nat} (q0 : Nat) (ha : ws[q0]? = some (a, .inl (cs.2.2.2, 16, .inr (.inr (.inr (.inr (fun i => some (ra i)))))))) (hi : i < 16) (d : decode cc pc = .ok (.aaload, 1)) (g : GO p l e R s m args below meth c cells slots Q A D nL (pc + 1) lv (.ref (ra i) :: st) ws) : GO p l e R s m args below meth c cells slots Q A D nL pc lv (.int (nI i) :: .ref a :: st) ws := by
  obtain ⟨⟨hx, hb, hml, hown, ht⟩, hK, hA⟩ := C
  intro H locs ls hP hD hS hl
  have hin : vp_in (nI i) 16 := vp_in_nI hi (by omega)
  have hlt : (nI i).toNatClampNeg < 16 := Nat.not_le.mp fun q => hin (Or.inr q)
  have hg := g H locs ls hP hD hS hl
  refine W.aald (v := .ref (ra i)) (ty := .array .int) hx hb (hP q0 _ ha) ((hK.2 3 _ rfl).1 16 (fun j => va_rf (some (ra j)))) rfl (fun q => by cases q) (by show ¬ (nI i < 0 ∨ (arrV _ _ _).slots.size ≤ _); rw [arrV_size]; exact hin) (by show (arrV _ _ _).slots[_]? = _; rw [arrV_read _ _ hlt, nI_clamp (by omega)]; rfl) rfl rfl d hg
theorem g_rald (C : CX p s m args c cc nL own D cs A) {X : va_W} {i j : Nat} {ra : Nat → Nat} {pl : Nat → Nat → Nat} (hX : ws = X ++ rowsW cs.1 ra pl) (hi : i < 16) (hj : j < 48) (d : decode cc pc = .ok (.iaload, 1)) (g : GO p l e R s m args below meth c cells slots Q A D nL (pc + 1) lv (.int (nI (pl i j)) :: st) ws) : GO p l e R s m args below meth c cells slots Q A D nL pc lv (.int (nI j) :: .ref (ra i) :: st) ws := by
  subst hX
  exact g_iald C (f := fun j => nI (pl i j)) (X.length + i) (rows_at hi) hj (by omega) d g
theorem g_rast (C : CX p s m args c cc nL own D cs A) {X : va_W} {i j v : Nat} {ra : Nat → Nat} {pl : Nat → Nat → Nat} (hX : ws = X ++ rowsW cs.1 ra pl) (hi : i < 16) (hj : j < 48) (hws : X ++ rowsW cs.1 ra (updG pl i j v) = ws') (d : decode cc pc = .ok (.iastore, 1)) (g : GO p l e R s m args below meth c cells slots Q A D nL (pc + 1) lv st ws') : GO p l e R s m args below meth c cells slots Q A D nL pc lv (.int (nI v) :: .int (nI j) :: .ref (ra i) :: st) ws := by
  subst hX
  exact n_iast C (f := pl i) (X.length + i) (rows_at hi) hj (by omega) (by rw [rows_set hi]; exact hws) d g
end GR7
end
section
/-- of row and symbols, a symbol comes next -/
def sym (ct od rv : Nat → Nat) (n pr : Nat) (q : Nat × Nat) : Bool := decide (q.1 < n ∧ (q.2 < pr → ct (od q.1) ≤ rv (2 * q.2) + rv (2 * q.2 + 1)))
/-- how many symbols and pairs stand ahead of a place -/
def mst (ct od rv : Nat → Nat) (n pr : Nat) : Nat → Nat × Nat
  | 0 => (0, 0)
  | t + 1 => if sym ct od rv n pr (mst ct od rv n pr t) = true then ((mst ct od rv n pr t).1 + 1, (mst ct od rv n pr t).2) else ((mst ct od rv n pr t).1, (mst ct od rv n pr t).2 + 1)
/-- the count at a place -/
def mvl (ct od rv : Nat → Nat) (n pr : Nat) (t : Nat) : Nat :=
  if sym ct od rv n pr (mst ct od rv n pr t) = true then ct (od (mst ct od rv n pr t).1) else rv (2 * (mst ct od rv n pr t).2) + rv (2 * (mst ct od rv n pr t).2 + 1)
def rwp (ct od rv : Nat → Nat) (n pr : Nat) (sv : Nat → Nat) : Nat → (Nat → Nat)
  | 0 => sv
  | t + 1 => updN (rwp ct od rv n pr sv t) t (mvl ct od rv n pr t)
def plp (ct od rv : Nat → Nat) (n pr : Nat) (p0 : Nat → Nat) : Nat → (Nat → Nat)
  | 0 => p0
  | t + 1 => if sym ct od rv n pr (mst ct od rv n pr t) = true then updN (plp ct od rv n pr p0 t) (mst ct od rv n pr t).1 t else plp ct od rv n pr p0 t
section MS
variable {ct od rv sv p0 : Nat → Nat} {n pr t : Nat}
theorem mst_s (h : sym ct od rv n pr (mst ct od rv n pr t) = true) : mst ct od rv n pr (t + 1) = ((mst ct od rv n pr t).1 + 1, (mst ct od rv n pr t).2) := by rw [mst, if_pos h]
theorem mst_p (h : ¬ sym ct od rv n pr (mst ct od rv n pr t) = true) : mst ct od rv n pr (t + 1) = ((mst ct od rv n pr t).1, (mst ct od rv n pr t).2 + 1) := by rw [mst, if_neg h]
theorem rwp_s (h : sym ct od rv n pr (mst ct od rv n pr t) = true) : rwp ct od rv n pr sv (t + 1) = updN (rwp ct od rv n pr sv t) t (ct (od (mst ct od rv n pr t).1)) := by rw [rwp, mvl, if_pos h]
theorem rwp_p (h : ¬ sym ct od rv n pr (mst ct od rv n pr t) = true) : rwp ct od rv n pr sv (t + 1) = updN (rwp ct od rv n pr sv t) t (rv (2 * (mst ct od rv n pr t).2) + rv (2 * (mst ct od rv n pr t).2 + 1)) := by rw [rwp, mvl, if_neg h]
theorem plp_s (h : sym ct od rv n pr (mst ct od rv n pr t) = true) : plp ct od rv n pr p0 (t + 1) = updN (plp ct od rv n pr p0 t) (mst ct od rv n pr t).1 t := by rw [plp, if_pos h]
theorem plp_p (h : ¬ sym ct od rv n pr (mst ct od rv n pr t) = true) : plp ct od rv n pr p0 (t + 1) = plp ct od rv n pr p0 t := by rw [plp, if_neg h]
theorem mst_sum : ∀ t, (mst ct od rv n pr t).1 + (mst ct od rv n pr t).2 = t
  | 0 => rfl
  | t + 1 => by
    have ih := mst_sum t
    by_cases h : sym ct od rv n pr (mst ct od rv n pr t) = true
    · rw [mst_s h]; show _ + 1 + _ = _; omega
    · rw [mst_p h]; show _ + (_ + 1) = _; omega
theorem mst_le : ∀ t, (mst ct od rv n pr t).1 ≤ n ∧ (t ≤ n + pr → (mst ct od rv n pr t).2 ≤ pr)
  | 0 => ⟨Nat.zero_le _, fun _ => Nat.zero_le _⟩
  | t + 1 => by
    have ih := mst_le t
    have hs := mst_sum (ct := ct) (od := od) (rv := rv) (n := n) (pr := pr) t
    by_cases h : sym ct od rv n pr (mst ct od rv n pr t) = true
    · rw [mst_s h]
      have h2 := of_decide_eq_true h
      exact ⟨h2.1, fun q => ih.2 (by omega)⟩
    · rw [mst_p h]
      refine ⟨ih.1, fun q => ?_⟩
      have h2 := of_decide_eq_false (eq_false_of_ne_true h)
      have h3 := ih.2 (by omega)
      show (mst ct od rv n pr t).2 + 1 ≤ pr
      rcases Nat.lt_or_ge (mst ct od rv n pr t).2 pr with q2 | q2
      · exact q2
      · exact absurd ⟨by omega, fun q3 => absurd q3 (by omega)⟩ h2
end MS

/-- one row of a grid told anew -/
def plg (pl : Nat → Nat → Nat) (kk : Nat) (p : Nat → Nat) : Nat → Nat → Nat := fun r => if r = kk then p else pl r
theorem plg_up (pl : Nat → Nat → Nat) (kk j v : Nat) (p : Nat → Nat) : updG (plg pl kk p) kk j v = plg pl kk (updN p j v) := by
  funext r
  unfold updG plg
  by_cases h : r = kk
  · subst h; simp
  · simp [h]
theorem plg_0 (pl : Nat → Nat → Nat) (kk : Nat) : plg pl kk (pl kk) = pl := by
  funext r
  unfold plg
  by_cases h : r = kk
  · subst h; simp
  · simp [h]

set_option maxHeartbeats 4000000 in
set_option maxRecDepth 100000 in
theorem l_K_br {p : Program} {l : Launch} {e : Env} {s : State} {m : MethodId} {args : Array Value} {below : List Frame} {meth : Method} {c : Code} {Q : State → Prop} {A : Nat → Prop} {D : va_G} {cs : ClassId × ClassId × ClassId × ClassId} (C : CX p s m args c c_K_buildRow 9 RK D cs A) (k ko kp kr ks bc rs : Nat) (ra : Nat → Nat) (ct od : Nat → Nat) (cd : Nat) (rv sv : Nat → Nat) (pl : Nat → Nat → Nat) (kk : Nat) (hcd : cd ≤ 48) (hrs : rs ≤ 96) (hkk : kk < 16) (hct : ∀ j, j < 48 → ct j ≤ 1000000000) (hod : ∀ j, j < cd → od j < 48) (hrv : ∀ j, j < rs → rv j < 2 ^ 60)
    (K : GO p l e { frames := 0, cells := 0, slots := 0, locals := 0 } s m args below meth c 0 0 Q A D 9 145 [(0, .ref k)] [] ([(k, .inr (0, [.ref ko, .ref kp, .ref kr, .ref ks, .int (nI (cd + rs / 2)), .int (nI (cd))])), (ko, .inl (cs.1, 48, .inl (fun j => nI (od j)))), (bc, .inl (cs.2.1, 48, .inr (.inl (fun j => lN (ct j))))), (kp, .inl (cs.2.2.2, 16, .inr (.inr (.inr (.inr (fun i => some (ra i))))))), (kr, .inl (cs.2.1, 96, .inr (.inl (fun j => lN (rv j))))), (ks, .inl (cs.2.1, 96, .inr (.inl (fun j => lN ((rwp ct od rv cd (rs / 2) sv (cd + rs / 2)) j)))))] ++ rowsW cs.1 ra ((plg pl kk (plp ct od rv cd (rs / 2) (pl kk) (cd + rs / 2))))))
    : ∀ (n : Nat) (t : Nat), 96 - t = n → (t ≤ cd + rs / 2) → GO p l e { frames := 0, cells := 0, slots := 0, locals := 0 } s m args below meth c 0 0 Q A D 9 26 [(0, .ref k), (1, .int (nI (kk))), (2, .ref bc), (3, .int (nI (rs / 2))), (4, .int (nI ((mst ct od rv cd (rs / 2) t).1))), (5, .int (nI ((mst ct od rv cd (rs / 2) t).2))), (6, .int (nI (t)))] [] ([(k, .inr (0, [.ref ko, .ref kp, .ref kr, .ref ks, .int (nI (cd + rs / 2)), .int (nI (cd))])), (ko, .inl (cs.1, 48, .inl (fun j => nI (od j)))), (bc, .inl (cs.2.1, 48, .inr (.inl (fun j => lN (ct j))))), (kp, .inl (cs.2.2.2, 16, .inr (.inr (.inr (.inr (fun i => some (ra i))))))), (kr, .inl (cs.2.1, 96, .inr (.inl (fun j => lN (rv j))))), (ks, .inl (cs.2.1, 96, .inr (.inl (fun j => lN ((rwp ct od rv cd (rs / 2) sv t) j)))))] ++ rowsW cs.1 ra ((plg pl kk (plp ct od rv cd (rs / 2) (pl kk) (t))))) := by
  intro n
  induction n using Nat.strongRecOn with
  | _ n ih =>
  intro t  hn ht
  have hmu := mst_sum (ct := ct) (od := od) (rv := rv) (n := cd) (pr := rs / 2) t
  have hml := (mst_le (ct := ct) (od := od) (rv := rv) (n := cd) (pr := rs / 2) t).1
  have hmr := (mst_le (ct := ct) (od := od) (rv := rv) (n := cd) (pr := rs / 2) t).2 (by omega)
  refine g_iload C d_K_buildRow_26 6 rfl ?_
  refine g_aload_n C d_K_buildRow_28 0 rfl rfl ?_
  refine g_get C (T := FK) (N := 6) 0 4 inK rfl rfl (by decide) tw_33 rfl rfl d_K_buildRow_29 ?_
  refine n_icmp_ge C 145 d_K_buildRow_32 (by decide) (by omega) (by omega) (fun h32 => ?_) (fun h32 => ?_)
  · refine g_lv (lv' := [(0, .ref k)]) [0] rfl ?_
    have e9 : t = cd + rs / 2 := by omega
    subst e9
    exact K
  · refine g_iload C d_K_buildRow_35 5 rfl ?_
    refine g_iload_n C d_K_buildRow_37 3 rfl rfl ?_
    refine n_icmp_ge C 65 d_K_buildRow_38 (by decide) (by omega) (by omega) (fun h38 => ?_) (fun h38 => ?_)
    · refine g_ldc2 C (v := lN 9223372036854775807) tw_325 d_K_buildRow_65 ?_
      refine g_lstore C (lv' := [(7, .long (lN (9223372036854775807))), (0, .ref k), (1, .int (nI (kk))), (2, .ref bc), (3, .int (nI (rs / 2))), (4, .int (nI ((mst ct od rv cd (rs / 2) t).1))), (5, .int (nI ((mst ct od rv cd (rs / 2) t).2))), (6, .int (nI (t)))]) d_K_buildRow_68 (by decide) rfl ?_
      refine g_iload C d_K_buildRow_70 5 rfl ?_
      refine g_aload_n C d_K_buildRow_72 1 rfl rfl ?_
      refine g_get C (T := FK) (N := 6) 0 5 inK rfl rfl (by decide) tw_34 rfl rfl d_K_buildRow_73 ?_
      refine n_icmp_ge C 127 d_K_buildRow_76 (by decide) (by omega) (by omega) (fun h => absurd h (by omega)) (fun _ => ?_)
      refine g_aload_n C d_K_buildRow_79 3 rfl rfl ?_
      refine g_aload_n C d_K_buildRow_80 1 rfl rfl ?_
      refine g_get C (T := FK) (N := 6) 0 0 inK rfl rfl (by decide) tw_29 rfl rfl d_K_buildRow_81 ?_
      refine g_iload C d_K_buildRow_84 5 rfl ?_
      refine g_iald C 1 rfl (by omega) (by decide) d_K_buildRow_86 ?_
      refine g_lald C 2 rfl (hod _ (by omega)) (by decide) d_K_buildRow_87 ?_
      refine g_lload C d_K_buildRow_88 0 rfl ?_
      refine n_lcmp_gt C 127 d_K_buildRow_90 d_K_buildRow_91 (by decide) (by have := hct _ (hod (mst ct od rv cd (rs / 2) t).1 (by omega)); omega) (by omega) (fun h => absurd h (by have := hct _ (hod (mst ct od rv cd (rs / 2) t).1 (by omega)); omega)) (fun _ => ?_)
      refine g_aload_n C d_K_buildRow_94 1 rfl rfl ?_
      refine g_get C (T := FK) (N := 6) 0 1 inK rfl rfl (by decide) tw_30 rfl rfl d_K_buildRow_95 ?_
      refine g_iload_n C d_K_buildRow_98 2 rfl rfl ?_
      refine g_aald C 3 rfl (by omega) d_K_buildRow_99 ?_
      refine g_iload C d_K_buildRow_100 5 rfl ?_
      refine g_iload C d_K_buildRow_102 7 rfl ?_
      refine g_rast C (X := [(k, .inr (0, [.ref ko, .ref kp, .ref kr, .ref ks, .int (nI (cd + rs / 2)), .int (nI (cd))])), (ko, .inl (cs.1, 48, .inl (fun j => nI (od j)))), (bc, .inl (cs.2.1, 48, .inr (.inl (fun j => lN (ct j))))), (kp, .inl (cs.2.2.2, 16, .inr (.inr (.inr (.inr (fun i => some (ra i))))))), (kr, .inl (cs.2.1, 96, .inr (.inl (fun j => lN (rv j))))), (ks, .inl (cs.2.1, 96, .inr (.inl (fun j => lN ((rwp ct od rv cd (rs / 2) sv t) j)))))]) (ws' := ([(k, .inr (0, [.ref ko, .ref kp, .ref kr, .ref ks, .int (nI (cd + rs / 2)), .int (nI (cd))])), (ko, .inl (cs.1, 48, .inl (fun j => nI (od j)))), (bc, .inl (cs.2.1, 48, .inr (.inl (fun j => lN (ct j))))), (kp, .inl (cs.2.2.2, 16, .inr (.inr (.inr (.inr (fun i => some (ra i))))))), (kr, .inl (cs.2.1, 96, .inr (.inl (fun j => lN (rv j))))), (ks, .inl (cs.2.1, 96, .inr (.inl (fun j => lN ((rwp ct od rv cd (rs / 2) sv t) j)))))] ++ rowsW cs.1 ra (updG ((plg pl kk (plp ct od rv cd (rs / 2) (pl kk) (t)))) (kk) ((mst ct od rv cd (rs / 2) t).1) (t)))) (i := (kk)) rfl (by omega) (by omega) rfl d_K_buildRow_104 ?_
      refine g_aload_n C d_K_buildRow_105 1 rfl rfl ?_
      refine g_get C (T := FK) (N := 6) 0 3 inK rfl rfl (by decide) tw_32 rfl rfl d_K_buildRow_106 ?_
      refine g_iload C d_K_buildRow_109 7 rfl ?_
      refine g_aload_n C d_K_buildRow_111 3 rfl rfl ?_
      refine g_aload_n C d_K_buildRow_112 1 rfl rfl ?_
      refine g_get C (T := FK) (N := 6) 0 0 inK rfl rfl (by decide) tw_29 rfl rfl d_K_buildRow_113 ?_
      refine g_iload C d_K_buildRow_116 5 rfl ?_
      refine g_iald C 1 rfl (by omega) (by decide) d_K_buildRow_118 ?_
      refine g_lald C 2 rfl (hod _ (by omega)) (by decide) d_K_buildRow_119 ?_
      refine n_last C (ws' := ([(k, .inr (0, [.ref ko, .ref kp, .ref kr, .ref ks, .int (nI (cd + rs / 2)), .int (nI (cd))])), (ko, .inl (cs.1, 48, .inl (fun j => nI (od j)))), (bc, .inl (cs.2.1, 48, .inr (.inl (fun j => lN (ct j))))), (kp, .inl (cs.2.2.2, 16, .inr (.inr (.inr (.inr (fun i => some (ra i))))))), (kr, .inl (cs.2.1, 96, .inr (.inl (fun j => lN (rv j))))), (ks, .inl (cs.2.1, 96, .inr (.inl (fun j => lN ((updN ((rwp ct od rv cd (rs / 2) sv t)) (t) (ct (od ((mst ct od rv cd (rs / 2) t).1)))) j)))))] ++ rowsW cs.1 ra (updG ((plg pl kk (plp ct od rv cd (rs / 2) (pl kk) (t)))) (kk) ((mst ct od rv cd (rs / 2) t).1) (t)))) 5 rfl (by omega) (by decide) rfl d_K_buildRow_120 ?_
      refine g_iinc C (lv' := [(4, .int (nI ((mst ct od rv cd (rs / 2) t).1 + 1))), (7, .long (lN (9223372036854775807))), (0, .ref k), (1, .int (nI (kk))), (2, .ref bc), (3, .int (nI (rs / 2))), (5, .int (nI ((mst ct od rv cd (rs / 2) t).2))), (6, .int (nI (t)))]) (k := 5) d_K_buildRow_121 rfl (nI_1 _) (by decide) rfl ?_
      refine g_goto C 139 d_K_buildRow_124 (by decide) ?_
      refine g_iinc C (lv' := [(6, .int (nI (t + 1))), (4, .int (nI ((mst ct od rv cd (rs / 2) t).1 + 1))), (7, .long (lN (9223372036854775807))), (0, .ref k), (1, .int (nI (kk))), (2, .ref bc), (3, .int (nI (rs / 2))), (5, .int (nI ((mst ct od rv cd (rs / 2) t).2)))]) (k := 7) d_K_buildRow_139 rfl (nI_1 _) (by decide) rfl ?_
      refine g_goto C 26 d_K_buildRow_142 (by decide) ?_
      refine g_lv (lv' := [(0, .ref k), (1, .int (nI (kk))), (2, .ref bc), (3, .int (nI (rs / 2))), (4, .int (nI ((mst ct od rv cd (rs / 2) t).1 + 1))), (5, .int (nI ((mst ct od rv cd (rs / 2) t).2))), (6, .int (nI (t + 1)))]) [3, 4, 5, 6, 1, 7, 0] rfl ?_
      have hsy : sym ct od rv cd (rs / 2) (mst ct od rv cd (rs / 2) t) = true := decide_eq_true ⟨by omega, fun q9 => by omega⟩
      have hg := ih (96 - (t + 1)) (by omega) (t + 1) rfl (by omega)
      rw [mst_s hsy, rwp_s hsy, plp_s hsy] at hg
      rw [plg_up]
      exact hg
    · refine g_aload_n C d_K_buildRow_41 0 rfl rfl ?_
      refine g_get C (T := FK) (N := 6) 0 2 inK rfl rfl (by decide) tw_31 rfl rfl d_K_buildRow_42 ?_
      refine g_iconst C (v := nI 2) d_K_buildRow_45 rfl ?_
      refine g_iload C d_K_buildRow_46 5 rfl ?_
      refine g_imul C (v := nI ((2) * ((mst ct od rv cd (rs / 2) t).2))) d_K_buildRow_48 (pk_mul _ _) ?_
      refine g_lald C 4 rfl (by omega) (by decide) d_K_buildRow_49 ?_
      refine g_aload_n C d_K_buildRow_50 0 rfl rfl ?_
      refine g_get C (T := FK) (N := 6) 0 2 inK rfl rfl (by decide) tw_31 rfl rfl d_K_buildRow_51 ?_
      refine g_iconst C (v := nI 2) d_K_buildRow_54 rfl ?_
      refine g_iload C d_K_buildRow_55 5 rfl ?_
      refine g_imul C (v := nI ((2) * ((mst ct od rv cd (rs / 2) t).2))) d_K_buildRow_57 (pk_mul _ _) ?_
      refine g_iconst C (v := nI 1) d_K_buildRow_58 rfl ?_
      refine g_iadd C (v := nI ((2) * ((mst ct od rv cd (rs / 2) t).2) + 1)) d_K_buildRow_59 (nI_add _ _) ?_
      refine g_lald C 4 rfl (by omega) (by decide) d_K_buildRow_60 ?_
      refine g_ladd C (v := lN (rv ((2) * ((mst ct od rv cd (rs / 2) t).2)) + (rv ((2) * ((mst ct od rv cd (rs / 2) t).2) + 1)))) d_K_buildRow_61 (lN_add _ _) ?_
      refine g_goto C 68 d_K_buildRow_62 (by decide) ?_
      refine g_lstore C (lv' := [(7, .long (lN (rv ((2) * ((mst ct od rv cd (rs / 2) t).2)) + (rv ((2) * ((mst ct od rv cd (rs / 2) t).2) + 1))))), (0, .ref k), (1, .int (nI (kk))), (2, .ref bc), (3, .int (nI (rs / 2))), (4, .int (nI ((mst ct od rv cd (rs / 2) t).1))), (5, .int (nI ((mst ct od rv cd (rs / 2) t).2))), (6, .int (nI (t)))]) d_K_buildRow_68 (by decide) rfl ?_
      refine g_iload C d_K_buildRow_70 5 rfl ?_
      refine g_aload_n C d_K_buildRow_72 1 rfl rfl ?_
      refine g_get C (T := FK) (N := 6) 0 5 inK rfl rfl (by decide) tw_34 rfl rfl d_K_buildRow_73 ?_
      refine n_icmp_ge C 127 d_K_buildRow_76 (by decide) (by omega) (by omega) (fun h76 => ?_) (fun h76 => ?_)
      · refine g_aload_n C d_K_buildRow_127 1 rfl rfl ?_
        refine g_get C (T := FK) (N := 6) 0 3 inK rfl rfl (by decide) tw_32 rfl rfl d_K_buildRow_128 ?_
        refine g_iload C d_K_buildRow_131 7 rfl ?_
        refine g_lload C d_K_buildRow_133 0 rfl ?_
        refine n_last C (ws' := ([(k, .inr (0, [.ref ko, .ref kp, .ref kr, .ref ks, .int (nI (cd + rs / 2)), .int (nI (cd))])), (ko, .inl (cs.1, 48, .inl (fun j => nI (od j)))), (bc, .inl (cs.2.1, 48, .inr (.inl (fun j => lN (ct j))))), (kp, .inl (cs.2.2.2, 16, .inr (.inr (.inr (.inr (fun i => some (ra i))))))), (kr, .inl (cs.2.1, 96, .inr (.inl (fun j => lN (rv j))))), (ks, .inl (cs.2.1, 96, .inr (.inl (fun j => lN ((updN ((rwp ct od rv cd (rs / 2) sv t)) (t) (rv ((2) * ((mst ct od rv cd (rs / 2) t).2)) + (rv ((2) * ((mst ct od rv cd (rs / 2) t).2) + 1)))) j)))))] ++ rowsW cs.1 ra ((plg pl kk (plp ct od rv cd (rs / 2) (pl kk) (t)))))) 5 rfl (by omega) (by decide) rfl d_K_buildRow_135 ?_
        refine g_iinc C (lv' := [(5, .int (nI ((mst ct od rv cd (rs / 2) t).2 + 1))), (7, .long (lN (rv ((2) * ((mst ct od rv cd (rs / 2) t).2)) + (rv ((2) * ((mst ct od rv cd (rs / 2) t).2) + 1))))), (0, .ref k), (1, .int (nI (kk))), (2, .ref bc), (3, .int (nI (rs / 2))), (4, .int (nI ((mst ct od rv cd (rs / 2) t).1))), (6, .int (nI (t)))]) (k := 6) d_K_buildRow_136 rfl (nI_1 _) (by decide) rfl ?_
        refine g_iinc C (lv' := [(6, .int (nI (t + 1))), (5, .int (nI ((mst ct od rv cd (rs / 2) t).2 + 1))), (7, .long (lN (rv ((2) * ((mst ct od rv cd (rs / 2) t).2)) + (rv ((2) * ((mst ct od rv cd (rs / 2) t).2) + 1))))), (0, .ref k), (1, .int (nI (kk))), (2, .ref bc), (3, .int (nI (rs / 2))), (4, .int (nI ((mst ct od rv cd (rs / 2) t).1)))]) (k := 7) d_K_buildRow_139 rfl (nI_1 _) (by decide) rfl ?_
        refine g_goto C 26 d_K_buildRow_142 (by decide) ?_
        refine g_lv (lv' := [(0, .ref k), (1, .int (nI (kk))), (2, .ref bc), (3, .int (nI (rs / 2))), (4, .int (nI ((mst ct od rv cd (rs / 2) t).1))), (5, .int (nI ((mst ct od rv cd (rs / 2) t).2 + 1))), (6, .int (nI (t + 1)))]) [3, 4, 5, 6, 7, 1, 0] rfl ?_
        have hsy : ¬ sym ct od rv cd (rs / 2) (mst ct od rv cd (rs / 2) t) = true := fun q8 => by have q9 := of_decide_eq_true q8; omega
        have hg := ih (96 - (t + 1)) (by omega) (t + 1) rfl (by omega)
        rw [mst_p hsy, rwp_p hsy, plp_p hsy] at hg
        exact hg
      · refine g_aload_n C d_K_buildRow_79 3 rfl rfl ?_
        refine g_aload_n C d_K_buildRow_80 1 rfl rfl ?_
        refine g_get C (T := FK) (N := 6) 0 0 inK rfl rfl (by decide) tw_29 rfl rfl d_K_buildRow_81 ?_
        refine g_iload C d_K_buildRow_84 5 rfl ?_
        refine g_iald C 1 rfl (by omega) (by decide) d_K_buildRow_86 ?_
        refine g_lald C 2 rfl (hod _ (by omega)) (by decide) d_K_buildRow_87 ?_
        refine g_lload C d_K_buildRow_88 0 rfl ?_
        refine n_lcmp_gt C 127 d_K_buildRow_90 d_K_buildRow_91 (by decide) (by have := hct _ (hod (mst ct od rv cd (rs / 2) t).1 (by omega)); omega) (by have h7 := hrv (2 * (mst ct od rv cd (rs / 2) t).2) (by omega); have h8 := hrv (2 * (mst ct od rv cd (rs / 2) t).2 + 1) (by omega); omega) (fun h90 => ?_) (fun h90 => ?_)
        · refine g_aload_n C d_K_buildRow_127 1 rfl rfl ?_
          refine g_get C (T := FK) (N := 6) 0 3 inK rfl rfl (by decide) tw_32 rfl rfl d_K_buildRow_128 ?_
          refine g_iload C d_K_buildRow_131 7 rfl ?_
          refine g_lload C d_K_buildRow_133 0 rfl ?_
          refine n_last C (ws' := ([(k, .inr (0, [.ref ko, .ref kp, .ref kr, .ref ks, .int (nI (cd + rs / 2)), .int (nI (cd))])), (ko, .inl (cs.1, 48, .inl (fun j => nI (od j)))), (bc, .inl (cs.2.1, 48, .inr (.inl (fun j => lN (ct j))))), (kp, .inl (cs.2.2.2, 16, .inr (.inr (.inr (.inr (fun i => some (ra i))))))), (kr, .inl (cs.2.1, 96, .inr (.inl (fun j => lN (rv j))))), (ks, .inl (cs.2.1, 96, .inr (.inl (fun j => lN ((updN ((rwp ct od rv cd (rs / 2) sv t)) (t) (rv ((2) * ((mst ct od rv cd (rs / 2) t).2)) + (rv ((2) * ((mst ct od rv cd (rs / 2) t).2) + 1)))) j)))))] ++ rowsW cs.1 ra ((plg pl kk (plp ct od rv cd (rs / 2) (pl kk) (t)))))) 5 rfl (by omega) (by decide) rfl d_K_buildRow_135 ?_
          refine g_iinc C (lv' := [(5, .int (nI ((mst ct od rv cd (rs / 2) t).2 + 1))), (7, .long (lN (rv ((2) * ((mst ct od rv cd (rs / 2) t).2)) + (rv ((2) * ((mst ct od rv cd (rs / 2) t).2) + 1))))), (0, .ref k), (1, .int (nI (kk))), (2, .ref bc), (3, .int (nI (rs / 2))), (4, .int (nI ((mst ct od rv cd (rs / 2) t).1))), (6, .int (nI (t)))]) (k := 6) d_K_buildRow_136 rfl (nI_1 _) (by decide) rfl ?_
          refine g_iinc C (lv' := [(6, .int (nI (t + 1))), (5, .int (nI ((mst ct od rv cd (rs / 2) t).2 + 1))), (7, .long (lN (rv ((2) * ((mst ct od rv cd (rs / 2) t).2)) + (rv ((2) * ((mst ct od rv cd (rs / 2) t).2) + 1))))), (0, .ref k), (1, .int (nI (kk))), (2, .ref bc), (3, .int (nI (rs / 2))), (4, .int (nI ((mst ct od rv cd (rs / 2) t).1)))]) (k := 7) d_K_buildRow_139 rfl (nI_1 _) (by decide) rfl ?_
          refine g_goto C 26 d_K_buildRow_142 (by decide) ?_
          refine g_lv (lv' := [(0, .ref k), (1, .int (nI (kk))), (2, .ref bc), (3, .int (nI (rs / 2))), (4, .int (nI ((mst ct od rv cd (rs / 2) t).1))), (5, .int (nI ((mst ct od rv cd (rs / 2) t).2 + 1))), (6, .int (nI (t + 1)))]) [3, 4, 5, 6, 7, 1, 0] rfl ?_
          have hsy : ¬ sym ct od rv cd (rs / 2) (mst ct od rv cd (rs / 2) t) = true := fun q8 => by have q9 := of_decide_eq_true q8; omega
          have hg := ih (96 - (t + 1)) (by omega) (t + 1) rfl (by omega)
          rw [mst_p hsy, rwp_p hsy, plp_p hsy] at hg
          exact hg
        · refine g_aload_n C d_K_buildRow_94 1 rfl rfl ?_
          refine g_get C (T := FK) (N := 6) 0 1 inK rfl rfl (by decide) tw_30 rfl rfl d_K_buildRow_95 ?_
          refine g_iload_n C d_K_buildRow_98 2 rfl rfl ?_
          refine g_aald C 3 rfl (by omega) d_K_buildRow_99 ?_
          refine g_iload C d_K_buildRow_100 5 rfl ?_
          refine g_iload C d_K_buildRow_102 7 rfl ?_
          refine g_rast C (X := [(k, .inr (0, [.ref ko, .ref kp, .ref kr, .ref ks, .int (nI (cd + rs / 2)), .int (nI (cd))])), (ko, .inl (cs.1, 48, .inl (fun j => nI (od j)))), (bc, .inl (cs.2.1, 48, .inr (.inl (fun j => lN (ct j))))), (kp, .inl (cs.2.2.2, 16, .inr (.inr (.inr (.inr (fun i => some (ra i))))))), (kr, .inl (cs.2.1, 96, .inr (.inl (fun j => lN (rv j))))), (ks, .inl (cs.2.1, 96, .inr (.inl (fun j => lN ((rwp ct od rv cd (rs / 2) sv t) j)))))]) (ws' := ([(k, .inr (0, [.ref ko, .ref kp, .ref kr, .ref ks, .int (nI (cd + rs / 2)), .int (nI (cd))])), (ko, .inl (cs.1, 48, .inl (fun j => nI (od j)))), (bc, .inl (cs.2.1, 48, .inr (.inl (fun j => lN (ct j))))), (kp, .inl (cs.2.2.2, 16, .inr (.inr (.inr (.inr (fun i => some (ra i))))))), (kr, .inl (cs.2.1, 96, .inr (.inl (fun j => lN (rv j))))), (ks, .inl (cs.2.1, 96, .inr (.inl (fun j => lN ((rwp ct od rv cd (rs / 2) sv t) j)))))] ++ rowsW cs.1 ra (updG ((plg pl kk (plp ct od rv cd (rs / 2) (pl kk) (t)))) (kk) ((mst ct od rv cd (rs / 2) t).1) (t)))) (i := (kk)) rfl (by omega) (by omega) rfl d_K_buildRow_104 ?_
          refine g_aload_n C d_K_buildRow_105 1 rfl rfl ?_
          refine g_get C (T := FK) (N := 6) 0 3 inK rfl rfl (by decide) tw_32 rfl rfl d_K_buildRow_106 ?_
          refine g_iload C d_K_buildRow_109 7 rfl ?_
          refine g_aload_n C d_K_buildRow_111 3 rfl rfl ?_
          refine g_aload_n C d_K_buildRow_112 1 rfl rfl ?_
          refine g_get C (T := FK) (N := 6) 0 0 inK rfl rfl (by decide) tw_29 rfl rfl d_K_buildRow_113 ?_
          refine g_iload C d_K_buildRow_116 5 rfl ?_
          refine g_iald C 1 rfl (by omega) (by decide) d_K_buildRow_118 ?_
          refine g_lald C 2 rfl (hod _ (by omega)) (by decide) d_K_buildRow_119 ?_
          refine n_last C (ws' := ([(k, .inr (0, [.ref ko, .ref kp, .ref kr, .ref ks, .int (nI (cd + rs / 2)), .int (nI (cd))])), (ko, .inl (cs.1, 48, .inl (fun j => nI (od j)))), (bc, .inl (cs.2.1, 48, .inr (.inl (fun j => lN (ct j))))), (kp, .inl (cs.2.2.2, 16, .inr (.inr (.inr (.inr (fun i => some (ra i))))))), (kr, .inl (cs.2.1, 96, .inr (.inl (fun j => lN (rv j))))), (ks, .inl (cs.2.1, 96, .inr (.inl (fun j => lN ((updN ((rwp ct od rv cd (rs / 2) sv t)) (t) (ct (od ((mst ct od rv cd (rs / 2) t).1)))) j)))))] ++ rowsW cs.1 ra (updG ((plg pl kk (plp ct od rv cd (rs / 2) (pl kk) (t)))) (kk) ((mst ct od rv cd (rs / 2) t).1) (t)))) 5 rfl (by omega) (by decide) rfl d_K_buildRow_120 ?_
          refine g_iinc C (lv' := [(4, .int (nI ((mst ct od rv cd (rs / 2) t).1 + 1))), (7, .long (lN (rv ((2) * ((mst ct od rv cd (rs / 2) t).2)) + (rv ((2) * ((mst ct od rv cd (rs / 2) t).2) + 1))))), (0, .ref k), (1, .int (nI (kk))), (2, .ref bc), (3, .int (nI (rs / 2))), (5, .int (nI ((mst ct od rv cd (rs / 2) t).2))), (6, .int (nI (t)))]) (k := 5) d_K_buildRow_121 rfl (nI_1 _) (by decide) rfl ?_
          refine g_goto C 139 d_K_buildRow_124 (by decide) ?_
          refine g_iinc C (lv' := [(6, .int (nI (t + 1))), (4, .int (nI ((mst ct od rv cd (rs / 2) t).1 + 1))), (7, .long (lN (rv ((2) * ((mst ct od rv cd (rs / 2) t).2)) + (rv ((2) * ((mst ct od rv cd (rs / 2) t).2) + 1))))), (0, .ref k), (1, .int (nI (kk))), (2, .ref bc), (3, .int (nI (rs / 2))), (5, .int (nI ((mst ct od rv cd (rs / 2) t).2)))]) (k := 7) d_K_buildRow_139 rfl (nI_1 _) (by decide) rfl ?_
          refine g_goto C 26 d_K_buildRow_142 (by decide) ?_
          refine g_lv (lv' := [(0, .ref k), (1, .int (nI (kk))), (2, .ref bc), (3, .int (nI (rs / 2))), (4, .int (nI ((mst ct od rv cd (rs / 2) t).1 + 1))), (5, .int (nI ((mst ct od rv cd (rs / 2) t).2))), (6, .int (nI (t + 1)))]) [3, 4, 5, 6, 1, 7, 0] rfl ?_
          have hsy : sym ct od rv cd (rs / 2) (mst ct od rv cd (rs / 2) t) = true := decide_eq_true ⟨by omega, fun q9 => by omega⟩
          have hg := ih (96 - (t + 1)) (by omega) (t + 1) rfl (by omega)
          rw [mst_s hsy, rwp_s hsy, plp_s hsy] at hg
          rw [plg_up]
          exact hg
set_option maxHeartbeats 4000000 in
set_option maxRecDepth 100000 in
theorem m_K_buildRow (l : Launch) (D : va_G) (cs : ClassId × ClassId × ClassId × ClassId) (k ko kp kr ks bc rs : Nat) (ra : Nat → Nat) (ct od : Nat → Nat) (cd : Nat) (rv sv : Nat → Nat) (pl : Nat → Nat → Nat) (kk : Nat) (hcd : cd ≤ 48) (hrs : rs ≤ 96) (hkk : kk < 16) (hct : ∀ j, j < 48 → ct j ≤ 1000000000) (hod : ∀ j, j < cd → od j < 48) (hrv : ∀ j, j < rs → rv j < 2 ^ 60) : MG l y_K_buildRow k_K_buildRow { frames := 0, cells := 0, slots := 0, locals := 0 } D cs [.ref k, .int (nI (kk)), .ref bc] ([(k, .inr (0, [.ref ko, .ref kp, .ref kr, .ref ks, .int (nI (rs)), .int (nI (cd))])), (ko, .inl (cs.1, 48, .inl (fun j => nI (od j)))), (bc, .inl (cs.2.1, 48, .inr (.inl (fun j => lN (ct j))))), (kp, .inl (cs.2.2.2, 16, .inr (.inr (.inr (.inr (fun i => some (ra i))))))), (kr, .inl (cs.2.1, 96, .inr (.inl (fun j => lN (rv j))))), (ks, .inl (cs.2.1, 96, .inr (.inl (fun j => lN (sv j)))))] ++ rowsW cs.1 ra (pl)) (QV D ([(k, .inr (0, [.ref ko, .ref kp, .ref ks, .ref kr, .int (nI (cd + rs / 2)), .int (nI (cd))])), (ko, .inl (cs.1, 48, .inl (fun j => nI (od j)))), (bc, .inl (cs.2.1, 48, .inr (.inl (fun j => lN (ct j))))), (kp, .inl (cs.2.2.2, 16, .inr (.inr (.inr (.inr (fun i => some (ra i))))))), (kr, .inl (cs.2.1, 96, .inr (.inl (fun j => lN (rv j))))), (ks, .inl (cs.2.1, 96, .inr (.inl (fun j => lN ((rwp ct od rv cd (rs / 2) sv (cd + rs / 2)) j)))))] ++ rowsW cs.1 ra ((plg pl kk (plp ct od rv cd (rs / 2) (pl kk) (cd + rs / 2)))))) := by
  refine MG.mk (own := RK) (by decide) rfl (Nat.le_of_ble_eq_true rfl) ?_
  intro p e s m below meth c A C hr hlk
  refine g_lv (lv' := [(0, .ref k), (1, .int (nI (kk))), (2, .ref bc)]) [0, 1, 2] rfl ?_
  refine g_aload_n C d_K_buildRow_0 0 rfl rfl ?_
  refine g_get C (T := FK) (N := 6) 0 4 inK rfl rfl (by decide) tw_33 rfl rfl d_K_buildRow_1 ?_
  refine g_iconst C (v := nI 2) d_K_buildRow_4 rfl ?_
  refine g_idiv C (v := nI (rs / 2)) d_K_buildRow_5 (nI_ne0 (n := 2) (by omega) (by omega)) (pk_div (d := 2) (by omega) (by omega) (by omega)) ?_
  refine g_istore_n C (lv' := [(3, .int (nI (rs / 2))), (0, .ref k), (1, .int (nI (kk))), (2, .ref bc)]) d_K_buildRow_6 rfl (by decide) rfl ?_
  refine g_iconst C (v := nI 0) d_K_buildRow_7 rfl ?_
  refine g_istore C (lv' := [(4, .int (nI (0))), (3, .int (nI (rs / 2))), (0, .ref k), (1, .int (nI (kk))), (2, .ref bc)]) d_K_buildRow_8 (by decide) rfl ?_
  refine g_iconst C (v := nI 0) d_K_buildRow_10 rfl ?_
  refine g_istore C (lv' := [(5, .int (nI (0))), (4, .int (nI (0))), (3, .int (nI (rs / 2))), (0, .ref k), (1, .int (nI (kk))), (2, .ref bc)]) d_K_buildRow_11 (by decide) rfl ?_
  refine g_aload_n C d_K_buildRow_13 3 rfl rfl ?_
  refine g_aload_n C d_K_buildRow_14 3 rfl rfl ?_
  refine g_get C (T := FK) (N := 6) 0 5 inK rfl rfl (by decide) tw_34 rfl rfl d_K_buildRow_15 ?_
  refine g_iload_n C d_K_buildRow_18 2 rfl rfl ?_
  refine g_iadd C (v := nI (cd + (rs / 2))) d_K_buildRow_19 (nI_add _ _) ?_
  refine g_put C (T := FK) (N := 6) (ws' := ([(k, .inr (0, [.ref ko, .ref kp, .ref kr, .ref ks, .int (nI (cd + (rs / 2))), .int (nI (cd))])), (ko, .inl (cs.1, 48, .inl (fun j => nI (od j)))), (bc, .inl (cs.2.1, 48, .inr (.inl (fun j => lN (ct j))))), (kp, .inl (cs.2.2.2, 16, .inr (.inr (.inr (.inr (fun i => some (ra i))))))), (kr, .inl (cs.2.1, 96, .inr (.inl (fun j => lN (rv j))))), (ks, .inl (cs.2.1, 96, .inr (.inl (fun j => lN (sv j)))))] ++ rowsW cs.1 ra (pl))) 0 4 inK tyK okK nmK rfl rfl (by decide) tw_33 rfl rfl rfl rfl rfl (Nat.le_of_ble_eq_true rfl) rfl d_K_buildRow_20 ?_
  refine g_iconst C (v := nI 0) d_K_buildRow_23 rfl ?_
  refine g_istore C (lv' := [(6, .int (nI (0))), (5, .int (nI (0))), (4, .int (nI (0))), (3, .int (nI (rs / 2))), (0, .ref k), (1, .int (nI (kk))), (2, .ref bc)]) d_K_buildRow_24 (by decide) rfl ?_
  refine g_ws (ws' := ([(k, .inr (0, [.ref ko, .ref kp, .ref kr, .ref ks, .int (nI (cd + (rs / 2))), .int (nI (cd))])), (ko, .inl (cs.1, 48, .inl (fun j => nI (od j)))), (bc, .inl (cs.2.1, 48, .inr (.inl (fun j => lN (ct j))))), (kp, .inl (cs.2.2.2, 16, .inr (.inr (.inr (.inr (fun i => some (ra i))))))), (kr, .inl (cs.2.1, 96, .inr (.inl (fun j => lN (rv j))))), (ks, .inl (cs.2.1, 96, .inr (.inl (fun j => lN (sv j)))))] ++ rowsW cs.1 ra (plg pl kk (plp ct od rv cd (rs / 2) (pl kk) 0)))) (by rw [plp, plg_0]) ?_
  refine g_lv (lv' := [(0, .ref k), (1, .int (nI (kk))), (2, .ref bc), (3, .int (nI (rs / 2))), (4, .int (nI (0))), (5, .int (nI (0))), (6, .int (nI (0)))]) [4, 5, 6, 3, 2, 1, 0] rfl ?_
  refine l_K_br C k ko kp kr ks bc rs ra ct od cd rv sv pl kk hcd hrs hkk hct hod hrv ?_ _ 0 rfl (by omega)
  refine g_aload_n C d_K_buildRow_145 0 rfl rfl ?_
  refine g_get C (T := FK) (N := 6) 0 2 inK rfl rfl (by decide) tw_31 rfl rfl d_K_buildRow_146 ?_
  refine g_astore C (lv' := [(6, .ref kr), (0, .ref k)]) d_K_buildRow_149 (by decide) rfl ?_
  refine g_aload_n C d_K_buildRow_151 1 rfl rfl ?_
  refine g_aload_n C d_K_buildRow_152 1 rfl rfl ?_
  refine g_get C (T := FK) (N := 6) 0 3 inK rfl rfl (by decide) tw_32 rfl rfl d_K_buildRow_153 ?_
  refine g_put C (T := FK) (N := 6) (ws' := ([(k, .inr (0, [.ref ko, .ref kp, .ref ks, .ref ks, .int (nI (cd + rs / 2)), .int (nI (cd))])), (ko, .inl (cs.1, 48, .inl (fun j => nI (od j)))), (bc, .inl (cs.2.1, 48, .inr (.inl (fun j => lN (ct j))))), (kp, .inl (cs.2.2.2, 16, .inr (.inr (.inr (.inr (fun i => some (ra i))))))), (kr, .inl (cs.2.1, 96, .inr (.inl (fun j => lN (rv j))))), (ks, .inl (cs.2.1, 96, .inr (.inl (fun j => lN ((rwp ct od rv cd (rs / 2) sv (cd + rs / 2)) j)))))] ++ rowsW cs.1 ra ((plg pl kk (plp ct od rv cd (rs / 2) (pl kk) (cd + rs / 2)))))) 0 2 inK tyK okK nmK rfl rfl (by decide) tw_31 rfl rfl rfl rfl rfl (Nat.le_of_ble_eq_true rfl) rfl d_K_buildRow_156 ?_
  refine g_aload_n C d_K_buildRow_159 1 rfl rfl ?_
  refine g_aload C d_K_buildRow_160 0 rfl ?_
  refine g_put C (T := FK) (N := 6) (ws' := ([(k, .inr (0, [.ref ko, .ref kp, .ref ks, .ref kr, .int (nI (cd + rs / 2)), .int (nI (cd))])), (ko, .inl (cs.1, 48, .inl (fun j => nI (od j)))), (bc, .inl (cs.2.1, 48, .inr (.inl (fun j => lN (ct j))))), (kp, .inl (cs.2.2.2, 16, .inr (.inr (.inr (.inr (fun i => some (ra i))))))), (kr, .inl (cs.2.1, 96, .inr (.inl (fun j => lN (rv j))))), (ks, .inl (cs.2.1, 96, .inr (.inl (fun j => lN ((rwp ct od rv cd (rs / 2) sv (cd + rs / 2)) j)))))] ++ rowsW cs.1 ra ((plg pl kk (plp ct od rv cd (rs / 2) (pl kk) (cd + rs / 2)))))) 0 3 inK tyK okK nmK rfl rfl (by decide) tw_32 rfl rfl rfl rfl rfl (Nat.le_of_ble_eq_true rfl) rfl d_K_buildRow_162 ?_
  exact g_vret C hr hlk rfl d_K_buildRow_165
end
section
theorem hC_tail {X Xc T : va_W} {isX J : List Nat} (hX : isX.map (fun i => X[i]?) = Xc.map some) (hJ : J = (List.range T.length).map (fun i => X.length + i)) : (isX ++ J).map (fun i => (X ++ T)[i]?) = (Xc ++ T).map some := by
  rw [List.map_append, List.map_append]
  congr 1
  · rw [← hX]
    apply List.map_congr_left
    intro i hi
    have h1 : X[i]? ∈ isX.map (fun i => X[i]?) := List.mem_map.mpr ⟨i, hi, rfl⟩
    rw [hX] at h1
    obtain ⟨c, -, hc⟩ := List.mem_map.mp h1
    exact List.getElem?_append_left (List.getElem?_eq_some_iff.mp hc.symm).1
  · subst hJ
    apply List.ext_getElem?
    intro k
    by_cases hk : k < T.length
    · simp [hk, List.getElem?_append_right]
    · simp [hk]
theorem w_updT {D : va_G} {A : Nat → Prop} {X Xc Xc' T T' : va_W} {H H1 : Heap} (isX : List Nat) (hP : va_P D CLS (X ++ T) H) (hD : va_D A (X ++ T)) (hC : isX.map (fun i => X[i]?) = Xc.map some) (hadr : Xc'.map (·.1) = Xc.map (·.1)) (hadT : T'.map (·.1) = T.map (·.1))
    (hk : ∀ q : Nat, q < H.size → ¬ va_A (Xc ++ T) H.size q → H1[q]? = H[q]?) (hP1 : va_P D CLS (Xc' ++ T') H1) : va_P D CLS (wUpd X isX Xc' ++ T') H1 ∧ va_D A (wUpd X isX Xc' ++ T') := by
  have hlen : isX.length = Xc.length := by simpa using congrArg List.length hC
  have hlen' : Xc'.length = Xc.length := by simpa using congrArg List.length hadr
  have hat : ∀ (j i : Nat) (c : Nat × va_E), isX[j]? = some i → Xc[j]? = some c → X[i]? = some c := by
    intro j i c h1 h2
    have h3 : (isX.map (fun i => X[i]?))[j]? = (Xc.map some)[j]? := by rw [hC]
    rw [List.getElem?_map, List.getElem?_map, h1, h2] at h3
    simpa using h3
  have hadr2 : ∀ (j : Nat) (c : Nat × va_E), Xc'[j]? = some c → ∃ c0, Xc[j]? = some c0 ∧ c0.1 = c.1 := by
    intro j c h1
    have h3 : (Xc'.map (·.1))[j]? = (Xc.map (·.1))[j]? := by rw [hadr]
    rw [List.getElem?_map, List.getElem?_map, h1] at h3
    cases h2 : Xc[j]? with
    | none => rw [h2] at h3; cases h3
    | some x => rw [h2] at h3; exact ⟨x, rfl, by simpa using h3.symm⟩
  obtain ⟨u1, u2⟩ := wUpd_at isX X Xc' (fun j i c h1 h2 => by
    obtain ⟨c0, h3, h4⟩ := hadr2 j c h2
    exact ⟨c0.2, by rw [← h4]; exact hat j i c0 h1 h3⟩) (hlen.trans hlen'.symm)
  have hXl : (wUpd X isX Xc').length = X.length := by
    have h1 : ∀ k : Nat, (wUpd X isX Xc')[k]? = none ↔ X[k]? = none := by
      intro k
      have := u2 k
      cases h1 : (wUpd X isX Xc')[k]? <;> cases h2 : X[k]? <;> simp [h1, h2] at this ⊢
    have h2 := (h1 X.length).mpr (by simp)
    have h3 := (h1 (wUpd X isX Xc').length).mp (by simp)
    rw [List.getElem?_eq_none_iff] at h2 h3
    omega
  have hT : T'.length = T.length := by simpa using congrArg List.length hadT
  refine ⟨va_P.app (fun k q hq => ?_) (fun k q hq => ?_), hD.addr (fun k => ?_)⟩
  · rcases u1 k q hq with h1 | ⟨h1, h2⟩
    · obtain ⟨j, hj⟩ := List.getElem?_of_mem (List.mem_append_left T' h1)
      exact hP1 j q hj
    · have hkX := (List.getElem?_eq_some_iff.mp h2).1
      have hq2 : (X ++ T)[k]? = some q := by rw [List.getElem?_append_left hkX]; exact h2
      have hlt := (hP k q hq2).lt
      refine (hP k q hq2).kept (hk q.1 hlt ?_)
      rintro (⟨j, e9, hj⟩ | h9)
      · by_cases hjX : j < Xc.length
        · rw [List.getElem?_append_left hjX] at hj
          have hj2 : j < isX.length := by omega
          have hij : isX[j]? = some isX[j] := List.getElem?_eq_getElem hj2
          have h3 := hat j _ _ hij hj
          have h4 := (List.getElem?_eq_some_iff.mp h3).1
          have := hD.1 k isX[j] q (q.1, e9) hq2 (by rw [List.getElem?_append_left h4]; exact h3) rfl
          exact h1 (by rw [this]; exact List.getElem_mem hj2)
        · rw [List.getElem?_append_right (by omega)] at hj
          have := hD.1 k (X.length + (j - Xc.length)) q (q.1, e9) hq2 (by rw [List.getElem?_append_right (by omega), show X.length + (j - Xc.length) - X.length = j - Xc.length by omega]; exact hj) rfl
          omega
      · omega
  · obtain ⟨j, hj⟩ := List.getElem?_of_mem (List.mem_append_right Xc' (List.mem_of_getElem? hq))
    exact hP1 j q hj
  · by_cases hkl : k < X.length
    · rw [List.getElem?_append_left (by omega), List.getElem?_append_left hkl]
      exact u2 k
    · rw [List.getElem?_append_right (by omega), List.getElem?_append_right (by omega), hXl]
      have h3 : (T'.map (·.1))[k - X.length]? = (T.map (·.1))[k - X.length]? := by rw [hadT]
      rw [List.getElem?_map, List.getElem?_map] at h3
      exact h3
section GR8
variable {p : Program} {l : Launch} {e : Env} {R : Room} {s : State} {m : MethodId} {args : Array Value} {below : List Frame} {meth : Method} {c : Code} {cells slots : Nat} {Q : State → Prop} {A : Nat → Prop} {D : va_G} {nL : Nat} {cc : ByteArray} {own : String} {cs : ClassId × ClassId × ClassId × ClassId}
variable {pc : Nat} {lv lv' : List (Nat × Value)} {st : List Value} {ws ws' : va_W}

/-- a call whose world ends as the caller's does -/
theorem g_callVvT (C : CX p s m args c cc nL own D cs A) {y : MethodName} {bytes : ByteArray} {maxL n index : Nat} {ret : Option FieldType} {rm : Room} {X Xc Xc' X' T T' : va_W} {As rest st0 : List Value} {b ci N : Nat} {C9 : String} {T9 : u_T} {fs : List Value} (hM : MG l y (.code y bytes maxL ret) rm D cs (.ref b :: As) (Xc ++ T) (QV D (Xc' ++ T'))) (w1 : Cond.methodLink own index y ∈ TB) (w2 : Cond.instanceMethod y ∈ TB) (w3 : Cond.selects C9 y y ∈ TB) (w4 : Cond.initialized C9 ∈ TB) (w5 : Cond.code y bytes maxL ret ∈ TB) (hcl : y.cls = C9) (q0 : Nat) (hrecv : Xc[q0]? = some (b, .inr (ci, fs))) (hc9 : CLS[ci]? = some (C9, T9, N))
    (hnm : y.cls ≠ "java/lang/invoke/MethodHandle" ∧ y.cls ≠ "java/lang/invoke/VarHandle" ∧ (parseMethodDescriptor y.desc).map (fun d => d.parameters.length) = some n) (hnA : As.length = n)
    (hrm : rm.cells = 0 ∧ rm.slots = 0 ∧ (rm.frames + 1 ≤ R.frames ∧ 8 + (maxL + 11) + rm.locals ≤ R.locals) ∧ cells + 0 ≤ R.cells ∧ slots + 0 ≤ R.slots)
    (hst : st0 = As.reverse ++ .ref b :: rest) (isX J : List Nat) (hC : isX.map (fun i => X[i]?) = Xc.map some) (hJ : J = (List.range T.length).map (fun i => X.length + i)) (hadr : Xc'.map (·.1) = Xc.map (·.1)) (hadT : T'.map (·.1) = T.map (·.1)) (hnd : va_nd (isX ++ J) = true) (hrest : (rest.map fun v => v.category).sum ≤ 8) (hws : wUpd X isX Xc' = X')
    (d : decode cc pc = .ok (.invokevirtual index, 3)) (g : GO p l e R s m args below meth c cells slots Q A D nL (pc + 3) lv rest (X' ++ T')) : GO p l e R s m args below meth c cells slots Q A D nL pc lv st0 (X ++ T) := by
  obtain ⟨⟨hx, hb, hml, hown, ht⟩, hK, hA, hNW⟩ := C
  intro H locs ls hP hD hS hl
  have hCC := hC_tail (T := T) hC hJ
  have hPc : va_P D CLS (Xc ++ T) H := hP.sub (isX ++ J) (by
    have e9 : (isX ++ J).filterMap (fun i => (X ++ T)[i]?) = ((isX ++ J).map (fun i => (X ++ T)[i]?)).filterMap id := by rw [List.filterMap_map]; rfl
    rw [e9, hCC, List.filterMap_map]; simp)
  have hDc := hD.sub (isX ++ J) hnd hCC
  have hKc := hK
  have hFc := va_free (wc := Xc ++ T) hD hS hA (isX ++ J) hCC
  have hrecv2 : (Xc ++ T)[q0]? = some (b, .inr (ci, fs)) := by rw [List.getElem?_append_left (List.getElem?_eq_some_iff.mp hrecv).1]; exact hrecv
  have hpre : ∀ U : State, U.heap = H → s.WarmedH U.vm → PCW D cs (.ref b :: As) H.size (Xc ++ T) (Value.ref b :: As).toArray U := fun U hU hW => ⟨rfl, by rw [hU], by rw [hU]; exact hPc, va_K.moved hW.alike hK, hDc.weaken (fun _ _ _ _ => trivial), NWs.warm hW hNW⟩
  refine va_callv (va_runV (As := As) (rest := rest) ⟨hx, hb, hml, hown, ht⟩ (hM H.size) (cwV n ht (tb_wsV w1 w2 w3 w4 w5) rfl hrm.1 hrm.2.1 ⟨hcl, hnm.1, hnm.2.1, hnm.2.2⟩ hrm.2.2.1) ⟨PCW.blind, va_recv hKc hPc (q0 := q0) hc9 hrecv2, hpre⟩ rfl hnA hl.1 hst (lv_room hrest) d ⟨hrm.2.2.2.1, hrm.2.2.2.2⟩) hS (fun q _ h => hFc q h) hFc (fun u t H1 locs1 ht9 hvm hw hB hz1 hk1 hS1 => ?_)
  rw [ht9] at hB
  obtain ⟨hP9, hD9⟩ := w_updT isX hP hD hC hadr hadT hk1 hB
  rw [hws] at hP9 hD9
  exact g H1 locs1 ls hP9 hD9 hS1 hl
theorem rowsW_len (cI : ClassId) (ra : Nat → Nat) (pl : Nat → Nat → Nat) : (rowsW cI ra pl).length = 16 := by simp [rowsW]
theorem rowsW_adr (cI : ClassId) (ra : Nat → Nat) (p1 p2 : Nat → Nat → Nat) : (rowsW cI ra p1).map (·.1) = (rowsW cI ra p2).map (·.1) := by simp [rowsW]
end GR8
end
section
/-- of the first ones of a row, how many are symbols: from q on, of f -/
def tks (p : Nat → Nat) (tk : Nat) : Nat → Nat → Nat
  | 0, q => q
  | f + 1, q => if p q < tk then tks p tk f (q + 1) else q
/-- one more for each of the first q symbols -/
def inc (ln od : Nat → Nat) : Nat → (Nat → Nat)
  | 0 => ln
  | q + 1 => updN (inc ln od q) (od q) (inc ln od q (od q) + 1)
/-- lengths by the rows below t, of which tk are taken -/
def ctk (pl : Nat → Nat → Nat) (od : Nat → Nat) (n : Nat) : Nat → (Nat → Nat) → Nat → (Nat → Nat)
  | 0, ln, _ => ln
  | t + 1, ln, tk => ctk pl od n t (inc ln od (tks (pl t) tk n 0)) (2 * (tk - tks (pl t) tk n 0))
theorem tks_le {p : Nat → Nat} {tk n : Nat} (h : ∀ j, j < n → j ≤ p j) : ∀ f q, q + f ≤ n → q ≤ tk → tks p tk f q ≤ tk
  | 0, q, _, hq => hq
  | f + 1, q, hf, hq => by
    unfold tks
    split
    · exact tks_le h f (q + 1) (by omega) (by have := h q (by omega); omega)
    · exact hq
theorem tks_le2 {p : Nat → Nat} {tk : Nat} : ∀ f q, tks p tk f q ≤ q + f
  | 0, q => Nat.le_refl _
  | f + 1, q => by
    unfold tks
    split
    · have := tks_le2 (p := p) (tk := tk) f (q + 1); omega
    · omega
theorem tks_end {p : Nat → Nat} {tk n q : Nat} (h : n ≤ q) : tks p tk (n - q) q = q := by rw [show n - q = 0 by omega]; rfl
theorem tks_stop {p : Nat → Nat} {tk n q : Nat} (h : tk ≤ p q) : tks p tk (n - q) q = q := by
  cases n - q with
  | zero => rfl
  | succ f => rw [tks, if_neg (by omega)]
theorem tks_go {p : Nat → Nat} {tk n q : Nat} (h1 : q < n) (h : p q < tk) : tks p tk (n - q) q = tks p tk (n - (q + 1)) (q + 1) := by
  obtain ⟨f, hf⟩ : ∃ f, n - q = f + 1 := ⟨n - q - 1, by omega⟩
  rw [hf, tks, if_pos h, show n - (q + 1) = f by omega]

set_option maxHeartbeats 4000000 in
set_option maxRecDepth 100000 in
theorem l_K_ci {p : Program} {l : Launch} {e : Env} {s : State} {m : MethodId} {args : Array Value} {below : List Frame} {meth : Method} {c : Code} {Q : State → Prop} {A : Nat → Prop} {D : va_G} {cs : ClassId × ClassId × ClassId × ClassId} (C : CX p s m args c c_K_countTaken 6 RK D cs A) (al k ko kp kr ks bc rs : Nat) (ra : Nat → Nat) (ct od ln : Nat → Nat) (cd : Nat) (rv sv : Nat → Nat) (pl : Nat → Nat → Nat) (kq tk : Nat) (hcd : cd ≤ 48) (hod : ∀ j, j < cd → od j < 48) (hkq : kq < 16) (hp : ∀ j, j < cd → pl kq j < 96) (htk : tk < 2 ^ 31)
    (K : GO p l e { frames := 0, cells := 0, slots := 0, locals := 0 } s m args below meth c 0 0 Q A D 6 64 [(0, .ref k), (2, .ref al), (3, .int (nI (tk))), (4, .int (nI (kq))), (5, .int (nI (tks (pl kq) tk cd 0)))] [] ([(k, .inr (0, [.ref ko, .ref kp, .ref kr, .ref ks, .int (nI (rs)), .int (nI (cd))])), (ko, .inl (cs.1, 48, .inl (fun j => nI (od j)))), (bc, .inl (cs.2.1, 48, .inr (.inl (fun j => lN (ct j))))), (kp, .inl (cs.2.2.2, 16, .inr (.inr (.inr (.inr (fun i => some (ra i))))))), (kr, .inl (cs.2.1, 96, .inr (.inl (fun j => lN (rv j))))), (ks, .inl (cs.2.1, 96, .inr (.inl (fun j => lN (sv j))))), (al, .inl (cs.1, 48, .inl (fun j => nI ((inc ln od (tks (pl kq) tk cd 0)) j))))] ++ rowsW cs.1 ra (pl)))
    : ∀ (n : Nat) (q : Nat), 48 - q = n → (q ≤ cd) → (tks (pl kq) tk (cd - q) q = tks (pl kq) tk cd 0) → GO p l e { frames := 0, cells := 0, slots := 0, locals := 0 } s m args below meth c 0 0 Q A D 6 22 [(0, .ref k), (2, .ref al), (3, .int (nI (tk))), (4, .int (nI (kq))), (5, .int (nI (q)))] [] ([(k, .inr (0, [.ref ko, .ref kp, .ref kr, .ref ks, .int (nI (rs)), .int (nI (cd))])), (ko, .inl (cs.1, 48, .inl (fun j => nI (od j)))), (bc, .inl (cs.2.1, 48, .inr (.inl (fun j => lN (ct j))))), (kp, .inl (cs.2.2.2, 16, .inr (.inr (.inr (.inr (fun i => some (ra i))))))), (kr, .inl (cs.2.1, 96, .inr (.inl (fun j => lN (rv j))))), (ks, .inl (cs.2.1, 96, .inr (.inl (fun j => lN (sv j))))), (al, .inl (cs.1, 48, .inl (fun j => nI ((inc ln od q) j))))] ++ rowsW cs.1 ra (pl)) := by
  intro n
  induction n using Nat.strongRecOn with
  | _ n ih =>
  intro q  hn hq he
  refine g_iload C d_K_countTaken_22 4 rfl ?_
  refine g_aload_n C d_K_countTaken_24 0 rfl rfl ?_
  refine g_get C (T := FK) (N := 6) 0 5 inK rfl rfl (by decide) tw_34 rfl rfl d_K_countTaken_25 ?_
  refine n_icmp_ge C 64 d_K_countTaken_28 (by decide) (by omega) (by omega) (fun h28 => ?_) (fun h28 => ?_)
  · refine g_lv (lv' := [(0, .ref k), (2, .ref al), (3, .int (nI (tk))), (4, .int (nI (kq))), (5, .int (nI (q)))]) [0, 1, 2, 3, 4] rfl ?_
    have e9 : q = tks (pl kq) tk cd 0 := (show q = tks (pl kq) tk (cd - q) q by first | exact (tks_end (by omega)).symm | exact (tks_stop (by assumption)).symm).trans he
    subst e9
    exact K
  · refine g_aload_n C d_K_countTaken_31 0 rfl rfl ?_
    refine g_get C (T := FK) (N := 6) 0 1 inK rfl rfl (by decide) tw_30 rfl rfl d_K_countTaken_32 ?_
    refine g_iload C d_K_countTaken_35 3 rfl ?_
    refine g_aald C 3 rfl (by omega) d_K_countTaken_37 ?_
    refine g_iload C d_K_countTaken_38 4 rfl ?_
    refine g_rald C (X := [(k, .inr (0, [.ref ko, .ref kp, .ref kr, .ref ks, .int (nI (rs)), .int (nI (cd))])), (ko, .inl (cs.1, 48, .inl (fun j => nI (od j)))), (bc, .inl (cs.2.1, 48, .inr (.inl (fun j => lN (ct j))))), (kp, .inl (cs.2.2.2, 16, .inr (.inr (.inr (.inr (fun i => some (ra i))))))), (kr, .inl (cs.2.1, 96, .inr (.inl (fun j => lN (rv j))))), (ks, .inl (cs.2.1, 96, .inr (.inl (fun j => lN (sv j))))), (al, .inl (cs.1, 48, .inl (fun j => nI ((inc ln od q) j))))]) (i := (kq)) rfl (by omega) (by omega) d_K_countTaken_40 ?_
    refine g_iload_n C d_K_countTaken_41 2 rfl rfl ?_
    refine n_icmp_ge C 64 d_K_countTaken_42 (by decide) (by have := hp q (by omega); omega) htk (fun h42 => ?_) (fun h42 => ?_)
    · refine g_lv (lv' := [(0, .ref k), (2, .ref al), (3, .int (nI (tk))), (4, .int (nI (kq))), (5, .int (nI (q)))]) [0, 1, 2, 3, 4] rfl ?_
      have e9 : q = tks (pl kq) tk cd 0 := (show q = tks (pl kq) tk (cd - q) q by first | exact (tks_end (by omega)).symm | exact (tks_stop (by assumption)).symm).trans he
      subst e9
      exact K
    · refine g_aload_n C d_K_countTaken_45 1 rfl rfl ?_
      refine g_aload_n C d_K_countTaken_46 0 rfl rfl ?_
      refine g_get C (T := FK) (N := 6) 0 0 inK rfl rfl (by decide) tw_29 rfl rfl d_K_countTaken_47 ?_
      refine g_iload C d_K_countTaken_50 4 rfl ?_
      refine g_iald C 1 rfl (by omega) (by decide) d_K_countTaken_52 ?_
      refine g_dup2 C d_K_countTaken_53 rfl rfl ?_
      refine g_iald C 6 rfl (hod q (by omega)) (by decide) d_K_countTaken_54 ?_
      refine g_iconst C (v := nI 1) d_K_countTaken_55 rfl ?_
      refine g_iadd C (v := nI ((inc ln od q) (od (q)) + 1)) d_K_countTaken_56 (nI_add _ _) ?_
      refine n_iast C (ws' := ([(k, .inr (0, [.ref ko, .ref kp, .ref kr, .ref ks, .int (nI (rs)), .int (nI (cd))])), (ko, .inl (cs.1, 48, .inl (fun j => nI (od j)))), (bc, .inl (cs.2.1, 48, .inr (.inl (fun j => lN (ct j))))), (kp, .inl (cs.2.2.2, 16, .inr (.inr (.inr (.inr (fun i => some (ra i))))))), (kr, .inl (cs.2.1, 96, .inr (.inl (fun j => lN (rv j))))), (ks, .inl (cs.2.1, 96, .inr (.inl (fun j => lN (sv j))))), (al, .inl (cs.1, 48, .inl (fun j => nI ((updN ((inc ln od q)) (od (q)) ((inc ln od q) (od (q)) + 1)) j))))] ++ rowsW cs.1 ra (pl))) 6 rfl (hod q (by omega)) (by decide) rfl d_K_countTaken_57 ?_
      refine g_iinc C (lv' := [(5, .int (nI (q + 1))), (0, .ref k), (2, .ref al), (3, .int (nI (tk))), (4, .int (nI (kq)))]) (k := 4) d_K_countTaken_58 rfl (nI_1 _) (by decide) rfl ?_
      refine g_goto C 22 d_K_countTaken_61 (by decide) ?_
      refine g_lv (lv' := [(0, .ref k), (2, .ref al), (3, .int (nI (tk))), (4, .int (nI (kq))), (5, .int (nI (q + 1)))]) [1, 2, 3, 4, 0] rfl ?_
      exact ih (48 - (q + 1)) (by omega) (q + 1) rfl (by omega) ((tks_go h28 h42).symm.trans he)
set_option maxHeartbeats 4000000 in
set_option maxRecDepth 100000 in
theorem l_K_ct {p : Program} {l : Launch} {e : Env} {s : State} {m : MethodId} {args : Array Value} {below : List Frame} {meth : Method} {c : Code} {A : Nat → Prop} {D : va_G} {cs : ClassId × ClassId × ClassId × ClassId} (C : CX p s m args c c_K_countTaken 6 RK D cs A) (al k ko kp kr ks bc rs : Nat) (ra : Nat → Nat) (ct od ln : Nat → Nat) (cd : Nat) (rv sv : Nat → Nat) (pl : Nat → Nat → Nat) (mo : Nat) (hcd : cd ≤ 48) (hod : ∀ j, j < cd → od j < 48) (hmo : mo ≤ 16) (hp : ∀ i, i < mo → ∀ j, j < cd → j ≤ pl i j ∧ pl i j < 96) (hr : meth.sig.returnType = none) (hlk : meth.locks = false) : ∀ (t : Nat) (ln2 : Nat → Nat) (tk : Nat), t ≤ mo → tk ≤ 2 ^ (23 - t) → ctk pl od cd t ln2 tk = ctk pl od cd mo ln (2 * cd - 2) → GO p l e { frames := 0, cells := 0, slots := 0, locals := 0 } s m args below meth c 0 0 (MQ below (QV D ([(k, .inr (0, [.ref ko, .ref kp, .ref kr, .ref ks, .int (nI (rs)), .int (nI (cd))])), (ko, .inl (cs.1, 48, .inl (fun j => nI (od j)))), (bc, .inl (cs.2.1, 48, .inr (.inl (fun j => lN (ct j))))), (kp, .inl (cs.2.2.2, 16, .inr (.inr (.inr (.inr (fun i => some (ra i))))))), (kr, .inl (cs.2.1, 96, .inr (.inl (fun j => lN (rv j))))), (ks, .inl (cs.2.1, 96, .inr (.inl (fun j => lN (sv j))))), (al, .inl (cs.1, 48, .inl (fun j => nI ((ctk pl od cd mo ln (2 * cd - 2)) j))))] ++ rowsW cs.1 ra (pl)) A) args s 0 0 A) A D 6 14 [(0, .ref k), (2, .ref al), (3, .int (nI tk)), (4, .int (nI t - 1))] [] ([(k, .inr (0, [.ref ko, .ref kp, .ref kr, .ref ks, .int (nI (rs)), .int (nI (cd))])), (ko, .inl (cs.1, 48, .inl (fun j => nI (od j)))), (bc, .inl (cs.2.1, 48, .inr (.inl (fun j => lN (ct j))))), (kp, .inl (cs.2.2.2, 16, .inr (.inr (.inr (.inr (fun i => some (ra i))))))), (kr, .inl (cs.2.1, 96, .inr (.inl (fun j => lN (rv j))))), (ks, .inl (cs.2.1, 96, .inr (.inl (fun j => lN (sv j))))), (al, .inl (cs.1, 48, .inl (fun j => nI (ln2 j))))] ++ rowsW cs.1 ra (pl)) := by
  intro t
  induction t with
  | zero =>
    intro ln2 tk ht htk he
    rw [nI_0m1]
    refine g_iload C d_K_countTaken_14 3 rfl ?_
    refine g_if_lt C 77 d_K_countTaken_16 (by decide) (fun _ => ?_) (fun h => absurd (by decide) h)
    exact g_vret C hr hlk (by rw [← he]; rfl) d_K_countTaken_77
  | succ t ih =>
    intro ln2 tk ht htk he
    rw [nI_pred t]
    have hpow : 2 ^ (23 - t) = 2 * 2 ^ (23 - (t + 1)) := by rw [← Nat.pow_succ']; congr 1; omega
    have hpb : 2 ^ (23 - t) ≤ 2 ^ 23 := Nat.pow_le_pow_right (by omega) (by omega)
    refine g_iload C d_K_countTaken_14 3 rfl ?_
    refine n_if_lt C 77 d_K_countTaken_16 (by decide) (by omega) ?_
    refine g_iconst C (v := nI 0) d_K_countTaken_19 rfl ?_
    refine g_istore C (lv' := [(5, .int (nI (0))), (0, .ref k), (2, .ref al), (3, .int (nI (tk))), (4, .int (nI (t)))]) d_K_countTaken_20 (by decide) rfl ?_
    refine g_lv (lv' := [(0, .ref k), (2, .ref al), (3, .int (nI (tk))), (4, .int (nI (t))), (5, .int (nI (0)))]) [1, 2, 3, 4, 0] rfl ?_
    refine l_K_ci C al k ko kp kr ks bc rs ra ct od ln2 cd rv sv pl t tk hcd hod (by omega) (fun j hj => (hp t (by omega) j hj).2) (by omega) ?_ _ 0 rfl (by omega) rfl
    have htl : tks (pl t) tk cd 0 ≤ tk := tks_le (fun j hj => (hp t (by omega) j hj).1) cd 0 (by omega) (by omega)
    refine g_iconst C (v := nI 2) d_K_countTaken_64 rfl ?_
    refine g_iload_n C d_K_countTaken_65 2 rfl rfl ?_
    refine g_iload C d_K_countTaken_66 4 rfl ?_
    refine g_isub C (v := nI ((tk) - ((tks (pl t) tk cd 0)))) d_K_countTaken_68 (pk_sub (by omega)) ?_
    refine g_imul C (v := nI ((2) * ((tk) - ((tks (pl t) tk cd 0))))) d_K_countTaken_69 (pk_mul _ _) ?_
    refine g_istore_n C (lv' := [(3, .int (nI ((2) * ((tk) - ((tks (pl t) tk cd 0)))))), (0, .ref k), (2, .ref al), (4, .int (nI (t))), (5, .int (nI ((tks (pl t) tk cd 0))))]) d_K_countTaken_70 rfl (by decide) rfl ?_
    refine g_iinc C (lv' := [(4, .int (nI (t) - 1)), (3, .int (nI ((2) * ((tk) - ((tks (pl t) tk cd 0)))))), (0, .ref k), (2, .ref al), (5, .int (nI ((tks (pl t) tk cd 0))))]) (k := 3) d_K_countTaken_71 rfl (dec_raw _) (by decide) rfl ?_
    refine g_goto C 14 d_K_countTaken_74 (by decide) ?_
    refine g_lv (lv' := [(0, .ref k), (2, .ref al), (3, .int (nI ((2) * ((tk) - ((tks (pl t) tk cd 0)))))), (4, .int (nI (t) - 1))]) [2, 3, 1, 0] rfl ?_
    exact ih _ _ (by omega) (by omega) (by rw [← he, ctk])
set_option maxHeartbeats 4000000 in
set_option maxRecDepth 100000 in
theorem m_K_countTaken (l : Launch) (D : va_G) (cs : ClassId × ClassId × ClassId × ClassId) (al k ko kp kr ks bc rs : Nat) (ra : Nat → Nat) (ct od ln : Nat → Nat) (cd : Nat) (rv sv : Nat → Nat) (pl : Nat → Nat → Nat) (mo : Nat) (hcd : cd ≤ 48) (h2 : 2 ≤ cd) (hod : ∀ j, j < cd → od j < 48) (hmo : mo ≤ 16) (hp : ∀ i, i < mo → ∀ j, j < cd → j ≤ pl i j ∧ pl i j < 96) : MG l y_K_countTaken k_K_countTaken { frames := 0, cells := 0, slots := 0, locals := 0 } D cs [.ref k, .int (nI (mo)), .ref al] ([(k, .inr (0, [.ref ko, .ref kp, .ref kr, .ref ks, .int (nI (rs)), .int (nI (cd))])), (ko, .inl (cs.1, 48, .inl (fun j => nI (od j)))), (bc, .inl (cs.2.1, 48, .inr (.inl (fun j => lN (ct j))))), (kp, .inl (cs.2.2.2, 16, .inr (.inr (.inr (.inr (fun i => some (ra i))))))), (kr, .inl (cs.2.1, 96, .inr (.inl (fun j => lN (rv j))))), (ks, .inl (cs.2.1, 96, .inr (.inl (fun j => lN (sv j))))), (al, .inl (cs.1, 48, .inl (fun j => nI (ln j))))] ++ rowsW cs.1 ra (pl)) (QV D ([(k, .inr (0, [.ref ko, .ref kp, .ref kr, .ref ks, .int (nI (rs)), .int (nI (cd))])), (ko, .inl (cs.1, 48, .inl (fun j => nI (od j)))), (bc, .inl (cs.2.1, 48, .inr (.inl (fun j => lN (ct j))))), (kp, .inl (cs.2.2.2, 16, .inr (.inr (.inr (.inr (fun i => some (ra i))))))), (kr, .inl (cs.2.1, 96, .inr (.inl (fun j => lN (rv j))))), (ks, .inl (cs.2.1, 96, .inr (.inl (fun j => lN (sv j))))), (al, .inl (cs.1, 48, .inl (fun j => nI ((ctk pl od cd mo ln (2 * cd - 2)) j))))] ++ rowsW cs.1 ra (pl))) := by
  refine MG.mk (own := RK) (by decide) rfl (Nat.le_of_ble_eq_true rfl) ?_
  intro p e s m below meth c A C hr hlk
  refine g_lv (lv' := [(0, .ref k), (1, .int (nI (mo))), (2, .ref al)]) [0, 1, 2] rfl ?_
  refine g_iconst C (v := nI 2) d_K_countTaken_0 rfl ?_
  refine g_aload_n C d_K_countTaken_1 0 rfl rfl ?_
  refine g_get C (T := FK) (N := 6) 0 5 inK rfl rfl (by decide) tw_34 rfl rfl d_K_countTaken_2 ?_
  refine g_imul C (v := nI (2 * cd)) d_K_countTaken_5 (pk_mul _ _) ?_
  refine g_iconst C (v := nI 2) d_K_countTaken_6 rfl ?_
  refine g_isub C (v := nI (2 * cd - 2)) d_K_countTaken_7 (pk_sub (by omega)) ?_
  refine g_istore_n C (lv' := [(3, .int (nI (2 * cd - 2))), (0, .ref k), (1, .int (nI (mo))), (2, .ref al)]) d_K_countTaken_8 rfl (by decide) rfl ?_
  refine g_iload_n C d_K_countTaken_9 2 rfl rfl ?_
  refine g_iconst C (v := nI 1) d_K_countTaken_10 rfl ?_
  refine g_isub C (v := nI (mo) - 1) d_K_countTaken_11 rfl ?_
  refine g_istore C (lv' := [(4, .int (nI (mo) - 1)), (3, .int (nI (2 * cd - 2))), (0, .ref k), (1, .int (nI (mo))), (2, .ref al)]) d_K_countTaken_12 (by decide) rfl ?_
  refine g_lv (lv' := [(0, .ref k), (2, .ref al), (3, .int (nI (2 * cd - 2))), (4, .int (nI (mo) - 1))]) [2, 4, 1, 0] rfl ?_
  exact l_K_ct C al k ko kp kr ks bc rs ra ct od ln cd rv sv pl mo hcd hod hmo hp hr hlk mo ln (2 * cd - 2) (Nat.le_refl _) (by have : 2 ^ 7 ≤ 2 ^ (23 - mo) := Nat.pow_le_pow_right (by omega) (by omega); omega) rfl
end
section
/-- row and next row and size behind i rows -/
def rwst (ct od : Nat → Nat) (n : Nat) (rv sv : Nat → Nat) : Nat → (Nat → Nat) × (Nat → Nat) × Nat
  | 0 => (rv, sv, 0)
  | i + 1 => (rwp ct od (rwst ct od n rv sv i).1 n ((rwst ct od n rv sv i).2.2 / 2) (rwst ct od n rv sv i).2.1 (n + (rwst ct od n rv sv i).2.2 / 2), (rwst ct od n rv sv i).1, n + (rwst ct od n rv sv i).2.2 / 2)
/-- where the symbols stand in the rows -/
def plst (ct od : Nat → Nat) (n : Nat) (rv sv : Nat → Nat) (pl : Nat → Nat → Nat) : Nat → (Nat → Nat → Nat)
  | 0 => pl
  | i + 1 => plg (plst ct od n rv sv pl i) i (plp ct od (rwst ct od n rv sv i).1 n ((rwst ct od n rv sv i).2.2 / 2) (plst ct od n rv sv pl i i) (n + (rwst ct od n rv sv i).2.2 / 2))
theorem rwp_at {ct od rv sv : Nat → Nat} {n pr : Nat} : ∀ (T j : Nat), j < T → rwp ct od rv n pr sv T j = mvl ct od rv n pr j
  | 0, j, h => absurd h (by omega)
  | T + 1, j, h => by
    rw [rwp]
    by_cases e : j = T
    · subst e; rw [updN_s]
    · rw [updN_n e]; exact rwp_at T j (by omega)
theorem rwp_out {ct od rv sv : Nat → Nat} {n pr : Nat} : ∀ (T j : Nat), T ≤ j → rwp ct od rv n pr sv T j = sv j
  | 0, j, h => rfl
  | T + 1, j, h => by rw [rwp, updN_n (by omega)]; exact rwp_out T j (by omega)
theorem rwst_sz {ct od : Nat → Nat} {n : Nat} {rv sv : Nat → Nat} : ∀ i, (rwst ct od n rv sv i).2.2 ≤ 2 * n
  | 0 => Nat.zero_le _
  | i + 1 => by have := rwst_sz (ct := ct) (od := od) (n := n) (rv := rv) (sv := sv) i; show n + _ / 2 ≤ _; omega
theorem rwst_bd {ct od : Nat → Nat} {n : Nat} {rv sv : Nat → Nat} (hct : ∀ j, j < 48 → ct j ≤ 1000000000) (hod : ∀ j, j < n → od j < 48) : ∀ i j, j < (rwst ct od n rv sv i).2.2 → (rwst ct od n rv sv i).1 j ≤ 1000000000 * 2 ^ i
  | 0, j, h => absurd h (by show ¬ j < 0; omega)
  | i + 1, j, h => by
    have ih := rwst_bd (rv := rv) (sv := sv) hct hod i
    have h : j < n + (rwst ct od n rv sv i).2.2 / 2 := h
    show rwp ct od (rwst ct od n rv sv i).1 n ((rwst ct od n rv sv i).2.2 / 2) (rwst ct od n rv sv i).2.1 (n + (rwst ct od n rv sv i).2.2 / 2) j ≤ _
    rw [rwp_at _ _ h]
    have hs := mst_sum (ct := ct) (od := od) (rv := (rwst ct od n rv sv i).1) (n := n) (pr := (rwst ct od n rv sv i).2.2 / 2) j
    have hp : 1 ≤ 2 ^ i := Nat.one_le_two_pow
    have h2 : 2 ^ (i + 1) = 2 * 2 ^ i := by rw [Nat.pow_succ, Nat.mul_comm]
    unfold mvl
    split
    · next hy =>
      have h3 := of_decide_eq_true hy
      have := hct _ (hod _ h3.1)
      omega
    · next hy =>
      have h4 := (mst_le (ct := ct) (od := od) (rv := (rwst ct od n rv sv i).1) (n := n) (pr := (rwst ct od n rv sv i).2.2 / 2) (j + 1)).2 (by omega)
      rw [mst_p hy] at h4
      have h5 : (mst ct od (rwst ct od n rv sv i).1 n ((rwst ct od n rv sv i).2.2 / 2) j).2 + 1 ≤ (rwst ct od n rv sv i).2.2 / 2 := h4
      have h6 := ih (2 * (mst ct od (rwst ct od n rv sv i).1 n ((rwst ct od n rv sv i).2.2 / 2) j).2) (by omega)
      have h7 := ih (2 * (mst ct od (rwst ct od n rv sv i).1 n ((rwst ct od n rv sv i).2.2 / 2) j).2 + 1) (by omega)
      omega
theorem plp_at {ct od rv p0 : Nat → Nat} {n pr : Nat} : ∀ (t a : Nat), a < (mst ct od rv n pr t).1 → a ≤ plp ct od rv n pr p0 t a ∧ plp ct od rv n pr p0 t a < t
  | 0, a, h => absurd h (by show ¬ a < 0; omega)
  | t + 1, a, h => by
    have ih := plp_at (ct := ct) (od := od) (rv := rv) (p0 := p0) (n := n) (pr := pr) t
    have hs := mst_sum (ct := ct) (od := od) (rv := rv) (n := n) (pr := pr) t
    by_cases hy : sym ct od rv n pr (mst ct od rv n pr t) = true
    · rw [mst_s hy] at h
      rw [plp_s hy]
      by_cases e : a = (mst ct od rv n pr t).1
      · rw [e, updN_s]; omega
      · rw [updN_n e]
        have := ih a (by have h : a < (mst ct od rv n pr t).1 + 1 := h; omega)
        omega
    · rw [mst_p hy] at h
      rw [plp_p hy]
      have := ih a h
      omega
theorem mst_full {ct od rv : Nat → Nat} {n pr : Nat} : (mst ct od rv n pr (n + pr)).1 = n := by
  have h1 := mst_sum (ct := ct) (od := od) (rv := rv) (n := n) (pr := pr) (n + pr)
  have h2 := mst_le (ct := ct) (od := od) (rv := rv) (n := n) (pr := pr) (n + pr)
  have h3 := h2.2 (Nat.le_refl _)
  omega
theorem plst_at {ct od : Nat → Nat} {n : Nat} {rv sv : Nat → Nat} {pl : Nat → Nat → Nat} : ∀ (m i : Nat), i < m → ∀ j, j < n → j ≤ plst ct od n rv sv pl m i j ∧ plst ct od n rv sv pl m i j < 2 * n
  | 0, i, h, _, _ => absurd h (by omega)
  | m + 1, i, h, j, hj => by
    rw [plst]
    unfold plg
    by_cases e : i = m
    · subst e
      rw [if_pos rfl]
      have h1 := plp_at (ct := ct) (od := od) (rv := (rwst ct od n rv sv i).1) (p0 := plst ct od n rv sv pl i i) (n := n) (pr := (rwst ct od n rv sv i).2.2 / 2) (n + (rwst ct od n rv sv i).2.2 / 2) j (by rw [mst_full]; exact hj)
      have h2 := rwst_sz (ct := ct) (od := od) (n := n) (rv := rv) (sv := sv) i
      omega
    · rw [if_neg e]; exact plst_at m i (by omega) j hj

set_option maxHeartbeats 4000000 in
set_option maxRecDepth 100000 in
theorem l_K_mz {p : Program} {l : Launch} {e : Env} {s : State} {m : MethodId} {args : Array Value} {below : List Frame} {meth : Method} {c : Code} {Q : State → Prop} {A : Nat → Prop} {D : va_G} {cs : ClassId × ClassId × ClassId × ClassId} (C : CX p s m args c c_K_makeLengths 5 RK D cs A) (al k ko kp kr ks bc rs : Nat) (ra : Nat → Nat) (ct od ln : Nat → Nat) (cd : Nat) (rv sv : Nat → Nat) (pl : Nat → Nat → Nat) (mo : Nat) 
    (K : ∀ l2 : Nat → Nat, (∀ j, j < 48 → l2 j = 0) → GO p l e { frames := 1, cells := 0, slots := 0, locals := 28 } s m args below meth c 0 0 Q A D 5 21 [(0, .ref k), (1, .ref bc), (2, .int (nI (mo))), (3, .ref al)] [] ([(k, .inr (0, [.ref ko, .ref kp, .ref kr, .ref ks, .int (nI (rs)), .int (nI (cd))])), (ko, .inl (cs.1, 48, .inl (fun j => nI (od j)))), (bc, .inl (cs.2.1, 48, .inr (.inl (fun j => lN (ct j))))), (kp, .inl (cs.2.2.2, 16, .inr (.inr (.inr (.inr (fun i => some (ra i))))))), (kr, .inl (cs.2.1, 96, .inr (.inl (fun j => lN (rv j))))), (ks, .inl (cs.2.1, 96, .inr (.inl (fun j => lN (sv j))))), (al, .inl (cs.1, 48, .inl (fun j => nI (l2 j))))] ++ rowsW cs.1 ra (pl)))
    : ∀ (n : Nat) (i : Nat) (l2 : Nat → Nat), 48 - i = n → (i ≤ 48) → (∀ j, j < i → l2 j = 0) → GO p l e { frames := 1, cells := 0, slots := 0, locals := 28 } s m args below meth c 0 0 Q A D 5 3 [(0, .ref k), (1, .ref bc), (2, .int (nI (mo))), (3, .ref al), (4, .int (nI (i)))] [] ([(k, .inr (0, [.ref ko, .ref kp, .ref kr, .ref ks, .int (nI (rs)), .int (nI (cd))])), (ko, .inl (cs.1, 48, .inl (fun j => nI (od j)))), (bc, .inl (cs.2.1, 48, .inr (.inl (fun j => lN (ct j))))), (kp, .inl (cs.2.2.2, 16, .inr (.inr (.inr (.inr (fun i => some (ra i))))))), (kr, .inl (cs.2.1, 96, .inr (.inl (fun j => lN (rv j))))), (ks, .inl (cs.2.1, 96, .inr (.inl (fun j => lN (sv j))))), (al, .inl (cs.1, 48, .inl (fun j => nI (l2 j))))] ++ rowsW cs.1 ra (pl)) := by
  intro n
  induction n using Nat.strongRecOn with
  | _ n ih =>
  intro i  l2  hn hi hq
  refine g_iload C d_K_makeLengths_3 4 rfl ?_
  refine g_bipush C (v := nI 48) d_K_makeLengths_5 rfl ?_
  refine n_icmp_ge C 21 d_K_makeLengths_7 (by decide) (by omega) (by omega) (fun h7 => ?_) (fun h7 => ?_)
  · refine g_lv (lv' := [(0, .ref k), (1, .ref bc), (2, .int (nI (mo))), (3, .ref al)]) [0, 1, 2, 3] rfl ?_
    exact K l2 (fun j hj => hq j (by omega))
  · refine g_aload_n C d_K_makeLengths_10 3 rfl rfl ?_
    refine g_iload C d_K_makeLengths_11 4 rfl ?_
    refine g_iconst C (v := nI 0) d_K_makeLengths_13 rfl ?_
    refine n_iast C (ws' := ([(k, .inr (0, [.ref ko, .ref kp, .ref kr, .ref ks, .int (nI (rs)), .int (nI (cd))])), (ko, .inl (cs.1, 48, .inl (fun j => nI (od j)))), (bc, .inl (cs.2.1, 48, .inr (.inl (fun j => lN (ct j))))), (kp, .inl (cs.2.2.2, 16, .inr (.inr (.inr (.inr (fun i => some (ra i))))))), (kr, .inl (cs.2.1, 96, .inr (.inl (fun j => lN (rv j))))), (ks, .inl (cs.2.1, 96, .inr (.inl (fun j => lN (sv j))))), (al, .inl (cs.1, 48, .inl (fun j => nI ((updN (l2) (i) (0)) j))))] ++ rowsW cs.1 ra (pl))) 6 rfl (by omega) (by decide) rfl d_K_makeLengths_14 ?_
    refine g_iinc C (lv' := [(4, .int (nI (i + 1))), (0, .ref k), (1, .ref bc), (2, .int (nI (mo))), (3, .ref al)]) (k := 4) d_K_makeLengths_15 rfl (nI_1 _) (by decide) rfl ?_
    refine g_goto C 3 d_K_makeLengths_18 (by decide) ?_
    refine g_lv (lv' := [(0, .ref k), (1, .ref bc), (2, .int (nI (mo))), (3, .ref al), (4, .int (nI (i + 1)))]) [1, 2, 3, 4, 0] rfl ?_
    exact ih (48 - (i + 1)) (by omega) (i + 1) _ rfl (by omega) (fun j hj => by unfold updN; split; rfl; exact hq j (by omega))
set_option maxHeartbeats 4000000 in
set_option maxRecDepth 100000 in
theorem l_K_mr {p : Program} {l : Launch} {e : Env} {s : State} {m : MethodId} {args : Array Value} {below : List Frame} {meth : Method} {c : Code} {Q : State → Prop} {A : Nat → Prop} {D : va_G} {cs : ClassId × ClassId × ClassId × ClassId} (C : CX p s m args c c_K_makeLengths 5 RK D cs A) (al k ko kp kr ks bc rs : Nat) (ra : Nat → Nat) (ct od ln : Nat → Nat) (cd : Nat) (rv sv : Nat → Nat) (pl : Nat → Nat → Nat) (mo : Nat) (hcd : cd ≤ 48) (hct : ∀ j, j < 48 → ct j ≤ 1000000000) (hod : ∀ j, j < cd → od j < 48) (hmo : mo ≤ 16)
    (K : GO p l e { frames := 1, cells := 0, slots := 0, locals := 28 } s m args below meth c 0 0 Q A D 5 74 [(0, .ref k), (1, .ref bc), (2, .int (nI (mo))), (3, .ref al)] [] ([(k, .inr (0, [.ref ko, .ref kp, .ref (if mo % 2 = 0 then kr else ks), .ref (if mo % 2 = 0 then ks else kr), .int (nI ((rwst ct od cd rv sv mo).2.2)), .int (nI (cd))])), (ko, .inl (cs.1, 48, .inl (fun j => nI (od j)))), (bc, .inl (cs.2.1, 48, .inr (.inl (fun j => lN (ct j))))), (kp, .inl (cs.2.2.2, 16, .inr (.inr (.inr (.inr (fun i => some (ra i))))))), (kr, .inl (cs.2.1, 96, .inr (.inl (fun j => lN ((if mo % 2 = 0 then (rwst ct od cd rv sv mo).1 else (rwst ct od cd rv sv mo).2.1) j))))), (ks, .inl (cs.2.1, 96, .inr (.inl (fun j => lN ((if mo % 2 = 0 then (rwst ct od cd rv sv mo).2.1 else (rwst ct od cd rv sv mo).1) j))))), (al, .inl (cs.1, 48, .inl (fun j => nI (ln j))))] ++ rowsW cs.1 ra (plst ct od cd rv sv pl mo)))
    : ∀ (n i : Nat), mo - i = n → i ≤ mo → GO p l e { frames := 1, cells := 0, slots := 0, locals := 28 } s m args below meth c 0 0 Q A D 5 55 [(0, .ref k), (1, .ref bc), (2, .int (nI (mo))), (3, .ref al), (4, .int (nI (i)))] [] ([(k, .inr (0, [.ref ko, .ref kp, .ref (if i % 2 = 0 then kr else ks), .ref (if i % 2 = 0 then ks else kr), .int (nI ((rwst ct od cd rv sv i).2.2)), .int (nI (cd))])), (ko, .inl (cs.1, 48, .inl (fun j => nI (od j)))), (bc, .inl (cs.2.1, 48, .inr (.inl (fun j => lN (ct j))))), (kp, .inl (cs.2.2.2, 16, .inr (.inr (.inr (.inr (fun i => some (ra i))))))), (kr, .inl (cs.2.1, 96, .inr (.inl (fun j => lN ((if i % 2 = 0 then (rwst ct od cd rv sv i).1 else (rwst ct od cd rv sv i).2.1) j))))), (ks, .inl (cs.2.1, 96, .inr (.inl (fun j => lN ((if i % 2 = 0 then (rwst ct od cd rv sv i).2.1 else (rwst ct od cd rv sv i).1) j))))), (al, .inl (cs.1, 48, .inl (fun j => nI (ln j))))] ++ rowsW cs.1 ra (plst ct od cd rv sv pl i)) := by
  intro n
  induction n using Nat.strongRecOn with
  | _ n ih =>
  intro i hn hi
  have hsz := rwst_sz (ct := ct) (od := od) (n := cd) (rv := rv) (sv := sv) i
  have hbd : i < 16 → ∀ j, j < (rwst ct od cd rv sv i).2.2 → (rwst ct od cd rv sv i).1 j < 2 ^ 60 := fun h16 j hj => by
    have h1 := rwst_bd (rv := rv) (sv := sv) hct hod i j hj
    have h2 : 2 ^ i ≤ 2 ^ 16 := Nat.pow_le_pow_right (by omega) (by omega)
    omega
  refine g_iload C d_K_makeLengths_55 4 rfl ?_
  refine g_iload_n C d_K_makeLengths_57 2 rfl rfl ?_
  refine n_icmp_ge C 74 d_K_makeLengths_58 (by decide) (by omega) (by omega) (fun h58 => ?_) (fun h58 => ?_)
  · refine g_lv (lv' := [(0, .ref k), (1, .ref bc), (2, .int (nI (mo))), (3, .ref al)]) [0, 1, 2, 3] rfl ?_
    have e9 : i = mo := by omega
    subst e9
    exact K
  · rcases Nat.mod_two_eq_zero_or_one i with hp | hp
    · refine g_ws (ws' := ([(k, .inr (0, [.ref ko, .ref kp, .ref kr, .ref ks, .int (nI ((rwst ct od cd rv sv i).2.2)), .int (nI (cd))])), (ko, .inl (cs.1, 48, .inl (fun j => nI (od j)))), (bc, .inl (cs.2.1, 48, .inr (.inl (fun j => lN (ct j))))), (kp, .inl (cs.2.2.2, 16, .inr (.inr (.inr (.inr (fun i => some (ra i))))))), (kr, .inl (cs.2.1, 96, .inr (.inl (fun j => lN ((rwst ct od cd rv sv i).1 j))))), (ks, .inl (cs.2.1, 96, .inr (.inl (fun j => lN ((rwst ct od cd rv sv i).2.1 j))))), (al, .inl (cs.1, 48, .inl (fun j => nI (ln j))))] ++ rowsW cs.1 ra (plst ct od cd rv sv pl i))) (by rw [if_pos hp, if_pos hp, if_pos hp, if_pos hp]) ?_
      refine g_aload_n C d_K_makeLengths_61 0 rfl rfl ?_
      refine g_iload C d_K_makeLengths_62 4 rfl ?_
      refine g_aload_n C d_K_makeLengths_64 1 rfl rfl ?_
      refine g_callVvT C (n := 2) (X := [(k, .inr (0, [.ref ko, .ref kp, .ref kr, .ref ks, .int (nI ((rwst ct od cd rv sv i).2.2)), .int (nI (cd))])), (ko, .inl (cs.1, 48, .inl (fun j => nI (od j)))), (bc, .inl (cs.2.1, 48, .inr (.inl (fun j => lN (ct j))))), (kp, .inl (cs.2.2.2, 16, .inr (.inr (.inr (.inr (fun i => some (ra i))))))), (kr, .inl (cs.2.1, 96, .inr (.inl (fun j => lN ((rwst ct od cd rv sv i).1 j))))), (ks, .inl (cs.2.1, 96, .inr (.inl (fun j => lN ((rwst ct od cd rv sv i).2.1 j))))), (al, .inl (cs.1, 48, .inl (fun j => nI (ln j))))]) (X' := [(k, .inr (0, [.ref ko, .ref kp, .ref ks, .ref kr, .int (nI (cd + (rwst ct od cd rv sv i).2.2 / 2)), .int (nI (cd))])), (ko, .inl (cs.1, 48, .inl (fun j => nI (od j)))), (bc, .inl (cs.2.1, 48, .inr (.inl (fun j => lN (ct j))))), (kp, .inl (cs.2.2.2, 16, .inr (.inr (.inr (.inr (fun i => some (ra i))))))), (kr, .inl (cs.2.1, 96, .inr (.inl (fun j => lN ((rwst ct od cd rv sv i).1 j))))), (ks, .inl (cs.2.1, 96, .inr (.inl (fun j => lN ((rwp (ct) (od) ((rwst ct od cd rv sv i).1) (cd) ((rwst ct od cd rv sv i).2.2 / 2) ((rwst ct od cd rv sv i).2.1) (cd + (rwst ct od cd rv sv i).2.2 / 2)) j))))), (al, .inl (cs.1, 48, .inl (fun j => nI (ln j))))]) (As := [.int (nI (i)), .ref bc]) (rest := []) (m_K_buildRow l D cs k ko kp kr ks bc ((rwst ct od cd rv sv i).2.2) ra (ct) (od) (cd) ((rwst ct od cd rv sv i).1) ((rwst ct od cd rv sv i).2.1) (plst ct od cd rv sv pl i) (i) hcd (by omega) (by omega) hct hod (hbd (by omega))) tw_321 tw_323 ts_10 tw_2 tw_324 rfl 0 rfl rfl (by decide +kernel) rfl ⟨rfl, rfl, by decide, by decide, by decide⟩ rfl [0, 1, 2, 3, 4, 5] [7, 8, 9, 10, 11, 12, 13, 14, 15, 16, 17, 18, 19, 20, 21, 22] rfl (by rw [rowsW_len]; rfl) rfl (rowsW_adr _ _ _ _) (by decide) (Nat.le_of_ble_eq_true rfl) rfl d_K_makeLengths_65 ?_
      refine g_iinc C (lv' := [(4, .int (nI (i + 1))), (0, .ref k), (1, .ref bc), (2, .int (nI (mo))), (3, .ref al)]) (k := 4) d_K_makeLengths_68 rfl (nI_1 _) (by decide) rfl ?_
      refine g_goto C 55 d_K_makeLengths_71 (by decide) ?_
      refine g_lv (lv' := [(0, .ref k), (1, .ref bc), (2, .int (nI (mo))), (3, .ref al), (4, .int (nI (i + 1)))]) [1, 2, 3, 4, 0] rfl ?_
      have hg := ih (mo - (i + 1)) (by omega) (i + 1) rfl (by omega)
      rw [if_neg (show ¬ (i + 1) % 2 = 0 by omega), if_neg (show ¬ (i + 1) % 2 = 0 by omega), if_neg (show ¬ (i + 1) % 2 = 0 by omega), if_neg (show ¬ (i + 1) % 2 = 0 by omega)] at hg
      exact hg
    · refine g_ws (ws' := ([(k, .inr (0, [.ref ko, .ref kp, .ref ks, .ref kr, .int (nI ((rwst ct od cd rv sv i).2.2)), .int (nI (cd))])), (ko, .inl (cs.1, 48, .inl (fun j => nI (od j)))), (bc, .inl (cs.2.1, 48, .inr (.inl (fun j => lN (ct j))))), (kp, .inl (cs.2.2.2, 16, .inr (.inr (.inr (.inr (fun i => some (ra i))))))), (kr, .inl (cs.2.1, 96, .inr (.inl (fun j => lN ((rwst ct od cd rv sv i).2.1 j))))), (ks, .inl (cs.2.1, 96, .inr (.inl (fun j => lN ((rwst ct od cd rv sv i).1 j))))), (al, .inl (cs.1, 48, .inl (fun j => nI (ln j))))] ++ rowsW cs.1 ra (plst ct od cd rv sv pl i))) (by rw [if_neg (show ¬ i % 2 = 0 by omega), if_neg (show ¬ i % 2 = 0 by omega), if_neg (show ¬ i % 2 = 0 by omega), if_neg (show ¬ i % 2 = 0 by omega)]) ?_
      refine g_aload_n C d_K_makeLengths_61 0 rfl rfl ?_
      refine g_iload C d_K_makeLengths_62 4 rfl ?_
      refine g_aload_n C d_K_makeLengths_64 1 rfl rfl ?_
      refine g_callVvT C (n := 2) (X := [(k, .inr (0, [.ref ko, .ref kp, .ref ks, .ref kr, .int (nI ((rwst ct od cd rv sv i).2.2)), .int (nI (cd))])), (ko, .inl (cs.1, 48, .inl (fun j => nI (od j)))), (bc, .inl (cs.2.1, 48, .inr (.inl (fun j => lN (ct j))))), (kp, .inl (cs.2.2.2, 16, .inr (.inr (.inr (.inr (fun i => some (ra i))))))), (kr, .inl (cs.2.1, 96, .inr (.inl (fun j => lN ((rwst ct od cd rv sv i).2.1 j))))), (ks, .inl (cs.2.1, 96, .inr (.inl (fun j => lN ((rwst ct od cd rv sv i).1 j))))), (al, .inl (cs.1, 48, .inl (fun j => nI (ln j))))]) (X' := [(k, .inr (0, [.ref ko, .ref kp, .ref kr, .ref ks, .int (nI (cd + (rwst ct od cd rv sv i).2.2 / 2)), .int (nI (cd))])), (ko, .inl (cs.1, 48, .inl (fun j => nI (od j)))), (bc, .inl (cs.2.1, 48, .inr (.inl (fun j => lN (ct j))))), (kp, .inl (cs.2.2.2, 16, .inr (.inr (.inr (.inr (fun i => some (ra i))))))), (kr, .inl (cs.2.1, 96, .inr (.inl (fun j => lN ((rwp (ct) (od) ((rwst ct od cd rv sv i).1) (cd) ((rwst ct od cd rv sv i).2.2 / 2) ((rwst ct od cd rv sv i).2.1) (cd + (rwst ct od cd rv sv i).2.2 / 2)) j))))), (ks, .inl (cs.2.1, 96, .inr (.inl (fun j => lN ((rwst ct od cd rv sv i).1 j))))), (al, .inl (cs.1, 48, .inl (fun j => nI (ln j))))]) (As := [.int (nI (i)), .ref bc]) (rest := []) (m_K_buildRow l D cs k ko kp ks kr bc ((rwst ct od cd rv sv i).2.2) ra (ct) (od) (cd) ((rwst ct od cd rv sv i).1) ((rwst ct od cd rv sv i).2.1) (plst ct od cd rv sv pl i) (i) hcd (by omega) (by omega) hct hod (hbd (by omega))) tw_321 tw_323 ts_10 tw_2 tw_324 rfl 0 rfl rfl (by decide +kernel) rfl ⟨rfl, rfl, by decide, by decide, by decide⟩ rfl [0, 1, 2, 3, 5, 4] [7, 8, 9, 10, 11, 12, 13, 14, 15, 16, 17, 18, 19, 20, 21, 22] rfl (by rw [rowsW_len]; rfl) rfl (rowsW_adr _ _ _ _) (by decide) (Nat.le_of_ble_eq_true rfl) rfl d_K_makeLengths_65 ?_
      refine g_iinc C (lv' := [(4, .int (nI (i + 1))), (0, .ref k), (1, .ref bc), (2, .int (nI (mo))), (3, .ref al)]) (k := 4) d_K_makeLengths_68 rfl (nI_1 _) (by decide) rfl ?_
      refine g_goto C 55 d_K_makeLengths_71 (by decide) ?_
      refine g_lv (lv' := [(0, .ref k), (1, .ref bc), (2, .int (nI (mo))), (3, .ref al), (4, .int (nI (i + 1)))]) [1, 2, 3, 4, 0] rfl ?_
      have hg := ih (mo - (i + 1)) (by omega) (i + 1) rfl (by omega)
      rw [if_pos (show (i + 1) % 2 = 0 by omega), if_pos (show (i + 1) % 2 = 0 by omega), if_pos (show (i + 1) % 2 = 0 by omega), if_pos (show (i + 1) % 2 = 0 by omega)] at hg
      exact hg
end
section
set_option maxHeartbeats 4000000 in
set_option maxRecDepth 100000 in
theorem m_K_makeLengths_0 (l : Launch) (D : va_G) (cs : ClassId × ClassId × ClassId × ClassId) (al k ko kp kr ks bc rs : Nat) (ra : Nat → Nat) (ct od ln : Nat → Nat) (cd : Nat) (rv sv : Nat → Nat) (pl : Nat → Nat → Nat) (mo : Nat) (h0 : cd = 0) : MG l y_K_makeLengths k_K_makeLengths { frames := 1, cells := 0, slots := 0, locals := 28 } D cs [.ref k, .ref bc, .int (nI (mo)), .ref al] ([(k, .inr (0, [.ref ko, .ref kp, .ref kr, .ref ks, .int (nI (rs)), .int (nI (cd))])), (ko, .inl (cs.1, 48, .inl (fun j => nI (od j)))), (bc, .inl (cs.2.1, 48, .inr (.inl (fun j => lN (ct j))))), (kp, .inl (cs.2.2.2, 16, .inr (.inr (.inr (.inr (fun i => some (ra i))))))), (kr, .inl (cs.2.1, 96, .inr (.inl (fun j => lN (rv j))))), (ks, .inl (cs.2.1, 96, .inr (.inl (fun j => lN (sv j))))), (al, .inl (cs.1, 48, .inl (fun j => nI (ln j))))] ++ rowsW cs.1 ra (pl)) (QV D ([(k, .inr (0, [.ref ko, .ref kp, .ref kr, .ref ks, .int (nI (rs)), .int (nI (cd))])), (ko, .inl (cs.1, 48, .inl (fun j => nI (od j)))), (bc, .inl (cs.2.1, 48, .inr (.inl (fun j => lN (ct j))))), (kp, .inl (cs.2.2.2, 16, .inr (.inr (.inr (.inr (fun i => some (ra i))))))), (kr, .inl (cs.2.1, 96, .inr (.inl (fun j => lN (rv j))))), (ks, .inl (cs.2.1, 96, .inr (.inl (fun j => lN (sv j))))), (al, .inl (cs.1, 48, .inl (fun j => nI ((fun _ => 0) j))))] ++ rowsW cs.1 ra (pl))) := by
  refine MG.mk (own := RK) (by decide) rfl (Nat.le_of_ble_eq_true rfl) ?_
  intro p e s m below meth c A C hr hlk
  refine g_lv (lv' := [(0, .ref k), (1, .ref bc), (2, .int (nI (mo))), (3, .ref al)]) [0, 1, 2, 3] rfl ?_
  refine g_iconst C (v := nI 0) d_K_makeLengths_0 rfl ?_
  refine g_istore C (lv' := [(4, .int (nI (0))), (0, .ref k), (1, .ref bc), (2, .int (nI (mo))), (3, .ref al)]) d_K_makeLengths_1 (by decide) rfl ?_
  refine g_lv (lv' := [(0, .ref k), (1, .ref bc), (2, .int (nI (mo))), (3, .ref al), (4, .int (nI (0)))]) [1, 2, 3, 4, 0] rfl ?_
  refine l_K_mz C al k ko kp kr ks bc rs ra ct od ln cd rv sv pl mo ?_ _ 0 ln rfl (by omega) (fun j hj => absurd hj (by omega))
  intro l2 hl2
  refine n_ci (f2 := fun _ => 0) (ws' := ([(k, .inr (0, [.ref ko, .ref kp, .ref kr, .ref ks, .int (nI (rs)), .int (nI (cd))])), (ko, .inl (cs.1, 48, .inl (fun j => nI (od j)))), (bc, .inl (cs.2.1, 48, .inr (.inl (fun j => lN (ct j))))), (kp, .inl (cs.2.2.2, 16, .inr (.inr (.inr (.inr (fun i => some (ra i))))))), (kr, .inl (cs.2.1, 96, .inr (.inl (fun j => lN (rv j))))), (ks, .inl (cs.2.1, 96, .inr (.inl (fun j => lN (sv j))))), (al, .inl (cs.1, 48, .inl (fun j => nI ((fun _ => 0) j))))] ++ rowsW cs.1 ra (pl))) 6 rfl (fun j hj => hl2 j hj) rfl ?_
  refine g_aload_n C d_K_makeLengths_21 0 rfl rfl ?_
  refine g_get C (T := FK) (N := 6) 0 5 inK rfl rfl (by decide) tw_34 rfl rfl d_K_makeLengths_22 ?_
  refine g_iconst C (v := nI 1) d_K_makeLengths_25 rfl ?_
  refine n_icmp_ne C 38 d_K_makeLengths_26 (by decide) (by omega) (by omega) (fun _ => ?_) (fun h => absurd h (by omega))
  refine g_aload_n C d_K_makeLengths_38 0 rfl rfl ?_
  refine g_get C (T := FK) (N := 6) 0 5 inK rfl rfl (by decide) tw_34 rfl rfl d_K_makeLengths_39 ?_
  refine g_iconst C (v := nI 2) d_K_makeLengths_42 rfl ?_
  refine n_icmp_ge C 47 d_K_makeLengths_43 (by decide) (by omega) (by omega) (fun h => absurd h (by omega)) (fun _ => ?_)
  exact g_vret C hr hlk rfl d_K_makeLengths_46
set_option maxHeartbeats 4000000 in
set_option maxRecDepth 100000 in
theorem m_K_makeLengths_1 (l : Launch) (D : va_G) (cs : ClassId × ClassId × ClassId × ClassId) (al k ko kp kr ks bc rs : Nat) (ra : Nat → Nat) (ct od ln : Nat → Nat) (cd : Nat) (rv sv : Nat → Nat) (pl : Nat → Nat → Nat) (mo : Nat) (h0 : cd = 1) (hod : od 0 < 48) : MG l y_K_makeLengths k_K_makeLengths { frames := 1, cells := 0, slots := 0, locals := 28 } D cs [.ref k, .ref bc, .int (nI (mo)), .ref al] ([(k, .inr (0, [.ref ko, .ref kp, .ref kr, .ref ks, .int (nI (rs)), .int (nI (cd))])), (ko, .inl (cs.1, 48, .inl (fun j => nI (od j)))), (bc, .inl (cs.2.1, 48, .inr (.inl (fun j => lN (ct j))))), (kp, .inl (cs.2.2.2, 16, .inr (.inr (.inr (.inr (fun i => some (ra i))))))), (kr, .inl (cs.2.1, 96, .inr (.inl (fun j => lN (rv j))))), (ks, .inl (cs.2.1, 96, .inr (.inl (fun j => lN (sv j))))), (al, .inl (cs.1, 48, .inl (fun j => nI (ln j))))] ++ rowsW cs.1 ra (pl)) (QV D ([(k, .inr (0, [.ref ko, .ref kp, .ref kr, .ref ks, .int (nI (rs)), .int (nI (cd))])), (ko, .inl (cs.1, 48, .inl (fun j => nI (od j)))), (bc, .inl (cs.2.1, 48, .inr (.inl (fun j => lN (ct j))))), (kp, .inl (cs.2.2.2, 16, .inr (.inr (.inr (.inr (fun i => some (ra i))))))), (kr, .inl (cs.2.1, 96, .inr (.inl (fun j => lN (rv j))))), (ks, .inl (cs.2.1, 96, .inr (.inl (fun j => lN (sv j))))), (al, .inl (cs.1, 48, .inl (fun j => nI ((updN ((fun _ => 0)) (od (0)) (1)) j))))] ++ rowsW cs.1 ra (pl))) := by
  refine MG.mk (own := RK) (by decide) rfl (Nat.le_of_ble_eq_true rfl) ?_
  intro p e s m below meth c A C hr hlk
  refine g_lv (lv' := [(0, .ref k), (1, .ref bc), (2, .int (nI (mo))), (3, .ref al)]) [0, 1, 2, 3] rfl ?_
  refine g_iconst C (v := nI 0) d_K_makeLengths_0 rfl ?_
  refine g_istore C (lv' := [(4, .int (nI (0))), (0, .ref k), (1, .ref bc), (2, .int (nI (mo))), (3, .ref al)]) d_K_makeLengths_1 (by decide) rfl ?_
  refine g_lv (lv' := [(0, .ref k), (1, .ref bc), (2, .int (nI (mo))), (3, .ref al), (4, .int (nI (0)))]) [1, 2, 3, 4, 0] rfl ?_
  refine l_K_mz C al k ko kp kr ks bc rs ra ct od ln cd rv sv pl mo ?_ _ 0 ln rfl (by omega) (fun j hj => absurd hj (by omega))
  intro l2 hl2
  refine n_ci (f2 := fun _ => 0) (ws' := ([(k, .inr (0, [.ref ko, .ref kp, .ref kr, .ref ks, .int (nI (rs)), .int (nI (cd))])), (ko, .inl (cs.1, 48, .inl (fun j => nI (od j)))), (bc, .inl (cs.2.1, 48, .inr (.inl (fun j => lN (ct j))))), (kp, .inl (cs.2.2.2, 16, .inr (.inr (.inr (.inr (fun i => some (ra i))))))), (kr, .inl (cs.2.1, 96, .inr (.inl (fun j => lN (rv j))))), (ks, .inl (cs.2.1, 96, .inr (.inl (fun j => lN (sv j))))), (al, .inl (cs.1, 48, .inl (fun j => nI ((fun _ => 0) j))))] ++ rowsW cs.1 ra (pl))) 6 rfl (fun j hj => hl2 j hj) rfl ?_
  refine g_aload_n C d_K_makeLengths_21 0 rfl rfl ?_
  refine g_get C (T := FK) (N := 6) 0 5 inK rfl rfl (by decide) tw_34 rfl rfl d_K_makeLengths_22 ?_
  refine g_iconst C (v := nI 1) d_K_makeLengths_25 rfl ?_
  refine n_icmp_ne C 38 d_K_makeLengths_26 (by decide) (by omega) (by omega) (fun h => absurd h (by omega)) (fun _ => ?_)
  refine g_aload_n C d_K_makeLengths_29 3 rfl rfl ?_
  refine g_aload_n C d_K_makeLengths_30 0 rfl rfl ?_
  refine g_get C (T := FK) (N := 6) 0 0 inK rfl rfl (by decide) tw_29 rfl rfl d_K_makeLengths_31 ?_
  refine g_iconst C (v := nI 0) d_K_makeLengths_34 rfl ?_
  refine g_iald C 1 rfl (by omega) (by decide) d_K_makeLengths_35 ?_
  refine g_iconst C (v := nI 1) d_K_makeLengths_36 rfl ?_
  refine n_iast C (ws' := ([(k, .inr (0, [.ref ko, .ref kp, .ref kr, .ref ks, .int (nI (rs)), .int (nI (cd))])), (ko, .inl (cs.1, 48, .inl (fun j => nI (od j)))), (bc, .inl (cs.2.1, 48, .inr (.inl (fun j => lN (ct j))))), (kp, .inl (cs.2.2.2, 16, .inr (.inr (.inr (.inr (fun i => some (ra i))))))), (kr, .inl (cs.2.1, 96, .inr (.inl (fun j => lN (rv j))))), (ks, .inl (cs.2.1, 96, .inr (.inl (fun j => lN (sv j))))), (al, .inl (cs.1, 48, .inl (fun j => nI ((updN ((fun _ => 0)) (od (0)) (1)) j))))] ++ rowsW cs.1 ra (pl))) 6 rfl hod (by decide) rfl d_K_makeLengths_37 ?_
  refine g_aload_n C d_K_makeLengths_38 0 rfl rfl ?_
  refine g_get C (T := FK) (N := 6) 0 5 inK rfl rfl (by decide) tw_34 rfl rfl d_K_makeLengths_39 ?_
  refine g_iconst C (v := nI 2) d_K_makeLengths_42 rfl ?_
  refine n_icmp_ge C 47 d_K_makeLengths_43 (by decide) (by omega) (by omega) (fun h => absurd h (by omega)) (fun _ => ?_)
  exact g_vret C hr hlk rfl d_K_makeLengths_46
set_option maxHeartbeats 4000000 in
set_option maxRecDepth 100000 in
theorem m_K_makeLengths_2 (l : Launch) (D : va_G) (cs : ClassId × ClassId × ClassId × ClassId) (al k ko kp kr ks bc rs : Nat) (ra : Nat → Nat) (ct od ln : Nat → Nat) (cd : Nat) (rv sv : Nat → Nat) (pl : Nat → Nat → Nat) (mo : Nat) (hcd : cd ≤ 48) (hct : ∀ j, j < 48 → ct j ≤ 1000000000) (hod : ∀ j, j < cd → od j < 48) (hmo : mo ≤ 16) (h2 : 2 ≤ cd) : MG l y_K_makeLengths k_K_makeLengths { frames := 1, cells := 0, slots := 0, locals := 28 } D cs [.ref k, .ref bc, .int (nI (mo)), .ref al] ([(k, .inr (0, [.ref ko, .ref kp, .ref kr, .ref ks, .int (nI (rs)), .int (nI (cd))])), (ko, .inl (cs.1, 48, .inl (fun j => nI (od j)))), (bc, .inl (cs.2.1, 48, .inr (.inl (fun j => lN (ct j))))), (kp, .inl (cs.2.2.2, 16, .inr (.inr (.inr (.inr (fun i => some (ra i))))))), (kr, .inl (cs.2.1, 96, .inr (.inl (fun j => lN (rv j))))), (ks, .inl (cs.2.1, 96, .inr (.inl (fun j => lN (sv j))))), (al, .inl (cs.1, 48, .inl (fun j => nI (ln j))))] ++ rowsW cs.1 ra (pl)) (QV D ([(k, .inr (0, [.ref ko, .ref kp, .ref (if mo % 2 = 0 then kr else ks), .ref (if mo % 2 = 0 then ks else kr), .int (nI ((rwst ct od cd rv sv mo).2.2)), .int (nI (cd))])), (ko, .inl (cs.1, 48, .inl (fun j => nI (od j)))), (bc, .inl (cs.2.1, 48, .inr (.inl (fun j => lN (ct j))))), (kp, .inl (cs.2.2.2, 16, .inr (.inr (.inr (.inr (fun i => some (ra i))))))), (kr, .inl (cs.2.1, 96, .inr (.inl (fun j => lN ((if mo % 2 = 0 then (rwst ct od cd rv sv mo).1 else (rwst ct od cd rv sv mo).2.1) j))))), (ks, .inl (cs.2.1, 96, .inr (.inl (fun j => lN ((if mo % 2 = 0 then (rwst ct od cd rv sv mo).2.1 else (rwst ct od cd rv sv mo).1) j))))), (al, .inl (cs.1, 48, .inl (fun j => nI ((ctk (plst ct od cd rv sv pl mo) (od) (cd) (mo) ((fun _ => 0)) (2 * cd - 2)) j))))] ++ rowsW cs.1 ra (plst ct od cd rv sv pl mo))) := by
  refine MG.mk (own := RK) (by decide) rfl (Nat.le_of_ble_eq_true rfl) ?_
  intro p e s m below meth c A C hr hlk
  refine g_lv (lv' := [(0, .ref k), (1, .ref bc), (2, .int (nI (mo))), (3, .ref al)]) [0, 1, 2, 3] rfl ?_
  refine g_iconst C (v := nI 0) d_K_makeLengths_0 rfl ?_
  refine g_istore C (lv' := [(4, .int (nI (0))), (0, .ref k), (1, .ref bc), (2, .int (nI (mo))), (3, .ref al)]) d_K_makeLengths_1 (by decide) rfl ?_
  refine g_lv (lv' := [(0, .ref k), (1, .ref bc), (2, .int (nI (mo))), (3, .ref al), (4, .int (nI (0)))]) [1, 2, 3, 4, 0] rfl ?_
  refine l_K_mz C al k ko kp kr ks bc rs ra ct od ln cd rv sv pl mo ?_ _ 0 ln rfl (by omega) (fun j hj => absurd hj (by omega))
  intro l2 hl2
  refine n_ci (f2 := fun _ => 0) (ws' := ([(k, .inr (0, [.ref ko, .ref kp, .ref kr, .ref ks, .int (nI (rs)), .int (nI (cd))])), (ko, .inl (cs.1, 48, .inl (fun j => nI (od j)))), (bc, .inl (cs.2.1, 48, .inr (.inl (fun j => lN (ct j))))), (kp, .inl (cs.2.2.2, 16, .inr (.inr (.inr (.inr (fun i => some (ra i))))))), (kr, .inl (cs.2.1, 96, .inr (.inl (fun j => lN (rv j))))), (ks, .inl (cs.2.1, 96, .inr (.inl (fun j => lN (sv j))))), (al, .inl (cs.1, 48, .inl (fun j => nI ((fun _ => 0) j))))] ++ rowsW cs.1 ra (pl))) 6 rfl (fun j hj => hl2 j hj) rfl ?_
  refine g_aload_n C d_K_makeLengths_21 0 rfl rfl ?_
  refine g_get C (T := FK) (N := 6) 0 5 inK rfl rfl (by decide) tw_34 rfl rfl d_K_makeLengths_22 ?_
  refine g_iconst C (v := nI 1) d_K_makeLengths_25 rfl ?_
  refine n_icmp_ne C 38 d_K_makeLengths_26 (by decide) (by omega) (by omega) (fun _ => ?_) (fun h => absurd h (by omega))
  refine g_aload_n C d_K_makeLengths_38 0 rfl rfl ?_
  refine g_get C (T := FK) (N := 6) 0 5 inK rfl rfl (by decide) tw_34 rfl rfl d_K_makeLengths_39 ?_
  refine g_iconst C (v := nI 2) d_K_makeLengths_42 rfl ?_
  refine n_icmp_ge C 47 d_K_makeLengths_43 (by decide) (by omega) (by omega) (fun _ => ?_) (fun h => absurd h (by omega))
  refine g_aload_n C d_K_makeLengths_47 0 rfl rfl ?_
  refine g_iconst C (v := nI 0) d_K_makeLengths_48 rfl ?_
  refine g_put C (T := FK) (N := 6) (ws' := ([(k, .inr (0, [.ref ko, .ref kp, .ref kr, .ref ks, .int (nI (0)), .int (nI (cd))])), (ko, .inl (cs.1, 48, .inl (fun j => nI (od j)))), (bc, .inl (cs.2.1, 48, .inr (.inl (fun j => lN (ct j))))), (kp, .inl (cs.2.2.2, 16, .inr (.inr (.inr (.inr (fun i => some (ra i))))))), (kr, .inl (cs.2.1, 96, .inr (.inl (fun j => lN (rv j))))), (ks, .inl (cs.2.1, 96, .inr (.inl (fun j => lN (sv j))))), (al, .inl (cs.1, 48, .inl (fun j => nI ((fun _ => 0) j))))] ++ rowsW cs.1 ra (pl))) 0 4 inK tyK okK nmK rfl rfl (by decide) tw_33 rfl rfl rfl rfl rfl (Nat.le_of_ble_eq_true rfl) rfl d_K_makeLengths_49 ?_
  refine g_iconst C (v := nI 0) d_K_makeLengths_52 rfl ?_
  refine g_istore C (lv' := [(4, .int (nI (0))), (0, .ref k), (1, .ref bc), (2, .int (nI (mo))), (3, .ref al)]) d_K_makeLengths_53 (by decide) rfl ?_
  refine g_ws (ws' := ([(k, .inr (0, [.ref ko, .ref kp, .ref (if 0 % 2 = 0 then kr else ks), .ref (if 0 % 2 = 0 then ks else kr), .int (nI ((rwst ct od cd rv sv 0).2.2)), .int (nI (cd))])), (ko, .inl (cs.1, 48, .inl (fun j => nI (od j)))), (bc, .inl (cs.2.1, 48, .inr (.inl (fun j => lN (ct j))))), (kp, .inl (cs.2.2.2, 16, .inr (.inr (.inr (.inr (fun i => some (ra i))))))), (kr, .inl (cs.2.1, 96, .inr (.inl (fun j => lN ((if 0 % 2 = 0 then (rwst ct od cd rv sv 0).1 else (rwst ct od cd rv sv 0).2.1) j))))), (ks, .inl (cs.2.1, 96, .inr (.inl (fun j => lN ((if 0 % 2 = 0 then (rwst ct od cd rv sv 0).2.1 else (rwst ct od cd rv sv 0).1) j))))), (al, .inl (cs.1, 48, .inl (fun j => nI ((fun _ => 0) j))))] ++ rowsW cs.1 ra (plst ct od cd rv sv pl 0))) rfl ?_
  refine g_lv (lv' := [(0, .ref k), (1, .ref bc), (2, .int (nI (mo))), (3, .ref al), (4, .int (nI (0)))]) [1, 2, 3, 4, 0] rfl ?_
  refine l_K_mr C al k ko kp kr ks bc rs ra ct od (fun _ => 0) cd rv sv pl mo hcd hct hod hmo ?_ _ 0 rfl (by omega)
  rcases Nat.mod_two_eq_zero_or_one mo with hp | hp
  · refine g_ws (ws' := ([(k, .inr (0, [.ref ko, .ref kp, .ref kr, .ref ks, .int (nI ((rwst ct od cd rv sv mo).2.2)), .int (nI (cd))])), (ko, .inl (cs.1, 48, .inl (fun j => nI (od j)))), (bc, .inl (cs.2.1, 48, .inr (.inl (fun j => lN (ct j))))), (kp, .inl (cs.2.2.2, 16, .inr (.inr (.inr (.inr (fun i => some (ra i))))))), (kr, .inl (cs.2.1, 96, .inr (.inl (fun j => lN ((rwst ct od cd rv sv mo).1 j))))), (ks, .inl (cs.2.1, 96, .inr (.inl (fun j => lN ((rwst ct od cd rv sv mo).2.1 j))))), (al, .inl (cs.1, 48, .inl (fun j => nI ((fun _ => 0) j))))] ++ rowsW cs.1 ra (plst ct od cd rv sv pl mo))) (by rw [if_pos hp, if_pos hp, if_pos hp, if_pos hp]) ?_
    refine g_aload_n C d_K_makeLengths_74 0 rfl rfl ?_
    refine g_iload_n C d_K_makeLengths_75 2 rfl rfl ?_
    refine g_aload_n C d_K_makeLengths_76 3 rfl rfl ?_
    refine g_callVvT C (n := 2) (X := [(k, .inr (0, [.ref ko, .ref kp, .ref kr, .ref ks, .int (nI ((rwst ct od cd rv sv mo).2.2)), .int (nI (cd))])), (ko, .inl (cs.1, 48, .inl (fun j => nI (od j)))), (bc, .inl (cs.2.1, 48, .inr (.inl (fun j => lN (ct j))))), (kp, .inl (cs.2.2.2, 16, .inr (.inr (.inr (.inr (fun i => some (ra i))))))), (kr, .inl (cs.2.1, 96, .inr (.inl (fun j => lN ((rwst ct od cd rv sv mo).1 j))))), (ks, .inl (cs.2.1, 96, .inr (.inl (fun j => lN ((rwst ct od cd rv sv mo).2.1 j))))), (al, .inl (cs.1, 48, .inl (fun j => nI ((fun _ => 0) j))))]) (X' := [(k, .inr (0, [.ref ko, .ref kp, .ref kr, .ref ks, .int (nI ((rwst ct od cd rv sv mo).2.2)), .int (nI (cd))])), (ko, .inl (cs.1, 48, .inl (fun j => nI (od j)))), (bc, .inl (cs.2.1, 48, .inr (.inl (fun j => lN (ct j))))), (kp, .inl (cs.2.2.2, 16, .inr (.inr (.inr (.inr (fun i => some (ra i))))))), (kr, .inl (cs.2.1, 96, .inr (.inl (fun j => lN ((rwst ct od cd rv sv mo).1 j))))), (ks, .inl (cs.2.1, 96, .inr (.inl (fun j => lN ((rwst ct od cd rv sv mo).2.1 j))))), (al, .inl (cs.1, 48, .inl (fun j => nI ((ctk (plst ct od cd rv sv pl mo) (od) (cd) (mo) ((fun _ => 0)) (2 * cd - 2)) j))))]) (As := [.int (nI (mo)), .ref al]) (rest := []) (m_K_countTaken l D cs al k ko kp kr ks bc ((rwst ct od cd rv sv mo).2.2) ra (ct) (od) ((fun _ => 0)) (cd) ((rwst ct od cd rv sv mo).1) ((rwst ct od cd rv sv mo).2.1) (plst ct od cd rv sv pl mo) (mo) hcd h2 hod hmo (fun i hi j hj => by have := plst_at (ct := ct) (od := od) (n := cd) (rv := rv) (sv := sv) (pl := pl) mo i hi j hj; omega)) tw_326 tw_328 ts_11 tw_2 tw_329 rfl 0 rfl rfl (by decide +kernel) rfl ⟨rfl, rfl, by decide, by decide, by decide⟩ rfl [0, 1, 2, 3, 4, 5, 6] [7, 8, 9, 10, 11, 12, 13, 14, 15, 16, 17, 18, 19, 20, 21, 22] rfl (by rw [rowsW_len]; rfl) rfl (rowsW_adr _ _ _ _) (by decide) (Nat.le_of_ble_eq_true rfl) rfl d_K_makeLengths_77 ?_
    exact g_vret C hr hlk (by rw [if_pos hp, if_pos hp, if_pos hp, if_pos hp]) d_K_makeLengths_80
  · refine g_ws (ws' := ([(k, .inr (0, [.ref ko, .ref kp, .ref ks, .ref kr, .int (nI ((rwst ct od cd rv sv mo).2.2)), .int (nI (cd))])), (ko, .inl (cs.1, 48, .inl (fun j => nI (od j)))), (bc, .inl (cs.2.1, 48, .inr (.inl (fun j => lN (ct j))))), (kp, .inl (cs.2.2.2, 16, .inr (.inr (.inr (.inr (fun i => some (ra i))))))), (kr, .inl (cs.2.1, 96, .inr (.inl (fun j => lN ((rwst ct od cd rv sv mo).2.1 j))))), (ks, .inl (cs.2.1, 96, .inr (.inl (fun j => lN ((rwst ct od cd rv sv mo).1 j))))), (al, .inl (cs.1, 48, .inl (fun j => nI ((fun _ => 0) j))))] ++ rowsW cs.1 ra (plst ct od cd rv sv pl mo))) (by rw [if_neg (show ¬ mo % 2 = 0 by omega), if_neg (show ¬ mo % 2 = 0 by omega), if_neg (show ¬ mo % 2 = 0 by omega), if_neg (show ¬ mo % 2 = 0 by omega)]) ?_
    refine g_aload_n C d_K_makeLengths_74 0 rfl rfl ?_
    refine g_iload_n C d_K_makeLengths_75 2 rfl rfl ?_
    refine g_aload_n C d_K_makeLengths_76 3 rfl rfl ?_
    refine g_callVvT C (n := 2) (X := [(k, .inr (0, [.ref ko, .ref kp, .ref ks, .ref kr, .int (nI ((rwst ct od cd rv sv mo).2.2)), .int (nI (cd))])), (ko, .inl (cs.1, 48, .inl (fun j => nI (od j)))), (bc, .inl (cs.2.1, 48, .inr (.inl (fun j => lN (ct j))))), (kp, .inl (cs.2.2.2, 16, .inr (.inr (.inr (.inr (fun i => some (ra i))))))), (kr, .inl (cs.2.1, 96, .inr (.inl (fun j => lN ((rwst ct od cd rv sv mo).2.1 j))))), (ks, .inl (cs.2.1, 96, .inr (.inl (fun j => lN ((rwst ct od cd rv sv mo).1 j))))), (al, .inl (cs.1, 48, .inl (fun j => nI ((fun _ => 0) j))))]) (X' := [(k, .inr (0, [.ref ko, .ref kp, .ref ks, .ref kr, .int (nI ((rwst ct od cd rv sv mo).2.2)), .int (nI (cd))])), (ko, .inl (cs.1, 48, .inl (fun j => nI (od j)))), (bc, .inl (cs.2.1, 48, .inr (.inl (fun j => lN (ct j))))), (kp, .inl (cs.2.2.2, 16, .inr (.inr (.inr (.inr (fun i => some (ra i))))))), (kr, .inl (cs.2.1, 96, .inr (.inl (fun j => lN ((rwst ct od cd rv sv mo).2.1 j))))), (ks, .inl (cs.2.1, 96, .inr (.inl (fun j => lN ((rwst ct od cd rv sv mo).1 j))))), (al, .inl (cs.1, 48, .inl (fun j => nI ((ctk (plst ct od cd rv sv pl mo) (od) (cd) (mo) ((fun _ => 0)) (2 * cd - 2)) j))))]) (As := [.int (nI (mo)), .ref al]) (rest := []) (m_K_countTaken l D cs al k ko kp ks kr bc ((rwst ct od cd rv sv mo).2.2) ra (ct) (od) ((fun _ => 0)) (cd) ((rwst ct od cd rv sv mo).1) ((rwst ct od cd rv sv mo).2.1) (plst ct od cd rv sv pl mo) (mo) hcd h2 hod hmo (fun i hi j hj => by have := plst_at (ct := ct) (od := od) (n := cd) (rv := rv) (sv := sv) (pl := pl) mo i hi j hj; omega)) tw_326 tw_328 ts_11 tw_2 tw_329 rfl 0 rfl rfl (by decide +kernel) rfl ⟨rfl, rfl, by decide, by decide, by decide⟩ rfl [0, 1, 2, 3, 5, 4, 6] [7, 8, 9, 10, 11, 12, 13, 14, 15, 16, 17, 18, 19, 20, 21, 22] rfl (by rw [rowsW_len]; rfl) rfl (rowsW_adr _ _ _ _) (by decide) (Nat.le_of_ble_eq_true rfl) rfl d_K_makeLengths_77 ?_
    exact g_vret C hr hlk (by rw [if_neg (show ¬ mo % 2 = 0 by omega), if_neg (show ¬ mo % 2 = 0 by omega), if_neg (show ¬ mo % 2 = 0 by omega), if_neg (show ¬ mo % 2 = 0 by omega)]) d_K_makeLengths_80
end
