/-- numbers in arrays -/
def updN (f : Nat → Nat) (k v : Nat) : Nat → Nat := fun j => if j = k then v else f j
theorem updN_s {f : Nat → Nat} {k v : Nat} : updN f k v k = v := if_pos rfl
theorem updN_n {f : Nat → Nat} {k v j : Nat} (h : j ≠ k) : updN f k v j = f j := if_neg h
theorem upd_nI (f : Nat → Nat) (k v : Nat) : upd (fun j => nI (f j)) k (nI v) = fun j => nI (updN f k v j) := by
  funext j; unfold upd updN; split <;> rfl
theorem upd_lN (f : Nat → Nat) (k v : Nat) : vp_updL (fun j => lN (f j)) k (lN v) = fun j => lN (updN f k v j) := by
  funext j; unfold vp_updL updN; split <;> rfl
theorem nI_dec {a : Nat} (h : 0 < a) : nI a + Int32.ofInt (-1) = nI (a - 1) := by
  have := sb_m1 h
  exact this
theorem n_amt : ∀ b, b < 32 → ((nI b &&& 31).toBitVec.smod 32).toNat = b := by decide +kernel
theorem n_shl {a b : Nat} (h : b < 32 ∧ a * 2 ^ b < 2 ^ 32) : nI a <<< (nI b &&& 31) = nI (a * 2 ^ b) := pk_shlN _ b (n_amt b h.1) h.2
theorem n_shr {a b : Nat} (ha : a < 2 ^ 31) (hb : b < 32) : nI a >>> (nI b &&& 31) = nI (a / 2 ^ b) := pk_shrN ha _ b (n_amt b hb)
section GR4
variable {p : Program} {l : Launch} {e : Env} {R : Room} {s : State} {m : MethodId} {args : Array Value} {below : List Frame} {meth : Method} {c : Code} {cells slots : Nat} {Q : State → Prop} {A : Nat → Prop} {D : va_G} {nL : Nat} {cc : ByteArray} {own : String} {cs : ClassId × ClassId × ClassId × ClassId}
variable {pc : Nat} {lv lv' : List (Nat × Value)} {st : List Value} {ws ws' : va_W}

theorem n_iast (C : CX p s m args c cc nL own D cs A) {n a i v : Nat} {f : Nat → Nat} (q0 : Nat) (ha : ws[q0]? = some (a, .inl (cs.1, n, .inl (fun j => nI (f j))))) (hi : i < n) (hn : n < 2 ^ 31) (hws : ws.set q0 (a, .inl (cs.1, n, .inl (fun j => nI (updN f i v j)))) = ws') (d : decode cc pc = .ok (.iastore, 1)) (g : GO p l e R s m args below meth c cells slots Q A D nL (pc + 1) lv st ws') : GO p l e R s m args below meth c cells slots Q A D nL pc lv (.int (nI v) :: .int (nI i) :: .ref a :: st) ws :=
  g_iast C q0 ha hi hn (by rw [upd_nI]; exact hws) d g
theorem n_last (C : CX p s m args c cc nL own D cs A) {n a i v : Nat} {f : Nat → Nat} (q0 : Nat) (ha : ws[q0]? = some (a, .inl (cs.2.1, n, .inr (.inl (fun j => lN (f j)))))) (hi : i < n) (hn : n < 2 ^ 31) (hws : ws.set q0 (a, .inl (cs.2.1, n, .inr (.inl (fun j => lN (updN f i v j))))) = ws') (d : decode cc pc = .ok (.lastore, 1)) (g : GO p l e R s m args below meth c cells slots Q A D nL (pc + 1) lv st ws') : GO p l e R s m args below meth c cells slots Q A D nL pc lv (.long (lN v) :: .int (nI i) :: .ref a :: st) ws :=
  g_last C q0 ha hi hn (by rw [upd_lN]; exact hws) d g
theorem n_zast (C : CX p s m args c cc nL own D cs A) {n a i v : Nat} {f : Nat → Nat} (q0 : Nat) (ha : ws[q0]? = some (a, .inl (cs.2.2.1, n, .inl (fun j => nI (f j))))) (hi : i < n) (hn : n < 2 ^ 31) (hv : v < 2) (hws : ws.set q0 (a, .inl (cs.2.2.1, n, .inl (fun j => nI (updN f i v j)))) = ws') (d : decode cc pc = .ok (.bastore, 1)) (g : GO p l e R s m args below meth c cells slots Q A D nL (pc + 1) lv st ws') : GO p l e R s m args below meth c cells slots Q A D nL pc lv (.int (nI v) :: .int (nI i) :: .ref a :: st) ws :=
  g_zast C q0 ha hi hn hv (by rw [upd_nI]; exact hws) d g
theorem n_lcmp_eq (C : CX p s m args c cc nL own D cs A) {a b : Nat} {off : Int} (tgt : Nat) (d1 : decode cc pc = .ok (.lcmp, 1)) (d : decode cc (pc + 1) = .ok (.ifCond .eq off, 3)) (ht9 : ((pc + 1 : Nat) : Int) + off = (tgt : Int)) (ha : a < 2 ^ 63) (hb9 : b < 2 ^ 63) (gt : a = b → GO p l e R s m args below meth c cells slots Q A D nL tgt lv st ws) (gf : a ≠ b → GO p l e R s m args below meth c cells slots Q A D nL (pc + 4) lv st ws) : GO p l e R s m args below meth c cells slots Q A D nL pc lv (.long (lN b) :: .long (lN a) :: st) ws :=
  g_lcmp_eq C tgt d1 d ht9 (fun h => gt ((pk_lEQ ha hb9).mp h)) (fun h => gf (fun q => h (by rw [q])))
theorem n_lcmp_ne (C : CX p s m args c cc nL own D cs A) {a b : Nat} {off : Int} (tgt : Nat) (d1 : decode cc pc = .ok (.lcmp, 1)) (d : decode cc (pc + 1) = .ok (.ifCond .ne off, 3)) (ht9 : ((pc + 1 : Nat) : Int) + off = (tgt : Int)) (ha : a < 2 ^ 63) (hb9 : b < 2 ^ 63) (gt : a ≠ b → GO p l e R s m args below meth c cells slots Q A D nL tgt lv st ws) (gf : a = b → GO p l e R s m args below meth c cells slots Q A D nL (pc + 4) lv st ws) : GO p l e R s m args below meth c cells slots Q A D nL pc lv (.long (lN b) :: .long (lN a) :: st) ws :=
  g_lcmp_ne C tgt d1 d ht9 (fun h => gt (fun q => h (by rw [q]))) (fun h => gf ((pk_lEQ ha hb9).mp h))
theorem n_lcmp_lt (C : CX p s m args c cc nL own D cs A) {a b : Nat} {off : Int} (tgt : Nat) (d1 : decode cc pc = .ok (.lcmp, 1)) (d : decode cc (pc + 1) = .ok (.ifCond .lt off, 3)) (ht9 : ((pc + 1 : Nat) : Int) + off = (tgt : Int)) (ha : a < 2 ^ 63) (hb9 : b < 2 ^ 63) (gt : a < b → GO p l e R s m args below meth c cells slots Q A D nL tgt lv st ws) (gf : b ≤ a → GO p l e R s m args below meth c cells slots Q A D nL (pc + 4) lv st ws) : GO p l e R s m args below meth c cells slots Q A D nL pc lv (.long (lN b) :: .long (lN a) :: st) ws :=
  g_lcmp_lt C tgt d1 d ht9 (fun h => gt ((pk_lLT ha hb9).mp h)) (fun h => gf ((pk_lLE hb9 ha).mp h))
theorem n_lcmp_ge (C : CX p s m args c cc nL own D cs A) {a b : Nat} {off : Int} (tgt : Nat) (d1 : decode cc pc = .ok (.lcmp, 1)) (d : decode cc (pc + 1) = .ok (.ifCond .ge off, 3)) (ht9 : ((pc + 1 : Nat) : Int) + off = (tgt : Int)) (ha : a < 2 ^ 63) (hb9 : b < 2 ^ 63) (gt : b ≤ a → GO p l e R s m args below meth c cells slots Q A D nL tgt lv st ws) (gf : a < b → GO p l e R s m args below meth c cells slots Q A D nL (pc + 4) lv st ws) : GO p l e R s m args below meth c cells slots Q A D nL pc lv (.long (lN b) :: .long (lN a) :: st) ws :=
  g_lcmp_ge C tgt d1 d ht9 (fun h => gt ((pk_lLE hb9 ha).mp h)) (fun h => gf ((pk_lLT ha hb9).mp h))
theorem n_lcmp_gt (C : CX p s m args c cc nL own D cs A) {a b : Nat} {off : Int} (tgt : Nat) (d1 : decode cc pc = .ok (.lcmp, 1)) (d : decode cc (pc + 1) = .ok (.ifCond .gt off, 3)) (ht9 : ((pc + 1 : Nat) : Int) + off = (tgt : Int)) (ha : a < 2 ^ 63) (hb9 : b < 2 ^ 63) (gt : b < a → GO p l e R s m args below meth c cells slots Q A D nL tgt lv st ws) (gf : a ≤ b → GO p l e R s m args below meth c cells slots Q A D nL (pc + 4) lv st ws) : GO p l e R s m args below meth c cells slots Q A D nL pc lv (.long (lN b) :: .long (lN a) :: st) ws :=
  g_lcmp_gt C tgt d1 d ht9 (fun h => gt ((pk_lLT hb9 ha).mp h)) (fun h => gf ((pk_lLE ha hb9).mp h))
theorem n_lcmp_le (C : CX p s m args c cc nL own D cs A) {a b : Nat} {off : Int} (tgt : Nat) (d1 : decode cc pc = .ok (.lcmp, 1)) (d : decode cc (pc + 1) = .ok (.ifCond .le off, 3)) (ht9 : ((pc + 1 : Nat) : Int) + off = (tgt : Int)) (ha : a < 2 ^ 63) (hb9 : b < 2 ^ 63) (gt : a ≤ b → GO p l e R s m args below meth c cells slots Q A D nL tgt lv st ws) (gf : b < a → GO p l e R s m args below meth c cells slots Q A D nL (pc + 4) lv st ws) : GO p l e R s m args below meth c cells slots Q A D nL pc lv (.long (lN b) :: .long (lN a) :: st) ws :=
  g_lcmp_le C tgt d1 d ht9 (fun h => gt ((pk_lLE ha hb9).mp h)) (fun h => gf ((pk_lLT hb9 ha).mp h))
/-- contents told otherwise, by numbers -/
theorem n_ci {cA : ClassId} {n a : Nat} {f f2 : Nat → Nat} (q0 : Nat) (ha : ws[q0]? = some (a, .inl (cA, n, .inl (fun j => nI (f j))))) (h : ∀ j, j < n → f j = f2 j) (hws : ws.set q0 (a, .inl (cA, n, .inl (fun j => nI (f2 j)))) = ws') (g : GO p l e R s m args below meth c cells slots Q A D nL pc lv st ws') : GO p l e R s m args below meth c cells slots Q A D nL pc lv st ws := g_ci q0 ha (fun j hj => by rw [h j hj]) hws g
theorem n_cl {cA : ClassId} {n a : Nat} {f f2 : Nat → Nat} (q0 : Nat) (ha : ws[q0]? = some (a, .inl (cA, n, .inr (.inl (fun j => lN (f j)))))) (h : ∀ j, j < n → f j = f2 j) (hws : ws.set q0 (a, .inl (cA, n, .inr (.inl (fun j => lN (f2 j))))) = ws') (g : GO p l e R s m args below meth c cells slots Q A D nL pc lv st ws') : GO p l e R s m args below meth c cells slots Q A D nL pc lv st ws := g_cl q0 ha (fun j hj => by rw [h j hj]) hws g
end GR4
