/-- of the first ones of a row, how many are symbols: from q on, of f -/
def tks (p : Nat → Nat) (tk : Nat) : Nat → Nat → Nat
  | 0, q => q
  | f + 1, q => if p q < tk then tks p tk f (q + 1) else q
/-- one more for each of the first q symbols -/
def inc (ln od : Nat → Nat) : Nat → (Nat → Nat)
  | 0 => ln
  | q + 1 => updN (inc ln od q) (od q) (inc ln od q (od q) + 1)
/-- lengths by the rows below t, of which tk are taken -/
def ctk (pl : Nat → Nat → Nat) (od : Nat → Nat) (n : Nat) : Nat → (Nat → Nat) → Nat → (Nat → Nat)
  | 0, ln, _ => ln
  | t + 1, ln, tk => ctk pl od n t (inc ln od (tks (pl t) tk n 0)) (2 * (tk - tks (pl t) tk n 0))
theorem tks_le {p : Nat → Nat} {tk n : Nat} (h : ∀ j, j < n → j ≤ p j) : ∀ f q, q + f ≤ n → q ≤ tk → tks p tk f q ≤ tk
  | 0, q, _, hq => hq
  | f + 1, q, hf, hq => by
    unfold tks
    split
    · exact tks_le h f (q + 1) (by omega) (by have := h q (by omega); omega)
    · exact hq
theorem tks_le2 {p : Nat → Nat} {tk : Nat} : ∀ f q, tks p tk f q ≤ q + f
  | 0, q => Nat.le_refl _
  | f + 1, q => by
    unfold tks
    split
    · have := tks_le2 (p := p) (tk := tk) f (q + 1); omega
    · omega
theorem tks_end {p : Nat → Nat} {tk n q : Nat} (h : n ≤ q) : tks p tk (n - q) q = q := by rw [show n - q = 0 by omega]; rfl
theorem tks_stop {p : Nat → Nat} {tk n q : Nat} (h : tk ≤ p q) : tks p tk (n - q) q = q := by
  cases n - q with
  | zero => rfl
  | succ f => rw [tks, if_neg (by omega)]
theorem tks_go {p : Nat → Nat} {tk n q : Nat} (h1 : q < n) (h : p q < tk) : tks p tk (n - q) q = tks p tk (n - (q + 1)) (q + 1) := by
  obtain ⟨f, hf⟩ : ∃ f, n - q = f + 1 := ⟨n - q - 1, by omega⟩
  rw [hf, tks, if_pos h, show n - (q + 1) = f by omega]

set_option maxHeartbeats 4000000 in
set_option maxRecDepth 100000 in
theorem l_K_ci {p : Program} {l : Launch} {e : Env} {s : State} {m : MethodId} {args : Array Value} {below : List Frame} {meth : Method} {c : Code} {Q : State → Prop} {A : Nat → Prop} {D : va_G} {cs : ClassId × ClassId × ClassId × ClassId} (C : CX p s m args c c_K_countTaken 6 RK D cs A) (al k ko kp kr ks bc rs : Nat) (ra : Nat → Nat) (ct od ln : Nat → Nat) (cd : Nat) (rv sv : Nat → Nat) (pl : Nat → Nat → Nat) (kq tk : Nat) (hcd : cd ≤ 48) (hod : ∀ j, j < cd → od j < 48) (hkq : kq < 16) (hp : ∀ j, j < cd → pl kq j < 96) (htk : tk < 2 ^ 31)
    (K : GO p l e { frames := 0, cells := 0, slots := 0, locals := 0 } s m args below meth c 0 0 Q A D 6 64 [(0, .ref k), (2, .ref al), (3, .int (nI (tk))), (4, .int (nI (kq))), (5, .int (nI (tks (pl kq) tk cd 0)))] [] ([(k, .inr (0, [.ref ko, .ref kp, .ref kr, .ref ks, .int (nI (rs)), .int (nI (cd))])), (ko, .inl (cs.1, 48, .inl (fun j => nI (od j)))), (bc, .inl (cs.2.1, 48, .inr (.inl (fun j => lN (ct j))))), (kp, .inl (cs.2.2.2, 16, .inr (.inr (.inr (.inr (fun i => some (ra i))))))), (kr, .inl (cs.2.1, 96, .inr (.inl (fun j => lN (rv j))))), (ks, .inl (cs.2.1, 96, .inr (.inl (fun j => lN (sv j))))), (al, .inl (cs.1, 48, .inl (fun j => nI ((inc ln od (tks (pl kq) tk cd 0)) j))))] ++ rowsW cs.1 ra (pl)))
    : ∀ (n : Nat) (q : Nat), 48 - q = n → (q ≤ cd) → (tks (pl kq) tk (cd - q) q = tks (pl kq) tk cd 0) → GO p l e { frames := 0, cells := 0, slots := 0, locals := 0 } s m args below meth c 0 0 Q A D 6 22 [(0, .ref k), (2, .ref al), (3, .int (nI (tk))), (4, .int (nI (kq))), (5, .int (nI (q)))] [] ([(k, .inr (0, [.ref ko, .ref kp, .ref kr, .ref ks, .int (nI (rs)), .int (nI (cd))])), (ko, .inl (cs.1, 48, .inl (fun j => nI (od j)))), (bc, .inl (cs.2.1, 48, .inr (.inl (fun j => lN (ct j))))), (kp, .inl (cs.2.2.2, 16, .inr (.inr (.inr (.inr (fun i => some (ra i))))))), (kr, .inl (cs.2.1, 96, .inr (.inl (fun j => lN (rv j))))), (ks, .inl (cs.2.1, 96, .inr (.inl (fun j => lN (sv j))))), (al, .inl (cs.1, 48, .inl (fun j => nI ((inc ln od q) j))))] ++ rowsW cs.1 ra (pl)) := by
  intro n
  induction n using Nat.strongRecOn with
  | _ n ih =>
  intro q  hn hq he
  refine g_iload C d_K_countTaken_22 4 rfl ?_
  refine g_aload_n C d_K_countTaken_24 0 rfl rfl ?_
  refine g_get C (T := FK) (N := 6) 0 5 inK rfl rfl (by decide) tw_34 rfl rfl d_K_countTaken_25 ?_
  refine n_icmp_ge C 64 d_K_countTaken_28 (by decide) (by omega) (by omega) (fun h28 => ?_) (fun h28 => ?_)
  · refine g_lv (lv' := [(0, .ref k), (2, .ref al), (3, .int (nI (tk))), (4, .int (nI (kq))), (5, .int (nI (q)))]) [0, 1, 2, 3, 4] rfl ?_
    have e9 : q = tks (pl kq) tk cd 0 := (show q = tks (pl kq) tk (cd - q) q by first | exact (tks_end (by omega)).symm | exact (tks_stop (by assumption)).symm).trans he
    subst e9
    exact K
  · refine g_aload_n C d_K_countTaken_31 0 rfl rfl ?_
    refine g_get C (T := FK) (N := 6) 0 1 inK rfl rfl (by decide) tw_30 rfl rfl d_K_countTaken_32 ?_
    refine g_iload C d_K_countTaken_35 3 rfl ?_
    refine g_aald C 3 rfl (by omega) d_K_countTaken_37 ?_
    refine g_iload C d_K_countTaken_38 4 rfl ?_
    refine g_rald C (X := [(k, .inr (0, [.ref ko, .ref kp, .ref kr, .ref ks, .int (nI (rs)), .int (nI (cd))])), (ko, .inl (cs.1, 48, .inl (fun j => nI (od j)))), (bc, .inl (cs.2.1, 48, .inr (.inl (fun j => lN (ct j))))), (kp, .inl (cs.2.2.2, 16, .inr (.inr (.inr (.inr (fun i => some (ra i))))))), (kr, .inl (cs.2.1, 96, .inr (.inl (fun j => lN (rv j))))), (ks, .inl (cs.2.1, 96, .inr (.inl (fun j => lN (sv j))))), (al, .inl (cs.1, 48, .inl (fun j => nI ((inc ln od q) j))))]) (i := (kq)) rfl (by omega) (by omega) d_K_countTaken_40 ?_
    refine g_iload_n C d_K_countTaken_41 2 rfl rfl ?_
    refine n_icmp_ge C 64 d_K_countTaken_42 (by decide) (by have := hp q (by omega); omega) htk (fun h42 => ?_) (fun h42 => ?_)
    · refine g_lv (lv' := [(0, .ref k), (2, .ref al), (3, .int (nI (tk))), (4, .int (nI (kq))), (5, .int (nI (q)))]) [0, 1, 2, 3, 4] rfl ?_
      have e9 : q = tks (pl kq) tk cd 0 := (show q = tks (pl kq) tk (cd - q) q by first | exact (tks_end (by omega)).symm | exact (tks_stop (by assumption)).symm).trans he
      subst e9
      exact K
    · refine g_aload_n C d_K_countTaken_45 1 rfl rfl ?_
      refine g_aload_n C d_K_countTaken_46 0 rfl rfl ?_
      refine g_get C (T := FK) (N := 6) 0 0 inK rfl rfl (by decide) tw_29 rfl rfl d_K_countTaken_47 ?_
      refine g_iload C d_K_countTaken_50 4 rfl ?_
      refine g_iald C 1 rfl (by omega) (by decide) d_K_countTaken_52 ?_
      refine g_dup2 C d_K_countTaken_53 rfl rfl ?_
      refine g_iald C 6 rfl (hod q (by omega)) (by decide) d_K_countTaken_54 ?_
      refine g_iconst C (v := nI 1) d_K_countTaken_55 rfl ?_
      refine g_iadd C (v := nI ((inc ln od q) (od (q)) + 1)) d_K_countTaken_56 (nI_add _ _) ?_
      refine n_iast C (ws' := ([(k, .inr (0, [.ref ko, .ref kp, .ref kr, .ref ks, .int (nI (rs)), .int (nI (cd))])), (ko, .inl (cs.1, 48, .inl (fun j => nI (od j)))), (bc, .inl (cs.2.1, 48, .inr (.inl (fun j => lN (ct j))))), (kp, .inl (cs.2.2.2, 16, .inr (.inr (.inr (.inr (fun i => some (ra i))))))), (kr, .inl (cs.2.1, 96, .inr (.inl (fun j => lN (rv j))))), (ks, .inl (cs.2.1, 96, .inr (.inl (fun j => lN (sv j))))), (al, .inl (cs.1, 48, .inl (fun j => nI ((updN ((inc ln od q)) (od (q)) ((inc ln od q) (od (q)) + 1)) j))))] ++ rowsW cs.1 ra (pl))) 6 rfl (hod q (by omega)) (by decide) rfl d_K_countTaken_57 ?_
      refine g_iinc C (lv' := [(5, .int (nI (q + 1))), (0, .ref k), (2, .ref al), (3, .int (nI (tk))), (4, .int (nI (kq)))]) (k := 4) d_K_countTaken_58 rfl (nI_1 _) (by decide) rfl ?_
      refine g_goto C 22 d_K_countTaken_61 (by decide) ?_
      refine g_lv (lv' := [(0, .ref k), (2, .ref al), (3, .int (nI (tk))), (4, .int (nI (kq))), (5, .int (nI (q + 1)))]) [1, 2, 3, 4, 0] rfl ?_
      exact ih (48 - (q + 1)) (by omega) (q + 1) rfl (by omega) ((tks_go h28 h42).symm.trans he)
set_option maxHeartbeats 4000000 in
set_option maxRecDepth 100000 in
theorem l_K_ct {p : Program} {l : Launch} {e : Env} {s : State} {m : MethodId} {args : Array Value} {below : List Frame} {meth : Method} {c : Code} {A : Nat → Prop} {D : va_G} {cs : ClassId × ClassId × ClassId × ClassId} (C : CX p s m args c c_K_countTaken 6 RK D cs A) (al k ko kp kr ks bc rs : Nat) (ra : Nat → Nat) (ct od ln : Nat → Nat) (cd : Nat) (rv sv : Nat → Nat) (pl : Nat → Nat → Nat) (mo : Nat) (hcd : cd ≤ 48) (hod : ∀ j, j < cd → od j < 48) (hmo : mo ≤ 16) (hp : ∀ i, i < mo → ∀ j, j < cd → j ≤ pl i j ∧ pl i j < 96) (hr : meth.sig.returnType = none) (hlk : meth.locks = false) : ∀ (t : Nat) (ln2 : Nat → Nat) (tk : Nat), t ≤ mo → tk ≤ 2 ^ (23 - t) → ctk pl od cd t ln2 tk = ctk pl od cd mo ln (2 * cd - 2) → GO p l e { frames := 0, cells := 0, slots := 0, locals := 0 } s m args below meth c 0 0 (MQ below (QV D ([(k, .inr (0, [.ref ko, .ref kp, .ref kr, .ref ks, .int (nI (rs)), .int (nI (cd))])), (ko, .inl (cs.1, 48, .inl (fun j => nI (od j)))), (bc, .inl (cs.2.1, 48, .inr (.inl (fun j => lN (ct j))))), (kp, .inl (cs.2.2.2, 16, .inr (.inr (.inr (.inr (fun i => some (ra i))))))), (kr, .inl (cs.2.1, 96, .inr (.inl (fun j => lN (rv j))))), (ks, .inl (cs.2.1, 96, .inr (.inl (fun j => lN (sv j))))), (al, .inl (cs.1, 48, .inl (fun j => nI ((ctk pl od cd mo ln (2 * cd - 2)) j))))] ++ rowsW cs.1 ra (pl)) A) args s 0 0 A) A D 6 14 [(0, .ref k), (2, .ref al), (3, .int (nI tk)), (4, .int (nI t - 1))] [] ([(k, .inr (0, [.ref ko, .ref kp, .ref kr, .ref ks, .int (nI (rs)), .int (nI (cd))])), (ko, .inl (cs.1, 48, .inl (fun j => nI (od j)))), (bc, .inl (cs.2.1, 48, .inr (.inl (fun j => lN (ct j))))), (kp, .inl (cs.2.2.2, 16, .inr (.inr (.inr (.inr (fun i => some (ra i))))))), (kr, .inl (cs.2.1, 96, .inr (.inl (fun j => lN (rv j))))), (ks, .inl (cs.2.1, 96, .inr (.inl (fun j => lN (sv j))))), (al, .inl (cs.1, 48, .inl (fun j => nI (ln2 j))))] ++ rowsW cs.1 ra (pl)) := by
  intro t
  induction t with
  | zero =>
    intro ln2 tk ht htk he
    rw [nI_0m1]
    refine g_iload C d_K_countTaken_14 3 rfl ?_
    refine g_if_lt C 77 d_K_countTaken_16 (by decide) (fun _ => ?_) (fun h => absurd (by decide) h)
    exact g_vret C hr hlk (by rw [← he]; rfl) d_K_countTaken_77
  | succ t ih =>
    intro ln2 tk ht htk he
    rw [nI_pred t]
    have hpow : 2 ^ (23 - t) = 2 * 2 ^ (23 - (t + 1)) := by rw [← Nat.pow_succ']; congr 1; omega
    have hpb : 2 ^ (23 - t) ≤ 2 ^ 23 := Nat.pow_le_pow_right (by omega) (by omega)
    refine g_iload C d_K_countTaken_14 3 rfl ?_
    refine n_if_lt C 77 d_K_countTaken_16 (by decide) (by omega) ?_
    refine g_iconst C (v := nI 0) d_K_countTaken_19 rfl ?_
    refine g_istore C (lv' := [(5, .int (nI (0))), (0, .ref k), (2, .ref al), (3, .int (nI (tk))), (4, .int (nI (t)))]) d_K_countTaken_20 (by decide) rfl ?_
    refine g_lv (lv' := [(0, .ref k), (2, .ref al), (3, .int (nI (tk))), (4, .int (nI (t))), (5, .int (nI (0)))]) [1, 2, 3, 4, 0] rfl ?_
    refine l_K_ci C al k ko kp kr ks bc rs ra ct od ln2 cd rv sv pl t tk hcd hod (by omega) (fun j hj => (hp t (by omega) j hj).2) (by omega) ?_ _ 0 rfl (by omega) rfl
    have htl : tks (pl t) tk cd 0 ≤ tk := tks_le (fun j hj => (hp t (by omega) j hj).1) cd 0 (by omega) (by omega)
    refine g_iconst C (v := nI 2) d_K_countTaken_64 rfl ?_
    refine g_iload_n C d_K_countTaken_65 2 rfl rfl ?_
    refine g_iload C d_K_countTaken_66 4 rfl ?_
    refine g_isub C (v := nI ((tk) - ((tks (pl t) tk cd 0)))) d_K_countTaken_68 (pk_sub (by omega)) ?_
    refine g_imul C (v := nI ((2) * ((tk) - ((tks (pl t) tk cd 0))))) d_K_countTaken_69 (pk_mul _ _) ?_
    refine g_istore_n C (lv' := [(3, .int (nI ((2) * ((tk) - ((tks (pl t) tk cd 0)))))), (0, .ref k), (2, .ref al), (4, .int (nI (t))), (5, .int (nI ((tks (pl t) tk cd 0))))]) d_K_countTaken_70 rfl (by decide) rfl ?_
    refine g_iinc C (lv' := [(4, .int (nI (t) - 1)), (3, .int (nI ((2) * ((tk) - ((tks (pl t) tk cd 0)))))), (0, .ref k), (2, .ref al), (5, .int (nI ((tks (pl t) tk cd 0))))]) (k := 3) d_K_countTaken_71 rfl (dec_raw _) (by decide) rfl ?_
    refine g_goto C 14 d_K_countTaken_74 (by decide) ?_
    refine g_lv (lv' := [(0, .ref k), (2, .ref al), (3, .int (nI ((2) * ((tk) - ((tks (pl t) tk cd 0)))))), (4, .int (nI (t) - 1))]) [2, 3, 1, 0] rfl ?_
    exact ih _ _ (by omega) (by omega) (by rw [← he, ctk])
set_option maxHeartbeats 4000000 in
set_option maxRecDepth 100000 in
theorem m_K_countTaken (l : Launch) (D : va_G) (cs : ClassId × ClassId × ClassId × ClassId) (al k ko kp kr ks bc rs : Nat) (ra : Nat → Nat) (ct od ln : Nat → Nat) (cd : Nat) (rv sv : Nat → Nat) (pl : Nat → Nat → Nat) (mo : Nat) (hcd : cd ≤ 48) (h2 : 2 ≤ cd) (hod : ∀ j, j < cd → od j < 48) (hmo : mo ≤ 16) (hp : ∀ i, i < mo → ∀ j, j < cd → j ≤ pl i j ∧ pl i j < 96) : MG l y_K_countTaken k_K_countTaken { frames := 0, cells := 0, slots := 0, locals := 0 } D cs [.ref k, .int (nI (mo)), .ref al] ([(k, .inr (0, [.ref ko, .ref kp, .ref kr, .ref ks, .int (nI (rs)), .int (nI (cd))])), (ko, .inl (cs.1, 48, .inl (fun j => nI (od j)))), (bc, .inl (cs.2.1, 48, .inr (.inl (fun j => lN (ct j))))), (kp, .inl (cs.2.2.2, 16, .inr (.inr (.inr (.inr (fun i => some (ra i))))))), (kr, .inl (cs.2.1, 96, .inr (.inl (fun j => lN (rv j))))), (ks, .inl (cs.2.1, 96, .inr (.inl (fun j => lN (sv j))))), (al, .inl (cs.1, 48, .inl (fun j => nI (ln j))))] ++ rowsW cs.1 ra (pl)) (QV D ([(k, .inr (0, [.ref ko, .ref kp, .ref kr, .ref ks, .int (nI (rs)), .int (nI (cd))])), (ko, .inl (cs.1, 48, .inl (fun j => nI (od j)))), (bc, .inl (cs.2.1, 48, .inr (.inl (fun j => lN (ct j))))), (kp, .inl (cs.2.2.2, 16, .inr (.inr (.inr (.inr (fun i => some (ra i))))))), (kr, .inl (cs.2.1, 96, .inr (.inl (fun j => lN (rv j))))), (ks, .inl (cs.2.1, 96, .inr (.inl (fun j => lN (sv j))))), (al, .inl (cs.1, 48, .inl (fun j => nI ((ctk pl od cd mo ln (2 * cd - 2)) j))))] ++ rowsW cs.1 ra (pl))) := by
  refine MG.mk (own := RK) (by decide) rfl (Nat.le_of_ble_eq_true rfl) ?_
  intro p e s m below meth c A C hr hlk
  refine g_lv (lv' := [(0, .ref k), (1, .int (nI (mo))), (2, .ref al)]) [0, 1, 2] rfl ?_
  refine g_iconst C (v := nI 2) d_K_countTaken_0 rfl ?_
  refine g_aload_n C d_K_countTaken_1 0 rfl rfl ?_
  refine g_get C (T := FK) (N := 6) 0 5 inK rfl rfl (by decide) tw_34 rfl rfl d_K_countTaken_2 ?_
  refine g_imul C (v := nI (2 * cd)) d_K_countTaken_5 (pk_mul _ _) ?_
  refine g_iconst C (v := nI 2) d_K_countTaken_6 rfl ?_
  refine g_isub C (v := nI (2 * cd - 2)) d_K_countTaken_7 (pk_sub (by omega)) ?_
  refine g_istore_n C (lv' := [(3, .int (nI (2 * cd - 2))), (0, .ref k), (1, .int (nI (mo))), (2, .ref al)]) d_K_countTaken_8 rfl (by decide) rfl ?_
  refine g_iload_n C d_K_countTaken_9 2 rfl rfl ?_
  refine g_iconst C (v := nI 1) d_K_countTaken_10 rfl ?_
  refine g_isub C (v := nI (mo) - 1) d_K_countTaken_11 rfl ?_
  refine g_istore C (lv' := [(4, .int (nI (mo) - 1)), (3, .int (nI (2 * cd - 2))), (0, .ref k), (1, .int (nI (mo))), (2, .ref al)]) d_K_countTaken_12 (by decide) rfl ?_
  refine g_lv (lv' := [(0, .ref k), (2, .ref al), (3, .int (nI (2 * cd - 2))), (4, .int (nI (mo) - 1))]) [2, 4, 1, 0] rfl ?_
  exact l_K_ct C al k ko kp kr ks bc rs ra ct od ln cd rv sv pl mo hcd hod hmo hp hr hlk mo ln (2 * cd - 2) (Nat.le_refl _) (by have : 2 ^ 7 ≤ 2 ^ (23 - mo) := Nat.pow_le_pow_right (by omega) (by omega); omega) rfl
