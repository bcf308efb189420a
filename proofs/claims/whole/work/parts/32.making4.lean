/-- row and next row and size behind i rows -/
def rwst (ct od : Nat → Nat) (n : Nat) (rv sv : Nat → Nat) : Nat → (Nat → Nat) × (Nat → Nat) × Nat
  | 0 => (rv, sv, 0)
  | i + 1 => (rwp ct od (rwst ct od n rv sv i).1 n ((rwst ct od n rv sv i).2.2 / 2) (rwst ct od n rv sv i).2.1 (n + (rwst ct od n rv sv i).2.2 / 2), (rwst ct od n rv sv i).1, n + (rwst ct od n rv sv i).2.2 / 2)
/-- where the symbols stand in the rows -/
def plst (ct od : Nat → Nat) (n : Nat) (rv sv : Nat → Nat) (pl : Nat → Nat → Nat) : Nat → (Nat → Nat → Nat)
  | 0 => pl
  | i + 1 => plg (plst ct od n rv sv pl i) i (plp ct od (rwst ct od n rv sv i).1 n ((rwst ct od n rv sv i).2.2 / 2) (plst ct od n rv sv pl i i) (n + (rwst ct od n rv sv i).2.2 / 2))
theorem rwp_at {ct od rv sv : Nat → Nat} {n pr : Nat} : ∀ (T j : Nat), j < T → rwp ct od rv n pr sv T j = mvl ct od rv n pr j
  | 0, j, h => absurd h (by omega)
  | T + 1, j, h => by
    rw [rwp]
    by_cases e : j = T
    · subst e; rw [updN_s]
    · rw [updN_n e]; exact rwp_at T j (by omega)
theorem rwp_out {ct od rv sv : Nat → Nat} {n pr : Nat} : ∀ (T j : Nat), T ≤ j → rwp ct od rv n pr sv T j = sv j
  | 0, j, h => rfl
  | T + 1, j, h => by rw [rwp, updN_n (by omega)]; exact rwp_out T j (by omega)
theorem rwst_sz {ct od : Nat → Nat} {n : Nat} {rv sv : Nat → Nat} : ∀ i, (rwst ct od n rv sv i).2.2 ≤ 2 * n
  | 0 => Nat.zero_le _
  | i + 1 => by have := rwst_sz (ct := ct) (od := od) (n := n) (rv := rv) (sv := sv) i; show n + _ / 2 ≤ _; omega
theorem rwst_bd {ct od : Nat → Nat} {n : Nat} {rv sv : Nat → Nat} (hct : ∀ j, j < 48 → ct j ≤ 1000000000) (hod : ∀ j, j < n → od j < 48) : ∀ i j, j < (rwst ct od n rv sv i).2.2 → (rwst ct od n rv sv i).1 j ≤ 1000000000 * 2 ^ i
  | 0, j, h => absurd h (by show ¬ j < 0; omega)
  | i + 1, j, h => by
    have ih := rwst_bd (rv := rv) (sv := sv) hct hod i
    have h : j < n + (rwst ct od n rv sv i).2.2 / 2 := h
    show rwp ct od (rwst ct od n rv sv i).1 n ((rwst ct od n rv sv i).2.2 / 2) (rwst ct od n rv sv i).2.1 (n + (rwst ct od n rv sv i).2.2 / 2) j ≤ _
    rw [rwp_at _ _ h]
    have hs := mst_sum (ct := ct) (od := od) (rv := (rwst ct od n rv sv i).1) (n := n) (pr := (rwst ct od n rv sv i).2.2 / 2) j
    have hp : 1 ≤ 2 ^ i := Nat.one_le_two_pow
    have h2 : 2 ^ (i + 1) = 2 * 2 ^ i := by rw [Nat.pow_succ, Nat.mul_comm]
    unfold mvl
    split
    · next hy =>
      have h3 := of_decide_eq_true hy
      have := hct _ (hod _ h3.1)
      omega
    · next hy =>
      have h4 := (mst_le (ct := ct) (od := od) (rv := (rwst ct od n rv sv i).1) (n := n) (pr := (rwst ct od n rv sv i).2.2 / 2) (j + 1)).2 (by omega)
      rw [mst_p hy] at h4
      have h5 : (mst ct od (rwst ct od n rv sv i).1 n ((rwst ct od n rv sv i).2.2 / 2) j).2 + 1 ≤ (rwst ct od n rv sv i).2.2 / 2 := h4
      have h6 := ih (2 * (mst ct od (rwst ct od n rv sv i).1 n ((rwst ct od n rv sv i).2.2 / 2) j).2) (by omega)
      have h7 := ih (2 * (mst ct od (rwst ct od n rv sv i).1 n ((rwst ct od n rv sv i).2.2 / 2) j).2 + 1) (by omega)
      omega
theorem plp_at {ct od rv p0 : Nat → Nat} {n pr : Nat} : ∀ (t a : Nat), a < (mst ct od rv n pr t).1 → a ≤ plp ct od rv n pr p0 t a ∧ plp ct od rv n pr p0 t a < t
  | 0, a, h => absurd h (by show ¬ a < 0; omega)
  | t + 1, a, h => by
    have ih := plp_at (ct := ct) (od := od) (rv := rv) (p0 := p0) (n := n) (pr := pr) t
    have hs := mst_sum (ct := ct) (od := od) (rv := rv) (n := n) (pr := pr) t
    by_cases hy : sym ct od rv n pr (mst ct od rv n pr t) = true
    · rw [mst_s hy] at h
      rw [plp_s hy]
      by_cases e : a = (mst ct od rv n pr t).1
      · rw [e, updN_s]; omega
      · rw [updN_n e]
        have := ih a (by have h : a < (mst ct od rv n pr t).1 + 1 := h; omega)
        omega
    · rw [mst_p hy] at h
      rw [plp_p hy]
      have := ih a h
      omega
theorem mst_full {ct od rv : Nat → Nat} {n pr : Nat} : (mst ct od rv n pr (n + pr)).1 = n := by
  have h1 := mst_sum (ct := ct) (od := od) (rv := rv) (n := n) (pr := pr) (n + pr)
  have h2 := mst_le (ct := ct) (od := od) (rv := rv) (n := n) (pr := pr) (n + pr)
  have h3 := h2.2 (Nat.le_refl _)
  omega
theorem plst_at {ct od : Nat → Nat} {n : Nat} {rv sv : Nat → Nat} {pl : Nat → Nat → Nat} : ∀ (m i : Nat), i < m → ∀ j, j < n → j ≤ plst ct od n rv sv pl m i j ∧ plst ct od n rv sv pl m i j < 2 * n
  | 0, i, h, _, _ => absurd h (by omega)
  | m + 1, i, h, j, hj => by
    rw [plst]
    unfold plg
    by_cases e : i = m
    · subst e
      rw [if_pos rfl]
      have h1 := plp_at (ct := ct) (od := od) (rv := (rwst ct od n rv sv i).1) (p0 := plst ct od n rv sv pl i i) (n := n) (pr := (rwst ct od n rv sv i).2.2 / 2) (n + (rwst ct od n rv sv i).2.2 / 2) j (by rw [mst_full]; exact hj)
      have h2 := rwst_sz (ct := ct) (od := od) (n := n) (rv := rv) (sv := sv) i
      omega
    · rw [if_neg e]; exact plst_at m i (by omega) j hj

set_option maxHeartbeats 4000000 in
set_option maxRecDepth 100000 in
theorem l_K_mz {p : Program} {l : Launch} {e : Env} {s : State} {m : MethodId} {args : Array Value} {below : List Frame} {meth : Method} {c : Code} {Q : State → Prop} {A : Nat → Prop} {D : va_G} {cs : ClassId × ClassId × ClassId × ClassId} (C : CX p s m args c c_K_makeLengths 5 RK D cs A) (al k ko kp kr ks bc rs : Nat) (ra : Nat → Nat) (ct od ln : Nat → Nat) (cd : Nat) (rv sv : Nat → Nat) (pl : Nat → Nat → Nat) (mo : Nat) 
    (K : ∀ l2 : Nat → Nat, (∀ j, j < 48 → l2 j = 0) → GO p l e { frames := 1, cells := 0, slots := 0, locals := 28 } s m args below meth c 0 0 Q A D 5 21 [(0, .ref k), (1, .ref bc), (2, .int (nI (mo))), (3, .ref al)] [] ([(k, .inr (0, [.ref ko, .ref kp, .ref kr, .ref ks, .int (nI (rs)), .int (nI (cd))])), (ko, .inl (cs.1, 48, .inl (fun j => nI (od j)))), (bc, .inl (cs.2.1, 48, .inr (.inl (fun j => lN (ct j))))), (kp, .inl (cs.2.2.2, 16, .inr (.inr (.inr (.inr (fun i => some (ra i))))))), (kr, .inl (cs.2.1, 96, .inr (.inl (fun j => lN (rv j))))), (ks, .inl (cs.2.1, 96, .inr (.inl (fun j => lN (sv j))))), (al, .inl (cs.1, 48, .inl (fun j => nI (l2 j))))] ++ rowsW cs.1 ra (pl)))
    : ∀ (n : Nat) (i : Nat) (l2 : Nat → Nat), 48 - i = n → (i ≤ 48) → (∀ j, j < i → l2 j = 0) → GO p l e { frames := 1, cells := 0, slots := 0, locals := 28 } s m args below meth c 0 0 Q A D 5 3 [(0, .ref k), (1, .ref bc), (2, .int (nI (mo))), (3, .ref al), (4, .int (nI (i)))] [] ([(k, .inr (0, [.ref ko, .ref kp, .ref kr, .ref ks, .int (nI (rs)), .int (nI (cd))])), (ko, .inl (cs.1, 48, .inl (fun j => nI (od j)))), (bc, .inl (cs.2.1, 48, .inr (.inl (fun j => lN (ct j))))), (kp, .inl (cs.2.2.2, 16, .inr (.inr (.inr (.inr (fun i => some (ra i))))))), (kr, .inl (cs.2.1, 96, .inr (.inl (fun j => lN (rv j))))), (ks, .inl (cs.2.1, 96, .inr (.inl (fun j => lN (sv j))))), (al, .inl (cs.1, 48, .inl (fun j => nI (l2 j))))] ++ rowsW cs.1 ra (pl)) := by
  intro n
  induction n using Nat.strongRecOn with
  | _ n ih =>
  intro i  l2  hn hi hq
  refine g_iload C d_K_makeLengths_3 4 rfl ?_
  refine g_bipush C (v := nI 48) d_K_makeLengths_5 rfl ?_
  refine n_icmp_ge C 21 d_K_makeLengths_7 (by decide) (by omega) (by omega) (fun h7 => ?_) (fun h7 => ?_)
  · refine g_lv (lv' := [(0, .ref k), (1, .ref bc), (2, .int (nI (mo))), (3, .ref al)]) [0, 1, 2, 3] rfl ?_
    exact K l2 (fun j hj => hq j (by omega))
  · refine g_aload_n C d_K_makeLengths_10 3 rfl rfl ?_
    refine g_iload C d_K_makeLengths_11 4 rfl ?_
    refine g_iconst C (v := nI 0) d_K_makeLengths_13 rfl ?_
    refine n_iast C (ws' := ([(k, .inr (0, [.ref ko, .ref kp, .ref kr, .ref ks, .int (nI (rs)), .int (nI (cd))])), (ko, .inl (cs.1, 48, .inl (fun j => nI (od j)))), (bc, .inl (cs.2.1, 48, .inr (.inl (fun j => lN (ct j))))), (kp, .inl (cs.2.2.2, 16, .inr (.inr (.inr (.inr (fun i => some (ra i))))))), (kr, .inl (cs.2.1, 96, .inr (.inl (fun j => lN (rv j))))), (ks, .inl (cs.2.1, 96, .inr (.inl (fun j => lN (sv j))))), (al, .inl (cs.1, 48, .inl (fun j => nI ((updN (l2) (i) (0)) j))))] ++ rowsW cs.1 ra (pl))) 6 rfl (by omega) (by decide) rfl d_K_makeLengths_14 ?_
    refine g_iinc C (lv' := [(4, .int (nI (i + 1))), (0, .ref k), (1, .ref bc), (2, .int (nI (mo))), (3, .ref al)]) (k := 4) d_K_makeLengths_15 rfl (nI_1 _) (by decide) rfl ?_
    refine g_goto C 3 d_K_makeLengths_18 (by decide) ?_
    refine g_lv (lv' := [(0, .ref k), (1, .ref bc), (2, .int (nI (mo))), (3, .ref al), (4, .int (nI (i + 1)))]) [1, 2, 3, 4, 0] rfl ?_
    exact ih (48 - (i + 1)) (by omega) (i + 1) _ rfl (by omega) (fun j hj => by unfold updN; split; rfl; exact hq j (by omega))
set_option maxHeartbeats 4000000 in
set_option maxRecDepth 100000 in
theorem l_K_mr {p : Program} {l : Launch} {e : Env} {s : State} {m : MethodId} {args : Array Value} {below : List Frame} {meth : Method} {c : Code} {Q : State → Prop} {A : Nat → Prop} {D : va_G} {cs : ClassId × ClassId × ClassId × ClassId} (C : CX p s m args c c_K_makeLengths 5 RK D cs A) (al k ko kp kr ks bc rs : Nat) (ra : Nat → Nat) (ct od ln : Nat → Nat) (cd : Nat) (rv sv : Nat → Nat) (pl : Nat → Nat → Nat) (mo : Nat) (hcd : cd ≤ 48) (hct : ∀ j, j < 48 → ct j ≤ 1000000000) (hod : ∀ j, j < cd → od j < 48) (hmo : mo ≤ 16)
    (K : GO p l e { frames := 1, cells := 0, slots := 0, locals := 28 } s m args below meth c 0 0 Q A D 5 74 [(0, .ref k), (1, .ref bc), (2, .int (nI (mo))), (3, .ref al)] [] ([(k, .inr (0, [.ref ko, .ref kp, .ref (if mo % 2 = 0 then kr else ks), .ref (if mo % 2 = 0 then ks else kr), .int (nI ((rwst ct od cd rv sv mo).2.2)), .int (nI (cd))])), (ko, .inl (cs.1, 48, .inl (fun j => nI (od j)))), (bc, .inl (cs.2.1, 48, .inr (.inl (fun j => lN (ct j))))), (kp, .inl (cs.2.2.2, 16, .inr (.inr (.inr (.inr (fun i => some (ra i))))))), (kr, .inl (cs.2.1, 96, .inr (.inl (fun j => lN ((if mo % 2 = 0 then (rwst ct od cd rv sv mo).1 else (rwst ct od cd rv sv mo).2.1) j))))), (ks, .inl (cs.2.1, 96, .inr (.inl (fun j => lN ((if mo % 2 = 0 then (rwst ct od cd rv sv mo).2.1 else (rwst ct od cd rv sv mo).1) j))))), (al, .inl (cs.1, 48, .inl (fun j => nI (ln j))))] ++ rowsW cs.1 ra (plst ct od cd rv sv pl mo)))
    : ∀ (n i : Nat), mo - i = n → i ≤ mo → GO p l e { frames := 1, cells := 0, slots := 0, locals := 28 } s m args below meth c 0 0 Q A D 5 55 [(0, .ref k), (1, .ref bc), (2, .int (nI (mo))), (3, .ref al), (4, .int (nI (i)))] [] ([(k, .inr (0, [.ref ko, .ref kp, .ref (if i % 2 = 0 then kr else ks), .ref (if i % 2 = 0 then ks else kr), .int (nI ((rwst ct od cd rv sv i).2.2)), .int (nI (cd))])), (ko, .inl (cs.1, 48, .inl (fun j => nI (od j)))), (bc, .inl (cs.2.1, 48, .inr (.inl (fun j => lN (ct j))))), (kp, .inl (cs.2.2.2, 16, .inr (.inr (.inr (.inr (fun i => some (ra i))))))), (kr, .inl (cs.2.1, 96, .inr (.inl (fun j => lN ((if i % 2 = 0 then (rwst ct od cd rv sv i).1 else (rwst ct od cd rv sv i).2.1) j))))), (ks, .inl (cs.2.1, 96, .inr (.inl (fun j => lN ((if i % 2 = 0 then (rwst ct od cd rv sv i).2.1 else (rwst ct od cd rv sv i).1) j))))), (al, .inl (cs.1, 48, .inl (fun j => nI (ln j))))] ++ rowsW cs.1 ra (plst ct od cd rv sv pl i)) := by
  intro n
  induction n using Nat.strongRecOn with
  | _ n ih =>
  intro i hn hi
  have hsz := rwst_sz (ct := ct) (od := od) (n := cd) (rv := rv) (sv := sv) i
  have hbd : i < 16 → ∀ j, j < (rwst ct od cd rv sv i).2.2 → (rwst ct od cd rv sv i).1 j < 2 ^ 60 := fun h16 j hj => by
    have h1 := rwst_bd (rv := rv) (sv := sv) hct hod i j hj
    have h2 : 2 ^ i ≤ 2 ^ 16 := Nat.pow_le_pow_right (by omega) (by omega)
    omega
  refine g_iload C d_K_makeLengths_55 4 rfl ?_
  refine g_iload_n C d_K_makeLengths_57 2 rfl rfl ?_
  refine n_icmp_ge C 74 d_K_makeLengths_58 (by decide) (by omega) (by omega) (fun h58 => ?_) (fun h58 => ?_)
  · refine g_lv (lv' := [(0, .ref k), (1, .ref bc), (2, .int (nI (mo))), (3, .ref al)]) [0, 1, 2, 3] rfl ?_
    have e9 : i = mo := by omega
    subst e9
    exact K
  · rcases Nat.mod_two_eq_zero_or_one i with hp | hp
    · refine g_ws (ws' := ([(k, .inr (0, [.ref ko, .ref kp, .ref kr, .ref ks, .int (nI ((rwst ct od cd rv sv i).2.2)), .int (nI (cd))])), (ko, .inl (cs.1, 48, .inl (fun j => nI (od j)))), (bc, .inl (cs.2.1, 48, .inr (.inl (fun j => lN (ct j))))), (kp, .inl (cs.2.2.2, 16, .inr (.inr (.inr (.inr (fun i => some (ra i))))))), (kr, .inl (cs.2.1, 96, .inr (.inl (fun j => lN ((rwst ct od cd rv sv i).1 j))))), (ks, .inl (cs.2.1, 96, .inr (.inl (fun j => lN ((rwst ct od cd rv sv i).2.1 j))))), (al, .inl (cs.1, 48, .inl (fun j => nI (ln j))))] ++ rowsW cs.1 ra (plst ct od cd rv sv pl i))) (by rw [if_pos hp, if_pos hp, if_pos hp, if_pos hp]) ?_
      refine g_aload_n C d_K_makeLengths_61 0 rfl rfl ?_
      refine g_iload C d_K_makeLengths_62 4 rfl ?_
      refine g_aload_n C d_K_makeLengths_64 1 rfl rfl ?_
      refine g_callVvT C (n := 2) (X := [(k, .inr (0, [.ref ko, .ref kp, .ref kr, .ref ks, .int (nI ((rwst ct od cd rv sv i).2.2)), .int (nI (cd))])), (ko, .inl (cs.1, 48, .inl (fun j => nI (od j)))), (bc, .inl (cs.2.1, 48, .inr (.inl (fun j => lN (ct j))))), (kp, .inl (cs.2.2.2, 16, .inr (.inr (.inr (.inr (fun i => some (ra i))))))), (kr, .inl (cs.2.1, 96, .inr (.inl (fun j => lN ((rwst ct od cd rv sv i).1 j))))), (ks, .inl (cs.2.1, 96, .inr (.inl (fun j => lN ((rwst ct od cd rv sv i).2.1 j))))), (al, .inl (cs.1, 48, .inl (fun j => nI (ln j))))]) (X' := [(k, .inr (0, [.ref ko, .ref kp, .ref ks, .ref kr, .int (nI (cd + (rwst ct od cd rv sv i).2.2 / 2)), .int (nI (cd))])), (ko, .inl (cs.1, 48, .inl (fun j => nI (od j)))), (bc, .inl (cs.2.1, 48, .inr (.inl (fun j => lN (ct j))))), (kp, .inl (cs.2.2.2, 16, .inr (.inr (.inr (.inr (fun i => some (ra i))))))), (kr, .inl (cs.2.1, 96, .inr (.inl (fun j => lN ((rwst ct od cd rv sv i).1 j))))), (ks, .inl (cs.2.1, 96, .inr (.inl (fun j => lN ((rwp (ct) (od) ((rwst ct od cd rv sv i).1) (cd) ((rwst ct od cd rv sv i).2.2 / 2) ((rwst ct od cd rv sv i).2.1) (cd + (rwst ct od cd rv sv i).2.2 / 2)) j))))), (al, .inl (cs.1, 48, .inl (fun j => nI (ln j))))]) (As := [.int (nI (i)), .ref bc]) (rest := []) (m_K_buildRow l D cs k ko kp kr ks bc ((rwst ct od cd rv sv i).2.2) ra (ct) (od) (cd) ((rwst ct od cd rv sv i).1) ((rwst ct od cd rv sv i).2.1) (plst ct od cd rv sv pl i) (i) hcd (by omega) (by omega) hct hod (hbd (by omega))) tw_321 tw_323 ts_10 tw_2 tw_324 rfl 0 rfl rfl (by decide +kernel) rfl ⟨rfl, rfl, by decide, by decide, by decide⟩ rfl [0, 1, 2, 3, 4, 5] [7, 8, 9, 10, 11, 12, 13, 14, 15, 16, 17, 18, 19, 20, 21, 22] rfl (by rw [rowsW_len]; rfl) rfl (rowsW_adr _ _ _ _) (by decide) (Nat.le_of_ble_eq_true rfl) rfl d_K_makeLengths_65 ?_
      refine g_iinc C (lv' := [(4, .int (nI (i + 1))), (0, .ref k), (1, .ref bc), (2, .int (nI (mo))), (3, .ref al)]) (k := 4) d_K_makeLengths_68 rfl (nI_1 _) (by decide) rfl ?_
      refine g_goto C 55 d_K_makeLengths_71 (by decide) ?_
      refine g_lv (lv' := [(0, .ref k), (1, .ref bc), (2, .int (nI (mo))), (3, .ref al), (4, .int (nI (i + 1)))]) [1, 2, 3, 4, 0] rfl ?_
      have hg := ih (mo - (i + 1)) (by omega) (i + 1) rfl (by omega)
      rw [if_neg (show ¬ (i + 1) % 2 = 0 by omega), if_neg (show ¬ (i + 1) % 2 = 0 by omega), if_neg (show ¬ (i + 1) % 2 = 0 by omega), if_neg (show ¬ (i + 1) % 2 = 0 by omega)] at hg
      exact hg
    · refine g_ws (ws' := ([(k, .inr (0, [.ref ko, .ref kp, .ref ks, .ref kr, .int (nI ((rwst ct od cd rv sv i).2.2)), .int (nI (cd))])), (ko, .inl (cs.1, 48, .inl (fun j => nI (od j)))), (bc, .inl (cs.2.1, 48, .inr (.inl (fun j => lN (ct j))))), (kp, .inl (cs.2.2.2, 16, .inr (.inr (.inr (.inr (fun i => some (ra i))))))), (kr, .inl (cs.2.1, 96, .inr (.inl (fun j => lN ((rwst ct od cd rv sv i).2.1 j))))), (ks, .inl (cs.2.1, 96, .inr (.inl (fun j => lN ((rwst ct od cd rv sv i).1 j))))), (al, .inl (cs.1, 48, .inl (fun j => nI (ln j))))] ++ rowsW cs.1 ra (plst ct od cd rv sv pl i))) (by rw [if_neg (show ¬ i % 2 = 0 by omega), if_neg (show ¬ i % 2 = 0 by omega), if_neg (show ¬ i % 2 = 0 by omega), if_neg (show ¬ i % 2 = 0 by omega)]) ?_
      refine g_aload_n C d_K_makeLengths_61 0 rfl rfl ?_
      refine g_iload C d_K_makeLengths_62 4 rfl ?_
      refine g_aload_n C d_K_makeLengths_64 1 rfl rfl ?_
      refine g_callVvT C (n := 2) (X := [(k, .inr (0, [.ref ko, .ref kp, .ref ks, .ref kr, .int (nI ((rwst ct od cd rv sv i).2.2)), .int (nI (cd))])), (ko, .inl (cs.1, 48, .inl (fun j => nI (od j)))), (bc, .inl (cs.2.1, 48, .inr (.inl (fun j => lN (ct j))))), (kp, .inl (cs.2.2.2, 16, .inr (.inr (.inr (.inr (fun i => some (ra i))))))), (kr, .inl (cs.2.1, 96, .inr (.inl (fun j => lN ((rwst ct od cd rv sv i).2.1 j))))), (ks, .inl (cs.2.1, 96, .inr (.inl (fun j => lN ((rwst ct od cd rv sv i).1 j))))), (al, .inl (cs.1, 48, .inl (fun j => nI (ln j))))]) (X' := [(k, .inr (0, [.ref ko, .ref kp, .ref kr, .ref ks, .int (nI (cd + (rwst ct od cd rv sv i).2.2 / 2)), .int (nI (cd))])), (ko, .inl (cs.1, 48, .inl (fun j => nI (od j)))), (bc, .inl (cs.2.1, 48, .inr (.inl (fun j => lN (ct j))))), (kp, .inl (cs.2.2.2, 16, .inr (.inr (.inr (.inr (fun i => some (ra i))))))), (kr, .inl (cs.2.1, 96, .inr (.inl (fun j => lN ((rwp (ct) (od) ((rwst ct od cd rv sv i).1) (cd) ((rwst ct od cd rv sv i).2.2 / 2) ((rwst ct od cd rv sv i).2.1) (cd + (rwst ct od cd rv sv i).2.2 / 2)) j))))), (ks, .inl (cs.2.1, 96, .inr (.inl (fun j => lN ((rwst ct od cd rv sv i).1 j))))), (al, .inl (cs.1, 48, .inl (fun j => nI (ln j))))]) (As := [.int (nI (i)), .ref bc]) (rest := []) (m_K_buildRow l D cs k ko kp ks kr bc ((rwst ct od cd rv sv i).2.2) ra (ct) (od) (cd) ((rwst ct od cd rv sv i).1) ((rwst ct od cd rv sv i).2.1) (plst ct od cd rv sv pl i) (i) hcd (by omega) (by omega) hct hod (hbd (by omega))) tw_321 tw_323 ts_10 tw_2 tw_324 rfl 0 rfl rfl (by decide +kernel) rfl ⟨rfl, rfl, by decide, by decide, by decide⟩ rfl [0, 1, 2, 3, 5, 4] [7, 8, 9, 10, 11, 12, 13, 14, 15, 16, 17, 18, 19, 20, 21, 22] rfl (by rw [rowsW_len]; rfl) rfl (rowsW_adr _ _ _ _) (by decide) (Nat.le_of_ble_eq_true rfl) rfl d_K_makeLengths_65 ?_
      refine g_iinc C (lv' := [(4, .int (nI (i + 1))), (0, .ref k), (1, .ref bc), (2, .int (nI (mo))), (3, .ref al)]) (k := 4) d_K_makeLengths_68 rfl (nI_1 _) (by decide) rfl ?_
      refine g_goto C 55 d_K_makeLengths_71 (by decide) ?_
      refine g_lv (lv' := [(0, .ref k), (1, .ref bc), (2, .int (nI (mo))), (3, .ref al), (4, .int (nI (i + 1)))]) [1, 2, 3, 4, 0] rfl ?_
      have hg := ih (mo - (i + 1)) (by omega) (i + 1) rfl (by omega)
      rw [if_pos (show (i + 1) % 2 = 0 by omega), if_pos (show (i + 1) % 2 = 0 by omega), if_pos (show (i + 1) % 2 = 0 by omega), if_pos (show (i + 1) % 2 = 0 by omega)] at hg
      exact hg
