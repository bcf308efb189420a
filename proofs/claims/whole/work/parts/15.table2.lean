set_option maxHeartbeats 4000000 in
set_option maxRecDepth 100000 in
theorem l_T_ss {p : Program} {l : Launch} {e : Env} {s : State} {m : MethodId} {args : Array Value} {below : List Frame} {meth : Method} {c : Code} {Q : State → Prop} {A : Nat → Prop} {D : va_G} {cs : ClassId × ClassId × ClassId × ClassId} (C : CX p s m args c c_T_startShortestFirst 3 RT D cs A) (a al ac ah an rl : Nat) (ln cn sn xn : Nat → Nat) (fl : Nat) 
    (K : GO p l e { frames := 0, cells := 0, slots := 0, locals := 0 } s m args below meth c 0 0 Q A D 3 36 [(0, .ref a)] [] [(a, .inr (1, [.int (nI (rl)), .ref al, .ref ac, .ref ah, .ref an, .int (nI (fl))])), (al, .inl (cs.1, 48, .inl (fun j => nI (ln j)))), (ac, .inl (cs.1, 48, .inl (fun j => nI (cn j)))), (ah, .inl (cs.1, 17, .inl (fun j => nI (sn j)))), (an, .inl (cs.1, 17, .inl (fun j => nI ((nxS sn xn 17) j))))])
    : ∀ (n : Nat) (k : Nat), 16 - k = n → (k ≤ 16) → GO p l e { frames := 0, cells := 0, slots := 0, locals := 0 } s m args below meth c 0 0 Q A D 3 4 [(0, .ref a), (1, .int (nI (cbS sn k))), (2, .int (nI (k + 1)))] [] [(a, .inr (1, [.int (nI (rl)), .ref al, .ref ac, .ref ah, .ref an, .int (nI (fl))])), (al, .inl (cs.1, 48, .inl (fun j => nI (ln j)))), (ac, .inl (cs.1, 48, .inl (fun j => nI (cn j)))), (ah, .inl (cs.1, 17, .inl (fun j => nI (sn j)))), (an, .inl (cs.1, 17, .inl (fun j => nI ((nxS sn xn (k + 1)) j))))] := by
  intro n
  induction n using Nat.strongRecOn with
  | _ n ih =>
  intro k  hn hk
  refine g_iload_n C d_T_startShortestFirst_4 2 rfl rfl ?_
  refine g_bipush C (v := nI 16) d_T_startShortestFirst_5 rfl ?_
  refine n_icmp_gt C 36 d_T_startShortestFirst_7 (by decide) (by omega) (by omega) (fun h7 => ?_) (fun h7 => ?_)
  · refine g_lv (lv' := [(0, .ref a)]) [0] rfl ?_
    have e9 : k = 16 := by omega
    subst e9
    exact K
  · refine g_iconst C (v := nI 2) d_T_startShortestFirst_10 rfl ?_
    refine g_iload_n C d_T_startShortestFirst_11 1 rfl rfl ?_
    refine g_imul C (v := nI ((2) * (cbS sn k))) d_T_startShortestFirst_12 (pk_mul _ _) ?_
    refine g_istore_n C (lv' := [(1, .int (nI ((2) * (cbS sn k)))), (0, .ref a), (2, .int (nI (k + 1)))]) d_T_startShortestFirst_13 rfl (by decide) rfl ?_
    refine g_aload_n C d_T_startShortestFirst_14 1 rfl rfl ?_
    refine g_get C (T := FT) (N := 6) 0 4 inT rfl rfl (by decide) tw_82 rfl rfl d_T_startShortestFirst_15 ?_
    refine g_iload_n C d_T_startShortestFirst_18 2 rfl rfl ?_
    refine g_iload_n C d_T_startShortestFirst_19 0 rfl rfl ?_
    refine n_iast C (ws' := [(a, .inr (1, [.int (nI (rl)), .ref al, .ref ac, .ref ah, .ref an, .int (nI (fl))])), (al, .inl (cs.1, 48, .inl (fun j => nI (ln j)))), (ac, .inl (cs.1, 48, .inl (fun j => nI (cn j)))), (ah, .inl (cs.1, 17, .inl (fun j => nI (sn j)))), (an, .inl (cs.1, 17, .inl (fun j => nI ((updN ((nxS sn xn (k + 1))) (k + 1) ((2) * (cbS sn k))) j))))]) 4 rfl (by omega) (by decide) rfl d_T_startShortestFirst_20 ?_
    refine g_iload_n C d_T_startShortestFirst_21 0 rfl rfl ?_
    refine g_aload_n C d_T_startShortestFirst_22 1 rfl rfl ?_
    refine g_get C (T := FT) (N := 6) 0 3 inT rfl rfl (by decide) tw_81 rfl rfl d_T_startShortestFirst_23 ?_
    refine g_iload_n C d_T_startShortestFirst_26 2 rfl rfl ?_
    refine g_iald C 3 rfl (by omega) (by decide) d_T_startShortestFirst_27 ?_
    refine g_iadd C (v := nI ((2) * (cbS sn k) + (sn (k + 1)))) d_T_startShortestFirst_28 (nI_add _ _) ?_
    refine g_istore_n C (lv' := [(1, .int (nI ((2) * (cbS sn k) + (sn (k + 1))))), (0, .ref a), (2, .int (nI (k + 1)))]) d_T_startShortestFirst_29 rfl (by decide) rfl ?_
    refine g_iinc C (lv' := [(2, .int (nI (k + 1 + 1))), (1, .int (nI ((2) * (cbS sn k) + (sn (k + 1))))), (0, .ref a)]) (k := 2) d_T_startShortestFirst_30 rfl (nI_1 _) (by decide) rfl ?_
    refine g_goto C 4 d_T_startShortestFirst_33 (by decide) ?_
    refine g_ws (ws' := [(a, .inr (1, [.int (nI (rl)), .ref al, .ref ac, .ref ah, .ref an, .int (nI (fl))])), (al, .inl (cs.1, 48, .inl (fun j => nI (ln j)))), (ac, .inl (cs.1, 48, .inl (fun j => nI (cn j)))), (ah, .inl (cs.1, 17, .inl (fun j => nI (sn j)))), (an, .inl (cs.1, 17, .inl (fun j => nI ((nxS sn xn (k + 1 + 1)) j))))]) (by rw [nxS_up]) ?_
    refine g_lv (lv' := [(0, .ref a), (1, .int (nI ((2) * (cbS sn k) + (sn (k + 1))))), (2, .int (nI (k + 1 + 1)))]) [2, 1, 0] rfl ?_
    exact ih (16 - (k + 1)) (by omega) (k + 1) rfl (by omega)
set_option maxHeartbeats 4000000 in
set_option maxRecDepth 100000 in
theorem m_T_startShortestFirst (l : Launch) (D : va_G) (cs : ClassId × ClassId × ClassId × ClassId) (a al ac ah an rl : Nat) (ln cn sn xn : Nat → Nat) (fl : Nat) : MG l y_T_startShortestFirst k_T_startShortestFirst { frames := 0, cells := 0, slots := 0, locals := 0 } D cs [.ref a] [(a, .inr (1, [.int (nI (rl)), .ref al, .ref ac, .ref ah, .ref an, .int (nI (fl))])), (al, .inl (cs.1, 48, .inl (fun j => nI (ln j)))), (ac, .inl (cs.1, 48, .inl (fun j => nI (cn j)))), (ah, .inl (cs.1, 17, .inl (fun j => nI (sn j)))), (an, .inl (cs.1, 17, .inl (fun j => nI (xn j))))] (QV D [(a, .inr (1, [.int (nI (rl)), .ref al, .ref ac, .ref ah, .ref an, .int (nI (fl))])), (al, .inl (cs.1, 48, .inl (fun j => nI (ln j)))), (ac, .inl (cs.1, 48, .inl (fun j => nI (cn j)))), (ah, .inl (cs.1, 17, .inl (fun j => nI (sn j)))), (an, .inl (cs.1, 17, .inl (fun j => nI ((nxS sn xn 17) j))))]) := by
  refine MG.mk (own := RT) (by decide) rfl (Nat.le_of_ble_eq_true rfl) ?_
  intro p e s m below meth c A C hr hlk
  refine g_lv (lv' := [(0, .ref a)]) [0] rfl ?_
  refine g_iconst C (v := nI 0) d_T_startShortestFirst_0 rfl ?_
  refine g_istore_n C (lv' := [(1, .int (nI (0))), (0, .ref a)]) d_T_startShortestFirst_1 rfl (by decide) rfl ?_
  refine g_iconst C (v := nI 1) d_T_startShortestFirst_2 rfl ?_
  refine g_istore_n C (lv' := [(2, .int (nI (1))), (1, .int (nI (0))), (0, .ref a)]) d_T_startShortestFirst_3 rfl (by decide) rfl ?_
  refine g_ws (ws' := [(a, .inr (1, [.int (nI (rl)), .ref al, .ref ac, .ref ah, .ref an, .int (nI (fl))])), (al, .inl (cs.1, 48, .inl (fun j => nI (ln j)))), (ac, .inl (cs.1, 48, .inl (fun j => nI (cn j)))), (ah, .inl (cs.1, 17, .inl (fun j => nI (sn j)))), (an, .inl (cs.1, 17, .inl (fun j => nI ((nxS sn xn (0 + 1)) j))))]) (by rw [nxS_0]) ?_
  refine g_lv (lv' := [(0, .ref a), (1, .int (nI (0))), (2, .int (nI (1)))]) [2, 1, 0] rfl ?_
  refine l_T_ss C a al ac ah an rl ln cn sn xn fl ?_ _ 0 rfl (by omega)
  exact g_vret C hr hlk rfl d_T_startShortestFirst_36
set_option maxHeartbeats 4000000 in
set_option maxRecDepth 100000 in
theorem l_T_sl {p : Program} {l : Launch} {e : Env} {s : State} {m : MethodId} {args : Array Value} {below : List Frame} {meth : Method} {c : Code} {Q : State → Prop} {A : Nat → Prop} {D : va_G} {cs : ClassId × ClassId × ClassId × ClassId} (C : CX p s m args c c_T_startLongestFirst 3 RT D cs A) (a al ac ah an rl : Nat) (ln cn sn xn : Nat → Nat) (fl : Nat) (hs : ∀ j, sn j ≤ 48)
    (K : GO p l e { frames := 0, cells := 0, slots := 0, locals := 0 } s m args below meth c 0 0 Q A D 3 38 [(0, .ref a)] [] [(a, .inr (1, [.int (nI (rl)), .ref al, .ref ac, .ref ah, .ref an, .int (nI (fl))])), (al, .inl (cs.1, 48, .inl (fun j => nI (ln j)))), (ac, .inl (cs.1, 48, .inl (fun j => nI (cn j)))), (ah, .inl (cs.1, 17, .inl (fun j => nI (sn j)))), (an, .inl (cs.1, 17, .inl (fun j => nI ((nxL sn xn 0) j))))])
    : ∀ (n : Nat) (k : Nat), k = n → (k ≤ 16) → GO p l e { frames := 0, cells := 0, slots := 0, locals := 0 } s m args below meth c 0 0 Q A D 3 5 [(0, .ref a), (1, .int (nI (cbL sn (16 - k)))), (2, .int (nI (k)))] [] [(a, .inr (1, [.int (nI (rl)), .ref al, .ref ac, .ref ah, .ref an, .int (nI (fl))])), (al, .inl (cs.1, 48, .inl (fun j => nI (ln j)))), (ac, .inl (cs.1, 48, .inl (fun j => nI (cn j)))), (ah, .inl (cs.1, 17, .inl (fun j => nI (sn j)))), (an, .inl (cs.1, 17, .inl (fun j => nI ((nxL sn xn k) j))))] := by
  intro n
  induction n using Nat.strongRecOn with
  | _ n ih =>
  intro k  hn hk
  refine g_iload_n C d_T_startLongestFirst_5 2 rfl rfl ?_
  refine g_iconst C (v := nI 1) d_T_startLongestFirst_6 rfl ?_
  refine n_icmp_lt C 38 d_T_startLongestFirst_7 (by decide) (by omega) (by omega) (fun h7 => ?_) (fun h7 => ?_)
  · refine g_lv (lv' := [(0, .ref a)]) [0] rfl ?_
    have e9 : k = 0 := by omega
    subst e9
    exact K
  · refine g_iload_n C d_T_startLongestFirst_10 1 rfl rfl ?_
    refine g_iconst C (v := nI 1) d_T_startLongestFirst_11 rfl ?_
    refine g_iadd C (v := nI (cbL sn (16 - k) + 1)) d_T_startLongestFirst_12 (nI_add _ _) ?_
    refine g_iconst C (v := nI 2) d_T_startLongestFirst_13 rfl ?_
    refine g_idiv C (v := nI ((cbL sn (16 - k) + 1) / 2)) d_T_startLongestFirst_14 (nI_ne0 (n := 2) (by omega) (by omega)) (pk_div (d := 2) (by have := cbL_le hs (16 - k); omega) (by omega) (by omega)) ?_
    refine g_istore_n C (lv' := [(1, .int (nI ((cbL sn (16 - k) + 1) / 2))), (0, .ref a), (2, .int (nI (k)))]) d_T_startLongestFirst_15 rfl (by decide) rfl ?_
    refine g_aload_n C d_T_startLongestFirst_16 1 rfl rfl ?_
    refine g_get C (T := FT) (N := 6) 0 4 inT rfl rfl (by decide) tw_82 rfl rfl d_T_startLongestFirst_17 ?_
    refine g_iload_n C d_T_startLongestFirst_20 2 rfl rfl ?_
    refine g_iload_n C d_T_startLongestFirst_21 0 rfl rfl ?_
    refine n_iast C (ws' := [(a, .inr (1, [.int (nI (rl)), .ref al, .ref ac, .ref ah, .ref an, .int (nI (fl))])), (al, .inl (cs.1, 48, .inl (fun j => nI (ln j)))), (ac, .inl (cs.1, 48, .inl (fun j => nI (cn j)))), (ah, .inl (cs.1, 17, .inl (fun j => nI (sn j)))), (an, .inl (cs.1, 17, .inl (fun j => nI ((updN ((nxL sn xn k)) (k) ((cbL sn (16 - k) + 1) / 2)) j))))]) 4 rfl (by omega) (by decide) rfl d_T_startLongestFirst_22 ?_
    refine g_iload_n C d_T_startLongestFirst_23 0 rfl rfl ?_
    refine g_aload_n C d_T_startLongestFirst_24 1 rfl rfl ?_
    refine g_get C (T := FT) (N := 6) 0 3 inT rfl rfl (by decide) tw_81 rfl rfl d_T_startLongestFirst_25 ?_
    refine g_iload_n C d_T_startLongestFirst_28 2 rfl rfl ?_
    refine g_iald C 3 rfl (by omega) (by decide) d_T_startLongestFirst_29 ?_
    refine g_iadd C (v := nI ((cbL sn (16 - k) + 1) / 2 + (sn (k)))) d_T_startLongestFirst_30 (nI_add _ _) ?_
    refine g_istore_n C (lv' := [(1, .int (nI ((cbL sn (16 - k) + 1) / 2 + (sn (k))))), (0, .ref a), (2, .int (nI (k)))]) d_T_startLongestFirst_31 rfl (by decide) rfl ?_
    refine g_iinc C (lv' := [(2, .int (nI (k - 1))), (1, .int (nI ((cbL sn (16 - k) + 1) / 2 + (sn (k))))), (0, .ref a)]) (k := 2) d_T_startLongestFirst_32 rfl (nI_dec (by omega)) (by decide) rfl ?_
    refine g_goto C 5 d_T_startLongestFirst_35 (by decide) ?_
    refine g_ws (ws' := [(a, .inr (1, [.int (nI (rl)), .ref al, .ref ac, .ref ah, .ref an, .int (nI (fl))])), (al, .inl (cs.1, 48, .inl (fun j => nI (ln j)))), (ac, .inl (cs.1, 48, .inl (fun j => nI (cn j)))), (ah, .inl (cs.1, 17, .inl (fun j => nI (sn j)))), (an, .inl (cs.1, 17, .inl (fun j => nI ((nxL sn xn (k - 1)) j))))]) (by rw [nxL_up sn xn (by omega) hk]) ?_
    have e8 : (cbL sn (16 - k) + 1) / 2 + sn k = cbL sn (16 - (k - 1)) := by
      rw [show 16 - (k - 1) = (16 - k) + 1 by omega]; show _ = (cbL sn (16 - k) + 1) / 2 + sn (16 - (16 - k)); rw [show 16 - (16 - k) = k by omega]
    rw [e8]
    refine g_lv (lv' := [(0, .ref a), (1, .int (nI (cbL sn (16 - (k - 1))))), (2, .int (nI (k - 1)))]) [2, 1, 0] rfl ?_
    exact ih (k - 1) (by omega) (k - 1) rfl (by omega)
set_option maxHeartbeats 4000000 in
set_option maxRecDepth 100000 in
theorem m_T_startLongestFirst (l : Launch) (D : va_G) (cs : ClassId × ClassId × ClassId × ClassId) (a al ac ah an rl : Nat) (ln cn sn xn : Nat → Nat) (fl : Nat) (hs : ∀ j, sn j ≤ 48) : MG l y_T_startLongestFirst k_T_startLongestFirst { frames := 0, cells := 0, slots := 0, locals := 0 } D cs [.ref a] [(a, .inr (1, [.int (nI (rl)), .ref al, .ref ac, .ref ah, .ref an, .int (nI (fl))])), (al, .inl (cs.1, 48, .inl (fun j => nI (ln j)))), (ac, .inl (cs.1, 48, .inl (fun j => nI (cn j)))), (ah, .inl (cs.1, 17, .inl (fun j => nI (sn j)))), (an, .inl (cs.1, 17, .inl (fun j => nI (xn j))))] (QV D [(a, .inr (1, [.int (nI (rl)), .ref al, .ref ac, .ref ah, .ref an, .int (nI (fl))])), (al, .inl (cs.1, 48, .inl (fun j => nI (ln j)))), (ac, .inl (cs.1, 48, .inl (fun j => nI (cn j)))), (ah, .inl (cs.1, 17, .inl (fun j => nI (sn j)))), (an, .inl (cs.1, 17, .inl (fun j => nI ((nxL sn xn 0) j))))]) := by
  refine MG.mk (own := RT) (by decide) rfl (Nat.le_of_ble_eq_true rfl) ?_
  intro p e s m below meth c A C hr hlk
  refine g_lv (lv' := [(0, .ref a)]) [0] rfl ?_
  refine g_iconst C (v := nI 0) d_T_startLongestFirst_0 rfl ?_
  refine g_istore_n C (lv' := [(1, .int (nI (0))), (0, .ref a)]) d_T_startLongestFirst_1 rfl (by decide) rfl ?_
  refine g_bipush C (v := nI 16) d_T_startLongestFirst_2 rfl ?_
  refine g_istore_n C (lv' := [(2, .int (nI (16))), (1, .int (nI (0))), (0, .ref a)]) d_T_startLongestFirst_4 rfl (by decide) rfl ?_
  refine g_ws (ws' := [(a, .inr (1, [.int (nI (rl)), .ref al, .ref ac, .ref ah, .ref an, .int (nI (fl))])), (al, .inl (cs.1, 48, .inl (fun j => nI (ln j)))), (ac, .inl (cs.1, 48, .inl (fun j => nI (cn j)))), (ah, .inl (cs.1, 17, .inl (fun j => nI (sn j)))), (an, .inl (cs.1, 17, .inl (fun j => nI ((nxL sn xn 16) j))))]) (by rw [nxL_16]) ?_
  refine g_lv (lv' := [(0, .ref a), (1, .int (nI (0))), (2, .int (nI (16)))]) [2, 1, 0] rfl ?_
  refine l_T_sl C a al ac ah an rl ln cn sn xn fl hs ?_ _ 16 rfl (by omega)
  exact g_vret C hr hlk rfl d_T_startLongestFirst_38
set_option maxHeartbeats 4000000 in
set_option maxRecDepth 100000 in
theorem m_T_takeCode (l : Launch) (D : va_G) (cs : ClassId × ClassId × ClassId × ClassId) (a al ac ah an rl : Nat) (ln cn sn xn : Nat → Nat) (fl : Nat) (L : Nat) (hL : L ≤ 16) (h1 : rl = 1 → xn L < 2 ^ L) (hrl : rl < 3) : MG l y_T_takeCode k_T_takeCode { frames := 0, cells := 0, slots := 0, locals := 0 } D cs [.ref a, .int (nI (L))] [(a, .inr (1, [.int (nI (rl)), .ref al, .ref ac, .ref ah, .ref an, .int (nI (fl))])), (al, .inl (cs.1, 48, .inl (fun j => nI (ln j)))), (ac, .inl (cs.1, 48, .inl (fun j => nI (cn j)))), (ah, .inl (cs.1, 17, .inl (fun j => nI (sn j)))), (an, .inl (cs.1, 17, .inl (fun j => nI (xn j))))] (QI D (nI (if rl = 1 then 2 ^ L - 1 - xn L else xn L)) [(a, .inr (1, [.int (nI (rl)), .ref al, .ref ac, .ref ah, .ref an, .int (nI (fl))])), (al, .inl (cs.1, 48, .inl (fun j => nI (ln j)))), (ac, .inl (cs.1, 48, .inl (fun j => nI (cn j)))), (ah, .inl (cs.1, 17, .inl (fun j => nI (sn j)))), (an, .inl (cs.1, 17, .inl (fun j => nI ((updN xn L (xn L + 1)) j))))]) := by
  refine MG.mk (own := RT) (by decide) rfl (Nat.le_of_ble_eq_true rfl) ?_
  intro p e s m below meth c A C hr hlk
  refine g_lv (lv' := [(0, .ref a), (1, .int (nI (L)))]) [0, 1] rfl ?_
  refine g_aload_n C d_T_takeCode_0 0 rfl rfl ?_
  refine g_get C (T := FT) (N := 6) 0 4 inT rfl rfl (by decide) tw_82 rfl rfl d_T_takeCode_1 ?_
  refine g_iload_n C d_T_takeCode_4 1 rfl rfl ?_
  refine g_iald C 4 rfl (by omega) (by decide) d_T_takeCode_5 ?_
  refine g_istore_n C (lv' := [(2, .int (nI (xn (L)))), (0, .ref a), (1, .int (nI (L)))]) d_T_takeCode_6 rfl (by decide) rfl ?_
  refine g_aload_n C d_T_takeCode_7 1 rfl rfl ?_
  refine g_get C (T := FT) (N := 6) 0 4 inT rfl rfl (by decide) tw_82 rfl rfl d_T_takeCode_8 ?_
  refine g_iload_n C d_T_takeCode_11 2 rfl rfl ?_
  refine g_dup2 C d_T_takeCode_12 rfl rfl ?_
  refine g_iald C 4 rfl (by omega) (by decide) d_T_takeCode_13 ?_
  refine g_iconst C (v := nI 1) d_T_takeCode_14 rfl ?_
  refine g_iadd C (v := nI (xn (L) + 1)) d_T_takeCode_15 (nI_add _ _) ?_
  refine n_iast C (ws' := [(a, .inr (1, [.int (nI (rl)), .ref al, .ref ac, .ref ah, .ref an, .int (nI (fl))])), (al, .inl (cs.1, 48, .inl (fun j => nI (ln j)))), (ac, .inl (cs.1, 48, .inl (fun j => nI (cn j)))), (ah, .inl (cs.1, 17, .inl (fun j => nI (sn j)))), (an, .inl (cs.1, 17, .inl (fun j => nI ((updN (xn) (L) (xn (L) + 1)) j))))]) 4 rfl (by omega) (by decide) rfl d_T_takeCode_16 ?_
  refine g_aload_n C d_T_takeCode_17 1 rfl rfl ?_
  refine g_get C (T := FT) (N := 6) 0 0 inT rfl rfl (by decide) tw_76 rfl rfl d_T_takeCode_18 ?_
  refine g_iconst C (v := nI 1) d_T_takeCode_21 rfl ?_
  refine n_icmp_ne C 35 d_T_takeCode_22 (by decide) (by omega) (by omega) (fun h22 => ?_) (fun h22 => ?_)
  · refine g_iload_n C d_T_takeCode_35 0 rfl rfl ?_
    exact g_iret C hr hlk (by first | (rw [if_pos (by assumption)]) | (rw [if_neg (by assumption)])) rfl d_T_takeCode_36
  · refine g_iconst C (v := nI 1) d_T_takeCode_25 rfl ?_
    refine g_iload_n C d_T_takeCode_26 2 rfl rfl ?_
    refine g_ishl C (v := nI (2 ^ L)) d_T_takeCode_27 ((n_shl ⟨by omega, by have : 2 ^ L ≤ 2 ^ 16 := Nat.pow_le_pow_right (by omega) hL; omega⟩).trans (by rw [Nat.one_mul])) ?_
    refine g_iconst C (v := nI 1) d_T_takeCode_28 rfl ?_
    refine g_isub C (v := nI (2 ^ L - 1)) d_T_takeCode_29 (pk_sub (by have := Nat.two_pow_pos L; omega)) ?_
    refine g_iload_n C d_T_takeCode_30 0 rfl rfl ?_
    refine g_isub C (v := nI (2 ^ L - 1 - xn L)) d_T_takeCode_31 (pk_sub (by have := h1 (by omega); omega)) ?_
    refine g_goto C 36 d_T_takeCode_32 (by decide) ?_
    exact g_iret C hr hlk (by first | (rw [if_pos (by assumption)]) | (rw [if_neg (by assumption)])) rfl d_T_takeCode_36
