set_option maxHeartbeats 4000000 in
set_option maxRecDepth 100000 in
theorem m_T_state (l : Launch) (D : va_G) (cs : ClassId × ClassId × ClassId × ClassId) (a al ac ah an rl : Nat) (ln cn sn xn : Nat → Nat) (fl : Nat) (hf : fl < 2 ^ 31) : MG l y_T_state k_T_state { frames := 0, cells := 0, slots := 0, locals := 0 } D cs [.ref a] [(a, .inr (1, [.int (nI (rl)), .ref al, .ref ac, .ref ah, .ref an, .int (nI (fl))])), (al, .inl (cs.1, 48, .inl (fun j => nI (ln j)))), (ac, .inl (cs.1, 48, .inl (fun j => nI (cn j)))), (ah, .inl (cs.1, 17, .inl (fun j => nI (sn j)))), (an, .inl (cs.1, 17, .inl (fun j => nI (xn j))))] (QI D (nI (stt fl)) [(a, .inr (1, [.int (nI (rl)), .ref al, .ref ac, .ref ah, .ref an, .int (nI (fl))])), (al, .inl (cs.1, 48, .inl (fun j => nI (ln j)))), (ac, .inl (cs.1, 48, .inl (fun j => nI (cn j)))), (ah, .inl (cs.1, 17, .inl (fun j => nI (sn j)))), (an, .inl (cs.1, 17, .inl (fun j => nI (xn j))))]) := by
  refine MG.mk (own := RT) (by decide) rfl (Nat.le_of_ble_eq_true rfl) ?_
  intro p e s m below meth c A C hr hlk
  refine g_lv (lv' := [(0, .ref a)]) [0] rfl ?_
  refine g_aload_n C d_T_state_0 0 rfl rfl ?_
  refine g_get C (T := FT) (N := 6) 0 5 inT rfl rfl (by decide) tw_83 rfl rfl d_T_state_1 ?_
  refine g_ldc C (v := nI 65536) tw_138 d_T_state_4 ?_
  refine n_icmp_le C 11 d_T_state_6 (by decide) (by omega) (by omega) (fun h6 => ?_) (fun h6 => ?_)
  · refine g_aload_n C d_T_state_11 0 rfl rfl ?_
    refine g_get C (T := FT) (N := 6) 0 5 inT rfl rfl (by decide) tw_83 rfl rfl d_T_state_12 ?_
    refine g_ldc C (v := nI 65536) tw_138 d_T_state_15 ?_
    refine n_icmp_ne C 24 d_T_state_17 (by decide) (by omega) (by omega) (fun h17 => ?_) (fun h17 => ?_)
    · refine g_iconst C (v := nI 1) d_T_state_24 rfl ?_
      exact g_iret C hr hlk (congrArg nI (by unfold stt; (repeat' split) <;> first | rfl | omega)) rfl d_T_state_25
    · refine g_iconst C (v := nI 0) d_T_state_20 rfl ?_
      refine g_goto C 25 d_T_state_21 (by decide) ?_
      exact g_iret C hr hlk (congrArg nI (by unfold stt; (repeat' split) <;> first | rfl | omega)) rfl d_T_state_25
  · refine g_iconst C (v := nI 2) d_T_state_9 rfl ?_
    exact g_iret C hr hlk (congrArg nI (by unfold stt; (repeat' split) <;> first | rfl | omega)) rfl d_T_state_10
set_option maxHeartbeats 4000000 in
set_option maxRecDepth 100000 in
theorem l_T_cs1 {p : Program} {l : Launch} {e : Env} {s : State} {m : MethodId} {args : Array Value} {below : List Frame} {meth : Method} {c : Code} {Q : State → Prop} {A : Nat → Prop} {D : va_G} {cs : ClassId × ClassId × ClassId × ClassId} (C : CX p s m args c c_T_countSharing 2 RT D cs A) (a al ac ah an rl : Nat) (ln cn sn xn : Nat → Nat) (fl : Nat) 
    (K : ∀ sn9 : Nat → Nat, (∀ j, j < 17 → sn9 j = 0) → GO p l e { frames := 0, cells := 0, slots := 0, locals := 0 } s m args below meth c 0 0 Q A D 2 21 [(0, .ref a)] [] [(a, .inr (1, [.int (nI (rl)), .ref al, .ref ac, .ref ah, .ref an, .int (nI (fl))])), (al, .inl (cs.1, 48, .inl (fun j => nI (ln j)))), (ac, .inl (cs.1, 48, .inl (fun j => nI (cn j)))), (ah, .inl (cs.1, 17, .inl (fun j => nI (sn9 j)))), (an, .inl (cs.1, 17, .inl (fun j => nI (xn j))))])
    : ∀ (n : Nat) (i : Nat) (g : Nat → Nat), 17 - i = n → (i ≤ 17) → (∀ j, j < i → g j = 0) → GO p l e { frames := 0, cells := 0, slots := 0, locals := 0 } s m args below meth c 0 0 Q A D 2 2 [(0, .ref a), (1, .int (nI (i)))] [] [(a, .inr (1, [.int (nI (rl)), .ref al, .ref ac, .ref ah, .ref an, .int (nI (fl))])), (al, .inl (cs.1, 48, .inl (fun j => nI (ln j)))), (ac, .inl (cs.1, 48, .inl (fun j => nI (cn j)))), (ah, .inl (cs.1, 17, .inl (fun j => nI (g j)))), (an, .inl (cs.1, 17, .inl (fun j => nI (xn j))))] := by
  intro n
  induction n using Nat.strongRecOn with
  | _ n ih =>
  intro i  g  hn hi hg
  refine g_iload_n C d_T_countSharing_2 1 rfl rfl ?_
  refine g_bipush C (v := nI 16) d_T_countSharing_3 rfl ?_
  refine n_icmp_gt C 21 d_T_countSharing_5 (by decide) (by omega) (by omega) (fun h5 => ?_) (fun h5 => ?_)
  · refine g_lv (lv' := [(0, .ref a)]) [0] rfl ?_
    exact K g (fun j hj => hg j (by omega))
  · refine g_aload_n C d_T_countSharing_8 0 rfl rfl ?_
    refine g_get C (T := FT) (N := 6) 0 3 inT rfl rfl (by decide) tw_81 rfl rfl d_T_countSharing_9 ?_
    refine g_iload_n C d_T_countSharing_12 1 rfl rfl ?_
    refine g_iconst C (v := nI 0) d_T_countSharing_13 rfl ?_
    refine n_iast C (ws' := [(a, .inr (1, [.int (nI (rl)), .ref al, .ref ac, .ref ah, .ref an, .int (nI (fl))])), (al, .inl (cs.1, 48, .inl (fun j => nI (ln j)))), (ac, .inl (cs.1, 48, .inl (fun j => nI (cn j)))), (ah, .inl (cs.1, 17, .inl (fun j => nI ((updN (g) (i) (0)) j)))), (an, .inl (cs.1, 17, .inl (fun j => nI (xn j))))]) 3 rfl (by omega) (by decide) rfl d_T_countSharing_14 ?_
    refine g_iinc C (lv' := [(1, .int (nI (i + 1))), (0, .ref a)]) (k := 1) d_T_countSharing_15 rfl (nI_1 _) (by decide) rfl ?_
    refine g_goto C 2 d_T_countSharing_18 (by decide) ?_
    refine g_lv (lv' := [(0, .ref a), (1, .int (nI (i + 1)))]) [1, 0] rfl ?_
    exact ih (17 - (i + 1)) (by omega) (i + 1) _ rfl (by omega) (fun j hj => by unfold updN; split; rfl; exact hg j (by omega))
set_option maxHeartbeats 4000000 in
set_option maxRecDepth 100000 in
theorem l_T_cs2 {p : Program} {l : Launch} {e : Env} {s : State} {m : MethodId} {args : Array Value} {below : List Frame} {meth : Method} {c : Code} {Q : State → Prop} {A : Nat → Prop} {D : va_G} {cs : ClassId × ClassId × ClassId × ClassId} (C : CX p s m args c c_T_countSharing 2 RT D cs A) (a al ac ah an rl : Nat) (ln cn sn xn : Nat → Nat) (fl : Nat) (hl : ∀ j, j < 48 → ln j ≤ 16)
    (K : GO p l e { frames := 0, cells := 0, slots := 0, locals := 0 } s m args below meth c 0 0 Q A D 2 50 [(0, .ref a)] [] [(a, .inr (1, [.int (nI (rl)), .ref al, .ref ac, .ref ah, .ref an, .int (nI (fl))])), (al, .inl (cs.1, 48, .inl (fun j => nI (ln j)))), (ac, .inl (cs.1, 48, .inl (fun j => nI (cn j)))), (ah, .inl (cs.1, 17, .inl (fun j => nI ((shr ln 48) j)))), (an, .inl (cs.1, 17, .inl (fun j => nI (xn j))))])
    : ∀ (n : Nat) (i : Nat), 48 - i = n → (i ≤ 48) → GO p l e { frames := 0, cells := 0, slots := 0, locals := 0 } s m args below meth c 0 0 Q A D 2 23 [(0, .ref a), (1, .int (nI (i)))] [] [(a, .inr (1, [.int (nI (rl)), .ref al, .ref ac, .ref ah, .ref an, .int (nI (fl))])), (al, .inl (cs.1, 48, .inl (fun j => nI (ln j)))), (ac, .inl (cs.1, 48, .inl (fun j => nI (cn j)))), (ah, .inl (cs.1, 17, .inl (fun j => nI ((shr ln i) j)))), (an, .inl (cs.1, 17, .inl (fun j => nI (xn j))))] := by
  intro n
  induction n using Nat.strongRecOn with
  | _ n ih =>
  intro i  hn hi
  refine g_iload_n C d_T_countSharing_23 1 rfl rfl ?_
  refine g_bipush C (v := nI 48) d_T_countSharing_24 rfl ?_
  refine n_icmp_ge C 50 d_T_countSharing_26 (by decide) (by omega) (by omega) (fun h26 => ?_) (fun h26 => ?_)
  · refine g_lv (lv' := [(0, .ref a)]) [0] rfl ?_
    have e9 : i = 48 := by omega
    subst e9
    exact K
  · refine g_aload_n C d_T_countSharing_29 0 rfl rfl ?_
    refine g_get C (T := FT) (N := 6) 0 3 inT rfl rfl (by decide) tw_81 rfl rfl d_T_countSharing_30 ?_
    refine g_aload_n C d_T_countSharing_33 0 rfl rfl ?_
    refine g_get C (T := FT) (N := 6) 0 1 inT rfl rfl (by decide) tw_77 rfl rfl d_T_countSharing_34 ?_
    refine g_iload_n C d_T_countSharing_37 1 rfl rfl ?_
    refine g_iald C 1 rfl (by omega) (by decide) d_T_countSharing_38 ?_
    refine g_dup2 C d_T_countSharing_39 rfl rfl ?_
    refine g_iald C 3 rfl (by have := hl i (by omega); omega) (by decide) d_T_countSharing_40 ?_
    refine g_iconst C (v := nI 1) d_T_countSharing_41 rfl ?_
    refine g_iadd C (v := nI ((shr ln i) (ln (i)) + 1)) d_T_countSharing_42 (nI_add _ _) ?_
    refine n_iast C (ws' := [(a, .inr (1, [.int (nI (rl)), .ref al, .ref ac, .ref ah, .ref an, .int (nI (fl))])), (al, .inl (cs.1, 48, .inl (fun j => nI (ln j)))), (ac, .inl (cs.1, 48, .inl (fun j => nI (cn j)))), (ah, .inl (cs.1, 17, .inl (fun j => nI ((updN ((shr ln i)) (ln (i)) ((shr ln i) (ln (i)) + 1)) j)))), (an, .inl (cs.1, 17, .inl (fun j => nI (xn j))))]) 3 rfl (by have := hl i (by omega); omega) (by decide) rfl d_T_countSharing_43 ?_
    refine g_iinc C (lv' := [(1, .int (nI (i + 1))), (0, .ref a)]) (k := 1) d_T_countSharing_44 rfl (nI_1 _) (by decide) rfl ?_
    refine g_goto C 23 d_T_countSharing_47 (by decide) ?_
    refine g_ws (ws' := [(a, .inr (1, [.int (nI (rl)), .ref al, .ref ac, .ref ah, .ref an, .int (nI (fl))])), (al, .inl (cs.1, 48, .inl (fun j => nI (ln j)))), (ac, .inl (cs.1, 48, .inl (fun j => nI (cn j)))), (ah, .inl (cs.1, 17, .inl (fun j => nI ((shr ln (i + 1)) j)))), (an, .inl (cs.1, 17, .inl (fun j => nI (xn j))))]) (by rw [shr_upd]) ?_
    refine g_lv (lv' := [(0, .ref a), (1, .int (nI (i + 1)))]) [1, 0] rfl ?_
    exact ih (48 - (i + 1)) (by omega) (i + 1) rfl (by omega)
set_option maxHeartbeats 4000000 in
set_option maxRecDepth 100000 in
theorem m_T_countSharing (l : Launch) (D : va_G) (cs : ClassId × ClassId × ClassId × ClassId) (a al ac ah an rl : Nat) (ln cn sn xn : Nat → Nat) (fl : Nat) (hl : ∀ j, j < 48 → ln j ≤ 16) : MG l y_T_countSharing k_T_countSharing { frames := 0, cells := 0, slots := 0, locals := 0 } D cs [.ref a] [(a, .inr (1, [.int (nI (rl)), .ref al, .ref ac, .ref ah, .ref an, .int (nI (fl))])), (al, .inl (cs.1, 48, .inl (fun j => nI (ln j)))), (ac, .inl (cs.1, 48, .inl (fun j => nI (cn j)))), (ah, .inl (cs.1, 17, .inl (fun j => nI (sn j)))), (an, .inl (cs.1, 17, .inl (fun j => nI (xn j))))] (QV D [(a, .inr (1, [.int (nI (rl)), .ref al, .ref ac, .ref ah, .ref an, .int (nI (fl))])), (al, .inl (cs.1, 48, .inl (fun j => nI (ln j)))), (ac, .inl (cs.1, 48, .inl (fun j => nI (cn j)))), (ah, .inl (cs.1, 17, .inl (fun j => nI ((shr ln 48) j)))), (an, .inl (cs.1, 17, .inl (fun j => nI (xn j))))]) := by
  refine MG.mk (own := RT) (by decide) rfl (Nat.le_of_ble_eq_true rfl) ?_
  intro p e s m below meth c A C hr hlk
  refine g_lv (lv' := [(0, .ref a)]) [0] rfl ?_
  refine g_iconst C (v := nI 0) d_T_countSharing_0 rfl ?_
  refine g_istore_n C (lv' := [(1, .int (nI (0))), (0, .ref a)]) d_T_countSharing_1 rfl (by decide) rfl ?_
  refine g_lv (lv' := [(0, .ref a), (1, .int (nI (0)))]) [1, 0] rfl ?_
  refine l_T_cs1 C a al ac ah an rl ln cn sn xn fl ?_ _ 0 sn rfl (by omega) (fun j hj => absurd hj (by omega))
  intro sn9 hs9
  refine n_ci (f2 := shr ln 0) (ws' := [(a, .inr (1, [.int (nI (rl)), .ref al, .ref ac, .ref ah, .ref an, .int (nI (fl))])), (al, .inl (cs.1, 48, .inl (fun j => nI (ln j)))), (ac, .inl (cs.1, 48, .inl (fun j => nI (cn j)))), (ah, .inl (cs.1, 17, .inl (fun j => nI ((shr ln 0) j)))), (an, .inl (cs.1, 17, .inl (fun j => nI (xn j))))]) 3 rfl (fun j hj => by rw [hs9 j hj]; rfl) rfl ?_
  refine g_iconst C (v := nI 0) d_T_countSharing_21 rfl ?_
  refine g_istore_n C (lv' := [(1, .int (nI (0))), (0, .ref a)]) d_T_countSharing_22 rfl (by decide) rfl ?_
  refine g_lv (lv' := [(0, .ref a), (1, .int (nI (0)))]) [1, 0] rfl ?_
  refine l_T_cs2 C a al ac ah an rl ln cn sn xn fl hl ?_ _ 0 rfl (by omega)
  exact g_vret C hr hlk rfl d_T_countSharing_50
