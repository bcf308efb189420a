set_option maxHeartbeats 4000000 in
set_option maxRecDepth 100000 in
theorem l_T_rn {p : Program} {l : Launch} {e : Env} {s : State} {m : MethodId} {args : Array Value} {below : List Frame} {meth : Method} {c : Code} {Q : State → Prop} {A : Nat → Prop} {D : va_G} {cs : ClassId × ClassId × ClassId × ClassId} (C : CX p s m args c c_T_renew 2 RT D cs A) (a al ac ah an rl : Nat) (ln cn xn : Nat → Nat) 
    (K : GO p l e { frames := 2, cells := 0, slots := 0, locals := 43 } s m args below meth c 0 0 Q A D 2 43 [(0, .ref a)] [] [(a, .inr (1, [.int (nI (rl)), .ref al, .ref ac, .ref ah, .ref an, .int (nI (fll ln))])), (al, .inl (cs.1, 48, .inl (fun j => nI (ln j)))), (ac, .inl (cs.1, 48, .inl (fun j => nI (cn j)))), (ah, .inl (cs.1, 17, .inl (fun j => nI ((shr ln 48) j)))), (an, .inl (cs.1, 17, .inl (fun j => nI (xn j))))])
    : ∀ (n : Nat) (k : Nat), 16 - k = n → (k ≤ 16) → GO p l e { frames := 2, cells := 0, slots := 0, locals := 43 } s m args below meth c 0 0 Q A D 2 11 [(0, .ref a), (1, .int (nI (k + 1)))] [] [(a, .inr (1, [.int (nI (rl)), .ref al, .ref ac, .ref ah, .ref an, .int (nI (flp (shr ln 48) k))])), (al, .inl (cs.1, 48, .inl (fun j => nI (ln j)))), (ac, .inl (cs.1, 48, .inl (fun j => nI (cn j)))), (ah, .inl (cs.1, 17, .inl (fun j => nI ((shr ln 48) j)))), (an, .inl (cs.1, 17, .inl (fun j => nI (xn j))))] := by
  intro n
  induction n using Nat.strongRecOn with
  | _ n ih =>
  intro k  hn hk
  refine g_iload_n C d_T_renew_11 1 rfl rfl ?_
  refine g_bipush C (v := nI 16) d_T_renew_12 rfl ?_
  refine n_icmp_gt C 43 d_T_renew_14 (by decide) (by omega) (by omega) (fun h14 => ?_) (fun h14 => ?_)
  · refine g_lv (lv' := [(0, .ref a)]) [0] rfl ?_
    have e9 : k = 16 := by omega
    subst e9
    exact K
  · refine g_aload_n C d_T_renew_17 0 rfl rfl ?_
    refine g_dup C d_T_renew_18 rfl ?_
    refine g_get C (T := FT) (N := 6) 0 5 inT rfl rfl (by decide) tw_83 rfl rfl d_T_renew_19 ?_
    refine g_aload_n C d_T_renew_22 0 rfl rfl ?_
    refine g_get C (T := FT) (N := 6) 0 3 inT rfl rfl (by decide) tw_81 rfl rfl d_T_renew_23 ?_
    refine g_iload_n C d_T_renew_26 1 rfl rfl ?_
    refine g_iald C 3 rfl (by omega) (by decide) d_T_renew_27 ?_
    refine g_ldc C (v := nI 65536) tw_138 d_T_renew_28 ?_
    refine g_iload_n C d_T_renew_30 1 rfl rfl ?_
    refine g_ishr C (v := nI (65536 / 2 ^ (k + 1))) d_T_renew_31 (n_shr (by omega) (by omega)) ?_
    refine g_imul C (v := nI (((shr ln 48) (k + 1)) * (65536 / 2 ^ (k + 1)))) d_T_renew_32 (pk_mul _ _) ?_
    refine g_iadd C (v := nI (flp (shr ln 48) k + (((shr ln 48) (k + 1)) * (65536 / 2 ^ (k + 1))))) d_T_renew_33 (nI_add _ _) ?_
    refine g_put C (T := FT) (N := 6) (ws' := [(a, .inr (1, [.int (nI (rl)), .ref al, .ref ac, .ref ah, .ref an, .int (nI (flp (shr ln 48) k + (((shr ln 48) (k + 1)) * (65536 / 2 ^ (k + 1)))))])), (al, .inl (cs.1, 48, .inl (fun j => nI (ln j)))), (ac, .inl (cs.1, 48, .inl (fun j => nI (cn j)))), (ah, .inl (cs.1, 17, .inl (fun j => nI ((shr ln 48) j)))), (an, .inl (cs.1, 17, .inl (fun j => nI (xn j))))]) 0 5 inT tyT okT nmT rfl rfl (by decide) tw_83 rfl rfl rfl rfl rfl (Nat.le_of_ble_eq_true rfl) rfl d_T_renew_34 ?_
    refine g_iinc C (lv' := [(1, .int (nI (k + 1 + 1))), (0, .ref a)]) (k := 1) d_T_renew_37 rfl (nI_1 _) (by decide) rfl ?_
    refine g_goto C 11 d_T_renew_40 (by decide) ?_
    refine g_lv (lv' := [(0, .ref a), (1, .int (nI (k + 1 + 1)))]) [1, 0] rfl ?_
    exact ih (16 - (k + 1)) (by omega) (k + 1) rfl (by omega)
set_option maxHeartbeats 4000000 in
set_option maxRecDepth 100000 in
theorem m_T_renew (l : Launch) (D : va_G) (cs : ClassId × ClassId × ClassId × ClassId) (a al ac ah an rl : Nat) (ln cn sn xn : Nat → Nat) (fl : Nat) (hl : ∀ j, j < 48 → ln j ≤ 16) (hrl : rl < 3) : MG l y_T_renew k_T_renew { frames := 2, cells := 0, slots := 0, locals := 43 } D cs [.ref a] [(a, .inr (1, [.int (nI (rl)), .ref al, .ref ac, .ref ah, .ref an, .int (nI (fl))])), (al, .inl (cs.1, 48, .inl (fun j => nI (ln j)))), (ac, .inl (cs.1, 48, .inl (fun j => nI (cn j)))), (ah, .inl (cs.1, 17, .inl (fun j => nI (sn j)))), (an, .inl (cs.1, 17, .inl (fun j => nI (xn j))))] (QV D [(a, .inr (1, [.int (nI (rl)), .ref al, .ref ac, .ref ah, .ref an, .int (nI (fll ln))])), (al, .inl (cs.1, 48, .inl (fun j => nI (ln j)))), (ac, .inl (cs.1, 48, .inl (fun j => nI ((cN rl ln cn) j)))), (ah, .inl (cs.1, 17, .inl (fun j => nI ((shr ln 48) j)))), (an, .inl (cs.1, 17, .inl (fun j => nI ((xN rl ln xn) j))))]) := by
  refine MG.mk (own := RT) (by decide) rfl (Nat.le_of_ble_eq_true rfl) ?_
  intro p e s m below meth c A C hr hlk
  refine g_lv (lv' := [(0, .ref a)]) [0] rfl ?_
  refine g_aload_n C d_T_renew_0 0 rfl rfl ?_
  refine g_callVv C (n := 0) (ws' := [(a, .inr (1, [.int (nI (rl)), .ref al, .ref ac, .ref ah, .ref an, .int (nI (fl))])), (al, .inl (cs.1, 48, .inl (fun j => nI (ln j)))), (ac, .inl (cs.1, 48, .inl (fun j => nI (cn j)))), (ah, .inl (cs.1, 17, .inl (fun j => nI ((shr (ln) 48) j)))), (an, .inl (cs.1, 17, .inl (fun j => nI (xn j))))]) (As := []) (rest := []) (m_T_countSharing l D cs a al ac ah an (rl) (ln) (cn) (sn) (xn) (fl) hl) tw_177 tw_179 ts_3 tw_4 tw_180 rfl 0 rfl rfl (by decide +kernel) rfl ⟨rfl, rfl, by decide, by decide, by decide⟩ rfl [0, 1, 2, 3, 4] rfl rfl (by decide) (Nat.le_of_ble_eq_true rfl) rfl d_T_renew_1 ?_
  refine g_aload_n C d_T_renew_4 0 rfl rfl ?_
  refine g_iconst C (v := nI 0) d_T_renew_5 rfl ?_
  refine g_put C (T := FT) (N := 6) (ws' := [(a, .inr (1, [.int (nI (rl)), .ref al, .ref ac, .ref ah, .ref an, .int (nI (0))])), (al, .inl (cs.1, 48, .inl (fun j => nI (ln j)))), (ac, .inl (cs.1, 48, .inl (fun j => nI (cn j)))), (ah, .inl (cs.1, 17, .inl (fun j => nI ((shr (ln) 48) j)))), (an, .inl (cs.1, 17, .inl (fun j => nI (xn j))))]) 0 5 inT tyT okT nmT rfl rfl (by decide) tw_83 rfl rfl rfl rfl rfl (Nat.le_of_ble_eq_true rfl) rfl d_T_renew_6 ?_
  refine g_iconst C (v := nI 1) d_T_renew_9 rfl ?_
  refine g_istore_n C (lv' := [(1, .int (nI (1))), (0, .ref a)]) d_T_renew_10 rfl (by decide) rfl ?_
  refine g_lv (lv' := [(0, .ref a), (1, .int (nI (1)))]) [1, 0] rfl ?_
  refine l_T_rn C a al ac ah an rl ln cn xn ?_ _ 0 rfl (by omega)
  refine g_aload_n C d_T_renew_43 0 rfl rfl ?_
  refine g_get C (T := FT) (N := 6) 0 5 inT rfl rfl (by decide) tw_83 rfl rfl d_T_renew_44 ?_
  refine g_ldc C (v := nI 65536) tw_138 d_T_renew_47 ?_
  refine n_icmp_gt C 56 d_T_renew_49 (by decide) (fll_lt ln) (by omega) (fun h49 => ?_) (fun h49 => ?_)
  · exact g_vret C hr hlk (by unfold cN xN; first | rw [if_pos (show fll ln ≤ 65536 by omega), if_pos (show fll ln ≤ 65536 by omega)] | rw [if_neg (show ¬ fll ln ≤ 65536 by omega), if_neg (show ¬ fll ln ≤ 65536 by omega)]) d_T_renew_56
  · refine g_aload_n C d_T_renew_52 0 rfl rfl ?_
    refine g_callVv C (n := 0) (ws' := [(a, .inr (1, [.int (nI (rl)), .ref al, .ref ac, .ref ah, .ref an, .int (nI (fll ln))])), (al, .inl (cs.1, 48, .inl (fun j => nI (ln j)))), (ac, .inl (cs.1, 48, .inl (fun j => nI ((cdG (stc (rl) (shr (ln) 48)) (ln) (cn) (rl) 48) j)))), (ah, .inl (cs.1, 17, .inl (fun j => nI ((shr ln 48) j)))), (an, .inl (cs.1, 17, .inl (fun j => nI ((nxG (if (rl) = 2 then nxL (shr (ln) 48) (xn) 0 else nxS (shr (ln) 48) (xn) 17) (ln) 48) j))))]) (As := []) (rest := []) (m_T_giveCodes l D cs a al ac ah an (rl) (ln) (cn) (xn) (fll ln) hl hrl (by omega)) tw_181 tw_183 ts_4 tw_4 tw_184 rfl 0 rfl rfl (by decide +kernel) rfl ⟨rfl, rfl, by decide, by decide, by decide⟩ rfl [0, 1, 2, 3, 4] rfl rfl (by decide) (Nat.le_of_ble_eq_true rfl) rfl d_T_renew_53 ?_
    exact g_vret C hr hlk (by unfold cN xN; first | rw [if_pos (show fll ln ≤ 65536 by omega), if_pos (show fll ln ≤ 65536 by omega)] | rw [if_neg (show ¬ fll ln ≤ 65536 by omega), if_neg (show ¬ fll ln ≤ 65536 by omega)]) d_T_renew_56
