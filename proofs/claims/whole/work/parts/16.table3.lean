set_option maxHeartbeats 4000000 in
set_option maxRecDepth 100000 in
theorem l_T_gc {p : Program} {l : Launch} {e : Env} {s : State} {m : MethodId} {args : Array Value} {below : List Frame} {meth : Method} {c : Code} {Q : State → Prop} {A : Nat → Prop} {D : va_G} {cs : ClassId × ClassId × ClassId × ClassId} (C : CX p s m args c c_T_giveCodes 2 RT D cs A) (a al ac ah an rl : Nat) (ln cn sn xn : Nat → Nat) (fl : Nat) (x0 : Nat → Nat) (hl : ∀ j, j < 48 → ln j ≤ 16) (hrl : rl < 3) (hB : rl = 1 → ∀ j, j < 48 → 0 < ln j → x0 (ln j) + shr ln j (ln j) < 2 ^ (ln j))
    (K : GO p l e { frames := 1, cells := 0, slots := 0, locals := 22 } s m args below meth c 0 0 Q A D 2 58 [(0, .ref a)] [] [(a, .inr (1, [.int (nI (rl)), .ref al, .ref ac, .ref ah, .ref an, .int (nI (fl))])), (al, .inl (cs.1, 48, .inl (fun j => nI (ln j)))), (ac, .inl (cs.1, 48, .inl (fun j => nI ((cdG x0 ln cn rl 48) j)))), (ah, .inl (cs.1, 17, .inl (fun j => nI (sn j)))), (an, .inl (cs.1, 17, .inl (fun j => nI ((nxG x0 ln 48) j))))])
    : ∀ (n : Nat) (i : Nat), 48 - i = n → (i ≤ 48) → GO p l e { frames := 1, cells := 0, slots := 0, locals := 22 } s m args below meth c 0 0 Q A D 2 21 [(0, .ref a), (1, .int (nI (i)))] [] [(a, .inr (1, [.int (nI (rl)), .ref al, .ref ac, .ref ah, .ref an, .int (nI (fl))])), (al, .inl (cs.1, 48, .inl (fun j => nI (ln j)))), (ac, .inl (cs.1, 48, .inl (fun j => nI ((cdG x0 ln cn rl i) j)))), (ah, .inl (cs.1, 17, .inl (fun j => nI (sn j)))), (an, .inl (cs.1, 17, .inl (fun j => nI ((nxG x0 ln i) j))))] := by
  intro n
  induction n using Nat.strongRecOn with
  | _ n ih =>
  intro i  hn hi
  refine g_iload_n C d_T_giveCodes_21 1 rfl rfl ?_
  refine g_bipush C (v := nI 48) d_T_giveCodes_22 rfl ?_
  refine n_icmp_ge C 58 d_T_giveCodes_24 (by decide) (by omega) (by omega) (fun h24 => ?_) (fun h24 => ?_)
  · refine g_lv (lv' := [(0, .ref a)]) [0] rfl ?_
    have e9 : i = 48 := by omega
    subst e9
    exact K
  · refine g_aload_n C d_T_giveCodes_27 0 rfl rfl ?_
    refine g_get C (T := FT) (N := 6) 0 1 inT rfl rfl (by decide) tw_77 rfl rfl d_T_giveCodes_28 ?_
    refine g_iload_n C d_T_giveCodes_31 1 rfl rfl ?_
    refine g_iald C 1 rfl (by omega) (by decide) d_T_giveCodes_32 ?_
    refine n_if_le C 52 d_T_giveCodes_33 (by decide) (by have := hl i (by omega); omega) (fun h33 => ?_) (fun h33 => ?_)
    · refine g_ws (ws' := [(a, .inr (1, [.int (nI (rl)), .ref al, .ref ac, .ref ah, .ref an, .int (nI (fl))])), (al, .inl (cs.1, 48, .inl (fun j => nI (ln j)))), (ac, .inl (cs.1, 48, .inl (fun j => nI ((cdG x0 ln cn rl (i + 1)) j)))), (ah, .inl (cs.1, 17, .inl (fun j => nI (sn j)))), (an, .inl (cs.1, 17, .inl (fun j => nI ((nxG x0 ln (i + 1)) j))))]) (by first | rw [cdG_keep x0 ln cn rl i (by omega), nxG_keep x0 ln i (by omega)] | rw [nxG_up x0 ln i (by omega), cdG_up x0 ln cn rl i (by omega)]) ?_
      refine g_iinc C (lv' := [(1, .int (nI (i + 1))), (0, .ref a)]) (k := 1) d_T_giveCodes_52 rfl (nI_1 _) (by decide) rfl ?_
      refine g_goto C 21 d_T_giveCodes_55 (by decide) ?_
      refine g_lv (lv' := [(0, .ref a), (1, .int (nI (i + 1)))]) [1, 0] rfl ?_
      exact ih (48 - (i + 1)) (by omega) (i + 1) rfl (by omega)
    · refine g_aload_n C d_T_giveCodes_36 0 rfl rfl ?_
      refine g_get C (T := FT) (N := 6) 0 2 inT rfl rfl (by decide) tw_79 rfl rfl d_T_giveCodes_37 ?_
      refine g_iload_n C d_T_giveCodes_40 1 rfl rfl ?_
      refine g_aload_n C d_T_giveCodes_41 0 rfl rfl ?_
      refine g_aload_n C d_T_giveCodes_42 0 rfl rfl ?_
      refine g_get C (T := FT) (N := 6) 0 1 inT rfl rfl (by decide) tw_77 rfl rfl d_T_giveCodes_43 ?_
      refine g_iload_n C d_T_giveCodes_46 1 rfl rfl ?_
      refine g_iald C 1 rfl (by omega) (by decide) d_T_giveCodes_47 ?_
      refine g_callVi C (n := 1) (ws' := [(a, .inr (1, [.int (nI (rl)), .ref al, .ref ac, .ref ah, .ref an, .int (nI (fl))])), (al, .inl (cs.1, 48, .inl (fun j => nI (ln j)))), (ac, .inl (cs.1, 48, .inl (fun j => nI ((cdG x0 ln cn rl i) j)))), (ah, .inl (cs.1, 17, .inl (fun j => nI (sn j)))), (an, .inl (cs.1, 17, .inl (fun j => nI ((updN ((nxG x0 ln i)) (ln (i)) (((nxG x0 ln i)) (ln (i)) + 1)) j))))]) (As := [.int (nI (ln (i)))]) (rest := [.int (nI (i)), .ref ac]) (m_T_takeCode l D cs a al ac ah an (rl) (ln) ((cdG x0 ln cn rl i)) (sn) ((nxG x0 ln i)) (fl) (ln (i)) (hl i (by omega)) (fun h9 => by have := hB h9 i (by omega) (by omega); simpa [nxG, show ln i ≠ 0 by omega] using this) hrl) tw_193 tw_195 ts_7 tw_4 tw_196 rfl 0 rfl rfl (by decide +kernel) rfl ⟨rfl, rfl, by decide, by decide, by decide⟩ rfl [0, 1, 2, 3, 4] rfl rfl (by decide) (Nat.le_of_ble_eq_true rfl) rfl d_T_giveCodes_48 ?_
      refine n_iast C (ws' := [(a, .inr (1, [.int (nI (rl)), .ref al, .ref ac, .ref ah, .ref an, .int (nI (fl))])), (al, .inl (cs.1, 48, .inl (fun j => nI (ln j)))), (ac, .inl (cs.1, 48, .inl (fun j => nI ((updN ((cdG x0 ln cn rl i)) (i) (if rl = 1 then 2 ^ (ln (i)) - 1 - (nxG x0 ln i) (ln (i)) else (nxG x0 ln i) (ln (i)))) j)))), (ah, .inl (cs.1, 17, .inl (fun j => nI (sn j)))), (an, .inl (cs.1, 17, .inl (fun j => nI ((updN ((nxG x0 ln i)) (ln (i)) (((nxG x0 ln i)) (ln (i)) + 1)) j))))]) 2 rfl (by omega) (by decide) rfl d_T_giveCodes_51 ?_
      refine g_ws (ws' := [(a, .inr (1, [.int (nI (rl)), .ref al, .ref ac, .ref ah, .ref an, .int (nI (fl))])), (al, .inl (cs.1, 48, .inl (fun j => nI (ln j)))), (ac, .inl (cs.1, 48, .inl (fun j => nI ((cdG x0 ln cn rl (i + 1)) j)))), (ah, .inl (cs.1, 17, .inl (fun j => nI (sn j)))), (an, .inl (cs.1, 17, .inl (fun j => nI ((nxG x0 ln (i + 1)) j))))]) (by first | rw [cdG_keep x0 ln cn rl i (by omega), nxG_keep x0 ln i (by omega)] | rw [nxG_up x0 ln i (by omega), cdG_up x0 ln cn rl i (by omega)]) ?_
      refine g_iinc C (lv' := [(1, .int (nI (i + 1))), (0, .ref a)]) (k := 1) d_T_giveCodes_52 rfl (nI_1 _) (by decide) rfl ?_
      refine g_goto C 21 d_T_giveCodes_55 (by decide) ?_
      refine g_lv (lv' := [(0, .ref a), (1, .int (nI (i + 1)))]) [1, 0] rfl ?_
      exact ih (48 - (i + 1)) (by omega) (i + 1) rfl (by omega)
theorem cdG_0 (x0 ln cn : Nat → Nat) (rl : Nat) : cdG x0 ln cn rl 0 = cn := by funext j; unfold cdG; rw [if_neg (by omega)]
theorem nxG_0 (x0 ln : Nat → Nat) : nxG x0 ln 0 = x0 := by
  funext j; unfold nxG
  by_cases h : j = 0
  · simp [h]
  · simp [h, shr]
theorem hB_of {rl : Nat} {ln xn : Nat → Nat} (hl : ∀ j, j < 48 → ln j ≤ 16) (hf : fll ln ≤ 65536) (h1 : rl = 1) : ∀ j, j < 48 → 0 < ln j → nxS (shr ln 48) xn 17 (ln j) + shr ln j (ln j) < 2 ^ (ln j) := by
  intro j hj h0
  have := cdv_inv h1 hf hj h0 (hl j hj)
  have h9 := hl j hj
  have e : nxS (shr ln 48) xn 17 (ln j) = stc rl (shr ln 48) (ln j) := by
    unfold nxS stc; rw [if_pos (by omega), if_neg (by omega)]
  rw [e]; exact this
/-- codes by the first codes of their lengths -/
theorem cdG_x {rl : Nat} {ln xn cn : Nat → Nat} (hl : ∀ j, j < 48 → ln j ≤ 16) (j : Nat) (hj : j < 48) : cdG (if rl = 2 then nxL (shr ln 48) xn 0 else nxS (shr ln 48) xn 17) ln cn rl 48 j = cdG (stc rl (shr ln 48)) ln cn rl 48 j := by
  unfold cdG
  by_cases h0 : j < 48 ∧ 0 < ln j
  · have h9 := hl j hj
    have e : (if rl = 2 then nxL (shr ln 48) xn 0 else nxS (shr ln 48) xn 17) (ln j) = stc rl (shr ln 48) (ln j) := by
      unfold stc
      by_cases h2 : rl = 2
      · rw [if_pos h2, if_pos h2]; unfold nxL; rw [if_pos (by omega)]
      · rw [if_neg h2, if_neg h2]; unfold nxS; rw [if_pos (by omega)]
    rw [if_pos h0, if_pos h0, e]
  · rw [if_neg h0, if_neg h0]
set_option maxHeartbeats 4000000 in
set_option maxRecDepth 100000 in
theorem m_T_giveCodes (l : Launch) (D : va_G) (cs : ClassId × ClassId × ClassId × ClassId) (a al ac ah an rl : Nat) (ln cn xn : Nat → Nat) (fl : Nat) (hl : ∀ j, j < 48 → ln j ≤ 16) (hrl : rl < 3) (hf : fll ln ≤ 65536) : MG l y_T_giveCodes k_T_giveCodes { frames := 1, cells := 0, slots := 0, locals := 22 } D cs [.ref a] [(a, .inr (1, [.int (nI (rl)), .ref al, .ref ac, .ref ah, .ref an, .int (nI (fl))])), (al, .inl (cs.1, 48, .inl (fun j => nI (ln j)))), (ac, .inl (cs.1, 48, .inl (fun j => nI (cn j)))), (ah, .inl (cs.1, 17, .inl (fun j => nI ((shr ln 48) j)))), (an, .inl (cs.1, 17, .inl (fun j => nI (xn j))))] (QV D [(a, .inr (1, [.int (nI (rl)), .ref al, .ref ac, .ref ah, .ref an, .int (nI (fl))])), (al, .inl (cs.1, 48, .inl (fun j => nI (ln j)))), (ac, .inl (cs.1, 48, .inl (fun j => nI ((cdG (stc rl (shr ln 48)) ln cn rl 48) j)))), (ah, .inl (cs.1, 17, .inl (fun j => nI ((shr ln 48) j)))), (an, .inl (cs.1, 17, .inl (fun j => nI ((nxG (if rl = 2 then nxL (shr ln 48) xn 0 else nxS (shr ln 48) xn 17) ln 48) j))))]) := by
  refine MG.mk (own := RT) (by decide) rfl (Nat.le_of_ble_eq_true rfl) ?_
  intro p e s m below meth c A C hr hlk
  refine g_lv (lv' := [(0, .ref a)]) [0] rfl ?_
  refine g_aload_n C d_T_giveCodes_0 0 rfl rfl ?_
  refine g_get C (T := FT) (N := 6) 0 0 inT rfl rfl (by decide) tw_76 rfl rfl d_T_giveCodes_1 ?_
  refine g_iconst C (v := nI 2) d_T_giveCodes_4 rfl ?_
  refine n_icmp_ne C 15 d_T_giveCodes_5 (by decide) (by omega) (by omega) (fun h5 => ?_) (fun h5 => ?_)
  · refine g_aload_n C d_T_giveCodes_15 0 rfl rfl ?_
    refine g_callVv C (n := 0) (ws' := [(a, .inr (1, [.int (nI (rl)), .ref al, .ref ac, .ref ah, .ref an, .int (nI (fl))])), (al, .inl (cs.1, 48, .inl (fun j => nI (ln j)))), (ac, .inl (cs.1, 48, .inl (fun j => nI (cn j)))), (ah, .inl (cs.1, 17, .inl (fun j => nI ((shr ln 48) j)))), (an, .inl (cs.1, 17, .inl (fun j => nI ((nxS ((shr ln 48)) (xn) 17) j))))]) (As := []) (rest := []) (m_T_startShortestFirst l D cs a al ac ah an (rl) (ln) (cn) ((shr ln 48)) (xn) (fl) ) tw_189 tw_191 ts_6 tw_4 tw_192 rfl 0 rfl rfl (by decide +kernel) rfl ⟨rfl, rfl, by decide, by decide, by decide⟩ rfl [0, 1, 2, 3, 4] rfl rfl (by decide) (Nat.le_of_ble_eq_true rfl) rfl d_T_giveCodes_16 ?_
    refine g_iconst C (v := nI 0) d_T_giveCodes_19 rfl ?_
    refine g_istore_n C (lv' := [(1, .int (nI (0))), (0, .ref a)]) d_T_giveCodes_20 rfl (by decide) rfl ?_
    refine g_ws (ws' := [(a, .inr (1, [.int (nI (rl)), .ref al, .ref ac, .ref ah, .ref an, .int (nI (fl))])), (al, .inl (cs.1, 48, .inl (fun j => nI (ln j)))), (ac, .inl (cs.1, 48, .inl (fun j => nI ((cdG ((nxS ((shr ln 48)) (xn) 17)) ln cn rl 0) j)))), (ah, .inl (cs.1, 17, .inl (fun j => nI ((shr ln 48) j)))), (an, .inl (cs.1, 17, .inl (fun j => nI ((nxG ((nxS ((shr ln 48)) (xn) 17)) ln 0) j))))]) (by rw [cdG_0, nxG_0]) ?_
    refine g_lv (lv' := [(0, .ref a), (1, .int (nI (0)))]) [1, 0] rfl ?_
    refine l_T_gc C a al ac ah an rl ln cn (shr ln 48) ((nxS ((shr ln 48)) (xn) 17)) fl ((nxS ((shr ln 48)) (xn) 17)) hl hrl (fun h9 => hB_of hl hf h9) ?_ _ 0 rfl (by omega)
    refine n_ci (f2 := cdG (stc rl (shr ln 48)) ln cn rl 48) (ws' := [(a, .inr (1, [.int (nI (rl)), .ref al, .ref ac, .ref ah, .ref an, .int (nI (fl))])), (al, .inl (cs.1, 48, .inl (fun j => nI (ln j)))), (ac, .inl (cs.1, 48, .inl (fun j => nI ((cdG (stc rl (shr ln 48)) ln cn rl 48) j)))), (ah, .inl (cs.1, 17, .inl (fun j => nI ((shr ln 48) j)))), (an, .inl (cs.1, 17, .inl (fun j => nI ((nxG ((nxS ((shr ln 48)) (xn) 17)) ln 48) j))))]) 2 rfl (fun j hj => by rw [← cdG_x (xn := xn) hl j hj, if_neg (by omega)]) rfl ?_
    refine g_ws (ws' := [(a, .inr (1, [.int (nI (rl)), .ref al, .ref ac, .ref ah, .ref an, .int (nI (fl))])), (al, .inl (cs.1, 48, .inl (fun j => nI (ln j)))), (ac, .inl (cs.1, 48, .inl (fun j => nI ((cdG (stc rl (shr ln 48)) ln cn rl 48) j)))), (ah, .inl (cs.1, 17, .inl (fun j => nI ((shr ln 48) j)))), (an, .inl (cs.1, 17, .inl (fun j => nI ((nxG (if rl = 2 then nxL (shr ln 48) xn 0 else nxS (shr ln 48) xn 17) ln 48) j))))]) (by rw [if_neg (show ¬ rl = 2 by omega)]) ?_
    exact g_vret C hr hlk rfl d_T_giveCodes_58
  · refine g_aload_n C d_T_giveCodes_8 0 rfl rfl ?_
    refine g_callVv C (n := 0) (ws' := [(a, .inr (1, [.int (nI (rl)), .ref al, .ref ac, .ref ah, .ref an, .int (nI (fl))])), (al, .inl (cs.1, 48, .inl (fun j => nI (ln j)))), (ac, .inl (cs.1, 48, .inl (fun j => nI (cn j)))), (ah, .inl (cs.1, 17, .inl (fun j => nI ((shr ln 48) j)))), (an, .inl (cs.1, 17, .inl (fun j => nI ((nxL ((shr ln 48)) (xn) 0) j))))]) (As := []) (rest := []) (m_T_startLongestFirst l D cs a al ac ah an (rl) (ln) (cn) ((shr ln 48)) (xn) (fl) (fun j => shr_le ln j 48)) tw_185 tw_187 ts_5 tw_4 tw_188 rfl 0 rfl rfl (by decide +kernel) rfl ⟨rfl, rfl, by decide, by decide, by decide⟩ rfl [0, 1, 2, 3, 4] rfl rfl (by decide) (Nat.le_of_ble_eq_true rfl) rfl d_T_giveCodes_9 ?_
    refine g_goto C 19 d_T_giveCodes_12 (by decide) ?_
    refine g_iconst C (v := nI 0) d_T_giveCodes_19 rfl ?_
    refine g_istore_n C (lv' := [(1, .int (nI (0))), (0, .ref a)]) d_T_giveCodes_20 rfl (by decide) rfl ?_
    refine g_ws (ws' := [(a, .inr (1, [.int (nI (rl)), .ref al, .ref ac, .ref ah, .ref an, .int (nI (fl))])), (al, .inl (cs.1, 48, .inl (fun j => nI (ln j)))), (ac, .inl (cs.1, 48, .inl (fun j => nI ((cdG ((nxL ((shr ln 48)) (xn) 0)) ln cn rl 0) j)))), (ah, .inl (cs.1, 17, .inl (fun j => nI ((shr ln 48) j)))), (an, .inl (cs.1, 17, .inl (fun j => nI ((nxG ((nxL ((shr ln 48)) (xn) 0)) ln 0) j))))]) (by rw [cdG_0, nxG_0]) ?_
    refine g_lv (lv' := [(0, .ref a), (1, .int (nI (0)))]) [1, 0] rfl ?_
    refine l_T_gc C a al ac ah an rl ln cn (shr ln 48) ((nxL ((shr ln 48)) (xn) 0)) fl ((nxL ((shr ln 48)) (xn) 0)) hl hrl (fun h9 => absurd h9 (by omega)) ?_ _ 0 rfl (by omega)
    refine n_ci (f2 := cdG (stc rl (shr ln 48)) ln cn rl 48) (ws' := [(a, .inr (1, [.int (nI (rl)), .ref al, .ref ac, .ref ah, .ref an, .int (nI (fl))])), (al, .inl (cs.1, 48, .inl (fun j => nI (ln j)))), (ac, .inl (cs.1, 48, .inl (fun j => nI ((cdG (stc rl (shr ln 48)) ln cn rl 48) j)))), (ah, .inl (cs.1, 17, .inl (fun j => nI ((shr ln 48) j)))), (an, .inl (cs.1, 17, .inl (fun j => nI ((nxG ((nxL ((shr ln 48)) (xn) 0)) ln 48) j))))]) 2 rfl (fun j hj => by rw [← cdG_x (xn := xn) hl j hj, if_pos (by omega)]) rfl ?_
    refine g_ws (ws' := [(a, .inr (1, [.int (nI (rl)), .ref al, .ref ac, .ref ah, .ref an, .int (nI (fl))])), (al, .inl (cs.1, 48, .inl (fun j => nI (ln j)))), (ac, .inl (cs.1, 48, .inl (fun j => nI ((cdG (stc rl (shr ln 48)) ln cn rl 48) j)))), (ah, .inl (cs.1, 17, .inl (fun j => nI ((shr ln 48) j)))), (an, .inl (cs.1, 17, .inl (fun j => nI ((nxG (if rl = 2 then nxL (shr ln 48) xn 0 else nxS (shr ln 48) xn 17) ln 48) j))))]) (by rw [if_pos (show rl = 2 by omega)]) ?_
    exact g_vret C hr hlk rfl d_T_giveCodes_58
