theorem sbb_none {ln cn : Nat → Nat} {fi nn : Nat} (h : ∀ j, j < 48 → bgP ln cn fi nn j = false) : sbb ln cn fi nn = none := by
  unfold sbb
  rw [List.find?_eq_none]
  intro x hx
  rw [h x (List.mem_range.mp hx)]; simp
theorem find_some {p : Nat → Bool} {n i : Nat} (hi : i < n) (hp : p i = true) (h : ∀ j, j < i → p j = false) : (List.range n).find? p = some i := by
  rw [List.find?_range_eq_some]
  exact ⟨hp, List.mem_range.mpr hi, fun j hj => by rw [h j hj]; rfl⟩

set_option maxHeartbeats 4000000 in
set_option maxRecDepth 100000 in
theorem l_T_sb {p : Program} {l : Launch} {e : Env} {s : State} {m : MethodId} {args : Array Value} {below : List Frame} {meth : Method} {c : Code} {A : Nat → Prop} {D : va_G} {cs : ClassId × ClassId × ClassId × ClassId} (C : CX p s m args c c_T_symbolBegunBy 5 RT D cs A) (a al ac ah an rl : Nat) (ln cn sn xn : Nat → Nat) (fl : Nat) (fi nn : Nat) (hl : ∀ j, j < 48 → ln j ≤ 16) (hc : ∀ j, j < 48 → cn j < 2 ^ 31) (hn1 : nn ≤ 16) (hf : fi < 2 ^ 31) (hr : meth.sig.returnType = some .int) (hlk : meth.locks = false)
    : ∀ (n : Nat) (i : Nat), 48 - i = n → (i ≤ 48) → (∀ j, j < i → bgP ln cn fi nn j = false) → GO p l e { frames := 0, cells := 0, slots := 0, locals := 0 } s m args below meth c 0 0 (MQ below (QI D (oI (sbb ln cn fi nn)) [(a, .inr (1, [.int (nI (rl)), .ref al, .ref ac, .ref ah, .ref an, .int (nI (fl))])), (al, .inl (cs.1, 48, .inl (fun j => nI (ln j)))), (ac, .inl (cs.1, 48, .inl (fun j => nI (cn j)))), (ah, .inl (cs.1, 17, .inl (fun j => nI (sn j)))), (an, .inl (cs.1, 17, .inl (fun j => nI (xn j))))] A) args s 0 0 A) A D 5 2 [(0, .ref a), (1, .int (nI (fi))), (2, .int (nI (nn))), (3, .int (nI (i)))] [] [(a, .inr (1, [.int (nI (rl)), .ref al, .ref ac, .ref ah, .ref an, .int (nI (fl))])), (al, .inl (cs.1, 48, .inl (fun j => nI (ln j)))), (ac, .inl (cs.1, 48, .inl (fun j => nI (cn j)))), (ah, .inl (cs.1, 17, .inl (fun j => nI (sn j)))), (an, .inl (cs.1, 17, .inl (fun j => nI (xn j))))] := by
  intro n
  induction n using Nat.strongRecOn with
  | _ n ih =>
  intro i  hn hi hp
  refine g_iload_n C d_T_symbolBegunBy_2 3 rfl rfl ?_
  refine g_bipush C (v := nI 48) d_T_symbolBegunBy_3 rfl ?_
  refine n_icmp_ge C 44 d_T_symbolBegunBy_5 (by decide) (by omega) (by omega) (fun h5 => ?_) (fun h5 => ?_)
  · refine g_iconst C (v := (-1)) d_T_symbolBegunBy_44 rfl ?_
    exact g_iret C hr hlk (by rw [sbb_none (fun j hj => hp j (by omega))]; rfl) rfl d_T_symbolBegunBy_45
  · refine g_aload_n C d_T_symbolBegunBy_8 0 rfl rfl ?_
    refine g_get C (T := FT) (N := 6) 0 1 inT rfl rfl (by decide) tw_77 rfl rfl d_T_symbolBegunBy_9 ?_
    refine g_iload_n C d_T_symbolBegunBy_12 3 rfl rfl ?_
    refine g_iald C 1 rfl (by omega) (by decide) d_T_symbolBegunBy_13 ?_
    rcases Nat.lt_or_ge (ln i) nn with hb | hb
    · refine g_iload_n C d_T_symbolBegunBy_14 2 rfl rfl ?_
      refine g_isub C (v := nI (ln i) - nI (nn)) d_T_symbolBegunBy_15 rfl ?_
      refine g_istore C (lv' := [(4, .int (nI (ln i) - nI (nn))), (0, .ref a), (1, .int (nI (fi))), (2, .int (nI (nn))), (3, .int (nI (i)))]) d_T_symbolBegunBy_16 (by decide) rfl ?_
      refine g_iload C d_T_symbolBegunBy_18 0 rfl ?_
      refine g_if_lt C 38 d_T_symbolBegunBy_20 (by decide) (fun _ => ?_) (fun h => absurd (pk_sneg (by omega) hb) h)
      refine g_iinc C (lv' := [(3, .int (nI (i + 1))), (4, .int (nI (ln i) - nI (nn))), (0, .ref a), (1, .int (nI (fi))), (2, .int (nI (nn)))]) (k := 4) d_T_symbolBegunBy_38 rfl (nI_1 _) (by decide) rfl ?_
      refine g_goto C 2 d_T_symbolBegunBy_41 (by decide) ?_
      refine g_lv (lv' := [(0, .ref a), (1, .int (nI (fi))), (2, .int (nI (nn))), (3, .int (nI (i + 1)))]) [2, 3, 4, 0] rfl ?_
      exact ih (48 - (i + 1)) (by omega) (i + 1) rfl (by omega) (fun j hj => by
      by_cases e : j = i
      · subst e; unfold bgP; first | (rw [decide_eq_false (show ¬ nn ≤ ln j by omega)]; rfl) | (rw [decide_eq_false h33, Bool.and_false])
      · exact hp j (by omega))
    · refine g_iload_n C d_T_symbolBegunBy_14 2 rfl rfl ?_
      refine g_isub C (v := nI (ln i - nn)) d_T_symbolBegunBy_15 (pk_sub hb) ?_
      refine g_istore C (lv' := [(4, .int (nI (ln i - nn))), (0, .ref a), (1, .int (nI (fi))), (2, .int (nI (nn))), (3, .int (nI (i)))]) d_T_symbolBegunBy_16 (by decide) rfl ?_
      refine g_iload C d_T_symbolBegunBy_18 0 rfl ?_
      refine n_if_lt C 38 d_T_symbolBegunBy_20 (by decide) (by have := hl i (by omega); omega) ?_
      refine g_aload_n C d_T_symbolBegunBy_23 1 rfl rfl ?_
      refine g_get C (T := FT) (N := 6) 0 2 inT rfl rfl (by decide) tw_79 rfl rfl d_T_symbolBegunBy_24 ?_
      refine g_iload_n C d_T_symbolBegunBy_27 4 rfl rfl ?_
      refine g_iald C 2 rfl (by omega) (by decide) d_T_symbolBegunBy_28 ?_
      refine g_iload C d_T_symbolBegunBy_29 0 rfl ?_
      refine g_ishr C (v := nI ((cn (i)) / 2 ^ (ln i - nn))) d_T_symbolBegunBy_31 (n_shr (hc i (by omega)) (by have := hl i (by omega); omega)) ?_
      refine g_iload_n C d_T_symbolBegunBy_32 2 rfl rfl ?_
      refine n_icmp_ne C 38 d_T_symbolBegunBy_33 (by decide) (Nat.lt_of_le_of_lt (Nat.div_le_self _ _) (hc i (by omega))) hf (fun h33 => ?_) (fun h33 => ?_)
      · refine g_iinc C (lv' := [(3, .int (nI (i + 1))), (4, .int (nI (ln i - nn))), (0, .ref a), (1, .int (nI (fi))), (2, .int (nI (nn)))]) (k := 4) d_T_symbolBegunBy_38 rfl (nI_1 _) (by decide) rfl ?_
        refine g_goto C 2 d_T_symbolBegunBy_41 (by decide) ?_
        refine g_lv (lv' := [(0, .ref a), (1, .int (nI (fi))), (2, .int (nI (nn))), (3, .int (nI (i + 1)))]) [2, 3, 4, 0] rfl ?_
        exact ih (48 - (i + 1)) (by omega) (i + 1) rfl (by omega) (fun j hj => by
      by_cases e : j = i
      · subst e; unfold bgP; first | (rw [decide_eq_false (show ¬ nn ≤ ln j by omega)]; rfl) | (rw [decide_eq_false h33, Bool.and_false])
      · exact hp j (by omega))
      · refine g_iload_n C d_T_symbolBegunBy_36 4 rfl rfl ?_
        exact g_iret C hr hlk (by
      have e9 : sbb ln cn fi nn = some i := find_some (by omega) (by unfold bgP; rw [decide_eq_true hb, decide_eq_true h33]; rfl) hp
      rw [e9]; rfl) rfl d_T_symbolBegunBy_37
set_option maxHeartbeats 4000000 in
set_option maxRecDepth 100000 in
theorem m_T_symbolBegunBy (l : Launch) (D : va_G) (cs : ClassId × ClassId × ClassId × ClassId) (a al ac ah an rl : Nat) (ln cn sn xn : Nat → Nat) (fl : Nat) (fi nn : Nat) (hl : ∀ j, j < 48 → ln j ≤ 16) (hc : ∀ j, j < 48 → cn j < 2 ^ 31) (hn1 : nn ≤ 16) (hf : fi < 2 ^ 31) : MG l y_T_symbolBegunBy k_T_symbolBegunBy { frames := 0, cells := 0, slots := 0, locals := 0 } D cs [.ref a, .int (nI (fi)), .int (nI (nn))] [(a, .inr (1, [.int (nI (rl)), .ref al, .ref ac, .ref ah, .ref an, .int (nI (fl))])), (al, .inl (cs.1, 48, .inl (fun j => nI (ln j)))), (ac, .inl (cs.1, 48, .inl (fun j => nI (cn j)))), (ah, .inl (cs.1, 17, .inl (fun j => nI (sn j)))), (an, .inl (cs.1, 17, .inl (fun j => nI (xn j))))] (QI D (oI (sbb ln cn fi nn)) [(a, .inr (1, [.int (nI (rl)), .ref al, .ref ac, .ref ah, .ref an, .int (nI (fl))])), (al, .inl (cs.1, 48, .inl (fun j => nI (ln j)))), (ac, .inl (cs.1, 48, .inl (fun j => nI (cn j)))), (ah, .inl (cs.1, 17, .inl (fun j => nI (sn j)))), (an, .inl (cs.1, 17, .inl (fun j => nI (xn j))))]) := by
  refine MG.mk (own := RT) (by decide) rfl (Nat.le_of_ble_eq_true rfl) ?_
  intro p e s m below meth c A C hr hlk
  refine g_lv (lv' := [(0, .ref a), (1, .int (nI (fi))), (2, .int (nI (nn)))]) [0, 1, 2] rfl ?_
  refine g_iconst C (v := nI 0) d_T_symbolBegunBy_0 rfl ?_
  refine g_istore_n C (lv' := [(3, .int (nI (0))), (0, .ref a), (1, .int (nI (fi))), (2, .int (nI (nn)))]) d_T_symbolBegunBy_1 rfl (by decide) rfl ?_
  refine g_lv (lv' := [(0, .ref a), (1, .int (nI (fi))), (2, .int (nI (nn))), (3, .int (nI (0)))]) [1, 2, 3, 0] rfl ?_
  exact l_T_sb C a al ac ah an rl ln cn sn xn fl fi nn hl hc hn1 hf hr hlk _ 0 rfl (by omega) (fun j hj => absurd hj (by omega))
set_option maxHeartbeats 4000000 in
set_option maxRecDepth 100000 in
theorem l_T_el {p : Program} {l : Launch} {e : Env} {s : State} {m : MethodId} {args : Array Value} {below : List Frame} {meth : Method} {c : Code} {A : Nat → Prop} {D : va_G} {cs : ClassId × ClassId × ClassId × ClassId} (C : CX p s m args c c_T_endOfLengths 2 RT D cs A) (a al ac ah an rl : Nat) (ln cn sn xn : Nat → Nat) (fl : Nat) (hl : ∀ j, j < 48 → ln j ≤ 16) (hr : meth.sig.returnType = some .int) (hlk : meth.locks = false)
    : ∀ (n : Nat) (k : Nat), k = n → (k ≤ 48) → (eol ln 48 = eol ln k) → GO p l e { frames := 0, cells := 0, slots := 0, locals := 0 } s m args below meth c 0 0 (MQ below (QI D (nI (eol ln 48)) [(a, .inr (1, [.int (nI (rl)), .ref al, .ref ac, .ref ah, .ref an, .int (nI (fl))])), (al, .inl (cs.1, 48, .inl (fun j => nI (ln j)))), (ac, .inl (cs.1, 48, .inl (fun j => nI (cn j)))), (ah, .inl (cs.1, 17, .inl (fun j => nI (sn j)))), (an, .inl (cs.1, 17, .inl (fun j => nI (xn j))))] A) args s 0 0 A) A D 2 3 [(0, .ref a), (1, .int (nI (k)))] [] [(a, .inr (1, [.int (nI (rl)), .ref al, .ref ac, .ref ah, .ref an, .int (nI (fl))])), (al, .inl (cs.1, 48, .inl (fun j => nI (ln j)))), (ac, .inl (cs.1, 48, .inl (fun j => nI (cn j)))), (ah, .inl (cs.1, 17, .inl (fun j => nI (sn j)))), (an, .inl (cs.1, 17, .inl (fun j => nI (xn j))))] := by
  intro n
  induction n using Nat.strongRecOn with
  | _ n ih =>
  intro k  hn hk he
  refine g_iload_n C d_T_endOfLengths_3 1 rfl rfl ?_
  refine n_if_le C 24 d_T_endOfLengths_4 (by decide) (by omega) (fun h4 => ?_) (fun h4 => ?_)
  · refine g_iload_n C d_T_endOfLengths_24 1 rfl rfl ?_
    exact g_iret C hr hlk (congrArg nI (by
      rw [he]
      first | (subst h4; rfl) | (obtain ⟨k9, rfl⟩ : ∃ k9, k = k9 + 1 := ⟨k - 1, by omega⟩; simp only [Nat.add_sub_cancel] at h15; rw [eol, if_neg (by omega)]))) rfl d_T_endOfLengths_25
  · refine g_aload_n C d_T_endOfLengths_7 0 rfl rfl ?_
    refine g_get C (T := FT) (N := 6) 0 1 inT rfl rfl (by decide) tw_77 rfl rfl d_T_endOfLengths_8 ?_
    refine g_iload_n C d_T_endOfLengths_11 1 rfl rfl ?_
    refine g_iconst C (v := nI 1) d_T_endOfLengths_12 rfl ?_
    refine g_isub C (v := nI ((k) - (1))) d_T_endOfLengths_13 (pk_sub (by omega)) ?_
    refine g_iald C 1 rfl (by omega) (by decide) d_T_endOfLengths_14 ?_
    refine n_if_ne C 24 d_T_endOfLengths_15 (by decide) (by have := hl (k - 1) (by omega); omega) (fun h15 => ?_) (fun h15 => ?_)
    · refine g_iload_n C d_T_endOfLengths_24 1 rfl rfl ?_
      exact g_iret C hr hlk (congrArg nI (by
      rw [he]
      first | (subst h4; rfl) | (obtain ⟨k9, rfl⟩ : ∃ k9, k = k9 + 1 := ⟨k - 1, by omega⟩; simp only [Nat.add_sub_cancel] at h15; rw [eol, if_neg (by omega)]))) rfl d_T_endOfLengths_25
    · refine g_iinc C (lv' := [(1, .int (nI (k - 1))), (0, .ref a)]) (k := 1) d_T_endOfLengths_18 rfl (nI_dec (by omega)) (by decide) rfl ?_
      refine g_goto C 3 d_T_endOfLengths_21 (by decide) ?_
      refine g_lv (lv' := [(0, .ref a), (1, .int (nI (k - 1)))]) [1, 0] rfl ?_
      exact ih (k - 1) (by omega) (k - 1) rfl (by omega) (by
      rw [he]
      obtain ⟨k9, rfl⟩ : ∃ k9, k = k9 + 1 := ⟨k - 1, by omega⟩
      simp only [Nat.add_sub_cancel] at h15 ⊢
      rw [eol, if_pos h15])
set_option maxHeartbeats 4000000 in
set_option maxRecDepth 100000 in
theorem m_T_endOfLengths (l : Launch) (D : va_G) (cs : ClassId × ClassId × ClassId × ClassId) (a al ac ah an rl : Nat) (ln cn sn xn : Nat → Nat) (fl : Nat) (hl : ∀ j, j < 48 → ln j ≤ 16) : MG l y_T_endOfLengths k_T_endOfLengths { frames := 0, cells := 0, slots := 0, locals := 0 } D cs [.ref a] [(a, .inr (1, [.int (nI (rl)), .ref al, .ref ac, .ref ah, .ref an, .int (nI (fl))])), (al, .inl (cs.1, 48, .inl (fun j => nI (ln j)))), (ac, .inl (cs.1, 48, .inl (fun j => nI (cn j)))), (ah, .inl (cs.1, 17, .inl (fun j => nI (sn j)))), (an, .inl (cs.1, 17, .inl (fun j => nI (xn j))))] (QI D (nI (eol ln 48)) [(a, .inr (1, [.int (nI (rl)), .ref al, .ref ac, .ref ah, .ref an, .int (nI (fl))])), (al, .inl (cs.1, 48, .inl (fun j => nI (ln j)))), (ac, .inl (cs.1, 48, .inl (fun j => nI (cn j)))), (ah, .inl (cs.1, 17, .inl (fun j => nI (sn j)))), (an, .inl (cs.1, 17, .inl (fun j => nI (xn j))))]) := by
  refine MG.mk (own := RT) (by decide) rfl (Nat.le_of_ble_eq_true rfl) ?_
  intro p e s m below meth c A C hr hlk
  refine g_lv (lv' := [(0, .ref a)]) [0] rfl ?_
  refine g_bipush C (v := nI 48) d_T_endOfLengths_0 rfl ?_
  refine g_istore_n C (lv' := [(1, .int (nI (48))), (0, .ref a)]) d_T_endOfLengths_2 rfl (by decide) rfl ?_
  refine g_lv (lv' := [(0, .ref a), (1, .int (nI (48)))]) [1, 0] rfl ?_
  exact l_T_el C a al ac ah an rl ln cn sn xn fl hl hr hlk _ 48 rfl (by omega) rfl
set_option maxHeartbeats 4000000 in
set_option maxRecDepth 100000 in
theorem l_T_ro {p : Program} {l : Launch} {e : Env} {s : State} {m : MethodId} {args : Array Value} {below : List Frame} {meth : Method} {c : Code} {A : Nat → Prop} {D : va_G} {cs : ClassId × ClassId × ClassId × ClassId} (C : CX p s m args c c_T_runOf 5 RT D cs A) (a al ac ah an rl : Nat) (ln cn sn xn : Nat → Nat) (fl : Nat) (L fr en : Nat) (hl : ∀ j, j < 48 → ln j ≤ 16) (hL : L < 2 ^ 31) (hen : en ≤ 48) (hfr : fr ≤ en) (hr : meth.sig.returnType = some .int) (hlk : meth.locks = false)
    : ∀ (n : Nat) (k : Nat), en - k = n → (k ≤ en) → (fr ≤ k) → (rnf ln L (en - fr) fr = (k - fr) + rnf ln L (en - k) k) → GO p l e { frames := 0, cells := 0, slots := 0, locals := 0 } s m args below meth c 0 0 (MQ below (QI D (nI (rnf ln L (en - fr) fr)) [(a, .inr (1, [.int (nI (rl)), .ref al, .ref ac, .ref ah, .ref an, .int (nI (fl))])), (al, .inl (cs.1, 48, .inl (fun j => nI (ln j)))), (ac, .inl (cs.1, 48, .inl (fun j => nI (cn j)))), (ah, .inl (cs.1, 17, .inl (fun j => nI (sn j)))), (an, .inl (cs.1, 17, .inl (fun j => nI (xn j))))] A) args s 0 0 A) A D 5 3 [(0, .ref a), (1, .int (nI (L))), (2, .int (nI (fr))), (3, .int (nI (en))), (4, .int (nI (k)))] [] [(a, .inr (1, [.int (nI (rl)), .ref al, .ref ac, .ref ah, .ref an, .int (nI (fl))])), (al, .inl (cs.1, 48, .inl (fun j => nI (ln j)))), (ac, .inl (cs.1, 48, .inl (fun j => nI (cn j)))), (ah, .inl (cs.1, 17, .inl (fun j => nI (sn j)))), (an, .inl (cs.1, 17, .inl (fun j => nI (xn j))))] := by
  intro n
  induction n using Nat.strongRecOn with
  | _ n ih =>
  intro k  hn hk hk2 he
  refine g_iload C d_T_runOf_3 4 rfl ?_
  refine g_iload_n C d_T_runOf_5 3 rfl rfl ?_
  refine n_icmp_ge C 26 d_T_runOf_6 (by decide) (by omega) (by omega) (fun h6 => ?_) (fun h6 => ?_)
  · refine g_iload C d_T_runOf_26 4 rfl ?_
    refine g_iload_n C d_T_runOf_28 2 rfl rfl ?_
    refine g_isub C (v := nI ((k) - (fr))) d_T_runOf_29 (pk_sub (by omega)) ?_
    exact g_iret C hr hlk (congrArg nI (by
      rw [he]
      first | (have e9 : en - k = 0 := by omega
               rw [e9]; rfl) | (rw [rnf_stop ln L (by omega) h17]; rfl))) rfl d_T_runOf_30
  · refine g_aload_n C d_T_runOf_9 0 rfl rfl ?_
    refine g_get C (T := FT) (N := 6) 0 1 inT rfl rfl (by decide) tw_77 rfl rfl d_T_runOf_10 ?_
    refine g_iload C d_T_runOf_13 4 rfl ?_
    refine g_iald C 1 rfl (by omega) (by decide) d_T_runOf_15 ?_
    refine g_iload_n C d_T_runOf_16 1 rfl rfl ?_
    refine n_icmp_ne C 26 d_T_runOf_17 (by decide) (by have := hl k (by omega); omega) hL (fun h17 => ?_) (fun h17 => ?_)
    · refine g_iload C d_T_runOf_26 4 rfl ?_
      refine g_iload_n C d_T_runOf_28 2 rfl rfl ?_
      refine g_isub C (v := nI ((k) - (fr))) d_T_runOf_29 (pk_sub (by omega)) ?_
      exact g_iret C hr hlk (congrArg nI (by
      rw [he]
      first | (have e9 : en - k = 0 := by omega
               rw [e9]; rfl) | (rw [rnf_stop ln L (by omega) h17]; rfl))) rfl d_T_runOf_30
    · refine g_iinc C (lv' := [(4, .int (nI (k + 1))), (0, .ref a), (1, .int (nI (L))), (2, .int (nI (fr))), (3, .int (nI (en)))]) (k := 4) d_T_runOf_20 rfl (nI_1 _) (by decide) rfl ?_
      refine g_goto C 3 d_T_runOf_23 (by decide) ?_
      refine g_lv (lv' := [(0, .ref a), (1, .int (nI (L))), (2, .int (nI (fr))), (3, .int (nI (en))), (4, .int (nI (k + 1)))]) [1, 2, 3, 4, 0] rfl ?_
      exact ih (en - (k + 1)) (by omega) (k + 1) rfl (by omega) (by omega) (by rw [he, rnf_step ln L (by omega) h17]; omega)
set_option maxHeartbeats 4000000 in
set_option maxRecDepth 100000 in
theorem m_T_runOf (l : Launch) (D : va_G) (cs : ClassId × ClassId × ClassId × ClassId) (a al ac ah an rl : Nat) (ln cn sn xn : Nat → Nat) (fl : Nat) (L fr en : Nat) (hl : ∀ j, j < 48 → ln j ≤ 16) (hL : L < 2 ^ 31) (hen : en ≤ 48) (hfr : fr ≤ en) : MG l y_T_runOf k_T_runOf { frames := 0, cells := 0, slots := 0, locals := 0 } D cs [.ref a, .int (nI (L)), .int (nI (fr)), .int (nI (en))] [(a, .inr (1, [.int (nI (rl)), .ref al, .ref ac, .ref ah, .ref an, .int (nI (fl))])), (al, .inl (cs.1, 48, .inl (fun j => nI (ln j)))), (ac, .inl (cs.1, 48, .inl (fun j => nI (cn j)))), (ah, .inl (cs.1, 17, .inl (fun j => nI (sn j)))), (an, .inl (cs.1, 17, .inl (fun j => nI (xn j))))] (QI D (nI (rnf ln L (en - fr) fr)) [(a, .inr (1, [.int (nI (rl)), .ref al, .ref ac, .ref ah, .ref an, .int (nI (fl))])), (al, .inl (cs.1, 48, .inl (fun j => nI (ln j)))), (ac, .inl (cs.1, 48, .inl (fun j => nI (cn j)))), (ah, .inl (cs.1, 17, .inl (fun j => nI (sn j)))), (an, .inl (cs.1, 17, .inl (fun j => nI (xn j))))]) := by
  refine MG.mk (own := RT) (by decide) rfl (Nat.le_of_ble_eq_true rfl) ?_
  intro p e s m below meth c A C hr hlk
  refine g_lv (lv' := [(0, .ref a), (1, .int (nI (L))), (2, .int (nI (fr))), (3, .int (nI (en)))]) [0, 1, 2, 3] rfl ?_
  refine g_iload_n C d_T_runOf_0 2 rfl rfl ?_
  refine g_istore C (lv' := [(4, .int (nI (fr))), (0, .ref a), (1, .int (nI (L))), (2, .int (nI (fr))), (3, .int (nI (en)))]) d_T_runOf_1 (by decide) rfl ?_
  refine g_lv (lv' := [(0, .ref a), (1, .int (nI (L))), (2, .int (nI (fr))), (3, .int (nI (en))), (4, .int (nI (fr)))]) [1, 2, 3, 4, 0] rfl ?_
  exact l_T_ro C a al ac ah an rl ln cn sn xn fl L fr en hl hL hen hfr hr hlk _ fr rfl hfr (by omega) (by omega)
