/-- n bits behind the first bh ones, as a number -/
def nmb (rb : Nat → Nat) (st bh : Nat) : Nat → Nat
  | 0 => 0
  | k + 1 => 2 * nmb rb st bh k + rb ((st + (bh + k)) % 400)

set_option maxHeartbeats 4000000 in
set_option maxRecDepth 100000 in
theorem m_G_append (l : Launch) (D : va_G) (cs : ClassId × ClassId × ClassId × ClassId) (g gr : Nat) (rb : Nat → Nat) (st sz : Nat) (bt : Nat) (hs : st < 400) (hz : sz ≤ 400) : MG l y_G_append k_G_append { frames := 0, cells := 0, slots := 0, locals := 0 } D cs [.ref g, .int (nI (bt))] [(g, .inr (2, [.ref gr, .int (nI (st)), .int (nI (sz))])), (gr, .inl (cs.1, 400, .inl (fun j => nI (rb j))))] (QI D (nI (if sz < 400 then 1 else 0)) [(g, .inr (2, [.ref gr, .int (nI (st)), .int (nI (if sz < 400 then sz + 1 else sz))])), (gr, .inl (cs.1, 400, .inl (fun j => nI ((if sz < 400 then updN rb ((st + sz) % 400) bt else rb) j))))]) := by
  refine MG.mk (own := RG) (by decide) rfl (Nat.le_of_ble_eq_true rfl) ?_
  intro p e s m below meth c A C hr hlk
  refine g_lv (lv' := [(0, .ref g), (1, .int (nI (bt)))]) [0, 1] rfl ?_
  refine g_aload_n C d_G_append_0 0 rfl rfl ?_
  refine g_get C (T := FG) (N := 3) 0 2 inG rfl rfl (by decide) tw_58 rfl rfl d_G_append_1 ?_
  refine g_sipush C (v := nI 400) d_G_append_4 rfl ?_
  refine n_icmp_lt C 12 d_G_append_7 (by decide) (by omega) (by omega) (fun h7 => ?_) (fun h7 => ?_)
  · refine g_aload_n C d_G_append_12 0 rfl rfl ?_
    refine g_get C (T := FG) (N := 3) 0 0 inG rfl rfl (by decide) tw_56 rfl rfl d_G_append_13 ?_
    refine g_aload_n C d_G_append_16 0 rfl rfl ?_
    refine g_get C (T := FG) (N := 3) 0 1 inG rfl rfl (by decide) tw_57 rfl rfl d_G_append_17 ?_
    refine g_aload_n C d_G_append_20 0 rfl rfl ?_
    refine g_get C (T := FG) (N := 3) 0 2 inG rfl rfl (by decide) tw_58 rfl rfl d_G_append_21 ?_
    refine g_iadd C (v := nI (st + sz)) d_G_append_24 (nI_add _ _) ?_
    refine g_sipush C (v := nI 400) d_G_append_25 rfl ?_
    refine g_irem C (v := nI ((st + sz) % (400))) d_G_append_28 (nI_ne0 (by omega) (by omega)) (pk_rem (by omega) (by omega) (by omega)) ?_
    refine g_iload_n C d_G_append_29 1 rfl rfl ?_
    refine n_iast C (ws' := [(g, .inr (2, [.ref gr, .int (nI (st)), .int (nI (sz))])), (gr, .inl (cs.1, 400, .inl (fun j => nI ((updN (rb) ((st + sz) % (400)) (bt)) j))))]) 1 rfl (by omega) (by decide) rfl d_G_append_30 ?_
    refine g_aload_n C d_G_append_31 0 rfl rfl ?_
    refine g_dup C d_G_append_32 rfl ?_
    refine g_get C (T := FG) (N := 3) 0 2 inG rfl rfl (by decide) tw_58 rfl rfl d_G_append_33 ?_
    refine g_iconst C (v := nI 1) d_G_append_36 rfl ?_
    refine g_iadd C (v := nI (sz + 1)) d_G_append_37 (nI_add _ _) ?_
    refine g_put C (T := FG) (N := 3) (ws' := [(g, .inr (2, [.ref gr, .int (nI (st)), .int (nI (sz + 1))])), (gr, .inl (cs.1, 400, .inl (fun j => nI ((updN (rb) ((st + sz) % (400)) (bt)) j))))]) 0 2 inG tyG okG nmG rfl rfl (by decide) tw_58 rfl rfl rfl rfl rfl (Nat.le_of_ble_eq_true rfl) rfl d_G_append_38 ?_
    refine g_iconst C (v := nI 1) d_G_append_41 rfl ?_
    exact g_zret C hr hlk rfl (by first | rw [if_pos (show sz < 400 by omega)] | rw [if_neg (show ¬ sz < 400 by omega)]) (by first | rw [if_pos (show sz < 400 by omega), if_pos (show sz < 400 by omega)] | rw [if_neg (show ¬ sz < 400 by omega), if_neg (show ¬ sz < 400 by omega)]) d_G_append_42
  · refine g_iconst C (v := nI 0) d_G_append_10 rfl ?_
    exact g_zret C hr hlk rfl (by first | rw [if_pos (show sz < 400 by omega)] | rw [if_neg (show ¬ sz < 400 by omega)]) (by first | rw [if_pos (show sz < 400 by omega), if_pos (show sz < 400 by omega)] | rw [if_neg (show ¬ sz < 400 by omega), if_neg (show ¬ sz < 400 by omega)]) d_G_append_11
set_option maxHeartbeats 4000000 in
set_option maxRecDepth 100000 in
theorem l_G_nb {p : Program} {l : Launch} {e : Env} {s : State} {m : MethodId} {args : Array Value} {below : List Frame} {meth : Method} {c : Code} {A : Nat → Prop} {D : va_G} {cs : ClassId × ClassId × ClassId × ClassId} (C : CX p s m args c c_G_number 6 RG D cs A) (g gr : Nat) (rb : Nat → Nat) (st sz : Nat) (bh nn : Nat) (hs : st < 400) (hb : ∀ j, j < 400 → rb j < 2) (hn9 : bh + nn ≤ 400) (hr : meth.sig.returnType = some .long) (hlk : meth.locks = false)
    : ∀ (n : Nat) (k : Nat), nn - k = n → (k ≤ nn) → GO p l e { frames := 0, cells := 0, slots := 0, locals := 0 } s m args below meth c 0 0 (MQ below (QL D (lN (nmb rb st bh nn)) [(g, .inr (2, [.ref gr, .int (nI (st)), .int (nI (sz))])), (gr, .inl (cs.1, 400, .inl (fun j => nI (rb j))))] A) args s 0 0 A) A D 6 5 [(0, .ref g), (1, .int (nI (bh))), (2, .int (nI (nn))), (3, .long (lN (nmb rb st bh k))), (5, .int (nI (bh + k)))] [] [(g, .inr (2, [.ref gr, .int (nI (st)), .int (nI (sz))])), (gr, .inl (cs.1, 400, .inl (fun j => nI (rb j))))] := by
  intro n
  induction n using Nat.strongRecOn with
  | _ n ih =>
  intro k  hn hk
  refine g_iload C d_G_number_5 4 rfl ?_
  refine g_iload_n C d_G_number_7 1 rfl rfl ?_
  refine g_iload_n C d_G_number_8 2 rfl rfl ?_
  refine g_iadd C (v := nI (bh + nn)) d_G_number_9 (nI_add _ _) ?_
  refine n_icmp_ge C 43 d_G_number_10 (by decide) (by omega) (by omega) (fun h10 => ?_) (fun h10 => ?_)
  · refine g_lload_n C d_G_number_43 3 rfl rfl ?_
    exact g_lret C hr hlk (by rw [show k = nn by omega]) rfl d_G_number_44
  · refine g_ldc2 C (v := lN 2) tw_410 d_G_number_13 ?_
    refine g_lload_n C d_G_number_16 3 rfl rfl ?_
    refine g_lmul C (v := lN ((2) * (nmb rb st bh k))) d_G_number_17 (lN_mul _ _) ?_
    refine g_aload_n C d_G_number_18 0 rfl rfl ?_
    refine g_get C (T := FG) (N := 3) 0 0 inG rfl rfl (by decide) tw_56 rfl rfl d_G_number_19 ?_
    refine g_aload_n C d_G_number_22 0 rfl rfl ?_
    refine g_get C (T := FG) (N := 3) 0 1 inG rfl rfl (by decide) tw_57 rfl rfl d_G_number_23 ?_
    refine g_iload C d_G_number_26 4 rfl ?_
    refine g_iadd C (v := nI (st + (bh + k))) d_G_number_28 (nI_add _ _) ?_
    refine g_sipush C (v := nI 400) d_G_number_29 rfl ?_
    refine g_irem C (v := nI ((st + (bh + k)) % (400))) d_G_number_32 (nI_ne0 (by omega) (by omega)) (pk_rem (by omega) (by omega) (by omega)) ?_
    refine g_iald C 1 rfl (Nat.mod_lt _ (by omega)) (by decide) d_G_number_33 ?_
    refine g_i2l C (v := lN (rb ((st + (bh + k)) % (400)))) d_G_number_34 (nI_l (by have := hb ((st + (bh + k)) % 400) (Nat.mod_lt _ (by omega)); omega)) ?_
    refine g_ladd C (v := lN ((2) * (nmb rb st bh k) + (rb ((st + (bh + k)) % (400))))) d_G_number_35 (lN_add _ _) ?_
    refine g_lstore_n C (lv' := [(3, .long (lN ((2) * (nmb rb st bh k) + (rb ((st + (bh + k)) % (400)))))), (0, .ref g), (1, .int (nI (bh))), (2, .int (nI (nn))), (5, .int (nI (bh + k)))]) d_G_number_36 rfl (by decide) rfl ?_
    refine g_iinc C (lv' := [(5, .int (nI (bh + k + 1))), (3, .long (lN ((2) * (nmb rb st bh k) + (rb ((st + (bh + k)) % (400)))))), (0, .ref g), (1, .int (nI (bh))), (2, .int (nI (nn)))]) (k := 4) d_G_number_37 rfl (nI_1 _) (by decide) rfl ?_
    refine g_goto C 5 d_G_number_40 (by decide) ?_
    refine g_lv (lv' := [(0, .ref g), (1, .int (nI (bh))), (2, .int (nI (nn))), (3, .long (lN ((2) * (nmb rb st bh k) + (rb ((st + (bh + k)) % (400)))))), (5, .int (nI (bh + k + 1)))]) [2, 3, 4, 1, 0] rfl ?_
    exact ih (nn - (k + 1)) (by omega) (k + 1) rfl (by omega)
set_option maxHeartbeats 4000000 in
set_option maxRecDepth 100000 in
theorem m_G_number (l : Launch) (D : va_G) (cs : ClassId × ClassId × ClassId × ClassId) (g gr : Nat) (rb : Nat → Nat) (st sz : Nat) (bh nn : Nat) (hs : st < 400) (hb : ∀ j, j < 400 → rb j < 2) (hn9 : bh + nn ≤ 400) : MG l y_G_number k_G_number { frames := 0, cells := 0, slots := 0, locals := 0 } D cs [.ref g, .int (nI (bh)), .int (nI (nn))] [(g, .inr (2, [.ref gr, .int (nI (st)), .int (nI (sz))])), (gr, .inl (cs.1, 400, .inl (fun j => nI (rb j))))] (QL D (lN (nmb rb st bh nn)) [(g, .inr (2, [.ref gr, .int (nI (st)), .int (nI (sz))])), (gr, .inl (cs.1, 400, .inl (fun j => nI (rb j))))]) := by
  refine MG.mk (own := RG) (by decide) rfl (Nat.le_of_ble_eq_true rfl) ?_
  intro p e s m below meth c A C hr hlk
  refine g_lv (lv' := [(0, .ref g), (1, .int (nI (bh))), (2, .int (nI (nn)))]) [0, 1, 2] rfl ?_
  refine g_lconst C (v := lN 0) d_G_number_0 rfl ?_
  refine g_lstore_n C (lv' := [(3, .long (lN (0))), (0, .ref g), (1, .int (nI (bh))), (2, .int (nI (nn)))]) d_G_number_1 rfl (by decide) rfl ?_
  refine g_iload_n C d_G_number_2 2 rfl rfl ?_
  refine g_istore C (lv' := [(5, .int (nI (bh))), (3, .long (lN (0))), (0, .ref g), (1, .int (nI (bh))), (2, .int (nI (nn)))]) d_G_number_3 (by decide) rfl ?_
  refine g_lv (lv' := [(0, .ref g), (1, .int (nI (bh))), (2, .int (nI (nn))), (3, .long (lN (0))), (5, .int (nI (bh)))]) [2, 3, 4, 1, 0] rfl ?_
  exact l_G_nb C g gr rb st sz bh nn hs hb hn9 hr hlk _ 0 rfl (by omega)
set_option maxHeartbeats 4000000 in
set_option maxRecDepth 100000 in
theorem m_G_drop (l : Launch) (D : va_G) (cs : ClassId × ClassId × ClassId × ClassId) (g gr : Nat) (rb : Nat → Nat) (st sz : Nat) (nn : Nat) (hs : st < 400) (hz : sz ≤ 400) (hn9 : nn ≤ sz) : MG l y_G_drop k_G_drop { frames := 0, cells := 0, slots := 0, locals := 0 } D cs [.ref g, .int (nI (nn))] [(g, .inr (2, [.ref gr, .int (nI (st)), .int (nI (sz))])), (gr, .inl (cs.1, 400, .inl (fun j => nI (rb j))))] (QV D [(g, .inr (2, [.ref gr, .int (nI ((st + nn) % 400)), .int (nI (sz - nn))])), (gr, .inl (cs.1, 400, .inl (fun j => nI (rb j))))]) := by
  refine MG.mk (own := RG) (by decide) rfl (Nat.le_of_ble_eq_true rfl) ?_
  intro p e s m below meth c A C hr hlk
  refine g_lv (lv' := [(0, .ref g), (1, .int (nI (nn)))]) [0, 1] rfl ?_
  refine g_aload_n C d_G_drop_0 0 rfl rfl ?_
  refine g_aload_n C d_G_drop_1 0 rfl rfl ?_
  refine g_get C (T := FG) (N := 3) 0 1 inG rfl rfl (by decide) tw_57 rfl rfl d_G_drop_2 ?_
  refine g_iload_n C d_G_drop_5 1 rfl rfl ?_
  refine g_iadd C (v := nI (st + nn)) d_G_drop_6 (nI_add _ _) ?_
  refine g_sipush C (v := nI 400) d_G_drop_7 rfl ?_
  refine g_irem C (v := nI ((st + nn) % (400))) d_G_drop_10 (nI_ne0 (by omega) (by omega)) (pk_rem (by omega) (by omega) (by omega)) ?_
  refine g_put C (T := FG) (N := 3) (ws' := [(g, .inr (2, [.ref gr, .int (nI ((st + nn) % (400))), .int (nI (sz))])), (gr, .inl (cs.1, 400, .inl (fun j => nI (rb j))))]) 0 1 inG tyG okG nmG rfl rfl (by decide) tw_57 rfl rfl rfl rfl rfl (Nat.le_of_ble_eq_true rfl) rfl d_G_drop_11 ?_
  refine g_aload_n C d_G_drop_14 0 rfl rfl ?_
  refine g_dup C d_G_drop_15 rfl ?_
  refine g_get C (T := FG) (N := 3) 0 2 inG rfl rfl (by decide) tw_58 rfl rfl d_G_drop_16 ?_
  refine g_iload_n C d_G_drop_19 1 rfl rfl ?_
  refine g_isub C (v := nI ((sz) - (nn))) d_G_drop_20 (pk_sub (by omega)) ?_
  refine g_put C (T := FG) (N := 3) (ws' := [(g, .inr (2, [.ref gr, .int (nI ((st + nn) % (400))), .int (nI ((sz) - (nn)))])), (gr, .inl (cs.1, 400, .inl (fun j => nI (rb j))))]) 0 2 inG tyG okG nmG rfl rfl (by decide) tw_58 rfl rfl rfl rfl rfl (Nat.le_of_ble_eq_true rfl) rfl d_G_drop_21 ?_
  exact g_vret C hr hlk rfl d_G_drop_24
