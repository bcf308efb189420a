set_option maxHeartbeats 4000000 in
set_option maxRecDepth 100000 in
theorem m_B_check (l : Launch) (D : va_G) (cs : ClassId × ClassId × ClassId × ClassId) (b k bc bl bx a al ac ah an g gr : Nat) (ct : Nat → Nat) (lo ex : Nat → Int32) (wr : Nat) (lv9 : Int64) (rl : Nat) (ln cn sn xn : Nat → Nat) (fl : Nat) (rb : Nat → Nat) (st sz : Nat) (hf : fl < 2 ^ 31) : MG l y_B_check k_B_check { frames := 1, cells := 0, slots := 0, locals := 20 } D cs [.ref b] [(b, .inr (3, [.ref a, .ref k, .ref g, .ref bc, .ref bl, .ref bx, .int (nI (wr)), .long (lv9)])), (bc, .inl (cs.2.1, 48, .inr (.inl (fun j => lN (ct j))))), (bl, .inl (cs.1, 48, .inl (lo))), (bx, .inl (cs.1, 48, .inl (ex))), (a, .inr (1, [.int (nI (rl)), .ref al, .ref ac, .ref ah, .ref an, .int (nI (fl))])), (al, .inl (cs.1, 48, .inl (fun j => nI (ln j)))), (ac, .inl (cs.1, 48, .inl (fun j => nI (cn j)))), (ah, .inl (cs.1, 17, .inl (fun j => nI (sn j)))), (an, .inl (cs.1, 17, .inl (fun j => nI (xn j)))), (g, .inr (2, [.ref gr, .int (nI (st)), .int (nI (sz))])), (gr, .inl (cs.1, 400, .inl (fun j => nI (rb j))))] (QI D (nI (stt fl)) [(b, .inr (3, [.ref a, .ref k, .ref g, .ref bc, .ref bl, .ref bx, .int (nI (wr)), .long (lv9)])), (bc, .inl (cs.2.1, 48, .inr (.inl (fun j => lN (ct j))))), (bl, .inl (cs.1, 48, .inl (lo))), (bx, .inl (cs.1, 48, .inl (ex))), (a, .inr (1, [.int (nI (rl)), .ref al, .ref ac, .ref ah, .ref an, .int (nI (fl))])), (al, .inl (cs.1, 48, .inl (fun j => nI (ln j)))), (ac, .inl (cs.1, 48, .inl (fun j => nI (cn j)))), (ah, .inl (cs.1, 17, .inl (fun j => nI (sn j)))), (an, .inl (cs.1, 17, .inl (fun j => nI (xn j)))), (g, .inr (2, [.ref gr, .int (nI (st)), .int (nI (sz))])), (gr, .inl (cs.1, 400, .inl (fun j => nI (rb j))))]) := by
  refine MG.mk (own := RB) (by decide) rfl (Nat.le_of_ble_eq_true rfl) ?_
  intro p e s m below meth c A C hr hlk
  refine g_lv (lv' := [(0, .ref b)]) [0] rfl ?_
  refine g_aload_n C d_B_check_0 0 rfl rfl ?_
  refine g_get C (T := FB) (N := 8) 0 0 inB rfl rfl (by decide) tw_105 rfl rfl d_B_check_1 ?_
  refine g_callVi C (n := 0) (ws' := [(b, .inr (3, [.ref a, .ref k, .ref g, .ref bc, .ref bl, .ref bx, .int (nI (wr)), .long (lv9)])), (bc, .inl (cs.2.1, 48, .inr (.inl (fun j => lN (ct j))))), (bl, .inl (cs.1, 48, .inl (lo))), (bx, .inl (cs.1, 48, .inl (ex))), (a, .inr (1, [.int (nI (rl)), .ref al, .ref ac, .ref ah, .ref an, .int (nI (fl))])), (al, .inl (cs.1, 48, .inl (fun j => nI (ln j)))), (ac, .inl (cs.1, 48, .inl (fun j => nI (cn j)))), (ah, .inl (cs.1, 17, .inl (fun j => nI (sn j)))), (an, .inl (cs.1, 17, .inl (fun j => nI (xn j)))), (g, .inr (2, [.ref gr, .int (nI (st)), .int (nI (sz))])), (gr, .inl (cs.1, 400, .inl (fun j => nI (rb j))))]) (As := []) (rest := []) (m_T_state l D cs a al ac ah an (rl) (ln) (cn) (sn) (xn) (fl) hf) tw_134 tw_135 tw_136 tw_4 tw_137 rfl 0 rfl rfl (by decide +kernel) rfl ⟨rfl, rfl, by decide, by decide, by decide⟩ rfl [4, 5, 6, 7, 8] rfl rfl (by decide) (Nat.le_of_ble_eq_true rfl) rfl d_B_check_4 ?_
  exact g_iret C hr hlk rfl rfl d_B_check_7
set_option maxHeartbeats 4000000 in
set_option maxRecDepth 100000 in
theorem m_B_waiting (l : Launch) (D : va_G) (cs : ClassId × ClassId × ClassId × ClassId) (b k bc bl bx a al ac ah an g gr : Nat) (ct : Nat → Nat) (lo ex : Nat → Int32) (wr : Nat) (lv9 : Int64) (rl : Nat) (ln cn sn xn : Nat → Nat) (fl : Nat) (rb : Nat → Nat) (st sz : Nat) : MG l y_B_waiting k_B_waiting { frames := 0, cells := 0, slots := 0, locals := 0 } D cs [.ref b] [(b, .inr (3, [.ref a, .ref k, .ref g, .ref bc, .ref bl, .ref bx, .int (nI (wr)), .long (lv9)])), (bc, .inl (cs.2.1, 48, .inr (.inl (fun j => lN (ct j))))), (bl, .inl (cs.1, 48, .inl (lo))), (bx, .inl (cs.1, 48, .inl (ex))), (a, .inr (1, [.int (nI (rl)), .ref al, .ref ac, .ref ah, .ref an, .int (nI (fl))])), (al, .inl (cs.1, 48, .inl (fun j => nI (ln j)))), (ac, .inl (cs.1, 48, .inl (fun j => nI (cn j)))), (ah, .inl (cs.1, 17, .inl (fun j => nI (sn j)))), (an, .inl (cs.1, 17, .inl (fun j => nI (xn j)))), (g, .inr (2, [.ref gr, .int (nI (st)), .int (nI (sz))])), (gr, .inl (cs.1, 400, .inl (fun j => nI (rb j))))] (QI D (nI (sz)) [(b, .inr (3, [.ref a, .ref k, .ref g, .ref bc, .ref bl, .ref bx, .int (nI (wr)), .long (lv9)])), (bc, .inl (cs.2.1, 48, .inr (.inl (fun j => lN (ct j))))), (bl, .inl (cs.1, 48, .inl (lo))), (bx, .inl (cs.1, 48, .inl (ex))), (a, .inr (1, [.int (nI (rl)), .ref al, .ref ac, .ref ah, .ref an, .int (nI (fl))])), (al, .inl (cs.1, 48, .inl (fun j => nI (ln j)))), (ac, .inl (cs.1, 48, .inl (fun j => nI (cn j)))), (ah, .inl (cs.1, 17, .inl (fun j => nI (sn j)))), (an, .inl (cs.1, 17, .inl (fun j => nI (xn j)))), (g, .inr (2, [.ref gr, .int (nI (st)), .int (nI (sz))])), (gr, .inl (cs.1, 400, .inl (fun j => nI (rb j))))]) := by
  refine MG.mk (own := RB) (by decide) rfl (Nat.le_of_ble_eq_true rfl) ?_
  intro p e s m below meth c A C hr hlk
  refine g_lv (lv' := [(0, .ref b)]) [0] rfl ?_
  refine g_aload_n C d_B_waiting_0 0 rfl rfl ?_
  refine g_get C (T := FB) (N := 8) 0 2 inB rfl rfl (by decide) tw_107 rfl rfl d_B_waiting_1 ?_
  refine g_getN C (T := FG) (N := 3) (k := 2) C.2.2.2.1 9 inG rfl rfl (by decide) rfl rfl d_B_waiting_4 ?_
  exact g_iret C hr hlk rfl rfl d_B_waiting_7
/-- counts times lengths -/
def smv (ct ln : Nat → Nat) : Nat → Nat
  | 0 => 0
  | k + 1 => smv ct ln k + ct k * ln k
set_option maxHeartbeats 4000000 in
set_option maxRecDepth 100000 in
theorem l_B_sum {p : Program} {l : Launch} {e : Env} {s : State} {m : MethodId} {args : Array Value} {below : List Frame} {meth : Method} {c : Code} {A : Nat → Prop} {D : va_G} {cs : ClassId × ClassId × ClassId × ClassId} (C : CX p s m args c c_B_sum 4 RB D cs A) (b k bc bl bx a al ac ah an g gr : Nat) (ct : Nat → Nat) (lo ex : Nat → Int32) (wr : Nat) (lv9 : Int64) (rl : Nat) (ln cn sn xn : Nat → Nat) (fl : Nat) (rb : Nat → Nat) (st sz : Nat) (hl : ∀ j, j < 48 → ln j ≤ 16) (hr : meth.sig.returnType = some .long) (hlk : meth.locks = false)
    : ∀ (n : Nat) (i : Nat), 48 - i = n → (i ≤ 48) → GO p l e { frames := 0, cells := 0, slots := 0, locals := 0 } s m args below meth c 0 0 (MQ below (QL D (lN (smv ct ln 48)) [(b, .inr (3, [.ref a, .ref k, .ref g, .ref bc, .ref bl, .ref bx, .int (nI (wr)), .long (lv9)])), (bc, .inl (cs.2.1, 48, .inr (.inl (fun j => lN (ct j))))), (bl, .inl (cs.1, 48, .inl (lo))), (bx, .inl (cs.1, 48, .inl (ex))), (a, .inr (1, [.int (nI (rl)), .ref al, .ref ac, .ref ah, .ref an, .int (nI (fl))])), (al, .inl (cs.1, 48, .inl (fun j => nI (ln j)))), (ac, .inl (cs.1, 48, .inl (fun j => nI (cn j)))), (ah, .inl (cs.1, 17, .inl (fun j => nI (sn j)))), (an, .inl (cs.1, 17, .inl (fun j => nI (xn j)))), (g, .inr (2, [.ref gr, .int (nI (st)), .int (nI (sz))])), (gr, .inl (cs.1, 400, .inl (fun j => nI (rb j))))] A) args s 0 0 A) A D 4 4 [(0, .ref b), (1, .long (lN (smv ct ln i))), (3, .int (nI (i)))] [] [(b, .inr (3, [.ref a, .ref k, .ref g, .ref bc, .ref bl, .ref bx, .int (nI (wr)), .long (lv9)])), (bc, .inl (cs.2.1, 48, .inr (.inl (fun j => lN (ct j))))), (bl, .inl (cs.1, 48, .inl (lo))), (bx, .inl (cs.1, 48, .inl (ex))), (a, .inr (1, [.int (nI (rl)), .ref al, .ref ac, .ref ah, .ref an, .int (nI (fl))])), (al, .inl (cs.1, 48, .inl (fun j => nI (ln j)))), (ac, .inl (cs.1, 48, .inl (fun j => nI (cn j)))), (ah, .inl (cs.1, 17, .inl (fun j => nI (sn j)))), (an, .inl (cs.1, 17, .inl (fun j => nI (xn j)))), (g, .inr (2, [.ref gr, .int (nI (st)), .int (nI (sz))])), (gr, .inl (cs.1, 400, .inl (fun j => nI (rb j))))] := by
  intro n
  induction n using Nat.strongRecOn with
  | _ n ih =>
  intro i  hn hi
  refine g_iload_n C d_B_sum_4 2 rfl rfl ?_
  refine g_bipush C (v := nI 48) d_B_sum_5 rfl ?_
  refine n_icmp_ge C 36 d_B_sum_7 (by decide) (by omega) (by omega) (fun h7 => ?_) (fun h7 => ?_)
  · refine g_lload_n C d_B_sum_36 1 rfl rfl ?_
    exact g_lret C hr hlk (by rw [show i = 48 by omega]) rfl d_B_sum_37
  · refine g_lload_n C d_B_sum_10 1 rfl rfl ?_
    refine g_aload_n C d_B_sum_11 0 rfl rfl ?_
    refine g_get C (T := FB) (N := 8) 0 3 inB rfl rfl (by decide) tw_108 rfl rfl d_B_sum_12 ?_
    refine g_iload_n C d_B_sum_15 2 rfl rfl ?_
    refine g_lald C 1 rfl (by omega) (by decide) d_B_sum_16 ?_
    refine g_aload_n C d_B_sum_17 0 rfl rfl ?_
    refine g_get C (T := FB) (N := 8) 0 0 inB rfl rfl (by decide) tw_105 rfl rfl d_B_sum_18 ?_
    refine g_getN C (T := FT) (N := 6) (k := 1) C.2.2.2.2.1 4 inT rfl rfl (by decide) rfl rfl d_B_sum_21 ?_
    refine g_iload_n C d_B_sum_24 2 rfl rfl ?_
    refine g_iald C 5 rfl (by omega) (by decide) d_B_sum_25 ?_
    refine g_i2l C (v := lN (ln (i))) d_B_sum_26 (nI_l (by have := hl i (by omega); omega)) ?_
    refine g_lmul C (v := lN ((ct (i)) * (ln (i)))) d_B_sum_27 (lN_mul _ _) ?_
    refine g_ladd C (v := lN (smv ct ln i + ((ct (i)) * (ln (i))))) d_B_sum_28 (lN_add _ _) ?_
    refine g_lstore_n C (lv' := [(1, .long (lN (smv ct ln i + ((ct (i)) * (ln (i)))))), (0, .ref b), (3, .int (nI (i)))]) d_B_sum_29 rfl (by decide) rfl ?_
    refine g_iinc C (lv' := [(3, .int (nI (i + 1))), (1, .long (lN (smv ct ln i + ((ct (i)) * (ln (i)))))), (0, .ref b)]) (k := 2) d_B_sum_30 rfl (nI_1 _) (by decide) rfl ?_
    refine g_goto C 4 d_B_sum_33 (by decide) ?_
    refine g_lv (lv' := [(0, .ref b), (1, .long (lN (smv ct ln i + ((ct (i)) * (ln (i)))))), (3, .int (nI (i + 1)))]) [2, 1, 0] rfl ?_
    exact ih (48 - (i + 1)) (by omega) (i + 1) rfl (by omega)
set_option maxHeartbeats 4000000 in
set_option maxRecDepth 100000 in
theorem m_B_sum (l : Launch) (D : va_G) (cs : ClassId × ClassId × ClassId × ClassId) (b k bc bl bx a al ac ah an g gr : Nat) (ct : Nat → Nat) (lo ex : Nat → Int32) (wr : Nat) (lv9 : Int64) (rl : Nat) (ln cn sn xn : Nat → Nat) (fl : Nat) (rb : Nat → Nat) (st sz : Nat) (hl : ∀ j, j < 48 → ln j ≤ 16) : MG l y_B_sum k_B_sum { frames := 0, cells := 0, slots := 0, locals := 0 } D cs [.ref b] [(b, .inr (3, [.ref a, .ref k, .ref g, .ref bc, .ref bl, .ref bx, .int (nI (wr)), .long (lv9)])), (bc, .inl (cs.2.1, 48, .inr (.inl (fun j => lN (ct j))))), (bl, .inl (cs.1, 48, .inl (lo))), (bx, .inl (cs.1, 48, .inl (ex))), (a, .inr (1, [.int (nI (rl)), .ref al, .ref ac, .ref ah, .ref an, .int (nI (fl))])), (al, .inl (cs.1, 48, .inl (fun j => nI (ln j)))), (ac, .inl (cs.1, 48, .inl (fun j => nI (cn j)))), (ah, .inl (cs.1, 17, .inl (fun j => nI (sn j)))), (an, .inl (cs.1, 17, .inl (fun j => nI (xn j)))), (g, .inr (2, [.ref gr, .int (nI (st)), .int (nI (sz))])), (gr, .inl (cs.1, 400, .inl (fun j => nI (rb j))))] (QL D (lN (smv ct ln 48)) [(b, .inr (3, [.ref a, .ref k, .ref g, .ref bc, .ref bl, .ref bx, .int (nI (wr)), .long (lv9)])), (bc, .inl (cs.2.1, 48, .inr (.inl (fun j => lN (ct j))))), (bl, .inl (cs.1, 48, .inl (lo))), (bx, .inl (cs.1, 48, .inl (ex))), (a, .inr (1, [.int (nI (rl)), .ref al, .ref ac, .ref ah, .ref an, .int (nI (fl))])), (al, .inl (cs.1, 48, .inl (fun j => nI (ln j)))), (ac, .inl (cs.1, 48, .inl (fun j => nI (cn j)))), (ah, .inl (cs.1, 17, .inl (fun j => nI (sn j)))), (an, .inl (cs.1, 17, .inl (fun j => nI (xn j)))), (g, .inr (2, [.ref gr, .int (nI (st)), .int (nI (sz))])), (gr, .inl (cs.1, 400, .inl (fun j => nI (rb j))))]) := by
  refine MG.mk (own := RB) (by decide) rfl (Nat.le_of_ble_eq_true rfl) ?_
  intro p e s m below meth c A C hr hlk
  refine g_lv (lv' := [(0, .ref b)]) [0] rfl ?_
  refine g_lconst C (v := lN 0) d_B_sum_0 rfl ?_
  refine g_lstore_n C (lv' := [(1, .long (lN (0))), (0, .ref b)]) d_B_sum_1 rfl (by decide) rfl ?_
  refine g_iconst C (v := nI 0) d_B_sum_2 rfl ?_
  refine g_istore_n C (lv' := [(3, .int (nI (0))), (1, .long (lN (0))), (0, .ref b)]) d_B_sum_3 rfl (by decide) rfl ?_
  refine g_lv (lv' := [(0, .ref b), (1, .long (lN (0))), (3, .int (nI (0)))]) [2, 1, 0] rfl ?_
  exact l_B_sum C b k bc bl bx a al ac ah an g gr ct lo ex wr lv9 rl ln cn sn xn fl rb st sz hl hr hlk _ 0 rfl (by omega)
set_option maxHeartbeats 4000000 in
set_option maxRecDepth 100000 in
theorem m_B_dropRange (l : Launch) (D : va_G) (cs : ClassId × ClassId × ClassId × ClassId) (b k bc bl bx a al ac ah an g gr : Nat) (ct : Nat → Nat) (lo ex : Nat → Int32) (wr : Nat) (lv9 : Int64) (rl : Nat) (ln cn sn xn : Nat → Nat) (fl : Nat) (rb : Nat → Nat) (st sz : Nat) (y : Nat) (hy : y < 48) : MG l y_B_dropRange k_B_dropRange { frames := 0, cells := 0, slots := 0, locals := 0 } D cs [.ref b, .int (nI (y))] [(b, .inr (3, [.ref a, .ref k, .ref g, .ref bc, .ref bl, .ref bx, .int (nI (wr)), .long (lv9)])), (bc, .inl (cs.2.1, 48, .inr (.inl (fun j => lN (ct j))))), (bl, .inl (cs.1, 48, .inl (lo))), (bx, .inl (cs.1, 48, .inl (ex))), (a, .inr (1, [.int (nI (rl)), .ref al, .ref ac, .ref ah, .ref an, .int (nI (fl))])), (al, .inl (cs.1, 48, .inl (fun j => nI (ln j)))), (ac, .inl (cs.1, 48, .inl (fun j => nI (cn j)))), (ah, .inl (cs.1, 17, .inl (fun j => nI (sn j)))), (an, .inl (cs.1, 17, .inl (fun j => nI (xn j)))), (g, .inr (2, [.ref gr, .int (nI (st)), .int (nI (sz))])), (gr, .inl (cs.1, 400, .inl (fun j => nI (rb j))))] (QV D [(b, .inr (3, [.ref a, .ref k, .ref g, .ref bc, .ref bl, .ref bx, .int (nI (wr)), .long (lv9)])), (bc, .inl (cs.2.1, 48, .inr (.inl (fun j => lN (ct j))))), (bl, .inl (cs.1, 48, .inl (upd (lo) (y) (nI (y))))), (bx, .inl (cs.1, 48, .inl (upd (ex) (y) (nI (0))))), (a, .inr (1, [.int (nI (rl)), .ref al, .ref ac, .ref ah, .ref an, .int (nI (fl))])), (al, .inl (cs.1, 48, .inl (fun j => nI (ln j)))), (ac, .inl (cs.1, 48, .inl (fun j => nI (cn j)))), (ah, .inl (cs.1, 17, .inl (fun j => nI (sn j)))), (an, .inl (cs.1, 17, .inl (fun j => nI (xn j)))), (g, .inr (2, [.ref gr, .int (nI (st)), .int (nI (sz))])), (gr, .inl (cs.1, 400, .inl (fun j => nI (rb j))))]) := by
  refine MG.mk (own := RB) (by decide) rfl (Nat.le_of_ble_eq_true rfl) ?_
  intro p e s m below meth c A C hr hlk
  refine g_lv (lv' := [(0, .ref b), (1, .int (nI (y)))]) [0, 1] rfl ?_
  refine g_aload_n C d_B_dropRange_0 0 rfl rfl ?_
  refine g_get C (T := FB) (N := 8) 0 4 inB rfl rfl (by decide) tw_109 rfl rfl d_B_dropRange_1 ?_
  refine g_iload_n C d_B_dropRange_4 1 rfl rfl ?_
  refine g_iload_n C d_B_dropRange_5 1 rfl rfl ?_
  refine g_iast C (ws' := [(b, .inr (3, [.ref a, .ref k, .ref g, .ref bc, .ref bl, .ref bx, .int (nI (wr)), .long (lv9)])), (bc, .inl (cs.2.1, 48, .inr (.inl (fun j => lN (ct j))))), (bl, .inl (cs.1, 48, .inl (upd (lo) (y) (nI (y))))), (bx, .inl (cs.1, 48, .inl (ex))), (a, .inr (1, [.int (nI (rl)), .ref al, .ref ac, .ref ah, .ref an, .int (nI (fl))])), (al, .inl (cs.1, 48, .inl (fun j => nI (ln j)))), (ac, .inl (cs.1, 48, .inl (fun j => nI (cn j)))), (ah, .inl (cs.1, 17, .inl (fun j => nI (sn j)))), (an, .inl (cs.1, 17, .inl (fun j => nI (xn j)))), (g, .inr (2, [.ref gr, .int (nI (st)), .int (nI (sz))])), (gr, .inl (cs.1, 400, .inl (fun j => nI (rb j))))]) 2 rfl (by omega) (by decide) rfl d_B_dropRange_6 ?_
  refine g_aload_n C d_B_dropRange_7 0 rfl rfl ?_
  refine g_get C (T := FB) (N := 8) 0 5 inB rfl rfl (by decide) tw_110 rfl rfl d_B_dropRange_8 ?_
  refine g_iload_n C d_B_dropRange_11 1 rfl rfl ?_
  refine g_iconst C (v := nI 0) d_B_dropRange_12 rfl ?_
  refine g_iast C (ws' := [(b, .inr (3, [.ref a, .ref k, .ref g, .ref bc, .ref bl, .ref bx, .int (nI (wr)), .long (lv9)])), (bc, .inl (cs.2.1, 48, .inr (.inl (fun j => lN (ct j))))), (bl, .inl (cs.1, 48, .inl (upd (lo) (y) (nI (y))))), (bx, .inl (cs.1, 48, .inl (upd (ex) (y) (nI (0))))), (a, .inr (1, [.int (nI (rl)), .ref al, .ref ac, .ref ah, .ref an, .int (nI (fl))])), (al, .inl (cs.1, 48, .inl (fun j => nI (ln j)))), (ac, .inl (cs.1, 48, .inl (fun j => nI (cn j)))), (ah, .inl (cs.1, 17, .inl (fun j => nI (sn j)))), (an, .inl (cs.1, 17, .inl (fun j => nI (xn j)))), (g, .inr (2, [.ref gr, .int (nI (st)), .int (nI (sz))])), (gr, .inl (cs.1, 400, .inl (fun j => nI (rb j))))]) 3 rfl (by omega) (by decide) rfl d_B_dropRange_13 ?_
  exact g_vret C hr hlk rfl d_B_dropRange_14
set_option maxHeartbeats 4000000 in
set_option maxRecDepth 100000 in
theorem l_B_dar {p : Program} {l : Launch} {e : Env} {s : State} {m : MethodId} {args : Array Value} {below : List Frame} {meth : Method} {c : Code} {Q : State → Prop} {A : Nat → Prop} {D : va_G} {cs : ClassId × ClassId × ClassId × ClassId} (C : CX p s m args c c_B_dropAllRanges 2 RB D cs A) (b k bc bl bx a al ac ah an g gr : Nat) (ct : Nat → Nat) (lo ex : Nat → Int32) (wr : Nat) (lv9 : Int64) (rl : Nat) (ln cn sn xn : Nat → Nat) (fl : Nat) (rb : Nat → Nat) (st sz : Nat) 
    (K : GO p l e { frames := 1, cells := 0, slots := 0, locals := 21 } s m args below meth c 0 0 Q A D 2 19 [(0, .ref b)] [] [(b, .inr (3, [.ref a, .ref k, .ref g, .ref bc, .ref bl, .ref bx, .int (nI (wr)), .long (lv9)])), (bc, .inl (cs.2.1, 48, .inr (.inl (fun j => lN (ct j))))), (bl, .inl (cs.1, 48, .inl (fun j => nI j))), (bx, .inl (cs.1, 48, .inl (fun _ => nI 0))), (a, .inr (1, [.int (nI (rl)), .ref al, .ref ac, .ref ah, .ref an, .int (nI (fl))])), (al, .inl (cs.1, 48, .inl (fun j => nI (ln j)))), (ac, .inl (cs.1, 48, .inl (fun j => nI (cn j)))), (ah, .inl (cs.1, 17, .inl (fun j => nI (sn j)))), (an, .inl (cs.1, 17, .inl (fun j => nI (xn j)))), (g, .inr (2, [.ref gr, .int (nI (st)), .int (nI (sz))])), (gr, .inl (cs.1, 400, .inl (fun j => nI (rb j))))])
    : ∀ (n : Nat) (i : Nat) (lo2 ex2 : Nat → Int32), 48 - i = n → (i ≤ 48) → (∀ j, j < i → lo2 j = nI j ∧ ex2 j = nI 0) → GO p l e { frames := 1, cells := 0, slots := 0, locals := 21 } s m args below meth c 0 0 Q A D 2 2 [(0, .ref b), (1, .int (nI (i)))] [] [(b, .inr (3, [.ref a, .ref k, .ref g, .ref bc, .ref bl, .ref bx, .int (nI (wr)), .long (lv9)])), (bc, .inl (cs.2.1, 48, .inr (.inl (fun j => lN (ct j))))), (bl, .inl (cs.1, 48, .inl (lo2))), (bx, .inl (cs.1, 48, .inl (ex2))), (a, .inr (1, [.int (nI (rl)), .ref al, .ref ac, .ref ah, .ref an, .int (nI (fl))])), (al, .inl (cs.1, 48, .inl (fun j => nI (ln j)))), (ac, .inl (cs.1, 48, .inl (fun j => nI (cn j)))), (ah, .inl (cs.1, 17, .inl (fun j => nI (sn j)))), (an, .inl (cs.1, 17, .inl (fun j => nI (xn j)))), (g, .inr (2, [.ref gr, .int (nI (st)), .int (nI (sz))])), (gr, .inl (cs.1, 400, .inl (fun j => nI (rb j))))] := by
  intro n
  induction n using Nat.strongRecOn with
  | _ n ih =>
  intro i  lo2 ex2  hn hi hq
  refine g_iload_n C d_B_dropAllRanges_2 1 rfl rfl ?_
  refine g_bipush C (v := nI 48) d_B_dropAllRanges_3 rfl ?_
  refine n_icmp_ge C 19 d_B_dropAllRanges_5 (by decide) (by omega) (by omega) (fun h5 => ?_) (fun h5 => ?_)
  · refine g_lv (lv' := [(0, .ref b)]) [0] rfl ?_
    refine g_ci (f2 := fun j => nI j) (ws' := [(b, .inr (3, [.ref a, .ref k, .ref g, .ref bc, .ref bl, .ref bx, .int (nI (wr)), .long (lv9)])), (bc, .inl (cs.2.1, 48, .inr (.inl (fun j => lN (ct j))))), (bl, .inl (cs.1, 48, .inl (fun j => nI j))), (bx, .inl (cs.1, 48, .inl (ex2))), (a, .inr (1, [.int (nI (rl)), .ref al, .ref ac, .ref ah, .ref an, .int (nI (fl))])), (al, .inl (cs.1, 48, .inl (fun j => nI (ln j)))), (ac, .inl (cs.1, 48, .inl (fun j => nI (cn j)))), (ah, .inl (cs.1, 17, .inl (fun j => nI (sn j)))), (an, .inl (cs.1, 17, .inl (fun j => nI (xn j)))), (g, .inr (2, [.ref gr, .int (nI (st)), .int (nI (sz))])), (gr, .inl (cs.1, 400, .inl (fun j => nI (rb j))))]) 2 rfl (fun j hj => (hq j (by omega)).1) rfl ?_
    refine g_ci (f2 := fun _ => nI 0) (ws' := [(b, .inr (3, [.ref a, .ref k, .ref g, .ref bc, .ref bl, .ref bx, .int (nI (wr)), .long (lv9)])), (bc, .inl (cs.2.1, 48, .inr (.inl (fun j => lN (ct j))))), (bl, .inl (cs.1, 48, .inl (fun j => nI j))), (bx, .inl (cs.1, 48, .inl (fun _ => nI 0))), (a, .inr (1, [.int (nI (rl)), .ref al, .ref ac, .ref ah, .ref an, .int (nI (fl))])), (al, .inl (cs.1, 48, .inl (fun j => nI (ln j)))), (ac, .inl (cs.1, 48, .inl (fun j => nI (cn j)))), (ah, .inl (cs.1, 17, .inl (fun j => nI (sn j)))), (an, .inl (cs.1, 17, .inl (fun j => nI (xn j)))), (g, .inr (2, [.ref gr, .int (nI (st)), .int (nI (sz))])), (gr, .inl (cs.1, 400, .inl (fun j => nI (rb j))))]) 3 rfl (fun j hj => (hq j (by omega)).2) rfl ?_
    exact K
  · refine g_aload_n C d_B_dropAllRanges_8 0 rfl rfl ?_
    refine g_iload_n C d_B_dropAllRanges_9 1 rfl rfl ?_
    refine g_callVv C (n := 1) (ws' := [(b, .inr (3, [.ref a, .ref k, .ref g, .ref bc, .ref bl, .ref bx, .int (nI (wr)), .long (lv9)])), (bc, .inl (cs.2.1, 48, .inr (.inl (fun j => lN (ct j))))), (bl, .inl (cs.1, 48, .inl (upd (lo2) (i) (nI (i))))), (bx, .inl (cs.1, 48, .inl (upd (ex2) (i) (nI (0))))), (a, .inr (1, [.int (nI (rl)), .ref al, .ref ac, .ref ah, .ref an, .int (nI (fl))])), (al, .inl (cs.1, 48, .inl (fun j => nI (ln j)))), (ac, .inl (cs.1, 48, .inl (fun j => nI (cn j)))), (ah, .inl (cs.1, 17, .inl (fun j => nI (sn j)))), (an, .inl (cs.1, 17, .inl (fun j => nI (xn j)))), (g, .inr (2, [.ref gr, .int (nI (st)), .int (nI (sz))])), (gr, .inl (cs.1, 400, .inl (fun j => nI (rb j))))]) (As := [.int (nI (i))]) (rest := []) (m_B_dropRange l D cs b k bc bl bx a al ac ah an g gr (ct) (lo2) (ex2) (wr) (lv9) (rl) (ln) (cn) (sn) (xn) (fl) (rb) (st) (sz) (i) (by omega)) tw_101 tw_103 ts_1 tw_1 tw_104 rfl 0 rfl rfl (by decide +kernel) rfl ⟨rfl, rfl, by decide, by decide, by decide⟩ rfl [0, 1, 2, 3, 4, 5, 6, 7, 8, 9, 10] rfl rfl (by decide) (Nat.le_of_ble_eq_true rfl) rfl d_B_dropAllRanges_10 ?_
    refine g_iinc C (lv' := [(1, .int (nI (i + 1))), (0, .ref b)]) (k := 1) d_B_dropAllRanges_13 rfl (nI_1 _) (by decide) rfl ?_
    refine g_goto C 2 d_B_dropAllRanges_16 (by decide) ?_
    refine g_lv (lv' := [(0, .ref b), (1, .int (nI (i + 1)))]) [1, 0] rfl ?_
    exact ih (48 - (i + 1)) (by omega) (i + 1) _ _ rfl (by omega) (fun j hj => by
      unfold upd
      by_cases e : j = i
      · subst e; simp
      · simp only [e, if_false]; exact hq j (by omega))
set_option maxHeartbeats 4000000 in
set_option maxRecDepth 100000 in
theorem m_B_dropAllRanges (l : Launch) (D : va_G) (cs : ClassId × ClassId × ClassId × ClassId) (b k bc bl bx a al ac ah an g gr : Nat) (ct : Nat → Nat) (lo ex : Nat → Int32) (wr : Nat) (lv9 : Int64) (rl : Nat) (ln cn sn xn : Nat → Nat) (fl : Nat) (rb : Nat → Nat) (st sz : Nat) : MG l y_B_dropAllRanges k_B_dropAllRanges { frames := 1, cells := 0, slots := 0, locals := 21 } D cs [.ref b] [(b, .inr (3, [.ref a, .ref k, .ref g, .ref bc, .ref bl, .ref bx, .int (nI (wr)), .long (lv9)])), (bc, .inl (cs.2.1, 48, .inr (.inl (fun j => lN (ct j))))), (bl, .inl (cs.1, 48, .inl (lo))), (bx, .inl (cs.1, 48, .inl (ex))), (a, .inr (1, [.int (nI (rl)), .ref al, .ref ac, .ref ah, .ref an, .int (nI (fl))])), (al, .inl (cs.1, 48, .inl (fun j => nI (ln j)))), (ac, .inl (cs.1, 48, .inl (fun j => nI (cn j)))), (ah, .inl (cs.1, 17, .inl (fun j => nI (sn j)))), (an, .inl (cs.1, 17, .inl (fun j => nI (xn j)))), (g, .inr (2, [.ref gr, .int (nI (st)), .int (nI (sz))])), (gr, .inl (cs.1, 400, .inl (fun j => nI (rb j))))] (QV D [(b, .inr (3, [.ref a, .ref k, .ref g, .ref bc, .ref bl, .ref bx, .int (nI (wr)), .long (lv9)])), (bc, .inl (cs.2.1, 48, .inr (.inl (fun j => lN (ct j))))), (bl, .inl (cs.1, 48, .inl (fun j => nI j))), (bx, .inl (cs.1, 48, .inl (fun _ => nI 0))), (a, .inr (1, [.int (nI (rl)), .ref al, .ref ac, .ref ah, .ref an, .int (nI (fl))])), (al, .inl (cs.1, 48, .inl (fun j => nI (ln j)))), (ac, .inl (cs.1, 48, .inl (fun j => nI (cn j)))), (ah, .inl (cs.1, 17, .inl (fun j => nI (sn j)))), (an, .inl (cs.1, 17, .inl (fun j => nI (xn j)))), (g, .inr (2, [.ref gr, .int (nI (st)), .int (nI (sz))])), (gr, .inl (cs.1, 400, .inl (fun j => nI (rb j))))]) := by
  refine MG.mk (own := RB) (by decide) rfl (Nat.le_of_ble_eq_true rfl) ?_
  intro p e s m below meth c A C hr hlk
  refine g_lv (lv' := [(0, .ref b)]) [0] rfl ?_
  refine g_iconst C (v := nI 0) d_B_dropAllRanges_0 rfl ?_
  refine g_istore_n C (lv' := [(1, .int (nI (0))), (0, .ref b)]) d_B_dropAllRanges_1 rfl (by decide) rfl ?_
  refine g_lv (lv' := [(0, .ref b), (1, .int (nI (0)))]) [1, 0] rfl ?_
  refine l_B_dar C b k bc bl bx a al ac ah an g gr ct lo ex wr lv9 rl ln cn sn xn fl rb st sz ?_ _ 0 lo ex rfl (by omega) (fun j hj => absurd hj (by omega))
  exact g_vret C hr hlk rfl d_B_dropAllRanges_19
