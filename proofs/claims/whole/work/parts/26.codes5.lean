set_option maxHeartbeats 4000000 in
set_option maxRecDepth 100000 in
theorem m_B_count (l : Launch) (D : va_G) (cs : ClassId × ClassId × ClassId × ClassId) (b k bc bl bx a al ac ah an g gr : Nat) (ct : Nat → Nat) (lo ex : Nat → Int32) (wr : Nat) (lv9 : Int64) (rl : Nat) (ln cn sn xn : Nat → Nat) (fl : Nat) (rb : Nat → Nat) (st sz : Nat) (y n9 : Nat) (hy : y < 48) (hn9 : n9 ≤ 1000000000) (hct : ∀ j, j < 48 → ct j ≤ 1000000000) : MG l y_B_count k_B_count { frames := 1, cells := 0, slots := 0, locals := 20 } D cs [.ref b, .int (nI (y)), .long (lN (n9))] [(b, .inr (3, [.ref a, .ref k, .ref g, .ref bc, .ref bl, .ref bx, .int (nI (wr)), .long (lv9)])), (bc, .inl (cs.2.1, 48, .inr (.inl (fun j => lN (ct j))))), (bl, .inl (cs.1, 48, .inl (lo))), (bx, .inl (cs.1, 48, .inl (ex))), (a, .inr (1, [.int (nI (rl)), .ref al, .ref ac, .ref ah, .ref an, .int (nI (fl))])), (al, .inl (cs.1, 48, .inl (fun j => nI (ln j)))), (ac, .inl (cs.1, 48, .inl (fun j => nI (cn j)))), (ah, .inl (cs.1, 17, .inl (fun j => nI (sn j)))), (an, .inl (cs.1, 17, .inl (fun j => nI (xn j)))), (g, .inr (2, [.ref gr, .int (nI (st)), .int (nI (sz))])), (gr, .inl (cs.1, 400, .inl (fun j => nI (rb j))))] (QI D (nI (if ct y = n9 then 0 else 1)) [(b, .inr (3, [.ref a, .ref k, .ref g, .ref bc, .ref bl, .ref bx, .int (nI (wr)), .long (lv9)])), (bc, .inl (cs.2.1, 48, .inr (.inl (fun j => lN ((updN (ct) (y) (n9)) j))))), (bl, .inl (cs.1, 48, .inl (lo))), (bx, .inl (cs.1, 48, .inl (ex))), (a, .inr (1, [.int (nI (rl)), .ref al, .ref ac, .ref ah, .ref an, .int (nI (fl))])), (al, .inl (cs.1, 48, .inl (fun j => nI (ln j)))), (ac, .inl (cs.1, 48, .inl (fun j => nI (cn j)))), (ah, .inl (cs.1, 17, .inl (fun j => nI (sn j)))), (an, .inl (cs.1, 17, .inl (fun j => nI (xn j)))), (g, .inr (2, [.ref gr, .int (nI (st)), .int (nI (sz))])), (gr, .inl (cs.1, 400, .inl (fun j => nI (rb j))))]) := by
  refine MG.mk (own := RB) (by decide) rfl (Nat.le_of_ble_eq_true rfl) ?_
  intro p e s m below meth c A C hr hlk
  refine g_lv (lv' := [(0, .ref b), (1, .int (nI (y))), (2, .long (lN (n9)))]) [0, 1, 2] rfl ?_
  refine g_iload_n C d_B_count_0 1 rfl rfl ?_
  refine g_callSv C (n := 1) (ws' := [(b, .inr (3, [.ref a, .ref k, .ref g, .ref bc, .ref bl, .ref bx, .int (nI (wr)), .long (lv9)])), (bc, .inl (cs.2.1, 48, .inr (.inl (fun j => lN (ct j))))), (bl, .inl (cs.1, 48, .inl (lo))), (bx, .inl (cs.1, 48, .inl (ex))), (a, .inr (1, [.int (nI (rl)), .ref al, .ref ac, .ref ah, .ref an, .int (nI (fl))])), (al, .inl (cs.1, 48, .inl (fun j => nI (ln j)))), (ac, .inl (cs.1, 48, .inl (fun j => nI (cn j)))), (ah, .inl (cs.1, 17, .inl (fun j => nI (sn j)))), (an, .inl (cs.1, 17, .inl (fun j => nI (xn j)))), (g, .inr (2, [.ref gr, .int (nI (st)), .int (nI (sz))])), (gr, .inl (cs.1, 400, .inl (fun j => nI (rb j))))]) (As := [.int (nI (y))]) (rest := []) (m_B_needSymbol l D cs (y) (by omega)) tw_213 tw_214 tw_1 tw_215 (by decide +kernel) rfl ⟨rfl, rfl, by decide, by decide, by decide⟩ rfl [] rfl rfl (by decide) (Nat.le_of_ble_eq_true rfl) rfl d_B_count_1 ?_
  refine g_lload_n C d_B_count_4 2 rfl rfl ?_
  refine g_lconst C (v := lN 0) d_B_count_5 rfl ?_
  refine n_lcmp_lt C 18 d_B_count_6 d_B_count_7 (by decide) (by omega) (by omega) (fun h => absurd h (by omega)) (fun _ => ?_)
  refine g_lload_n C d_B_count_10 2 rfl rfl ?_
  refine g_ldc2 C (v := lN 1000000000) tw_284 d_B_count_11 ?_
  refine n_lcmp_le C 28 d_B_count_14 d_B_count_15 (by decide) (by omega) (by omega) (fun _ => ?_) (fun h => absurd h (by omega))
  refine g_aload_n C d_B_count_28 0 rfl rfl ?_
  refine g_get C (T := FB) (N := 8) 0 3 inB rfl rfl (by decide) tw_108 rfl rfl d_B_count_29 ?_
  refine g_iload_n C d_B_count_32 1 rfl rfl ?_
  refine g_lald C 1 rfl (by omega) (by decide) d_B_count_33 ?_
  refine g_lload_n C d_B_count_34 2 rfl rfl ?_
  refine n_lcmp_eq C 43 d_B_count_35 d_B_count_36 (by decide) (by have := hct y hy; omega) (by omega) (fun h35 => ?_) (fun h35 => ?_)
  · refine g_iconst C (v := nI 0) d_B_count_43 rfl ?_
    refine g_istore C (lv' := [(4, .int (nI (0))), (0, .ref b), (1, .int (nI (y))), (2, .long (lN (n9)))]) d_B_count_44 (by decide) rfl ?_
    refine g_aload_n C d_B_count_46 1 rfl rfl ?_
    refine g_get C (T := FB) (N := 8) 0 3 inB rfl rfl (by decide) tw_108 rfl rfl d_B_count_47 ?_
    refine g_iload_n C d_B_count_50 2 rfl rfl ?_
    refine g_lload_n C d_B_count_51 3 rfl rfl ?_
    refine n_last C (ws' := [(b, .inr (3, [.ref a, .ref k, .ref g, .ref bc, .ref bl, .ref bx, .int (nI (wr)), .long (lv9)])), (bc, .inl (cs.2.1, 48, .inr (.inl (fun j => lN ((updN (ct) (y) (n9)) j))))), (bl, .inl (cs.1, 48, .inl (lo))), (bx, .inl (cs.1, 48, .inl (ex))), (a, .inr (1, [.int (nI (rl)), .ref al, .ref ac, .ref ah, .ref an, .int (nI (fl))])), (al, .inl (cs.1, 48, .inl (fun j => nI (ln j)))), (ac, .inl (cs.1, 48, .inl (fun j => nI (cn j)))), (ah, .inl (cs.1, 17, .inl (fun j => nI (sn j)))), (an, .inl (cs.1, 17, .inl (fun j => nI (xn j)))), (g, .inr (2, [.ref gr, .int (nI (st)), .int (nI (sz))])), (gr, .inl (cs.1, 400, .inl (fun j => nI (rb j))))]) 1 rfl (by omega) (by decide) rfl d_B_count_52 ?_
    refine g_iload C d_B_count_53 0 rfl ?_
    exact g_zret C hr hlk rfl (by first | rw [if_pos (by assumption)] | rw [if_neg (by assumption)]) rfl d_B_count_55
  · refine g_iconst C (v := nI 1) d_B_count_39 rfl ?_
    refine g_goto C 44 d_B_count_40 (by decide) ?_
    refine g_istore C (lv' := [(4, .int (nI (1))), (0, .ref b), (1, .int (nI (y))), (2, .long (lN (n9)))]) d_B_count_44 (by decide) rfl ?_
    refine g_aload_n C d_B_count_46 1 rfl rfl ?_
    refine g_get C (T := FB) (N := 8) 0 3 inB rfl rfl (by decide) tw_108 rfl rfl d_B_count_47 ?_
    refine g_iload_n C d_B_count_50 2 rfl rfl ?_
    refine g_lload_n C d_B_count_51 3 rfl rfl ?_
    refine n_last C (ws' := [(b, .inr (3, [.ref a, .ref k, .ref g, .ref bc, .ref bl, .ref bx, .int (nI (wr)), .long (lv9)])), (bc, .inl (cs.2.1, 48, .inr (.inl (fun j => lN ((updN (ct) (y) (n9)) j))))), (bl, .inl (cs.1, 48, .inl (lo))), (bx, .inl (cs.1, 48, .inl (ex))), (a, .inr (1, [.int (nI (rl)), .ref al, .ref ac, .ref ah, .ref an, .int (nI (fl))])), (al, .inl (cs.1, 48, .inl (fun j => nI (ln j)))), (ac, .inl (cs.1, 48, .inl (fun j => nI (cn j)))), (ah, .inl (cs.1, 17, .inl (fun j => nI (sn j)))), (an, .inl (cs.1, 17, .inl (fun j => nI (xn j)))), (g, .inr (2, [.ref gr, .int (nI (st)), .int (nI (sz))])), (gr, .inl (cs.1, 400, .inl (fun j => nI (rb j))))]) 1 rfl (by omega) (by decide) rfl d_B_count_52 ?_
    refine g_iload C d_B_count_53 0 rfl ?_
    exact g_zret C hr hlk rfl (by first | rw [if_pos (by assumption)] | rw [if_neg (by assumption)]) rfl d_B_count_55
set_option maxHeartbeats 4000000 in
set_option maxRecDepth 100000 in
theorem t_B_count_o (l : Launch) (hl9 : l.stackTraces = false) (D : va_G) (cs : ClassId × ClassId × ClassId × ClassId) (b k bc bl bx a al ac ah an g gr : Nat) (ct : Nat → Nat) (lo ex : Nat → Int32) (wr : Nat) (lv9 : Int64) (rl : Nat) (ln cn sn xn : Nat → Nat) (fl : Nat) (rb : Nat → Nat) (st sz : Nat) (x : Int32) (hx : x < 0 ∨ ¬ x < nI 48) (n9 : Int64) : MT l y_B_count k_B_count { frames := 7, cells := 1, slots := 6, locals := 102 } D cs [.ref b, .int (x), .long (n9)] [(b, .inr (3, [.ref a, .ref k, .ref g, .ref bc, .ref bl, .ref bx, .int (nI (wr)), .long (lv9)])), (bc, .inl (cs.2.1, 48, .inr (.inl (fun j => lN (ct j))))), (bl, .inl (cs.1, 48, .inl (lo))), (bx, .inl (cs.1, 48, .inl (ex))), (a, .inr (1, [.int (nI (rl)), .ref al, .ref ac, .ref ah, .ref an, .int (nI (fl))])), (al, .inl (cs.1, 48, .inl (fun j => nI (ln j)))), (ac, .inl (cs.1, 48, .inl (fun j => nI (cn j)))), (ah, .inl (cs.1, 17, .inl (fun j => nI (sn j)))), (an, .inl (cs.1, 17, .inl (fun j => nI (xn j)))), (g, .inr (2, [.ref gr, .int (nI (st)), .int (nI (sz))])), (gr, .inl (cs.1, 400, .inl (fun j => nI (rb j))))] "java/lang/IndexOutOfBoundsException" := by
  refine MT.mk (own := RB) (by decide) rfl (Nat.le_of_ble_eq_true rfl) ?_
  intro p e s m below meth c A C xf xs hex hlk
  refine g_lv (lv' := [(0, .ref b), (1, .int (x)), (2, .long (n9))]) [0, 1, 2] rfl ?_
  refine g_iload_n C d_B_count_0 1 rfl rfl ?_
  exact g_callSt_out C (n := 1) (As := [.int (x)]) (rest := []) (t_B_needSymbol l hl9 D cs (x) hx) tw_213 tw_214 tw_1 tw_215 xf xs hex hlk (by decide +kernel) rfl ⟨rfl, rfl, by decide, by decide, by decide⟩ rfl [] rfl (by decide) (Nat.le_of_ble_eq_true rfl) rfl d_B_count_1
set_option maxHeartbeats 4000000 in
set_option maxRecDepth 100000 in
theorem t_B_count_a (l : Launch) (hl9 : l.stackTraces = false) (D : va_G) (cs : ClassId × ClassId × ClassId × ClassId) (b k bc bl bx a al ac ah an g gr : Nat) (ct : Nat → Nat) (lo ex : Nat → Int32) (wr : Nat) (lv9 : Int64) (rl : Nat) (ln cn sn xn : Nat → Nat) (fl : Nat) (rb : Nat → Nat) (st sz : Nat) (y : Nat) (hy : y < 48) (n9 : Int64) (hx : n9 < lN 0 ∨ lN 1000000000 < n9) : MT l y_B_count k_B_count { frames := 7, cells := 1, slots := 6, locals := 102 } D cs [.ref b, .int (nI (y)), .long (n9)] [(b, .inr (3, [.ref a, .ref k, .ref g, .ref bc, .ref bl, .ref bx, .int (nI (wr)), .long (lv9)])), (bc, .inl (cs.2.1, 48, .inr (.inl (fun j => lN (ct j))))), (bl, .inl (cs.1, 48, .inl (lo))), (bx, .inl (cs.1, 48, .inl (ex))), (a, .inr (1, [.int (nI (rl)), .ref al, .ref ac, .ref ah, .ref an, .int (nI (fl))])), (al, .inl (cs.1, 48, .inl (fun j => nI (ln j)))), (ac, .inl (cs.1, 48, .inl (fun j => nI (cn j)))), (ah, .inl (cs.1, 17, .inl (fun j => nI (sn j)))), (an, .inl (cs.1, 17, .inl (fun j => nI (xn j)))), (g, .inr (2, [.ref gr, .int (nI (st)), .int (nI (sz))])), (gr, .inl (cs.1, 400, .inl (fun j => nI (rb j))))] "java/lang/IllegalArgumentException" := by
  refine MT.mk (own := RB) (by decide) rfl (Nat.le_of_ble_eq_true rfl) ?_
  intro p e s m below meth c A C xf xs hex hlk
  refine g_lv (lv' := [(0, .ref b), (1, .int (nI (y))), (2, .long (n9))]) [0, 1, 2] rfl ?_
  refine g_iload_n C d_B_count_0 1 rfl rfl ?_
  refine g_callSv C (n := 1) (ws' := [(b, .inr (3, [.ref a, .ref k, .ref g, .ref bc, .ref bl, .ref bx, .int (nI (wr)), .long (lv9)])), (bc, .inl (cs.2.1, 48, .inr (.inl (fun j => lN (ct j))))), (bl, .inl (cs.1, 48, .inl (lo))), (bx, .inl (cs.1, 48, .inl (ex))), (a, .inr (1, [.int (nI (rl)), .ref al, .ref ac, .ref ah, .ref an, .int (nI (fl))])), (al, .inl (cs.1, 48, .inl (fun j => nI (ln j)))), (ac, .inl (cs.1, 48, .inl (fun j => nI (cn j)))), (ah, .inl (cs.1, 17, .inl (fun j => nI (sn j)))), (an, .inl (cs.1, 17, .inl (fun j => nI (xn j)))), (g, .inr (2, [.ref gr, .int (nI (st)), .int (nI (sz))])), (gr, .inl (cs.1, 400, .inl (fun j => nI (rb j))))]) (As := [.int (nI (y))]) (rest := []) (m_B_needSymbol l D cs (y) (by omega)) tw_213 tw_214 tw_1 tw_215 (by decide +kernel) rfl ⟨rfl, rfl, by decide, by decide, by decide⟩ rfl [] rfl rfl (by decide) (Nat.le_of_ble_eq_true rfl) rfl d_B_count_1 ?_
  refine g_lload_n C d_B_count_4 2 rfl rfl ?_
  refine g_lconst C (v := lN 0) d_B_count_5 rfl ?_
  refine g_lcmp_lt C 18 d_B_count_6 d_B_count_7 (by decide) (fun h6 => ?_) (fun h6 => ?_)
  · obtain ⟨sa, hsa⟩ := xf.2.2.2.2.2.2.2.2.2.1
    exact g_throw C hl9 (by decide +kernel) tw_285 tw_11 hsa xf.2.1 xa_A xb_A xg_A xf xs hex hlk ⟨by decide, Nat.le_of_ble_eq_true rfl, by decide, by decide⟩ d_B_count_18 d_B_count_21 d_B_count_22 d_B_count_24 d_B_count_27
  · refine g_lload_n C d_B_count_10 2 rfl rfl ?_
    refine g_ldc2 C (v := lN 1000000000) tw_284 d_B_count_11 ?_
    refine g_lcmp_le C 28 d_B_count_14 d_B_count_15 (by decide) (fun h14 => ?_) (fun h14 => ?_)
    · exact hx.elim (fun h => absurd h (Int64.not_lt.mpr (by assumption))) (fun h => absurd h (Int64.not_lt.mpr (by assumption)))
    · obtain ⟨sa, hsa⟩ := xf.2.2.2.2.2.2.2.2.2.1
      exact g_throw C hl9 (by decide +kernel) tw_285 tw_11 hsa xf.2.1 xa_A xb_A xg_A xf xs hex hlk ⟨by decide, Nat.le_of_ble_eq_true rfl, by decide, by decide⟩ d_B_count_18 d_B_count_21 d_B_count_22 d_B_count_24 d_B_count_27
set_option maxHeartbeats 4000000 in
set_option maxRecDepth 100000 in
theorem m_B_length (l : Launch) (D : va_G) (cs : ClassId × ClassId × ClassId × ClassId) (b k bc bl bx a al ac ah an g gr : Nat) (ct : Nat → Nat) (lo ex : Nat → Int32) (wr : Nat) (lv9 : Int64) (rl : Nat) (ln cn sn xn : Nat → Nat) (fl : Nat) (rb : Nat → Nat) (st sz : Nat) (y : Nat) (hy : y < 48) : MG l y_B_length k_B_length { frames := 1, cells := 0, slots := 0, locals := 20 } D cs [.ref b, .int (nI (y))] [(b, .inr (3, [.ref a, .ref k, .ref g, .ref bc, .ref bl, .ref bx, .int (nI (wr)), .long (lv9)])), (bc, .inl (cs.2.1, 48, .inr (.inl (fun j => lN (ct j))))), (bl, .inl (cs.1, 48, .inl (lo))), (bx, .inl (cs.1, 48, .inl (ex))), (a, .inr (1, [.int (nI (rl)), .ref al, .ref ac, .ref ah, .ref an, .int (nI (fl))])), (al, .inl (cs.1, 48, .inl (fun j => nI (ln j)))), (ac, .inl (cs.1, 48, .inl (fun j => nI (cn j)))), (ah, .inl (cs.1, 17, .inl (fun j => nI (sn j)))), (an, .inl (cs.1, 17, .inl (fun j => nI (xn j)))), (g, .inr (2, [.ref gr, .int (nI (st)), .int (nI (sz))])), (gr, .inl (cs.1, 400, .inl (fun j => nI (rb j))))] (QI D (nI (ln (y))) [(b, .inr (3, [.ref a, .ref k, .ref g, .ref bc, .ref bl, .ref bx, .int (nI (wr)), .long (lv9)])), (bc, .inl (cs.2.1, 48, .inr (.inl (fun j => lN (ct j))))), (bl, .inl (cs.1, 48, .inl (lo))), (bx, .inl (cs.1, 48, .inl (ex))), (a, .inr (1, [.int (nI (rl)), .ref al, .ref ac, .ref ah, .ref an, .int (nI (fl))])), (al, .inl (cs.1, 48, .inl (fun j => nI (ln j)))), (ac, .inl (cs.1, 48, .inl (fun j => nI (cn j)))), (ah, .inl (cs.1, 17, .inl (fun j => nI (sn j)))), (an, .inl (cs.1, 17, .inl (fun j => nI (xn j)))), (g, .inr (2, [.ref gr, .int (nI (st)), .int (nI (sz))])), (gr, .inl (cs.1, 400, .inl (fun j => nI (rb j))))]) := by
  refine MG.mk (own := RB) (by decide) rfl (Nat.le_of_ble_eq_true rfl) ?_
  intro p e s m below meth c A C hr hlk
  refine g_lv (lv' := [(0, .ref b), (1, .int (nI (y)))]) [0, 1] rfl ?_
  refine g_iload_n C d_B_length_0 1 rfl rfl ?_
  refine g_callSv C (n := 1) (ws' := [(b, .inr (3, [.ref a, .ref k, .ref g, .ref bc, .ref bl, .ref bx, .int (nI (wr)), .long (lv9)])), (bc, .inl (cs.2.1, 48, .inr (.inl (fun j => lN (ct j))))), (bl, .inl (cs.1, 48, .inl (lo))), (bx, .inl (cs.1, 48, .inl (ex))), (a, .inr (1, [.int (nI (rl)), .ref al, .ref ac, .ref ah, .ref an, .int (nI (fl))])), (al, .inl (cs.1, 48, .inl (fun j => nI (ln j)))), (ac, .inl (cs.1, 48, .inl (fun j => nI (cn j)))), (ah, .inl (cs.1, 17, .inl (fun j => nI (sn j)))), (an, .inl (cs.1, 17, .inl (fun j => nI (xn j)))), (g, .inr (2, [.ref gr, .int (nI (st)), .int (nI (sz))])), (gr, .inl (cs.1, 400, .inl (fun j => nI (rb j))))]) (As := [.int (nI (y))]) (rest := []) (m_B_needSymbol l D cs (y) (by omega)) tw_213 tw_214 tw_1 tw_215 (by decide +kernel) rfl ⟨rfl, rfl, by decide, by decide, by decide⟩ rfl [] rfl rfl (by decide) (Nat.le_of_ble_eq_true rfl) rfl d_B_length_1 ?_
  refine g_aload_n C d_B_length_4 0 rfl rfl ?_
  refine g_get C (T := FB) (N := 8) 0 0 inB rfl rfl (by decide) tw_105 rfl rfl d_B_length_5 ?_
  refine g_getN C (T := FT) (N := 6) (k := 1) C.2.2.2.2.1 4 inT rfl rfl (by decide) rfl rfl d_B_length_8 ?_
  refine g_iload_n C d_B_length_11 1 rfl rfl ?_
  refine g_iald C 5 rfl (by omega) (by decide) d_B_length_12 ?_
  exact g_iret C hr hlk rfl rfl d_B_length_13
set_option maxHeartbeats 4000000 in
set_option maxRecDepth 100000 in
theorem t_B_length_o (l : Launch) (hl9 : l.stackTraces = false) (D : va_G) (cs : ClassId × ClassId × ClassId × ClassId) (b k bc bl bx a al ac ah an g gr : Nat) (ct : Nat → Nat) (lo ex : Nat → Int32) (wr : Nat) (lv9 : Int64) (rl : Nat) (ln cn sn xn : Nat → Nat) (fl : Nat) (rb : Nat → Nat) (st sz : Nat) (x : Int32) (hx : x < 0 ∨ ¬ x < nI 48) : MT l y_B_length k_B_length { frames := 7, cells := 1, slots := 6, locals := 102 } D cs [.ref b, .int (x)] [(b, .inr (3, [.ref a, .ref k, .ref g, .ref bc, .ref bl, .ref bx, .int (nI (wr)), .long (lv9)])), (bc, .inl (cs.2.1, 48, .inr (.inl (fun j => lN (ct j))))), (bl, .inl (cs.1, 48, .inl (lo))), (bx, .inl (cs.1, 48, .inl (ex))), (a, .inr (1, [.int (nI (rl)), .ref al, .ref ac, .ref ah, .ref an, .int (nI (fl))])), (al, .inl (cs.1, 48, .inl (fun j => nI (ln j)))), (ac, .inl (cs.1, 48, .inl (fun j => nI (cn j)))), (ah, .inl (cs.1, 17, .inl (fun j => nI (sn j)))), (an, .inl (cs.1, 17, .inl (fun j => nI (xn j)))), (g, .inr (2, [.ref gr, .int (nI (st)), .int (nI (sz))])), (gr, .inl (cs.1, 400, .inl (fun j => nI (rb j))))] "java/lang/IndexOutOfBoundsException" := by
  refine MT.mk (own := RB) (by decide) rfl (Nat.le_of_ble_eq_true rfl) ?_
  intro p e s m below meth c A C xf xs hex hlk
  refine g_lv (lv' := [(0, .ref b), (1, .int (x))]) [0, 1] rfl ?_
  refine g_iload_n C d_B_length_0 1 rfl rfl ?_
  exact g_callSt_out C (n := 1) (As := [.int (x)]) (rest := []) (t_B_needSymbol l hl9 D cs (x) hx) tw_213 tw_214 tw_1 tw_215 xf xs hex hlk (by decide +kernel) rfl ⟨rfl, rfl, by decide, by decide, by decide⟩ rfl [] rfl (by decide) (Nat.le_of_ble_eq_true rfl) rfl d_B_length_1
set_option maxHeartbeats 4000000 in
set_option maxRecDepth 100000 in
theorem m_B_code (l : Launch) (D : va_G) (cs : ClassId × ClassId × ClassId × ClassId) (b k bc bl bx a al ac ah an g gr : Nat) (ct : Nat → Nat) (lo ex : Nat → Int32) (wr : Nat) (lv9 : Int64) (rl : Nat) (ln cn sn xn : Nat → Nat) (fl : Nat) (rb : Nat → Nat) (st sz : Nat) (y : Nat) (hy : y < 48) (hl : ∀ j, j < 48 → ln j ≤ 16) (hc : ∀ j, j < 48 → cn j < 2 ^ 31) (hf : fl ≤ 65536) : MG l y_B_code k_B_code { frames := 2, cells := 0, slots := 0, locals := 40 } D cs [.ref b, .int (nI (y))] [(b, .inr (3, [.ref a, .ref k, .ref g, .ref bc, .ref bl, .ref bx, .int (nI (wr)), .long (lv9)])), (bc, .inl (cs.2.1, 48, .inr (.inl (fun j => lN (ct j))))), (bl, .inl (cs.1, 48, .inl (lo))), (bx, .inl (cs.1, 48, .inl (ex))), (a, .inr (1, [.int (nI (rl)), .ref al, .ref ac, .ref ah, .ref an, .int (nI (fl))])), (al, .inl (cs.1, 48, .inl (fun j => nI (ln j)))), (ac, .inl (cs.1, 48, .inl (fun j => nI (cn j)))), (ah, .inl (cs.1, 17, .inl (fun j => nI (sn j)))), (an, .inl (cs.1, 17, .inl (fun j => nI (xn j)))), (g, .inr (2, [.ref gr, .int (nI (st)), .int (nI (sz))])), (gr, .inl (cs.1, 400, .inl (fun j => nI (rb j))))] (QL D (if ln y = 0 then (-1) else lN (cn y)) [(b, .inr (3, [.ref a, .ref k, .ref g, .ref bc, .ref bl, .ref bx, .int (nI (wr)), .long (lv9)])), (bc, .inl (cs.2.1, 48, .inr (.inl (fun j => lN (ct j))))), (bl, .inl (cs.1, 48, .inl (lo))), (bx, .inl (cs.1, 48, .inl (ex))), (a, .inr (1, [.int (nI (rl)), .ref al, .ref ac, .ref ah, .ref an, .int (nI (fl))])), (al, .inl (cs.1, 48, .inl (fun j => nI (ln j)))), (ac, .inl (cs.1, 48, .inl (fun j => nI (cn j)))), (ah, .inl (cs.1, 17, .inl (fun j => nI (sn j)))), (an, .inl (cs.1, 17, .inl (fun j => nI (xn j)))), (g, .inr (2, [.ref gr, .int (nI (st)), .int (nI (sz))])), (gr, .inl (cs.1, 400, .inl (fun j => nI (rb j))))]) := by
  refine MG.mk (own := RB) (by decide) rfl (Nat.le_of_ble_eq_true rfl) ?_
  intro p e s m below meth c A C hr hlk
  refine g_lv (lv' := [(0, .ref b), (1, .int (nI (y)))]) [0, 1] rfl ?_
  refine g_iload_n C d_B_code_0 1 rfl rfl ?_
  refine g_callSv C (n := 1) (ws' := [(b, .inr (3, [.ref a, .ref k, .ref g, .ref bc, .ref bl, .ref bx, .int (nI (wr)), .long (lv9)])), (bc, .inl (cs.2.1, 48, .inr (.inl (fun j => lN (ct j))))), (bl, .inl (cs.1, 48, .inl (lo))), (bx, .inl (cs.1, 48, .inl (ex))), (a, .inr (1, [.int (nI (rl)), .ref al, .ref ac, .ref ah, .ref an, .int (nI (fl))])), (al, .inl (cs.1, 48, .inl (fun j => nI (ln j)))), (ac, .inl (cs.1, 48, .inl (fun j => nI (cn j)))), (ah, .inl (cs.1, 17, .inl (fun j => nI (sn j)))), (an, .inl (cs.1, 17, .inl (fun j => nI (xn j)))), (g, .inr (2, [.ref gr, .int (nI (st)), .int (nI (sz))])), (gr, .inl (cs.1, 400, .inl (fun j => nI (rb j))))]) (As := [.int (nI (y))]) (rest := []) (m_B_needSymbol l D cs (y) (by omega)) tw_213 tw_214 tw_1 tw_215 (by decide +kernel) rfl ⟨rfl, rfl, by decide, by decide, by decide⟩ rfl [] rfl rfl (by decide) (Nat.le_of_ble_eq_true rfl) rfl d_B_code_1 ?_
  refine g_aload_n C d_B_code_4 0 rfl rfl ?_
  refine g_callVv C (n := 0) (ws' := [(b, .inr (3, [.ref a, .ref k, .ref g, .ref bc, .ref bl, .ref bx, .int (nI (wr)), .long (lv9)])), (bc, .inl (cs.2.1, 48, .inr (.inl (fun j => lN (ct j))))), (bl, .inl (cs.1, 48, .inl (lo))), (bx, .inl (cs.1, 48, .inl (ex))), (a, .inr (1, [.int (nI (rl)), .ref al, .ref ac, .ref ah, .ref an, .int (nI (fl))])), (al, .inl (cs.1, 48, .inl (fun j => nI (ln j)))), (ac, .inl (cs.1, 48, .inl (fun j => nI (cn j)))), (ah, .inl (cs.1, 17, .inl (fun j => nI (sn j)))), (an, .inl (cs.1, 17, .inl (fun j => nI (xn j)))), (g, .inr (2, [.ref gr, .int (nI (st)), .int (nI (sz))])), (gr, .inl (cs.1, 400, .inl (fun j => nI (rb j))))]) (As := []) (rest := []) (m_B_needCodes l D cs b k bc bl bx a al ac ah an g gr (ct) (lo) (ex) (wr) (lv9) (rl) (ln) (cn) (sn) (xn) (fl) (rb) (st) (sz) (by omega)) tw_345 tw_347 ts_12 tw_1 tw_348 rfl 0 rfl rfl (by decide +kernel) rfl ⟨rfl, rfl, by decide, by decide, by decide⟩ rfl [0, 1, 2, 3, 4, 5, 6, 7, 8, 9, 10] rfl rfl (by decide) (Nat.le_of_ble_eq_true rfl) rfl d_B_code_5 ?_
  refine g_aload_n C d_B_code_8 0 rfl rfl ?_
  refine g_get C (T := FB) (N := 8) 0 0 inB rfl rfl (by decide) tw_105 rfl rfl d_B_code_9 ?_
  refine g_getN C (T := FT) (N := 6) (k := 1) C.2.2.2.2.1 4 inT rfl rfl (by decide) rfl rfl d_B_code_12 ?_
  refine g_iload_n C d_B_code_15 1 rfl rfl ?_
  refine g_iald C 5 rfl (by omega) (by decide) d_B_code_16 ?_
  refine n_if_ne C 26 d_B_code_17 (by decide) (by have := hl y hy; omega) (fun h17 => ?_) (fun h17 => ?_)
  · refine g_aload_n C d_B_code_26 0 rfl rfl ?_
    refine g_get C (T := FB) (N := 8) 0 0 inB rfl rfl (by decide) tw_105 rfl rfl d_B_code_27 ?_
    refine g_getN C (T := FT) (N := 6) (k := 2) C.2.2.2.2.2.1 4 inT rfl rfl (by decide) rfl rfl d_B_code_30 ?_
    refine g_iload_n C d_B_code_33 1 rfl rfl ?_
    refine g_iald C 6 rfl (by omega) (by decide) d_B_code_34 ?_
    refine g_i2l C (v := lN (cn (y))) d_B_code_35 (nI_l (hc y hy)) ?_
    exact g_lret C hr hlk (by first | rw [if_pos (by assumption)] | rw [if_neg (by omega)]) rfl d_B_code_36
  · refine g_ldc2 C (v := (-1)) tw_365 d_B_code_20 ?_
    refine g_goto C 36 d_B_code_23 (by decide) ?_
    exact g_lret C hr hlk (by first | rw [if_pos (by assumption)] | rw [if_neg (by omega)]) rfl d_B_code_36
set_option maxHeartbeats 4000000 in
set_option maxRecDepth 100000 in
theorem t_B_code_o (l : Launch) (hl9 : l.stackTraces = false) (D : va_G) (cs : ClassId × ClassId × ClassId × ClassId) (b k bc bl bx a al ac ah an g gr : Nat) (ct : Nat → Nat) (lo ex : Nat → Int32) (wr : Nat) (lv9 : Int64) (rl : Nat) (ln cn sn xn : Nat → Nat) (fl : Nat) (rb : Nat → Nat) (st sz : Nat) (x : Int32) (hx : x < 0 ∨ ¬ x < nI 48) : MT l y_B_code k_B_code { frames := 7, cells := 1, slots := 6, locals := 102 } D cs [.ref b, .int (x)] [(b, .inr (3, [.ref a, .ref k, .ref g, .ref bc, .ref bl, .ref bx, .int (nI (wr)), .long (lv9)])), (bc, .inl (cs.2.1, 48, .inr (.inl (fun j => lN (ct j))))), (bl, .inl (cs.1, 48, .inl (lo))), (bx, .inl (cs.1, 48, .inl (ex))), (a, .inr (1, [.int (nI (rl)), .ref al, .ref ac, .ref ah, .ref an, .int (nI (fl))])), (al, .inl (cs.1, 48, .inl (fun j => nI (ln j)))), (ac, .inl (cs.1, 48, .inl (fun j => nI (cn j)))), (ah, .inl (cs.1, 17, .inl (fun j => nI (sn j)))), (an, .inl (cs.1, 17, .inl (fun j => nI (xn j)))), (g, .inr (2, [.ref gr, .int (nI (st)), .int (nI (sz))])), (gr, .inl (cs.1, 400, .inl (fun j => nI (rb j))))] "java/lang/IndexOutOfBoundsException" := by
  refine MT.mk (own := RB) (by decide) rfl (Nat.le_of_ble_eq_true rfl) ?_
  intro p e s m below meth c A C xf xs hex hlk
  refine g_lv (lv' := [(0, .ref b), (1, .int (x))]) [0, 1] rfl ?_
  refine g_iload_n C d_B_code_0 1 rfl rfl ?_
  exact g_callSt_out C (n := 1) (As := [.int (x)]) (rest := []) (t_B_needSymbol l hl9 D cs (x) hx) tw_213 tw_214 tw_1 tw_215 xf xs hex hlk (by decide +kernel) rfl ⟨rfl, rfl, by decide, by decide, by decide⟩ rfl [] rfl (by decide) (Nat.le_of_ble_eq_true rfl) rfl d_B_code_1
set_option maxHeartbeats 4000000 in
set_option maxRecDepth 100000 in
theorem t_B_code_s (l : Launch) (hl9 : l.stackTraces = false) (D : va_G) (cs : ClassId × ClassId × ClassId × ClassId) (b k bc bl bx a al ac ah an g gr : Nat) (ct : Nat → Nat) (lo ex : Nat → Int32) (wr : Nat) (lv9 : Int64) (rl : Nat) (ln cn sn xn : Nat → Nat) (fl : Nat) (rb : Nat → Nat) (st sz : Nat) (y : Nat) (hy : y < 48) (hf : 65536 < fl) (hf2 : fl < 2 ^ 31) : MT l y_B_code k_B_code { frames := 7, cells := 1, slots := 6, locals := 102 } D cs [.ref b, .int (nI (y))] [(b, .inr (3, [.ref a, .ref k, .ref g, .ref bc, .ref bl, .ref bx, .int (nI (wr)), .long (lv9)])), (bc, .inl (cs.2.1, 48, .inr (.inl (fun j => lN (ct j))))), (bl, .inl (cs.1, 48, .inl (lo))), (bx, .inl (cs.1, 48, .inl (ex))), (a, .inr (1, [.int (nI (rl)), .ref al, .ref ac, .ref ah, .ref an, .int (nI (fl))])), (al, .inl (cs.1, 48, .inl (fun j => nI (ln j)))), (ac, .inl (cs.1, 48, .inl (fun j => nI (cn j)))), (ah, .inl (cs.1, 17, .inl (fun j => nI (sn j)))), (an, .inl (cs.1, 17, .inl (fun j => nI (xn j)))), (g, .inr (2, [.ref gr, .int (nI (st)), .int (nI (sz))])), (gr, .inl (cs.1, 400, .inl (fun j => nI (rb j))))] "java/lang/IllegalStateException" := by
  refine MT.mk (own := RB) (by decide) rfl (Nat.le_of_ble_eq_true rfl) ?_
  intro p e s m below meth c A C xf xs hex hlk
  refine g_lv (lv' := [(0, .ref b), (1, .int (nI (y)))]) [0, 1] rfl ?_
  refine g_iload_n C d_B_code_0 1 rfl rfl ?_
  refine g_callSv C (n := 1) (ws' := [(b, .inr (3, [.ref a, .ref k, .ref g, .ref bc, .ref bl, .ref bx, .int (nI (wr)), .long (lv9)])), (bc, .inl (cs.2.1, 48, .inr (.inl (fun j => lN (ct j))))), (bl, .inl (cs.1, 48, .inl (lo))), (bx, .inl (cs.1, 48, .inl (ex))), (a, .inr (1, [.int (nI (rl)), .ref al, .ref ac, .ref ah, .ref an, .int (nI (fl))])), (al, .inl (cs.1, 48, .inl (fun j => nI (ln j)))), (ac, .inl (cs.1, 48, .inl (fun j => nI (cn j)))), (ah, .inl (cs.1, 17, .inl (fun j => nI (sn j)))), (an, .inl (cs.1, 17, .inl (fun j => nI (xn j)))), (g, .inr (2, [.ref gr, .int (nI (st)), .int (nI (sz))])), (gr, .inl (cs.1, 400, .inl (fun j => nI (rb j))))]) (As := [.int (nI (y))]) (rest := []) (m_B_needSymbol l D cs (y) (by omega)) tw_213 tw_214 tw_1 tw_215 (by decide +kernel) rfl ⟨rfl, rfl, by decide, by decide, by decide⟩ rfl [] rfl rfl (by decide) (Nat.le_of_ble_eq_true rfl) rfl d_B_code_1 ?_
  refine g_aload_n C d_B_code_4 0 rfl rfl ?_
  exact g_callVt_out C (n := 0) (As := []) (rest := []) (t_B_needCodes l hl9 D cs b k bc bl bx a al ac ah an g gr (ct) (lo) (ex) (wr) (lv9) (rl) (ln) (cn) (sn) (xn) (fl) (rb) (st) (sz) hf hf2) tw_345 tw_347 ts_12 tw_1 tw_348 rfl 0 rfl rfl xf xs hex hlk (by decide +kernel) rfl ⟨rfl, rfl, by decide, by decide, by decide⟩ rfl [0, 1, 2, 3, 4, 5, 6, 7, 8, 9, 10] rfl (by decide) (Nat.le_of_ble_eq_true rfl) rfl d_B_code_5
set_option maxHeartbeats 4000000 in
set_option maxRecDepth 100000 in
theorem m_B_given (l : Launch) (D : va_G) (cs : ClassId × ClassId × ClassId × ClassId) (b k bc bl bx a al ac ah an g gr : Nat) (ct : Nat → Nat) (lo ex : Nat → Int32) (wr : Nat) (lv9 : Int64) (rl : Nat) (ln cn sn xn : Nat → Nat) (fl : Nat) (rb : Nat → Nat) (st sz : Nat) (y L : Nat) (hy : y < 48) (hL : L ≤ 16) (hl : ∀ j, j < 48 → ln j ≤ 16) (hrl : rl < 3) : MG l y_B_given k_B_given { frames := 4, cells := 0, slots := 0, locals := 86 } D cs [.ref b, .int (nI (y)), .int (nI (L))] [(b, .inr (3, [.ref a, .ref k, .ref g, .ref bc, .ref bl, .ref bx, .int (nI (wr)), .long (lv9)])), (bc, .inl (cs.2.1, 48, .inr (.inl (fun j => lN (ct j))))), (bl, .inl (cs.1, 48, .inl (lo))), (bx, .inl (cs.1, 48, .inl (ex))), (a, .inr (1, [.int (nI (rl)), .ref al, .ref ac, .ref ah, .ref an, .int (nI (fl))])), (al, .inl (cs.1, 48, .inl (fun j => nI (ln j)))), (ac, .inl (cs.1, 48, .inl (fun j => nI (cn j)))), (ah, .inl (cs.1, 17, .inl (fun j => nI (sn j)))), (an, .inl (cs.1, 17, .inl (fun j => nI (xn j)))), (g, .inr (2, [.ref gr, .int (nI (st)), .int (nI (sz))])), (gr, .inl (cs.1, 400, .inl (fun j => nI (rb j))))] (QI D (nI (if stt (fll (updN ln y L)) = 2 then 0 else 1)) [(b, .inr (3, [.ref a, .ref k, .ref g, .ref bc, .ref bl, .ref bx, .int (nI (wr)), .long (lv9)])), (bc, .inl (cs.2.1, 48, .inr (.inl (fun j => lN (ct j))))), (bl, .inl (cs.1, 48, .inl (upd (lo) (y) (nI (y))))), (bx, .inl (cs.1, 48, .inl (upd (ex) (y) (nI (0))))), (a, .inr (1, [.int (nI (rl)), .ref al, .ref ac, .ref ah, .ref an, .int (nI (fll (updN (ln) (y) (L))))])), (al, .inl (cs.1, 48, .inl (fun j => nI ((updN (ln) (y) (L)) j)))), (ac, .inl (cs.1, 48, .inl (fun j => nI ((cN (rl) (updN (ln) (y) (L)) (cn)) j)))), (ah, .inl (cs.1, 17, .inl (fun j => nI ((shr (updN (ln) (y) (L)) 48) j)))), (an, .inl (cs.1, 17, .inl (fun j => nI ((xN (rl) (updN (ln) (y) (L)) (xn)) j)))), (g, .inr (2, [.ref gr, .int (nI (st)), .int (nI (sz))])), (gr, .inl (cs.1, 400, .inl (fun j => nI (rb j))))]) := by
  refine MG.mk (own := RB) (by decide) rfl (Nat.le_of_ble_eq_true rfl) ?_
  intro p e s m below meth c A C hr hlk
  refine g_lv (lv' := [(0, .ref b), (1, .int (nI (y))), (2, .int (nI (L)))]) [0, 1, 2] rfl ?_
  refine g_iload_n C d_B_given_0 1 rfl rfl ?_
  refine g_callSv C (n := 1) (ws' := [(b, .inr (3, [.ref a, .ref k, .ref g, .ref bc, .ref bl, .ref bx, .int (nI (wr)), .long (lv9)])), (bc, .inl (cs.2.1, 48, .inr (.inl (fun j => lN (ct j))))), (bl, .inl (cs.1, 48, .inl (lo))), (bx, .inl (cs.1, 48, .inl (ex))), (a, .inr (1, [.int (nI (rl)), .ref al, .ref ac, .ref ah, .ref an, .int (nI (fl))])), (al, .inl (cs.1, 48, .inl (fun j => nI (ln j)))), (ac, .inl (cs.1, 48, .inl (fun j => nI (cn j)))), (ah, .inl (cs.1, 17, .inl (fun j => nI (sn j)))), (an, .inl (cs.1, 17, .inl (fun j => nI (xn j)))), (g, .inr (2, [.ref gr, .int (nI (st)), .int (nI (sz))])), (gr, .inl (cs.1, 400, .inl (fun j => nI (rb j))))]) (As := [.int (nI (y))]) (rest := []) (m_B_needSymbol l D cs (y) (by omega)) tw_213 tw_214 tw_1 tw_215 (by decide +kernel) rfl ⟨rfl, rfl, by decide, by decide, by decide⟩ rfl [] rfl rfl (by decide) (Nat.le_of_ble_eq_true rfl) rfl d_B_given_1 ?_
  refine g_iload_n C d_B_given_4 2 rfl rfl ?_
  refine n_if_lt C 14 d_B_given_5 (by decide) (by omega) ?_
  refine g_iload_n C d_B_given_8 2 rfl rfl ?_
  refine g_bipush C (v := nI 16) d_B_given_9 rfl ?_
  refine n_icmp_le C 24 d_B_given_11 (by decide) (by omega) (by omega) (fun _ => ?_) (fun h => absurd h (by omega))
  refine g_aload_n C d_B_given_24 0 rfl rfl ?_
  refine g_iload_n C d_B_given_25 1 rfl rfl ?_
  refine g_callVv C (n := 1) (ws' := [(b, .inr (3, [.ref a, .ref k, .ref g, .ref bc, .ref bl, .ref bx, .int (nI (wr)), .long (lv9)])), (bc, .inl (cs.2.1, 48, .inr (.inl (fun j => lN (ct j))))), (bl, .inl (cs.1, 48, .inl (upd (lo) (y) (nI (y))))), (bx, .inl (cs.1, 48, .inl (upd (ex) (y) (nI (0))))), (a, .inr (1, [.int (nI (rl)), .ref al, .ref ac, .ref ah, .ref an, .int (nI (fl))])), (al, .inl (cs.1, 48, .inl (fun j => nI (ln j)))), (ac, .inl (cs.1, 48, .inl (fun j => nI (cn j)))), (ah, .inl (cs.1, 17, .inl (fun j => nI (sn j)))), (an, .inl (cs.1, 17, .inl (fun j => nI (xn j)))), (g, .inr (2, [.ref gr, .int (nI (st)), .int (nI (sz))])), (gr, .inl (cs.1, 400, .inl (fun j => nI (rb j))))]) (As := [.int (nI (y))]) (rest := []) (m_B_dropRange l D cs b k bc bl bx a al ac ah an g gr (ct) (lo) (ex) (wr) (lv9) (rl) (ln) (cn) (sn) (xn) (fl) (rb) (st) (sz) (y) (by omega)) tw_101 tw_103 ts_1 tw_1 tw_104 rfl 0 rfl rfl (by decide +kernel) rfl ⟨rfl, rfl, by decide, by decide, by decide⟩ rfl [0, 1, 2, 3, 4, 5, 6, 7, 8, 9, 10] rfl rfl (by decide) (Nat.le_of_ble_eq_true rfl) rfl d_B_given_26 ?_
  refine g_aload_n C d_B_given_29 0 rfl rfl ?_
  refine g_iload_n C d_B_given_30 1 rfl rfl ?_
  refine g_iload_n C d_B_given_31 2 rfl rfl ?_
  refine g_callVi C (n := 2) (ws' := [(b, .inr (3, [.ref a, .ref k, .ref g, .ref bc, .ref bl, .ref bx, .int (nI (wr)), .long (lv9)])), (bc, .inl (cs.2.1, 48, .inr (.inl (fun j => lN (ct j))))), (bl, .inl (cs.1, 48, .inl (upd (lo) (y) (nI (y))))), (bx, .inl (cs.1, 48, .inl (upd (ex) (y) (nI (0))))), (a, .inr (1, [.int (nI (rl)), .ref al, .ref ac, .ref ah, .ref an, .int (nI (fll (updN (ln) (y) (L))))])), (al, .inl (cs.1, 48, .inl (fun j => nI ((updN (ln) (y) (L)) j)))), (ac, .inl (cs.1, 48, .inl (fun j => nI ((cN (rl) (updN (ln) (y) (L)) (cn)) j)))), (ah, .inl (cs.1, 17, .inl (fun j => nI ((shr (updN (ln) (y) (L)) 48) j)))), (an, .inl (cs.1, 17, .inl (fun j => nI ((xN (rl) (updN (ln) (y) (L)) (xn)) j)))), (g, .inr (2, [.ref gr, .int (nI (st)), .int (nI (sz))])), (gr, .inl (cs.1, 400, .inl (fun j => nI (rb j))))]) (As := [.int (nI (y)), .int (nI (L))]) (rest := []) (m_B_tellLength l D cs b k bc bl bx a al ac ah an g gr (ct) (upd (lo) (y) (nI (y))) (upd (ex) (y) (nI (0))) (wr) (lv9) (rl) (ln) (cn) (sn) (xn) (fl) (rb) (st) (sz) (y) (L) (by omega) (by omega) hl hrl) tw_374 tw_376 ts_13 tw_1 tw_377 rfl 0 rfl rfl (by decide +kernel) rfl ⟨rfl, rfl, by decide, by decide, by decide⟩ rfl [0, 1, 2, 3, 4, 5, 6, 7, 8, 9, 10] rfl rfl (by decide) (Nat.le_of_ble_eq_true rfl) rfl d_B_given_32 ?_
  exact g_zret C hr hlk (by split <;> rfl) rfl rfl d_B_given_35
set_option maxHeartbeats 4000000 in
set_option maxRecDepth 100000 in
theorem t_B_given_o (l : Launch) (hl9 : l.stackTraces = false) (D : va_G) (cs : ClassId × ClassId × ClassId × ClassId) (b k bc bl bx a al ac ah an g gr : Nat) (ct : Nat → Nat) (lo ex : Nat → Int32) (wr : Nat) (lv9 : Int64) (rl : Nat) (ln cn sn xn : Nat → Nat) (fl : Nat) (rb : Nat → Nat) (st sz : Nat) (x : Int32) (hx : x < 0 ∨ ¬ x < nI 48) (z : Int32) : MT l y_B_given k_B_given { frames := 7, cells := 1, slots := 6, locals := 102 } D cs [.ref b, .int (x), .int (z)] [(b, .inr (3, [.ref a, .ref k, .ref g, .ref bc, .ref bl, .ref bx, .int (nI (wr)), .long (lv9)])), (bc, .inl (cs.2.1, 48, .inr (.inl (fun j => lN (ct j))))), (bl, .inl (cs.1, 48, .inl (lo))), (bx, .inl (cs.1, 48, .inl (ex))), (a, .inr (1, [.int (nI (rl)), .ref al, .ref ac, .ref ah, .ref an, .int (nI (fl))])), (al, .inl (cs.1, 48, .inl (fun j => nI (ln j)))), (ac, .inl (cs.1, 48, .inl (fun j => nI (cn j)))), (ah, .inl (cs.1, 17, .inl (fun j => nI (sn j)))), (an, .inl (cs.1, 17, .inl (fun j => nI (xn j)))), (g, .inr (2, [.ref gr, .int (nI (st)), .int (nI (sz))])), (gr, .inl (cs.1, 400, .inl (fun j => nI (rb j))))] "java/lang/IndexOutOfBoundsException" := by
  refine MT.mk (own := RB) (by decide) rfl (Nat.le_of_ble_eq_true rfl) ?_
  intro p e s m below meth c A C xf xs hex hlk
  refine g_lv (lv' := [(0, .ref b), (1, .int (x)), (2, .int (z))]) [0, 1, 2] rfl ?_
  refine g_iload_n C d_B_given_0 1 rfl rfl ?_
  exact g_callSt_out C (n := 1) (As := [.int (x)]) (rest := []) (t_B_needSymbol l hl9 D cs (x) hx) tw_213 tw_214 tw_1 tw_215 xf xs hex hlk (by decide +kernel) rfl ⟨rfl, rfl, by decide, by decide, by decide⟩ rfl [] rfl (by decide) (Nat.le_of_ble_eq_true rfl) rfl d_B_given_1
set_option maxHeartbeats 4000000 in
set_option maxRecDepth 100000 in
theorem t_B_given_a (l : Launch) (hl9 : l.stackTraces = false) (D : va_G) (cs : ClassId × ClassId × ClassId × ClassId) (b k bc bl bx a al ac ah an g gr : Nat) (ct : Nat → Nat) (lo ex : Nat → Int32) (wr : Nat) (lv9 : Int64) (rl : Nat) (ln cn sn xn : Nat → Nat) (fl : Nat) (rb : Nat → Nat) (st sz : Nat) (y : Nat) (hy : y < 48) (x : Int32) (hx : x < 0 ∨ ¬ x ≤ nI 16) : MT l y_B_given k_B_given { frames := 7, cells := 1, slots := 6, locals := 102 } D cs [.ref b, .int (nI (y)), .int (x)] [(b, .inr (3, [.ref a, .ref k, .ref g, .ref bc, .ref bl, .ref bx, .int (nI (wr)), .long (lv9)])), (bc, .inl (cs.2.1, 48, .inr (.inl (fun j => lN (ct j))))), (bl, .inl (cs.1, 48, .inl (lo))), (bx, .inl (cs.1, 48, .inl (ex))), (a, .inr (1, [.int (nI (rl)), .ref al, .ref ac, .ref ah, .ref an, .int (nI (fl))])), (al, .inl (cs.1, 48, .inl (fun j => nI (ln j)))), (ac, .inl (cs.1, 48, .inl (fun j => nI (cn j)))), (ah, .inl (cs.1, 17, .inl (fun j => nI (sn j)))), (an, .inl (cs.1, 17, .inl (fun j => nI (xn j)))), (g, .inr (2, [.ref gr, .int (nI (st)), .int (nI (sz))])), (gr, .inl (cs.1, 400, .inl (fun j => nI (rb j))))] "java/lang/IllegalArgumentException" := by
  refine MT.mk (own := RB) (by decide) rfl (Nat.le_of_ble_eq_true rfl) ?_
  intro p e s m below meth c A C xf xs hex hlk
  refine g_lv (lv' := [(0, .ref b), (1, .int (nI (y))), (2, .int (x))]) [0, 1, 2] rfl ?_
  refine g_iload_n C d_B_given_0 1 rfl rfl ?_
  refine g_callSv C (n := 1) (ws' := [(b, .inr (3, [.ref a, .ref k, .ref g, .ref bc, .ref bl, .ref bx, .int (nI (wr)), .long (lv9)])), (bc, .inl (cs.2.1, 48, .inr (.inl (fun j => lN (ct j))))), (bl, .inl (cs.1, 48, .inl (lo))), (bx, .inl (cs.1, 48, .inl (ex))), (a, .inr (1, [.int (nI (rl)), .ref al, .ref ac, .ref ah, .ref an, .int (nI (fl))])), (al, .inl (cs.1, 48, .inl (fun j => nI (ln j)))), (ac, .inl (cs.1, 48, .inl (fun j => nI (cn j)))), (ah, .inl (cs.1, 17, .inl (fun j => nI (sn j)))), (an, .inl (cs.1, 17, .inl (fun j => nI (xn j)))), (g, .inr (2, [.ref gr, .int (nI (st)), .int (nI (sz))])), (gr, .inl (cs.1, 400, .inl (fun j => nI (rb j))))]) (As := [.int (nI (y))]) (rest := []) (m_B_needSymbol l D cs (y) (by omega)) tw_213 tw_214 tw_1 tw_215 (by decide +kernel) rfl ⟨rfl, rfl, by decide, by decide, by decide⟩ rfl [] rfl rfl (by decide) (Nat.le_of_ble_eq_true rfl) rfl d_B_given_1 ?_
  refine g_iload_n C d_B_given_4 2 rfl rfl ?_
  refine g_if_lt C 14 d_B_given_5 (by decide) (fun h5 => ?_) (fun h5 => ?_)
  · obtain ⟨sa, hsa⟩ := xf.2.2.2.2.2.2.2.2.2.2.2.2.1
    exact g_throw C hl9 (by decide +kernel) tw_285 tw_11 hsa xf.2.1 xa_A xb_A xg_A xf xs hex hlk ⟨by decide, Nat.le_of_ble_eq_true rfl, by decide, by decide⟩ d_B_given_14 d_B_given_17 d_B_given_18 d_B_given_20 d_B_given_23
  · refine g_iload_n C d_B_given_8 2 rfl rfl ?_
    refine g_bipush C (v := nI 16) d_B_given_9 rfl ?_
    refine g_icmp_le C 24 d_B_given_11 (by decide) (fun h11 => ?_) (fun h11 => ?_)
    · exact hx.elim (fun h => absurd h (by assumption)) (fun h => absurd (by assumption) h)
    · obtain ⟨sa, hsa⟩ := xf.2.2.2.2.2.2.2.2.2.2.2.2.1
      exact g_throw C hl9 (by decide +kernel) tw_285 tw_11 hsa xf.2.1 xa_A xb_A xg_A xf xs hex hlk ⟨by decide, Nat.le_of_ble_eq_true rfl, by decide, by decide⟩ d_B_given_14 d_B_given_17 d_B_given_18 d_B_given_20 d_B_given_23
set_option maxHeartbeats 4000000 in
set_option maxRecDepth 100000 in
theorem m_B_range (l : Launch) (D : va_G) (cs : ClassId × ClassId × ClassId × ClassId) (b k bc bl bx a al ac ah an g gr : Nat) (ct : Nat → Nat) (lo ex : Nat → Int32) (wr : Nat) (lv9 : Int64) (rl : Nat) (ln cn sn xn : Nat → Nat) (fl : Nat) (rb : Nat → Nat) (st sz : Nat) (y L : Nat) (lw e9 : Int32) (hy : y < 48) (h1L : 1 ≤ L) (hL : L ≤ 16) (he : ¬ e9 < (-32)) (he2 : e9 ≤ nI 32) (hl : ∀ j, j < 48 → ln j ≤ 16) (hrl : rl < 3) : MG l y_B_range k_B_range { frames := 4, cells := 0, slots := 0, locals := 86 } D cs [.ref b, .int (nI (y)), .int (lw), .int (e9), .int (nI (L))] [(b, .inr (3, [.ref a, .ref k, .ref g, .ref bc, .ref bl, .ref bx, .int (nI (wr)), .long (lv9)])), (bc, .inl (cs.2.1, 48, .inr (.inl (fun j => lN (ct j))))), (bl, .inl (cs.1, 48, .inl (lo))), (bx, .inl (cs.1, 48, .inl (ex))), (a, .inr (1, [.int (nI (rl)), .ref al, .ref ac, .ref ah, .ref an, .int (nI (fl))])), (al, .inl (cs.1, 48, .inl (fun j => nI (ln j)))), (ac, .inl (cs.1, 48, .inl (fun j => nI (cn j)))), (ah, .inl (cs.1, 17, .inl (fun j => nI (sn j)))), (an, .inl (cs.1, 17, .inl (fun j => nI (xn j)))), (g, .inr (2, [.ref gr, .int (nI (st)), .int (nI (sz))])), (gr, .inl (cs.1, 400, .inl (fun j => nI (rb j))))] (QI D (nI (if stt (fll (updN ln y L)) = 2 then 0 else 1)) [(b, .inr (3, [.ref a, .ref k, .ref g, .ref bc, .ref bl, .ref bx, .int (nI (wr)), .long (lv9)])), (bc, .inl (cs.2.1, 48, .inr (.inl (fun j => lN (ct j))))), (bl, .inl (cs.1, 48, .inl (upd (lo) (y) (lw)))), (bx, .inl (cs.1, 48, .inl (upd (ex) (y) (e9)))), (a, .inr (1, [.int (nI (rl)), .ref al, .ref ac, .ref ah, .ref an, .int (nI (fll (updN (ln) (y) (L))))])), (al, .inl (cs.1, 48, .inl (fun j => nI ((updN (ln) (y) (L)) j)))), (ac, .inl (cs.1, 48, .inl (fun j => nI ((cN (rl) (updN (ln) (y) (L)) (cn)) j)))), (ah, .inl (cs.1, 17, .inl (fun j => nI ((shr (updN (ln) (y) (L)) 48) j)))), (an, .inl (cs.1, 17, .inl (fun j => nI ((xN (rl) (updN (ln) (y) (L)) (xn)) j)))), (g, .inr (2, [.ref gr, .int (nI (st)), .int (nI (sz))])), (gr, .inl (cs.1, 400, .inl (fun j => nI (rb j))))]) := by
  refine MG.mk (own := RB) (by decide) rfl (Nat.le_of_ble_eq_true rfl) ?_
  intro p e s m below meth c A C hr hlk
  refine g_lv (lv' := [(0, .ref b), (1, .int (nI (y))), (2, .int (lw)), (3, .int (e9)), (4, .int (nI (L)))]) [0, 1, 2, 3, 4] rfl ?_
  refine g_iload_n C d_B_range_0 1 rfl rfl ?_
  refine g_callSv C (n := 1) (ws' := [(b, .inr (3, [.ref a, .ref k, .ref g, .ref bc, .ref bl, .ref bx, .int (nI (wr)), .long (lv9)])), (bc, .inl (cs.2.1, 48, .inr (.inl (fun j => lN (ct j))))), (bl, .inl (cs.1, 48, .inl (lo))), (bx, .inl (cs.1, 48, .inl (ex))), (a, .inr (1, [.int (nI (rl)), .ref al, .ref ac, .ref ah, .ref an, .int (nI (fl))])), (al, .inl (cs.1, 48, .inl (fun j => nI (ln j)))), (ac, .inl (cs.1, 48, .inl (fun j => nI (cn j)))), (ah, .inl (cs.1, 17, .inl (fun j => nI (sn j)))), (an, .inl (cs.1, 17, .inl (fun j => nI (xn j)))), (g, .inr (2, [.ref gr, .int (nI (st)), .int (nI (sz))])), (gr, .inl (cs.1, 400, .inl (fun j => nI (rb j))))]) (As := [.int (nI (y))]) (rest := []) (m_B_needSymbol l D cs (y) (by omega)) tw_213 tw_214 tw_1 tw_215 (by decide +kernel) rfl ⟨rfl, rfl, by decide, by decide, by decide⟩ rfl [] rfl rfl (by decide) (Nat.le_of_ble_eq_true rfl) rfl d_B_range_1 ?_
  refine g_iload C d_B_range_4 4 rfl ?_
  refine g_iconst C (v := nI 1) d_B_range_6 rfl ?_
  refine n_icmp_lt C 17 d_B_range_7 (by decide) (by omega) (by omega) (fun h => absurd h (by omega)) (fun _ => ?_)
  refine g_iload C d_B_range_10 4 rfl ?_
  refine g_bipush C (v := nI 16) d_B_range_12 rfl ?_
  refine n_icmp_le C 27 d_B_range_14 (by decide) (by omega) (by omega) (fun _ => ?_) (fun h => absurd h (by omega))
  refine g_iload_n C d_B_range_27 3 rfl rfl ?_
  refine g_bipush C (v := (-32)) d_B_range_28 rfl ?_
  refine g_icmp_lt C 39 d_B_range_30 (by decide) (fun h30 => ?_) (fun h30 => ?_)
  · first | exact absurd (by assumption) he | exact absurd he2 (by assumption)
  · refine g_iload_n C d_B_range_33 3 rfl rfl ?_
    refine g_bipush C (v := nI 32) d_B_range_34 rfl ?_
    refine g_icmp_le C 49 d_B_range_36 (by decide) (fun h36 => ?_) (fun h36 => ?_)
    · refine g_aload_n C d_B_range_49 0 rfl rfl ?_
      refine g_get C (T := FB) (N := 8) 0 4 inB rfl rfl (by decide) tw_109 rfl rfl d_B_range_50 ?_
      refine g_iload_n C d_B_range_53 1 rfl rfl ?_
      refine g_iload_n C d_B_range_54 2 rfl rfl ?_
      refine g_iast C (ws' := [(b, .inr (3, [.ref a, .ref k, .ref g, .ref bc, .ref bl, .ref bx, .int (nI (wr)), .long (lv9)])), (bc, .inl (cs.2.1, 48, .inr (.inl (fun j => lN (ct j))))), (bl, .inl (cs.1, 48, .inl (upd (lo) (y) (lw)))), (bx, .inl (cs.1, 48, .inl (ex))), (a, .inr (1, [.int (nI (rl)), .ref al, .ref ac, .ref ah, .ref an, .int (nI (fl))])), (al, .inl (cs.1, 48, .inl (fun j => nI (ln j)))), (ac, .inl (cs.1, 48, .inl (fun j => nI (cn j)))), (ah, .inl (cs.1, 17, .inl (fun j => nI (sn j)))), (an, .inl (cs.1, 17, .inl (fun j => nI (xn j)))), (g, .inr (2, [.ref gr, .int (nI (st)), .int (nI (sz))])), (gr, .inl (cs.1, 400, .inl (fun j => nI (rb j))))]) 2 rfl (by omega) (by decide) rfl d_B_range_55 ?_
      refine g_aload_n C d_B_range_56 0 rfl rfl ?_
      refine g_get C (T := FB) (N := 8) 0 5 inB rfl rfl (by decide) tw_110 rfl rfl d_B_range_57 ?_
      refine g_iload_n C d_B_range_60 1 rfl rfl ?_
      refine g_iload_n C d_B_range_61 3 rfl rfl ?_
      refine g_iast C (ws' := [(b, .inr (3, [.ref a, .ref k, .ref g, .ref bc, .ref bl, .ref bx, .int (nI (wr)), .long (lv9)])), (bc, .inl (cs.2.1, 48, .inr (.inl (fun j => lN (ct j))))), (bl, .inl (cs.1, 48, .inl (upd (lo) (y) (lw)))), (bx, .inl (cs.1, 48, .inl (upd (ex) (y) (e9)))), (a, .inr (1, [.int (nI (rl)), .ref al, .ref ac, .ref ah, .ref an, .int (nI (fl))])), (al, .inl (cs.1, 48, .inl (fun j => nI (ln j)))), (ac, .inl (cs.1, 48, .inl (fun j => nI (cn j)))), (ah, .inl (cs.1, 17, .inl (fun j => nI (sn j)))), (an, .inl (cs.1, 17, .inl (fun j => nI (xn j)))), (g, .inr (2, [.ref gr, .int (nI (st)), .int (nI (sz))])), (gr, .inl (cs.1, 400, .inl (fun j => nI (rb j))))]) 3 rfl (by omega) (by decide) rfl d_B_range_62 ?_
      refine g_aload_n C d_B_range_63 0 rfl rfl ?_
      refine g_iload_n C d_B_range_64 1 rfl rfl ?_
      refine g_iload C d_B_range_65 4 rfl ?_
      refine g_callVi C (n := 2) (ws' := [(b, .inr (3, [.ref a, .ref k, .ref g, .ref bc, .ref bl, .ref bx, .int (nI (wr)), .long (lv9)])), (bc, .inl (cs.2.1, 48, .inr (.inl (fun j => lN (ct j))))), (bl, .inl (cs.1, 48, .inl (upd (lo) (y) (lw)))), (bx, .inl (cs.1, 48, .inl (upd (ex) (y) (e9)))), (a, .inr (1, [.int (nI (rl)), .ref al, .ref ac, .ref ah, .ref an, .int (nI (fll (updN (ln) (y) (L))))])), (al, .inl (cs.1, 48, .inl (fun j => nI ((updN (ln) (y) (L)) j)))), (ac, .inl (cs.1, 48, .inl (fun j => nI ((cN (rl) (updN (ln) (y) (L)) (cn)) j)))), (ah, .inl (cs.1, 17, .inl (fun j => nI ((shr (updN (ln) (y) (L)) 48) j)))), (an, .inl (cs.1, 17, .inl (fun j => nI ((xN (rl) (updN (ln) (y) (L)) (xn)) j)))), (g, .inr (2, [.ref gr, .int (nI (st)), .int (nI (sz))])), (gr, .inl (cs.1, 400, .inl (fun j => nI (rb j))))]) (As := [.int (nI (y)), .int (nI (L))]) (rest := []) (m_B_tellLength l D cs b k bc bl bx a al ac ah an g gr (ct) (upd (lo) (y) (lw)) (upd (ex) (y) (e9)) (wr) (lv9) (rl) (ln) (cn) (sn) (xn) (fl) (rb) (st) (sz) (y) (L) (by omega) (by omega) hl hrl) tw_374 tw_376 ts_13 tw_1 tw_377 rfl 0 rfl rfl (by decide +kernel) rfl ⟨rfl, rfl, by decide, by decide, by decide⟩ rfl [0, 1, 2, 3, 4, 5, 6, 7, 8, 9, 10] rfl rfl (by decide) (Nat.le_of_ble_eq_true rfl) rfl d_B_range_67 ?_
      exact g_zret C hr hlk (by split <;> rfl) rfl rfl d_B_range_70
    · first | exact absurd (by assumption) he | exact absurd he2 (by assumption)
set_option maxHeartbeats 4000000 in
set_option maxRecDepth 100000 in
theorem t_B_range_o (l : Launch) (hl9 : l.stackTraces = false) (D : va_G) (cs : ClassId × ClassId × ClassId × ClassId) (b k bc bl bx a al ac ah an g gr : Nat) (ct : Nat → Nat) (lo ex : Nat → Int32) (wr : Nat) (lv9 : Int64) (rl : Nat) (ln cn sn xn : Nat → Nat) (fl : Nat) (rb : Nat → Nat) (st sz : Nat) (x : Int32) (hx : x < 0 ∨ ¬ x < nI 48) (z1 z2 z3 : Int32) : MT l y_B_range k_B_range { frames := 7, cells := 1, slots := 6, locals := 102 } D cs [.ref b, .int (x), .int (z1), .int (z2), .int (z3)] [(b, .inr (3, [.ref a, .ref k, .ref g, .ref bc, .ref bl, .ref bx, .int (nI (wr)), .long (lv9)])), (bc, .inl (cs.2.1, 48, .inr (.inl (fun j => lN (ct j))))), (bl, .inl (cs.1, 48, .inl (lo))), (bx, .inl (cs.1, 48, .inl (ex))), (a, .inr (1, [.int (nI (rl)), .ref al, .ref ac, .ref ah, .ref an, .int (nI (fl))])), (al, .inl (cs.1, 48, .inl (fun j => nI (ln j)))), (ac, .inl (cs.1, 48, .inl (fun j => nI (cn j)))), (ah, .inl (cs.1, 17, .inl (fun j => nI (sn j)))), (an, .inl (cs.1, 17, .inl (fun j => nI (xn j)))), (g, .inr (2, [.ref gr, .int (nI (st)), .int (nI (sz))])), (gr, .inl (cs.1, 400, .inl (fun j => nI (rb j))))] "java/lang/IndexOutOfBoundsException" := by
  refine MT.mk (own := RB) (by decide) rfl (Nat.le_of_ble_eq_true rfl) ?_
  intro p e s m below meth c A C xf xs hex hlk
  refine g_lv (lv' := [(0, .ref b), (1, .int (x)), (2, .int (z1)), (3, .int (z2)), (4, .int (z3))]) [0, 1, 2, 3, 4] rfl ?_
  refine g_iload_n C d_B_range_0 1 rfl rfl ?_
  exact g_callSt_out C (n := 1) (As := [.int (x)]) (rest := []) (t_B_needSymbol l hl9 D cs (x) hx) tw_213 tw_214 tw_1 tw_215 xf xs hex hlk (by decide +kernel) rfl ⟨rfl, rfl, by decide, by decide, by decide⟩ rfl [] rfl (by decide) (Nat.le_of_ble_eq_true rfl) rfl d_B_range_1
set_option maxHeartbeats 4000000 in
set_option maxRecDepth 100000 in
theorem t_B_range_a (l : Launch) (hl9 : l.stackTraces = false) (D : va_G) (cs : ClassId × ClassId × ClassId × ClassId) (b k bc bl bx a al ac ah an g gr : Nat) (ct : Nat → Nat) (lo ex : Nat → Int32) (wr : Nat) (lv9 : Int64) (rl : Nat) (ln cn sn xn : Nat → Nat) (fl : Nat) (rb : Nat → Nat) (st sz : Nat) (y : Nat) (hy : y < 48) (lw e9 z : Int32) (hx : (z < nI 1 ∨ ¬ z ≤ nI 16) ∨ (e9 < (-32) ∨ ¬ e9 ≤ nI 32)) : MT l y_B_range k_B_range { frames := 7, cells := 1, slots := 6, locals := 102 } D cs [.ref b, .int (nI (y)), .int (lw), .int (e9), .int (z)] [(b, .inr (3, [.ref a, .ref k, .ref g, .ref bc, .ref bl, .ref bx, .int (nI (wr)), .long (lv9)])), (bc, .inl (cs.2.1, 48, .inr (.inl (fun j => lN (ct j))))), (bl, .inl (cs.1, 48, .inl (lo))), (bx, .inl (cs.1, 48, .inl (ex))), (a, .inr (1, [.int (nI (rl)), .ref al, .ref ac, .ref ah, .ref an, .int (nI (fl))])), (al, .inl (cs.1, 48, .inl (fun j => nI (ln j)))), (ac, .inl (cs.1, 48, .inl (fun j => nI (cn j)))), (ah, .inl (cs.1, 17, .inl (fun j => nI (sn j)))), (an, .inl (cs.1, 17, .inl (fun j => nI (xn j)))), (g, .inr (2, [.ref gr, .int (nI (st)), .int (nI (sz))])), (gr, .inl (cs.1, 400, .inl (fun j => nI (rb j))))] "java/lang/IllegalArgumentException" := by
  refine MT.mk (own := RB) (by decide) rfl (Nat.le_of_ble_eq_true rfl) ?_
  intro p e s m below meth c A C xf xs hex hlk
  refine g_lv (lv' := [(0, .ref b), (1, .int (nI (y))), (2, .int (lw)), (3, .int (e9)), (4, .int (z))]) [0, 1, 2, 3, 4] rfl ?_
  refine g_iload_n C d_B_range_0 1 rfl rfl ?_
  refine g_callSv C (n := 1) (ws' := [(b, .inr (3, [.ref a, .ref k, .ref g, .ref bc, .ref bl, .ref bx, .int (nI (wr)), .long (lv9)])), (bc, .inl (cs.2.1, 48, .inr (.inl (fun j => lN (ct j))))), (bl, .inl (cs.1, 48, .inl (lo))), (bx, .inl (cs.1, 48, .inl (ex))), (a, .inr (1, [.int (nI (rl)), .ref al, .ref ac, .ref ah, .ref an, .int (nI (fl))])), (al, .inl (cs.1, 48, .inl (fun j => nI (ln j)))), (ac, .inl (cs.1, 48, .inl (fun j => nI (cn j)))), (ah, .inl (cs.1, 17, .inl (fun j => nI (sn j)))), (an, .inl (cs.1, 17, .inl (fun j => nI (xn j)))), (g, .inr (2, [.ref gr, .int (nI (st)), .int (nI (sz))])), (gr, .inl (cs.1, 400, .inl (fun j => nI (rb j))))]) (As := [.int (nI (y))]) (rest := []) (m_B_needSymbol l D cs (y) (by omega)) tw_213 tw_214 tw_1 tw_215 (by decide +kernel) rfl ⟨rfl, rfl, by decide, by decide, by decide⟩ rfl [] rfl rfl (by decide) (Nat.le_of_ble_eq_true rfl) rfl d_B_range_1 ?_
  refine g_iload C d_B_range_4 4 rfl ?_
  refine g_iconst C (v := nI 1) d_B_range_6 rfl ?_
  refine g_icmp_lt C 17 d_B_range_7 (by decide) (fun h7 => ?_) (fun h7 => ?_)
  · obtain ⟨sa, hsa⟩ := xf.2.2.2.2.2.2.2.2.2.2.2.2.2.1
    exact g_throw C hl9 (by decide +kernel) tw_285 tw_11 hsa xf.2.1 xa_A xb_A xg_A xf xs hex hlk ⟨by decide, Nat.le_of_ble_eq_true rfl, by decide, by decide⟩ d_B_range_17 d_B_range_20 d_B_range_21 d_B_range_23 d_B_range_26
  · refine g_iload C d_B_range_10 4 rfl ?_
    refine g_bipush C (v := nI 16) d_B_range_12 rfl ?_
    refine g_icmp_le C 27 d_B_range_14 (by decide) (fun h14 => ?_) (fun h14 => ?_)
    · refine g_iload_n C d_B_range_27 3 rfl rfl ?_
      refine g_bipush C (v := (-32)) d_B_range_28 rfl ?_
      refine g_icmp_lt C 39 d_B_range_30 (by decide) (fun h30 => ?_) (fun h30 => ?_)
      · obtain ⟨sa, hsa⟩ := xf.2.2.2.2.2.2.2.2.2.2.2.2.2.2.1
        exact g_throw C hl9 (by decide +kernel) tw_285 tw_11 hsa xf.2.1 xa_A xb_A xg_A xf xs hex hlk ⟨by decide, Nat.le_of_ble_eq_true rfl, by decide, by decide⟩ d_B_range_39 d_B_range_42 d_B_range_43 d_B_range_45 d_B_range_48
      · refine g_iload_n C d_B_range_33 3 rfl rfl ?_
        refine g_bipush C (v := nI 32) d_B_range_34 rfl ?_
        refine g_icmp_le C 49 d_B_range_36 (by decide) (fun h36 => ?_) (fun h36 => ?_)
        · exact hx.elim (fun hx => hx.elim (fun h => absurd h (by assumption)) (fun h => absurd (by assumption) h)) (fun hx => hx.elim (fun h => absurd h (by assumption)) (fun h => absurd (by assumption) h))
        · obtain ⟨sa, hsa⟩ := xf.2.2.2.2.2.2.2.2.2.2.2.2.2.2.1
          exact g_throw C hl9 (by decide +kernel) tw_285 tw_11 hsa xf.2.1 xa_A xb_A xg_A xf xs hex hlk ⟨by decide, Nat.le_of_ble_eq_true rfl, by decide, by decide⟩ d_B_range_39 d_B_range_42 d_B_range_43 d_B_range_45 d_B_range_48
    · obtain ⟨sa, hsa⟩ := xf.2.2.2.2.2.2.2.2.2.2.2.2.2.1
      exact g_throw C hl9 (by decide +kernel) tw_285 tw_11 hsa xf.2.1 xa_A xb_A xg_A xf xs hex hlk ⟨by decide, Nat.le_of_ble_eq_true rfl, by decide, by decide⟩ d_B_range_17 d_B_range_20 d_B_range_21 d_B_range_23 d_B_range_26
set_option maxHeartbeats 4000000 in
set_option maxRecDepth 100000 in
theorem m_B_feed (l : Launch) (D : va_G) (cs : ClassId × ClassId × ClassId × ClassId) (b k bc bl bx a al ac ah an g gr : Nat) (ct : Nat → Nat) (lo ex : Nat → Int32) (wr : Nat) (lv9 : Int64) (rl : Nat) (ln cn sn xn : Nat → Nat) (fl : Nat) (rb : Nat → Nat) (st sz : Nat) (bt : Nat) (hbt : bt < 2) (hs : st < 400) (hz : sz ≤ 400) : MG l y_B_feed k_B_feed { frames := 1, cells := 0, slots := 0, locals := 21 } D cs [.ref b, .int (nI (bt))] [(b, .inr (3, [.ref a, .ref k, .ref g, .ref bc, .ref bl, .ref bx, .int (nI (wr)), .long (lv9)])), (bc, .inl (cs.2.1, 48, .inr (.inl (fun j => lN (ct j))))), (bl, .inl (cs.1, 48, .inl (lo))), (bx, .inl (cs.1, 48, .inl (ex))), (a, .inr (1, [.int (nI (rl)), .ref al, .ref ac, .ref ah, .ref an, .int (nI (fl))])), (al, .inl (cs.1, 48, .inl (fun j => nI (ln j)))), (ac, .inl (cs.1, 48, .inl (fun j => nI (cn j)))), (ah, .inl (cs.1, 17, .inl (fun j => nI (sn j)))), (an, .inl (cs.1, 17, .inl (fun j => nI (xn j)))), (g, .inr (2, [.ref gr, .int (nI (st)), .int (nI (sz))])), (gr, .inl (cs.1, 400, .inl (fun j => nI (rb j))))] (QI D (nI (if sz < 400 then 1 else 0)) [(b, .inr (3, [.ref a, .ref k, .ref g, .ref bc, .ref bl, .ref bx, .int (nI (wr)), .long (lv9)])), (bc, .inl (cs.2.1, 48, .inr (.inl (fun j => lN (ct j))))), (bl, .inl (cs.1, 48, .inl (lo))), (bx, .inl (cs.1, 48, .inl (ex))), (a, .inr (1, [.int (nI (rl)), .ref al, .ref ac, .ref ah, .ref an, .int (nI (fl))])), (al, .inl (cs.1, 48, .inl (fun j => nI (ln j)))), (ac, .inl (cs.1, 48, .inl (fun j => nI (cn j)))), (ah, .inl (cs.1, 17, .inl (fun j => nI (sn j)))), (an, .inl (cs.1, 17, .inl (fun j => nI (xn j)))), (g, .inr (2, [.ref gr, .int (nI (st)), .int (nI (if sz < 400 then sz + 1 else sz))])), (gr, .inl (cs.1, 400, .inl (fun j => nI ((if sz < 400 then updN (rb) ((st + sz) % 400) (bt) else rb) j))))]) := by
  refine MG.mk (own := RB) (by decide) rfl (Nat.le_of_ble_eq_true rfl) ?_
  intro p e s m below meth c A C hr hlk
  refine g_lv (lv' := [(0, .ref b), (1, .int (nI (bt)))]) [0, 1] rfl ?_
  refine g_iload_n C d_B_feed_0 1 rfl rfl ?_
  refine n_if_eq C 19 d_B_feed_1 (by decide) (by omega) (fun h1 => ?_) (fun h1 => ?_)
  · refine g_aload_n C d_B_feed_19 0 rfl rfl ?_
    refine g_get C (T := FB) (N := 8) 0 2 inB rfl rfl (by decide) tw_107 rfl rfl d_B_feed_20 ?_
    refine g_iload_n C d_B_feed_23 1 rfl rfl ?_
    refine g_callVi C (n := 1) (ws' := [(b, .inr (3, [.ref a, .ref k, .ref g, .ref bc, .ref bl, .ref bx, .int (nI (wr)), .long (lv9)])), (bc, .inl (cs.2.1, 48, .inr (.inl (fun j => lN (ct j))))), (bl, .inl (cs.1, 48, .inl (lo))), (bx, .inl (cs.1, 48, .inl (ex))), (a, .inr (1, [.int (nI (rl)), .ref al, .ref ac, .ref ah, .ref an, .int (nI (fl))])), (al, .inl (cs.1, 48, .inl (fun j => nI (ln j)))), (ac, .inl (cs.1, 48, .inl (fun j => nI (cn j)))), (ah, .inl (cs.1, 17, .inl (fun j => nI (sn j)))), (an, .inl (cs.1, 17, .inl (fun j => nI (xn j)))), (g, .inr (2, [.ref gr, .int (nI (st)), .int (nI (if sz < 400 then sz + 1 else sz))])), (gr, .inl (cs.1, 400, .inl (fun j => nI ((if sz < 400 then updN (rb) ((st + sz) % 400) (bt) else rb) j))))]) (As := [.int (nI (bt))]) (rest := []) (m_G_append l D cs g gr (rb) (st) (sz) (bt) (by omega) (by omega)) tw_395 tw_396 tw_397 tw_3 tw_398 rfl 0 rfl rfl (by decide +kernel) rfl ⟨rfl, rfl, by decide, by decide, by decide⟩ rfl [9, 10] rfl rfl (by decide) (Nat.le_of_ble_eq_true rfl) rfl d_B_feed_24 ?_
    exact g_zret C hr hlk (by split <;> rfl) rfl rfl d_B_feed_27
  · refine g_iload_n C d_B_feed_4 1 rfl rfl ?_
    refine g_iconst C (v := nI 1) d_B_feed_5 rfl ?_
    refine n_icmp_eq C 19 d_B_feed_6 (by decide) (by omega) (by omega) (fun h6 => ?_) (fun h6 => ?_)
    · refine g_aload_n C d_B_feed_19 0 rfl rfl ?_
      refine g_get C (T := FB) (N := 8) 0 2 inB rfl rfl (by decide) tw_107 rfl rfl d_B_feed_20 ?_
      refine g_iload_n C d_B_feed_23 1 rfl rfl ?_
      refine g_callVi C (n := 1) (ws' := [(b, .inr (3, [.ref a, .ref k, .ref g, .ref bc, .ref bl, .ref bx, .int (nI (wr)), .long (lv9)])), (bc, .inl (cs.2.1, 48, .inr (.inl (fun j => lN (ct j))))), (bl, .inl (cs.1, 48, .inl (lo))), (bx, .inl (cs.1, 48, .inl (ex))), (a, .inr (1, [.int (nI (rl)), .ref al, .ref ac, .ref ah, .ref an, .int (nI (fl))])), (al, .inl (cs.1, 48, .inl (fun j => nI (ln j)))), (ac, .inl (cs.1, 48, .inl (fun j => nI (cn j)))), (ah, .inl (cs.1, 17, .inl (fun j => nI (sn j)))), (an, .inl (cs.1, 17, .inl (fun j => nI (xn j)))), (g, .inr (2, [.ref gr, .int (nI (st)), .int (nI (if sz < 400 then sz + 1 else sz))])), (gr, .inl (cs.1, 400, .inl (fun j => nI ((if sz < 400 then updN (rb) ((st + sz) % 400) (bt) else rb) j))))]) (As := [.int (nI (bt))]) (rest := []) (m_G_append l D cs g gr (rb) (st) (sz) (bt) (by omega) (by omega)) tw_395 tw_396 tw_397 tw_3 tw_398 rfl 0 rfl rfl (by decide +kernel) rfl ⟨rfl, rfl, by decide, by decide, by decide⟩ rfl [9, 10] rfl rfl (by decide) (Nat.le_of_ble_eq_true rfl) rfl d_B_feed_24 ?_
      exact g_zret C hr hlk (by split <;> rfl) rfl rfl d_B_feed_27
    · exact absurd hbt (by omega)
set_option maxHeartbeats 4000000 in
set_option maxRecDepth 100000 in
theorem t_B_feed (l : Launch) (hl9 : l.stackTraces = false) (D : va_G) (cs : ClassId × ClassId × ClassId × ClassId) (b k bc bl bx a al ac ah an g gr : Nat) (ct : Nat → Nat) (lo ex : Nat → Int32) (wr : Nat) (lv9 : Int64) (rl : Nat) (ln cn sn xn : Nat → Nat) (fl : Nat) (rb : Nat → Nat) (st sz : Nat) (x : Int32) (hx : ¬ x = 0) (hx1 : ¬ x = nI 1) : MT l y_B_feed k_B_feed { frames := 7, cells := 1, slots := 6, locals := 102 } D cs [.ref b, .int (x)] [(b, .inr (3, [.ref a, .ref k, .ref g, .ref bc, .ref bl, .ref bx, .int (nI (wr)), .long (lv9)])), (bc, .inl (cs.2.1, 48, .inr (.inl (fun j => lN (ct j))))), (bl, .inl (cs.1, 48, .inl (lo))), (bx, .inl (cs.1, 48, .inl (ex))), (a, .inr (1, [.int (nI (rl)), .ref al, .ref ac, .ref ah, .ref an, .int (nI (fl))])), (al, .inl (cs.1, 48, .inl (fun j => nI (ln j)))), (ac, .inl (cs.1, 48, .inl (fun j => nI (cn j)))), (ah, .inl (cs.1, 17, .inl (fun j => nI (sn j)))), (an, .inl (cs.1, 17, .inl (fun j => nI (xn j)))), (g, .inr (2, [.ref gr, .int (nI (st)), .int (nI (sz))])), (gr, .inl (cs.1, 400, .inl (fun j => nI (rb j))))] "java/lang/IllegalArgumentException" := by
  refine MT.mk (own := RB) (by decide) rfl (Nat.le_of_ble_eq_true rfl) ?_
  intro p e s m below meth c A C xf xs hex hlk
  refine g_lv (lv' := [(0, .ref b), (1, .int (x))]) [0, 1] rfl ?_
  refine g_iload_n C d_B_feed_0 1 rfl rfl ?_
  refine g_if_eq C 19 d_B_feed_1 (by decide) (fun h1 => ?_) (fun h1 => ?_)
  · first | exact absurd (by assumption) hx | exact absurd (by assumption) hx1
  · refine g_iload_n C d_B_feed_4 1 rfl rfl ?_
    refine g_iconst C (v := nI 1) d_B_feed_5 rfl ?_
    refine g_icmp_eq C 19 d_B_feed_6 (by decide) (fun h6 => ?_) (fun h6 => ?_)
    · first | exact absurd (by assumption) hx | exact absurd (by assumption) hx1
    · obtain ⟨sa, hsa⟩ := xf.2.2.2.2.2.2.2.2.2.2.2.2.2.2.2.1
      exact g_throw C hl9 (by decide +kernel) tw_285 tw_11 hsa xf.2.1 xa_A xb_A xg_A xf xs hex hlk ⟨by decide, Nat.le_of_ble_eq_true rfl, by decide, by decide⟩ d_B_feed_9 d_B_feed_12 d_B_feed_13 d_B_feed_15 d_B_feed_18
set_option maxHeartbeats 4000000 in
set_option maxRecDepth 100000 in
theorem m_B_last (l : Launch) (D : va_G) (cs : ClassId × ClassId × ClassId × ClassId) (b k bc bl bx a al ac ah an g gr : Nat) (ct : Nat → Nat) (lo ex : Nat → Int32) (wr : Nat) (lv9 : Int64) (rl : Nat) (ln cn sn xn : Nat → Nat) (fl : Nat) (rb : Nat → Nat) (st sz : Nat) (hw : wr = 1) : MG l y_B_last k_B_last { frames := 0, cells := 0, slots := 0, locals := 0 } D cs [.ref b] [(b, .inr (3, [.ref a, .ref k, .ref g, .ref bc, .ref bl, .ref bx, .int (nI (wr)), .long (lv9)])), (bc, .inl (cs.2.1, 48, .inr (.inl (fun j => lN (ct j))))), (bl, .inl (cs.1, 48, .inl (lo))), (bx, .inl (cs.1, 48, .inl (ex))), (a, .inr (1, [.int (nI (rl)), .ref al, .ref ac, .ref ah, .ref an, .int (nI (fl))])), (al, .inl (cs.1, 48, .inl (fun j => nI (ln j)))), (ac, .inl (cs.1, 48, .inl (fun j => nI (cn j)))), (ah, .inl (cs.1, 17, .inl (fun j => nI (sn j)))), (an, .inl (cs.1, 17, .inl (fun j => nI (xn j)))), (g, .inr (2, [.ref gr, .int (nI (st)), .int (nI (sz))])), (gr, .inl (cs.1, 400, .inl (fun j => nI (rb j))))] (QL D (lv9) [(b, .inr (3, [.ref a, .ref k, .ref g, .ref bc, .ref bl, .ref bx, .int (nI (wr)), .long (lv9)])), (bc, .inl (cs.2.1, 48, .inr (.inl (fun j => lN (ct j))))), (bl, .inl (cs.1, 48, .inl (lo))), (bx, .inl (cs.1, 48, .inl (ex))), (a, .inr (1, [.int (nI (rl)), .ref al, .ref ac, .ref ah, .ref an, .int (nI (fl))])), (al, .inl (cs.1, 48, .inl (fun j => nI (ln j)))), (ac, .inl (cs.1, 48, .inl (fun j => nI (cn j)))), (ah, .inl (cs.1, 17, .inl (fun j => nI (sn j)))), (an, .inl (cs.1, 17, .inl (fun j => nI (xn j)))), (g, .inr (2, [.ref gr, .int (nI (st)), .int (nI (sz))])), (gr, .inl (cs.1, 400, .inl (fun j => nI (rb j))))]) := by
  refine MG.mk (own := RB) (by decide) rfl (Nat.le_of_ble_eq_true rfl) ?_
  intro p e s m below meth c A C hr hlk
  refine g_lv (lv' := [(0, .ref b)]) [0] rfl ?_
  refine g_aload_n C d_B_last_0 0 rfl rfl ?_
  refine g_get C (T := FB) (N := 8) 0 6 inB rfl rfl (by decide) tw_111 rfl rfl d_B_last_1 ?_
  refine n_if_ne C 17 d_B_last_4 (by decide) (by omega) (fun _ => ?_) (fun h => absurd h (by omega))
  refine g_aload_n C d_B_last_17 0 rfl rfl ?_
  refine g_get C (T := FB) (N := 8) 0 7 inB rfl rfl (by decide) tw_112 rfl rfl d_B_last_18 ?_
  exact g_lret C hr hlk rfl rfl d_B_last_21
set_option maxHeartbeats 4000000 in
set_option maxRecDepth 100000 in
theorem t_B_last (l : Launch) (hl9 : l.stackTraces = false) (D : va_G) (cs : ClassId × ClassId × ClassId × ClassId) (b k bc bl bx a al ac ah an g gr : Nat) (ct : Nat → Nat) (lo ex : Nat → Int32) (wr : Nat) (lv9 : Int64) (rl : Nat) (ln cn sn xn : Nat → Nat) (fl : Nat) (rb : Nat → Nat) (st sz : Nat) (hw : wr = 0) : MT l y_B_last k_B_last { frames := 6, cells := 1, slots := 6, locals := 82 } D cs [.ref b] [(b, .inr (3, [.ref a, .ref k, .ref g, .ref bc, .ref bl, .ref bx, .int (nI (wr)), .long (lv9)])), (bc, .inl (cs.2.1, 48, .inr (.inl (fun j => lN (ct j))))), (bl, .inl (cs.1, 48, .inl (lo))), (bx, .inl (cs.1, 48, .inl (ex))), (a, .inr (1, [.int (nI (rl)), .ref al, .ref ac, .ref ah, .ref an, .int (nI (fl))])), (al, .inl (cs.1, 48, .inl (fun j => nI (ln j)))), (ac, .inl (cs.1, 48, .inl (fun j => nI (cn j)))), (ah, .inl (cs.1, 17, .inl (fun j => nI (sn j)))), (an, .inl (cs.1, 17, .inl (fun j => nI (xn j)))), (g, .inr (2, [.ref gr, .int (nI (st)), .int (nI (sz))])), (gr, .inl (cs.1, 400, .inl (fun j => nI (rb j))))] "java/lang/IllegalArgumentException" := by
  refine MT.mk (own := RB) (by decide) rfl (Nat.le_of_ble_eq_true rfl) ?_
  intro p e s m below meth c A C xf xs hex hlk
  refine g_lv (lv' := [(0, .ref b)]) [0] rfl ?_
  refine g_aload_n C d_B_last_0 0 rfl rfl ?_
  refine g_get C (T := FB) (N := 8) 0 6 inB rfl rfl (by decide) tw_111 rfl rfl d_B_last_1 ?_
  refine n_if_ne C 17 d_B_last_4 (by decide) (by omega) (fun h => absurd h (by omega)) (fun _ => ?_)
  obtain ⟨sa, hsa⟩ := xf.2.2.2.2.2.2.2.2.2.2.2.2.2.2.2.2
  exact g_throw C hl9 (by decide +kernel) tw_285 tw_11 hsa xf.2.1 xa_A xb_A xg_A xf xs hex hlk ⟨by decide, Nat.le_of_ble_eq_true rfl, by decide, by decide⟩ d_B_last_7 d_B_last_10 d_B_last_11 d_B_last_13 d_B_last_16
set_option maxHeartbeats 4000000 in
set_option maxRecDepth 100000 in
theorem t_B_read (l : Launch) (hl9 : l.stackTraces = false) (D : va_G) (cs : ClassId × ClassId × ClassId × ClassId) (b k bc bl bx a al ac ah an g gr : Nat) (ct : Nat → Nat) (lo ex : Nat → Int32) (wr : Nat) (lv9 : Int64) (rl : Nat) (ln cn sn xn : Nat → Nat) (fl : Nat) (rb : Nat → Nat) (st sz : Nat) (hf : 65536 < fl) (hf2 : fl < 2 ^ 31) : MT l y_B_read k_B_read { frames := 7, cells := 1, slots := 6, locals := 102 } D cs [.ref b] [(b, .inr (3, [.ref a, .ref k, .ref g, .ref bc, .ref bl, .ref bx, .int (nI (wr)), .long (lv9)])), (bc, .inl (cs.2.1, 48, .inr (.inl (fun j => lN (ct j))))), (bl, .inl (cs.1, 48, .inl (lo))), (bx, .inl (cs.1, 48, .inl (ex))), (a, .inr (1, [.int (nI (rl)), .ref al, .ref ac, .ref ah, .ref an, .int (nI (fl))])), (al, .inl (cs.1, 48, .inl (fun j => nI (ln j)))), (ac, .inl (cs.1, 48, .inl (fun j => nI (cn j)))), (ah, .inl (cs.1, 17, .inl (fun j => nI (sn j)))), (an, .inl (cs.1, 17, .inl (fun j => nI (xn j)))), (g, .inr (2, [.ref gr, .int (nI (st)), .int (nI (sz))])), (gr, .inl (cs.1, 400, .inl (fun j => nI (rb j))))] "java/lang/IllegalStateException" := by
  refine MT.mk (own := RB) (by decide) rfl (Nat.le_of_ble_eq_true rfl) ?_
  intro p e s m below meth c A C xf xs hex hlk
  refine g_lv (lv' := [(0, .ref b)]) [0] rfl ?_
  refine g_aload_n C d_B_read_0 0 rfl rfl ?_
  exact g_callVt_out C (n := 0) (As := []) (rest := []) (t_B_needCodes l hl9 D cs b k bc bl bx a al ac ah an g gr (ct) (lo) (ex) (wr) (lv9) (rl) (ln) (cn) (sn) (xn) (fl) (rb) (st) (sz) hf hf2) tw_345 tw_347 ts_12 tw_1 tw_348 rfl 0 rfl rfl xf xs hex hlk (by decide +kernel) rfl ⟨rfl, rfl, by decide, by decide, by decide⟩ rfl [0, 1, 2, 3, 4, 5, 6, 7, 8, 9, 10] rfl (by decide) (Nat.le_of_ble_eq_true rfl) rfl d_B_read_1
set_option maxHeartbeats 4000000 in
set_option maxRecDepth 100000 in
theorem t_B_make (l : Launch) (hl9 : l.stackTraces = false) (D : va_G) (cs : ClassId × ClassId × ClassId × ClassId) (b k bc bl bx a al ac ah an g gr : Nat) (ct : Nat → Nat) (lo ex : Nat → Int32) (wr : Nat) (lv9 : Int64) (rl : Nat) (ln cn sn xn : Nat → Nat) (fl : Nat) (rb : Nat → Nat) (st sz : Nat) (x : Int32) (hx : x < nI 1 ∨ ¬ x ≤ nI 16) : MT l y_B_make k_B_make { frames := 6, cells := 1, slots := 6, locals := 82 } D cs [.ref b, .int (x)] [(b, .inr (3, [.ref a, .ref k, .ref g, .ref bc, .ref bl, .ref bx, .int (nI (wr)), .long (lv9)])), (bc, .inl (cs.2.1, 48, .inr (.inl (fun j => lN (ct j))))), (bl, .inl (cs.1, 48, .inl (lo))), (bx, .inl (cs.1, 48, .inl (ex))), (a, .inr (1, [.int (nI (rl)), .ref al, .ref ac, .ref ah, .ref an, .int (nI (fl))])), (al, .inl (cs.1, 48, .inl (fun j => nI (ln j)))), (ac, .inl (cs.1, 48, .inl (fun j => nI (cn j)))), (ah, .inl (cs.1, 17, .inl (fun j => nI (sn j)))), (an, .inl (cs.1, 17, .inl (fun j => nI (xn j)))), (g, .inr (2, [.ref gr, .int (nI (st)), .int (nI (sz))])), (gr, .inl (cs.1, 400, .inl (fun j => nI (rb j))))] "java/lang/IllegalArgumentException" := by
  refine MT.mk (own := RB) (by decide) rfl (Nat.le_of_ble_eq_true rfl) ?_
  intro p e s m below meth c A C xf xs hex hlk
  refine g_lv (lv' := [(0, .ref b), (1, .int (x))]) [0, 1] rfl ?_
  refine g_iload_n C d_B_make_0 1 rfl rfl ?_
  refine g_iconst C (v := nI 1) d_B_make_1 rfl ?_
  refine g_icmp_lt C 11 d_B_make_2 (by decide) (fun h2 => ?_) (fun h2 => ?_)
  · obtain ⟨sa, hsa⟩ := xf.2.2.2.2.2.2.2.2.2.2.1
    exact g_throw C hl9 (by decide +kernel) tw_285 tw_11 hsa xf.2.1 xa_A xb_A xg_A xf xs hex hlk ⟨by decide, Nat.le_of_ble_eq_true rfl, by decide, by decide⟩ d_B_make_11 d_B_make_14 d_B_make_15 d_B_make_17 d_B_make_20
  · refine g_iload_n C d_B_make_5 1 rfl rfl ?_
    refine g_bipush C (v := nI 16) d_B_make_6 rfl ?_
    refine g_icmp_le C 21 d_B_make_8 (by decide) (fun h8 => ?_) (fun h8 => ?_)
    · exact hx.elim (fun h => absurd h (by assumption)) (fun h => absurd (by assumption) h)
    · obtain ⟨sa, hsa⟩ := xf.2.2.2.2.2.2.2.2.2.2.1
      exact g_throw C hl9 (by decide +kernel) tw_285 tw_11 hsa xf.2.1 xa_A xb_A xg_A xf xs hex hlk ⟨by decide, Nat.le_of_ble_eq_true rfl, by decide, by decide⟩ d_B_make_11 d_B_make_14 d_B_make_15 d_B_make_17 d_B_make_20
