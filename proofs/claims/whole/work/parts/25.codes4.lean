set_option maxHeartbeats 4000000 in
set_option maxRecDepth 100000 in
theorem m_B_needSymbol (l : Launch) (D : va_G) (cs : ClassId × ClassId × ClassId × ClassId) (y : Nat) (hy : y < 48) : MG l y_B_needSymbol k_B_needSymbol { frames := 0, cells := 0, slots := 0, locals := 0 } D cs [.int (nI (y))] [] (QV D []) := by
  refine MG.mk (own := RB) (by decide) rfl (Nat.le_of_ble_eq_true rfl) ?_
  intro p e s m below meth c A C hr hlk
  refine g_lv (lv' := [(0, .int (nI (y)))]) [0] rfl ?_
  refine g_iload_n C d_B_needSymbol_0 0 rfl rfl ?_
  refine n_if_lt C 10 d_B_needSymbol_1 (by decide) (by omega) ?_
  refine g_iload_n C d_B_needSymbol_4 0 rfl rfl ?_
  refine g_bipush C (v := nI 48) d_B_needSymbol_5 rfl ?_
  refine n_icmp_lt C 20 d_B_needSymbol_7 (by decide) (by omega) (by omega) (fun h7 => ?_) (fun h7 => ?_)
  · exact g_vret C hr hlk rfl d_B_needSymbol_20
  · exact absurd hy (by omega)
set_option maxHeartbeats 4000000 in
set_option maxRecDepth 100000 in
theorem t_B_needSymbol (l : Launch) (hl9 : l.stackTraces = false) (D : va_G) (cs : ClassId × ClassId × ClassId × ClassId) (x : Int32) (hx : x < 0 ∨ ¬ x < nI 48) : MT l y_B_needSymbol k_B_needSymbol { frames := 6, cells := 1, slots := 6, locals := 82 } D cs [.int (x)] [] "java/lang/IndexOutOfBoundsException" := by
  refine MT.mk (own := RB) (by decide) rfl (Nat.le_of_ble_eq_true rfl) ?_
  intro p e s m below meth c A C xf xs hex hlk
  refine g_lv (lv' := [(0, .int (x))]) [0] rfl ?_
  refine g_iload_n C d_B_needSymbol_0 0 rfl rfl ?_
  refine g_if_lt C 10 d_B_needSymbol_1 (by decide) (fun h1 => ?_) (fun h1 => ?_)
  · obtain ⟨sa, hsa⟩ := xf.2.2.2.2.2.2.2.2.1
    exact g_throw C hl9 (by decide +kernel) tw_216 tw_10 hsa xf.1 xa_O xb_O xg_O xf xs hex hlk ⟨by decide, Nat.le_of_ble_eq_true rfl, by decide, by decide⟩ d_B_needSymbol_10 d_B_needSymbol_13 d_B_needSymbol_14 d_B_needSymbol_16 d_B_needSymbol_19
  · refine g_iload_n C d_B_needSymbol_4 0 rfl rfl ?_
    refine g_bipush C (v := nI 48) d_B_needSymbol_5 rfl ?_
    refine g_icmp_lt C 20 d_B_needSymbol_7 (by decide) (fun h7 => ?_) (fun h7 => ?_)
    · exact hx.elim (fun h => absurd h (by assumption)) (fun h => absurd (by assumption) h)
    · obtain ⟨sa, hsa⟩ := xf.2.2.2.2.2.2.2.2.1
      exact g_throw C hl9 (by decide +kernel) tw_216 tw_10 hsa xf.1 xa_O xb_O xg_O xf xs hex hlk ⟨by decide, Nat.le_of_ble_eq_true rfl, by decide, by decide⟩ d_B_needSymbol_10 d_B_needSymbol_13 d_B_needSymbol_14 d_B_needSymbol_16 d_B_needSymbol_19
set_option maxHeartbeats 4000000 in
set_option maxRecDepth 100000 in
theorem m_B_needCodes (l : Launch) (D : va_G) (cs : ClassId × ClassId × ClassId × ClassId) (b k bc bl bx a al ac ah an g gr : Nat) (ct : Nat → Nat) (lo ex : Nat → Int32) (wr : Nat) (lv9 : Int64) (rl : Nat) (ln cn sn xn : Nat → Nat) (fl : Nat) (rb : Nat → Nat) (st sz : Nat) (hf : fl ≤ 65536) : MG l y_B_needCodes k_B_needCodes { frames := 1, cells := 0, slots := 0, locals := 20 } D cs [.ref b] [(b, .inr (3, [.ref a, .ref k, .ref g, .ref bc, .ref bl, .ref bx, .int (nI (wr)), .long (lv9)])), (bc, .inl (cs.2.1, 48, .inr (.inl (fun j => lN (ct j))))), (bl, .inl (cs.1, 48, .inl (lo))), (bx, .inl (cs.1, 48, .inl (ex))), (a, .inr (1, [.int (nI (rl)), .ref al, .ref ac, .ref ah, .ref an, .int (nI (fl))])), (al, .inl (cs.1, 48, .inl (fun j => nI (ln j)))), (ac, .inl (cs.1, 48, .inl (fun j => nI (cn j)))), (ah, .inl (cs.1, 17, .inl (fun j => nI (sn j)))), (an, .inl (cs.1, 17, .inl (fun j => nI (xn j)))), (g, .inr (2, [.ref gr, .int (nI (st)), .int (nI (sz))])), (gr, .inl (cs.1, 400, .inl (fun j => nI (rb j))))] (QV D [(b, .inr (3, [.ref a, .ref k, .ref g, .ref bc, .ref bl, .ref bx, .int (nI (wr)), .long (lv9)])), (bc, .inl (cs.2.1, 48, .inr (.inl (fun j => lN (ct j))))), (bl, .inl (cs.1, 48, .inl (lo))), (bx, .inl (cs.1, 48, .inl (ex))), (a, .inr (1, [.int (nI (rl)), .ref al, .ref ac, .ref ah, .ref an, .int (nI (fl))])), (al, .inl (cs.1, 48, .inl (fun j => nI (ln j)))), (ac, .inl (cs.1, 48, .inl (fun j => nI (cn j)))), (ah, .inl (cs.1, 17, .inl (fun j => nI (sn j)))), (an, .inl (cs.1, 17, .inl (fun j => nI (xn j)))), (g, .inr (2, [.ref gr, .int (nI (st)), .int (nI (sz))])), (gr, .inl (cs.1, 400, .inl (fun j => nI (rb j))))]) := by
  refine MG.mk (own := RB) (by decide) rfl (Nat.le_of_ble_eq_true rfl) ?_
  intro p e s m below meth c A C hr hlk
  refine g_lv (lv' := [(0, .ref b)]) [0] rfl ?_
  refine g_aload_n C d_B_needCodes_0 0 rfl rfl ?_
  refine g_get C (T := FB) (N := 8) 0 0 inB rfl rfl (by decide) tw_105 rfl rfl d_B_needCodes_1 ?_
  refine g_callVi C (n := 0) (ws' := [(b, .inr (3, [.ref a, .ref k, .ref g, .ref bc, .ref bl, .ref bx, .int (nI (wr)), .long (lv9)])), (bc, .inl (cs.2.1, 48, .inr (.inl (fun j => lN (ct j))))), (bl, .inl (cs.1, 48, .inl (lo))), (bx, .inl (cs.1, 48, .inl (ex))), (a, .inr (1, [.int (nI (rl)), .ref al, .ref ac, .ref ah, .ref an, .int (nI (fl))])), (al, .inl (cs.1, 48, .inl (fun j => nI (ln j)))), (ac, .inl (cs.1, 48, .inl (fun j => nI (cn j)))), (ah, .inl (cs.1, 17, .inl (fun j => nI (sn j)))), (an, .inl (cs.1, 17, .inl (fun j => nI (xn j)))), (g, .inr (2, [.ref gr, .int (nI (st)), .int (nI (sz))])), (gr, .inl (cs.1, 400, .inl (fun j => nI (rb j))))]) (As := []) (rest := []) (m_T_state l D cs a al ac ah an (rl) (ln) (cn) (sn) (xn) (fl) (by omega)) tw_134 tw_135 tw_136 tw_4 tw_137 rfl 0 rfl rfl (by decide +kernel) rfl ⟨rfl, rfl, by decide, by decide, by decide⟩ rfl [4, 5, 6, 7, 8] rfl rfl (by decide) (Nat.le_of_ble_eq_true rfl) rfl d_B_needCodes_4 ?_
  refine g_iconst C (v := nI 2) d_B_needCodes_7 rfl ?_
  refine n_icmp_ne C 21 d_B_needCodes_8 (by decide) (by unfold stt; (repeat' split) <;> omega) (by omega) (fun _ => ?_) (fun h => absurd h (by unfold stt; (repeat' split) <;> omega))
  exact g_vret C hr hlk rfl d_B_needCodes_21
set_option maxHeartbeats 4000000 in
set_option maxRecDepth 100000 in
theorem t_B_needCodes (l : Launch) (hl9 : l.stackTraces = false) (D : va_G) (cs : ClassId × ClassId × ClassId × ClassId) (b k bc bl bx a al ac ah an g gr : Nat) (ct : Nat → Nat) (lo ex : Nat → Int32) (wr : Nat) (lv9 : Int64) (rl : Nat) (ln cn sn xn : Nat → Nat) (fl : Nat) (rb : Nat → Nat) (st sz : Nat) (hf : 65536 < fl) (hf2 : fl < 2 ^ 31) : MT l y_B_needCodes k_B_needCodes { frames := 6, cells := 1, slots := 6, locals := 82 } D cs [.ref b] [(b, .inr (3, [.ref a, .ref k, .ref g, .ref bc, .ref bl, .ref bx, .int (nI (wr)), .long (lv9)])), (bc, .inl (cs.2.1, 48, .inr (.inl (fun j => lN (ct j))))), (bl, .inl (cs.1, 48, .inl (lo))), (bx, .inl (cs.1, 48, .inl (ex))), (a, .inr (1, [.int (nI (rl)), .ref al, .ref ac, .ref ah, .ref an, .int (nI (fl))])), (al, .inl (cs.1, 48, .inl (fun j => nI (ln j)))), (ac, .inl (cs.1, 48, .inl (fun j => nI (cn j)))), (ah, .inl (cs.1, 17, .inl (fun j => nI (sn j)))), (an, .inl (cs.1, 17, .inl (fun j => nI (xn j)))), (g, .inr (2, [.ref gr, .int (nI (st)), .int (nI (sz))])), (gr, .inl (cs.1, 400, .inl (fun j => nI (rb j))))] "java/lang/IllegalStateException" := by
  refine MT.mk (own := RB) (by decide) rfl (Nat.le_of_ble_eq_true rfl) ?_
  intro p e s m below meth c A C xf xs hex hlk
  refine g_lv (lv' := [(0, .ref b)]) [0] rfl ?_
  refine g_aload_n C d_B_needCodes_0 0 rfl rfl ?_
  refine g_get C (T := FB) (N := 8) 0 0 inB rfl rfl (by decide) tw_105 rfl rfl d_B_needCodes_1 ?_
  refine g_callVi C (n := 0) (ws' := [(b, .inr (3, [.ref a, .ref k, .ref g, .ref bc, .ref bl, .ref bx, .int (nI (wr)), .long (lv9)])), (bc, .inl (cs.2.1, 48, .inr (.inl (fun j => lN (ct j))))), (bl, .inl (cs.1, 48, .inl (lo))), (bx, .inl (cs.1, 48, .inl (ex))), (a, .inr (1, [.int (nI (rl)), .ref al, .ref ac, .ref ah, .ref an, .int (nI (fl))])), (al, .inl (cs.1, 48, .inl (fun j => nI (ln j)))), (ac, .inl (cs.1, 48, .inl (fun j => nI (cn j)))), (ah, .inl (cs.1, 17, .inl (fun j => nI (sn j)))), (an, .inl (cs.1, 17, .inl (fun j => nI (xn j)))), (g, .inr (2, [.ref gr, .int (nI (st)), .int (nI (sz))])), (gr, .inl (cs.1, 400, .inl (fun j => nI (rb j))))]) (As := []) (rest := []) (m_T_state l D cs a al ac ah an (rl) (ln) (cn) (sn) (xn) (fl) hf2) tw_134 tw_135 tw_136 tw_4 tw_137 rfl 0 rfl rfl (by decide +kernel) rfl ⟨rfl, rfl, by decide, by decide, by decide⟩ rfl [4, 5, 6, 7, 8] rfl rfl (by decide) (Nat.le_of_ble_eq_true rfl) rfl d_B_needCodes_4 ?_
  refine g_iconst C (v := nI 2) d_B_needCodes_7 rfl ?_
  refine n_icmp_ne C 21 d_B_needCodes_8 (by decide) (by unfold stt; (repeat' split) <;> omega) (by omega) (fun h => absurd h (by unfold stt; (repeat' split) <;> omega)) (fun _ => ?_)
  obtain ⟨sa, hsa⟩ := xf.2.2.2.2.2.2.2.2.2.2.2.1
  exact g_throw C hl9 (by decide +kernel) tw_349 tw_12 hsa xf.2.2.1 xa_S xb_S xg_S xf xs hex hlk ⟨by decide, Nat.le_of_ble_eq_true rfl, by decide, by decide⟩ d_B_needCodes_11 d_B_needCodes_14 d_B_needCodes_15 d_B_needCodes_17 d_B_needCodes_20
