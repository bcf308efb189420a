set_option maxHeartbeats 4000000 in
set_option maxRecDepth 100000 in
theorem l_B_clr {p : Program} {l : Launch} {e : Env} {s : State} {m : MethodId} {args : Array Value} {below : List Frame} {meth : Method} {c : Code} {Q : State → Prop} {A : Nat → Prop} {D : va_G} {cs : ClassId × ClassId × ClassId × ClassId} (C : CX p s m args c c_B_clear 2 RB D cs A) (b k bc bl bx a al ac ah an g gr : Nat) (ct : Nat → Nat) (lo ex : Nat → Int32) (wr : Nat) (lv9 : Int64) (rl : Nat) (ln cn sn xn : Nat → Nat) (fl : Nat) (rb : Nat → Nat) (st sz : Nat) 
    (K : GO p l e { frames := 3, cells := 0, slots := 0, locals := 64 } s m args below meth c 0 0 Q A D 2 31 [(0, .ref b)] [] [(b, .inr (3, [.ref a, .ref k, .ref g, .ref bc, .ref bl, .ref bx, .int (nI (wr)), .long (lv9)])), (bc, .inl (cs.2.1, 48, .inr (.inl (fun j => lN ((fun _ => 0) j))))), (bl, .inl (cs.1, 48, .inl (lo))), (bx, .inl (cs.1, 48, .inl (ex))), (a, .inr (1, [.int (nI (rl)), .ref al, .ref ac, .ref ah, .ref an, .int (nI (fl))])), (al, .inl (cs.1, 48, .inl (fun j => nI ((fun _ => 0) j)))), (ac, .inl (cs.1, 48, .inl (fun j => nI (cn j)))), (ah, .inl (cs.1, 17, .inl (fun j => nI (sn j)))), (an, .inl (cs.1, 17, .inl (fun j => nI (xn j)))), (g, .inr (2, [.ref gr, .int (nI (st)), .int (nI (sz))])), (gr, .inl (cs.1, 400, .inl (fun j => nI (rb j))))])
    : ∀ (n : Nat) (i : Nat) (ct2 ln2 : Nat → Nat), 48 - i = n → (i ≤ 48) → (∀ j, j < i → ct2 j = 0 ∧ ln2 j = 0) → GO p l e { frames := 3, cells := 0, slots := 0, locals := 64 } s m args below meth c 0 0 Q A D 2 2 [(0, .ref b), (1, .int (nI (i)))] [] [(b, .inr (3, [.ref a, .ref k, .ref g, .ref bc, .ref bl, .ref bx, .int (nI (wr)), .long (lv9)])), (bc, .inl (cs.2.1, 48, .inr (.inl (fun j => lN (ct2 j))))), (bl, .inl (cs.1, 48, .inl (lo))), (bx, .inl (cs.1, 48, .inl (ex))), (a, .inr (1, [.int (nI (rl)), .ref al, .ref ac, .ref ah, .ref an, .int (nI (fl))])), (al, .inl (cs.1, 48, .inl (fun j => nI (ln2 j)))), (ac, .inl (cs.1, 48, .inl (fun j => nI (cn j)))), (ah, .inl (cs.1, 17, .inl (fun j => nI (sn j)))), (an, .inl (cs.1, 17, .inl (fun j => nI (xn j)))), (g, .inr (2, [.ref gr, .int (nI (st)), .int (nI (sz))])), (gr, .inl (cs.1, 400, .inl (fun j => nI (rb j))))] := by
  intro n
  induction n using Nat.strongRecOn with
  | _ n ih =>
  intro i  ct2 ln2  hn hi hq
  refine g_iload_n C d_B_clear_2 1 rfl rfl ?_
  refine g_bipush C (v := nI 48) d_B_clear_3 rfl ?_
  refine n_icmp_ge C 31 d_B_clear_5 (by decide) (by omega) (by omega) (fun h5 => ?_) (fun h5 => ?_)
  · refine g_lv (lv' := [(0, .ref b)]) [0] rfl ?_
    refine n_cl (f2 := fun _ => 0) (ws' := [(b, .inr (3, [.ref a, .ref k, .ref g, .ref bc, .ref bl, .ref bx, .int (nI (wr)), .long (lv9)])), (bc, .inl (cs.2.1, 48, .inr (.inl (fun j => lN ((fun _ => 0) j))))), (bl, .inl (cs.1, 48, .inl (lo))), (bx, .inl (cs.1, 48, .inl (ex))), (a, .inr (1, [.int (nI (rl)), .ref al, .ref ac, .ref ah, .ref an, .int (nI (fl))])), (al, .inl (cs.1, 48, .inl (fun j => nI (ln2 j)))), (ac, .inl (cs.1, 48, .inl (fun j => nI (cn j)))), (ah, .inl (cs.1, 17, .inl (fun j => nI (sn j)))), (an, .inl (cs.1, 17, .inl (fun j => nI (xn j)))), (g, .inr (2, [.ref gr, .int (nI (st)), .int (nI (sz))])), (gr, .inl (cs.1, 400, .inl (fun j => nI (rb j))))]) 1 rfl (fun j hj => (hq j (by omega)).1) rfl ?_
    refine n_ci (f2 := fun _ => 0) (ws' := [(b, .inr (3, [.ref a, .ref k, .ref g, .ref bc, .ref bl, .ref bx, .int (nI (wr)), .long (lv9)])), (bc, .inl (cs.2.1, 48, .inr (.inl (fun j => lN ((fun _ => 0) j))))), (bl, .inl (cs.1, 48, .inl (lo))), (bx, .inl (cs.1, 48, .inl (ex))), (a, .inr (1, [.int (nI (rl)), .ref al, .ref ac, .ref ah, .ref an, .int (nI (fl))])), (al, .inl (cs.1, 48, .inl (fun j => nI ((fun _ => 0) j)))), (ac, .inl (cs.1, 48, .inl (fun j => nI (cn j)))), (ah, .inl (cs.1, 17, .inl (fun j => nI (sn j)))), (an, .inl (cs.1, 17, .inl (fun j => nI (xn j)))), (g, .inr (2, [.ref gr, .int (nI (st)), .int (nI (sz))])), (gr, .inl (cs.1, 400, .inl (fun j => nI (rb j))))]) 5 rfl (fun j hj => (hq j (by omega)).2) rfl ?_
    exact K
  · refine g_aload_n C d_B_clear_8 0 rfl rfl ?_
    refine g_get C (T := FB) (N := 8) 0 3 inB rfl rfl (by decide) tw_108 rfl rfl d_B_clear_9 ?_
    refine g_iload_n C d_B_clear_12 1 rfl rfl ?_
    refine g_lconst C (v := lN 0) d_B_clear_13 rfl ?_
    refine n_last C (ws' := [(b, .inr (3, [.ref a, .ref k, .ref g, .ref bc, .ref bl, .ref bx, .int (nI (wr)), .long (lv9)])), (bc, .inl (cs.2.1, 48, .inr (.inl (fun j => lN ((updN (ct2) (i) (0)) j))))), (bl, .inl (cs.1, 48, .inl (lo))), (bx, .inl (cs.1, 48, .inl (ex))), (a, .inr (1, [.int (nI (rl)), .ref al, .ref ac, .ref ah, .ref an, .int (nI (fl))])), (al, .inl (cs.1, 48, .inl (fun j => nI (ln2 j)))), (ac, .inl (cs.1, 48, .inl (fun j => nI (cn j)))), (ah, .inl (cs.1, 17, .inl (fun j => nI (sn j)))), (an, .inl (cs.1, 17, .inl (fun j => nI (xn j)))), (g, .inr (2, [.ref gr, .int (nI (st)), .int (nI (sz))])), (gr, .inl (cs.1, 400, .inl (fun j => nI (rb j))))]) 1 rfl (by omega) (by decide) rfl d_B_clear_14 ?_
    refine g_aload_n C d_B_clear_15 0 rfl rfl ?_
    refine g_get C (T := FB) (N := 8) 0 0 inB rfl rfl (by decide) tw_105 rfl rfl d_B_clear_16 ?_
    refine g_getN C (T := FT) (N := 6) (k := 1) C.2.2.2.2.1 4 inT rfl rfl (by decide) rfl rfl d_B_clear_19 ?_
    refine g_iload_n C d_B_clear_22 1 rfl rfl ?_
    refine g_iconst C (v := nI 0) d_B_clear_23 rfl ?_
    refine n_iast C (ws' := [(b, .inr (3, [.ref a, .ref k, .ref g, .ref bc, .ref bl, .ref bx, .int (nI (wr)), .long (lv9)])), (bc, .inl (cs.2.1, 48, .inr (.inl (fun j => lN ((updN (ct2) (i) (0)) j))))), (bl, .inl (cs.1, 48, .inl (lo))), (bx, .inl (cs.1, 48, .inl (ex))), (a, .inr (1, [.int (nI (rl)), .ref al, .ref ac, .ref ah, .ref an, .int (nI (fl))])), (al, .inl (cs.1, 48, .inl (fun j => nI ((updN (ln2) (i) (0)) j)))), (ac, .inl (cs.1, 48, .inl (fun j => nI (cn j)))), (ah, .inl (cs.1, 17, .inl (fun j => nI (sn j)))), (an, .inl (cs.1, 17, .inl (fun j => nI (xn j)))), (g, .inr (2, [.ref gr, .int (nI (st)), .int (nI (sz))])), (gr, .inl (cs.1, 400, .inl (fun j => nI (rb j))))]) 5 rfl (by omega) (by decide) rfl d_B_clear_24 ?_
    refine g_iinc C (lv' := [(1, .int (nI (i + 1))), (0, .ref b)]) (k := 1) d_B_clear_25 rfl (nI_1 _) (by decide) rfl ?_
    refine g_goto C 2 d_B_clear_28 (by decide) ?_
    refine g_lv (lv' := [(0, .ref b), (1, .int (nI (i + 1)))]) [1, 0] rfl ?_
    exact ih (48 - (i + 1)) (by omega) (i + 1) _ _ rfl (by omega) (fun j hj => by
      unfold updN
      by_cases e : j = i
      · subst e; simp
      · simp only [e, if_false]; exact hq j (by omega))
set_option maxHeartbeats 4000000 in
set_option maxRecDepth 100000 in
theorem m_B_clear (l : Launch) (D : va_G) (cs : ClassId × ClassId × ClassId × ClassId) (b k bc bl bx a al ac ah an g gr : Nat) (ct : Nat → Nat) (lo ex : Nat → Int32) (wr : Nat) (lv9 : Int64) (rl : Nat) (ln cn sn xn : Nat → Nat) (fl : Nat) (rb : Nat → Nat) (st sz : Nat) (hrl : rl < 3) (hs : st < 400) (hz : sz ≤ 400) : MG l y_B_clear k_B_clear { frames := 3, cells := 0, slots := 0, locals := 64 } D cs [.ref b] [(b, .inr (3, [.ref a, .ref k, .ref g, .ref bc, .ref bl, .ref bx, .int (nI (wr)), .long (lv9)])), (bc, .inl (cs.2.1, 48, .inr (.inl (fun j => lN (ct j))))), (bl, .inl (cs.1, 48, .inl (lo))), (bx, .inl (cs.1, 48, .inl (ex))), (a, .inr (1, [.int (nI (rl)), .ref al, .ref ac, .ref ah, .ref an, .int (nI (fl))])), (al, .inl (cs.1, 48, .inl (fun j => nI (ln j)))), (ac, .inl (cs.1, 48, .inl (fun j => nI (cn j)))), (ah, .inl (cs.1, 17, .inl (fun j => nI (sn j)))), (an, .inl (cs.1, 17, .inl (fun j => nI (xn j)))), (g, .inr (2, [.ref gr, .int (nI (st)), .int (nI (sz))])), (gr, .inl (cs.1, 400, .inl (fun j => nI (rb j))))] (QV D [(b, .inr (3, [.ref a, .ref k, .ref g, .ref bc, .ref bl, .ref bx, .int (nI (0)), .long (lv9)])), (bc, .inl (cs.2.1, 48, .inr (.inl (fun j => lN ((fun _ => 0) j))))), (bl, .inl (cs.1, 48, .inl (fun j => nI j))), (bx, .inl (cs.1, 48, .inl (fun _ => nI 0))), (a, .inr (1, [.int (nI (rl)), .ref al, .ref ac, .ref ah, .ref an, .int (nI (fll ((fun _ => 0))))])), (al, .inl (cs.1, 48, .inl (fun j => nI ((fun _ => 0) j)))), (ac, .inl (cs.1, 48, .inl (fun j => nI ((cN (rl) ((fun _ => 0)) (cn)) j)))), (ah, .inl (cs.1, 17, .inl (fun j => nI ((shr ((fun _ => 0)) 48) j)))), (an, .inl (cs.1, 17, .inl (fun j => nI ((xN (rl) ((fun _ => 0)) (xn)) j)))), (g, .inr (2, [.ref gr, .int (nI (((st) + (sz)) % 400)), .int (nI ((sz) - (sz)))])), (gr, .inl (cs.1, 400, .inl (fun j => nI (rb j))))]) := by
  refine MG.mk (own := RB) (by decide) rfl (Nat.le_of_ble_eq_true rfl) ?_
  intro p e s m below meth c A C hr hlk
  refine g_lv (lv' := [(0, .ref b)]) [0] rfl ?_
  refine g_iconst C (v := nI 0) d_B_clear_0 rfl ?_
  refine g_istore_n C (lv' := [(1, .int (nI (0))), (0, .ref b)]) d_B_clear_1 rfl (by decide) rfl ?_
  refine g_lv (lv' := [(0, .ref b), (1, .int (nI (0)))]) [1, 0] rfl ?_
  refine l_B_clr C b k bc bl bx a al ac ah an g gr ct lo ex wr lv9 rl ln cn sn xn fl rb st sz ?_ _ 0 ct ln rfl (by omega) (fun j hj => absurd hj (by omega))
  refine g_aload_n C d_B_clear_31 0 rfl rfl ?_
  refine g_get C (T := FB) (N := 8) 0 0 inB rfl rfl (by decide) tw_105 rfl rfl d_B_clear_32 ?_
  refine g_callVv C (n := 0) (ws' := [(b, .inr (3, [.ref a, .ref k, .ref g, .ref bc, .ref bl, .ref bx, .int (nI (wr)), .long (lv9)])), (bc, .inl (cs.2.1, 48, .inr (.inl (fun j => lN ((fun _ => 0) j))))), (bl, .inl (cs.1, 48, .inl (lo))), (bx, .inl (cs.1, 48, .inl (ex))), (a, .inr (1, [.int (nI (rl)), .ref al, .ref ac, .ref ah, .ref an, .int (nI (fll ((fun _ => 0))))])), (al, .inl (cs.1, 48, .inl (fun j => nI ((fun _ => 0) j)))), (ac, .inl (cs.1, 48, .inl (fun j => nI ((cN (rl) ((fun _ => 0)) (cn)) j)))), (ah, .inl (cs.1, 17, .inl (fun j => nI ((shr ((fun _ => 0)) 48) j)))), (an, .inl (cs.1, 17, .inl (fun j => nI ((xN (rl) ((fun _ => 0)) (xn)) j)))), (g, .inr (2, [.ref gr, .int (nI (st)), .int (nI (sz))])), (gr, .inl (cs.1, 400, .inl (fun j => nI (rb j))))]) (As := []) (rest := []) (m_T_renew l D cs a al ac ah an (rl) ((fun _ => 0)) (cn) (sn) (xn) (fl) (fun j hj => Nat.zero_le _) hrl) tw_173 tw_174 tw_175 tw_4 tw_176 rfl 0 rfl rfl (by decide +kernel) rfl ⟨rfl, rfl, by decide, by decide, by decide⟩ rfl [4, 5, 6, 7, 8] rfl rfl (by decide) (Nat.le_of_ble_eq_true rfl) rfl d_B_clear_35 ?_
  refine g_aload_n C d_B_clear_38 0 rfl rfl ?_
  refine g_callVv C (n := 0) (ws' := [(b, .inr (3, [.ref a, .ref k, .ref g, .ref bc, .ref bl, .ref bx, .int (nI (wr)), .long (lv9)])), (bc, .inl (cs.2.1, 48, .inr (.inl (fun j => lN ((fun _ => 0) j))))), (bl, .inl (cs.1, 48, .inl (fun j => nI j))), (bx, .inl (cs.1, 48, .inl (fun _ => nI 0))), (a, .inr (1, [.int (nI (rl)), .ref al, .ref ac, .ref ah, .ref an, .int (nI (fll ((fun _ => 0))))])), (al, .inl (cs.1, 48, .inl (fun j => nI ((fun _ => 0) j)))), (ac, .inl (cs.1, 48, .inl (fun j => nI ((cN (rl) ((fun _ => 0)) (cn)) j)))), (ah, .inl (cs.1, 17, .inl (fun j => nI ((shr ((fun _ => 0)) 48) j)))), (an, .inl (cs.1, 17, .inl (fun j => nI ((xN (rl) ((fun _ => 0)) (xn)) j)))), (g, .inr (2, [.ref gr, .int (nI (st)), .int (nI (sz))])), (gr, .inl (cs.1, 400, .inl (fun j => nI (rb j))))]) (As := []) (rest := []) (m_B_dropAllRanges l D cs b k bc bl bx a al ac ah an g gr ((fun _ => 0)) (lo) (ex) (wr) (lv9) (rl) ((fun _ => 0)) ((cN (rl) ((fun _ => 0)) (cn))) ((shr ((fun _ => 0)) 48)) ((xN (rl) ((fun _ => 0)) (xn))) (fll ((fun _ => 0))) (rb) (st) (sz) ) tw_97 tw_99 ts_0 tw_1 tw_100 rfl 0 rfl rfl (by decide +kernel) rfl ⟨rfl, rfl, by decide, by decide, by decide⟩ rfl [0, 1, 2, 3, 4, 5, 6, 7, 8, 9, 10] rfl rfl (by decide) (Nat.le_of_ble_eq_true rfl) rfl d_B_clear_39 ?_
  refine g_aload_n C d_B_clear_42 0 rfl rfl ?_
  refine g_get C (T := FB) (N := 8) 0 2 inB rfl rfl (by decide) tw_107 rfl rfl d_B_clear_43 ?_
  refine g_aload_n C d_B_clear_46 0 rfl rfl ?_
  refine g_get C (T := FB) (N := 8) 0 2 inB rfl rfl (by decide) tw_107 rfl rfl d_B_clear_47 ?_
  refine g_getN C (T := FG) (N := 3) (k := 2) C.2.2.2.1 9 inG rfl rfl (by decide) rfl rfl d_B_clear_50 ?_
  refine g_callVv C (n := 1) (ws' := [(b, .inr (3, [.ref a, .ref k, .ref g, .ref bc, .ref bl, .ref bx, .int (nI (wr)), .long (lv9)])), (bc, .inl (cs.2.1, 48, .inr (.inl (fun j => lN ((fun _ => 0) j))))), (bl, .inl (cs.1, 48, .inl (fun j => nI j))), (bx, .inl (cs.1, 48, .inl (fun _ => nI 0))), (a, .inr (1, [.int (nI (rl)), .ref al, .ref ac, .ref ah, .ref an, .int (nI (fll ((fun _ => 0))))])), (al, .inl (cs.1, 48, .inl (fun j => nI ((fun _ => 0) j)))), (ac, .inl (cs.1, 48, .inl (fun j => nI ((cN (rl) ((fun _ => 0)) (cn)) j)))), (ah, .inl (cs.1, 17, .inl (fun j => nI ((shr ((fun _ => 0)) 48) j)))), (an, .inl (cs.1, 17, .inl (fun j => nI ((xN (rl) ((fun _ => 0)) (xn)) j)))), (g, .inr (2, [.ref gr, .int (nI (((st) + (sz)) % 400)), .int (nI ((sz) - (sz)))])), (gr, .inl (cs.1, 400, .inl (fun j => nI (rb j))))]) (As := [.int (nI (sz))]) (rest := []) (m_G_drop l D cs g gr (rb) (st) (sz) (sz) hs hz (Nat.le_refl _)) tw_197 tw_198 tw_199 tw_3 tw_200 rfl 0 rfl rfl (by decide +kernel) rfl ⟨rfl, rfl, by decide, by decide, by decide⟩ rfl [9, 10] rfl rfl (by decide) (Nat.le_of_ble_eq_true rfl) rfl d_B_clear_53 ?_
  refine g_aload_n C d_B_clear_56 0 rfl rfl ?_
  refine g_iconst C (v := nI 0) d_B_clear_57 rfl ?_
  refine g_put C (T := FB) (N := 8) (ws' := [(b, .inr (3, [.ref a, .ref k, .ref g, .ref bc, .ref bl, .ref bx, .int (nI (0)), .long (lv9)])), (bc, .inl (cs.2.1, 48, .inr (.inl (fun j => lN ((fun _ => 0) j))))), (bl, .inl (cs.1, 48, .inl (fun j => nI j))), (bx, .inl (cs.1, 48, .inl (fun _ => nI 0))), (a, .inr (1, [.int (nI (rl)), .ref al, .ref ac, .ref ah, .ref an, .int (nI (fll ((fun _ => 0))))])), (al, .inl (cs.1, 48, .inl (fun j => nI ((fun _ => 0) j)))), (ac, .inl (cs.1, 48, .inl (fun j => nI ((cN (rl) ((fun _ => 0)) (cn)) j)))), (ah, .inl (cs.1, 17, .inl (fun j => nI ((shr ((fun _ => 0)) 48) j)))), (an, .inl (cs.1, 17, .inl (fun j => nI ((xN (rl) ((fun _ => 0)) (xn)) j)))), (g, .inr (2, [.ref gr, .int (nI (((st) + (sz)) % 400)), .int (nI ((sz) - (sz)))])), (gr, .inl (cs.1, 400, .inl (fun j => nI (rb j))))]) 0 6 inB tyB okB nmB rfl rfl (by decide) tw_111 rfl rfl rfl rfl rfl (Nat.le_of_ble_eq_true rfl) rfl d_B_clear_58 ?_
  exact g_vret C hr hlk rfl d_B_clear_61
set_option maxHeartbeats 4000000 in
set_option maxRecDepth 100000 in
theorem m_B_takeSymbol_w (l : Launch) (D : va_G) (cs : ClassId × ClassId × ClassId × ClassId) (b k bc bl bx a al ac ah an g gr : Nat) (ct : Nat → Nat) (lo ex : Nat → Int32) (wr : Nat) (lv9 : Int64) (rl : Nat) (ln cn sn xn : Nat → Nat) (fl : Nat) (rb : Nat → Nat) (st sz : Nat) (y : Nat) (hy : y < 48) (hl : ∀ j, j < 48 → ln j ≤ 16) (hx : ∀ j, j < 48 → -32 ≤ (ex j).toInt ∧ (ex j).toInt ≤ 32) (hs : st < 400) (hz : sz ≤ 400) (hb : ∀ j, j < 400 → rb j < 2) (hw : sz < ln y + (ex y).toInt.natAbs) : MG l y_B_takeSymbol k_B_takeSymbol { frames := 1, cells := 0, slots := 0, locals := 25 } D cs [.ref b, .int (nI (y))] [(b, .inr (3, [.ref a, .ref k, .ref g, .ref bc, .ref bl, .ref bx, .int (nI (wr)), .long (lv9)])), (bc, .inl (cs.2.1, 48, .inr (.inl (fun j => lN (ct j))))), (bl, .inl (cs.1, 48, .inl (lo))), (bx, .inl (cs.1, 48, .inl (ex))), (a, .inr (1, [.int (nI (rl)), .ref al, .ref ac, .ref ah, .ref an, .int (nI (fl))])), (al, .inl (cs.1, 48, .inl (fun j => nI (ln j)))), (ac, .inl (cs.1, 48, .inl (fun j => nI (cn j)))), (ah, .inl (cs.1, 17, .inl (fun j => nI (sn j)))), (an, .inl (cs.1, 17, .inl (fun j => nI (xn j)))), (g, .inr (2, [.ref gr, .int (nI (st)), .int (nI (sz))])), (gr, .inl (cs.1, 400, .inl (fun j => nI (rb j))))] (QI D ((-1)) [(b, .inr (3, [.ref a, .ref k, .ref g, .ref bc, .ref bl, .ref bx, .int (nI (wr)), .long (lv9)])), (bc, .inl (cs.2.1, 48, .inr (.inl (fun j => lN (ct j))))), (bl, .inl (cs.1, 48, .inl (lo))), (bx, .inl (cs.1, 48, .inl (ex))), (a, .inr (1, [.int (nI (rl)), .ref al, .ref ac, .ref ah, .ref an, .int (nI (fl))])), (al, .inl (cs.1, 48, .inl (fun j => nI (ln j)))), (ac, .inl (cs.1, 48, .inl (fun j => nI (cn j)))), (ah, .inl (cs.1, 17, .inl (fun j => nI (sn j)))), (an, .inl (cs.1, 17, .inl (fun j => nI (xn j)))), (g, .inr (2, [.ref gr, .int (nI (st)), .int (nI (sz))])), (gr, .inl (cs.1, 400, .inl (fun j => nI (rb j))))]) := by
  refine MG.mk (own := RB) (by decide) rfl (Nat.le_of_ble_eq_true rfl) ?_
  intro p e s m below meth c A C hr hlk
  refine g_lv (lv' := [(0, .ref b), (1, .int (nI (y)))]) [0, 1] rfl ?_
  refine g_aload_n C d_B_takeSymbol_0 0 rfl rfl ?_
  refine g_get C (T := FB) (N := 8) 0 0 inB rfl rfl (by decide) tw_105 rfl rfl d_B_takeSymbol_1 ?_
  refine g_getN C (T := FT) (N := 6) (k := 1) C.2.2.2.2.1 4 inT rfl rfl (by decide) rfl rfl d_B_takeSymbol_4 ?_
  refine g_iload_n C d_B_takeSymbol_7 1 rfl rfl ?_
  refine g_iald C 5 rfl (by omega) (by decide) d_B_takeSymbol_8 ?_
  refine g_istore_n C (lv' := [(2, .int (nI (ln (y)))), (0, .ref b), (1, .int (nI (y)))]) d_B_takeSymbol_9 rfl (by decide) rfl ?_
  refine g_aload_n C d_B_takeSymbol_10 1 rfl rfl ?_
  refine g_get C (T := FB) (N := 8) 0 5 inB rfl rfl (by decide) tw_110 rfl rfl d_B_takeSymbol_11 ?_
  refine g_iload_n C d_B_takeSymbol_14 2 rfl rfl ?_
  refine g_iald C 3 rfl (by omega) (by decide) d_B_takeSymbol_15 ?_
  refine g_mabs C tw_419 ⟨by decide, Nat.le_of_ble_eq_true rfl, by decide, by decide⟩ (by have := hx y hy; omega) (by have := hx y hy; omega) d_B_takeSymbol_16 ?_
  refine g_istore_n C (lv' := [(3, .int (nI ((ex (y)).toInt.natAbs))), (2, .int (nI (ln (y)))), (0, .ref b), (1, .int (nI (y)))]) d_B_takeSymbol_19 rfl (by decide) rfl ?_
  refine g_aload_n C d_B_takeSymbol_20 2 rfl rfl ?_
  refine g_get C (T := FB) (N := 8) 0 2 inB rfl rfl (by decide) tw_107 rfl rfl d_B_takeSymbol_21 ?_
  refine g_getN C (T := FG) (N := 3) (k := 2) C.2.2.2.1 9 inG rfl rfl (by decide) rfl rfl d_B_takeSymbol_24 ?_
  refine g_iload_n C d_B_takeSymbol_27 1 rfl rfl ?_
  refine g_iload_n C d_B_takeSymbol_28 0 rfl rfl ?_
  refine g_iadd C (v := nI (ln (y) + ((ex (y)).toInt.natAbs))) d_B_takeSymbol_29 (nI_add _ _) ?_
  refine n_icmp_ge C 35 d_B_takeSymbol_30 (by decide) (by omega) (by have := hl y hy; have := hx y hy; omega) (fun h => absurd h (by omega)) (fun _ => ?_)
  refine g_iconst C (v := (-1)) d_B_takeSymbol_33 rfl ?_
  exact g_iret C hr hlk rfl rfl d_B_takeSymbol_34
section GTOL
variable {p : Program} {l : Launch} {e : Env} {R : Room} {s : State} {m : MethodId} {args : Array Value} {below : List Frame} {meth : Method} {c : Code} {cells slots : Nat} {Q : State → Prop} {A : Nat → Prop} {D : va_G} {nL : Nat} {cc : ByteArray} {own : String} {cs : ClassId × ClassId × ClassId × ClassId}
variable {pc : Nat} {lv lv' : List (Nat × Value)} {st : List Value} {ws ws' : va_W}
theorem g_tol {x v : Int64} (h : x = v) (g : GO p l e R s m args below meth c cells slots Q A D nL pc lv (.long v :: st) ws) : GO p l e R s m args below meth c cells slots Q A D nL pc lv (.long x :: st) ws := by rw [h]; exact g
end GTOL
theorem ge_nlt {x : Int32} (h : 0 ≤ x) : ¬ x < 0 := Int32.not_lt.mpr h
theorem nge_lt {x : Int32} (h : ¬ 0 ≤ x) : x < 0 := Int32.not_le.mp h
set_option maxHeartbeats 4000000 in
set_option maxRecDepth 100000 in
theorem m_B_takeSymbol_t (l : Launch) (D : va_G) (cs : ClassId × ClassId × ClassId × ClassId) (b k bc bl bx a al ac ah an g gr : Nat) (ct : Nat → Nat) (lo ex : Nat → Int32) (wr : Nat) (lv9 : Int64) (rl : Nat) (ln cn sn xn : Nat → Nat) (fl : Nat) (rb : Nat → Nat) (st sz : Nat) (y : Nat) (hy : y < 48) (hl : ∀ j, j < 48 → ln j ≤ 16) (hx : ∀ j, j < 48 → -32 ≤ (ex j).toInt ∧ (ex j).toInt ≤ 32) (hs : st < 400) (hz : sz ≤ 400) (hb : ∀ j, j < 400 → rb j < 2) (hw : ln y + (ex y).toInt.natAbs ≤ sz) : MG l y_B_takeSymbol k_B_takeSymbol { frames := 1, cells := 0, slots := 0, locals := 25 } D cs [.ref b, .int (nI (y))] [(b, .inr (3, [.ref a, .ref k, .ref g, .ref bc, .ref bl, .ref bx, .int (nI (wr)), .long (lv9)])), (bc, .inl (cs.2.1, 48, .inr (.inl (fun j => lN (ct j))))), (bl, .inl (cs.1, 48, .inl (lo))), (bx, .inl (cs.1, 48, .inl (ex))), (a, .inr (1, [.int (nI (rl)), .ref al, .ref ac, .ref ah, .ref an, .int (nI (fl))])), (al, .inl (cs.1, 48, .inl (fun j => nI (ln j)))), (ac, .inl (cs.1, 48, .inl (fun j => nI (cn j)))), (ah, .inl (cs.1, 17, .inl (fun j => nI (sn j)))), (an, .inl (cs.1, 17, .inl (fun j => nI (xn j)))), (g, .inr (2, [.ref gr, .int (nI (st)), .int (nI (sz))])), (gr, .inl (cs.1, 400, .inl (fun j => nI (rb j))))] (QI D (nI (y)) [(b, .inr (3, [.ref a, .ref k, .ref g, .ref bc, .ref bl, .ref bx, .int (nI (1)), .long ((if (ex y) < 0 then (lo y).toInt64 - lN (nmb rb st (ln y) (ex y).toInt.natAbs) else (lo y).toInt64 + lN (nmb rb st (ln y) (ex y).toInt.natAbs)))])), (bc, .inl (cs.2.1, 48, .inr (.inl (fun j => lN (ct j))))), (bl, .inl (cs.1, 48, .inl (lo))), (bx, .inl (cs.1, 48, .inl (ex))), (a, .inr (1, [.int (nI (rl)), .ref al, .ref ac, .ref ah, .ref an, .int (nI (fl))])), (al, .inl (cs.1, 48, .inl (fun j => nI (ln j)))), (ac, .inl (cs.1, 48, .inl (fun j => nI (cn j)))), (ah, .inl (cs.1, 17, .inl (fun j => nI (sn j)))), (an, .inl (cs.1, 17, .inl (fun j => nI (xn j)))), (g, .inr (2, [.ref gr, .int (nI (((st) + (ln y + (ex y).toInt.natAbs)) % 400)), .int (nI ((sz) - (ln y + (ex y).toInt.natAbs)))])), (gr, .inl (cs.1, 400, .inl (fun j => nI (rb j))))]) := by
  refine MG.mk (own := RB) (by decide) rfl (Nat.le_of_ble_eq_true rfl) ?_
  intro p e s m below meth c A C hr hlk
  refine g_lv (lv' := [(0, .ref b), (1, .int (nI (y)))]) [0, 1] rfl ?_
  refine g_aload_n C d_B_takeSymbol_0 0 rfl rfl ?_
  refine g_get C (T := FB) (N := 8) 0 0 inB rfl rfl (by decide) tw_105 rfl rfl d_B_takeSymbol_1 ?_
  refine g_getN C (T := FT) (N := 6) (k := 1) C.2.2.2.2.1 4 inT rfl rfl (by decide) rfl rfl d_B_takeSymbol_4 ?_
  refine g_iload_n C d_B_takeSymbol_7 1 rfl rfl ?_
  refine g_iald C 5 rfl (by omega) (by decide) d_B_takeSymbol_8 ?_
  refine g_istore_n C (lv' := [(2, .int (nI (ln (y)))), (0, .ref b), (1, .int (nI (y)))]) d_B_takeSymbol_9 rfl (by decide) rfl ?_
  refine g_aload_n C d_B_takeSymbol_10 1 rfl rfl ?_
  refine g_get C (T := FB) (N := 8) 0 5 inB rfl rfl (by decide) tw_110 rfl rfl d_B_takeSymbol_11 ?_
  refine g_iload_n C d_B_takeSymbol_14 2 rfl rfl ?_
  refine g_iald C 3 rfl (by omega) (by decide) d_B_takeSymbol_15 ?_
  refine g_mabs C tw_419 ⟨by decide, Nat.le_of_ble_eq_true rfl, by decide, by decide⟩ (by have := hx y hy; omega) (by have := hx y hy; omega) d_B_takeSymbol_16 ?_
  refine g_istore_n C (lv' := [(3, .int (nI ((ex (y)).toInt.natAbs))), (2, .int (nI (ln (y)))), (0, .ref b), (1, .int (nI (y)))]) d_B_takeSymbol_19 rfl (by decide) rfl ?_
  refine g_aload_n C d_B_takeSymbol_20 2 rfl rfl ?_
  refine g_get C (T := FB) (N := 8) 0 2 inB rfl rfl (by decide) tw_107 rfl rfl d_B_takeSymbol_21 ?_
  refine g_getN C (T := FG) (N := 3) (k := 2) C.2.2.2.1 9 inG rfl rfl (by decide) rfl rfl d_B_takeSymbol_24 ?_
  refine g_iload_n C d_B_takeSymbol_27 1 rfl rfl ?_
  refine g_iload_n C d_B_takeSymbol_28 0 rfl rfl ?_
  refine g_iadd C (v := nI (ln (y) + ((ex (y)).toInt.natAbs))) d_B_takeSymbol_29 (nI_add _ _) ?_
  refine n_icmp_ge C 35 d_B_takeSymbol_30 (by decide) (by omega) (by have := hl y hy; have := hx y hy; omega) (fun _ => ?_) (fun h => absurd h (by omega))
  refine g_aload_n C d_B_takeSymbol_35 2 rfl rfl ?_
  refine g_get C (T := FB) (N := 8) 0 2 inB rfl rfl (by decide) tw_107 rfl rfl d_B_takeSymbol_36 ?_
  refine g_iload_n C d_B_takeSymbol_39 1 rfl rfl ?_
  refine g_iload_n C d_B_takeSymbol_40 0 rfl rfl ?_
  refine g_callVl C (n := 2) (ws' := [(b, .inr (3, [.ref a, .ref k, .ref g, .ref bc, .ref bl, .ref bx, .int (nI (wr)), .long (lv9)])), (bc, .inl (cs.2.1, 48, .inr (.inl (fun j => lN (ct j))))), (bl, .inl (cs.1, 48, .inl (lo))), (bx, .inl (cs.1, 48, .inl (ex))), (a, .inr (1, [.int (nI (rl)), .ref al, .ref ac, .ref ah, .ref an, .int (nI (fl))])), (al, .inl (cs.1, 48, .inl (fun j => nI (ln j)))), (ac, .inl (cs.1, 48, .inl (fun j => nI (cn j)))), (ah, .inl (cs.1, 17, .inl (fun j => nI (sn j)))), (an, .inl (cs.1, 17, .inl (fun j => nI (xn j)))), (g, .inr (2, [.ref gr, .int (nI (st)), .int (nI (sz))])), (gr, .inl (cs.1, 400, .inl (fun j => nI (rb j))))]) (As := [.int (nI (ln (y))), .int (nI ((ex (y)).toInt.natAbs))]) (rest := []) (m_G_number l D cs g gr (rb) (st) (sz) (ln (y)) ((ex (y)).toInt.natAbs) hs hb (by omega)) tw_406 tw_407 tw_408 tw_3 tw_409 rfl 0 rfl rfl (by decide +kernel) rfl ⟨rfl, rfl, by decide, by decide, by decide⟩ rfl [9, 10] rfl rfl (by decide) (Nat.le_of_ble_eq_true rfl) rfl d_B_takeSymbol_41 ?_
  refine g_lstore C (lv' := [(4, .long (lN (nmb (rb) (st) (ln (y)) ((ex (y)).toInt.natAbs)))), (3, .int (nI ((ex (y)).toInt.natAbs))), (2, .int (nI (ln (y)))), (0, .ref b), (1, .int (nI (y)))]) d_B_takeSymbol_44 (by decide) rfl ?_
  refine g_aload_n C d_B_takeSymbol_46 3 rfl rfl ?_
  refine g_get C (T := FB) (N := 8) 0 4 inB rfl rfl (by decide) tw_109 rfl rfl d_B_takeSymbol_47 ?_
  refine g_iload_n C d_B_takeSymbol_50 4 rfl rfl ?_
  refine g_iald C 2 rfl (by omega) (by decide) d_B_takeSymbol_51 ?_
  refine g_i2l C (v := (lo (y)).toInt64) d_B_takeSymbol_52 rfl ?_
  refine g_lstore C (lv' := [(6, .long ((lo (y)).toInt64)), (4, .long (lN (nmb (rb) (st) (ln (y)) ((ex (y)).toInt.natAbs)))), (3, .int (nI ((ex (y)).toInt.natAbs))), (2, .int (nI (ln (y)))), (0, .ref b), (1, .int (nI (y)))]) d_B_takeSymbol_53 (by decide) rfl ?_
  refine g_aload_n C d_B_takeSymbol_55 4 rfl rfl ?_
  refine g_aload_n C d_B_takeSymbol_56 4 rfl rfl ?_
  refine g_get C (T := FB) (N := 8) 0 5 inB rfl rfl (by decide) tw_110 rfl rfl d_B_takeSymbol_57 ?_
  refine g_iload_n C d_B_takeSymbol_60 5 rfl rfl ?_
  refine g_iald C 3 rfl (by omega) (by decide) d_B_takeSymbol_61 ?_
  refine g_if_ge C 73 d_B_takeSymbol_62 (by decide) (fun h62 => ?_) (fun h62 => ?_)
  · have h62 := ge_nlt h62
    refine g_lload C d_B_takeSymbol_73 0 rfl ?_
    refine g_lload C d_B_takeSymbol_75 1 rfl ?_
    refine g_ladd C (v := ((lo (y)).toInt64) + (lN (nmb (rb) (st) (ln (y)) ((ex (y)).toInt.natAbs)))) d_B_takeSymbol_77 rfl ?_
    refine g_tol (v := (if (ex y) < 0 then (lo y).toInt64 - lN (nmb rb st (ln y) (ex y).toInt.natAbs) else (lo y).toInt64 + lN (nmb rb st (ln y) (ex y).toInt.natAbs))) (by first | rw [if_pos (by assumption)] | rw [if_neg (by assumption)]) ?_
    refine g_put C (T := FB) (N := 8) (ws' := [(b, .inr (3, [.ref a, .ref k, .ref g, .ref bc, .ref bl, .ref bx, .int (nI (wr)), .long ((if (ex y) < 0 then (lo y).toInt64 - lN (nmb rb st (ln y) (ex y).toInt.natAbs) else (lo y).toInt64 + lN (nmb rb st (ln y) (ex y).toInt.natAbs)))])), (bc, .inl (cs.2.1, 48, .inr (.inl (fun j => lN (ct j))))), (bl, .inl (cs.1, 48, .inl (lo))), (bx, .inl (cs.1, 48, .inl (ex))), (a, .inr (1, [.int (nI (rl)), .ref al, .ref ac, .ref ah, .ref an, .int (nI (fl))])), (al, .inl (cs.1, 48, .inl (fun j => nI (ln j)))), (ac, .inl (cs.1, 48, .inl (fun j => nI (cn j)))), (ah, .inl (cs.1, 17, .inl (fun j => nI (sn j)))), (an, .inl (cs.1, 17, .inl (fun j => nI (xn j)))), (g, .inr (2, [.ref gr, .int (nI (st)), .int (nI (sz))])), (gr, .inl (cs.1, 400, .inl (fun j => nI (rb j))))]) 0 7 inB tyB okB nmB rfl rfl (by decide) tw_112 rfl rfl rfl rfl rfl (Nat.le_of_ble_eq_true rfl) rfl d_B_takeSymbol_78 ?_
    refine g_aload_n C d_B_takeSymbol_81 4 rfl rfl ?_
    refine g_iconst C (v := nI 1) d_B_takeSymbol_82 rfl ?_
    refine g_put C (T := FB) (N := 8) (ws' := [(b, .inr (3, [.ref a, .ref k, .ref g, .ref bc, .ref bl, .ref bx, .int (nI (1)), .long ((if (ex y) < 0 then (lo y).toInt64 - lN (nmb rb st (ln y) (ex y).toInt.natAbs) else (lo y).toInt64 + lN (nmb rb st (ln y) (ex y).toInt.natAbs)))])), (bc, .inl (cs.2.1, 48, .inr (.inl (fun j => lN (ct j))))), (bl, .inl (cs.1, 48, .inl (lo))), (bx, .inl (cs.1, 48, .inl (ex))), (a, .inr (1, [.int (nI (rl)), .ref al, .ref ac, .ref ah, .ref an, .int (nI (fl))])), (al, .inl (cs.1, 48, .inl (fun j => nI (ln j)))), (ac, .inl (cs.1, 48, .inl (fun j => nI (cn j)))), (ah, .inl (cs.1, 17, .inl (fun j => nI (sn j)))), (an, .inl (cs.1, 17, .inl (fun j => nI (xn j)))), (g, .inr (2, [.ref gr, .int (nI (st)), .int (nI (sz))])), (gr, .inl (cs.1, 400, .inl (fun j => nI (rb j))))]) 0 6 inB tyB okB nmB rfl rfl (by decide) tw_111 rfl rfl rfl rfl rfl (Nat.le_of_ble_eq_true rfl) rfl d_B_takeSymbol_83 ?_
    refine g_aload_n C d_B_takeSymbol_86 4 rfl rfl ?_
    refine g_get C (T := FB) (N := 8) 0 2 inB rfl rfl (by decide) tw_107 rfl rfl d_B_takeSymbol_87 ?_
    refine g_iload_n C d_B_takeSymbol_90 3 rfl rfl ?_
    refine g_iload_n C d_B_takeSymbol_91 2 rfl rfl ?_
    refine g_iadd C (v := nI (ln (y) + ((ex (y)).toInt.natAbs))) d_B_takeSymbol_92 (nI_add _ _) ?_
    refine g_callVv C (n := 1) (ws' := [(b, .inr (3, [.ref a, .ref k, .ref g, .ref bc, .ref bl, .ref bx, .int (nI (1)), .long ((if (ex y) < 0 then (lo y).toInt64 - lN (nmb rb st (ln y) (ex y).toInt.natAbs) else (lo y).toInt64 + lN (nmb rb st (ln y) (ex y).toInt.natAbs)))])), (bc, .inl (cs.2.1, 48, .inr (.inl (fun j => lN (ct j))))), (bl, .inl (cs.1, 48, .inl (lo))), (bx, .inl (cs.1, 48, .inl (ex))), (a, .inr (1, [.int (nI (rl)), .ref al, .ref ac, .ref ah, .ref an, .int (nI (fl))])), (al, .inl (cs.1, 48, .inl (fun j => nI (ln j)))), (ac, .inl (cs.1, 48, .inl (fun j => nI (cn j)))), (ah, .inl (cs.1, 17, .inl (fun j => nI (sn j)))), (an, .inl (cs.1, 17, .inl (fun j => nI (xn j)))), (g, .inr (2, [.ref gr, .int (nI (((st) + (ln (y) + ((ex (y)).toInt.natAbs))) % 400)), .int (nI ((sz) - (ln (y) + ((ex (y)).toInt.natAbs))))])), (gr, .inl (cs.1, 400, .inl (fun j => nI (rb j))))]) (As := [.int (nI (ln (y) + ((ex (y)).toInt.natAbs)))]) (rest := []) (m_G_drop l D cs g gr (rb) (st) (sz) (ln (y) + ((ex (y)).toInt.natAbs)) hs hz (by omega)) tw_197 tw_198 tw_199 tw_3 tw_200 rfl 0 rfl rfl (by decide +kernel) rfl ⟨rfl, rfl, by decide, by decide, by decide⟩ rfl [9, 10] rfl rfl (by decide) (Nat.le_of_ble_eq_true rfl) rfl d_B_takeSymbol_93 ?_
    refine g_iload_n C d_B_takeSymbol_96 5 rfl rfl ?_
    exact g_iret C hr hlk rfl rfl d_B_takeSymbol_97
  · have h62 := nge_lt h62
    refine g_lload C d_B_takeSymbol_65 0 rfl ?_
    refine g_lload C d_B_takeSymbol_67 1 rfl ?_
    refine g_lsub C (v := ((lo (y)).toInt64) - (lN (nmb (rb) (st) (ln (y)) ((ex (y)).toInt.natAbs)))) d_B_takeSymbol_69 rfl ?_
    refine g_goto C 78 d_B_takeSymbol_70 (by decide) ?_
    refine g_tol (v := (if (ex y) < 0 then (lo y).toInt64 - lN (nmb rb st (ln y) (ex y).toInt.natAbs) else (lo y).toInt64 + lN (nmb rb st (ln y) (ex y).toInt.natAbs))) (by first | rw [if_pos (by assumption)] | rw [if_neg (by assumption)]) ?_
    refine g_put C (T := FB) (N := 8) (ws' := [(b, .inr (3, [.ref a, .ref k, .ref g, .ref bc, .ref bl, .ref bx, .int (nI (wr)), .long ((if (ex y) < 0 then (lo y).toInt64 - lN (nmb rb st (ln y) (ex y).toInt.natAbs) else (lo y).toInt64 + lN (nmb rb st (ln y) (ex y).toInt.natAbs)))])), (bc, .inl (cs.2.1, 48, .inr (.inl (fun j => lN (ct j))))), (bl, .inl (cs.1, 48, .inl (lo))), (bx, .inl (cs.1, 48, .inl (ex))), (a, .inr (1, [.int (nI (rl)), .ref al, .ref ac, .ref ah, .ref an, .int (nI (fl))])), (al, .inl (cs.1, 48, .inl (fun j => nI (ln j)))), (ac, .inl (cs.1, 48, .inl (fun j => nI (cn j)))), (ah, .inl (cs.1, 17, .inl (fun j => nI (sn j)))), (an, .inl (cs.1, 17, .inl (fun j => nI (xn j)))), (g, .inr (2, [.ref gr, .int (nI (st)), .int (nI (sz))])), (gr, .inl (cs.1, 400, .inl (fun j => nI (rb j))))]) 0 7 inB tyB okB nmB rfl rfl (by decide) tw_112 rfl rfl rfl rfl rfl (Nat.le_of_ble_eq_true rfl) rfl d_B_takeSymbol_78 ?_
    refine g_aload_n C d_B_takeSymbol_81 4 rfl rfl ?_
    refine g_iconst C (v := nI 1) d_B_takeSymbol_82 rfl ?_
    refine g_put C (T := FB) (N := 8) (ws' := [(b, .inr (3, [.ref a, .ref k, .ref g, .ref bc, .ref bl, .ref bx, .int (nI (1)), .long ((if (ex y) < 0 then (lo y).toInt64 - lN (nmb rb st (ln y) (ex y).toInt.natAbs) else (lo y).toInt64 + lN (nmb rb st (ln y) (ex y).toInt.natAbs)))])), (bc, .inl (cs.2.1, 48, .inr (.inl (fun j => lN (ct j))))), (bl, .inl (cs.1, 48, .inl (lo))), (bx, .inl (cs.1, 48, .inl (ex))), (a, .inr (1, [.int (nI (rl)), .ref al, .ref ac, .ref ah, .ref an, .int (nI (fl))])), (al, .inl (cs.1, 48, .inl (fun j => nI (ln j)))), (ac, .inl (cs.1, 48, .inl (fun j => nI (cn j)))), (ah, .inl (cs.1, 17, .inl (fun j => nI (sn j)))), (an, .inl (cs.1, 17, .inl (fun j => nI (xn j)))), (g, .inr (2, [.ref gr, .int (nI (st)), .int (nI (sz))])), (gr, .inl (cs.1, 400, .inl (fun j => nI (rb j))))]) 0 6 inB tyB okB nmB rfl rfl (by decide) tw_111 rfl rfl rfl rfl rfl (Nat.le_of_ble_eq_true rfl) rfl d_B_takeSymbol_83 ?_
    refine g_aload_n C d_B_takeSymbol_86 4 rfl rfl ?_
    refine g_get C (T := FB) (N := 8) 0 2 inB rfl rfl (by decide) tw_107 rfl rfl d_B_takeSymbol_87 ?_
    refine g_iload_n C d_B_takeSymbol_90 3 rfl rfl ?_
    refine g_iload_n C d_B_takeSymbol_91 2 rfl rfl ?_
    refine g_iadd C (v := nI (ln (y) + ((ex (y)).toInt.natAbs))) d_B_takeSymbol_92 (nI_add _ _) ?_
    refine g_callVv C (n := 1) (ws' := [(b, .inr (3, [.ref a, .ref k, .ref g, .ref bc, .ref bl, .ref bx, .int (nI (1)), .long ((if (ex y) < 0 then (lo y).toInt64 - lN (nmb rb st (ln y) (ex y).toInt.natAbs) else (lo y).toInt64 + lN (nmb rb st (ln y) (ex y).toInt.natAbs)))])), (bc, .inl (cs.2.1, 48, .inr (.inl (fun j => lN (ct j))))), (bl, .inl (cs.1, 48, .inl (lo))), (bx, .inl (cs.1, 48, .inl (ex))), (a, .inr (1, [.int (nI (rl)), .ref al, .ref ac, .ref ah, .ref an, .int (nI (fl))])), (al, .inl (cs.1, 48, .inl (fun j => nI (ln j)))), (ac, .inl (cs.1, 48, .inl (fun j => nI (cn j)))), (ah, .inl (cs.1, 17, .inl (fun j => nI (sn j)))), (an, .inl (cs.1, 17, .inl (fun j => nI (xn j)))), (g, .inr (2, [.ref gr, .int (nI (((st) + (ln (y) + ((ex (y)).toInt.natAbs))) % 400)), .int (nI ((sz) - (ln (y) + ((ex (y)).toInt.natAbs))))])), (gr, .inl (cs.1, 400, .inl (fun j => nI (rb j))))]) (As := [.int (nI (ln (y) + ((ex (y)).toInt.natAbs)))]) (rest := []) (m_G_drop l D cs g gr (rb) (st) (sz) (ln (y) + ((ex (y)).toInt.natAbs)) hs hz (by omega)) tw_197 tw_198 tw_199 tw_3 tw_200 rfl 0 rfl rfl (by decide +kernel) rfl ⟨rfl, rfl, by decide, by decide, by decide⟩ rfl [9, 10] rfl rfl (by decide) (Nat.le_of_ble_eq_true rfl) rfl d_B_takeSymbol_93 ?_
    refine g_iload_n C d_B_takeSymbol_96 5 rfl rfl ?_
    exact g_iret C hr hlk rfl rfl d_B_takeSymbol_97
