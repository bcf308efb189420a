/-- reading: (0, 0) waits; (1, n) n bits begin no code; (2, y) the symbol y -/
def rdL (ln cn rb : Nat → Nat) (st sz : Nat) : Nat → Nat → Nat × Nat
  | 0, _ => (0, 0)
  | f + 1, n => if n ≤ sz then (match sbb ln cn (nmb rb st 0 n) n with
      | none => (1, n)
      | some y => if ln y = n then (2, y) else rdL ln cn rb st sz f (n + 1)) else (0, 0)
theorem sbb_some {ln cn : Nat → Nat} {fi nn y : Nat} (h : sbb ln cn fi nn = some y) : y < 48 ∧ nn ≤ ln y ∧ cn y / 2 ^ (ln y - nn) = fi := by
  unfold sbb at h
  rw [List.find?_range_eq_some] at h
  obtain ⟨h1, h2, -⟩ := h
  unfold bgP at h1
  simp only [Bool.and_eq_true, decide_eq_true_eq] at h1
  exact ⟨List.mem_range.mp h2, h1.1, h1.2⟩
section RD
variable {ln cn rb : Nat → Nat} {st sz k y : Nat}
theorem rdL_fu (hk : k ≤ 16) : ∃ f, 17 - k = f + 1 ∧ 17 - (k + 1) = f := ⟨16 - k, by omega, by omega⟩
theorem rdL_sz (h : sz < k) : rdL ln cn rb st sz (17 - k) k = (0, 0) := by
  cases 17 - k with
  | zero => rfl
  | succ f => rw [rdL, if_neg (by omega)]
theorem rdL_none (hk : k ≤ 16) (h : k ≤ sz) (hs : sbb ln cn (nmb rb st 0 k) k = none) : rdL ln cn rb st sz (17 - k) k = (1, k) := by
  obtain ⟨f, e1, -⟩ := rdL_fu hk
  rw [e1, rdL, if_pos h, hs]
theorem rdL_hit (hk : k ≤ 16) (h : k ≤ sz) (hs : sbb ln cn (nmb rb st 0 k) k = some y) (hy : ln y = k) : rdL ln cn rb st sz (17 - k) k = (2, y) := by
  obtain ⟨f, e1, -⟩ := rdL_fu hk
  rw [e1, rdL, if_pos h, hs]
  show (if ln y = k then _ else _) = _
  rw [if_pos hy]
theorem rdL_next (hk : k ≤ 16) (h : k ≤ sz) (hs : sbb ln cn (nmb rb st 0 k) k = some y) (hy : ln y ≠ k) : rdL ln cn rb st sz (17 - k) k = rdL ln cn rb st sz (17 - (k + 1)) (k + 1) := by
  obtain ⟨f, e1, e2⟩ := rdL_fu hk
  rw [e1, e2, rdL, if_pos h, hs]
  show (if ln y = k then _ else _) = _
  rw [if_neg hy]
end RD
theorem nmb_lt {rb : Nat → Nat} (hb : ∀ j, j < 400 → rb j < 2) (st bh : Nat) : ∀ n, nmb rb st bh n < 2 ^ n
  | 0 => by show 0 < 2 ^ 0; decide
  | n + 1 => by
    have h1 := nmb_lt hb st bh n
    have h2 := hb ((st + (bh + n)) % 400) (Nat.mod_lt _ (by omega))
    show 2 * nmb rb st bh n + rb ((st + (bh + n)) % 400) < 2 ^ (n + 1)
    rw [Nat.pow_succ]; omega
theorem nI_nm1 {y : Nat} (h : y < 2 ^ 31) : ¬ nI y = (-1) := fun q => by
  have h1 := nI_toInt h
  rw [q] at h1
  have : (-1 : Int32).toInt = -1 := by decide
  omega

set_option maxHeartbeats 4000000 in
set_option maxRecDepth 100000 in
theorem l_B_read {p : Program} {l : Launch} {e : Env} {s : State} {m : MethodId} {args : Array Value} {below : List Frame} {meth : Method} {c : Code} {Q : State → Prop} {A : Nat → Prop} {D : va_G} {cs : ClassId × ClassId × ClassId × ClassId} (C : CX p s m args c c_B_read 3 RB D cs A) (b k bc bl bx a al ac ah an g gr : Nat) (ct : Nat → Nat) (lo ex : Nat → Int32) (wr : Nat) (lv9 : Int64) (rl : Nat) (ln cn sn xn : Nat → Nat) (fl : Nat) (rb : Nat → Nat) (st sz : Nat) (hl : ∀ j, j < 48 → ln j ≤ 16) (hc : ∀ j, j < 48 → cn j < 2 ^ 31) (hs : st < 400) (hz : sz ≤ 400) (hb : ∀ j, j < 400 → rb j < 2)
    (Kw : rdL ln cn rb st sz 16 1 = (0, 0) → GO p l e { frames := 2, cells := 0, slots := 0, locals := 52 } s m args below meth c 0 0 Q A D 3 83 [(0, .ref b)] [] [(b, .inr (3, [.ref a, .ref k, .ref g, .ref bc, .ref bl, .ref bx, .int (nI (wr)), .long (lv9)])), (bc, .inl (cs.2.1, 48, .inr (.inl (fun j => lN (ct j))))), (bl, .inl (cs.1, 48, .inl (lo))), (bx, .inl (cs.1, 48, .inl (ex))), (a, .inr (1, [.int (nI (rl)), .ref al, .ref ac, .ref ah, .ref an, .int (nI (fl))])), (al, .inl (cs.1, 48, .inl (fun j => nI (ln j)))), (ac, .inl (cs.1, 48, .inl (fun j => nI (cn j)))), (ah, .inl (cs.1, 17, .inl (fun j => nI (sn j)))), (an, .inl (cs.1, 17, .inl (fun j => nI (xn j)))), (g, .inr (2, [.ref gr, .int (nI (st)), .int (nI (sz))])), (gr, .inl (cs.1, 400, .inl (fun j => nI (rb j))))])
    (Kn : ∀ kq : Nat, 1 ≤ kq → kq ≤ 16 → kq ≤ sz → rdL ln cn rb st sz 16 1 = (1, kq) → GO p l e { frames := 2, cells := 0, slots := 0, locals := 52 } s m args below meth c 0 0 Q A D 3 47 [(0, .ref b), (1, .int (nI (kq)))] [] [(b, .inr (3, [.ref a, .ref k, .ref g, .ref bc, .ref bl, .ref bx, .int (nI (wr)), .long (lv9)])), (bc, .inl (cs.2.1, 48, .inr (.inl (fun j => lN (ct j))))), (bl, .inl (cs.1, 48, .inl (lo))), (bx, .inl (cs.1, 48, .inl (ex))), (a, .inr (1, [.int (nI (rl)), .ref al, .ref ac, .ref ah, .ref an, .int (nI (fl))])), (al, .inl (cs.1, 48, .inl (fun j => nI (ln j)))), (ac, .inl (cs.1, 48, .inl (fun j => nI (cn j)))), (ah, .inl (cs.1, 17, .inl (fun j => nI (sn j)))), (an, .inl (cs.1, 17, .inl (fun j => nI (xn j)))), (g, .inr (2, [.ref gr, .int (nI (st)), .int (nI (sz))])), (gr, .inl (cs.1, 400, .inl (fun j => nI (rb j))))])
    (Kt : ∀ y : Nat, y < 48 → rdL ln cn rb st sz 16 1 = (2, y) → GO p l e { frames := 2, cells := 0, slots := 0, locals := 52 } s m args below meth c 0 0 Q A D 3 71 [(0, .ref b), (2, .int (nI (y)))] [] [(b, .inr (3, [.ref a, .ref k, .ref g, .ref bc, .ref bl, .ref bx, .int (nI (wr)), .long (lv9)])), (bc, .inl (cs.2.1, 48, .inr (.inl (fun j => lN (ct j))))), (bl, .inl (cs.1, 48, .inl (lo))), (bx, .inl (cs.1, 48, .inl (ex))), (a, .inr (1, [.int (nI (rl)), .ref al, .ref ac, .ref ah, .ref an, .int (nI (fl))])), (al, .inl (cs.1, 48, .inl (fun j => nI (ln j)))), (ac, .inl (cs.1, 48, .inl (fun j => nI (cn j)))), (ah, .inl (cs.1, 17, .inl (fun j => nI (sn j)))), (an, .inl (cs.1, 17, .inl (fun j => nI (xn j)))), (g, .inr (2, [.ref gr, .int (nI (st)), .int (nI (sz))])), (gr, .inl (cs.1, 400, .inl (fun j => nI (rb j))))])
    : ∀ (n : Nat) (kq : Nat), 17 - kq = n → (1 ≤ kq) → (kq ≤ 17) → (rdL ln cn rb st sz 16 1 = rdL ln cn rb st sz (17 - kq) kq) → GO p l e { frames := 2, cells := 0, slots := 0, locals := 52 } s m args below meth c 0 0 Q A D 3 6 [(0, .ref b), (1, .int (nI (kq)))] [] [(b, .inr (3, [.ref a, .ref k, .ref g, .ref bc, .ref bl, .ref bx, .int (nI (wr)), .long (lv9)])), (bc, .inl (cs.2.1, 48, .inr (.inl (fun j => lN (ct j))))), (bl, .inl (cs.1, 48, .inl (lo))), (bx, .inl (cs.1, 48, .inl (ex))), (a, .inr (1, [.int (nI (rl)), .ref al, .ref ac, .ref ah, .ref an, .int (nI (fl))])), (al, .inl (cs.1, 48, .inl (fun j => nI (ln j)))), (ac, .inl (cs.1, 48, .inl (fun j => nI (cn j)))), (ah, .inl (cs.1, 17, .inl (fun j => nI (sn j)))), (an, .inl (cs.1, 17, .inl (fun j => nI (xn j)))), (g, .inr (2, [.ref gr, .int (nI (st)), .int (nI (sz))])), (gr, .inl (cs.1, 400, .inl (fun j => nI (rb j))))] := by
  intro n
  induction n using Nat.strongRecOn with
  | _ n ih =>
  intro kq  hn h1k hk he
  refine g_iload_n C d_B_read_6 1 rfl rfl ?_
  refine g_bipush C (v := nI 16) d_B_read_7 rfl ?_
  refine n_icmp_gt C 83 d_B_read_9 (by decide) (by omega) (by omega) (fun h9 => ?_) (fun h9 => ?_)
  · refine g_lv (lv' := [(0, .ref b)]) [0] rfl ?_
    exact Kw (he.trans (by first | exact rdL_sz (by omega) | (rw [show 17 - kq = 0 by omega]; rfl)))
  · refine g_iload_n C d_B_read_12 1 rfl rfl ?_
    refine g_aload_n C d_B_read_13 0 rfl rfl ?_
    refine g_get C (T := FB) (N := 8) 0 2 inB rfl rfl (by decide) tw_107 rfl rfl d_B_read_14 ?_
    refine g_getN C (T := FG) (N := 3) (k := 2) C.2.2.2.1 9 inG rfl rfl (by decide) rfl rfl d_B_read_17 ?_
    refine n_icmp_gt C 83 d_B_read_20 (by decide) (by omega) (by omega) (fun h20 => ?_) (fun h20 => ?_)
    · refine g_lv (lv' := [(0, .ref b)]) [0] rfl ?_
      exact Kw (he.trans (by first | exact rdL_sz (by omega) | (rw [show 17 - kq = 0 by omega]; rfl)))
    · refine g_aload_n C d_B_read_23 0 rfl rfl ?_
      refine g_get C (T := FB) (N := 8) 0 0 inB rfl rfl (by decide) tw_105 rfl rfl d_B_read_24 ?_
      refine g_aload_n C d_B_read_27 0 rfl rfl ?_
      refine g_get C (T := FB) (N := 8) 0 2 inB rfl rfl (by decide) tw_107 rfl rfl d_B_read_28 ?_
      refine g_iconst C (v := nI 0) d_B_read_31 rfl ?_
      refine g_iload_n C d_B_read_32 1 rfl rfl ?_
      refine g_callVl C (n := 2) (ws' := [(b, .inr (3, [.ref a, .ref k, .ref g, .ref bc, .ref bl, .ref bx, .int (nI (wr)), .long (lv9)])), (bc, .inl (cs.2.1, 48, .inr (.inl (fun j => lN (ct j))))), (bl, .inl (cs.1, 48, .inl (lo))), (bx, .inl (cs.1, 48, .inl (ex))), (a, .inr (1, [.int (nI (rl)), .ref al, .ref ac, .ref ah, .ref an, .int (nI (fl))])), (al, .inl (cs.1, 48, .inl (fun j => nI (ln j)))), (ac, .inl (cs.1, 48, .inl (fun j => nI (cn j)))), (ah, .inl (cs.1, 17, .inl (fun j => nI (sn j)))), (an, .inl (cs.1, 17, .inl (fun j => nI (xn j)))), (g, .inr (2, [.ref gr, .int (nI (st)), .int (nI (sz))])), (gr, .inl (cs.1, 400, .inl (fun j => nI (rb j))))]) (As := [.int (nI (0)), .int (nI (kq))]) (rest := [.ref a]) (m_G_number l D cs g gr (rb) (st) (sz) (0) (kq) hs hb (by omega)) tw_406 tw_407 tw_408 tw_3 tw_409 rfl 0 rfl rfl (by decide +kernel) rfl ⟨rfl, rfl, by decide, by decide, by decide⟩ rfl [9, 10] rfl rfl (by decide) (Nat.le_of_ble_eq_true rfl) rfl d_B_read_33 ?_
      refine g_l2i C (v := nI (nmb (rb) (st) (0) (kq))) d_B_read_36 (lN_i _) ?_
      refine g_iload_n C d_B_read_37 1 rfl rfl ?_
      refine g_callVi C (n := 2) (ws' := [(b, .inr (3, [.ref a, .ref k, .ref g, .ref bc, .ref bl, .ref bx, .int (nI (wr)), .long (lv9)])), (bc, .inl (cs.2.1, 48, .inr (.inl (fun j => lN (ct j))))), (bl, .inl (cs.1, 48, .inl (lo))), (bx, .inl (cs.1, 48, .inl (ex))), (a, .inr (1, [.int (nI (rl)), .ref al, .ref ac, .ref ah, .ref an, .int (nI (fl))])), (al, .inl (cs.1, 48, .inl (fun j => nI (ln j)))), (ac, .inl (cs.1, 48, .inl (fun j => nI (cn j)))), (ah, .inl (cs.1, 17, .inl (fun j => nI (sn j)))), (an, .inl (cs.1, 17, .inl (fun j => nI (xn j)))), (g, .inr (2, [.ref gr, .int (nI (st)), .int (nI (sz))])), (gr, .inl (cs.1, 400, .inl (fun j => nI (rb j))))]) (As := [.int (nI (nmb (rb) (st) (0) (kq))), .int (nI (kq))]) (rest := []) (m_T_symbolBegunBy l D cs a al ac ah an (rl) (ln) (cn) (sn) (xn) (fl) (nmb (rb) (st) (0) (kq)) (kq) hl hc (by omega) (Nat.lt_of_lt_of_le (nmb_lt hb st 0 kq) (Nat.pow_le_pow_right (by omega) (show kq ≤ 31 by omega)))) tw_411 tw_412 tw_413 tw_4 tw_414 rfl 0 rfl rfl (by decide +kernel) rfl ⟨rfl, rfl, by decide, by decide, by decide⟩ rfl [4, 5, 6, 7, 8] rfl rfl (by decide) (Nat.le_of_ble_eq_true rfl) rfl d_B_read_38 ?_
      rcases hsb : sbb ln cn (nmb rb st 0 kq) kq with _ | y
      · show GO _ _ _ _ _ _ _ _ _ _ _ _ _ _ _ _ _ _ (.int (-1) :: _) _
        refine g_istore_n C (lv' := [(2, .int ((-1))), (0, .ref b), (1, .int (nI (kq)))]) d_B_read_41 rfl (by decide) rfl ?_
        refine g_iload_n C d_B_read_42 0 rfl rfl ?_
        refine g_iconst C (v := (-1)) d_B_read_43 rfl ?_
        refine g_icmp_ne C 58 d_B_read_44 (by decide) (fun h => absurd rfl h) (fun _ => ?_)
        refine g_lv (lv' := [(0, .ref b), (1, .int (nI (kq)))]) [1, 2] rfl ?_
        exact Kn kq h1k (by omega) (by omega) (he.trans (rdL_none (by omega) (by omega) hsb))
      · show GO _ _ _ _ _ _ _ _ _ _ _ _ _ _ _ _ _ _ (.int (nI y) :: _) _
        obtain ⟨hy, hy1, -⟩ := sbb_some hsb
        refine g_istore_n C (lv' := [(2, .int (nI (y))), (0, .ref b), (1, .int (nI (kq)))]) d_B_read_41 rfl (by decide) rfl ?_
        refine g_iload_n C d_B_read_42 0 rfl rfl ?_
        refine g_iconst C (v := (-1)) d_B_read_43 rfl ?_
        refine g_icmp_ne C 58 d_B_read_44 (by decide) (fun _ => ?_) (fun h => absurd (nI_nm1 (by omega)) h)
        refine g_aload_n C d_B_read_58 1 rfl rfl ?_
        refine g_get C (T := FB) (N := 8) 0 0 inB rfl rfl (by decide) tw_105 rfl rfl d_B_read_59 ?_
        refine g_getN C (T := FT) (N := 6) (k := 1) C.2.2.2.2.1 4 inT rfl rfl (by decide) rfl rfl d_B_read_62 ?_
        refine g_iload_n C d_B_read_65 0 rfl rfl ?_
        refine g_iald C 5 rfl hy (by decide) d_B_read_66 ?_
        refine g_iload_n C d_B_read_67 2 rfl rfl ?_
        refine n_icmp_ne C 77 d_B_read_68 (by decide) (by have := hl y hy; omega) (by omega) (fun h68 => ?_) (fun h68 => ?_)
        · refine g_iinc C (lv' := [(1, .int (nI (kq + 1))), (2, .int (nI (y))), (0, .ref b)]) (k := 2) d_B_read_77 rfl (nI_1 _) (by decide) rfl ?_
          refine g_goto C 6 d_B_read_80 (by decide) ?_
          refine g_lv (lv' := [(0, .ref b), (1, .int (nI (kq + 1)))]) [2, 0] rfl ?_
          exact ih (17 - (kq + 1)) (by omega) (kq + 1) rfl (by omega) (by omega) (he.trans (rdL_next (by omega) (by omega) hsb h68))
        · refine g_lv (lv' := [(0, .ref b), (2, .int (nI (y)))]) [1, 0] rfl ?_
          exact Kt y hy (he.trans (rdL_hit (by omega) (by omega) hsb h68))
set_option maxHeartbeats 4000000 in
set_option maxRecDepth 100000 in
theorem m_B_read_w (l : Launch) (D : va_G) (cs : ClassId × ClassId × ClassId × ClassId) (b k bc bl bx a al ac ah an g gr : Nat) (ct : Nat → Nat) (lo ex : Nat → Int32) (wr : Nat) (lv9 : Int64) (rl : Nat) (ln cn sn xn : Nat → Nat) (fl : Nat) (rb : Nat → Nat) (st sz : Nat) (hl : ∀ j, j < 48 → ln j ≤ 16) (hc : ∀ j, j < 48 → cn j < 2 ^ 31) (hs : st < 400) (hz : sz ≤ 400) (hb : ∀ j, j < 400 → rb j < 2) (hf : fl ≤ 65536) (hrd : rdL ln cn rb st sz 16 1 = (0, 0)) : MG l y_B_read k_B_read { frames := 2, cells := 0, slots := 0, locals := 52 } D cs [.ref b] [(b, .inr (3, [.ref a, .ref k, .ref g, .ref bc, .ref bl, .ref bx, .int (nI (wr)), .long (lv9)])), (bc, .inl (cs.2.1, 48, .inr (.inl (fun j => lN (ct j))))), (bl, .inl (cs.1, 48, .inl (lo))), (bx, .inl (cs.1, 48, .inl (ex))), (a, .inr (1, [.int (nI (rl)), .ref al, .ref ac, .ref ah, .ref an, .int (nI (fl))])), (al, .inl (cs.1, 48, .inl (fun j => nI (ln j)))), (ac, .inl (cs.1, 48, .inl (fun j => nI (cn j)))), (ah, .inl (cs.1, 17, .inl (fun j => nI (sn j)))), (an, .inl (cs.1, 17, .inl (fun j => nI (xn j)))), (g, .inr (2, [.ref gr, .int (nI (st)), .int (nI (sz))])), (gr, .inl (cs.1, 400, .inl (fun j => nI (rb j))))] (QI D ((-1)) [(b, .inr (3, [.ref a, .ref k, .ref g, .ref bc, .ref bl, .ref bx, .int (nI (wr)), .long (lv9)])), (bc, .inl (cs.2.1, 48, .inr (.inl (fun j => lN (ct j))))), (bl, .inl (cs.1, 48, .inl (lo))), (bx, .inl (cs.1, 48, .inl (ex))), (a, .inr (1, [.int (nI (rl)), .ref al, .ref ac, .ref ah, .ref an, .int (nI (fl))])), (al, .inl (cs.1, 48, .inl (fun j => nI (ln j)))), (ac, .inl (cs.1, 48, .inl (fun j => nI (cn j)))), (ah, .inl (cs.1, 17, .inl (fun j => nI (sn j)))), (an, .inl (cs.1, 17, .inl (fun j => nI (xn j)))), (g, .inr (2, [.ref gr, .int (nI (st)), .int (nI (sz))])), (gr, .inl (cs.1, 400, .inl (fun j => nI (rb j))))]) := by
  refine MG.mk (own := RB) (by decide) rfl (Nat.le_of_ble_eq_true rfl) ?_
  intro p e s m below meth c A C hr hlk
  refine g_lv (lv' := [(0, .ref b)]) [0] rfl ?_
  refine g_aload_n C d_B_read_0 0 rfl rfl ?_
  refine g_callVv C (n := 0) (ws' := [(b, .inr (3, [.ref a, .ref k, .ref g, .ref bc, .ref bl, .ref bx, .int (nI (wr)), .long (lv9)])), (bc, .inl (cs.2.1, 48, .inr (.inl (fun j => lN (ct j))))), (bl, .inl (cs.1, 48, .inl (lo))), (bx, .inl (cs.1, 48, .inl (ex))), (a, .inr (1, [.int (nI (rl)), .ref al, .ref ac, .ref ah, .ref an, .int (nI (fl))])), (al, .inl (cs.1, 48, .inl (fun j => nI (ln j)))), (ac, .inl (cs.1, 48, .inl (fun j => nI (cn j)))), (ah, .inl (cs.1, 17, .inl (fun j => nI (sn j)))), (an, .inl (cs.1, 17, .inl (fun j => nI (xn j)))), (g, .inr (2, [.ref gr, .int (nI (st)), .int (nI (sz))])), (gr, .inl (cs.1, 400, .inl (fun j => nI (rb j))))]) (As := []) (rest := []) (m_B_needCodes l D cs b k bc bl bx a al ac ah an g gr (ct) (lo) (ex) (wr) (lv9) (rl) (ln) (cn) (sn) (xn) (fl) (rb) (st) (sz) (by omega)) tw_345 tw_347 ts_12 tw_1 tw_348 rfl 0 rfl rfl (by decide +kernel) rfl ⟨rfl, rfl, by decide, by decide, by decide⟩ rfl [0, 1, 2, 3, 4, 5, 6, 7, 8, 9, 10] rfl rfl (by decide) (Nat.le_of_ble_eq_true rfl) rfl d_B_read_1 ?_
  refine g_iconst C (v := nI 1) d_B_read_4 rfl ?_
  refine g_istore_n C (lv' := [(1, .int (nI (1))), (0, .ref b)]) d_B_read_5 rfl (by decide) rfl ?_
  refine g_lv (lv' := [(0, .ref b), (1, .int (nI (1)))]) [1, 0] rfl ?_
  refine l_B_read C b k bc bl bx a al ac ah an g gr ct lo ex wr lv9 rl ln cn sn xn fl rb st sz hl hc hs hz hb ?_ (fun k9 _ _ _ h => absurd (h.symm.trans hrd) (by simp)) (fun y9 _ h => absurd (h.symm.trans hrd) (by simp)) _ 1 rfl (by omega) (by omega) rfl
  intro _
  refine g_iconst C (v := (-1)) d_B_read_83 rfl ?_
  exact g_iret C hr hlk rfl rfl d_B_read_84
set_option maxHeartbeats 4000000 in
set_option maxRecDepth 100000 in
theorem m_B_read_n (l : Launch) (D : va_G) (cs : ClassId × ClassId × ClassId × ClassId) (b k bc bl bx a al ac ah an g gr : Nat) (ct : Nat → Nat) (lo ex : Nat → Int32) (wr : Nat) (lv9 : Int64) (rl : Nat) (ln cn sn xn : Nat → Nat) (fl : Nat) (rb : Nat → Nat) (st sz : Nat) (hl : ∀ j, j < 48 → ln j ≤ 16) (hc : ∀ j, j < 48 → cn j < 2 ^ 31) (hs : st < 400) (hz : sz ≤ 400) (hb : ∀ j, j < 400 → rb j < 2) (hf : fl ≤ 65536) (kk : Nat) (hrd : rdL ln cn rb st sz 16 1 = (1, kk)) : MG l y_B_read k_B_read { frames := 2, cells := 0, slots := 0, locals := 52 } D cs [.ref b] [(b, .inr (3, [.ref a, .ref k, .ref g, .ref bc, .ref bl, .ref bx, .int (nI (wr)), .long (lv9)])), (bc, .inl (cs.2.1, 48, .inr (.inl (fun j => lN (ct j))))), (bl, .inl (cs.1, 48, .inl (lo))), (bx, .inl (cs.1, 48, .inl (ex))), (a, .inr (1, [.int (nI (rl)), .ref al, .ref ac, .ref ah, .ref an, .int (nI (fl))])), (al, .inl (cs.1, 48, .inl (fun j => nI (ln j)))), (ac, .inl (cs.1, 48, .inl (fun j => nI (cn j)))), (ah, .inl (cs.1, 17, .inl (fun j => nI (sn j)))), (an, .inl (cs.1, 17, .inl (fun j => nI (xn j)))), (g, .inr (2, [.ref gr, .int (nI (st)), .int (nI (sz))])), (gr, .inl (cs.1, 400, .inl (fun j => nI (rb j))))] (QI D ((-2)) [(b, .inr (3, [.ref a, .ref k, .ref g, .ref bc, .ref bl, .ref bx, .int (nI (wr)), .long (lv9)])), (bc, .inl (cs.2.1, 48, .inr (.inl (fun j => lN (ct j))))), (bl, .inl (cs.1, 48, .inl (lo))), (bx, .inl (cs.1, 48, .inl (ex))), (a, .inr (1, [.int (nI (rl)), .ref al, .ref ac, .ref ah, .ref an, .int (nI (fl))])), (al, .inl (cs.1, 48, .inl (fun j => nI (ln j)))), (ac, .inl (cs.1, 48, .inl (fun j => nI (cn j)))), (ah, .inl (cs.1, 17, .inl (fun j => nI (sn j)))), (an, .inl (cs.1, 17, .inl (fun j => nI (xn j)))), (g, .inr (2, [.ref gr, .int (nI (((st) + (kk)) % 400)), .int (nI ((sz) - (kk)))])), (gr, .inl (cs.1, 400, .inl (fun j => nI (rb j))))]) := by
  refine MG.mk (own := RB) (by decide) rfl (Nat.le_of_ble_eq_true rfl) ?_
  intro p e s m below meth c A C hr hlk
  refine g_lv (lv' := [(0, .ref b)]) [0] rfl ?_
  refine g_aload_n C d_B_read_0 0 rfl rfl ?_
  refine g_callVv C (n := 0) (ws' := [(b, .inr (3, [.ref a, .ref k, .ref g, .ref bc, .ref bl, .ref bx, .int (nI (wr)), .long (lv9)])), (bc, .inl (cs.2.1, 48, .inr (.inl (fun j => lN (ct j))))), (bl, .inl (cs.1, 48, .inl (lo))), (bx, .inl (cs.1, 48, .inl (ex))), (a, .inr (1, [.int (nI (rl)), .ref al, .ref ac, .ref ah, .ref an, .int (nI (fl))])), (al, .inl (cs.1, 48, .inl (fun j => nI (ln j)))), (ac, .inl (cs.1, 48, .inl (fun j => nI (cn j)))), (ah, .inl (cs.1, 17, .inl (fun j => nI (sn j)))), (an, .inl (cs.1, 17, .inl (fun j => nI (xn j)))), (g, .inr (2, [.ref gr, .int (nI (st)), .int (nI (sz))])), (gr, .inl (cs.1, 400, .inl (fun j => nI (rb j))))]) (As := []) (rest := []) (m_B_needCodes l D cs b k bc bl bx a al ac ah an g gr (ct) (lo) (ex) (wr) (lv9) (rl) (ln) (cn) (sn) (xn) (fl) (rb) (st) (sz) (by omega)) tw_345 tw_347 ts_12 tw_1 tw_348 rfl 0 rfl rfl (by decide +kernel) rfl ⟨rfl, rfl, by decide, by decide, by decide⟩ rfl [0, 1, 2, 3, 4, 5, 6, 7, 8, 9, 10] rfl rfl (by decide) (Nat.le_of_ble_eq_true rfl) rfl d_B_read_1 ?_
  refine g_iconst C (v := nI 1) d_B_read_4 rfl ?_
  refine g_istore_n C (lv' := [(1, .int (nI (1))), (0, .ref b)]) d_B_read_5 rfl (by decide) rfl ?_
  refine g_lv (lv' := [(0, .ref b), (1, .int (nI (1)))]) [1, 0] rfl ?_
  refine l_B_read C b k bc bl bx a al ac ah an g gr ct lo ex wr lv9 rl ln cn sn xn fl rb st sz hl hc hs hz hb (fun h => absurd (h.symm.trans hrd) (by simp)) ?_ (fun y9 _ h => absurd (h.symm.trans hrd) (by simp)) _ 1 rfl (by omega) (by omega) rfl
  intro k9 h1k hk16 hksz hrd2
  obtain rfl : k9 = kk := by have := hrd2.symm.trans hrd; simpa using this
  refine g_aload_n C d_B_read_47 0 rfl rfl ?_
  refine g_get C (T := FB) (N := 8) 0 2 inB rfl rfl (by decide) tw_107 rfl rfl d_B_read_48 ?_
  refine g_iload_n C d_B_read_51 1 rfl rfl ?_
  refine g_callVv C (n := 1) (ws' := [(b, .inr (3, [.ref a, .ref k, .ref g, .ref bc, .ref bl, .ref bx, .int (nI (wr)), .long (lv9)])), (bc, .inl (cs.2.1, 48, .inr (.inl (fun j => lN (ct j))))), (bl, .inl (cs.1, 48, .inl (lo))), (bx, .inl (cs.1, 48, .inl (ex))), (a, .inr (1, [.int (nI (rl)), .ref al, .ref ac, .ref ah, .ref an, .int (nI (fl))])), (al, .inl (cs.1, 48, .inl (fun j => nI (ln j)))), (ac, .inl (cs.1, 48, .inl (fun j => nI (cn j)))), (ah, .inl (cs.1, 17, .inl (fun j => nI (sn j)))), (an, .inl (cs.1, 17, .inl (fun j => nI (xn j)))), (g, .inr (2, [.ref gr, .int (nI (((st) + (k9)) % 400)), .int (nI ((sz) - (k9)))])), (gr, .inl (cs.1, 400, .inl (fun j => nI (rb j))))]) (As := [.int (nI (k9))]) (rest := []) (m_G_drop l D cs g gr (rb) (st) (sz) (k9) hs hz hksz) tw_197 tw_198 tw_199 tw_3 tw_200 rfl 0 rfl rfl (by decide +kernel) rfl ⟨rfl, rfl, by decide, by decide, by decide⟩ rfl [9, 10] rfl rfl (by decide) (Nat.le_of_ble_eq_true rfl) rfl d_B_read_52 ?_
  refine g_bipush C (v := (-2)) d_B_read_55 rfl ?_
  exact g_iret C hr hlk rfl rfl d_B_read_57
set_option maxHeartbeats 4000000 in
set_option maxRecDepth 100000 in
theorem m_B_read_u (l : Launch) (D : va_G) (cs : ClassId × ClassId × ClassId × ClassId) (b k bc bl bx a al ac ah an g gr : Nat) (ct : Nat → Nat) (lo ex : Nat → Int32) (wr : Nat) (lv9 : Int64) (rl : Nat) (ln cn sn xn : Nat → Nat) (fl : Nat) (rb : Nat → Nat) (st sz : Nat) (hl : ∀ j, j < 48 → ln j ≤ 16) (hc : ∀ j, j < 48 → cn j < 2 ^ 31) (hs : st < 400) (hz : sz ≤ 400) (hb : ∀ j, j < 400 → rb j < 2) (hf : fl ≤ 65536) (y : Nat) (hrd : rdL ln cn rb st sz 16 1 = (2, y)) (hx : ∀ j, j < 48 → -32 ≤ (ex j).toInt ∧ (ex j).toInt ≤ 32) (hw : sz < ln y + (ex y).toInt.natAbs) : MG l y_B_read k_B_read { frames := 2, cells := 0, slots := 0, locals := 52 } D cs [.ref b] [(b, .inr (3, [.ref a, .ref k, .ref g, .ref bc, .ref bl, .ref bx, .int (nI (wr)), .long (lv9)])), (bc, .inl (cs.2.1, 48, .inr (.inl (fun j => lN (ct j))))), (bl, .inl (cs.1, 48, .inl (lo))), (bx, .inl (cs.1, 48, .inl (ex))), (a, .inr (1, [.int (nI (rl)), .ref al, .ref ac, .ref ah, .ref an, .int (nI (fl))])), (al, .inl (cs.1, 48, .inl (fun j => nI (ln j)))), (ac, .inl (cs.1, 48, .inl (fun j => nI (cn j)))), (ah, .inl (cs.1, 17, .inl (fun j => nI (sn j)))), (an, .inl (cs.1, 17, .inl (fun j => nI (xn j)))), (g, .inr (2, [.ref gr, .int (nI (st)), .int (nI (sz))])), (gr, .inl (cs.1, 400, .inl (fun j => nI (rb j))))] (QI D ((-1)) [(b, .inr (3, [.ref a, .ref k, .ref g, .ref bc, .ref bl, .ref bx, .int (nI (wr)), .long (lv9)])), (bc, .inl (cs.2.1, 48, .inr (.inl (fun j => lN (ct j))))), (bl, .inl (cs.1, 48, .inl (lo))), (bx, .inl (cs.1, 48, .inl (ex))), (a, .inr (1, [.int (nI (rl)), .ref al, .ref ac, .ref ah, .ref an, .int (nI (fl))])), (al, .inl (cs.1, 48, .inl (fun j => nI (ln j)))), (ac, .inl (cs.1, 48, .inl (fun j => nI (cn j)))), (ah, .inl (cs.1, 17, .inl (fun j => nI (sn j)))), (an, .inl (cs.1, 17, .inl (fun j => nI (xn j)))), (g, .inr (2, [.ref gr, .int (nI (st)), .int (nI (sz))])), (gr, .inl (cs.1, 400, .inl (fun j => nI (rb j))))]) := by
  refine MG.mk (own := RB) (by decide) rfl (Nat.le_of_ble_eq_true rfl) ?_
  intro p e s m below meth c A C hr hlk
  refine g_lv (lv' := [(0, .ref b)]) [0] rfl ?_
  refine g_aload_n C d_B_read_0 0 rfl rfl ?_
  refine g_callVv C (n := 0) (ws' := [(b, .inr (3, [.ref a, .ref k, .ref g, .ref bc, .ref bl, .ref bx, .int (nI (wr)), .long (lv9)])), (bc, .inl (cs.2.1, 48, .inr (.inl (fun j => lN (ct j))))), (bl, .inl (cs.1, 48, .inl (lo))), (bx, .inl (cs.1, 48, .inl (ex))), (a, .inr (1, [.int (nI (rl)), .ref al, .ref ac, .ref ah, .ref an, .int (nI (fl))])), (al, .inl (cs.1, 48, .inl (fun j => nI (ln j)))), (ac, .inl (cs.1, 48, .inl (fun j => nI (cn j)))), (ah, .inl (cs.1, 17, .inl (fun j => nI (sn j)))), (an, .inl (cs.1, 17, .inl (fun j => nI (xn j)))), (g, .inr (2, [.ref gr, .int (nI (st)), .int (nI (sz))])), (gr, .inl (cs.1, 400, .inl (fun j => nI (rb j))))]) (As := []) (rest := []) (m_B_needCodes l D cs b k bc bl bx a al ac ah an g gr (ct) (lo) (ex) (wr) (lv9) (rl) (ln) (cn) (sn) (xn) (fl) (rb) (st) (sz) (by omega)) tw_345 tw_347 ts_12 tw_1 tw_348 rfl 0 rfl rfl (by decide +kernel) rfl ⟨rfl, rfl, by decide, by decide, by decide⟩ rfl [0, 1, 2, 3, 4, 5, 6, 7, 8, 9, 10] rfl rfl (by decide) (Nat.le_of_ble_eq_true rfl) rfl d_B_read_1 ?_
  refine g_iconst C (v := nI 1) d_B_read_4 rfl ?_
  refine g_istore_n C (lv' := [(1, .int (nI (1))), (0, .ref b)]) d_B_read_5 rfl (by decide) rfl ?_
  refine g_lv (lv' := [(0, .ref b), (1, .int (nI (1)))]) [1, 0] rfl ?_
  refine l_B_read C b k bc bl bx a al ac ah an g gr ct lo ex wr lv9 rl ln cn sn xn fl rb st sz hl hc hs hz hb (fun h => absurd (h.symm.trans hrd) (by simp)) (fun k9 _ _ _ h => absurd (h.symm.trans hrd) (by simp)) ?_ _ 1 rfl (by omega) (by omega) rfl
  intro y9 hy hrd2
  obtain rfl : y9 = y := by have := hrd2.symm.trans hrd; simpa using this
  refine g_aload_n C d_B_read_71 0 rfl rfl ?_
  refine g_iload_n C d_B_read_72 1 rfl rfl ?_
  refine g_callVi C (n := 1) (ws' := [(b, .inr (3, [.ref a, .ref k, .ref g, .ref bc, .ref bl, .ref bx, .int (nI (wr)), .long (lv9)])), (bc, .inl (cs.2.1, 48, .inr (.inl (fun j => lN (ct j))))), (bl, .inl (cs.1, 48, .inl (lo))), (bx, .inl (cs.1, 48, .inl (ex))), (a, .inr (1, [.int (nI (rl)), .ref al, .ref ac, .ref ah, .ref an, .int (nI (fl))])), (al, .inl (cs.1, 48, .inl (fun j => nI (ln j)))), (ac, .inl (cs.1, 48, .inl (fun j => nI (cn j)))), (ah, .inl (cs.1, 17, .inl (fun j => nI (sn j)))), (an, .inl (cs.1, 17, .inl (fun j => nI (xn j)))), (g, .inr (2, [.ref gr, .int (nI (st)), .int (nI (sz))])), (gr, .inl (cs.1, 400, .inl (fun j => nI (rb j))))]) (As := [.int (nI (y9))]) (rest := []) (m_B_takeSymbol_w l D cs b k bc bl bx a al ac ah an g gr (ct) (lo) (ex) (wr) (lv9) (rl) (ln) (cn) (sn) (xn) (fl) (rb) (st) (sz) (y9) hy hl hx hs hz hb hw) tw_415 tw_417 ts_14 tw_1 tw_418 rfl 0 rfl rfl (by decide +kernel) rfl ⟨rfl, rfl, by decide, by decide, by decide⟩ rfl [0, 1, 2, 3, 4, 5, 6, 7, 8, 9, 10] rfl rfl (by decide) (Nat.le_of_ble_eq_true rfl) rfl d_B_read_73 ?_
  exact g_iret C hr hlk rfl rfl d_B_read_76
set_option maxHeartbeats 4000000 in
set_option maxRecDepth 100000 in
theorem m_B_read_t (l : Launch) (D : va_G) (cs : ClassId × ClassId × ClassId × ClassId) (b k bc bl bx a al ac ah an g gr : Nat) (ct : Nat → Nat) (lo ex : Nat → Int32) (wr : Nat) (lv9 : Int64) (rl : Nat) (ln cn sn xn : Nat → Nat) (fl : Nat) (rb : Nat → Nat) (st sz : Nat) (hl : ∀ j, j < 48 → ln j ≤ 16) (hc : ∀ j, j < 48 → cn j < 2 ^ 31) (hs : st < 400) (hz : sz ≤ 400) (hb : ∀ j, j < 400 → rb j < 2) (hf : fl ≤ 65536) (y : Nat) (hrd : rdL ln cn rb st sz 16 1 = (2, y)) (hx : ∀ j, j < 48 → -32 ≤ (ex j).toInt ∧ (ex j).toInt ≤ 32) (hw : ln y + (ex y).toInt.natAbs ≤ sz) : MG l y_B_read k_B_read { frames := 2, cells := 0, slots := 0, locals := 52 } D cs [.ref b] [(b, .inr (3, [.ref a, .ref k, .ref g, .ref bc, .ref bl, .ref bx, .int (nI (wr)), .long (lv9)])), (bc, .inl (cs.2.1, 48, .inr (.inl (fun j => lN (ct j))))), (bl, .inl (cs.1, 48, .inl (lo))), (bx, .inl (cs.1, 48, .inl (ex))), (a, .inr (1, [.int (nI (rl)), .ref al, .ref ac, .ref ah, .ref an, .int (nI (fl))])), (al, .inl (cs.1, 48, .inl (fun j => nI (ln j)))), (ac, .inl (cs.1, 48, .inl (fun j => nI (cn j)))), (ah, .inl (cs.1, 17, .inl (fun j => nI (sn j)))), (an, .inl (cs.1, 17, .inl (fun j => nI (xn j)))), (g, .inr (2, [.ref gr, .int (nI (st)), .int (nI (sz))])), (gr, .inl (cs.1, 400, .inl (fun j => nI (rb j))))] (QI D (nI (y)) [(b, .inr (3, [.ref a, .ref k, .ref g, .ref bc, .ref bl, .ref bx, .int (nI (1)), .long ((if (ex y) < 0 then (lo y).toInt64 - lN (nmb rb st (ln y) (ex y).toInt.natAbs) else (lo y).toInt64 + lN (nmb rb st (ln y) (ex y).toInt.natAbs)))])), (bc, .inl (cs.2.1, 48, .inr (.inl (fun j => lN (ct j))))), (bl, .inl (cs.1, 48, .inl (lo))), (bx, .inl (cs.1, 48, .inl (ex))), (a, .inr (1, [.int (nI (rl)), .ref al, .ref ac, .ref ah, .ref an, .int (nI (fl))])), (al, .inl (cs.1, 48, .inl (fun j => nI (ln j)))), (ac, .inl (cs.1, 48, .inl (fun j => nI (cn j)))), (ah, .inl (cs.1, 17, .inl (fun j => nI (sn j)))), (an, .inl (cs.1, 17, .inl (fun j => nI (xn j)))), (g, .inr (2, [.ref gr, .int (nI (((st) + (ln y + (ex y).toInt.natAbs)) % 400)), .int (nI ((sz) - (ln y + (ex y).toInt.natAbs)))])), (gr, .inl (cs.1, 400, .inl (fun j => nI (rb j))))]) := by
  refine MG.mk (own := RB) (by decide) rfl (Nat.le_of_ble_eq_true rfl) ?_
  intro p e s m below meth c A C hr hlk
  refine g_lv (lv' := [(0, .ref b)]) [0] rfl ?_
  refine g_aload_n C d_B_read_0 0 rfl rfl ?_
  refine g_callVv C (n := 0) (ws' := [(b, .inr (3, [.ref a, .ref k, .ref g, .ref bc, .ref bl, .ref bx, .int (nI (wr)), .long (lv9)])), (bc, .inl (cs.2.1, 48, .inr (.inl (fun j => lN (ct j))))), (bl, .inl (cs.1, 48, .inl (lo))), (bx, .inl (cs.1, 48, .inl (ex))), (a, .inr (1, [.int (nI (rl)), .ref al, .ref ac, .ref ah, .ref an, .int (nI (fl))])), (al, .inl (cs.1, 48, .inl (fun j => nI (ln j)))), (ac, .inl (cs.1, 48, .inl (fun j => nI (cn j)))), (ah, .inl (cs.1, 17, .inl (fun j => nI (sn j)))), (an, .inl (cs.1, 17, .inl (fun j => nI (xn j)))), (g, .inr (2, [.ref gr, .int (nI (st)), .int (nI (sz))])), (gr, .inl (cs.1, 400, .inl (fun j => nI (rb j))))]) (As := []) (rest := []) (m_B_needCodes l D cs b k bc bl bx a al ac ah an g gr (ct) (lo) (ex) (wr) (lv9) (rl) (ln) (cn) (sn) (xn) (fl) (rb) (st) (sz) (by omega)) tw_345 tw_347 ts_12 tw_1 tw_348 rfl 0 rfl rfl (by decide +kernel) rfl ⟨rfl, rfl, by decide, by decide, by decide⟩ rfl [0, 1, 2, 3, 4, 5, 6, 7, 8, 9, 10] rfl rfl (by decide) (Nat.le_of_ble_eq_true rfl) rfl d_B_read_1 ?_
  refine g_iconst C (v := nI 1) d_B_read_4 rfl ?_
  refine g_istore_n C (lv' := [(1, .int (nI (1))), (0, .ref b)]) d_B_read_5 rfl (by decide) rfl ?_
  refine g_lv (lv' := [(0, .ref b), (1, .int (nI (1)))]) [1, 0] rfl ?_
  refine l_B_read C b k bc bl bx a al ac ah an g gr ct lo ex wr lv9 rl ln cn sn xn fl rb st sz hl hc hs hz hb (fun h => absurd (h.symm.trans hrd) (by simp)) (fun k9 _ _ _ h => absurd (h.symm.trans hrd) (by simp)) ?_ _ 1 rfl (by omega) (by omega) rfl
  intro y9 hy hrd2
  obtain rfl : y9 = y := by have := hrd2.symm.trans hrd; simpa using this
  refine g_aload_n C d_B_read_71 0 rfl rfl ?_
  refine g_iload_n C d_B_read_72 1 rfl rfl ?_
  refine g_callVi C (n := 1) (ws' := [(b, .inr (3, [.ref a, .ref k, .ref g, .ref bc, .ref bl, .ref bx, .int (nI (1)), .long ((if (ex y9) < 0 then (lo y9).toInt64 - lN (nmb rb st (ln y9) (ex y9).toInt.natAbs) else (lo y9).toInt64 + lN (nmb rb st (ln y9) (ex y9).toInt.natAbs)))])), (bc, .inl (cs.2.1, 48, .inr (.inl (fun j => lN (ct j))))), (bl, .inl (cs.1, 48, .inl (lo))), (bx, .inl (cs.1, 48, .inl (ex))), (a, .inr (1, [.int (nI (rl)), .ref al, .ref ac, .ref ah, .ref an, .int (nI (fl))])), (al, .inl (cs.1, 48, .inl (fun j => nI (ln j)))), (ac, .inl (cs.1, 48, .inl (fun j => nI (cn j)))), (ah, .inl (cs.1, 17, .inl (fun j => nI (sn j)))), (an, .inl (cs.1, 17, .inl (fun j => nI (xn j)))), (g, .inr (2, [.ref gr, .int (nI (((st) + (ln y9 + (ex y9).toInt.natAbs)) % 400)), .int (nI ((sz) - (ln y9 + (ex y9).toInt.natAbs)))])), (gr, .inl (cs.1, 400, .inl (fun j => nI (rb j))))]) (As := [.int (nI (y9))]) (rest := []) (m_B_takeSymbol_t l D cs b k bc bl bx a al ac ah an g gr (ct) (lo) (ex) (wr) (lv9) (rl) (ln) (cn) (sn) (xn) (fl) (rb) (st) (sz) (y9) hy hl hx hs hz hb hw) tw_415 tw_417 ts_14 tw_1 tw_418 rfl 0 rfl rfl (by decide +kernel) rfl ⟨rfl, rfl, by decide, by decide, by decide⟩ rfl [0, 1, 2, 3, 4, 5, 6, 7, 8, 9, 10] rfl rfl (by decide) (Nat.le_of_ble_eq_true rfl) rfl d_B_read_73 ?_
  exact g_iret C hr hlk rfl rfl d_B_read_76
