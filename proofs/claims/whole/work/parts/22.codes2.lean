/-- the number told at a place -/
def ntd (ln : Nat → Nat) (en at9 : Nat) : Nat :=
  if 3 ≤ rnf ln 0 (en - at9) at9 then 200 + min (rnf ln 0 (en - at9) at9) 138
  else if 3 ≤ (if at9 = 0 then 0 else rnf ln (ln (at9 - 1)) (en - at9) at9) then 100 + min (if at9 = 0 then 0 else rnf ln (ln (at9 - 1)) (en - at9) at9) 6 else ln at9
/-- how many lengths it tells -/
def ltb (t : Nat) : Nat := if 200 < t then t - 200 else if 100 < t then t - 100 else 1
theorem ntd_le {ln : Nat → Nat} (hl : ∀ j, j < 48 → ln j ≤ 16) {en at9 : Nat} (h : at9 < 48) : ntd ln en at9 ≤ 338 := by
  have := hl at9 h
  unfold ntd; (repeat' split) <;> omega
theorem ltb_le {t : Nat} (h : t ≤ 338) : ltb t ≤ 138 := by unfold ltb; (repeat' split) <;> omega
theorem rnf_le (ln : Nat → Nat) (L : Nat) : ∀ n at9, rnf ln L n at9 ≤ n
  | 0, _ => Nat.zero_le _
  | n + 1, at9 => by have := rnf_le ln L n (at9 + 1); unfold rnf; split <;> omega
/-- number i of those told from number q on, at a place -/
def rsl (ln : Nat → Nat) (en : Nat) (i : Int32) : Nat → Nat → Nat → Int32
  | 0, _, _ => -1
  | f + 1, at9, q => if at9 < en then (if nI q = i then nI (ntd ln en at9) else rsl ln en i f (at9 + ltb (ntd ln en at9)) (q + 1)) else -1
theorem rsl_end {ln : Nat → Nat} {en : Nat} {i : Int32} {at9 q : Nat} (h : en ≤ at9) : ∀ f, rsl ln en i f at9 q = -1
  | 0 => rfl
  | f + 1 => by rw [rsl, if_neg (by omega)]
theorem rsl_hit {ln : Nat → Nat} {en : Nat} {i : Int32} {at9 q : Nat} (hq : q < 48) (h : at9 < en) (e : nI q = i) : rsl ln en i (48 - q) at9 q = nI (ntd ln en at9) := by
  obtain ⟨f9, hf9⟩ : ∃ f9, 48 - q = f9 + 1 := ⟨48 - q - 1, by omega⟩
  rw [hf9, rsl, if_pos h, if_pos e]
theorem rsl_next {ln : Nat → Nat} {en : Nat} {i : Int32} {at9 q : Nat} (hq : q < 48) (h : at9 < en) (e : ¬ nI q = i) : rsl ln en i (48 - q) at9 q = rsl ln en i (48 - (q + 1)) (at9 + ltb (ntd ln en at9)) (q + 1) := by
  obtain ⟨f9, hf9⟩ : ∃ f9, 48 - q = f9 + 1 := ⟨48 - q - 1, by omega⟩
  rw [hf9, rsl, if_pos h, if_neg e, show 48 - (q + 1) = f9 by omega]
theorem eol_le (ln : Nat → Nat) : ∀ k, eol ln k ≤ k
  | 0 => Nat.le_refl _
  | k + 1 => by have := eol_le ln k; unfold eol; split <;> omega

set_option maxHeartbeats 4000000 in
set_option maxRecDepth 100000 in
theorem m_B_tellLength (l : Launch) (D : va_G) (cs : ClassId × ClassId × ClassId × ClassId) (b k bc bl bx a al ac ah an g gr : Nat) (ct : Nat → Nat) (lo ex : Nat → Int32) (wr : Nat) (lv9 : Int64) (rl : Nat) (ln cn sn xn : Nat → Nat) (fl : Nat) (rb : Nat → Nat) (st sz : Nat) (y L : Nat) (hy : y < 48) (hL : L ≤ 16) (hl : ∀ j, j < 48 → ln j ≤ 16) (hrl : rl < 3) : MG l y_B_tellLength k_B_tellLength { frames := 3, cells := 0, slots := 0, locals := 64 } D cs [.ref b, .int (nI (y)), .int (nI (L))] [(b, .inr (3, [.ref a, .ref k, .ref g, .ref bc, .ref bl, .ref bx, .int (nI (wr)), .long (lv9)])), (bc, .inl (cs.2.1, 48, .inr (.inl (fun j => lN (ct j))))), (bl, .inl (cs.1, 48, .inl (lo))), (bx, .inl (cs.1, 48, .inl (ex))), (a, .inr (1, [.int (nI (rl)), .ref al, .ref ac, .ref ah, .ref an, .int (nI (fl))])), (al, .inl (cs.1, 48, .inl (fun j => nI (ln j)))), (ac, .inl (cs.1, 48, .inl (fun j => nI (cn j)))), (ah, .inl (cs.1, 17, .inl (fun j => nI (sn j)))), (an, .inl (cs.1, 17, .inl (fun j => nI (xn j)))), (g, .inr (2, [.ref gr, .int (nI (st)), .int (nI (sz))])), (gr, .inl (cs.1, 400, .inl (fun j => nI (rb j))))] (QI D (nI (if stt (fll (updN ln y L)) = 2 then 0 else 1)) [(b, .inr (3, [.ref a, .ref k, .ref g, .ref bc, .ref bl, .ref bx, .int (nI (wr)), .long (lv9)])), (bc, .inl (cs.2.1, 48, .inr (.inl (fun j => lN (ct j))))), (bl, .inl (cs.1, 48, .inl (lo))), (bx, .inl (cs.1, 48, .inl (ex))), (a, .inr (1, [.int (nI (rl)), .ref al, .ref ac, .ref ah, .ref an, .int (nI (fll (updN ln y L)))])), (al, .inl (cs.1, 48, .inl (fun j => nI ((updN (ln) (y) (L)) j)))), (ac, .inl (cs.1, 48, .inl (fun j => nI ((cN rl (updN ln y L) cn) j)))), (ah, .inl (cs.1, 17, .inl (fun j => nI ((shr (updN ln y L) 48) j)))), (an, .inl (cs.1, 17, .inl (fun j => nI ((xN rl (updN ln y L) xn) j)))), (g, .inr (2, [.ref gr, .int (nI (st)), .int (nI (sz))])), (gr, .inl (cs.1, 400, .inl (fun j => nI (rb j))))]) := by
  refine MG.mk (own := RB) (by decide) rfl (Nat.le_of_ble_eq_true rfl) ?_
  intro p e s m below meth c A C hr hlk
  refine g_lv (lv' := [(0, .ref b), (1, .int (nI (y))), (2, .int (nI (L)))]) [0, 1, 2] rfl ?_
  refine g_aload_n C d_B_tellLength_0 0 rfl rfl ?_
  refine g_get C (T := FB) (N := 8) 0 0 inB rfl rfl (by decide) tw_105 rfl rfl d_B_tellLength_1 ?_
  refine g_getN C (T := FT) (N := 6) (k := 1) C.2.2.2.2.1 4 inT rfl rfl (by decide) rfl rfl d_B_tellLength_4 ?_
  refine g_iload_n C d_B_tellLength_7 1 rfl rfl ?_
  refine g_iload_n C d_B_tellLength_8 2 rfl rfl ?_
  refine n_iast C (ws' := [(b, .inr (3, [.ref a, .ref k, .ref g, .ref bc, .ref bl, .ref bx, .int (nI (wr)), .long (lv9)])), (bc, .inl (cs.2.1, 48, .inr (.inl (fun j => lN (ct j))))), (bl, .inl (cs.1, 48, .inl (lo))), (bx, .inl (cs.1, 48, .inl (ex))), (a, .inr (1, [.int (nI (rl)), .ref al, .ref ac, .ref ah, .ref an, .int (nI (fl))])), (al, .inl (cs.1, 48, .inl (fun j => nI ((updN (ln) (y) (L)) j)))), (ac, .inl (cs.1, 48, .inl (fun j => nI (cn j)))), (ah, .inl (cs.1, 17, .inl (fun j => nI (sn j)))), (an, .inl (cs.1, 17, .inl (fun j => nI (xn j)))), (g, .inr (2, [.ref gr, .int (nI (st)), .int (nI (sz))])), (gr, .inl (cs.1, 400, .inl (fun j => nI (rb j))))]) 5 rfl (by omega) (by decide) rfl d_B_tellLength_9 ?_
  refine g_aload_n C d_B_tellLength_10 0 rfl rfl ?_
  refine g_get C (T := FB) (N := 8) 0 0 inB rfl rfl (by decide) tw_105 rfl rfl d_B_tellLength_11 ?_
  refine g_callVv C (n := 0) (ws' := [(b, .inr (3, [.ref a, .ref k, .ref g, .ref bc, .ref bl, .ref bx, .int (nI (wr)), .long (lv9)])), (bc, .inl (cs.2.1, 48, .inr (.inl (fun j => lN (ct j))))), (bl, .inl (cs.1, 48, .inl (lo))), (bx, .inl (cs.1, 48, .inl (ex))), (a, .inr (1, [.int (nI (rl)), .ref al, .ref ac, .ref ah, .ref an, .int (nI (fll ((updN (ln) (y) (L)))))])), (al, .inl (cs.1, 48, .inl (fun j => nI ((updN (ln) (y) (L)) j)))), (ac, .inl (cs.1, 48, .inl (fun j => nI ((cN (rl) ((updN (ln) (y) (L))) (cn)) j)))), (ah, .inl (cs.1, 17, .inl (fun j => nI ((shr ((updN (ln) (y) (L))) 48) j)))), (an, .inl (cs.1, 17, .inl (fun j => nI ((xN (rl) ((updN (ln) (y) (L))) (xn)) j)))), (g, .inr (2, [.ref gr, .int (nI (st)), .int (nI (sz))])), (gr, .inl (cs.1, 400, .inl (fun j => nI (rb j))))]) (As := []) (rest := []) (m_T_renew l D cs a al ac ah an (rl) ((updN (ln) (y) (L))) (cn) (sn) (xn) (fl) (fun j hj => by unfold updN; split; exact hL; exact hl j hj) hrl) tw_173 tw_174 tw_175 tw_4 tw_176 rfl 0 rfl rfl (by decide +kernel) rfl ⟨rfl, rfl, by decide, by decide, by decide⟩ rfl [4, 5, 6, 7, 8] rfl rfl (by decide) (Nat.le_of_ble_eq_true rfl) rfl d_B_tellLength_14 ?_
  refine g_aload_n C d_B_tellLength_17 0 rfl rfl ?_
  refine g_get C (T := FB) (N := 8) 0 0 inB rfl rfl (by decide) tw_105 rfl rfl d_B_tellLength_18 ?_
  refine g_callVi C (n := 0) (ws' := [(b, .inr (3, [.ref a, .ref k, .ref g, .ref bc, .ref bl, .ref bx, .int (nI (wr)), .long (lv9)])), (bc, .inl (cs.2.1, 48, .inr (.inl (fun j => lN (ct j))))), (bl, .inl (cs.1, 48, .inl (lo))), (bx, .inl (cs.1, 48, .inl (ex))), (a, .inr (1, [.int (nI (rl)), .ref al, .ref ac, .ref ah, .ref an, .int (nI (fll ((updN (ln) (y) (L)))))])), (al, .inl (cs.1, 48, .inl (fun j => nI ((updN (ln) (y) (L)) j)))), (ac, .inl (cs.1, 48, .inl (fun j => nI ((cN (rl) ((updN (ln) (y) (L))) (cn)) j)))), (ah, .inl (cs.1, 17, .inl (fun j => nI ((shr ((updN (ln) (y) (L))) 48) j)))), (an, .inl (cs.1, 17, .inl (fun j => nI ((xN (rl) ((updN (ln) (y) (L))) (xn)) j)))), (g, .inr (2, [.ref gr, .int (nI (st)), .int (nI (sz))])), (gr, .inl (cs.1, 400, .inl (fun j => nI (rb j))))]) (As := []) (rest := []) (m_T_state l D cs a al ac ah an (rl) ((updN (ln) (y) (L))) ((cN (rl) ((updN (ln) (y) (L))) (cn))) ((shr ((updN (ln) (y) (L))) 48)) ((xN (rl) ((updN (ln) (y) (L))) (xn))) (fll ((updN (ln) (y) (L)))) (fll_lt _)) tw_134 tw_135 tw_136 tw_4 tw_137 rfl 0 rfl rfl (by decide +kernel) rfl ⟨rfl, rfl, by decide, by decide, by decide⟩ rfl [4, 5, 6, 7, 8] rfl rfl (by decide) (Nat.le_of_ble_eq_true rfl) rfl d_B_tellLength_21 ?_
  refine g_iconst C (v := nI 2) d_B_tellLength_24 rfl ?_
  refine n_icmp_eq C 32 d_B_tellLength_25 (by decide) (by unfold stt; (repeat' split) <;> omega) (by omega) (fun h25 => ?_) (fun h25 => ?_)
  · refine g_iconst C (v := nI 0) d_B_tellLength_32 rfl ?_
    exact g_zret C hr hlk rfl (by first | rw [if_pos (by assumption)] | rw [if_neg (by assumption)]) rfl d_B_tellLength_33
  · refine g_iconst C (v := nI 1) d_B_tellLength_28 rfl ?_
    refine g_goto C 33 d_B_tellLength_29 (by decide) ?_
    exact g_zret C hr hlk rfl (by first | rw [if_pos (by assumption)] | rw [if_neg (by assumption)]) rfl d_B_tellLength_33
set_option maxHeartbeats 4000000 in
set_option maxRecDepth 100000 in
theorem m_B_numberTold (l : Launch) (D : va_G) (cs : ClassId × ClassId × ClassId × ClassId) (b k bc bl bx a al ac ah an g gr : Nat) (ct : Nat → Nat) (lo ex : Nat → Int32) (wr : Nat) (lv9 : Int64) (rl : Nat) (ln cn sn xn : Nat → Nat) (fl : Nat) (rb : Nat → Nat) (st sz : Nat) (at9 en : Nat) (hl : ∀ j, j < 48 → ln j ≤ 16) (he : en ≤ 48) (ha : at9 < en) : MG l y_B_numberTold k_B_numberTold { frames := 1, cells := 0, slots := 0, locals := 24 } D cs [.ref b, .int (nI (at9)), .int (nI (en))] [(b, .inr (3, [.ref a, .ref k, .ref g, .ref bc, .ref bl, .ref bx, .int (nI (wr)), .long (lv9)])), (bc, .inl (cs.2.1, 48, .inr (.inl (fun j => lN (ct j))))), (bl, .inl (cs.1, 48, .inl (lo))), (bx, .inl (cs.1, 48, .inl (ex))), (a, .inr (1, [.int (nI (rl)), .ref al, .ref ac, .ref ah, .ref an, .int (nI (fl))])), (al, .inl (cs.1, 48, .inl (fun j => nI (ln j)))), (ac, .inl (cs.1, 48, .inl (fun j => nI (cn j)))), (ah, .inl (cs.1, 17, .inl (fun j => nI (sn j)))), (an, .inl (cs.1, 17, .inl (fun j => nI (xn j)))), (g, .inr (2, [.ref gr, .int (nI (st)), .int (nI (sz))])), (gr, .inl (cs.1, 400, .inl (fun j => nI (rb j))))] (QI D (nI (ntd ln en at9)) [(b, .inr (3, [.ref a, .ref k, .ref g, .ref bc, .ref bl, .ref bx, .int (nI (wr)), .long (lv9)])), (bc, .inl (cs.2.1, 48, .inr (.inl (fun j => lN (ct j))))), (bl, .inl (cs.1, 48, .inl (lo))), (bx, .inl (cs.1, 48, .inl (ex))), (a, .inr (1, [.int (nI (rl)), .ref al, .ref ac, .ref ah, .ref an, .int (nI (fl))])), (al, .inl (cs.1, 48, .inl (fun j => nI (ln j)))), (ac, .inl (cs.1, 48, .inl (fun j => nI (cn j)))), (ah, .inl (cs.1, 17, .inl (fun j => nI (sn j)))), (an, .inl (cs.1, 17, .inl (fun j => nI (xn j)))), (g, .inr (2, [.ref gr, .int (nI (st)), .int (nI (sz))])), (gr, .inl (cs.1, 400, .inl (fun j => nI (rb j))))]) := by
  refine MG.mk (own := RB) (by decide) rfl (Nat.le_of_ble_eq_true rfl) ?_
  intro p e s m below meth c A C hr hlk
  refine g_lv (lv' := [(0, .ref b), (1, .int (nI (at9))), (2, .int (nI (en)))]) [0, 1, 2] rfl ?_
  refine g_aload_n C d_B_numberTold_0 0 rfl rfl ?_
  refine g_get C (T := FB) (N := 8) 0 0 inB rfl rfl (by decide) tw_105 rfl rfl d_B_numberTold_1 ?_
  refine g_iconst C (v := nI 0) d_B_numberTold_4 rfl ?_
  refine g_iload_n C d_B_numberTold_5 1 rfl rfl ?_
  refine g_iload_n C d_B_numberTold_6 2 rfl rfl ?_
  refine g_callVi C (n := 3) (ws' := [(b, .inr (3, [.ref a, .ref k, .ref g, .ref bc, .ref bl, .ref bx, .int (nI (wr)), .long (lv9)])), (bc, .inl (cs.2.1, 48, .inr (.inl (fun j => lN (ct j))))), (bl, .inl (cs.1, 48, .inl (lo))), (bx, .inl (cs.1, 48, .inl (ex))), (a, .inr (1, [.int (nI (rl)), .ref al, .ref ac, .ref ah, .ref an, .int (nI (fl))])), (al, .inl (cs.1, 48, .inl (fun j => nI (ln j)))), (ac, .inl (cs.1, 48, .inl (fun j => nI (cn j)))), (ah, .inl (cs.1, 17, .inl (fun j => nI (sn j)))), (an, .inl (cs.1, 17, .inl (fun j => nI (xn j)))), (g, .inr (2, [.ref gr, .int (nI (st)), .int (nI (sz))])), (gr, .inl (cs.1, 400, .inl (fun j => nI (rb j))))]) (As := [.int (nI (0)), .int (nI (at9)), .int (nI (en))]) (rest := []) (m_T_runOf l D cs a al ac ah an (rl) (ln) (cn) (sn) (xn) (fl) (0) (at9) (en) hl (by omega) he (by omega)) tw_159 tw_160 tw_161 tw_4 tw_162 rfl 0 rfl rfl (by decide +kernel) rfl ⟨rfl, rfl, by decide, by decide, by decide⟩ rfl [4, 5, 6, 7, 8] rfl rfl (by decide) (Nat.le_of_ble_eq_true rfl) rfl d_B_numberTold_7 ?_
  refine g_istore_n C (lv' := [(3, .int (nI (rnf (ln) (0) ((en) - (at9)) (at9)))), (0, .ref b), (1, .int (nI (at9))), (2, .int (nI (en)))]) d_B_numberTold_10 rfl (by decide) rfl ?_
  refine g_iload_n C d_B_numberTold_11 0 rfl rfl ?_
  refine g_iconst C (v := nI 3) d_B_numberTold_12 rfl ?_
  refine n_icmp_lt C 28 d_B_numberTold_13 (by decide) (by have := rnf_le ln 0 (en - at9) at9; omega) (by omega) (fun h13 => ?_) (fun h13 => ?_)
  · refine g_iload_n C d_B_numberTold_28 2 rfl rfl ?_
    refine n_if_ne C 36 d_B_numberTold_29 (by decide) (by omega) (fun h29 => ?_) (fun h29 => ?_)
    · refine g_aload_n C d_B_numberTold_36 1 rfl rfl ?_
      refine g_get C (T := FB) (N := 8) 0 0 inB rfl rfl (by decide) tw_105 rfl rfl d_B_numberTold_37 ?_
      refine g_aload_n C d_B_numberTold_40 1 rfl rfl ?_
      refine g_get C (T := FB) (N := 8) 0 0 inB rfl rfl (by decide) tw_105 rfl rfl d_B_numberTold_41 ?_
      refine g_getN C (T := FT) (N := 6) (k := 1) C.2.2.2.2.1 4 inT rfl rfl (by decide) rfl rfl d_B_numberTold_44 ?_
      refine g_iload_n C d_B_numberTold_47 2 rfl rfl ?_
      refine g_iconst C (v := nI 1) d_B_numberTold_48 rfl ?_
      refine g_isub C (v := nI ((at9) - (1))) d_B_numberTold_49 (pk_sub (by omega)) ?_
      refine g_iald C 5 rfl (by omega) (by decide) d_B_numberTold_50 ?_
      refine g_iload_n C d_B_numberTold_51 2 rfl rfl ?_
      refine g_iload_n C d_B_numberTold_52 3 rfl rfl ?_
      refine g_callVi C (n := 3) (ws' := [(b, .inr (3, [.ref a, .ref k, .ref g, .ref bc, .ref bl, .ref bx, .int (nI (wr)), .long (lv9)])), (bc, .inl (cs.2.1, 48, .inr (.inl (fun j => lN (ct j))))), (bl, .inl (cs.1, 48, .inl (lo))), (bx, .inl (cs.1, 48, .inl (ex))), (a, .inr (1, [.int (nI (rl)), .ref al, .ref ac, .ref ah, .ref an, .int (nI (fl))])), (al, .inl (cs.1, 48, .inl (fun j => nI (ln j)))), (ac, .inl (cs.1, 48, .inl (fun j => nI (cn j)))), (ah, .inl (cs.1, 17, .inl (fun j => nI (sn j)))), (an, .inl (cs.1, 17, .inl (fun j => nI (xn j)))), (g, .inr (2, [.ref gr, .int (nI (st)), .int (nI (sz))])), (gr, .inl (cs.1, 400, .inl (fun j => nI (rb j))))]) (As := [.int (nI (ln ((at9) - (1)))), .int (nI (at9)), .int (nI (en))]) (rest := []) (m_T_runOf l D cs a al ac ah an (rl) (ln) (cn) (sn) (xn) (fl) (ln ((at9) - (1))) (at9) (en) hl (by have := hl (at9 - 1) (by omega); omega) he (by omega)) tw_159 tw_160 tw_161 tw_4 tw_162 rfl 0 rfl rfl (by decide +kernel) rfl ⟨rfl, rfl, by decide, by decide, by decide⟩ rfl [4, 5, 6, 7, 8] rfl rfl (by decide) (Nat.le_of_ble_eq_true rfl) rfl d_B_numberTold_53 ?_
      refine g_istore C (lv' := [(4, .int (nI (rnf (ln) (ln ((at9) - (1))) ((en) - (at9)) (at9)))), (3, .int (nI (rnf (ln) (0) ((en) - (at9)) (at9)))), (0, .ref b), (1, .int (nI (at9))), (2, .int (nI (en)))]) d_B_numberTold_56 (by decide) rfl ?_
      refine g_iload C d_B_numberTold_58 0 rfl ?_
      refine g_iconst C (v := nI 3) d_B_numberTold_60 rfl ?_
      refine n_icmp_lt C 75 d_B_numberTold_61 (by decide) (by have := rnf_le ln (ln (at9 - 1)) (en - at9) at9; omega) (by omega) (fun h61 => ?_) (fun h61 => ?_)
      · refine g_aload_n C d_B_numberTold_75 2 rfl rfl ?_
        refine g_get C (T := FB) (N := 8) 0 0 inB rfl rfl (by decide) tw_105 rfl rfl d_B_numberTold_76 ?_
        refine g_getN C (T := FT) (N := 6) (k := 1) C.2.2.2.2.1 4 inT rfl rfl (by decide) rfl rfl d_B_numberTold_79 ?_
        refine g_iload_n C d_B_numberTold_82 3 rfl rfl ?_
        refine g_iald C 5 rfl (by omega) (by decide) d_B_numberTold_83 ?_
        exact g_iret C hr hlk (congrArg nI (by
      unfold ntd
      first
        | rw [if_pos (by assumption)]
        | (rw [if_neg (show ¬ 3 ≤ rnf ln 0 (en - at9) at9 by omega), if_neg (show ¬ at9 = 0 by omega), if_pos (by assumption)])
        | (rw [if_neg (show ¬ 3 ≤ rnf ln 0 (en - at9) at9 by omega), if_neg (show ¬ at9 = 0 by omega), if_neg (show ¬ 3 ≤ rnf ln (ln (at9 - 1)) (en - at9) at9 by omega)])
        | (rw [if_neg (show ¬ 3 ≤ rnf ln 0 (en - at9) at9 by omega), if_pos (show at9 = 0 by omega), if_neg (by omega)]))) rfl d_B_numberTold_84
      · refine g_bipush C (v := nI 100) d_B_numberTold_64 rfl ?_
        refine g_iload C d_B_numberTold_66 0 rfl ?_
        refine g_bipush C (v := nI 6) d_B_numberTold_68 rfl ?_
        refine g_mmin C tw_163 ⟨by decide, Nat.le_of_ble_eq_true rfl, by decide, by decide⟩ (by have := rnf_le ln (ln (at9 - 1)) (en - at9) at9; omega) (by omega) d_B_numberTold_70 ?_
        refine g_iadd C (v := nI (100 + (min (rnf (ln) (ln ((at9) - (1))) ((en) - (at9)) (at9)) (6)))) d_B_numberTold_73 (nI_add _ _) ?_
        exact g_iret C hr hlk (congrArg nI (by
      unfold ntd
      first
        | rw [if_pos (by assumption)]
        | (rw [if_neg (show ¬ 3 ≤ rnf ln 0 (en - at9) at9 by omega), if_neg (show ¬ at9 = 0 by omega), if_pos (by assumption)])
        | (rw [if_neg (show ¬ 3 ≤ rnf ln 0 (en - at9) at9 by omega), if_neg (show ¬ at9 = 0 by omega), if_neg (show ¬ 3 ≤ rnf ln (ln (at9 - 1)) (en - at9) at9 by omega)])
        | (rw [if_neg (show ¬ 3 ≤ rnf ln 0 (en - at9) at9 by omega), if_pos (show at9 = 0 by omega), if_neg (by omega)]))) rfl d_B_numberTold_74
    · refine g_iconst C (v := nI 0) d_B_numberTold_32 rfl ?_
      refine g_goto C 56 d_B_numberTold_33 (by decide) ?_
      refine g_istore C (lv' := [(4, .int (nI (0))), (3, .int (nI (rnf (ln) (0) ((en) - (at9)) (at9)))), (0, .ref b), (1, .int (nI (at9))), (2, .int (nI (en)))]) d_B_numberTold_56 (by decide) rfl ?_
      refine g_iload C d_B_numberTold_58 0 rfl ?_
      refine g_iconst C (v := nI 3) d_B_numberTold_60 rfl ?_
      refine n_icmp_lt C 75 d_B_numberTold_61 (by decide) (by omega) (by omega) (fun _ => ?_) (fun h => absurd h (by omega))
      refine g_aload_n C d_B_numberTold_75 2 rfl rfl ?_
      refine g_get C (T := FB) (N := 8) 0 0 inB rfl rfl (by decide) tw_105 rfl rfl d_B_numberTold_76 ?_
      refine g_getN C (T := FT) (N := 6) (k := 1) C.2.2.2.2.1 4 inT rfl rfl (by decide) rfl rfl d_B_numberTold_79 ?_
      refine g_iload_n C d_B_numberTold_82 3 rfl rfl ?_
      refine g_iald C 5 rfl (by omega) (by decide) d_B_numberTold_83 ?_
      exact g_iret C hr hlk (congrArg nI (by
      unfold ntd
      first
        | rw [if_pos (by assumption)]
        | (rw [if_neg (show ¬ 3 ≤ rnf ln 0 (en - at9) at9 by omega), if_neg (show ¬ at9 = 0 by omega), if_pos (by assumption)])
        | (rw [if_neg (show ¬ 3 ≤ rnf ln 0 (en - at9) at9 by omega), if_neg (show ¬ at9 = 0 by omega), if_neg (show ¬ 3 ≤ rnf ln (ln (at9 - 1)) (en - at9) at9 by omega)])
        | (rw [if_neg (show ¬ 3 ≤ rnf ln 0 (en - at9) at9 by omega), if_pos (show at9 = 0 by omega), if_neg (by omega)]))) rfl d_B_numberTold_84
  · refine g_sipush C (v := nI 200) d_B_numberTold_16 rfl ?_
    refine g_iload_n C d_B_numberTold_19 0 rfl rfl ?_
    refine g_sipush C (v := nI 138) d_B_numberTold_20 rfl ?_
    refine g_mmin C tw_163 ⟨by decide, Nat.le_of_ble_eq_true rfl, by decide, by decide⟩ (by have := rnf_le ln 0 (en - at9) at9; omega) (by omega) d_B_numberTold_23 ?_
    refine g_iadd C (v := nI (200 + (min (rnf (ln) (0) ((en) - (at9)) (at9)) (138)))) d_B_numberTold_26 (nI_add _ _) ?_
    exact g_iret C hr hlk (congrArg nI (by
      unfold ntd
      first
        | rw [if_pos (by assumption)]
        | (rw [if_neg (show ¬ 3 ≤ rnf ln 0 (en - at9) at9 by omega), if_neg (show ¬ at9 = 0 by omega), if_pos (by assumption)])
        | (rw [if_neg (show ¬ 3 ≤ rnf ln 0 (en - at9) at9 by omega), if_neg (show ¬ at9 = 0 by omega), if_neg (show ¬ 3 ≤ rnf ln (ln (at9 - 1)) (en - at9) at9 by omega)])
        | (rw [if_neg (show ¬ 3 ≤ rnf ln 0 (en - at9) at9 by omega), if_pos (show at9 = 0 by omega), if_neg (by omega)]))) rfl d_B_numberTold_27
set_option maxHeartbeats 4000000 in
set_option maxRecDepth 100000 in
theorem m_B_lengthsToldBy (l : Launch) (D : va_G) (cs : ClassId × ClassId × ClassId × ClassId) (t : Nat) (ht9 : t < 2 ^ 31) : MG l y_B_lengthsToldBy k_B_lengthsToldBy { frames := 0, cells := 0, slots := 0, locals := 0 } D cs [.int (nI (t))] [] (QI D (nI (ltb t)) []) := by
  refine MG.mk (own := RB) (by decide) rfl (Nat.le_of_ble_eq_true rfl) ?_
  intro p e s m below meth c A C hr hlk
  refine g_lv (lv' := [(0, .int (nI (t)))]) [0] rfl ?_
  refine g_iload_n C d_B_lengthsToldBy_0 0 rfl rfl ?_
  refine g_sipush C (v := nI 200) d_B_lengthsToldBy_1 rfl ?_
  refine n_icmp_le C 13 d_B_lengthsToldBy_4 (by decide) (by omega) (by omega) (fun h4 => ?_) (fun h4 => ?_)
  · refine g_iload_n C d_B_lengthsToldBy_13 0 rfl rfl ?_
    refine g_bipush C (v := nI 100) d_B_lengthsToldBy_14 rfl ?_
    refine n_icmp_le C 26 d_B_lengthsToldBy_16 (by decide) (by omega) (by omega) (fun h16 => ?_) (fun h16 => ?_)
    · refine g_iconst C (v := nI 1) d_B_lengthsToldBy_26 rfl ?_
      exact g_iret C hr hlk (congrArg nI (by unfold ltb; (repeat' split) <;> omega)) rfl d_B_lengthsToldBy_27
    · refine g_iload_n C d_B_lengthsToldBy_19 0 rfl rfl ?_
      refine g_bipush C (v := nI 100) d_B_lengthsToldBy_20 rfl ?_
      refine g_isub C (v := nI ((t) - (100))) d_B_lengthsToldBy_22 (pk_sub (by omega)) ?_
      refine g_goto C 27 d_B_lengthsToldBy_23 (by decide) ?_
      exact g_iret C hr hlk (congrArg nI (by unfold ltb; (repeat' split) <;> omega)) rfl d_B_lengthsToldBy_27
  · refine g_iload_n C d_B_lengthsToldBy_7 0 rfl rfl ?_
    refine g_sipush C (v := nI 200) d_B_lengthsToldBy_8 rfl ?_
    refine g_isub C (v := nI ((t) - (200))) d_B_lengthsToldBy_11 (pk_sub (by omega)) ?_
    exact g_iret C hr hlk (congrArg nI (by unfold ltb; (repeat' split) <;> omega)) rfl d_B_lengthsToldBy_12
set_option maxHeartbeats 4000000 in
set_option maxRecDepth 100000 in
theorem l_B_lgs {p : Program} {l : Launch} {e : Env} {s : State} {m : MethodId} {args : Array Value} {below : List Frame} {meth : Method} {c : Code} {A : Nat → Prop} {D : va_G} {cs : ClassId × ClassId × ClassId × ClassId} (C : CX p s m args c c_B_lengths 6 RB D cs A) (b k bc bl bx a al ac ah an g gr : Nat) (ct : Nat → Nat) (lo ex : Nat → Int32) (wr : Nat) (lv9 : Int64) (rl : Nat) (ln cn sn xn : Nat → Nat) (fl : Nat) (rb : Nat → Nat) (st sz : Nat) (i9 : Int32) (hl : ∀ j, j < 48 → ln j ≤ 16) (hr : meth.sig.returnType = some .int) (hlk : meth.locks = false)
    : ∀ (n : Nat) (q t : Nat), 48 - q = n → (q ≤ 48) → (t ≤ 400) → (rsl ln (eol ln 48) i9 48 0 0 = rsl ln (eol ln 48) i9 (48 - q) t q) → GO p l e { frames := 2, cells := 0, slots := 0, locals := 48 } s m args below meth c 0 0 (MQ below (QI D (rsl ln (eol ln 48) i9 48 0 0) [(b, .inr (3, [.ref a, .ref k, .ref g, .ref bc, .ref bl, .ref bx, .int (nI (wr)), .long (lv9)])), (bc, .inl (cs.2.1, 48, .inr (.inl (fun j => lN (ct j))))), (bl, .inl (cs.1, 48, .inl (lo))), (bx, .inl (cs.1, 48, .inl (ex))), (a, .inr (1, [.int (nI (rl)), .ref al, .ref ac, .ref ah, .ref an, .int (nI (fl))])), (al, .inl (cs.1, 48, .inl (fun j => nI (ln j)))), (ac, .inl (cs.1, 48, .inl (fun j => nI (cn j)))), (ah, .inl (cs.1, 17, .inl (fun j => nI (sn j)))), (an, .inl (cs.1, 17, .inl (fun j => nI (xn j)))), (g, .inr (2, [.ref gr, .int (nI (st)), .int (nI (sz))])), (gr, .inl (cs.1, 400, .inl (fun j => nI (rb j))))] A) args s 0 0 A) A D 6 13 [(0, .ref b), (1, .int (i9)), (2, .int (nI (eol ln 48))), (3, .int (nI (t))), (4, .int (nI (q)))] [] [(b, .inr (3, [.ref a, .ref k, .ref g, .ref bc, .ref bl, .ref bx, .int (nI (wr)), .long (lv9)])), (bc, .inl (cs.2.1, 48, .inr (.inl (fun j => lN (ct j))))), (bl, .inl (cs.1, 48, .inl (lo))), (bx, .inl (cs.1, 48, .inl (ex))), (a, .inr (1, [.int (nI (rl)), .ref al, .ref ac, .ref ah, .ref an, .int (nI (fl))])), (al, .inl (cs.1, 48, .inl (fun j => nI (ln j)))), (ac, .inl (cs.1, 48, .inl (fun j => nI (cn j)))), (ah, .inl (cs.1, 17, .inl (fun j => nI (sn j)))), (an, .inl (cs.1, 17, .inl (fun j => nI (xn j)))), (g, .inr (2, [.ref gr, .int (nI (st)), .int (nI (sz))])), (gr, .inl (cs.1, 400, .inl (fun j => nI (rb j))))] := by
  intro n
  induction n using Nat.strongRecOn with
  | _ n ih =>
  intro q t  hn hq ht he
  refine g_iload C d_B_lengths_13 4 rfl ?_
  refine g_bipush C (v := nI 48) d_B_lengths_15 rfl ?_
  refine n_icmp_ge C 56 d_B_lengths_17 (by decide) (by omega) (by omega) (fun h17 => ?_) (fun h17 => ?_)
  · refine g_iconst C (v := (-1)) d_B_lengths_56 rfl ?_
    exact g_iret C hr hlk (by rw [he]; first | exact (rsl_end (by omega) _).symm | (rw [show 48 - q = 0 by omega]; rfl)) rfl d_B_lengths_57
  · refine g_iload_n C d_B_lengths_20 3 rfl rfl ?_
    refine g_iload_n C d_B_lengths_21 2 rfl rfl ?_
    refine n_icmp_ge C 56 d_B_lengths_22 (by decide) (by omega) (by have := eol_le ln 48; omega) (fun h22 => ?_) (fun h22 => ?_)
    · refine g_iconst C (v := (-1)) d_B_lengths_56 rfl ?_
      exact g_iret C hr hlk (by rw [he]; first | exact (rsl_end (by omega) _).symm | (rw [show 48 - q = 0 by omega]; rfl)) rfl d_B_lengths_57
    · refine g_aload_n C d_B_lengths_25 0 rfl rfl ?_
      refine g_iload_n C d_B_lengths_26 3 rfl rfl ?_
      refine g_iload_n C d_B_lengths_27 2 rfl rfl ?_
      refine g_callVi C (n := 2) (ws' := [(b, .inr (3, [.ref a, .ref k, .ref g, .ref bc, .ref bl, .ref bx, .int (nI (wr)), .long (lv9)])), (bc, .inl (cs.2.1, 48, .inr (.inl (fun j => lN (ct j))))), (bl, .inl (cs.1, 48, .inl (lo))), (bx, .inl (cs.1, 48, .inl (ex))), (a, .inr (1, [.int (nI (rl)), .ref al, .ref ac, .ref ah, .ref an, .int (nI (fl))])), (al, .inl (cs.1, 48, .inl (fun j => nI (ln j)))), (ac, .inl (cs.1, 48, .inl (fun j => nI (cn j)))), (ah, .inl (cs.1, 17, .inl (fun j => nI (sn j)))), (an, .inl (cs.1, 17, .inl (fun j => nI (xn j)))), (g, .inr (2, [.ref gr, .int (nI (st)), .int (nI (sz))])), (gr, .inl (cs.1, 400, .inl (fun j => nI (rb j))))]) (As := [.int (nI (t)), .int (nI (eol ln 48))]) (rest := []) (m_B_numberTold l D cs b k bc bl bx a al ac ah an g gr (ct) (lo) (ex) (wr) (lv9) (rl) (ln) (cn) (sn) (xn) (fl) (rb) (st) (sz) (t) (eol ln 48) hl (eol_le ln 48) (by omega)) tw_155 tw_157 ts_2 tw_1 tw_158 rfl 0 rfl rfl (by decide +kernel) rfl ⟨rfl, rfl, by decide, by decide, by decide⟩ rfl [0, 1, 2, 3, 4, 5, 6, 7, 8, 9, 10] rfl rfl (by decide) (Nat.le_of_ble_eq_true rfl) rfl d_B_lengths_28 ?_
      refine g_istore C (lv' := [(5, .int (nI (ntd (ln) (eol ln 48) (t)))), (0, .ref b), (1, .int (i9)), (2, .int (nI (eol ln 48))), (3, .int (nI (t))), (4, .int (nI (q)))]) d_B_lengths_31 (by decide) rfl ?_
      refine g_iload C d_B_lengths_33 5 rfl ?_
      refine g_iload_n C d_B_lengths_35 2 rfl rfl ?_
      refine g_icmp_ne C 42 d_B_lengths_36 (by decide) (fun h36 => ?_) (fun h36 => ?_)
      · refine g_iload_n C d_B_lengths_42 4 rfl rfl ?_
        refine g_iload C d_B_lengths_43 0 rfl ?_
        refine g_callSi C (n := 1) (ws' := [(b, .inr (3, [.ref a, .ref k, .ref g, .ref bc, .ref bl, .ref bx, .int (nI (wr)), .long (lv9)])), (bc, .inl (cs.2.1, 48, .inr (.inl (fun j => lN (ct j))))), (bl, .inl (cs.1, 48, .inl (lo))), (bx, .inl (cs.1, 48, .inl (ex))), (a, .inr (1, [.int (nI (rl)), .ref al, .ref ac, .ref ah, .ref an, .int (nI (fl))])), (al, .inl (cs.1, 48, .inl (fun j => nI (ln j)))), (ac, .inl (cs.1, 48, .inl (fun j => nI (cn j)))), (ah, .inl (cs.1, 17, .inl (fun j => nI (sn j)))), (an, .inl (cs.1, 17, .inl (fun j => nI (xn j)))), (g, .inr (2, [.ref gr, .int (nI (st)), .int (nI (sz))])), (gr, .inl (cs.1, 400, .inl (fun j => nI (rb j))))]) (As := [.int (nI (ntd (ln) (eol ln 48) (t)))]) (rest := [.int (nI (t))]) (m_B_lengthsToldBy l D cs (ntd (ln) (eol ln 48) (t)) (by have := ntd_le (en := eol ln 48) hl (at9 := t) (by have := eol_le ln 48; omega); omega)) tw_166 tw_167 tw_1 tw_168 (by decide +kernel) rfl ⟨rfl, rfl, by decide, by decide, by decide⟩ rfl [] rfl rfl (by decide) (Nat.le_of_ble_eq_true rfl) rfl d_B_lengths_45 ?_
        refine g_iadd C (v := nI (t + (ltb (ntd (ln) (eol ln 48) (t))))) d_B_lengths_48 (nI_add _ _) ?_
        refine g_istore_n C (lv' := [(3, .int (nI (t + (ltb (ntd (ln) (eol ln 48) (t)))))), (5, .int (nI (ntd (ln) (eol ln 48) (t)))), (0, .ref b), (1, .int (i9)), (2, .int (nI (eol ln 48))), (4, .int (nI (q)))]) d_B_lengths_49 rfl (by decide) rfl ?_
        refine g_iinc C (lv' := [(4, .int (nI (q + 1))), (3, .int (nI (t + (ltb (ntd (ln) (eol ln 48) (t)))))), (5, .int (nI (ntd (ln) (eol ln 48) (t)))), (0, .ref b), (1, .int (i9)), (2, .int (nI (eol ln 48)))]) (k := 5) d_B_lengths_50 rfl (nI_1 _) (by decide) rfl ?_
        refine g_goto C 13 d_B_lengths_53 (by decide) ?_
        refine g_lv (lv' := [(0, .ref b), (1, .int (i9)), (2, .int (nI (eol ln 48))), (3, .int (nI (t + (ltb (ntd (ln) (eol ln 48) (t)))))), (4, .int (nI (q + 1)))]) [3, 4, 5, 1, 0] rfl ?_
        exact ih (48 - (q + 1)) (by omega) (q + 1) _ rfl (by omega) (by have := ltb_le (ntd_le (en := eol ln 48) hl (at9 := t) (by have := eol_le ln 48; omega)); have := eol_le ln 48; omega) (by rw [he, rsl_next (by omega) (by omega) h36])
      · refine g_iload C d_B_lengths_39 0 rfl ?_
        exact g_iret C hr hlk (by rw [he, rsl_hit (by omega) (by omega) (Classical.not_not.mp h36)]) rfl d_B_lengths_41
set_option maxHeartbeats 4000000 in
set_option maxRecDepth 100000 in
theorem m_B_lengths (l : Launch) (D : va_G) (cs : ClassId × ClassId × ClassId × ClassId) (b k bc bl bx a al ac ah an g gr : Nat) (ct : Nat → Nat) (lo ex : Nat → Int32) (wr : Nat) (lv9 : Int64) (rl : Nat) (ln cn sn xn : Nat → Nat) (fl : Nat) (rb : Nat → Nat) (st sz : Nat) (i9 : Int32) (hl : ∀ j, j < 48 → ln j ≤ 16) : MG l y_B_lengths k_B_lengths { frames := 2, cells := 0, slots := 0, locals := 48 } D cs [.ref b, .int (i9)] [(b, .inr (3, [.ref a, .ref k, .ref g, .ref bc, .ref bl, .ref bx, .int (nI (wr)), .long (lv9)])), (bc, .inl (cs.2.1, 48, .inr (.inl (fun j => lN (ct j))))), (bl, .inl (cs.1, 48, .inl (lo))), (bx, .inl (cs.1, 48, .inl (ex))), (a, .inr (1, [.int (nI (rl)), .ref al, .ref ac, .ref ah, .ref an, .int (nI (fl))])), (al, .inl (cs.1, 48, .inl (fun j => nI (ln j)))), (ac, .inl (cs.1, 48, .inl (fun j => nI (cn j)))), (ah, .inl (cs.1, 17, .inl (fun j => nI (sn j)))), (an, .inl (cs.1, 17, .inl (fun j => nI (xn j)))), (g, .inr (2, [.ref gr, .int (nI (st)), .int (nI (sz))])), (gr, .inl (cs.1, 400, .inl (fun j => nI (rb j))))] (QI D (rsl ln (eol ln 48) i9 48 0 0) [(b, .inr (3, [.ref a, .ref k, .ref g, .ref bc, .ref bl, .ref bx, .int (nI (wr)), .long (lv9)])), (bc, .inl (cs.2.1, 48, .inr (.inl (fun j => lN (ct j))))), (bl, .inl (cs.1, 48, .inl (lo))), (bx, .inl (cs.1, 48, .inl (ex))), (a, .inr (1, [.int (nI (rl)), .ref al, .ref ac, .ref ah, .ref an, .int (nI (fl))])), (al, .inl (cs.1, 48, .inl (fun j => nI (ln j)))), (ac, .inl (cs.1, 48, .inl (fun j => nI (cn j)))), (ah, .inl (cs.1, 17, .inl (fun j => nI (sn j)))), (an, .inl (cs.1, 17, .inl (fun j => nI (xn j)))), (g, .inr (2, [.ref gr, .int (nI (st)), .int (nI (sz))])), (gr, .inl (cs.1, 400, .inl (fun j => nI (rb j))))]) := by
  refine MG.mk (own := RB) (by decide) rfl (Nat.le_of_ble_eq_true rfl) ?_
  intro p e s m below meth c A C hr hlk
  refine g_lv (lv' := [(0, .ref b), (1, .int (i9))]) [0, 1] rfl ?_
  refine g_aload_n C d_B_lengths_0 0 rfl rfl ?_
  refine g_get C (T := FB) (N := 8) 0 0 inB rfl rfl (by decide) tw_105 rfl rfl d_B_lengths_1 ?_
  refine g_callVi C (n := 0) (ws' := [(b, .inr (3, [.ref a, .ref k, .ref g, .ref bc, .ref bl, .ref bx, .int (nI (wr)), .long (lv9)])), (bc, .inl (cs.2.1, 48, .inr (.inl (fun j => lN (ct j))))), (bl, .inl (cs.1, 48, .inl (lo))), (bx, .inl (cs.1, 48, .inl (ex))), (a, .inr (1, [.int (nI (rl)), .ref al, .ref ac, .ref ah, .ref an, .int (nI (fl))])), (al, .inl (cs.1, 48, .inl (fun j => nI (ln j)))), (ac, .inl (cs.1, 48, .inl (fun j => nI (cn j)))), (ah, .inl (cs.1, 17, .inl (fun j => nI (sn j)))), (an, .inl (cs.1, 17, .inl (fun j => nI (xn j)))), (g, .inr (2, [.ref gr, .int (nI (st)), .int (nI (sz))])), (gr, .inl (cs.1, 400, .inl (fun j => nI (rb j))))]) (As := []) (rest := []) (m_T_endOfLengths l D cs a al ac ah an (rl) (ln) (cn) (sn) (xn) (fl) hl) tw_151 tw_152 tw_153 tw_4 tw_154 rfl 0 rfl rfl (by decide +kernel) rfl ⟨rfl, rfl, by decide, by decide, by decide⟩ rfl [4, 5, 6, 7, 8] rfl rfl (by decide) (Nat.le_of_ble_eq_true rfl) rfl d_B_lengths_4 ?_
  refine g_istore_n C (lv' := [(2, .int (nI (eol (ln) 48))), (0, .ref b), (1, .int (i9))]) d_B_lengths_7 rfl (by decide) rfl ?_
  refine g_iconst C (v := nI 0) d_B_lengths_8 rfl ?_
  refine g_istore_n C (lv' := [(3, .int (nI (0))), (2, .int (nI (eol (ln) 48))), (0, .ref b), (1, .int (i9))]) d_B_lengths_9 rfl (by decide) rfl ?_
  refine g_iconst C (v := nI 0) d_B_lengths_10 rfl ?_
  refine g_istore C (lv' := [(4, .int (nI (0))), (3, .int (nI (0))), (2, .int (nI (eol (ln) 48))), (0, .ref b), (1, .int (i9))]) d_B_lengths_11 (by decide) rfl ?_
  refine g_lv (lv' := [(0, .ref b), (1, .int (i9)), (2, .int (nI (eol (ln) 48))), (3, .int (nI (0))), (4, .int (nI (0)))]) [3, 4, 2, 1, 0] rfl ?_
  exact l_B_lgs C b k bc bl bx a al ac ah an g gr ct lo ex wr lv9 rl ln cn sn xn fl rb st sz i9 hl hr hlk _ 0 0 rfl (by omega) (by omega) rfl
