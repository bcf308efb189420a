/-- the model's number of what is wrong -/
def flc (a b : Nat) : Nat := if a = 0 then 1 else if b = 0 then 2 else 0
theorem flc_le (a b : Nat) : flc a b ≤ 2 := by unfold flc; (repeat' split) <;> omega
/-- the fill of the first k symbols, in parts of 65536 -/
def flm (ln : Nat → Nat) : Nat → Nat
  | 0 => 0
  | k + 1 => flm ln k + if 0 < ln k then 2 ^ (16 - ln k) else 0
theorem flm_le (ln : Nat → Nat) : ∀ k, flm ln k ≤ k * 65536
  | 0 => Nat.zero_le _
  | k + 1 => by
    have h1 := flm_le ln k
    have h2 : 2 ^ (16 - ln k) ≤ 65536 := Nat.le_trans (Nat.pow_le_pow_right (by omega) (show 16 - ln k ≤ 16 by omega)) (Nat.le_of_eq (by decide))
    have e : flm ln (k + 1) = flm ln k + if 0 < ln k then 2 ^ (16 - ln k) else 0 := rfl
    rw [e]
    rw [Nat.add_mul, Nat.one_mul]
    refine Nat.add_le_add h1 ?_
    split
    · exact h2
    · exact Nat.zero_le _

set_option maxHeartbeats 4000000 in
set_option maxRecDepth 100000 in
theorem m_M_thrown (l : Launch) (D : va_G) (cs : ClassId × ClassId × ClassId × ClassId) (w w1 w2 w3 w4 w5 w6 w7 w8 w9 wa wb wd : Nat) (cd ru wt rd : Nat) (va : Int64) : MG l y_M_thrown k_M_thrown { frames := 0, cells := 0, slots := 0, locals := 0 } D cs [.ref w] [(w, .inr (4, [.int (nI (cd)), .int (nI (ru)), .ref w1, .ref w2, .ref w3, .ref w4, .ref w5, .ref w6, .int (nI (wt)), .int (nI (rd)), .long (va), .ref w7, .ref w8, .ref w9, .ref wa, .ref wb, .ref wd]))] (QI D (nI (cd)) [(w, .inr (4, [.int (nI (cd)), .int (nI (ru)), .ref w1, .ref w2, .ref w3, .ref w4, .ref w5, .ref w6, .int (nI (wt)), .int (nI (rd)), .long (va), .ref w7, .ref w8, .ref w9, .ref wa, .ref wb, .ref wd]))]) := by
  refine MG.mk (own := RM) (by decide) rfl (Nat.le_of_ble_eq_true rfl) ?_
  intro p e s m below meth c A C hr hlk
  refine g_lv (lv' := [(0, .ref w)]) [0] rfl ?_
  refine g_aload_n C d_M_thrown_0 0 rfl rfl ?_
  refine g_get C (T := FM) (N := 17) 0 0 inM rfl rfl (by decide) tw_436 rfl rfl d_M_thrown_1 ?_
  exact g_iret C hr hlk rfl rfl d_M_thrown_4
set_option maxHeartbeats 4000000 in
set_option maxRecDepth 100000 in
theorem m_M_fails_0 (l : Launch) (D : va_G) (cs : ClassId × ClassId × ClassId × ClassId) (w w1 w2 w3 w4 w5 w6 w7 w8 w9 wa wb wd : Nat) (cd ru wt rd : Nat) (va : Int64) : MG l y_M_fails k_M_fails { frames := 0, cells := 0, slots := 0, locals := 0 } D cs [.ref w, .int (nI (1)), .int (nI (1))] [(w, .inr (4, [.int (nI (cd)), .int (nI (ru)), .ref w1, .ref w2, .ref w3, .ref w4, .ref w5, .ref w6, .int (nI (wt)), .int (nI (rd)), .long (va), .ref w7, .ref w8, .ref w9, .ref wa, .ref wb, .ref wd]))] (QI D (nI (0)) [(w, .inr (4, [.int (nI (0)), .int (nI (ru)), .ref w1, .ref w2, .ref w3, .ref w4, .ref w5, .ref w6, .int (nI (wt)), .int (nI (rd)), .long (va), .ref w7, .ref w8, .ref w9, .ref wa, .ref wb, .ref wd]))]) := by
  refine MG.mk (own := RM) (by decide) rfl (Nat.le_of_ble_eq_true rfl) ?_
  intro p e s m below meth c A C hr hlk
  refine g_lv (lv' := [(0, .ref w), (1, .int (nI (1))), (2, .int (nI (1)))]) [0, 1, 2] rfl ?_
  refine g_aload_n C d_M_fails_0 0 rfl rfl ?_
  refine g_iload_n C d_M_fails_1 1 rfl rfl ?_
  refine n_if_ne C 9 d_M_fails_2 (by decide) (by omega) (fun _ => ?_) (fun h => absurd h (by omega))
  refine g_iload_n C d_M_fails_9 2 rfl rfl ?_
  refine n_if_ne C 17 d_M_fails_10 (by decide) (by omega) (fun _ => ?_) (fun h => absurd h (by omega))
  refine g_iconst C (v := nI 0) d_M_fails_17 rfl ?_
  refine g_put C (T := FM) (N := 17) (ws' := [(w, .inr (4, [.int (nI (0)), .int (nI (ru)), .ref w1, .ref w2, .ref w3, .ref w4, .ref w5, .ref w6, .int (nI (wt)), .int (nI (rd)), .long (va), .ref w7, .ref w8, .ref w9, .ref wa, .ref wb, .ref wd]))]) 0 0 inM tyM okM nmM rfl rfl (by decide) tw_436 rfl rfl rfl rfl rfl (Nat.le_of_ble_eq_true rfl) rfl d_M_fails_18 ?_
  refine g_aload_n C d_M_fails_21 0 rfl rfl ?_
  refine g_get C (T := FM) (N := 17) 0 0 inM rfl rfl (by decide) tw_436 rfl rfl d_M_fails_22 ?_
  refine n_if_le C 32 d_M_fails_25 (by decide) (by omega) (fun _ => ?_) (fun h => absurd h (by omega))
  refine g_iconst C (v := nI 0) d_M_fails_32 rfl ?_
  exact g_zret C hr hlk rfl rfl rfl d_M_fails_33
set_option maxHeartbeats 4000000 in
set_option maxRecDepth 100000 in
theorem m_M_fails_1 (l : Launch) (D : va_G) (cs : ClassId × ClassId × ClassId × ClassId) (w w1 w2 w3 w4 w5 w6 w7 w8 w9 wa wb wd : Nat) (cd ru wt rd : Nat) (va : Int64) (f2 : Nat) : MG l y_M_fails k_M_fails { frames := 0, cells := 0, slots := 0, locals := 0 } D cs [.ref w, .int (nI (0)), .int (nI (f2))] [(w, .inr (4, [.int (nI (cd)), .int (nI (ru)), .ref w1, .ref w2, .ref w3, .ref w4, .ref w5, .ref w6, .int (nI (wt)), .int (nI (rd)), .long (va), .ref w7, .ref w8, .ref w9, .ref wa, .ref wb, .ref wd]))] (QI D (nI (1)) [(w, .inr (4, [.int (nI (1)), .int (nI (ru)), .ref w1, .ref w2, .ref w3, .ref w4, .ref w5, .ref w6, .int (nI (wt)), .int (nI (rd)), .long (va), .ref w7, .ref w8, .ref w9, .ref wa, .ref wb, .ref wd]))]) := by
  refine MG.mk (own := RM) (by decide) rfl (Nat.le_of_ble_eq_true rfl) ?_
  intro p e s m below meth c A C hr hlk
  refine g_lv (lv' := [(0, .ref w), (1, .int (nI (0))), (2, .int (nI (f2)))]) [0, 1, 2] rfl ?_
  refine g_aload_n C d_M_fails_0 0 rfl rfl ?_
  refine g_iload_n C d_M_fails_1 1 rfl rfl ?_
  refine n_if_ne C 9 d_M_fails_2 (by decide) (by omega) (fun h => absurd h (by omega)) (fun _ => ?_)
  refine g_iconst C (v := nI 1) d_M_fails_5 rfl ?_
  refine g_goto C 18 d_M_fails_6 (by decide) ?_
  refine g_put C (T := FM) (N := 17) (ws' := [(w, .inr (4, [.int (nI (1)), .int (nI (ru)), .ref w1, .ref w2, .ref w3, .ref w4, .ref w5, .ref w6, .int (nI (wt)), .int (nI (rd)), .long (va), .ref w7, .ref w8, .ref w9, .ref wa, .ref wb, .ref wd]))]) 0 0 inM tyM okM nmM rfl rfl (by decide) tw_436 rfl rfl rfl rfl rfl (Nat.le_of_ble_eq_true rfl) rfl d_M_fails_18 ?_
  refine g_aload_n C d_M_fails_21 0 rfl rfl ?_
  refine g_get C (T := FM) (N := 17) 0 0 inM rfl rfl (by decide) tw_436 rfl rfl d_M_fails_22 ?_
  refine n_if_le C 32 d_M_fails_25 (by decide) (by omega) (fun h => absurd h (by omega)) (fun _ => ?_)
  refine g_iconst C (v := nI 1) d_M_fails_28 rfl ?_
  refine g_goto C 33 d_M_fails_29 (by decide) ?_
  exact g_zret C hr hlk rfl rfl rfl d_M_fails_33
set_option maxHeartbeats 4000000 in
set_option maxRecDepth 100000 in
theorem m_M_fails_2 (l : Launch) (D : va_G) (cs : ClassId × ClassId × ClassId × ClassId) (w w1 w2 w3 w4 w5 w6 w7 w8 w9 wa wb wd : Nat) (cd ru wt rd : Nat) (va : Int64) : MG l y_M_fails k_M_fails { frames := 0, cells := 0, slots := 0, locals := 0 } D cs [.ref w, .int (nI (1)), .int (nI (0))] [(w, .inr (4, [.int (nI (cd)), .int (nI (ru)), .ref w1, .ref w2, .ref w3, .ref w4, .ref w5, .ref w6, .int (nI (wt)), .int (nI (rd)), .long (va), .ref w7, .ref w8, .ref w9, .ref wa, .ref wb, .ref wd]))] (QI D (nI (1)) [(w, .inr (4, [.int (nI (2)), .int (nI (ru)), .ref w1, .ref w2, .ref w3, .ref w4, .ref w5, .ref w6, .int (nI (wt)), .int (nI (rd)), .long (va), .ref w7, .ref w8, .ref w9, .ref wa, .ref wb, .ref wd]))]) := by
  refine MG.mk (own := RM) (by decide) rfl (Nat.le_of_ble_eq_true rfl) ?_
  intro p e s m below meth c A C hr hlk
  refine g_lv (lv' := [(0, .ref w), (1, .int (nI (1))), (2, .int (nI (0)))]) [0, 1, 2] rfl ?_
  refine g_aload_n C d_M_fails_0 0 rfl rfl ?_
  refine g_iload_n C d_M_fails_1 1 rfl rfl ?_
  refine n_if_ne C 9 d_M_fails_2 (by decide) (by omega) (fun _ => ?_) (fun h => absurd h (by omega))
  refine g_iload_n C d_M_fails_9 2 rfl rfl ?_
  refine n_if_ne C 17 d_M_fails_10 (by decide) (by omega) (fun h => absurd h (by omega)) (fun _ => ?_)
  refine g_iconst C (v := nI 2) d_M_fails_13 rfl ?_
  refine g_goto C 18 d_M_fails_14 (by decide) ?_
  refine g_put C (T := FM) (N := 17) (ws' := [(w, .inr (4, [.int (nI (2)), .int (nI (ru)), .ref w1, .ref w2, .ref w3, .ref w4, .ref w5, .ref w6, .int (nI (wt)), .int (nI (rd)), .long (va), .ref w7, .ref w8, .ref w9, .ref wa, .ref wb, .ref wd]))]) 0 0 inM tyM okM nmM rfl rfl (by decide) tw_436 rfl rfl rfl rfl rfl (Nat.le_of_ble_eq_true rfl) rfl d_M_fails_18 ?_
  refine g_aload_n C d_M_fails_21 0 rfl rfl ?_
  refine g_get C (T := FM) (N := 17) 0 0 inM rfl rfl (by decide) tw_436 rfl rfl d_M_fails_22 ?_
  refine n_if_le C 32 d_M_fails_25 (by decide) (by omega) (fun h => absurd h (by omega)) (fun _ => ?_)
  refine g_iconst C (v := nI 1) d_M_fails_28 rfl ?_
  refine g_goto C 33 d_M_fails_29 (by decide) ?_
  exact g_zret C hr hlk rfl rfl rfl d_M_fails_33
set_option maxHeartbeats 4000000 in
set_option maxRecDepth 100000 in
theorem m_M_isSymbol_1 (l : Launch) (D : va_G) (cs : ClassId × ClassId × ClassId × ClassId) (y : Nat) (hy : y < 48) : MG l y_M_isSymbol k_M_isSymbol { frames := 0, cells := 0, slots := 0, locals := 0 } D cs [.int (nI (y))] [] (QI D (nI (1)) []) := by
  refine MG.mk (own := RM) (by decide) rfl (Nat.le_of_ble_eq_true rfl) ?_
  intro p e s m below meth c A C hr hlk
  refine g_lv (lv' := [(0, .int (nI (y)))]) [0] rfl ?_
  refine g_iload_n C d_M_isSymbol_0 0 rfl rfl ?_
  refine n_if_lt C 14 d_M_isSymbol_1 (by decide) (by omega) ?_
  refine g_iload_n C d_M_isSymbol_4 0 rfl rfl ?_
  refine g_bipush C (v := nI 48) d_M_isSymbol_5 rfl ?_
  refine n_icmp_ge C 14 d_M_isSymbol_7 (by decide) (by omega) (by omega) (fun h7 => ?_) (fun h7 => ?_)
  · exact absurd hy (by omega)
  · refine g_iconst C (v := nI 1) d_M_isSymbol_10 rfl ?_
    refine g_goto C 15 d_M_isSymbol_11 (by decide) ?_
    exact g_zret C hr hlk rfl rfl rfl d_M_isSymbol_15
set_option maxHeartbeats 4000000 in
set_option maxRecDepth 100000 in
theorem m_M_isSymbol_0 (l : Launch) (D : va_G) (cs : ClassId × ClassId × ClassId × ClassId) (x : Int32) (hx : x < 0 ∨ ¬ x < nI 48) : MG l y_M_isSymbol k_M_isSymbol { frames := 0, cells := 0, slots := 0, locals := 0 } D cs [.int (x)] [] (QI D (nI (0)) []) := by
  refine MG.mk (own := RM) (by decide) rfl (Nat.le_of_ble_eq_true rfl) ?_
  intro p e s m below meth c A C hr hlk
  refine g_lv (lv' := [(0, .int (x))]) [0] rfl ?_
  refine g_iload_n C d_M_isSymbol_0 0 rfl rfl ?_
  refine g_if_lt C 14 d_M_isSymbol_1 (by decide) (fun h1 => ?_) (fun h1 => ?_)
  · refine g_iconst C (v := nI 0) d_M_isSymbol_14 rfl ?_
    exact g_zret C hr hlk rfl rfl rfl d_M_isSymbol_15
  · refine g_iload_n C d_M_isSymbol_4 0 rfl rfl ?_
    refine g_bipush C (v := nI 48) d_M_isSymbol_5 rfl ?_
    refine g_icmp_ge C 14 d_M_isSymbol_7 (by decide) (fun h7 => ?_) (fun h7 => ?_)
    · refine g_iconst C (v := nI 0) d_M_isSymbol_14 rfl ?_
      exact g_zret C hr hlk rfl rfl rfl d_M_isSymbol_15
    · exact hx.elim (fun h => absurd h (by assumption)) (fun h => absurd (Int32.not_le.mp (by assumption)) h)
set_option maxHeartbeats 4000000 in
set_option maxRecDepth 100000 in
theorem m_M_count_0 (l : Launch) (D : va_G) (cs : ClassId × ClassId × ClassId × ClassId) (w w1 w2 w3 w4 w5 w6 w7 w8 w9 wa wb wd : Nat) (cd ru wt rd : Nat) (va : Int64) (ct : Nat → Nat) (y n9 : Nat) (hy : y < 48) (hn9 : n9 ≤ 1000000000) (hct : ∀ j, j < 48 → ct j ≤ 1000000000) : MG l y_M_count k_M_count { frames := 1, cells := 0, slots := 0, locals := 22 } D cs [.ref w, .int (nI (y)), .long (lN (n9))] [(w, .inr (4, [.int (nI (cd)), .int (nI (ru)), .ref w1, .ref w2, .ref w3, .ref w4, .ref w5, .ref w6, .int (nI (wt)), .int (nI (rd)), .long (va), .ref w7, .ref w8, .ref w9, .ref wa, .ref wb, .ref wd])), (w1, .inl (cs.2.1, 48, .inr (.inl (fun j => lN (ct j)))))] (QI D (nI (if ct y = n9 then 0 else 1)) [(w, .inr (4, [.int (nI (0)), .int (nI (ru)), .ref w1, .ref w2, .ref w3, .ref w4, .ref w5, .ref w6, .int (nI (wt)), .int (nI (rd)), .long (va), .ref w7, .ref w8, .ref w9, .ref wa, .ref wb, .ref wd])), (w1, .inl (cs.2.1, 48, .inr (.inl (fun j => lN ((updN (ct) (y) (n9)) j)))))]) := by
  refine MG.mk (own := RM) (by decide) rfl (Nat.le_of_ble_eq_true rfl) ?_
  intro p e s m below meth c A C hr hlk
  refine g_lv (lv' := [(0, .ref w), (1, .int (nI (y))), (2, .long (lN (n9)))]) [0, 1, 2] rfl ?_
  refine g_aload_n C d_M_count_0 0 rfl rfl ?_
  refine g_iload_n C d_M_count_1 1 rfl rfl ?_
  refine g_callSi C (n := 1) (ws' := [(w, .inr (4, [.int (nI (cd)), .int (nI (ru)), .ref w1, .ref w2, .ref w3, .ref w4, .ref w5, .ref w6, .int (nI (wt)), .int (nI (rd)), .long (va), .ref w7, .ref w8, .ref w9, .ref wa, .ref wb, .ref wd])), (w1, .inl (cs.2.1, 48, .inr (.inl (fun j => lN (ct j)))))]) (As := [.int (nI (y))]) (rest := [.ref w]) (m_M_isSymbol_1 l D cs (y) (by omega)) tw_497 tw_498 tw_6 tw_499 (by decide +kernel) rfl ⟨rfl, rfl, by decide, by decide, by decide⟩ rfl [] rfl rfl (by decide) (Nat.le_of_ble_eq_true rfl) rfl d_M_count_2 ?_
  refine g_lload_n C d_M_count_5 2 rfl rfl ?_
  refine g_lconst C (v := lN 0) d_M_count_6 rfl ?_
  refine n_lcmp_lt C 23 d_M_count_7 d_M_count_8 (by decide) (by omega) (by omega) (fun h => absurd h (by omega)) (fun _ => ?_)
  refine g_lload_n C d_M_count_11 2 rfl rfl ?_
  refine g_ldc2 C (v := lN 1000000000) tw_500 d_M_count_12 ?_
  refine n_lcmp_gt C 23 d_M_count_15 d_M_count_16 (by decide) (by omega) (by omega) (fun h => absurd h (by omega)) (fun _ => ?_)
  refine g_iconst C (v := nI 1) d_M_count_19 rfl ?_
  refine g_goto C 24 d_M_count_20 (by decide) ?_
  refine g_callVi C (n := 2) (ws' := [(w, .inr (4, [.int (nI (0)), .int (nI (ru)), .ref w1, .ref w2, .ref w3, .ref w4, .ref w5, .ref w6, .int (nI (wt)), .int (nI (rd)), .long (va), .ref w7, .ref w8, .ref w9, .ref wa, .ref wb, .ref wd])), (w1, .inl (cs.2.1, 48, .inr (.inl (fun j => lN (ct j)))))]) (As := [.int (nI (1)), .int (nI (1))]) (rest := []) (m_M_fails_0 l D cs w w1 w2 w3 w4 w5 w6 w7 w8 w9 wa wb wd (cd) (ru) (wt) (rd) (va)  ) tw_501 tw_503 ts_15 tw_6 tw_504 rfl 0 rfl rfl (by decide +kernel) rfl ⟨rfl, rfl, by decide, by decide, by decide⟩ rfl [0] rfl rfl (by decide) (Nat.le_of_ble_eq_true rfl) rfl d_M_count_24 ?_
  refine n_if_eq C 32 d_M_count_27 (by decide) (by omega) (fun _ => ?_) (fun h => absurd h (by omega))
  refine g_aload_n C d_M_count_32 0 rfl rfl ?_
  refine g_get C (T := FM) (N := 17) 0 2 inM rfl rfl (by decide) tw_438 rfl rfl d_M_count_33 ?_
  refine g_iload_n C d_M_count_36 1 rfl rfl ?_
  refine g_lald C 1 rfl (by omega) (by decide) d_M_count_37 ?_
  refine g_lload_n C d_M_count_38 2 rfl rfl ?_
  refine n_lcmp_eq C 47 d_M_count_39 d_M_count_40 (by decide) (by have := hct y hy; omega) (by omega) (fun h39 => ?_) (fun h39 => ?_)
  · refine g_iconst C (v := nI 0) d_M_count_47 rfl ?_
    refine g_istore C (lv' := [(4, .int (nI (0))), (0, .ref w), (1, .int (nI (y))), (2, .long (lN (n9)))]) d_M_count_48 (by decide) rfl ?_
    refine g_aload_n C d_M_count_50 1 rfl rfl ?_
    refine g_get C (T := FM) (N := 17) 0 2 inM rfl rfl (by decide) tw_438 rfl rfl d_M_count_51 ?_
    refine g_iload_n C d_M_count_54 2 rfl rfl ?_
    refine g_lload_n C d_M_count_55 3 rfl rfl ?_
    refine n_last C (ws' := [(w, .inr (4, [.int (nI (0)), .int (nI (ru)), .ref w1, .ref w2, .ref w3, .ref w4, .ref w5, .ref w6, .int (nI (wt)), .int (nI (rd)), .long (va), .ref w7, .ref w8, .ref w9, .ref wa, .ref wb, .ref wd])), (w1, .inl (cs.2.1, 48, .inr (.inl (fun j => lN ((updN (ct) (y) (n9)) j)))))]) 1 rfl (by omega) (by decide) rfl d_M_count_56 ?_
    refine g_iload C d_M_count_57 0 rfl ?_
    exact g_zret C hr hlk rfl (by first | rw [if_pos (by assumption)] | rw [if_neg (by assumption)]) rfl d_M_count_59
  · refine g_iconst C (v := nI 1) d_M_count_43 rfl ?_
    refine g_goto C 48 d_M_count_44 (by decide) ?_
    refine g_istore C (lv' := [(4, .int (nI (1))), (0, .ref w), (1, .int (nI (y))), (2, .long (lN (n9)))]) d_M_count_48 (by decide) rfl ?_
    refine g_aload_n C d_M_count_50 1 rfl rfl ?_
    refine g_get C (T := FM) (N := 17) 0 2 inM rfl rfl (by decide) tw_438 rfl rfl d_M_count_51 ?_
    refine g_iload_n C d_M_count_54 2 rfl rfl ?_
    refine g_lload_n C d_M_count_55 3 rfl rfl ?_
    refine n_last C (ws' := [(w, .inr (4, [.int (nI (0)), .int (nI (ru)), .ref w1, .ref w2, .ref w3, .ref w4, .ref w5, .ref w6, .int (nI (wt)), .int (nI (rd)), .long (va), .ref w7, .ref w8, .ref w9, .ref wa, .ref wb, .ref wd])), (w1, .inl (cs.2.1, 48, .inr (.inl (fun j => lN ((updN (ct) (y) (n9)) j)))))]) 1 rfl (by omega) (by decide) rfl d_M_count_56 ?_
    refine g_iload C d_M_count_57 0 rfl ?_
    exact g_zret C hr hlk rfl (by first | rw [if_pos (by assumption)] | rw [if_neg (by assumption)]) rfl d_M_count_59
set_option maxHeartbeats 4000000 in
set_option maxRecDepth 100000 in
theorem m_M_count_1 (l : Launch) (D : va_G) (cs : ClassId × ClassId × ClassId × ClassId) (w w1 w2 w3 w4 w5 w6 w7 w8 w9 wa wb wd : Nat) (cd ru wt rd : Nat) (va : Int64) (ct : Nat → Nat) (x : Int32) (hx : x < 0 ∨ ¬ x < nI 48) (n9 : Int64) : MG l y_M_count k_M_count { frames := 1, cells := 0, slots := 0, locals := 22 } D cs [.ref w, .int (x), .long (n9)] [(w, .inr (4, [.int (nI (cd)), .int (nI (ru)), .ref w1, .ref w2, .ref w3, .ref w4, .ref w5, .ref w6, .int (nI (wt)), .int (nI (rd)), .long (va), .ref w7, .ref w8, .ref w9, .ref wa, .ref wb, .ref wd])), (w1, .inl (cs.2.1, 48, .inr (.inl (fun j => lN (ct j)))))] (QI D (nI (0)) [(w, .inr (4, [.int (nI (1)), .int (nI (ru)), .ref w1, .ref w2, .ref w3, .ref w4, .ref w5, .ref w6, .int (nI (wt)), .int (nI (rd)), .long (va), .ref w7, .ref w8, .ref w9, .ref wa, .ref wb, .ref wd])), (w1, .inl (cs.2.1, 48, .inr (.inl (fun j => lN (ct j)))))]) := by
  refine MG.mk (own := RM) (by decide) rfl (Nat.le_of_ble_eq_true rfl) ?_
  intro p e s m below meth c A C hr hlk
  refine g_lv (lv' := [(0, .ref w), (1, .int (x)), (2, .long (n9))]) [0, 1, 2] rfl ?_
  refine g_aload_n C d_M_count_0 0 rfl rfl ?_
  refine g_iload_n C d_M_count_1 1 rfl rfl ?_
  refine g_callSi C (n := 1) (ws' := [(w, .inr (4, [.int (nI (cd)), .int (nI (ru)), .ref w1, .ref w2, .ref w3, .ref w4, .ref w5, .ref w6, .int (nI (wt)), .int (nI (rd)), .long (va), .ref w7, .ref w8, .ref w9, .ref wa, .ref wb, .ref wd])), (w1, .inl (cs.2.1, 48, .inr (.inl (fun j => lN (ct j)))))]) (As := [.int (x)]) (rest := [.ref w]) (m_M_isSymbol_0 l D cs (x) hx) tw_497 tw_498 tw_6 tw_499 (by decide +kernel) rfl ⟨rfl, rfl, by decide, by decide, by decide⟩ rfl [] rfl rfl (by decide) (Nat.le_of_ble_eq_true rfl) rfl d_M_count_2 ?_
  refine g_lload_n C d_M_count_5 2 rfl rfl ?_
  refine g_lconst C (v := lN 0) d_M_count_6 rfl ?_
  refine g_lcmp_lt C 23 d_M_count_7 d_M_count_8 (by decide) (fun h7 => ?_) (fun h7 => ?_)
  · refine g_iconst C (v := nI 0) d_M_count_23 rfl ?_
    refine g_callVi C (n := 2) (ws' := [(w, .inr (4, [.int (nI (1)), .int (nI (ru)), .ref w1, .ref w2, .ref w3, .ref w4, .ref w5, .ref w6, .int (nI (wt)), .int (nI (rd)), .long (va), .ref w7, .ref w8, .ref w9, .ref wa, .ref wb, .ref wd])), (w1, .inl (cs.2.1, 48, .inr (.inl (fun j => lN (ct j)))))]) (As := [.int (nI (0)), .int (nI (0))]) (rest := []) (m_M_fails_1 l D cs w w1 w2 w3 w4 w5 w6 w7 w8 w9 wa wb wd (cd) (ru) (wt) (rd) (va)  (0)) tw_501 tw_503 ts_15 tw_6 tw_504 rfl 0 rfl rfl (by decide +kernel) rfl ⟨rfl, rfl, by decide, by decide, by decide⟩ rfl [0] rfl rfl (by decide) (Nat.le_of_ble_eq_true rfl) rfl d_M_count_24 ?_
    refine n_if_eq C 32 d_M_count_27 (by decide) (by omega) (fun h => absurd h (by omega)) (fun _ => ?_)
    refine g_iconst C (v := nI 0) d_M_count_30 rfl ?_
    exact g_zret C hr hlk rfl rfl rfl d_M_count_31
  · refine g_lload_n C d_M_count_11 2 rfl rfl ?_
    refine g_ldc2 C (v := lN 1000000000) tw_500 d_M_count_12 ?_
    refine g_lcmp_gt C 23 d_M_count_15 d_M_count_16 (by decide) (fun h15 => ?_) (fun h15 => ?_)
    · refine g_iconst C (v := nI 0) d_M_count_23 rfl ?_
      refine g_callVi C (n := 2) (ws' := [(w, .inr (4, [.int (nI (1)), .int (nI (ru)), .ref w1, .ref w2, .ref w3, .ref w4, .ref w5, .ref w6, .int (nI (wt)), .int (nI (rd)), .long (va), .ref w7, .ref w8, .ref w9, .ref wa, .ref wb, .ref wd])), (w1, .inl (cs.2.1, 48, .inr (.inl (fun j => lN (ct j)))))]) (As := [.int (nI (0)), .int (nI (0))]) (rest := []) (m_M_fails_1 l D cs w w1 w2 w3 w4 w5 w6 w7 w8 w9 wa wb wd (cd) (ru) (wt) (rd) (va)  (0)) tw_501 tw_503 ts_15 tw_6 tw_504 rfl 0 rfl rfl (by decide +kernel) rfl ⟨rfl, rfl, by decide, by decide, by decide⟩ rfl [0] rfl rfl (by decide) (Nat.le_of_ble_eq_true rfl) rfl d_M_count_24 ?_
      refine n_if_eq C 32 d_M_count_27 (by decide) (by omega) (fun h => absurd h (by omega)) (fun _ => ?_)
      refine g_iconst C (v := nI 0) d_M_count_30 rfl ?_
      exact g_zret C hr hlk rfl rfl rfl d_M_count_31
    · refine g_iconst C (v := nI 1) d_M_count_19 rfl ?_
      refine g_goto C 24 d_M_count_20 (by decide) ?_
      refine g_callVi C (n := 2) (ws' := [(w, .inr (4, [.int (nI (1)), .int (nI (ru)), .ref w1, .ref w2, .ref w3, .ref w4, .ref w5, .ref w6, .int (nI (wt)), .int (nI (rd)), .long (va), .ref w7, .ref w8, .ref w9, .ref wa, .ref wb, .ref wd])), (w1, .inl (cs.2.1, 48, .inr (.inl (fun j => lN (ct j)))))]) (As := [.int (nI (0)), .int (nI (1))]) (rest := []) (m_M_fails_1 l D cs w w1 w2 w3 w4 w5 w6 w7 w8 w9 wa wb wd (cd) (ru) (wt) (rd) (va)  (1)) tw_501 tw_503 ts_15 tw_6 tw_504 rfl 0 rfl rfl (by decide +kernel) rfl ⟨rfl, rfl, by decide, by decide, by decide⟩ rfl [0] rfl rfl (by decide) (Nat.le_of_ble_eq_true rfl) rfl d_M_count_24 ?_
      refine n_if_eq C 32 d_M_count_27 (by decide) (by omega) (fun h => absurd h (by omega)) (fun _ => ?_)
      refine g_iconst C (v := nI 0) d_M_count_30 rfl ?_
      exact g_zret C hr hlk rfl rfl rfl d_M_count_31
set_option maxHeartbeats 4000000 in
set_option maxRecDepth 100000 in
theorem m_M_count_2 (l : Launch) (D : va_G) (cs : ClassId × ClassId × ClassId × ClassId) (w w1 w2 w3 w4 w5 w6 w7 w8 w9 wa wb wd : Nat) (cd ru wt rd : Nat) (va : Int64) (ct : Nat → Nat) (y : Nat) (hy : y < 48) (n9 : Int64) (hx : n9 < lN 0 ∨ lN 1000000000 < n9) : MG l y_M_count k_M_count { frames := 1, cells := 0, slots := 0, locals := 22 } D cs [.ref w, .int (nI (y)), .long (n9)] [(w, .inr (4, [.int (nI (cd)), .int (nI (ru)), .ref w1, .ref w2, .ref w3, .ref w4, .ref w5, .ref w6, .int (nI (wt)), .int (nI (rd)), .long (va), .ref w7, .ref w8, .ref w9, .ref wa, .ref wb, .ref wd])), (w1, .inl (cs.2.1, 48, .inr (.inl (fun j => lN (ct j)))))] (QI D (nI (0)) [(w, .inr (4, [.int (nI (2)), .int (nI (ru)), .ref w1, .ref w2, .ref w3, .ref w4, .ref w5, .ref w6, .int (nI (wt)), .int (nI (rd)), .long (va), .ref w7, .ref w8, .ref w9, .ref wa, .ref wb, .ref wd])), (w1, .inl (cs.2.1, 48, .inr (.inl (fun j => lN (ct j)))))]) := by
  refine MG.mk (own := RM) (by decide) rfl (Nat.le_of_ble_eq_true rfl) ?_
  intro p e s m below meth c A C hr hlk
  refine g_lv (lv' := [(0, .ref w), (1, .int (nI (y))), (2, .long (n9))]) [0, 1, 2] rfl ?_
  refine g_aload_n C d_M_count_0 0 rfl rfl ?_
  refine g_iload_n C d_M_count_1 1 rfl rfl ?_
  refine g_callSi C (n := 1) (ws' := [(w, .inr (4, [.int (nI (cd)), .int (nI (ru)), .ref w1, .ref w2, .ref w3, .ref w4, .ref w5, .ref w6, .int (nI (wt)), .int (nI (rd)), .long (va), .ref w7, .ref w8, .ref w9, .ref wa, .ref wb, .ref wd])), (w1, .inl (cs.2.1, 48, .inr (.inl (fun j => lN (ct j)))))]) (As := [.int (nI (y))]) (rest := [.ref w]) (m_M_isSymbol_1 l D cs (y) (by omega)) tw_497 tw_498 tw_6 tw_499 (by decide +kernel) rfl ⟨rfl, rfl, by decide, by decide, by decide⟩ rfl [] rfl rfl (by decide) (Nat.le_of_ble_eq_true rfl) rfl d_M_count_2 ?_
  refine g_lload_n C d_M_count_5 2 rfl rfl ?_
  refine g_lconst C (v := lN 0) d_M_count_6 rfl ?_
  refine g_lcmp_lt C 23 d_M_count_7 d_M_count_8 (by decide) (fun h7 => ?_) (fun h7 => ?_)
  · refine g_iconst C (v := nI 0) d_M_count_23 rfl ?_
    refine g_callVi C (n := 2) (ws' := [(w, .inr (4, [.int (nI (2)), .int (nI (ru)), .ref w1, .ref w2, .ref w3, .ref w4, .ref w5, .ref w6, .int (nI (wt)), .int (nI (rd)), .long (va), .ref w7, .ref w8, .ref w9, .ref wa, .ref wb, .ref wd])), (w1, .inl (cs.2.1, 48, .inr (.inl (fun j => lN (ct j)))))]) (As := [.int (nI (1)), .int (nI (0))]) (rest := []) (m_M_fails_2 l D cs w w1 w2 w3 w4 w5 w6 w7 w8 w9 wa wb wd (cd) (ru) (wt) (rd) (va)  ) tw_501 tw_503 ts_15 tw_6 tw_504 rfl 0 rfl rfl (by decide +kernel) rfl ⟨rfl, rfl, by decide, by decide, by decide⟩ rfl [0] rfl rfl (by decide) (Nat.le_of_ble_eq_true rfl) rfl d_M_count_24 ?_
    refine n_if_eq C 32 d_M_count_27 (by decide) (by omega) (fun h => absurd h (by omega)) (fun _ => ?_)
    refine g_iconst C (v := nI 0) d_M_count_30 rfl ?_
    exact g_zret C hr hlk rfl rfl rfl d_M_count_31
  · refine g_lload_n C d_M_count_11 2 rfl rfl ?_
    refine g_ldc2 C (v := lN 1000000000) tw_500 d_M_count_12 ?_
    refine g_lcmp_gt C 23 d_M_count_15 d_M_count_16 (by decide) (fun h15 => ?_) (fun h15 => ?_)
    · refine g_iconst C (v := nI 0) d_M_count_23 rfl ?_
      refine g_callVi C (n := 2) (ws' := [(w, .inr (4, [.int (nI (2)), .int (nI (ru)), .ref w1, .ref w2, .ref w3, .ref w4, .ref w5, .ref w6, .int (nI (wt)), .int (nI (rd)), .long (va), .ref w7, .ref w8, .ref w9, .ref wa, .ref wb, .ref wd])), (w1, .inl (cs.2.1, 48, .inr (.inl (fun j => lN (ct j)))))]) (As := [.int (nI (1)), .int (nI (0))]) (rest := []) (m_M_fails_2 l D cs w w1 w2 w3 w4 w5 w6 w7 w8 w9 wa wb wd (cd) (ru) (wt) (rd) (va)  ) tw_501 tw_503 ts_15 tw_6 tw_504 rfl 0 rfl rfl (by decide +kernel) rfl ⟨rfl, rfl, by decide, by decide, by decide⟩ rfl [0] rfl rfl (by decide) (Nat.le_of_ble_eq_true rfl) rfl d_M_count_24 ?_
      refine n_if_eq C 32 d_M_count_27 (by decide) (by omega) (fun h => absurd h (by omega)) (fun _ => ?_)
      refine g_iconst C (v := nI 0) d_M_count_30 rfl ?_
      exact g_zret C hr hlk rfl rfl rfl d_M_count_31
    · exact hx.elim (fun h => absurd h (Int64.not_lt.mpr (by assumption))) (fun h => absurd h (Int64.not_lt.mpr (by assumption)))
set_option maxHeartbeats 4000000 in
set_option maxRecDepth 100000 in
theorem m_M_length_0 (l : Launch) (D : va_G) (cs : ClassId × ClassId × ClassId × ClassId) (w w1 w2 w3 w4 w5 w6 w7 w8 w9 wa wb wd : Nat) (cd ru wt rd : Nat) (va : Int64) (ln : Nat → Nat) (y : Nat) (hy : y < 48) : MG l y_M_length k_M_length { frames := 1, cells := 0, slots := 0, locals := 22 } D cs [.ref w, .int (nI (y))] [(w, .inr (4, [.int (nI (cd)), .int (nI (ru)), .ref w1, .ref w2, .ref w3, .ref w4, .ref w5, .ref w6, .int (nI (wt)), .int (nI (rd)), .long (va), .ref w7, .ref w8, .ref w9, .ref wa, .ref wb, .ref wd])), (w2, .inl (cs.1, 48, .inl (fun j => nI (ln j))))] (QI D (nI (ln (y))) [(w, .inr (4, [.int (nI (0)), .int (nI (ru)), .ref w1, .ref w2, .ref w3, .ref w4, .ref w5, .ref w6, .int (nI (wt)), .int (nI (rd)), .long (va), .ref w7, .ref w8, .ref w9, .ref wa, .ref wb, .ref wd])), (w2, .inl (cs.1, 48, .inl (fun j => nI (ln j))))]) := by
  refine MG.mk (own := RM) (by decide) rfl (Nat.le_of_ble_eq_true rfl) ?_
  intro p e s m below meth c A C hr hlk
  refine g_lv (lv' := [(0, .ref w), (1, .int (nI (y)))]) [0, 1] rfl ?_
  refine g_aload_n C d_M_length_0 0 rfl rfl ?_
  refine g_iload_n C d_M_length_1 1 rfl rfl ?_
  refine g_callSi C (n := 1) (ws' := [(w, .inr (4, [.int (nI (cd)), .int (nI (ru)), .ref w1, .ref w2, .ref w3, .ref w4, .ref w5, .ref w6, .int (nI (wt)), .int (nI (rd)), .long (va), .ref w7, .ref w8, .ref w9, .ref wa, .ref wb, .ref wd])), (w2, .inl (cs.1, 48, .inl (fun j => nI (ln j))))]) (As := [.int (nI (y))]) (rest := [.ref w]) (m_M_isSymbol_1 l D cs (y) (by omega)) tw_497 tw_498 tw_6 tw_499 (by decide +kernel) rfl ⟨rfl, rfl, by decide, by decide, by decide⟩ rfl [] rfl rfl (by decide) (Nat.le_of_ble_eq_true rfl) rfl d_M_length_2 ?_
  refine g_iconst C (v := nI 1) d_M_length_5 rfl ?_
  refine g_callVi C (n := 2) (ws' := [(w, .inr (4, [.int (nI (0)), .int (nI (ru)), .ref w1, .ref w2, .ref w3, .ref w4, .ref w5, .ref w6, .int (nI (wt)), .int (nI (rd)), .long (va), .ref w7, .ref w8, .ref w9, .ref wa, .ref wb, .ref wd])), (w2, .inl (cs.1, 48, .inl (fun j => nI (ln j))))]) (As := [.int (nI (1)), .int (nI (1))]) (rest := []) (m_M_fails_0 l D cs w w1 w2 w3 w4 w5 w6 w7 w8 w9 wa wb wd (cd) (ru) (wt) (rd) (va)  ) tw_501 tw_503 ts_15 tw_6 tw_504 rfl 0 rfl rfl (by decide +kernel) rfl ⟨rfl, rfl, by decide, by decide, by decide⟩ rfl [0] rfl rfl (by decide) (Nat.le_of_ble_eq_true rfl) rfl d_M_length_6 ?_
  refine n_if_eq C 16 d_M_length_9 (by decide) (by omega) (fun _ => ?_) (fun h => absurd h (by omega))
  refine g_aload_n C d_M_length_16 0 rfl rfl ?_
  refine g_get C (T := FM) (N := 17) 0 3 inM rfl rfl (by decide) tw_439 rfl rfl d_M_length_17 ?_
  refine g_iload_n C d_M_length_20 1 rfl rfl ?_
  refine g_iald C 1 rfl (by omega) (by decide) d_M_length_21 ?_
  exact g_iret C hr hlk rfl rfl d_M_length_22
set_option maxHeartbeats 4000000 in
set_option maxRecDepth 100000 in
theorem m_M_length_1 (l : Launch) (D : va_G) (cs : ClassId × ClassId × ClassId × ClassId) (w w1 w2 w3 w4 w5 w6 w7 w8 w9 wa wb wd : Nat) (cd ru wt rd : Nat) (va : Int64) (ln : Nat → Nat) (x : Int32) (hx : x < 0 ∨ ¬ x < nI 48) : MG l y_M_length k_M_length { frames := 1, cells := 0, slots := 0, locals := 22 } D cs [.ref w, .int (x)] [(w, .inr (4, [.int (nI (cd)), .int (nI (ru)), .ref w1, .ref w2, .ref w3, .ref w4, .ref w5, .ref w6, .int (nI (wt)), .int (nI (rd)), .long (va), .ref w7, .ref w8, .ref w9, .ref wa, .ref wb, .ref wd])), (w2, .inl (cs.1, 48, .inl (fun j => nI (ln j))))] (QI D (nI (0)) [(w, .inr (4, [.int (nI (1)), .int (nI (ru)), .ref w1, .ref w2, .ref w3, .ref w4, .ref w5, .ref w6, .int (nI (wt)), .int (nI (rd)), .long (va), .ref w7, .ref w8, .ref w9, .ref wa, .ref wb, .ref wd])), (w2, .inl (cs.1, 48, .inl (fun j => nI (ln j))))]) := by
  refine MG.mk (own := RM) (by decide) rfl (Nat.le_of_ble_eq_true rfl) ?_
  intro p e s m below meth c A C hr hlk
  refine g_lv (lv' := [(0, .ref w), (1, .int (x))]) [0, 1] rfl ?_
  refine g_aload_n C d_M_length_0 0 rfl rfl ?_
  refine g_iload_n C d_M_length_1 1 rfl rfl ?_
  refine g_callSi C (n := 1) (ws' := [(w, .inr (4, [.int (nI (cd)), .int (nI (ru)), .ref w1, .ref w2, .ref w3, .ref w4, .ref w5, .ref w6, .int (nI (wt)), .int (nI (rd)), .long (va), .ref w7, .ref w8, .ref w9, .ref wa, .ref wb, .ref wd])), (w2, .inl (cs.1, 48, .inl (fun j => nI (ln j))))]) (As := [.int (x)]) (rest := [.ref w]) (m_M_isSymbol_0 l D cs (x) hx) tw_497 tw_498 tw_6 tw_499 (by decide +kernel) rfl ⟨rfl, rfl, by decide, by decide, by decide⟩ rfl [] rfl rfl (by decide) (Nat.le_of_ble_eq_true rfl) rfl d_M_length_2 ?_
  refine g_iconst C (v := nI 1) d_M_length_5 rfl ?_
  refine g_callVi C (n := 2) (ws' := [(w, .inr (4, [.int (nI (1)), .int (nI (ru)), .ref w1, .ref w2, .ref w3, .ref w4, .ref w5, .ref w6, .int (nI (wt)), .int (nI (rd)), .long (va), .ref w7, .ref w8, .ref w9, .ref wa, .ref wb, .ref wd])), (w2, .inl (cs.1, 48, .inl (fun j => nI (ln j))))]) (As := [.int (nI (0)), .int (nI (1))]) (rest := []) (m_M_fails_1 l D cs w w1 w2 w3 w4 w5 w6 w7 w8 w9 wa wb wd (cd) (ru) (wt) (rd) (va)  (1)) tw_501 tw_503 ts_15 tw_6 tw_504 rfl 0 rfl rfl (by decide +kernel) rfl ⟨rfl, rfl, by decide, by decide, by decide⟩ rfl [0] rfl rfl (by decide) (Nat.le_of_ble_eq_true rfl) rfl d_M_length_6 ?_
  refine n_if_eq C 16 d_M_length_9 (by decide) (by omega) (fun h => absurd h (by omega)) (fun _ => ?_)
  refine g_iconst C (v := nI 0) d_M_length_12 rfl ?_
  refine g_goto C 22 d_M_length_13 (by decide) ?_
  exact g_iret C hr hlk rfl rfl d_M_length_22
set_option maxHeartbeats 4000000 in
set_option maxRecDepth 100000 in
theorem l_M_fill {p : Program} {l : Launch} {e : Env} {s : State} {m : MethodId} {args : Array Value} {below : List Frame} {meth : Method} {c : Code} {A : Nat → Prop} {D : va_G} {cs : ClassId × ClassId × ClassId × ClassId} (C : CX p s m args c c_M_fill 3 RM D cs A) (w w1 w2 w3 w4 w5 w6 w7 w8 w9 wa wb wd : Nat) (cd ru wt rd : Nat) (va : Int64) (ln : Nat → Nat) (hl : ∀ j, j < 48 → ln j ≤ 16) (hr : meth.sig.returnType = some .int) (hlk : meth.locks = false)
    : ∀ (n : Nat) (i : Nat), 48 - i = n → (i ≤ 48) → GO p l e { frames := 0, cells := 0, slots := 0, locals := 0 } s m args below meth c 0 0 (MQ below (QI D (nI (stt (flm ln 48))) [(w, .inr (4, [.int (nI (cd)), .int (nI (ru)), .ref w1, .ref w2, .ref w3, .ref w4, .ref w5, .ref w6, .int (nI (wt)), .int (nI (rd)), .long (va), .ref w7, .ref w8, .ref w9, .ref wa, .ref wb, .ref wd])), (w2, .inl (cs.1, 48, .inl (fun j => nI (ln j))))] A) args s 0 0 A) A D 3 4 [(0, .ref w), (1, .int (nI (flm ln i))), (2, .int (nI (i)))] [] [(w, .inr (4, [.int (nI (cd)), .int (nI (ru)), .ref w1, .ref w2, .ref w3, .ref w4, .ref w5, .ref w6, .int (nI (wt)), .int (nI (rd)), .long (va), .ref w7, .ref w8, .ref w9, .ref wa, .ref wb, .ref wd])), (w2, .inl (cs.1, 48, .inl (fun j => nI (ln j))))] := by
  intro n
  induction n using Nat.strongRecOn with
  | _ n ih =>
  intro i  hn hi
  refine g_iload_n C d_M_fill_4 2 rfl rfl ?_
  refine g_bipush C (v := nI 48) d_M_fill_5 rfl ?_
  refine n_icmp_ge C 43 d_M_fill_7 (by decide) (by omega) (by omega) (fun h7 => ?_) (fun h7 => ?_)
  · refine g_iload_n C d_M_fill_43 1 rfl rfl ?_
    refine g_ldc C (v := nI 65536) tw_529 d_M_fill_44 ?_
    refine n_icmp_le C 53 d_M_fill_46 (by decide) (by have := flm_le ln i; omega) (by omega) (fun h46 => ?_) (fun h46 => ?_)
    · refine g_iload_n C d_M_fill_53 1 rfl rfl ?_
      refine g_ldc C (v := nI 65536) tw_529 d_M_fill_54 ?_
      refine n_icmp_ne C 63 d_M_fill_56 (by decide) (by have := flm_le ln i; omega) (by omega) (fun h56 => ?_) (fun h56 => ?_)
      · refine g_iconst C (v := nI 1) d_M_fill_63 rfl ?_
        exact g_iret C hr hlk (congrArg nI (by have e9 : i = 48 := (by omega); subst e9; unfold stt; (repeat' split) <;> omega)) rfl d_M_fill_64
      · refine g_iconst C (v := nI 0) d_M_fill_59 rfl ?_
        refine g_goto C 64 d_M_fill_60 (by decide) ?_
        exact g_iret C hr hlk (congrArg nI (by have e9 : i = 48 := (by omega); subst e9; unfold stt; (repeat' split) <;> omega)) rfl d_M_fill_64
    · refine g_iconst C (v := nI 2) d_M_fill_49 rfl ?_
      refine g_goto C 64 d_M_fill_50 (by decide) ?_
      exact g_iret C hr hlk (congrArg nI (by have e9 : i = 48 := (by omega); subst e9; unfold stt; (repeat' split) <;> omega)) rfl d_M_fill_64
  · refine g_iload_n C d_M_fill_10 1 rfl rfl ?_
    refine g_aload_n C d_M_fill_11 0 rfl rfl ?_
    refine g_get C (T := FM) (N := 17) 0 3 inM rfl rfl (by decide) tw_439 rfl rfl d_M_fill_12 ?_
    refine g_iload_n C d_M_fill_15 2 rfl rfl ?_
    refine g_iald C 1 rfl (by omega) (by decide) d_M_fill_16 ?_
    refine n_if_le C 34 d_M_fill_17 (by decide) (by have := hl i (by omega); omega) (fun h17 => ?_) (fun h17 => ?_)
    · refine g_iconst C (v := nI 0) d_M_fill_34 rfl ?_
      refine g_iadd C (v := nI (flm ln i + 0)) d_M_fill_35 (nI_add _ _) ?_
      refine g_istore_n C (lv' := [(1, .int (nI (flm ln i + 0))), (0, .ref w), (2, .int (nI (i)))]) d_M_fill_36 rfl (by decide) rfl ?_
      refine g_iinc C (lv' := [(2, .int (nI (i + 1))), (1, .int (nI (flm ln i + 0))), (0, .ref w)]) (k := 2) d_M_fill_37 rfl (nI_1 _) (by decide) rfl ?_
      refine g_goto C 4 d_M_fill_40 (by decide) ?_
      refine g_lv (lv' := [(0, .ref w), (1, .int (nI (flm ln i + 0))), (2, .int (nI (i + 1)))]) [2, 1, 0] rfl ?_
      have e9 : flm ln (i + 1) = flm ln i + 0 := by show flm ln i + _ = _; rw [if_neg (by omega)]
      rw [← e9]
      exact ih (48 - (i + 1)) (by omega) (i + 1) rfl (by omega)
    · refine g_iconst C (v := nI 1) d_M_fill_20 rfl ?_
      refine g_bipush C (v := nI 16) d_M_fill_21 rfl ?_
      refine g_aload_n C d_M_fill_23 0 rfl rfl ?_
      refine g_get C (T := FM) (N := 17) 0 3 inM rfl rfl (by decide) tw_439 rfl rfl d_M_fill_24 ?_
      refine g_iload_n C d_M_fill_27 2 rfl rfl ?_
      refine g_iald C 1 rfl (by omega) (by decide) d_M_fill_28 ?_
      refine g_isub C (v := nI (16 - ln i)) d_M_fill_29 (pk_sub (hl i (by omega))) ?_
      refine g_ishl C (v := nI (2 ^ (16 - ln i))) d_M_fill_30 ((n_shl ⟨by omega, by have : 2 ^ (16 - ln i) ≤ 2 ^ 16 := Nat.pow_le_pow_right (by omega) (by omega); rw [Nat.one_mul]; exact Nat.lt_of_le_of_lt this (by decide)⟩).trans (by rw [Nat.one_mul])) ?_
      refine g_goto C 35 d_M_fill_31 (by decide) ?_
      refine g_iadd C (v := nI (flm ln i + (2 ^ (16 - ln i)))) d_M_fill_35 (nI_add _ _) ?_
      refine g_istore_n C (lv' := [(1, .int (nI (flm ln i + (2 ^ (16 - ln i))))), (0, .ref w), (2, .int (nI (i)))]) d_M_fill_36 rfl (by decide) rfl ?_
      refine g_iinc C (lv' := [(2, .int (nI (i + 1))), (1, .int (nI (flm ln i + (2 ^ (16 - ln i))))), (0, .ref w)]) (k := 2) d_M_fill_37 rfl (nI_1 _) (by decide) rfl ?_
      refine g_goto C 4 d_M_fill_40 (by decide) ?_
      refine g_lv (lv' := [(0, .ref w), (1, .int (nI (flm ln i + (2 ^ (16 - ln i))))), (2, .int (nI (i + 1)))]) [2, 1, 0] rfl ?_
      have e9 : flm ln (i + 1) = flm ln i + (2 ^ (16 - ln i)) := by show flm ln i + _ = _; rw [if_pos (by assumption)]
      rw [← e9]
      exact ih (48 - (i + 1)) (by omega) (i + 1) rfl (by omega)
set_option maxHeartbeats 4000000 in
set_option maxRecDepth 100000 in
theorem m_M_fill (l : Launch) (D : va_G) (cs : ClassId × ClassId × ClassId × ClassId) (w w1 w2 w3 w4 w5 w6 w7 w8 w9 wa wb wd : Nat) (cd ru wt rd : Nat) (va : Int64) (ln : Nat → Nat) (hl : ∀ j, j < 48 → ln j ≤ 16) : MG l y_M_fill k_M_fill { frames := 0, cells := 0, slots := 0, locals := 0 } D cs [.ref w] [(w, .inr (4, [.int (nI (cd)), .int (nI (ru)), .ref w1, .ref w2, .ref w3, .ref w4, .ref w5, .ref w6, .int (nI (wt)), .int (nI (rd)), .long (va), .ref w7, .ref w8, .ref w9, .ref wa, .ref wb, .ref wd])), (w2, .inl (cs.1, 48, .inl (fun j => nI (ln j))))] (QI D (nI (stt (flm ln 48))) [(w, .inr (4, [.int (nI (cd)), .int (nI (ru)), .ref w1, .ref w2, .ref w3, .ref w4, .ref w5, .ref w6, .int (nI (wt)), .int (nI (rd)), .long (va), .ref w7, .ref w8, .ref w9, .ref wa, .ref wb, .ref wd])), (w2, .inl (cs.1, 48, .inl (fun j => nI (ln j))))]) := by
  refine MG.mk (own := RM) (by decide) rfl (Nat.le_of_ble_eq_true rfl) ?_
  intro p e s m below meth c A C hr hlk
  refine g_lv (lv' := [(0, .ref w)]) [0] rfl ?_
  refine g_iconst C (v := nI 0) d_M_fill_0 rfl ?_
  refine g_istore_n C (lv' := [(1, .int (nI (0))), (0, .ref w)]) d_M_fill_1 rfl (by decide) rfl ?_
  refine g_iconst C (v := nI 0) d_M_fill_2 rfl ?_
  refine g_istore_n C (lv' := [(2, .int (nI (0))), (1, .int (nI (0))), (0, .ref w)]) d_M_fill_3 rfl (by decide) rfl ?_
  refine g_lv (lv' := [(0, .ref w), (1, .int (nI (0))), (2, .int (nI (0)))]) [2, 1, 0] rfl ?_
  exact l_M_fill C w w1 w2 w3 w4 w5 w6 w7 w8 w9 wa wb wd cd ru wt rd va ln hl hr hlk _ 0 rfl (by omega)
set_option maxHeartbeats 4000000 in
set_option maxRecDepth 100000 in
theorem m_M_check (l : Launch) (D : va_G) (cs : ClassId × ClassId × ClassId × ClassId) (w w1 w2 w3 w4 w5 w6 w7 w8 w9 wa wb wd : Nat) (cd ru wt rd : Nat) (va : Int64) (ln : Nat → Nat) (hl : ∀ j, j < 48 → ln j ≤ 16) : MG l y_M_check k_M_check { frames := 1, cells := 0, slots := 0, locals := 22 } D cs [.ref w] [(w, .inr (4, [.int (nI (cd)), .int (nI (ru)), .ref w1, .ref w2, .ref w3, .ref w4, .ref w5, .ref w6, .int (nI (wt)), .int (nI (rd)), .long (va), .ref w7, .ref w8, .ref w9, .ref wa, .ref wb, .ref wd])), (w2, .inl (cs.1, 48, .inl (fun j => nI (ln j))))] (QI D (nI (stt (flm ln 48))) [(w, .inr (4, [.int (nI (0)), .int (nI (ru)), .ref w1, .ref w2, .ref w3, .ref w4, .ref w5, .ref w6, .int (nI (wt)), .int (nI (rd)), .long (va), .ref w7, .ref w8, .ref w9, .ref wa, .ref wb, .ref wd])), (w2, .inl (cs.1, 48, .inl (fun j => nI (ln j))))]) := by
  refine MG.mk (own := RM) (by decide) rfl (Nat.le_of_ble_eq_true rfl) ?_
  intro p e s m below meth c A C hr hlk
  refine g_lv (lv' := [(0, .ref w)]) [0] rfl ?_
  refine g_aload_n C d_M_check_0 0 rfl rfl ?_
  refine g_iconst C (v := nI 0) d_M_check_1 rfl ?_
  refine g_put C (T := FM) (N := 17) (ws' := [(w, .inr (4, [.int (nI (0)), .int (nI (ru)), .ref w1, .ref w2, .ref w3, .ref w4, .ref w5, .ref w6, .int (nI (wt)), .int (nI (rd)), .long (va), .ref w7, .ref w8, .ref w9, .ref wa, .ref wb, .ref wd])), (w2, .inl (cs.1, 48, .inl (fun j => nI (ln j))))]) 0 0 inM tyM okM nmM rfl rfl (by decide) tw_436 rfl rfl rfl rfl rfl (Nat.le_of_ble_eq_true rfl) rfl d_M_check_2 ?_
  refine g_aload_n C d_M_check_5 0 rfl rfl ?_
  refine g_callVi C (n := 0) (ws' := [(w, .inr (4, [.int (nI (0)), .int (nI (ru)), .ref w1, .ref w2, .ref w3, .ref w4, .ref w5, .ref w6, .int (nI (wt)), .int (nI (rd)), .long (va), .ref w7, .ref w8, .ref w9, .ref wa, .ref wb, .ref wd])), (w2, .inl (cs.1, 48, .inl (fun j => nI (ln j))))]) (As := []) (rest := []) (m_M_fill l D cs w w1 w2 w3 w4 w5 w6 w7 w8 w9 wa wb wd (0) (ru) (wt) (rd) (va) (ln) hl) tw_525 tw_527 ts_18 tw_6 tw_528 rfl 0 rfl rfl (by decide +kernel) rfl ⟨rfl, rfl, by decide, by decide, by decide⟩ rfl [0, 1] rfl rfl (by decide) (Nat.le_of_ble_eq_true rfl) rfl d_M_check_6 ?_
  exact g_iret C hr hlk rfl rfl d_M_check_9
set_option maxHeartbeats 4000000 in
set_option maxRecDepth 100000 in
theorem m_M_given_0 (l : Launch) (D : va_G) (cs : ClassId × ClassId × ClassId × ClassId) (w w1 w2 w3 w4 w5 w6 w7 w8 w9 wa wb wd : Nat) (cd ru wt rd : Nat) (va : Int64) (ln : Nat → Nat) (rg : Nat → Nat) (y L : Nat) (hy : y < 48) (hL : L ≤ 16) (hl : ∀ j, j < 48 → ln j ≤ 16) : MG l y_M_given k_M_given { frames := 1, cells := 0, slots := 0, locals := 22 } D cs [.ref w, .int (nI (y)), .int (nI (L))] [(w, .inr (4, [.int (nI (cd)), .int (nI (ru)), .ref w1, .ref w2, .ref w3, .ref w4, .ref w5, .ref w6, .int (nI (wt)), .int (nI (rd)), .long (va), .ref w7, .ref w8, .ref w9, .ref wa, .ref wb, .ref wd])), (w2, .inl (cs.1, 48, .inl (fun j => nI (ln j)))), (w3, .inl (cs.2.2.1, 48, .inl (fun j => nI (rg j))))] (QI D (nI (if stt (flm (updN (ln) (y) (L)) 48) < 2 then 1 else 0)) [(w, .inr (4, [.int (nI (0)), .int (nI (ru)), .ref w1, .ref w2, .ref w3, .ref w4, .ref w5, .ref w6, .int (nI (wt)), .int (nI (rd)), .long (va), .ref w7, .ref w8, .ref w9, .ref wa, .ref wb, .ref wd])), (w2, .inl (cs.1, 48, .inl (fun j => nI ((updN (ln) (y) (L)) j)))), (w3, .inl (cs.2.2.1, 48, .inl (fun j => nI ((updN (rg) (y) (0)) j))))]) := by
  refine MG.mk (own := RM) (by decide) rfl (Nat.le_of_ble_eq_true rfl) ?_
  intro p e s m below meth c A C hr hlk
  refine g_lv (lv' := [(0, .ref w), (1, .int (nI (y))), (2, .int (nI (L)))]) [0, 1, 2] rfl ?_
  refine g_aload_n C d_M_given_0 0 rfl rfl ?_
  refine g_iload_n C d_M_given_1 1 rfl rfl ?_
  refine g_callSi C (n := 1) (ws' := [(w, .inr (4, [.int (nI (cd)), .int (nI (ru)), .ref w1, .ref w2, .ref w3, .ref w4, .ref w5, .ref w6, .int (nI (wt)), .int (nI (rd)), .long (va), .ref w7, .ref w8, .ref w9, .ref wa, .ref wb, .ref wd])), (w2, .inl (cs.1, 48, .inl (fun j => nI (ln j)))), (w3, .inl (cs.2.2.1, 48, .inl (fun j => nI (rg j))))]) (As := [.int (nI (y))]) (rest := [.ref w]) (m_M_isSymbol_1 l D cs (y) (by omega)) tw_497 tw_498 tw_6 tw_499 (by decide +kernel) rfl ⟨rfl, rfl, by decide, by decide, by decide⟩ rfl [] rfl rfl (by decide) (Nat.le_of_ble_eq_true rfl) rfl d_M_given_2 ?_
  refine g_iload_n C d_M_given_5 2 rfl rfl ?_
  refine n_if_lt C 19 d_M_given_6 (by decide) (by omega) ?_
  refine g_iload_n C d_M_given_9 2 rfl rfl ?_
  refine g_bipush C (v := nI 16) d_M_given_10 rfl ?_
  refine n_icmp_gt C 19 d_M_given_12 (by decide) (by omega) (by omega) (fun h => absurd h (by omega)) (fun _ => ?_)
  refine g_iconst C (v := nI 1) d_M_given_15 rfl ?_
  refine g_goto C 20 d_M_given_16 (by decide) ?_
  refine g_callVi C (n := 2) (ws' := [(w, .inr (4, [.int (nI (0)), .int (nI (ru)), .ref w1, .ref w2, .ref w3, .ref w4, .ref w5, .ref w6, .int (nI (wt)), .int (nI (rd)), .long (va), .ref w7, .ref w8, .ref w9, .ref wa, .ref wb, .ref wd])), (w2, .inl (cs.1, 48, .inl (fun j => nI (ln j)))), (w3, .inl (cs.2.2.1, 48, .inl (fun j => nI (rg j))))]) (As := [.int (nI (1)), .int (nI (1))]) (rest := []) (m_M_fails_0 l D cs w w1 w2 w3 w4 w5 w6 w7 w8 w9 wa wb wd (cd) (ru) (wt) (rd) (va)  ) tw_501 tw_503 ts_15 tw_6 tw_504 rfl 0 rfl rfl (by decide +kernel) rfl ⟨rfl, rfl, by decide, by decide, by decide⟩ rfl [0] rfl rfl (by decide) (Nat.le_of_ble_eq_true rfl) rfl d_M_given_20 ?_
  refine n_if_eq C 28 d_M_given_23 (by decide) (by omega) (fun _ => ?_) (fun h => absurd h (by omega))
  refine g_aload_n C d_M_given_28 0 rfl rfl ?_
  refine g_get C (T := FM) (N := 17) 0 3 inM rfl rfl (by decide) tw_439 rfl rfl d_M_given_29 ?_
  refine g_iload_n C d_M_given_32 1 rfl rfl ?_
  refine g_iload_n C d_M_given_33 2 rfl rfl ?_
  refine n_iast C (ws' := [(w, .inr (4, [.int (nI (0)), .int (nI (ru)), .ref w1, .ref w2, .ref w3, .ref w4, .ref w5, .ref w6, .int (nI (wt)), .int (nI (rd)), .long (va), .ref w7, .ref w8, .ref w9, .ref wa, .ref wb, .ref wd])), (w2, .inl (cs.1, 48, .inl (fun j => nI ((updN (ln) (y) (L)) j)))), (w3, .inl (cs.2.2.1, 48, .inl (fun j => nI (rg j))))]) 1 rfl (by omega) (by decide) rfl d_M_given_34 ?_
  refine g_aload_n C d_M_given_35 0 rfl rfl ?_
  refine g_get C (T := FM) (N := 17) 0 4 inM rfl rfl (by decide) tw_440 rfl rfl d_M_given_36 ?_
  refine g_iload_n C d_M_given_39 1 rfl rfl ?_
  refine g_iconst C (v := nI 0) d_M_given_40 rfl ?_
  refine n_zast C (ws' := [(w, .inr (4, [.int (nI (0)), .int (nI (ru)), .ref w1, .ref w2, .ref w3, .ref w4, .ref w5, .ref w6, .int (nI (wt)), .int (nI (rd)), .long (va), .ref w7, .ref w8, .ref w9, .ref wa, .ref wb, .ref wd])), (w2, .inl (cs.1, 48, .inl (fun j => nI ((updN (ln) (y) (L)) j)))), (w3, .inl (cs.2.2.1, 48, .inl (fun j => nI ((updN (rg) (y) (0)) j))))]) 2 rfl (by omega) (by decide) (by omega) rfl d_M_given_41 ?_
  refine g_aload_n C d_M_given_42 0 rfl rfl ?_
  refine g_callVi C (n := 0) (ws' := [(w, .inr (4, [.int (nI (0)), .int (nI (ru)), .ref w1, .ref w2, .ref w3, .ref w4, .ref w5, .ref w6, .int (nI (wt)), .int (nI (rd)), .long (va), .ref w7, .ref w8, .ref w9, .ref wa, .ref wb, .ref wd])), (w2, .inl (cs.1, 48, .inl (fun j => nI ((updN (ln) (y) (L)) j)))), (w3, .inl (cs.2.2.1, 48, .inl (fun j => nI ((updN (rg) (y) (0)) j))))]) (As := []) (rest := []) (m_M_fill l D cs w w1 w2 w3 w4 w5 w6 w7 w8 w9 wa wb wd (0) (ru) (wt) (rd) (va) ((updN (ln) (y) (L))) (fun j hj => by unfold updN; split; exact hL; exact hl j hj)) tw_525 tw_527 ts_18 tw_6 tw_528 rfl 0 rfl rfl (by decide +kernel) rfl ⟨rfl, rfl, by decide, by decide, by decide⟩ rfl [0, 1] rfl rfl (by decide) (Nat.le_of_ble_eq_true rfl) rfl d_M_given_43 ?_
  refine g_iconst C (v := nI 2) d_M_given_46 rfl ?_
  refine n_icmp_ge C 54 d_M_given_47 (by decide) (by unfold stt; (repeat' split) <;> omega) (by omega) (fun h47 => ?_) (fun h47 => ?_)
  · refine g_iconst C (v := nI 0) d_M_given_54 rfl ?_
    exact g_zret C hr hlk rfl (by first | rw [if_pos (by assumption)] | rw [if_neg (by omega)]) rfl d_M_given_55
  · refine g_iconst C (v := nI 1) d_M_given_50 rfl ?_
    refine g_goto C 55 d_M_given_51 (by decide) ?_
    exact g_zret C hr hlk rfl (by first | rw [if_pos (by assumption)] | rw [if_neg (by omega)]) rfl d_M_given_55
set_option maxHeartbeats 4000000 in
set_option maxRecDepth 100000 in
theorem m_M_given_1 (l : Launch) (D : va_G) (cs : ClassId × ClassId × ClassId × ClassId) (w w1 w2 w3 w4 w5 w6 w7 w8 w9 wa wb wd : Nat) (cd ru wt rd : Nat) (va : Int64) (ln : Nat → Nat) (rg : Nat → Nat) (x : Int32) (hx : x < 0 ∨ ¬ x < nI 48) (z : Int32) : MG l y_M_given k_M_given { frames := 1, cells := 0, slots := 0, locals := 22 } D cs [.ref w, .int (x), .int (z)] [(w, .inr (4, [.int (nI (cd)), .int (nI (ru)), .ref w1, .ref w2, .ref w3, .ref w4, .ref w5, .ref w6, .int (nI (wt)), .int (nI (rd)), .long (va), .ref w7, .ref w8, .ref w9, .ref wa, .ref wb, .ref wd])), (w2, .inl (cs.1, 48, .inl (fun j => nI (ln j)))), (w3, .inl (cs.2.2.1, 48, .inl (fun j => nI (rg j))))] (QI D (nI (0)) [(w, .inr (4, [.int (nI (1)), .int (nI (ru)), .ref w1, .ref w2, .ref w3, .ref w4, .ref w5, .ref w6, .int (nI (wt)), .int (nI (rd)), .long (va), .ref w7, .ref w8, .ref w9, .ref wa, .ref wb, .ref wd])), (w2, .inl (cs.1, 48, .inl (fun j => nI (ln j)))), (w3, .inl (cs.2.2.1, 48, .inl (fun j => nI (rg j))))]) := by
  refine MG.mk (own := RM) (by decide) rfl (Nat.le_of_ble_eq_true rfl) ?_
  intro p e s m below meth c A C hr hlk
  refine g_lv (lv' := [(0, .ref w), (1, .int (x)), (2, .int (z))]) [0, 1, 2] rfl ?_
  refine g_aload_n C d_M_given_0 0 rfl rfl ?_
  refine g_iload_n C d_M_given_1 1 rfl rfl ?_
  refine g_callSi C (n := 1) (ws' := [(w, .inr (4, [.int (nI (cd)), .int (nI (ru)), .ref w1, .ref w2, .ref w3, .ref w4, .ref w5, .ref w6, .int (nI (wt)), .int (nI (rd)), .long (va), .ref w7, .ref w8, .ref w9, .ref wa, .ref wb, .ref wd])), (w2, .inl (cs.1, 48, .inl (fun j => nI (ln j)))), (w3, .inl (cs.2.2.1, 48, .inl (fun j => nI (rg j))))]) (As := [.int (x)]) (rest := [.ref w]) (m_M_isSymbol_0 l D cs (x) hx) tw_497 tw_498 tw_6 tw_499 (by decide +kernel) rfl ⟨rfl, rfl, by decide, by decide, by decide⟩ rfl [] rfl rfl (by decide) (Nat.le_of_ble_eq_true rfl) rfl d_M_given_2 ?_
  refine g_iload_n C d_M_given_5 2 rfl rfl ?_
  refine g_if_lt C 19 d_M_given_6 (by decide) (fun h6 => ?_) (fun h6 => ?_)
  · refine g_iconst C (v := nI 0) d_M_given_19 rfl ?_
    refine g_callVi C (n := 2) (ws' := [(w, .inr (4, [.int (nI (1)), .int (nI (ru)), .ref w1, .ref w2, .ref w3, .ref w4, .ref w5, .ref w6, .int (nI (wt)), .int (nI (rd)), .long (va), .ref w7, .ref w8, .ref w9, .ref wa, .ref wb, .ref wd])), (w2, .inl (cs.1, 48, .inl (fun j => nI (ln j)))), (w3, .inl (cs.2.2.1, 48, .inl (fun j => nI (rg j))))]) (As := [.int (nI (0)), .int (nI (0))]) (rest := []) (m_M_fails_1 l D cs w w1 w2 w3 w4 w5 w6 w7 w8 w9 wa wb wd (cd) (ru) (wt) (rd) (va)  (0)) tw_501 tw_503 ts_15 tw_6 tw_504 rfl 0 rfl rfl (by decide +kernel) rfl ⟨rfl, rfl, by decide, by decide, by decide⟩ rfl [0] rfl rfl (by decide) (Nat.le_of_ble_eq_true rfl) rfl d_M_given_20 ?_
    refine n_if_eq C 28 d_M_given_23 (by decide) (by omega) (fun h => absurd h (by omega)) (fun _ => ?_)
    refine g_iconst C (v := nI 0) d_M_given_26 rfl ?_
    exact g_zret C hr hlk rfl rfl rfl d_M_given_27
  · refine g_iload_n C d_M_given_9 2 rfl rfl ?_
    refine g_bipush C (v := nI 16) d_M_given_10 rfl ?_
    refine g_icmp_gt C 19 d_M_given_12 (by decide) (fun h12 => ?_) (fun h12 => ?_)
    · refine g_iconst C (v := nI 0) d_M_given_19 rfl ?_
      refine g_callVi C (n := 2) (ws' := [(w, .inr (4, [.int (nI (1)), .int (nI (ru)), .ref w1, .ref w2, .ref w3, .ref w4, .ref w5, .ref w6, .int (nI (wt)), .int (nI (rd)), .long (va), .ref w7, .ref w8, .ref w9, .ref wa, .ref wb, .ref wd])), (w2, .inl (cs.1, 48, .inl (fun j => nI (ln j)))), (w3, .inl (cs.2.2.1, 48, .inl (fun j => nI (rg j))))]) (As := [.int (nI (0)), .int (nI (0))]) (rest := []) (m_M_fails_1 l D cs w w1 w2 w3 w4 w5 w6 w7 w8 w9 wa wb wd (cd) (ru) (wt) (rd) (va)  (0)) tw_501 tw_503 ts_15 tw_6 tw_504 rfl 0 rfl rfl (by decide +kernel) rfl ⟨rfl, rfl, by decide, by decide, by decide⟩ rfl [0] rfl rfl (by decide) (Nat.le_of_ble_eq_true rfl) rfl d_M_given_20 ?_
      refine n_if_eq C 28 d_M_given_23 (by decide) (by omega) (fun h => absurd h (by omega)) (fun _ => ?_)
      refine g_iconst C (v := nI 0) d_M_given_26 rfl ?_
      exact g_zret C hr hlk rfl rfl rfl d_M_given_27
    · refine g_iconst C (v := nI 1) d_M_given_15 rfl ?_
      refine g_goto C 20 d_M_given_16 (by decide) ?_
      refine g_callVi C (n := 2) (ws' := [(w, .inr (4, [.int (nI (1)), .int (nI (ru)), .ref w1, .ref w2, .ref w3, .ref w4, .ref w5, .ref w6, .int (nI (wt)), .int (nI (rd)), .long (va), .ref w7, .ref w8, .ref w9, .ref wa, .ref wb, .ref wd])), (w2, .inl (cs.1, 48, .inl (fun j => nI (ln j)))), (w3, .inl (cs.2.2.1, 48, .inl (fun j => nI (rg j))))]) (As := [.int (nI (0)), .int (nI (1))]) (rest := []) (m_M_fails_1 l D cs w w1 w2 w3 w4 w5 w6 w7 w8 w9 wa wb wd (cd) (ru) (wt) (rd) (va)  (1)) tw_501 tw_503 ts_15 tw_6 tw_504 rfl 0 rfl rfl (by decide +kernel) rfl ⟨rfl, rfl, by decide, by decide, by decide⟩ rfl [0] rfl rfl (by decide) (Nat.le_of_ble_eq_true rfl) rfl d_M_given_20 ?_
      refine n_if_eq C 28 d_M_given_23 (by decide) (by omega) (fun h => absurd h (by omega)) (fun _ => ?_)
      refine g_iconst C (v := nI 0) d_M_given_26 rfl ?_
      exact g_zret C hr hlk rfl rfl rfl d_M_given_27
set_option maxHeartbeats 4000000 in
set_option maxRecDepth 100000 in
theorem m_M_given_2 (l : Launch) (D : va_G) (cs : ClassId × ClassId × ClassId × ClassId) (w w1 w2 w3 w4 w5 w6 w7 w8 w9 wa wb wd : Nat) (cd ru wt rd : Nat) (va : Int64) (ln : Nat → Nat) (rg : Nat → Nat) (y : Nat) (hy : y < 48) (x : Int32) (hx : x < 0 ∨ ¬ x ≤ nI 16) : MG l y_M_given k_M_given { frames := 1, cells := 0, slots := 0, locals := 22 } D cs [.ref w, .int (nI (y)), .int (x)] [(w, .inr (4, [.int (nI (cd)), .int (nI (ru)), .ref w1, .ref w2, .ref w3, .ref w4, .ref w5, .ref w6, .int (nI (wt)), .int (nI (rd)), .long (va), .ref w7, .ref w8, .ref w9, .ref wa, .ref wb, .ref wd])), (w2, .inl (cs.1, 48, .inl (fun j => nI (ln j)))), (w3, .inl (cs.2.2.1, 48, .inl (fun j => nI (rg j))))] (QI D (nI (0)) [(w, .inr (4, [.int (nI (2)), .int (nI (ru)), .ref w1, .ref w2, .ref w3, .ref w4, .ref w5, .ref w6, .int (nI (wt)), .int (nI (rd)), .long (va), .ref w7, .ref w8, .ref w9, .ref wa, .ref wb, .ref wd])), (w2, .inl (cs.1, 48, .inl (fun j => nI (ln j)))), (w3, .inl (cs.2.2.1, 48, .inl (fun j => nI (rg j))))]) := by
  refine MG.mk (own := RM) (by decide) rfl (Nat.le_of_ble_eq_true rfl) ?_
  intro p e s m below meth c A C hr hlk
  refine g_lv (lv' := [(0, .ref w), (1, .int (nI (y))), (2, .int (x))]) [0, 1, 2] rfl ?_
  refine g_aload_n C d_M_given_0 0 rfl rfl ?_
  refine g_iload_n C d_M_given_1 1 rfl rfl ?_
  refine g_callSi C (n := 1) (ws' := [(w, .inr (4, [.int (nI (cd)), .int (nI (ru)), .ref w1, .ref w2, .ref w3, .ref w4, .ref w5, .ref w6, .int (nI (wt)), .int (nI (rd)), .long (va), .ref w7, .ref w8, .ref w9, .ref wa, .ref wb, .ref wd])), (w2, .inl (cs.1, 48, .inl (fun j => nI (ln j)))), (w3, .inl (cs.2.2.1, 48, .inl (fun j => nI (rg j))))]) (As := [.int (nI (y))]) (rest := [.ref w]) (m_M_isSymbol_1 l D cs (y) (by omega)) tw_497 tw_498 tw_6 tw_499 (by decide +kernel) rfl ⟨rfl, rfl, by decide, by decide, by decide⟩ rfl [] rfl rfl (by decide) (Nat.le_of_ble_eq_true rfl) rfl d_M_given_2 ?_
  refine g_iload_n C d_M_given_5 2 rfl rfl ?_
  refine g_if_lt C 19 d_M_given_6 (by decide) (fun h6 => ?_) (fun h6 => ?_)
  · refine g_iconst C (v := nI 0) d_M_given_19 rfl ?_
    refine g_callVi C (n := 2) (ws' := [(w, .inr (4, [.int (nI (2)), .int (nI (ru)), .ref w1, .ref w2, .ref w3, .ref w4, .ref w5, .ref w6, .int (nI (wt)), .int (nI (rd)), .long (va), .ref w7, .ref w8, .ref w9, .ref wa, .ref wb, .ref wd])), (w2, .inl (cs.1, 48, .inl (fun j => nI (ln j)))), (w3, .inl (cs.2.2.1, 48, .inl (fun j => nI (rg j))))]) (As := [.int (nI (1)), .int (nI (0))]) (rest := []) (m_M_fails_2 l D cs w w1 w2 w3 w4 w5 w6 w7 w8 w9 wa wb wd (cd) (ru) (wt) (rd) (va)  ) tw_501 tw_503 ts_15 tw_6 tw_504 rfl 0 rfl rfl (by decide +kernel) rfl ⟨rfl, rfl, by decide, by decide, by decide⟩ rfl [0] rfl rfl (by decide) (Nat.le_of_ble_eq_true rfl) rfl d_M_given_20 ?_
    refine n_if_eq C 28 d_M_given_23 (by decide) (by omega) (fun h => absurd h (by omega)) (fun _ => ?_)
    refine g_iconst C (v := nI 0) d_M_given_26 rfl ?_
    exact g_zret C hr hlk rfl rfl rfl d_M_given_27
  · refine g_iload_n C d_M_given_9 2 rfl rfl ?_
    refine g_bipush C (v := nI 16) d_M_given_10 rfl ?_
    refine g_icmp_gt C 19 d_M_given_12 (by decide) (fun h12 => ?_) (fun h12 => ?_)
    · refine g_iconst C (v := nI 0) d_M_given_19 rfl ?_
      refine g_callVi C (n := 2) (ws' := [(w, .inr (4, [.int (nI (2)), .int (nI (ru)), .ref w1, .ref w2, .ref w3, .ref w4, .ref w5, .ref w6, .int (nI (wt)), .int (nI (rd)), .long (va), .ref w7, .ref w8, .ref w9, .ref wa, .ref wb, .ref wd])), (w2, .inl (cs.1, 48, .inl (fun j => nI (ln j)))), (w3, .inl (cs.2.2.1, 48, .inl (fun j => nI (rg j))))]) (As := [.int (nI (1)), .int (nI (0))]) (rest := []) (m_M_fails_2 l D cs w w1 w2 w3 w4 w5 w6 w7 w8 w9 wa wb wd (cd) (ru) (wt) (rd) (va)  ) tw_501 tw_503 ts_15 tw_6 tw_504 rfl 0 rfl rfl (by decide +kernel) rfl ⟨rfl, rfl, by decide, by decide, by decide⟩ rfl [0] rfl rfl (by decide) (Nat.le_of_ble_eq_true rfl) rfl d_M_given_20 ?_
      refine n_if_eq C 28 d_M_given_23 (by decide) (by omega) (fun h => absurd h (by omega)) (fun _ => ?_)
      refine g_iconst C (v := nI 0) d_M_given_26 rfl ?_
      exact g_zret C hr hlk rfl rfl rfl d_M_given_27
    · exact hx.elim (fun h => absurd h (by assumption)) (fun h => absurd (Int32.not_lt.mp (by assumption)) h)
set_option maxHeartbeats 4000000 in
set_option maxRecDepth 100000 in
theorem m_M_range_0 (l : Launch) (D : va_G) (cs : ClassId × ClassId × ClassId × ClassId) (w w1 w2 w3 w4 w5 w6 w7 w8 w9 wa wb wd : Nat) (cd ru wt rd : Nat) (va : Int64) (ln : Nat → Nat) (rg : Nat → Nat) (lo : Nat → Int32) (ex : Nat → Int32) (y L : Nat) (lw e9 : Int32) (hy : y < 48) (h1L : 1 ≤ L) (hL : L ≤ 16) (he : ¬ e9 < (-32)) (he2 : e9 ≤ nI 32) (hl : ∀ j, j < 48 → ln j ≤ 16) : MG l y_M_range k_M_range { frames := 1, cells := 0, slots := 0, locals := 22 } D cs [.ref w, .int (nI (y)), .int (lw), .int (e9), .int (nI (L))] [(w, .inr (4, [.int (nI (cd)), .int (nI (ru)), .ref w1, .ref w2, .ref w3, .ref w4, .ref w5, .ref w6, .int (nI (wt)), .int (nI (rd)), .long (va), .ref w7, .ref w8, .ref w9, .ref wa, .ref wb, .ref wd])), (w2, .inl (cs.1, 48, .inl (fun j => nI (ln j)))), (w3, .inl (cs.2.2.1, 48, .inl (fun j => nI (rg j)))), (w4, .inl (cs.1, 48, .inl (lo))), (w5, .inl (cs.1, 48, .inl (ex)))] (QI D (nI (if stt (flm (updN (ln) (y) (L)) 48) < 2 then 1 else 0)) [(w, .inr (4, [.int (nI (0)), .int (nI (ru)), .ref w1, .ref w2, .ref w3, .ref w4, .ref w5, .ref w6, .int (nI (wt)), .int (nI (rd)), .long (va), .ref w7, .ref w8, .ref w9, .ref wa, .ref wb, .ref wd])), (w2, .inl (cs.1, 48, .inl (fun j => nI ((updN (ln) (y) (L)) j)))), (w3, .inl (cs.2.2.1, 48, .inl (fun j => nI ((updN (rg) (y) (1)) j)))), (w4, .inl (cs.1, 48, .inl (upd (lo) (y) (lw)))), (w5, .inl (cs.1, 48, .inl (upd (ex) (y) (e9))))]) := by
  refine MG.mk (own := RM) (by decide) rfl (Nat.le_of_ble_eq_true rfl) ?_
  intro p e s m below meth c A C hr hlk
  refine g_lv (lv' := [(0, .ref w), (1, .int (nI (y))), (2, .int (lw)), (3, .int (e9)), (4, .int (nI (L)))]) [0, 1, 2, 3, 4] rfl ?_
  refine g_aload_n C d_M_range_0 0 rfl rfl ?_
  refine g_iload_n C d_M_range_1 1 rfl rfl ?_
  refine g_callSi C (n := 1) (ws' := [(w, .inr (4, [.int (nI (cd)), .int (nI (ru)), .ref w1, .ref w2, .ref w3, .ref w4, .ref w5, .ref w6, .int (nI (wt)), .int (nI (rd)), .long (va), .ref w7, .ref w8, .ref w9, .ref wa, .ref wb, .ref wd])), (w2, .inl (cs.1, 48, .inl (fun j => nI (ln j)))), (w3, .inl (cs.2.2.1, 48, .inl (fun j => nI (rg j)))), (w4, .inl (cs.1, 48, .inl (lo))), (w5, .inl (cs.1, 48, .inl (ex)))]) (As := [.int (nI (y))]) (rest := [.ref w]) (m_M_isSymbol_1 l D cs (y) (by omega)) tw_497 tw_498 tw_6 tw_499 (by decide +kernel) rfl ⟨rfl, rfl, by decide, by decide, by decide⟩ rfl [] rfl rfl (by decide) (Nat.le_of_ble_eq_true rfl) rfl d_M_range_2 ?_
  refine g_iload C d_M_range_5 4 rfl ?_
  refine g_iconst C (v := nI 1) d_M_range_7 rfl ?_
  refine n_icmp_lt C 34 d_M_range_8 (by decide) (by omega) (by omega) (fun h => absurd h (by omega)) (fun _ => ?_)
  refine g_iload C d_M_range_11 4 rfl ?_
  refine g_bipush C (v := nI 16) d_M_range_13 rfl ?_
  refine n_icmp_gt C 34 d_M_range_15 (by decide) (by omega) (by omega) (fun h => absurd h (by omega)) (fun _ => ?_)
  refine g_iload_n C d_M_range_18 3 rfl rfl ?_
  refine g_bipush C (v := (-32)) d_M_range_19 rfl ?_
  refine g_icmp_lt C 34 d_M_range_21 (by decide) (fun h21 => ?_) (fun h21 => ?_)
  · first | exact absurd (by assumption) he | exact absurd he2 (Int32.not_le.mpr (by assumption))
  · refine g_iload_n C d_M_range_24 3 rfl rfl ?_
    refine g_bipush C (v := nI 32) d_M_range_25 rfl ?_
    refine g_icmp_gt C 34 d_M_range_27 (by decide) (fun h27 => ?_) (fun h27 => ?_)
    · first | exact absurd (by assumption) he | exact absurd he2 (Int32.not_le.mpr (by assumption))
    · refine g_iconst C (v := nI 1) d_M_range_30 rfl ?_
      refine g_goto C 35 d_M_range_31 (by decide) ?_
      refine g_callVi C (n := 2) (ws' := [(w, .inr (4, [.int (nI (0)), .int (nI (ru)), .ref w1, .ref w2, .ref w3, .ref w4, .ref w5, .ref w6, .int (nI (wt)), .int (nI (rd)), .long (va), .ref w7, .ref w8, .ref w9, .ref wa, .ref wb, .ref wd])), (w2, .inl (cs.1, 48, .inl (fun j => nI (ln j)))), (w3, .inl (cs.2.2.1, 48, .inl (fun j => nI (rg j)))), (w4, .inl (cs.1, 48, .inl (lo))), (w5, .inl (cs.1, 48, .inl (ex)))]) (As := [.int (nI (1)), .int (nI (1))]) (rest := []) (m_M_fails_0 l D cs w w1 w2 w3 w4 w5 w6 w7 w8 w9 wa wb wd (cd) (ru) (wt) (rd) (va)  ) tw_501 tw_503 ts_15 tw_6 tw_504 rfl 0 rfl rfl (by decide +kernel) rfl ⟨rfl, rfl, by decide, by decide, by decide⟩ rfl [0] rfl rfl (by decide) (Nat.le_of_ble_eq_true rfl) rfl d_M_range_35 ?_
      refine n_if_eq C 43 d_M_range_38 (by decide) (by omega) (fun _ => ?_) (fun h => absurd h (by omega))
      refine g_aload_n C d_M_range_43 0 rfl rfl ?_
      refine g_get C (T := FM) (N := 17) 0 3 inM rfl rfl (by decide) tw_439 rfl rfl d_M_range_44 ?_
      refine g_iload_n C d_M_range_47 1 rfl rfl ?_
      refine g_iload C d_M_range_48 4 rfl ?_
      refine n_iast C (ws' := [(w, .inr (4, [.int (nI (0)), .int (nI (ru)), .ref w1, .ref w2, .ref w3, .ref w4, .ref w5, .ref w6, .int (nI (wt)), .int (nI (rd)), .long (va), .ref w7, .ref w8, .ref w9, .ref wa, .ref wb, .ref wd])), (w2, .inl (cs.1, 48, .inl (fun j => nI ((updN (ln) (y) (L)) j)))), (w3, .inl (cs.2.2.1, 48, .inl (fun j => nI (rg j)))), (w4, .inl (cs.1, 48, .inl (lo))), (w5, .inl (cs.1, 48, .inl (ex)))]) 1 rfl (by omega) (by decide) rfl d_M_range_50 ?_
      refine g_aload_n C d_M_range_51 0 rfl rfl ?_
      refine g_get C (T := FM) (N := 17) 0 4 inM rfl rfl (by decide) tw_440 rfl rfl d_M_range_52 ?_
      refine g_iload_n C d_M_range_55 1 rfl rfl ?_
      refine g_iconst C (v := nI 1) d_M_range_56 rfl ?_
      refine n_zast C (ws' := [(w, .inr (4, [.int (nI (0)), .int (nI (ru)), .ref w1, .ref w2, .ref w3, .ref w4, .ref w5, .ref w6, .int (nI (wt)), .int (nI (rd)), .long (va), .ref w7, .ref w8, .ref w9, .ref wa, .ref wb, .ref wd])), (w2, .inl (cs.1, 48, .inl (fun j => nI ((updN (ln) (y) (L)) j)))), (w3, .inl (cs.2.2.1, 48, .inl (fun j => nI ((updN (rg) (y) (1)) j)))), (w4, .inl (cs.1, 48, .inl (lo))), (w5, .inl (cs.1, 48, .inl (ex)))]) 2 rfl (by omega) (by decide) (by omega) rfl d_M_range_57 ?_
      refine g_aload_n C d_M_range_58 0 rfl rfl ?_
      refine g_get C (T := FM) (N := 17) 0 5 inM rfl rfl (by decide) tw_441 rfl rfl d_M_range_59 ?_
      refine g_iload_n C d_M_range_62 1 rfl rfl ?_
      refine g_iload_n C d_M_range_63 2 rfl rfl ?_
      refine g_iast C (ws' := [(w, .inr (4, [.int (nI (0)), .int (nI (ru)), .ref w1, .ref w2, .ref w3, .ref w4, .ref w5, .ref w6, .int (nI (wt)), .int (nI (rd)), .long (va), .ref w7, .ref w8, .ref w9, .ref wa, .ref wb, .ref wd])), (w2, .inl (cs.1, 48, .inl (fun j => nI ((updN (ln) (y) (L)) j)))), (w3, .inl (cs.2.2.1, 48, .inl (fun j => nI ((updN (rg) (y) (1)) j)))), (w4, .inl (cs.1, 48, .inl (upd (lo) (y) (lw)))), (w5, .inl (cs.1, 48, .inl (ex)))]) 3 rfl (by omega) (by decide) rfl d_M_range_64 ?_
      refine g_aload_n C d_M_range_65 0 rfl rfl ?_
      refine g_get C (T := FM) (N := 17) 0 6 inM rfl rfl (by decide) tw_442 rfl rfl d_M_range_66 ?_
      refine g_iload_n C d_M_range_69 1 rfl rfl ?_
      refine g_iload_n C d_M_range_70 3 rfl rfl ?_
      refine g_iast C (ws' := [(w, .inr (4, [.int (nI (0)), .int (nI (ru)), .ref w1, .ref w2, .ref w3, .ref w4, .ref w5, .ref w6, .int (nI (wt)), .int (nI (rd)), .long (va), .ref w7, .ref w8, .ref w9, .ref wa, .ref wb, .ref wd])), (w2, .inl (cs.1, 48, .inl (fun j => nI ((updN (ln) (y) (L)) j)))), (w3, .inl (cs.2.2.1, 48, .inl (fun j => nI ((updN (rg) (y) (1)) j)))), (w4, .inl (cs.1, 48, .inl (upd (lo) (y) (lw)))), (w5, .inl (cs.1, 48, .inl (upd (ex) (y) (e9))))]) 4 rfl (by omega) (by decide) rfl d_M_range_71 ?_
      refine g_aload_n C d_M_range_72 0 rfl rfl ?_
      refine g_callVi C (n := 0) (ws' := [(w, .inr (4, [.int (nI (0)), .int (nI (ru)), .ref w1, .ref w2, .ref w3, .ref w4, .ref w5, .ref w6, .int (nI (wt)), .int (nI (rd)), .long (va), .ref w7, .ref w8, .ref w9, .ref wa, .ref wb, .ref wd])), (w2, .inl (cs.1, 48, .inl (fun j => nI ((updN (ln) (y) (L)) j)))), (w3, .inl (cs.2.2.1, 48, .inl (fun j => nI ((updN (rg) (y) (1)) j)))), (w4, .inl (cs.1, 48, .inl (upd (lo) (y) (lw)))), (w5, .inl (cs.1, 48, .inl (upd (ex) (y) (e9))))]) (As := []) (rest := []) (m_M_fill l D cs w w1 w2 w3 w4 w5 w6 w7 w8 w9 wa wb wd (0) (ru) (wt) (rd) (va) ((updN (ln) (y) (L))) (fun j hj => by unfold updN; split; exact hL; exact hl j hj)) tw_525 tw_527 ts_18 tw_6 tw_528 rfl 0 rfl rfl (by decide +kernel) rfl ⟨rfl, rfl, by decide, by decide, by decide⟩ rfl [0, 1] rfl rfl (by decide) (Nat.le_of_ble_eq_true rfl) rfl d_M_range_73 ?_
      refine g_iconst C (v := nI 2) d_M_range_76 rfl ?_
      refine n_icmp_ge C 84 d_M_range_77 (by decide) (by unfold stt; (repeat' split) <;> omega) (by omega) (fun h77 => ?_) (fun h77 => ?_)
      · refine g_iconst C (v := nI 0) d_M_range_84 rfl ?_
        exact g_zret C hr hlk rfl (by first | rw [if_pos (by assumption)] | rw [if_neg (by omega)]) rfl d_M_range_85
      · refine g_iconst C (v := nI 1) d_M_range_80 rfl ?_
        refine g_goto C 85 d_M_range_81 (by decide) ?_
        exact g_zret C hr hlk rfl (by first | rw [if_pos (by assumption)] | rw [if_neg (by omega)]) rfl d_M_range_85
set_option maxHeartbeats 4000000 in
set_option maxRecDepth 100000 in
theorem m_M_range_1 (l : Launch) (D : va_G) (cs : ClassId × ClassId × ClassId × ClassId) (w w1 w2 w3 w4 w5 w6 w7 w8 w9 wa wb wd : Nat) (cd ru wt rd : Nat) (va : Int64) (ln : Nat → Nat) (rg : Nat → Nat) (lo : Nat → Int32) (ex : Nat → Int32) (x : Int32) (hx : x < 0 ∨ ¬ x < nI 48) (z1 z2 z3 : Int32) : MG l y_M_range k_M_range { frames := 1, cells := 0, slots := 0, locals := 22 } D cs [.ref w, .int (x), .int (z1), .int (z2), .int (z3)] [(w, .inr (4, [.int (nI (cd)), .int (nI (ru)), .ref w1, .ref w2, .ref w3, .ref w4, .ref w5, .ref w6, .int (nI (wt)), .int (nI (rd)), .long (va), .ref w7, .ref w8, .ref w9, .ref wa, .ref wb, .ref wd])), (w2, .inl (cs.1, 48, .inl (fun j => nI (ln j)))), (w3, .inl (cs.2.2.1, 48, .inl (fun j => nI (rg j)))), (w4, .inl (cs.1, 48, .inl (lo))), (w5, .inl (cs.1, 48, .inl (ex)))] (QI D (nI (0)) [(w, .inr (4, [.int (nI (1)), .int (nI (ru)), .ref w1, .ref w2, .ref w3, .ref w4, .ref w5, .ref w6, .int (nI (wt)), .int (nI (rd)), .long (va), .ref w7, .ref w8, .ref w9, .ref wa, .ref wb, .ref wd])), (w2, .inl (cs.1, 48, .inl (fun j => nI (ln j)))), (w3, .inl (cs.2.2.1, 48, .inl (fun j => nI (rg j)))), (w4, .inl (cs.1, 48, .inl (lo))), (w5, .inl (cs.1, 48, .inl (ex)))]) := by
  refine MG.mk (own := RM) (by decide) rfl (Nat.le_of_ble_eq_true rfl) ?_
  intro p e s m below meth c A C hr hlk
  refine g_lv (lv' := [(0, .ref w), (1, .int (x)), (2, .int (z1)), (3, .int (z2)), (4, .int (z3))]) [0, 1, 2, 3, 4] rfl ?_
  refine g_aload_n C d_M_range_0 0 rfl rfl ?_
  refine g_iload_n C d_M_range_1 1 rfl rfl ?_
  refine g_callSi C (n := 1) (ws' := [(w, .inr (4, [.int (nI (cd)), .int (nI (ru)), .ref w1, .ref w2, .ref w3, .ref w4, .ref w5, .ref w6, .int (nI (wt)), .int (nI (rd)), .long (va), .ref w7, .ref w8, .ref w9, .ref wa, .ref wb, .ref wd])), (w2, .inl (cs.1, 48, .inl (fun j => nI (ln j)))), (w3, .inl (cs.2.2.1, 48, .inl (fun j => nI (rg j)))), (w4, .inl (cs.1, 48, .inl (lo))), (w5, .inl (cs.1, 48, .inl (ex)))]) (As := [.int (x)]) (rest := [.ref w]) (m_M_isSymbol_0 l D cs (x) hx) tw_497 tw_498 tw_6 tw_499 (by decide +kernel) rfl ⟨rfl, rfl, by decide, by decide, by decide⟩ rfl [] rfl rfl (by decide) (Nat.le_of_ble_eq_true rfl) rfl d_M_range_2 ?_
  refine g_iload C d_M_range_5 4 rfl ?_
  refine g_iconst C (v := nI 1) d_M_range_7 rfl ?_
  refine g_icmp_lt C 34 d_M_range_8 (by decide) (fun h8 => ?_) (fun h8 => ?_)
  · refine g_iconst C (v := nI 0) d_M_range_34 rfl ?_
    refine g_callVi C (n := 2) (ws' := [(w, .inr (4, [.int (nI (1)), .int (nI (ru)), .ref w1, .ref w2, .ref w3, .ref w4, .ref w5, .ref w6, .int (nI (wt)), .int (nI (rd)), .long (va), .ref w7, .ref w8, .ref w9, .ref wa, .ref wb, .ref wd])), (w2, .inl (cs.1, 48, .inl (fun j => nI (ln j)))), (w3, .inl (cs.2.2.1, 48, .inl (fun j => nI (rg j)))), (w4, .inl (cs.1, 48, .inl (lo))), (w5, .inl (cs.1, 48, .inl (ex)))]) (As := [.int (nI (0)), .int (nI (0))]) (rest := []) (m_M_fails_1 l D cs w w1 w2 w3 w4 w5 w6 w7 w8 w9 wa wb wd (cd) (ru) (wt) (rd) (va)  (0)) tw_501 tw_503 ts_15 tw_6 tw_504 rfl 0 rfl rfl (by decide +kernel) rfl ⟨rfl, rfl, by decide, by decide, by decide⟩ rfl [0] rfl rfl (by decide) (Nat.le_of_ble_eq_true rfl) rfl d_M_range_35 ?_
    refine n_if_eq C 43 d_M_range_38 (by decide) (by omega) (fun h => absurd h (by omega)) (fun _ => ?_)
    refine g_iconst C (v := nI 0) d_M_range_41 rfl ?_
    exact g_zret C hr hlk rfl rfl rfl d_M_range_42
  · refine g_iload C d_M_range_11 4 rfl ?_
    refine g_bipush C (v := nI 16) d_M_range_13 rfl ?_
    refine g_icmp_gt C 34 d_M_range_15 (by decide) (fun h15 => ?_) (fun h15 => ?_)
    · refine g_iconst C (v := nI 0) d_M_range_34 rfl ?_
      refine g_callVi C (n := 2) (ws' := [(w, .inr (4, [.int (nI (1)), .int (nI (ru)), .ref w1, .ref w2, .ref w3, .ref w4, .ref w5, .ref w6, .int (nI (wt)), .int (nI (rd)), .long (va), .ref w7, .ref w8, .ref w9, .ref wa, .ref wb, .ref wd])), (w2, .inl (cs.1, 48, .inl (fun j => nI (ln j)))), (w3, .inl (cs.2.2.1, 48, .inl (fun j => nI (rg j)))), (w4, .inl (cs.1, 48, .inl (lo))), (w5, .inl (cs.1, 48, .inl (ex)))]) (As := [.int (nI (0)), .int (nI (0))]) (rest := []) (m_M_fails_1 l D cs w w1 w2 w3 w4 w5 w6 w7 w8 w9 wa wb wd (cd) (ru) (wt) (rd) (va)  (0)) tw_501 tw_503 ts_15 tw_6 tw_504 rfl 0 rfl rfl (by decide +kernel) rfl ⟨rfl, rfl, by decide, by decide, by decide⟩ rfl [0] rfl rfl (by decide) (Nat.le_of_ble_eq_true rfl) rfl d_M_range_35 ?_
      refine n_if_eq C 43 d_M_range_38 (by decide) (by omega) (fun h => absurd h (by omega)) (fun _ => ?_)
      refine g_iconst C (v := nI 0) d_M_range_41 rfl ?_
      exact g_zret C hr hlk rfl rfl rfl d_M_range_42
    · refine g_iload_n C d_M_range_18 3 rfl rfl ?_
      refine g_bipush C (v := (-32)) d_M_range_19 rfl ?_
      refine g_icmp_lt C 34 d_M_range_21 (by decide) (fun h21 => ?_) (fun h21 => ?_)
      · refine g_iconst C (v := nI 0) d_M_range_34 rfl ?_
        refine g_callVi C (n := 2) (ws' := [(w, .inr (4, [.int (nI (1)), .int (nI (ru)), .ref w1, .ref w2, .ref w3, .ref w4, .ref w5, .ref w6, .int (nI (wt)), .int (nI (rd)), .long (va), .ref w7, .ref w8, .ref w9, .ref wa, .ref wb, .ref wd])), (w2, .inl (cs.1, 48, .inl (fun j => nI (ln j)))), (w3, .inl (cs.2.2.1, 48, .inl (fun j => nI (rg j)))), (w4, .inl (cs.1, 48, .inl (lo))), (w5, .inl (cs.1, 48, .inl (ex)))]) (As := [.int (nI (0)), .int (nI (0))]) (rest := []) (m_M_fails_1 l D cs w w1 w2 w3 w4 w5 w6 w7 w8 w9 wa wb wd (cd) (ru) (wt) (rd) (va)  (0)) tw_501 tw_503 ts_15 tw_6 tw_504 rfl 0 rfl rfl (by decide +kernel) rfl ⟨rfl, rfl, by decide, by decide, by decide⟩ rfl [0] rfl rfl (by decide) (Nat.le_of_ble_eq_true rfl) rfl d_M_range_35 ?_
        refine n_if_eq C 43 d_M_range_38 (by decide) (by omega) (fun h => absurd h (by omega)) (fun _ => ?_)
        refine g_iconst C (v := nI 0) d_M_range_41 rfl ?_
        exact g_zret C hr hlk rfl rfl rfl d_M_range_42
      · refine g_iload_n C d_M_range_24 3 rfl rfl ?_
        refine g_bipush C (v := nI 32) d_M_range_25 rfl ?_
        refine g_icmp_gt C 34 d_M_range_27 (by decide) (fun h27 => ?_) (fun h27 => ?_)
        · refine g_iconst C (v := nI 0) d_M_range_34 rfl ?_
          refine g_callVi C (n := 2) (ws' := [(w, .inr (4, [.int (nI (1)), .int (nI (ru)), .ref w1, .ref w2, .ref w3, .ref w4, .ref w5, .ref w6, .int (nI (wt)), .int (nI (rd)), .long (va), .ref w7, .ref w8, .ref w9, .ref wa, .ref wb, .ref wd])), (w2, .inl (cs.1, 48, .inl (fun j => nI (ln j)))), (w3, .inl (cs.2.2.1, 48, .inl (fun j => nI (rg j)))), (w4, .inl (cs.1, 48, .inl (lo))), (w5, .inl (cs.1, 48, .inl (ex)))]) (As := [.int (nI (0)), .int (nI (0))]) (rest := []) (m_M_fails_1 l D cs w w1 w2 w3 w4 w5 w6 w7 w8 w9 wa wb wd (cd) (ru) (wt) (rd) (va)  (0)) tw_501 tw_503 ts_15 tw_6 tw_504 rfl 0 rfl rfl (by decide +kernel) rfl ⟨rfl, rfl, by decide, by decide, by decide⟩ rfl [0] rfl rfl (by decide) (Nat.le_of_ble_eq_true rfl) rfl d_M_range_35 ?_
          refine n_if_eq C 43 d_M_range_38 (by decide) (by omega) (fun h => absurd h (by omega)) (fun _ => ?_)
          refine g_iconst C (v := nI 0) d_M_range_41 rfl ?_
          exact g_zret C hr hlk rfl rfl rfl d_M_range_42
        · refine g_iconst C (v := nI 1) d_M_range_30 rfl ?_
          refine g_goto C 35 d_M_range_31 (by decide) ?_
          refine g_callVi C (n := 2) (ws' := [(w, .inr (4, [.int (nI (1)), .int (nI (ru)), .ref w1, .ref w2, .ref w3, .ref w4, .ref w5, .ref w6, .int (nI (wt)), .int (nI (rd)), .long (va), .ref w7, .ref w8, .ref w9, .ref wa, .ref wb, .ref wd])), (w2, .inl (cs.1, 48, .inl (fun j => nI (ln j)))), (w3, .inl (cs.2.2.1, 48, .inl (fun j => nI (rg j)))), (w4, .inl (cs.1, 48, .inl (lo))), (w5, .inl (cs.1, 48, .inl (ex)))]) (As := [.int (nI (0)), .int (nI (1))]) (rest := []) (m_M_fails_1 l D cs w w1 w2 w3 w4 w5 w6 w7 w8 w9 wa wb wd (cd) (ru) (wt) (rd) (va)  (1)) tw_501 tw_503 ts_15 tw_6 tw_504 rfl 0 rfl rfl (by decide +kernel) rfl ⟨rfl, rfl, by decide, by decide, by decide⟩ rfl [0] rfl rfl (by decide) (Nat.le_of_ble_eq_true rfl) rfl d_M_range_35 ?_
          refine n_if_eq C 43 d_M_range_38 (by decide) (by omega) (fun h => absurd h (by omega)) (fun _ => ?_)
          refine g_iconst C (v := nI 0) d_M_range_41 rfl ?_
          exact g_zret C hr hlk rfl rfl rfl d_M_range_42
set_option maxHeartbeats 4000000 in
set_option maxRecDepth 100000 in
theorem m_M_range_2 (l : Launch) (D : va_G) (cs : ClassId × ClassId × ClassId × ClassId) (w w1 w2 w3 w4 w5 w6 w7 w8 w9 wa wb wd : Nat) (cd ru wt rd : Nat) (va : Int64) (ln : Nat → Nat) (rg : Nat → Nat) (lo : Nat → Int32) (ex : Nat → Int32) (y : Nat) (hy : y < 48) (lw e9 z : Int32) (hx : (z < nI 1 ∨ ¬ z ≤ nI 16) ∨ (e9 < (-32) ∨ ¬ e9 ≤ nI 32)) : MG l y_M_range k_M_range { frames := 1, cells := 0, slots := 0, locals := 22 } D cs [.ref w, .int (nI (y)), .int (lw), .int (e9), .int (z)] [(w, .inr (4, [.int (nI (cd)), .int (nI (ru)), .ref w1, .ref w2, .ref w3, .ref w4, .ref w5, .ref w6, .int (nI (wt)), .int (nI (rd)), .long (va), .ref w7, .ref w8, .ref w9, .ref wa, .ref wb, .ref wd])), (w2, .inl (cs.1, 48, .inl (fun j => nI (ln j)))), (w3, .inl (cs.2.2.1, 48, .inl (fun j => nI (rg j)))), (w4, .inl (cs.1, 48, .inl (lo))), (w5, .inl (cs.1, 48, .inl (ex)))] (QI D (nI (0)) [(w, .inr (4, [.int (nI (2)), .int (nI (ru)), .ref w1, .ref w2, .ref w3, .ref w4, .ref w5, .ref w6, .int (nI (wt)), .int (nI (rd)), .long (va), .ref w7, .ref w8, .ref w9, .ref wa, .ref wb, .ref wd])), (w2, .inl (cs.1, 48, .inl (fun j => nI (ln j)))), (w3, .inl (cs.2.2.1, 48, .inl (fun j => nI (rg j)))), (w4, .inl (cs.1, 48, .inl (lo))), (w5, .inl (cs.1, 48, .inl (ex)))]) := by
  refine MG.mk (own := RM) (by decide) rfl (Nat.le_of_ble_eq_true rfl) ?_
  intro p e s m below meth c A C hr hlk
  refine g_lv (lv' := [(0, .ref w), (1, .int (nI (y))), (2, .int (lw)), (3, .int (e9)), (4, .int (z))]) [0, 1, 2, 3, 4] rfl ?_
  refine g_aload_n C d_M_range_0 0 rfl rfl ?_
  refine g_iload_n C d_M_range_1 1 rfl rfl ?_
  refine g_callSi C (n := 1) (ws' := [(w, .inr (4, [.int (nI (cd)), .int (nI (ru)), .ref w1, .ref w2, .ref w3, .ref w4, .ref w5, .ref w6, .int (nI (wt)), .int (nI (rd)), .long (va), .ref w7, .ref w8, .ref w9, .ref wa, .ref wb, .ref wd])), (w2, .inl (cs.1, 48, .inl (fun j => nI (ln j)))), (w3, .inl (cs.2.2.1, 48, .inl (fun j => nI (rg j)))), (w4, .inl (cs.1, 48, .inl (lo))), (w5, .inl (cs.1, 48, .inl (ex)))]) (As := [.int (nI (y))]) (rest := [.ref w]) (m_M_isSymbol_1 l D cs (y) (by omega)) tw_497 tw_498 tw_6 tw_499 (by decide +kernel) rfl ⟨rfl, rfl, by decide, by decide, by decide⟩ rfl [] rfl rfl (by decide) (Nat.le_of_ble_eq_true rfl) rfl d_M_range_2 ?_
  refine g_iload C d_M_range_5 4 rfl ?_
  refine g_iconst C (v := nI 1) d_M_range_7 rfl ?_
  refine g_icmp_lt C 34 d_M_range_8 (by decide) (fun h8 => ?_) (fun h8 => ?_)
  · refine g_iconst C (v := nI 0) d_M_range_34 rfl ?_
    refine g_callVi C (n := 2) (ws' := [(w, .inr (4, [.int (nI (2)), .int (nI (ru)), .ref w1, .ref w2, .ref w3, .ref w4, .ref w5, .ref w6, .int (nI (wt)), .int (nI (rd)), .long (va), .ref w7, .ref w8, .ref w9, .ref wa, .ref wb, .ref wd])), (w2, .inl (cs.1, 48, .inl (fun j => nI (ln j)))), (w3, .inl (cs.2.2.1, 48, .inl (fun j => nI (rg j)))), (w4, .inl (cs.1, 48, .inl (lo))), (w5, .inl (cs.1, 48, .inl (ex)))]) (As := [.int (nI (1)), .int (nI (0))]) (rest := []) (m_M_fails_2 l D cs w w1 w2 w3 w4 w5 w6 w7 w8 w9 wa wb wd (cd) (ru) (wt) (rd) (va)  ) tw_501 tw_503 ts_15 tw_6 tw_504 rfl 0 rfl rfl (by decide +kernel) rfl ⟨rfl, rfl, by decide, by decide, by decide⟩ rfl [0] rfl rfl (by decide) (Nat.le_of_ble_eq_true rfl) rfl d_M_range_35 ?_
    refine n_if_eq C 43 d_M_range_38 (by decide) (by omega) (fun h => absurd h (by omega)) (fun _ => ?_)
    refine g_iconst C (v := nI 0) d_M_range_41 rfl ?_
    exact g_zret C hr hlk rfl rfl rfl d_M_range_42
  · refine g_iload C d_M_range_11 4 rfl ?_
    refine g_bipush C (v := nI 16) d_M_range_13 rfl ?_
    refine g_icmp_gt C 34 d_M_range_15 (by decide) (fun h15 => ?_) (fun h15 => ?_)
    · refine g_iconst C (v := nI 0) d_M_range_34 rfl ?_
      refine g_callVi C (n := 2) (ws' := [(w, .inr (4, [.int (nI (2)), .int (nI (ru)), .ref w1, .ref w2, .ref w3, .ref w4, .ref w5, .ref w6, .int (nI (wt)), .int (nI (rd)), .long (va), .ref w7, .ref w8, .ref w9, .ref wa, .ref wb, .ref wd])), (w2, .inl (cs.1, 48, .inl (fun j => nI (ln j)))), (w3, .inl (cs.2.2.1, 48, .inl (fun j => nI (rg j)))), (w4, .inl (cs.1, 48, .inl (lo))), (w5, .inl (cs.1, 48, .inl (ex)))]) (As := [.int (nI (1)), .int (nI (0))]) (rest := []) (m_M_fails_2 l D cs w w1 w2 w3 w4 w5 w6 w7 w8 w9 wa wb wd (cd) (ru) (wt) (rd) (va)  ) tw_501 tw_503 ts_15 tw_6 tw_504 rfl 0 rfl rfl (by decide +kernel) rfl ⟨rfl, rfl, by decide, by decide, by decide⟩ rfl [0] rfl rfl (by decide) (Nat.le_of_ble_eq_true rfl) rfl d_M_range_35 ?_
      refine n_if_eq C 43 d_M_range_38 (by decide) (by omega) (fun h => absurd h (by omega)) (fun _ => ?_)
      refine g_iconst C (v := nI 0) d_M_range_41 rfl ?_
      exact g_zret C hr hlk rfl rfl rfl d_M_range_42
    · refine g_iload_n C d_M_range_18 3 rfl rfl ?_
      refine g_bipush C (v := (-32)) d_M_range_19 rfl ?_
      refine g_icmp_lt C 34 d_M_range_21 (by decide) (fun h21 => ?_) (fun h21 => ?_)
      · refine g_iconst C (v := nI 0) d_M_range_34 rfl ?_
        refine g_callVi C (n := 2) (ws' := [(w, .inr (4, [.int (nI (2)), .int (nI (ru)), .ref w1, .ref w2, .ref w3, .ref w4, .ref w5, .ref w6, .int (nI (wt)), .int (nI (rd)), .long (va), .ref w7, .ref w8, .ref w9, .ref wa, .ref wb, .ref wd])), (w2, .inl (cs.1, 48, .inl (fun j => nI (ln j)))), (w3, .inl (cs.2.2.1, 48, .inl (fun j => nI (rg j)))), (w4, .inl (cs.1, 48, .inl (lo))), (w5, .inl (cs.1, 48, .inl (ex)))]) (As := [.int (nI (1)), .int (nI (0))]) (rest := []) (m_M_fails_2 l D cs w w1 w2 w3 w4 w5 w6 w7 w8 w9 wa wb wd (cd) (ru) (wt) (rd) (va)  ) tw_501 tw_503 ts_15 tw_6 tw_504 rfl 0 rfl rfl (by decide +kernel) rfl ⟨rfl, rfl, by decide, by decide, by decide⟩ rfl [0] rfl rfl (by decide) (Nat.le_of_ble_eq_true rfl) rfl d_M_range_35 ?_
        refine n_if_eq C 43 d_M_range_38 (by decide) (by omega) (fun h => absurd h (by omega)) (fun _ => ?_)
        refine g_iconst C (v := nI 0) d_M_range_41 rfl ?_
        exact g_zret C hr hlk rfl rfl rfl d_M_range_42
      · refine g_iload_n C d_M_range_24 3 rfl rfl ?_
        refine g_bipush C (v := nI 32) d_M_range_25 rfl ?_
        refine g_icmp_gt C 34 d_M_range_27 (by decide) (fun h27 => ?_) (fun h27 => ?_)
        · refine g_iconst C (v := nI 0) d_M_range_34 rfl ?_
          refine g_callVi C (n := 2) (ws' := [(w, .inr (4, [.int (nI (2)), .int (nI (ru)), .ref w1, .ref w2, .ref w3, .ref w4, .ref w5, .ref w6, .int (nI (wt)), .int (nI (rd)), .long (va), .ref w7, .ref w8, .ref w9, .ref wa, .ref wb, .ref wd])), (w2, .inl (cs.1, 48, .inl (fun j => nI (ln j)))), (w3, .inl (cs.2.2.1, 48, .inl (fun j => nI (rg j)))), (w4, .inl (cs.1, 48, .inl (lo))), (w5, .inl (cs.1, 48, .inl (ex)))]) (As := [.int (nI (1)), .int (nI (0))]) (rest := []) (m_M_fails_2 l D cs w w1 w2 w3 w4 w5 w6 w7 w8 w9 wa wb wd (cd) (ru) (wt) (rd) (va)  ) tw_501 tw_503 ts_15 tw_6 tw_504 rfl 0 rfl rfl (by decide +kernel) rfl ⟨rfl, rfl, by decide, by decide, by decide⟩ rfl [0] rfl rfl (by decide) (Nat.le_of_ble_eq_true rfl) rfl d_M_range_35 ?_
          refine n_if_eq C 43 d_M_range_38 (by decide) (by omega) (fun h => absurd h (by omega)) (fun _ => ?_)
          refine g_iconst C (v := nI 0) d_M_range_41 rfl ?_
          exact g_zret C hr hlk rfl rfl rfl d_M_range_42
        · exact hx.elim (fun hx => hx.elim (fun h => absurd h (by assumption)) (fun h => absurd (Int32.not_lt.mp (by assumption)) h)) (fun hx => hx.elim (fun h => absurd h (by assumption)) (fun h => absurd (Int32.not_lt.mp (by assumption)) h))
set_option maxHeartbeats 4000000 in
set_option maxRecDepth 100000 in
theorem m_M_feed_0 (l : Launch) (D : va_G) (cs : ClassId × ClassId × ClassId × ClassId) (w w1 w2 w3 w4 w5 w6 w7 w8 w9 wa wb wd : Nat) (cd ru wt rd : Nat) (va : Int64) (bt : Nat → Nat) (b9 : Nat) (hb9 : b9 < 2) (hz : wt ≤ 400) : MG l y_M_feed k_M_feed { frames := 1, cells := 0, slots := 0, locals := 22 } D cs [.ref w, .int (nI (b9))] [(w, .inr (4, [.int (nI (cd)), .int (nI (ru)), .ref w1, .ref w2, .ref w3, .ref w4, .ref w5, .ref w6, .int (nI (wt)), .int (nI (rd)), .long (va), .ref w7, .ref w8, .ref w9, .ref wa, .ref wb, .ref wd])), (w6, .inl (cs.1, 400, .inl (fun j => nI (bt j))))] (QI D (nI (if wt < 400 then 1 else 0)) [(w, .inr (4, [.int (nI (0)), .int (nI (ru)), .ref w1, .ref w2, .ref w3, .ref w4, .ref w5, .ref w6, .int (nI (if wt < 400 then wt + 1 else wt)), .int (nI (rd)), .long (va), .ref w7, .ref w8, .ref w9, .ref wa, .ref wb, .ref wd])), (w6, .inl (cs.1, 400, .inl (fun j => nI ((if wt < 400 then updN bt wt b9 else bt) j))))]) := by
  refine MG.mk (own := RM) (by decide) rfl (Nat.le_of_ble_eq_true rfl) ?_
  intro p e s m below meth c A C hr hlk
  refine g_lv (lv' := [(0, .ref w), (1, .int (nI (b9)))]) [0, 1] rfl ?_
  refine g_aload_n C d_M_feed_0 0 rfl rfl ?_
  refine g_iload_n C d_M_feed_1 1 rfl rfl ?_
  refine n_if_eq C 10 d_M_feed_2 (by decide) (by omega) (fun h2 => ?_) (fun h2 => ?_)
  · refine g_iconst C (v := nI 1) d_M_feed_10 rfl ?_
    refine g_goto C 15 d_M_feed_11 (by decide) ?_
    refine g_iconst C (v := nI 1) d_M_feed_15 rfl ?_
    refine g_callVi C (n := 2) (ws' := [(w, .inr (4, [.int (nI (0)), .int (nI (ru)), .ref w1, .ref w2, .ref w3, .ref w4, .ref w5, .ref w6, .int (nI (wt)), .int (nI (rd)), .long (va), .ref w7, .ref w8, .ref w9, .ref wa, .ref wb, .ref wd])), (w6, .inl (cs.1, 400, .inl (fun j => nI (bt j))))]) (As := [.int (nI (1)), .int (nI (1))]) (rest := []) (m_M_fails_0 l D cs w w1 w2 w3 w4 w5 w6 w7 w8 w9 wa wb wd (cd) (ru) (wt) (rd) (va)  ) tw_501 tw_503 ts_15 tw_6 tw_504 rfl 0 rfl rfl (by decide +kernel) rfl ⟨rfl, rfl, by decide, by decide, by decide⟩ rfl [0] rfl rfl (by decide) (Nat.le_of_ble_eq_true rfl) rfl d_M_feed_16 ?_
    refine n_if_ne C 32 d_M_feed_19 (by decide) (by omega) (fun h => absurd h (by omega)) (fun _ => ?_)
    refine g_aload_n C d_M_feed_22 0 rfl rfl ?_
    refine g_get C (T := FM) (N := 17) 0 8 inM rfl rfl (by decide) tw_444 rfl rfl d_M_feed_23 ?_
    refine g_sipush C (v := nI 400) d_M_feed_26 rfl ?_
    refine n_icmp_ne C 34 d_M_feed_29 (by decide) (by omega) (by omega) (fun h29 => ?_) (fun h29 => ?_)
    · refine g_aload_n C d_M_feed_34 0 rfl rfl ?_
      refine g_get C (T := FM) (N := 17) 0 7 inM rfl rfl (by decide) tw_443 rfl rfl d_M_feed_35 ?_
      refine g_aload_n C d_M_feed_38 0 rfl rfl ?_
      refine g_get C (T := FM) (N := 17) 0 8 inM rfl rfl (by decide) tw_444 rfl rfl d_M_feed_39 ?_
      refine g_iload_n C d_M_feed_42 1 rfl rfl ?_
      refine n_iast C (ws' := [(w, .inr (4, [.int (nI (0)), .int (nI (ru)), .ref w1, .ref w2, .ref w3, .ref w4, .ref w5, .ref w6, .int (nI (wt)), .int (nI (rd)), .long (va), .ref w7, .ref w8, .ref w9, .ref wa, .ref wb, .ref wd])), (w6, .inl (cs.1, 400, .inl (fun j => nI ((updN (bt) (wt) (b9)) j))))]) 1 rfl (by omega) (by decide) rfl d_M_feed_43 ?_
      refine g_aload_n C d_M_feed_44 0 rfl rfl ?_
      refine g_dup C d_M_feed_45 rfl ?_
      refine g_get C (T := FM) (N := 17) 0 8 inM rfl rfl (by decide) tw_444 rfl rfl d_M_feed_46 ?_
      refine g_iconst C (v := nI 1) d_M_feed_49 rfl ?_
      refine g_iadd C (v := nI (wt + 1)) d_M_feed_50 (nI_add _ _) ?_
      refine g_put C (T := FM) (N := 17) (ws' := [(w, .inr (4, [.int (nI (0)), .int (nI (ru)), .ref w1, .ref w2, .ref w3, .ref w4, .ref w5, .ref w6, .int (nI (wt + 1)), .int (nI (rd)), .long (va), .ref w7, .ref w8, .ref w9, .ref wa, .ref wb, .ref wd])), (w6, .inl (cs.1, 400, .inl (fun j => nI ((updN (bt) (wt) (b9)) j))))]) 0 8 inM tyM okM nmM rfl rfl (by decide) tw_444 rfl rfl rfl rfl rfl (Nat.le_of_ble_eq_true rfl) rfl d_M_feed_51 ?_
      refine g_iconst C (v := nI 1) d_M_feed_54 rfl ?_
      exact g_zret C hr hlk rfl (by first | rw [if_pos (show wt < 400 by omega)] | rw [if_neg (show ¬ wt < 400 by omega)]) (by first | rw [if_pos (show wt < 400 by omega), if_pos (show wt < 400 by omega)] | rw [if_neg (show ¬ wt < 400 by omega), if_neg (show ¬ wt < 400 by omega)]) d_M_feed_55
    · refine g_iconst C (v := nI 0) d_M_feed_32 rfl ?_
      exact g_zret C hr hlk rfl (by first | rw [if_pos (show wt < 400 by omega)] | rw [if_neg (show ¬ wt < 400 by omega)]) (by first | rw [if_pos (show wt < 400 by omega), if_pos (show wt < 400 by omega)] | rw [if_neg (show ¬ wt < 400 by omega), if_neg (show ¬ wt < 400 by omega)]) d_M_feed_33
  · refine g_iload_n C d_M_feed_5 1 rfl rfl ?_
    refine g_iconst C (v := nI 1) d_M_feed_6 rfl ?_
    refine n_icmp_ne C 14 d_M_feed_7 (by decide) (by omega) (by omega) (fun h7 => ?_) (fun h7 => ?_)
    · exact absurd hb9 (by omega)
    · refine g_iconst C (v := nI 1) d_M_feed_10 rfl ?_
      refine g_goto C 15 d_M_feed_11 (by decide) ?_
      refine g_iconst C (v := nI 1) d_M_feed_15 rfl ?_
      refine g_callVi C (n := 2) (ws' := [(w, .inr (4, [.int (nI (0)), .int (nI (ru)), .ref w1, .ref w2, .ref w3, .ref w4, .ref w5, .ref w6, .int (nI (wt)), .int (nI (rd)), .long (va), .ref w7, .ref w8, .ref w9, .ref wa, .ref wb, .ref wd])), (w6, .inl (cs.1, 400, .inl (fun j => nI (bt j))))]) (As := [.int (nI (1)), .int (nI (1))]) (rest := []) (m_M_fails_0 l D cs w w1 w2 w3 w4 w5 w6 w7 w8 w9 wa wb wd (cd) (ru) (wt) (rd) (va)  ) tw_501 tw_503 ts_15 tw_6 tw_504 rfl 0 rfl rfl (by decide +kernel) rfl ⟨rfl, rfl, by decide, by decide, by decide⟩ rfl [0] rfl rfl (by decide) (Nat.le_of_ble_eq_true rfl) rfl d_M_feed_16 ?_
      refine n_if_ne C 32 d_M_feed_19 (by decide) (by omega) (fun h => absurd h (by omega)) (fun _ => ?_)
      refine g_aload_n C d_M_feed_22 0 rfl rfl ?_
      refine g_get C (T := FM) (N := 17) 0 8 inM rfl rfl (by decide) tw_444 rfl rfl d_M_feed_23 ?_
      refine g_sipush C (v := nI 400) d_M_feed_26 rfl ?_
      refine n_icmp_ne C 34 d_M_feed_29 (by decide) (by omega) (by omega) (fun h29 => ?_) (fun h29 => ?_)
      · refine g_aload_n C d_M_feed_34 0 rfl rfl ?_
        refine g_get C (T := FM) (N := 17) 0 7 inM rfl rfl (by decide) tw_443 rfl rfl d_M_feed_35 ?_
        refine g_aload_n C d_M_feed_38 0 rfl rfl ?_
        refine g_get C (T := FM) (N := 17) 0 8 inM rfl rfl (by decide) tw_444 rfl rfl d_M_feed_39 ?_
        refine g_iload_n C d_M_feed_42 1 rfl rfl ?_
        refine n_iast C (ws' := [(w, .inr (4, [.int (nI (0)), .int (nI (ru)), .ref w1, .ref w2, .ref w3, .ref w4, .ref w5, .ref w6, .int (nI (wt)), .int (nI (rd)), .long (va), .ref w7, .ref w8, .ref w9, .ref wa, .ref wb, .ref wd])), (w6, .inl (cs.1, 400, .inl (fun j => nI ((updN (bt) (wt) (b9)) j))))]) 1 rfl (by omega) (by decide) rfl d_M_feed_43 ?_
        refine g_aload_n C d_M_feed_44 0 rfl rfl ?_
        refine g_dup C d_M_feed_45 rfl ?_
        refine g_get C (T := FM) (N := 17) 0 8 inM rfl rfl (by decide) tw_444 rfl rfl d_M_feed_46 ?_
        refine g_iconst C (v := nI 1) d_M_feed_49 rfl ?_
        refine g_iadd C (v := nI (wt + 1)) d_M_feed_50 (nI_add _ _) ?_
        refine g_put C (T := FM) (N := 17) (ws' := [(w, .inr (4, [.int (nI (0)), .int (nI (ru)), .ref w1, .ref w2, .ref w3, .ref w4, .ref w5, .ref w6, .int (nI (wt + 1)), .int (nI (rd)), .long (va), .ref w7, .ref w8, .ref w9, .ref wa, .ref wb, .ref wd])), (w6, .inl (cs.1, 400, .inl (fun j => nI ((updN (bt) (wt) (b9)) j))))]) 0 8 inM tyM okM nmM rfl rfl (by decide) tw_444 rfl rfl rfl rfl rfl (Nat.le_of_ble_eq_true rfl) rfl d_M_feed_51 ?_
        refine g_iconst C (v := nI 1) d_M_feed_54 rfl ?_
        exact g_zret C hr hlk rfl (by first | rw [if_pos (show wt < 400 by omega)] | rw [if_neg (show ¬ wt < 400 by omega)]) (by first | rw [if_pos (show wt < 400 by omega), if_pos (show wt < 400 by omega)] | rw [if_neg (show ¬ wt < 400 by omega), if_neg (show ¬ wt < 400 by omega)]) d_M_feed_55
      · refine g_iconst C (v := nI 0) d_M_feed_32 rfl ?_
        exact g_zret C hr hlk rfl (by first | rw [if_pos (show wt < 400 by omega)] | rw [if_neg (show ¬ wt < 400 by omega)]) (by first | rw [if_pos (show wt < 400 by omega), if_pos (show wt < 400 by omega)] | rw [if_neg (show ¬ wt < 400 by omega), if_neg (show ¬ wt < 400 by omega)]) d_M_feed_33
set_option maxHeartbeats 4000000 in
set_option maxRecDepth 100000 in
theorem m_M_feed_1 (l : Launch) (D : va_G) (cs : ClassId × ClassId × ClassId × ClassId) (w w1 w2 w3 w4 w5 w6 w7 w8 w9 wa wb wd : Nat) (cd ru wt rd : Nat) (va : Int64) (bt : Nat → Nat) (x : Int32) (hx : ¬ x = 0) (hx1 : ¬ x = nI 1) : MG l y_M_feed k_M_feed { frames := 1, cells := 0, slots := 0, locals := 22 } D cs [.ref w, .int (x)] [(w, .inr (4, [.int (nI (cd)), .int (nI (ru)), .ref w1, .ref w2, .ref w3, .ref w4, .ref w5, .ref w6, .int (nI (wt)), .int (nI (rd)), .long (va), .ref w7, .ref w8, .ref w9, .ref wa, .ref wb, .ref wd])), (w6, .inl (cs.1, 400, .inl (fun j => nI (bt j))))] (QI D (nI (0)) [(w, .inr (4, [.int (nI (1)), .int (nI (ru)), .ref w1, .ref w2, .ref w3, .ref w4, .ref w5, .ref w6, .int (nI (wt)), .int (nI (rd)), .long (va), .ref w7, .ref w8, .ref w9, .ref wa, .ref wb, .ref wd])), (w6, .inl (cs.1, 400, .inl (fun j => nI (bt j))))]) := by
  refine MG.mk (own := RM) (by decide) rfl (Nat.le_of_ble_eq_true rfl) ?_
  intro p e s m below meth c A C hr hlk
  refine g_lv (lv' := [(0, .ref w), (1, .int (x))]) [0, 1] rfl ?_
  refine g_aload_n C d_M_feed_0 0 rfl rfl ?_
  refine g_iload_n C d_M_feed_1 1 rfl rfl ?_
  refine g_if_eq C 10 d_M_feed_2 (by decide) (fun h2 => ?_) (fun h2 => ?_)
  · first | exact absurd (by assumption) hx | exact absurd hx1 (by assumption)
  · refine g_iload_n C d_M_feed_5 1 rfl rfl ?_
    refine g_iconst C (v := nI 1) d_M_feed_6 rfl ?_
    refine g_icmp_ne C 14 d_M_feed_7 (by decide) (fun h7 => ?_) (fun h7 => ?_)
    · refine g_iconst C (v := nI 0) d_M_feed_14 rfl ?_
      refine g_iconst C (v := nI 1) d_M_feed_15 rfl ?_
      refine g_callVi C (n := 2) (ws' := [(w, .inr (4, [.int (nI (1)), .int (nI (ru)), .ref w1, .ref w2, .ref w3, .ref w4, .ref w5, .ref w6, .int (nI (wt)), .int (nI (rd)), .long (va), .ref w7, .ref w8, .ref w9, .ref wa, .ref wb, .ref wd])), (w6, .inl (cs.1, 400, .inl (fun j => nI (bt j))))]) (As := [.int (nI (0)), .int (nI (1))]) (rest := []) (m_M_fails_1 l D cs w w1 w2 w3 w4 w5 w6 w7 w8 w9 wa wb wd (cd) (ru) (wt) (rd) (va)  (1)) tw_501 tw_503 ts_15 tw_6 tw_504 rfl 0 rfl rfl (by decide +kernel) rfl ⟨rfl, rfl, by decide, by decide, by decide⟩ rfl [0] rfl rfl (by decide) (Nat.le_of_ble_eq_true rfl) rfl d_M_feed_16 ?_
      refine n_if_ne C 32 d_M_feed_19 (by decide) (by omega) (fun _ => ?_) (fun h => absurd h (by omega))
      refine g_iconst C (v := nI 0) d_M_feed_32 rfl ?_
      exact g_zret C hr hlk rfl rfl rfl d_M_feed_33
    · first | exact absurd (by assumption) hx | exact absurd hx1 (by assumption)
set_option maxHeartbeats 4000000 in
set_option maxRecDepth 100000 in
theorem m_M_last_0 (l : Launch) (D : va_G) (cs : ClassId × ClassId × ClassId × ClassId) (w w1 w2 w3 w4 w5 w6 w7 w8 w9 wa wb wd : Nat) (cd ru wt rd : Nat) (va : Int64) : MG l y_M_last k_M_last { frames := 1, cells := 0, slots := 0, locals := 22 } D cs [.ref w] [(w, .inr (4, [.int (nI (cd)), .int (nI (ru)), .ref w1, .ref w2, .ref w3, .ref w4, .ref w5, .ref w6, .int (nI (wt)), .int (nI (1)), .long (va), .ref w7, .ref w8, .ref w9, .ref wa, .ref wb, .ref wd]))] (QL D (va) [(w, .inr (4, [.int (nI (0)), .int (nI (ru)), .ref w1, .ref w2, .ref w3, .ref w4, .ref w5, .ref w6, .int (nI (wt)), .int (nI (1)), .long (va), .ref w7, .ref w8, .ref w9, .ref wa, .ref wb, .ref wd]))]) := by
  refine MG.mk (own := RM) (by decide) rfl (Nat.le_of_ble_eq_true rfl) ?_
  intro p e s m below meth c A C hr hlk
  refine g_lv (lv' := [(0, .ref w)]) [0] rfl ?_
  refine g_aload_n C d_M_last_0 0 rfl rfl ?_
  refine g_aload_n C d_M_last_1 0 rfl rfl ?_
  refine g_get C (T := FM) (N := 17) 0 9 inM rfl rfl (by decide) tw_445 rfl rfl d_M_last_2 ?_
  refine g_iconst C (v := nI 1) d_M_last_5 rfl ?_
  refine g_callVi C (n := 2) (ws' := [(w, .inr (4, [.int (nI (0)), .int (nI (ru)), .ref w1, .ref w2, .ref w3, .ref w4, .ref w5, .ref w6, .int (nI (wt)), .int (nI (1)), .long (va), .ref w7, .ref w8, .ref w9, .ref wa, .ref wb, .ref wd]))]) (As := [.int (nI (1)), .int (nI (1))]) (rest := []) (m_M_fails_0 l D cs w w1 w2 w3 w4 w5 w6 w7 w8 w9 wa wb wd (cd) (ru) (wt) (1) (va)  ) tw_501 tw_503 ts_15 tw_6 tw_504 rfl 0 rfl rfl (by decide +kernel) rfl ⟨rfl, rfl, by decide, by decide, by decide⟩ rfl [0] rfl rfl (by decide) (Nat.le_of_ble_eq_true rfl) rfl d_M_last_6 ?_
  refine n_if_eq C 16 d_M_last_9 (by decide) (by omega) (fun _ => ?_) (fun h => absurd h (by omega))
  refine g_aload_n C d_M_last_16 0 rfl rfl ?_
  refine g_get C (T := FM) (N := 17) 0 10 inM rfl rfl (by decide) tw_446 rfl rfl d_M_last_17 ?_
  exact g_lret C hr hlk rfl rfl d_M_last_20
set_option maxHeartbeats 4000000 in
set_option maxRecDepth 100000 in
theorem m_M_last_1 (l : Launch) (D : va_G) (cs : ClassId × ClassId × ClassId × ClassId) (w w1 w2 w3 w4 w5 w6 w7 w8 w9 wa wb wd : Nat) (cd ru wt rd : Nat) (va : Int64) : MG l y_M_last k_M_last { frames := 1, cells := 0, slots := 0, locals := 22 } D cs [.ref w] [(w, .inr (4, [.int (nI (cd)), .int (nI (ru)), .ref w1, .ref w2, .ref w3, .ref w4, .ref w5, .ref w6, .int (nI (wt)), .int (nI (0)), .long (va), .ref w7, .ref w8, .ref w9, .ref wa, .ref wb, .ref wd]))] (QL D (lN (0)) [(w, .inr (4, [.int (nI (1)), .int (nI (ru)), .ref w1, .ref w2, .ref w3, .ref w4, .ref w5, .ref w6, .int (nI (wt)), .int (nI (0)), .long (va), .ref w7, .ref w8, .ref w9, .ref wa, .ref wb, .ref wd]))]) := by
  refine MG.mk (own := RM) (by decide) rfl (Nat.le_of_ble_eq_true rfl) ?_
  intro p e s m below meth c A C hr hlk
  refine g_lv (lv' := [(0, .ref w)]) [0] rfl ?_
  refine g_aload_n C d_M_last_0 0 rfl rfl ?_
  refine g_aload_n C d_M_last_1 0 rfl rfl ?_
  refine g_get C (T := FM) (N := 17) 0 9 inM rfl rfl (by decide) tw_445 rfl rfl d_M_last_2 ?_
  refine g_iconst C (v := nI 1) d_M_last_5 rfl ?_
  refine g_callVi C (n := 2) (ws' := [(w, .inr (4, [.int (nI (1)), .int (nI (ru)), .ref w1, .ref w2, .ref w3, .ref w4, .ref w5, .ref w6, .int (nI (wt)), .int (nI (0)), .long (va), .ref w7, .ref w8, .ref w9, .ref wa, .ref wb, .ref wd]))]) (As := [.int (nI (0)), .int (nI (1))]) (rest := []) (m_M_fails_1 l D cs w w1 w2 w3 w4 w5 w6 w7 w8 w9 wa wb wd (cd) (ru) (wt) (0) (va)  (1)) tw_501 tw_503 ts_15 tw_6 tw_504 rfl 0 rfl rfl (by decide +kernel) rfl ⟨rfl, rfl, by decide, by decide, by decide⟩ rfl [0] rfl rfl (by decide) (Nat.le_of_ble_eq_true rfl) rfl d_M_last_6 ?_
  refine n_if_eq C 16 d_M_last_9 (by decide) (by omega) (fun h => absurd h (by omega)) (fun _ => ?_)
  refine g_lconst C (v := lN 0) d_M_last_12 rfl ?_
  refine g_goto C 20 d_M_last_13 (by decide) ?_
  exact g_lret C hr hlk rfl rfl d_M_last_20
set_option maxHeartbeats 4000000 in
set_option maxRecDepth 100000 in
theorem m_M_waiting (l : Launch) (D : va_G) (cs : ClassId × ClassId × ClassId × ClassId) (w w1 w2 w3 w4 w5 w6 w7 w8 w9 wa wb wd : Nat) (cd ru wt rd : Nat) (va : Int64) : MG l y_M_waiting k_M_waiting { frames := 0, cells := 0, slots := 0, locals := 0 } D cs [.ref w] [(w, .inr (4, [.int (nI (cd)), .int (nI (ru)), .ref w1, .ref w2, .ref w3, .ref w4, .ref w5, .ref w6, .int (nI (wt)), .int (nI (rd)), .long (va), .ref w7, .ref w8, .ref w9, .ref wa, .ref wb, .ref wd]))] (QI D (nI (wt)) [(w, .inr (4, [.int (nI (0)), .int (nI (ru)), .ref w1, .ref w2, .ref w3, .ref w4, .ref w5, .ref w6, .int (nI (wt)), .int (nI (rd)), .long (va), .ref w7, .ref w8, .ref w9, .ref wa, .ref wb, .ref wd]))]) := by
  refine MG.mk (own := RM) (by decide) rfl (Nat.le_of_ble_eq_true rfl) ?_
  intro p e s m below meth c A C hr hlk
  refine g_lv (lv' := [(0, .ref w)]) [0] rfl ?_
  refine g_aload_n C d_M_waiting_0 0 rfl rfl ?_
  refine g_iconst C (v := nI 0) d_M_waiting_1 rfl ?_
  refine g_put C (T := FM) (N := 17) (ws' := [(w, .inr (4, [.int (nI (0)), .int (nI (ru)), .ref w1, .ref w2, .ref w3, .ref w4, .ref w5, .ref w6, .int (nI (wt)), .int (nI (rd)), .long (va), .ref w7, .ref w8, .ref w9, .ref wa, .ref wb, .ref wd]))]) 0 0 inM tyM okM nmM rfl rfl (by decide) tw_436 rfl rfl rfl rfl rfl (Nat.le_of_ble_eq_true rfl) rfl d_M_waiting_2 ?_
  refine g_aload_n C d_M_waiting_5 0 rfl rfl ?_
  refine g_get C (T := FM) (N := 17) 0 8 inM rfl rfl (by decide) tw_444 rfl rfl d_M_waiting_6 ?_
  exact g_iret C hr hlk rfl rfl d_M_waiting_9
set_option maxHeartbeats 4000000 in
set_option maxRecDepth 100000 in
theorem l_M_sum {p : Program} {l : Launch} {e : Env} {s : State} {m : MethodId} {args : Array Value} {below : List Frame} {meth : Method} {c : Code} {A : Nat → Prop} {D : va_G} {cs : ClassId × ClassId × ClassId × ClassId} (C : CX p s m args c c_M_sum 4 RM D cs A) (w w1 w2 w3 w4 w5 w6 w7 w8 w9 wa wb wd : Nat) (cd ru wt rd : Nat) (va : Int64) (ct : Nat → Nat) (ln : Nat → Nat) (hl : ∀ j, j < 48 → ln j ≤ 16) (hr : meth.sig.returnType = some .long) (hlk : meth.locks = false)
    : ∀ (n : Nat) (i : Nat), 48 - i = n → (i ≤ 48) → GO p l e { frames := 0, cells := 0, slots := 0, locals := 0 } s m args below meth c 0 0 (MQ below (QL D (lN (smv ct ln 48)) [(w, .inr (4, [.int (nI (0)), .int (nI (ru)), .ref w1, .ref w2, .ref w3, .ref w4, .ref w5, .ref w6, .int (nI (wt)), .int (nI (rd)), .long (va), .ref w7, .ref w8, .ref w9, .ref wa, .ref wb, .ref wd])), (w1, .inl (cs.2.1, 48, .inr (.inl (fun j => lN (ct j))))), (w2, .inl (cs.1, 48, .inl (fun j => nI (ln j))))] A) args s 0 0 A) A D 4 9 [(0, .ref w), (1, .long (lN (smv ct ln i))), (3, .int (nI (i)))] [] [(w, .inr (4, [.int (nI (0)), .int (nI (ru)), .ref w1, .ref w2, .ref w3, .ref w4, .ref w5, .ref w6, .int (nI (wt)), .int (nI (rd)), .long (va), .ref w7, .ref w8, .ref w9, .ref wa, .ref wb, .ref wd])), (w1, .inl (cs.2.1, 48, .inr (.inl (fun j => lN (ct j))))), (w2, .inl (cs.1, 48, .inl (fun j => nI (ln j))))] := by
  intro n
  induction n using Nat.strongRecOn with
  | _ n ih =>
  intro i  hn hi
  refine g_iload_n C d_M_sum_9 2 rfl rfl ?_
  refine g_bipush C (v := nI 48) d_M_sum_10 rfl ?_
  refine n_icmp_ge C 38 d_M_sum_12 (by decide) (by omega) (by omega) (fun h12 => ?_) (fun h12 => ?_)
  · refine g_lload_n C d_M_sum_38 1 rfl rfl ?_
    exact g_lret C hr hlk (by rw [show i = 48 by omega]) rfl d_M_sum_39
  · refine g_lload_n C d_M_sum_15 1 rfl rfl ?_
    refine g_aload_n C d_M_sum_16 0 rfl rfl ?_
    refine g_get C (T := FM) (N := 17) 0 2 inM rfl rfl (by decide) tw_438 rfl rfl d_M_sum_17 ?_
    refine g_iload_n C d_M_sum_20 2 rfl rfl ?_
    refine g_lald C 1 rfl (by omega) (by decide) d_M_sum_21 ?_
    refine g_aload_n C d_M_sum_22 0 rfl rfl ?_
    refine g_get C (T := FM) (N := 17) 0 3 inM rfl rfl (by decide) tw_439 rfl rfl d_M_sum_23 ?_
    refine g_iload_n C d_M_sum_26 2 rfl rfl ?_
    refine g_iald C 2 rfl (by omega) (by decide) d_M_sum_27 ?_
    refine g_i2l C (v := lN (ln (i))) d_M_sum_28 (nI_l (by have := hl i (by omega); omega)) ?_
    refine g_lmul C (v := lN ((ct (i)) * (ln (i)))) d_M_sum_29 (lN_mul _ _) ?_
    refine g_ladd C (v := lN (smv ct ln i + ((ct (i)) * (ln (i))))) d_M_sum_30 (lN_add _ _) ?_
    refine g_lstore_n C (lv' := [(1, .long (lN (smv ct ln i + ((ct (i)) * (ln (i)))))), (0, .ref w), (3, .int (nI (i)))]) d_M_sum_31 rfl (by decide) rfl ?_
    refine g_iinc C (lv' := [(3, .int (nI (i + 1))), (1, .long (lN (smv ct ln i + ((ct (i)) * (ln (i)))))), (0, .ref w)]) (k := 2) d_M_sum_32 rfl (nI_1 _) (by decide) rfl ?_
    refine g_goto C 9 d_M_sum_35 (by decide) ?_
    refine g_lv (lv' := [(0, .ref w), (1, .long (lN (smv ct ln i + ((ct (i)) * (ln (i)))))), (3, .int (nI (i + 1)))]) [2, 1, 0] rfl ?_
    exact ih (48 - (i + 1)) (by omega) (i + 1) rfl (by omega)
set_option maxHeartbeats 4000000 in
set_option maxRecDepth 100000 in
theorem m_M_sum (l : Launch) (D : va_G) (cs : ClassId × ClassId × ClassId × ClassId) (w w1 w2 w3 w4 w5 w6 w7 w8 w9 wa wb wd : Nat) (cd ru wt rd : Nat) (va : Int64) (ct : Nat → Nat) (ln : Nat → Nat) (hl : ∀ j, j < 48 → ln j ≤ 16) : MG l y_M_sum k_M_sum { frames := 0, cells := 0, slots := 0, locals := 0 } D cs [.ref w] [(w, .inr (4, [.int (nI (cd)), .int (nI (ru)), .ref w1, .ref w2, .ref w3, .ref w4, .ref w5, .ref w6, .int (nI (wt)), .int (nI (rd)), .long (va), .ref w7, .ref w8, .ref w9, .ref wa, .ref wb, .ref wd])), (w1, .inl (cs.2.1, 48, .inr (.inl (fun j => lN (ct j))))), (w2, .inl (cs.1, 48, .inl (fun j => nI (ln j))))] (QL D (lN (smv ct ln 48)) [(w, .inr (4, [.int (nI (0)), .int (nI (ru)), .ref w1, .ref w2, .ref w3, .ref w4, .ref w5, .ref w6, .int (nI (wt)), .int (nI (rd)), .long (va), .ref w7, .ref w8, .ref w9, .ref wa, .ref wb, .ref wd])), (w1, .inl (cs.2.1, 48, .inr (.inl (fun j => lN (ct j))))), (w2, .inl (cs.1, 48, .inl (fun j => nI (ln j))))]) := by
  refine MG.mk (own := RM) (by decide) rfl (Nat.le_of_ble_eq_true rfl) ?_
  intro p e s m below meth c A C hr hlk
  refine g_lv (lv' := [(0, .ref w)]) [0] rfl ?_
  refine g_aload_n C d_M_sum_0 0 rfl rfl ?_
  refine g_iconst C (v := nI 0) d_M_sum_1 rfl ?_
  refine g_put C (T := FM) (N := 17) (ws' := [(w, .inr (4, [.int (nI (0)), .int (nI (ru)), .ref w1, .ref w2, .ref w3, .ref w4, .ref w5, .ref w6, .int (nI (wt)), .int (nI (rd)), .long (va), .ref w7, .ref w8, .ref w9, .ref wa, .ref wb, .ref wd])), (w1, .inl (cs.2.1, 48, .inr (.inl (fun j => lN (ct j))))), (w2, .inl (cs.1, 48, .inl (fun j => nI (ln j))))]) 0 0 inM tyM okM nmM rfl rfl (by decide) tw_436 rfl rfl rfl rfl rfl (Nat.le_of_ble_eq_true rfl) rfl d_M_sum_2 ?_
  refine g_lconst C (v := lN 0) d_M_sum_5 rfl ?_
  refine g_lstore_n C (lv' := [(1, .long (lN (0))), (0, .ref w)]) d_M_sum_6 rfl (by decide) rfl ?_
  refine g_iconst C (v := nI 0) d_M_sum_7 rfl ?_
  refine g_istore_n C (lv' := [(3, .int (nI (0))), (1, .long (lN (0))), (0, .ref w)]) d_M_sum_8 rfl (by decide) rfl ?_
  refine g_lv (lv' := [(0, .ref w), (1, .long (lN (0))), (3, .int (nI (0)))]) [2, 1, 0] rfl ?_
  exact l_M_sum C w w1 w2 w3 w4 w5 w6 w7 w8 w9 wa wb wd cd ru wt rd va ct ln hl hr hlk _ 0 rfl (by omega)
set_option maxHeartbeats 4000000 in
set_option maxRecDepth 100000 in
theorem l_M_clear {p : Program} {l : Launch} {e : Env} {s : State} {m : MethodId} {args : Array Value} {below : List Frame} {meth : Method} {c : Code} {Q : State → Prop} {A : Nat → Prop} {D : va_G} {cs : ClassId × ClassId × ClassId × ClassId} (C : CX p s m args c c_M_clear 2 RM D cs A) (w w1 w2 w3 w4 w5 w6 w7 w8 w9 wa wb wd : Nat) (cd ru wt rd : Nat) (va : Int64) (ct : Nat → Nat) (ln : Nat → Nat) (rg : Nat → Nat) 
    (K : ∀ c2 l2 r2 : Nat → Nat, (∀ j, j < 48 → c2 j = 0 ∧ l2 j = 0 ∧ r2 j = 0) → GO p l e { frames := 0, cells := 0, slots := 0, locals := 0 } s m args below meth c 0 0 Q A D 2 40 [(0, .ref w)] [] [(w, .inr (4, [.int (nI (0)), .int (nI (ru)), .ref w1, .ref w2, .ref w3, .ref w4, .ref w5, .ref w6, .int (nI (wt)), .int (nI (rd)), .long (va), .ref w7, .ref w8, .ref w9, .ref wa, .ref wb, .ref wd])), (w1, .inl (cs.2.1, 48, .inr (.inl (fun j => lN (c2 j))))), (w2, .inl (cs.1, 48, .inl (fun j => nI (l2 j)))), (w3, .inl (cs.2.2.1, 48, .inl (fun j => nI (r2 j))))])
    : ∀ (n : Nat) (i : Nat) (c2 l2 r2 : Nat → Nat), 48 - i = n → (i ≤ 48) → (∀ j, j < i → c2 j = 0 ∧ l2 j = 0 ∧ r2 j = 0) → GO p l e { frames := 0, cells := 0, slots := 0, locals := 0 } s m args below meth c 0 0 Q A D 2 7 [(0, .ref w), (1, .int (nI (i)))] [] [(w, .inr (4, [.int (nI (0)), .int (nI (ru)), .ref w1, .ref w2, .ref w3, .ref w4, .ref w5, .ref w6, .int (nI (wt)), .int (nI (rd)), .long (va), .ref w7, .ref w8, .ref w9, .ref wa, .ref wb, .ref wd])), (w1, .inl (cs.2.1, 48, .inr (.inl (fun j => lN (c2 j))))), (w2, .inl (cs.1, 48, .inl (fun j => nI (l2 j)))), (w3, .inl (cs.2.2.1, 48, .inl (fun j => nI (r2 j))))] := by
  intro n
  induction n using Nat.strongRecOn with
  | _ n ih =>
  intro i  c2 l2 r2  hn hi hq
  refine g_iload_n C d_M_clear_7 1 rfl rfl ?_
  refine g_bipush C (v := nI 48) d_M_clear_8 rfl ?_
  refine n_icmp_ge C 40 d_M_clear_10 (by decide) (by omega) (by omega) (fun h10 => ?_) (fun h10 => ?_)
  · refine g_lv (lv' := [(0, .ref w)]) [0] rfl ?_
    exact K c2 l2 r2 (fun j hj => hq j (by omega))
  · refine g_aload_n C d_M_clear_13 0 rfl rfl ?_
    refine g_get C (T := FM) (N := 17) 0 2 inM rfl rfl (by decide) tw_438 rfl rfl d_M_clear_14 ?_
    refine g_iload_n C d_M_clear_17 1 rfl rfl ?_
    refine g_lconst C (v := lN 0) d_M_clear_18 rfl ?_
    refine n_last C (ws' := [(w, .inr (4, [.int (nI (0)), .int (nI (ru)), .ref w1, .ref w2, .ref w3, .ref w4, .ref w5, .ref w6, .int (nI (wt)), .int (nI (rd)), .long (va), .ref w7, .ref w8, .ref w9, .ref wa, .ref wb, .ref wd])), (w1, .inl (cs.2.1, 48, .inr (.inl (fun j => lN ((updN (c2) (i) (0)) j))))), (w2, .inl (cs.1, 48, .inl (fun j => nI (l2 j)))), (w3, .inl (cs.2.2.1, 48, .inl (fun j => nI (r2 j))))]) 1 rfl (by omega) (by decide) rfl d_M_clear_19 ?_
    refine g_aload_n C d_M_clear_20 0 rfl rfl ?_
    refine g_get C (T := FM) (N := 17) 0 3 inM rfl rfl (by decide) tw_439 rfl rfl d_M_clear_21 ?_
    refine g_iload_n C d_M_clear_24 1 rfl rfl ?_
    refine g_iconst C (v := nI 0) d_M_clear_25 rfl ?_
    refine n_iast C (ws' := [(w, .inr (4, [.int (nI (0)), .int (nI (ru)), .ref w1, .ref w2, .ref w3, .ref w4, .ref w5, .ref w6, .int (nI (wt)), .int (nI (rd)), .long (va), .ref w7, .ref w8, .ref w9, .ref wa, .ref wb, .ref wd])), (w1, .inl (cs.2.1, 48, .inr (.inl (fun j => lN ((updN (c2) (i) (0)) j))))), (w2, .inl (cs.1, 48, .inl (fun j => nI ((updN (l2) (i) (0)) j)))), (w3, .inl (cs.2.2.1, 48, .inl (fun j => nI (r2 j))))]) 2 rfl (by omega) (by decide) rfl d_M_clear_26 ?_
    refine g_aload_n C d_M_clear_27 0 rfl rfl ?_
    refine g_get C (T := FM) (N := 17) 0 4 inM rfl rfl (by decide) tw_440 rfl rfl d_M_clear_28 ?_
    refine g_iload_n C d_M_clear_31 1 rfl rfl ?_
    refine g_iconst C (v := nI 0) d_M_clear_32 rfl ?_
    refine n_zast C (ws' := [(w, .inr (4, [.int (nI (0)), .int (nI (ru)), .ref w1, .ref w2, .ref w3, .ref w4, .ref w5, .ref w6, .int (nI (wt)), .int (nI (rd)), .long (va), .ref w7, .ref w8, .ref w9, .ref wa, .ref wb, .ref wd])), (w1, .inl (cs.2.1, 48, .inr (.inl (fun j => lN ((updN (c2) (i) (0)) j))))), (w2, .inl (cs.1, 48, .inl (fun j => nI ((updN (l2) (i) (0)) j)))), (w3, .inl (cs.2.2.1, 48, .inl (fun j => nI ((updN (r2) (i) (0)) j))))]) 3 rfl (by omega) (by decide) (by omega) rfl d_M_clear_33 ?_
    refine g_iinc C (lv' := [(1, .int (nI (i + 1))), (0, .ref w)]) (k := 1) d_M_clear_34 rfl (nI_1 _) (by decide) rfl ?_
    refine g_goto C 7 d_M_clear_37 (by decide) ?_
    refine g_lv (lv' := [(0, .ref w), (1, .int (nI (i + 1)))]) [1, 0] rfl ?_
    exact ih (48 - (i + 1)) (by omega) (i + 1) _ _ _ rfl (by omega) (fun j hj => by
      unfold updN
      by_cases e : j = i
      · subst e; simp
      · simp only [e, if_false]; exact hq j (by omega))
set_option maxHeartbeats 4000000 in
set_option maxRecDepth 100000 in
theorem m_M_clear (l : Launch) (D : va_G) (cs : ClassId × ClassId × ClassId × ClassId) (w w1 w2 w3 w4 w5 w6 w7 w8 w9 wa wb wd : Nat) (cd ru wt rd : Nat) (va : Int64) (ct : Nat → Nat) (ln : Nat → Nat) (rg : Nat → Nat) : MG l y_M_clear k_M_clear { frames := 0, cells := 0, slots := 0, locals := 0 } D cs [.ref w] [(w, .inr (4, [.int (nI (cd)), .int (nI (ru)), .ref w1, .ref w2, .ref w3, .ref w4, .ref w5, .ref w6, .int (nI (wt)), .int (nI (rd)), .long (va), .ref w7, .ref w8, .ref w9, .ref wa, .ref wb, .ref wd])), (w1, .inl (cs.2.1, 48, .inr (.inl (fun j => lN (ct j))))), (w2, .inl (cs.1, 48, .inl (fun j => nI (ln j)))), (w3, .inl (cs.2.2.1, 48, .inl (fun j => nI (rg j))))] (QV D [(w, .inr (4, [.int (nI (0)), .int (nI (ru)), .ref w1, .ref w2, .ref w3, .ref w4, .ref w5, .ref w6, .int (nI (0)), .int (nI (0)), .long (va), .ref w7, .ref w8, .ref w9, .ref wa, .ref wb, .ref wd])), (w1, .inl (cs.2.1, 48, .inr (.inl (fun j => lN ((fun _ => 0) j))))), (w2, .inl (cs.1, 48, .inl (fun j => nI ((fun _ => 0) j)))), (w3, .inl (cs.2.2.1, 48, .inl (fun j => nI ((fun _ => 0) j))))]) := by
  refine MG.mk (own := RM) (by decide) rfl (Nat.le_of_ble_eq_true rfl) ?_
  intro p e s m below meth c A C hr hlk
  refine g_lv (lv' := [(0, .ref w)]) [0] rfl ?_
  refine g_aload_n C d_M_clear_0 0 rfl rfl ?_
  refine g_iconst C (v := nI 0) d_M_clear_1 rfl ?_
  refine g_put C (T := FM) (N := 17) (ws' := [(w, .inr (4, [.int (nI (0)), .int (nI (ru)), .ref w1, .ref w2, .ref w3, .ref w4, .ref w5, .ref w6, .int (nI (wt)), .int (nI (rd)), .long (va), .ref w7, .ref w8, .ref w9, .ref wa, .ref wb, .ref wd])), (w1, .inl (cs.2.1, 48, .inr (.inl (fun j => lN (ct j))))), (w2, .inl (cs.1, 48, .inl (fun j => nI (ln j)))), (w3, .inl (cs.2.2.1, 48, .inl (fun j => nI (rg j))))]) 0 0 inM tyM okM nmM rfl rfl (by decide) tw_436 rfl rfl rfl rfl rfl (Nat.le_of_ble_eq_true rfl) rfl d_M_clear_2 ?_
  refine g_iconst C (v := nI 0) d_M_clear_5 rfl ?_
  refine g_istore_n C (lv' := [(1, .int (nI (0))), (0, .ref w)]) d_M_clear_6 rfl (by decide) rfl ?_
  refine g_lv (lv' := [(0, .ref w), (1, .int (nI (0)))]) [1, 0] rfl ?_
  refine l_M_clear C w w1 w2 w3 w4 w5 w6 w7 w8 w9 wa wb wd cd ru wt rd va ct ln rg ?_ _ 0 ct ln rg rfl (by omega) (fun j hj => absurd hj (by omega))
  intro c2 l2 r2 h9
  refine n_cl (f2 := fun _ => 0) (ws' := [(w, .inr (4, [.int (nI (0)), .int (nI (ru)), .ref w1, .ref w2, .ref w3, .ref w4, .ref w5, .ref w6, .int (nI (wt)), .int (nI (rd)), .long (va), .ref w7, .ref w8, .ref w9, .ref wa, .ref wb, .ref wd])), (w1, .inl (cs.2.1, 48, .inr (.inl (fun j => lN ((fun _ => 0) j))))), (w2, .inl (cs.1, 48, .inl (fun j => nI (l2 j)))), (w3, .inl (cs.2.2.1, 48, .inl (fun j => nI (r2 j))))]) 1 rfl (fun j hj => (h9 j hj).1) rfl ?_
  refine n_ci (f2 := fun _ => 0) (ws' := [(w, .inr (4, [.int (nI (0)), .int (nI (ru)), .ref w1, .ref w2, .ref w3, .ref w4, .ref w5, .ref w6, .int (nI (wt)), .int (nI (rd)), .long (va), .ref w7, .ref w8, .ref w9, .ref wa, .ref wb, .ref wd])), (w1, .inl (cs.2.1, 48, .inr (.inl (fun j => lN ((fun _ => 0) j))))), (w2, .inl (cs.1, 48, .inl (fun j => nI ((fun _ => 0) j)))), (w3, .inl (cs.2.2.1, 48, .inl (fun j => nI (r2 j))))]) 2 rfl (fun j hj => (h9 j hj).2.1) rfl ?_
  refine n_ci (f2 := fun _ => 0) (ws' := [(w, .inr (4, [.int (nI (0)), .int (nI (ru)), .ref w1, .ref w2, .ref w3, .ref w4, .ref w5, .ref w6, .int (nI (wt)), .int (nI (rd)), .long (va), .ref w7, .ref w8, .ref w9, .ref wa, .ref wb, .ref wd])), (w1, .inl (cs.2.1, 48, .inr (.inl (fun j => lN ((fun _ => 0) j))))), (w2, .inl (cs.1, 48, .inl (fun j => nI ((fun _ => 0) j)))), (w3, .inl (cs.2.2.1, 48, .inl (fun j => nI ((fun _ => 0) j))))]) 3 rfl (fun j hj => (h9 j hj).2.2) rfl ?_
  refine g_aload_n C d_M_clear_40 0 rfl rfl ?_
  refine g_iconst C (v := nI 0) d_M_clear_41 rfl ?_
  refine g_put C (T := FM) (N := 17) (ws' := [(w, .inr (4, [.int (nI (0)), .int (nI (ru)), .ref w1, .ref w2, .ref w3, .ref w4, .ref w5, .ref w6, .int (nI (0)), .int (nI (rd)), .long (va), .ref w7, .ref w8, .ref w9, .ref wa, .ref wb, .ref wd])), (w1, .inl (cs.2.1, 48, .inr (.inl (fun j => lN ((fun _ => 0) j))))), (w2, .inl (cs.1, 48, .inl (fun j => nI ((fun _ => 0) j)))), (w3, .inl (cs.2.2.1, 48, .inl (fun j => nI ((fun _ => 0) j))))]) 0 8 inM tyM okM nmM rfl rfl (by decide) tw_444 rfl rfl rfl rfl rfl (Nat.le_of_ble_eq_true rfl) rfl d_M_clear_42 ?_
  refine g_aload_n C d_M_clear_45 0 rfl rfl ?_
  refine g_iconst C (v := nI 0) d_M_clear_46 rfl ?_
  refine g_put C (T := FM) (N := 17) (ws' := [(w, .inr (4, [.int (nI (0)), .int (nI (ru)), .ref w1, .ref w2, .ref w3, .ref w4, .ref w5, .ref w6, .int (nI (0)), .int (nI (0)), .long (va), .ref w7, .ref w8, .ref w9, .ref wa, .ref wb, .ref wd])), (w1, .inl (cs.2.1, 48, .inr (.inl (fun j => lN ((fun _ => 0) j))))), (w2, .inl (cs.1, 48, .inl (fun j => nI ((fun _ => 0) j)))), (w3, .inl (cs.2.2.1, 48, .inl (fun j => nI ((fun _ => 0) j))))]) 0 9 inM tyM okM nmM rfl rfl (by decide) tw_445 rfl rfl rfl rfl rfl (Nat.le_of_ble_eq_true rfl) rfl d_M_clear_47 ?_
  exact g_vret C hr hlk rfl d_M_clear_50
