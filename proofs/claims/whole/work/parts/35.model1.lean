/-- the model's number of what is wrong -/
def flc (a b : Nat) : Nat := if a = 0 then 1 else if b = 0 then 2 else 0
theorem flc_le (a b : Nat) : flc a b ≤ 2 := by unfold flc; (repeat' split) <;> omega
/-- the fill of the first k symbols, in parts of 65536 -/
def flm (ln : Nat → Nat) : Nat → Nat
  | 0 => 0
  | k + 1 => flm ln k + if 0 < ln k then 2 ^ (16 - ln k) else 0
theorem flm_le (ln : Nat → Nat) : ∀ k, flm ln k ≤ k * 65536
  | 0 => Nat.zero_le _
  | k + 1 => by
    have h1 := flm_le ln k
    have h2 : 2 ^ (16 - ln k) ≤ 2 ^ 16 := Nat.pow_le_pow_right (by omega) (by omega)
    unfold flm; split <;> omega

set_option maxHeartbeats 4000000 in
set_option maxRecDepth 100000 in
theorem m_M_thrown (l : Launch) (D : va_G) (cs : ClassId × ClassId × ClassId × ClassId) (w w1 w2 w3 w4 w5 w6 w7 w8 w9 wa wb wd : Nat) (cd ru wt rd : Nat) (va : Int64) : MG l y_M_thrown k_M_thrown { frames := 0, cells := 0, slots := 0, locals := 0 } D cs [.ref w] [(w, .inr (4, [.int (nI (cd)), .int (nI (ru)), .ref w1, .ref w2, .ref w3, .ref w4, .ref w5, .ref w6, .int (nI (wt)), .int (nI (rd)), .long (va), .ref w7, .ref w8, .ref w9, .ref wa, .ref wb, .ref wd]))] (QI D (nI (cd)) [(w, .inr (4, [.int (nI (cd)), .int (nI (ru)), .ref w1, .ref w2, .ref w3, .ref w4, .ref w5, .ref w6, .int (nI (wt)), .int (nI (rd)), .long (va), .ref w7, .ref w8, .ref w9, .ref wa, .ref wb, .ref wd]))]) := by
  refine MG.mk (own := RM) (by decide) rfl (Nat.le_of_ble_eq_true rfl) ?_
  intro p e s m below meth c A C hr hlk
  refine g_lv (lv' := [(0, .ref w)]) [0] rfl ?_
  refine g_aload_n C d_M_thrown_0 0 rfl rfl ?_
  refine g_get C (T := FM) (N := 17) 0 0 inM rfl rfl (by decide) tw_436 rfl rfl d_M_thrown_1 ?_
  exact g_iret C hr hlk rfl rfl d_M_thrown_4
set_option maxHeartbeats 4000000 in
set_option maxRecDepth 100000 in
theorem m_M_fails (l : Launch) (D : va_G) (cs : ClassId × ClassId × ClassId × ClassId) (w w1 w2 w3 w4 w5 w6 w7 w8 w9 wa wb wd : Nat) (cd ru wt rd : Nat) (va : Int64) (f1 f2 : Nat) (h1 : f1 < 2) (h2 : f2 < 2) : MG l y_M_fails k_M_fails { frames := 0, cells := 0, slots := 0, locals := 0 } D cs [.ref w, .int (nI (f1)), .int (nI (f2))] [(w, .inr (4, [.int (nI (cd)), .int (nI (ru)), .ref w1, .ref w2, .ref w3, .ref w4, .ref w5, .ref w6, .int (nI (wt)), .int (nI (rd)), .long (va), .ref w7, .ref w8, .ref w9, .ref wa, .ref wb, .ref wd]))] (QI D (nI (if flc f1 f2 = 0 then 0 else 1)) [(w, .inr (4, [.int (nI (flc f1 f2)), .int (nI (ru)), .ref w1, .ref w2, .ref w3, .ref w4, .ref w5, .ref w6, .int (nI (wt)), .int (nI (rd)), .long (va), .ref w7, .ref w8, .ref w9, .ref wa, .ref wb, .ref wd]))]) := by
  refine MG.mk (own := RM) (by decide) rfl (Nat.le_of_ble_eq_true rfl) ?_
  intro p e s m below meth c A C hr hlk
  refine g_lv (lv' := [(0, .ref w), (1, .int (nI (f1))), (2, .int (nI (f2)))]) [0, 1, 2] rfl ?_
  refine g_aload_n C d_M_fails_0 0 rfl rfl ?_
  refine g_iload_n C d_M_fails_1 1 rfl rfl ?_
  refine n_if_ne C 9 d_M_fails_2 (by decide) (by omega) (fun h2 => ?_) (fun h2 => ?_)
  · refine g_iload_n C d_M_fails_9 2 rfl rfl ?_
    refine n_if_ne C 17 d_M_fails_10 (by decide) (by omega) (fun h10 => ?_) (fun h10 => ?_)
    · refine g_iconst C (v := nI 0) d_M_fails_17 rfl ?_
      refine g_put C (T := FM) (N := 17) (ws' := [(w, .inr (4, [.int (nI (0)), .int (nI (ru)), .ref w1, .ref w2, .ref w3, .ref w4, .ref w5, .ref w6, .int (nI (wt)), .int (nI (rd)), .long (va), .ref w7, .ref w8, .ref w9, .ref wa, .ref wb, .ref wd]))]) 0 0 inM tyM okM nmM rfl rfl (by decide) tw_436 rfl rfl rfl rfl rfl (Nat.le_of_ble_eq_true rfl) rfl d_M_fails_18 ?_
      refine g_aload_n C d_M_fails_21 0 rfl rfl ?_
      refine g_get C (T := FM) (N := 17) 0 0 inM rfl rfl (by decide) tw_436 rfl rfl d_M_fails_22 ?_
      refine n_if_le C 32 d_M_fails_25 (by decide) (by omega) (fun _ => ?_) (fun h => absurd h (by omega))
      refine g_iconst C (v := nI 0) d_M_fails_32 rfl ?_
      exact g_zret C hr hlk rfl (by unfold flc; simp [*]; try omega) (by unfold flc; simp [*]; try omega) d_M_fails_33
    · refine g_iconst C (v := nI 2) d_M_fails_13 rfl ?_
      refine g_goto C 18 d_M_fails_14 (by decide) ?_
      refine g_put C (T := FM) (N := 17) (ws' := [(w, .inr (4, [.int (nI (2)), .int (nI (ru)), .ref w1, .ref w2, .ref w3, .ref w4, .ref w5, .ref w6, .int (nI (wt)), .int (nI (rd)), .long (va), .ref w7, .ref w8, .ref w9, .ref wa, .ref wb, .ref wd]))]) 0 0 inM tyM okM nmM rfl rfl (by decide) tw_436 rfl rfl rfl rfl rfl (Nat.le_of_ble_eq_true rfl) rfl d_M_fails_18 ?_
      refine g_aload_n C d_M_fails_21 0 rfl rfl ?_
      refine g_get C (T := FM) (N := 17) 0 0 inM rfl rfl (by decide) tw_436 rfl rfl d_M_fails_22 ?_
      refine n_if_le C 32 d_M_fails_25 (by decide) (by omega) (fun h => absurd h (by omega)) (fun _ => ?_)
      refine g_iconst C (v := nI 1) d_M_fails_28 rfl ?_
      refine g_goto C 33 d_M_fails_29 (by decide) ?_
      exact g_zret C hr hlk rfl (by unfold flc; simp [*]; try omega) (by unfold flc; simp [*]; try omega) d_M_fails_33
  · refine g_iconst C (v := nI 1) d_M_fails_5 rfl ?_
    refine g_goto C 18 d_M_fails_6 (by decide) ?_
    refine g_put C (T := FM) (N := 17) (ws' := [(w, .inr (4, [.int (nI (1)), .int (nI (ru)), .ref w1, .ref w2, .ref w3, .ref w4, .ref w5, .ref w6, .int (nI (wt)), .int (nI (rd)), .long (va), .ref w7, .ref w8, .ref w9, .ref wa, .ref wb, .ref wd]))]) 0 0 inM tyM okM nmM rfl rfl (by decide) tw_436 rfl rfl rfl rfl rfl (Nat.le_of_ble_eq_true rfl) rfl d_M_fails_18 ?_
    refine g_aload_n C d_M_fails_21 0 rfl rfl ?_
    refine g_get C (T := FM) (N := 17) 0 0 inM rfl rfl (by decide) tw_436 rfl rfl d_M_fails_22 ?_
    refine n_if_le C 32 d_M_fails_25 (by decide) (by omega) (fun h => absurd h (by omega)) (fun _ => ?_)
    refine g_iconst C (v := nI 1) d_M_fails_28 rfl ?_
    refine g_goto C 33 d_M_fails_29 (by decide) ?_
    exact g_zret C hr hlk rfl (by unfold flc; simp [*]; try omega) (by unfold flc; simp [*]; try omega) d_M_fails_33
