theorem flp_dl (a : Nat → Nat) (e : Nat) : ∀ k, flp (fun j => a j + if e = j then 1 else 0) k = flp a k + if 0 < e ∧ e ≤ k then 65536 / 2 ^ e else 0
  | 0 => by rw [if_neg (by omega)]; rfl
  | k + 1 => by
    have ih := flp_dl a e k
    show flp (fun j => a j + if e = j then 1 else 0) k + (a (k + 1) + if e = k + 1 then 1 else 0) * (65536 / 2 ^ (k + 1)) = flp a k + a (k + 1) * (65536 / 2 ^ (k + 1)) + _
    rw [ih]
    by_cases h : e = k + 1
    · subst h
      rw [if_neg (by omega), if_pos rfl, if_pos ⟨by omega, by omega⟩, Nat.add_mul, Nat.one_mul]
      omega
    · rw [if_neg h, Nat.add_zero]
      by_cases h2 : 0 < e ∧ e ≤ k
      · rw [if_pos h2, if_pos ⟨h2.1, by omega⟩]; omega
      · rw [if_neg h2, if_neg (by omega)]; omega
theorem pw16 {k : Nat} (h : k ≤ 16) : 65536 / 2 ^ k = 2 ^ (16 - k) := by
  have : 65536 = 2 ^ (16 - k) * 2 ^ k := by rw [← Nat.pow_add]; rw [show 16 - k + k = 16 by omega]
  rw [this, Nat.mul_div_cancel _ (Nat.two_pow_pos _)]
theorem flm_flp {ln : Nat → Nat} (hl : ∀ j, j < 48 → ln j ≤ 16) : ∀ n, n ≤ 48 → flp (shr ln n) 16 = flm ln n
  | 0, _ => by
    have : ∀ k, flp (shr ln 0) k = 0 := fun k => by
      induction k with
      | zero => rfl
      | succ k ih => show flp (shr ln 0) k + 0 * _ = 0; rw [ih, Nat.zero_mul]
    exact this 16
  | n + 1, h => by
    have ih := flm_flp hl n (by omega)
    have e : shr ln (n + 1) = fun j => shr ln n j + if ln n = j then 1 else 0 := by funext j; rfl
    rw [e, flp_dl, ih]
    show _ = flm ln n + if 0 < ln n then 2 ^ (16 - ln n) else 0
    congr 1
    have h9 := hl n (by omega)
    by_cases h0 : 0 < ln n
    · rw [if_pos ⟨h0, h9⟩, if_pos h0, pw16 h9]
    · rw [if_neg (by omega), if_neg h0]
/-- the model's fill is the class's -/
theorem flm_fll {ln : Nat → Nat} (hl : ∀ j, j < 48 → ln j ≤ 16) : flm ln 48 = fll ln := (flm_flp hl 48 (Nat.le_refl _)).symm
theorem cdG_b {ru : Nat} {ln co : Nat → Nat} (hl : ∀ j, j < 48 → ln j ≤ 16) (hf : fll ln ≤ 65536) (hc : ∀ j, j < 48 → co j < 2 ^ 31) {j : Nat} (hj : j < 48) : cdG (stc ru (shr ln 48)) ln co ru 48 j < 2 ^ 31 := by
  unfold cdG
  split
  · rename_i q
    have h1 := cx_b (ru := ru) hf (lq := ln j) (sq := j) q.2 (hl j hj) (by omega)
    have h2 : 2 ^ ln j ≤ 2 ^ 16 := Nat.pow_le_pow_right (by omega) (hl j hj)
    unfold cx at h1
    split <;> omega
  · exact hc j hj
theorem stt_ok {f : Nat} (h : f ≤ 65536) : stt f < 2 := by unfold stt; (repeat' split) <;> omega
theorem stt_full {f : Nat} (h : 65536 < f) : stt f = 2 := by unfold stt; rw [if_pos h]
theorem om_lt {i n : Nat} (hn : 48 - i = n) (h : i < 48) : 48 - (i + 1) < n := by omega
theorem stt_le (f : Nat) : stt f ≤ 2 := by unfold stt; (repeat' split) <;> omega

set_option maxHeartbeats 4000000 in
set_option maxRecDepth 100000 in
theorem m_M_code_0 (l : Launch) (D : va_G) (cs : ClassId × ClassId × ClassId × ClassId) (w w1 w2 w3 w4 w5 w6 w7 w8 w9 wa wb wd : Nat) (cd ru wt rd : Nat) (va : Int64) (ln : Nat → Nat) (co : Nat → Nat) (y : Nat) (hy : y < 48) (hl : ∀ j, j < 48 → ln j ≤ 16) (hf : fll ln ≤ 65536) (hru : ru < 3) (hc : ∀ j, j < 48 → co j < 2 ^ 31) : MG l y_M_code k_M_code { frames := 1, cells := 0, slots := 0, locals := 26 } D cs [.ref w, .int (nI (y))] [(w, .inr (4, [.int (nI (cd)), .int (nI (ru)), .ref w1, .ref w2, .ref w3, .ref w4, .ref w5, .ref w6, .int (nI (wt)), .int (nI (rd)), .long (va), .ref w7, .ref w8, .ref w9, .ref wa, .ref wb, .ref wd])), (w2, .inl (cs.1, 48, .inl (fun j => nI (ln j)))), (wd, .inl (cs.1, 48, .inl (fun j => nI (co j))))] (QL D (if ln y = 0 then (-1) else lN ((cdG (stc (ru) (shr (ln) 48)) (ln) (co) (ru) 48) y)) [(w, .inr (4, [.int (nI (0)), .int (nI (ru)), .ref w1, .ref w2, .ref w3, .ref w4, .ref w5, .ref w6, .int (nI (wt)), .int (nI (rd)), .long (va), .ref w7, .ref w8, .ref w9, .ref wa, .ref wb, .ref wd])), (w2, .inl (cs.1, 48, .inl (fun j => nI (ln j)))), (wd, .inl (cs.1, 48, .inl (fun j => nI ((cdG (stc (ru) (shr (ln) 48)) (ln) (co) (ru) 48) j))))]) := by
  refine MG.mk (own := RM) (by decide) rfl (Nat.le_of_ble_eq_true rfl) ?_
  intro p e s m below meth c A C hr hlk
  refine g_lv (lv' := [(0, .ref w), (1, .int (nI (y)))]) [0, 1] rfl ?_
  refine g_aload_n C d_M_code_0 0 rfl rfl ?_
  refine g_iload_n C d_M_code_1 1 rfl rfl ?_
  refine g_callSi C (n := 1) (ws' := [(w, .inr (4, [.int (nI (cd)), .int (nI (ru)), .ref w1, .ref w2, .ref w3, .ref w4, .ref w5, .ref w6, .int (nI (wt)), .int (nI (rd)), .long (va), .ref w7, .ref w8, .ref w9, .ref wa, .ref wb, .ref wd])), (w2, .inl (cs.1, 48, .inl (fun j => nI (ln j)))), (wd, .inl (cs.1, 48, .inl (fun j => nI (co j))))]) (As := [.int (nI (y))]) (rest := [.ref w]) (m_M_isSymbol_1 l D cs (y) (by omega)) tw_497 tw_498 tw_6 tw_499 (by decide +kernel) rfl ⟨rfl, rfl, by decide, by decide, by decide⟩ rfl [] rfl rfl (by decide) (Nat.le_of_ble_eq_true rfl) rfl d_M_code_2 ?_
  refine g_aload_n C d_M_code_5 0 rfl rfl ?_
  refine g_callVi C (n := 0) (ws' := [(w, .inr (4, [.int (nI (cd)), .int (nI (ru)), .ref w1, .ref w2, .ref w3, .ref w4, .ref w5, .ref w6, .int (nI (wt)), .int (nI (rd)), .long (va), .ref w7, .ref w8, .ref w9, .ref wa, .ref wb, .ref wd])), (w2, .inl (cs.1, 48, .inl (fun j => nI (ln j)))), (wd, .inl (cs.1, 48, .inl (fun j => nI (co j))))]) (As := []) (rest := [.int (nI (1)), .ref w]) (m_M_fill l D cs w w1 w2 w3 w4 w5 w6 w7 w8 w9 wa wb wd (cd) (ru) (wt) (rd) (va) (ln) hl) tw_525 tw_527 ts_18 tw_6 tw_528 rfl 0 rfl rfl (by decide +kernel) rfl ⟨rfl, rfl, by decide, by decide, by decide⟩ rfl [0, 1] rfl rfl (by decide) (Nat.le_of_ble_eq_true rfl) rfl d_M_code_6 ?_
  refine g_iconst C (v := nI 2) d_M_code_9 rfl ?_
  refine n_icmp_ge C 17 d_M_code_10 (by decide) (by have := stt_le (flm ln 48); omega) (by omega) (fun h => absurd h (by have := stt_ok (f := flm ln 48) (by rw [flm_fll hl]; exact hf); omega)) (fun _ => ?_)
  refine g_iconst C (v := nI 1) d_M_code_13 rfl ?_
  refine g_goto C 18 d_M_code_14 (by decide) ?_
  refine g_callVi C (n := 2) (ws' := [(w, .inr (4, [.int (nI (0)), .int (nI (ru)), .ref w1, .ref w2, .ref w3, .ref w4, .ref w5, .ref w6, .int (nI (wt)), .int (nI (rd)), .long (va), .ref w7, .ref w8, .ref w9, .ref wa, .ref wb, .ref wd])), (w2, .inl (cs.1, 48, .inl (fun j => nI (ln j)))), (wd, .inl (cs.1, 48, .inl (fun j => nI (co j))))]) (As := [.int (nI (1)), .int (nI (1))]) (rest := []) (m_M_fails_0 l D cs w w1 w2 w3 w4 w5 w6 w7 w8 w9 wa wb wd (cd) (ru) (wt) (rd) (va)  ) tw_501 tw_503 ts_15 tw_6 tw_504 rfl 0 rfl rfl (by decide +kernel) rfl ⟨rfl, rfl, by decide, by decide, by decide⟩ rfl [0] rfl rfl (by decide) (Nat.le_of_ble_eq_true rfl) rfl d_M_code_18 ?_
  refine n_if_eq C 26 d_M_code_21 (by decide) (by omega) (fun _ => ?_) (fun h => absurd h (by omega))
  refine g_aload_n C d_M_code_26 0 rfl rfl ?_
  refine g_callVv C (n := 0) (ws' := [(w, .inr (4, [.int (nI (0)), .int (nI (ru)), .ref w1, .ref w2, .ref w3, .ref w4, .ref w5, .ref w6, .int (nI (wt)), .int (nI (rd)), .long (va), .ref w7, .ref w8, .ref w9, .ref wa, .ref wb, .ref wd])), (w2, .inl (cs.1, 48, .inl (fun j => nI (ln j)))), (wd, .inl (cs.1, 48, .inl (fun j => nI ((cdG (stc (ru) (shr (ln) 48)) (ln) (co) (ru) 48) j))))]) (As := []) (rest := []) (m_M_makeCodes l D cs w w1 w2 w3 w4 w5 w6 w7 w8 w9 wa wb wd (0) (ru) (wt) (rd) (va) (ln) (co) hl hf hru) tw_542 tw_544 ts_19 tw_6 tw_545 rfl 0 rfl rfl (by decide +kernel) rfl ⟨rfl, rfl, by decide, by decide, by decide⟩ rfl [0, 1, 2] rfl rfl (by decide) (Nat.le_of_ble_eq_true rfl) rfl d_M_code_27 ?_
  refine g_aload_n C d_M_code_30 0 rfl rfl ?_
  refine g_get C (T := FM) (N := 17) 0 3 inM rfl rfl (by decide) tw_439 rfl rfl d_M_code_31 ?_
  refine g_iload_n C d_M_code_34 1 rfl rfl ?_
  refine g_iald C 1 rfl (by omega) (by decide) d_M_code_35 ?_
  refine n_if_ne C 45 d_M_code_36 (by decide) (by have := hl y hy; omega) (fun h36 => ?_) (fun h36 => ?_)
  · refine g_aload_n C d_M_code_45 0 rfl rfl ?_
    refine g_get C (T := FM) (N := 17) 0 16 inM rfl rfl (by decide) tw_452 rfl rfl d_M_code_46 ?_
    refine g_iload_n C d_M_code_49 1 rfl rfl ?_
    refine g_iald C 2 rfl (by omega) (by decide) d_M_code_50 ?_
    refine g_i2l C (v := lN ((cdG (stc (ru) (shr (ln) 48)) (ln) (co) (ru) 48) (y))) d_M_code_51 (nI_l (cdG_b hl hf hc hy)) ?_
    exact g_lret C hr hlk (by first | rw [if_pos (by assumption)] | rw [if_neg (by omega)]) rfl d_M_code_52
  · refine g_ldc2 C (v := (-1)) tw_546 d_M_code_39 ?_
    refine g_goto C 52 d_M_code_42 (by decide) ?_
    exact g_lret C hr hlk (by first | rw [if_pos (by assumption)] | rw [if_neg (by omega)]) rfl d_M_code_52
set_option maxHeartbeats 4000000 in
set_option maxRecDepth 100000 in
theorem m_M_code_1 (l : Launch) (D : va_G) (cs : ClassId × ClassId × ClassId × ClassId) (w w1 w2 w3 w4 w5 w6 w7 w8 w9 wa wb wd : Nat) (cd ru wt rd : Nat) (va : Int64) (ln : Nat → Nat) (co : Nat → Nat) (x : Int32) (hx : x < 0 ∨ ¬ x < nI 48) (hl : ∀ j, j < 48 → ln j ≤ 16) : MG l y_M_code k_M_code { frames := 1, cells := 0, slots := 0, locals := 26 } D cs [.ref w, .int (x)] [(w, .inr (4, [.int (nI (cd)), .int (nI (ru)), .ref w1, .ref w2, .ref w3, .ref w4, .ref w5, .ref w6, .int (nI (wt)), .int (nI (rd)), .long (va), .ref w7, .ref w8, .ref w9, .ref wa, .ref wb, .ref wd])), (w2, .inl (cs.1, 48, .inl (fun j => nI (ln j)))), (wd, .inl (cs.1, 48, .inl (fun j => nI (co j))))] (QL D (lN (0)) [(w, .inr (4, [.int (nI (1)), .int (nI (ru)), .ref w1, .ref w2, .ref w3, .ref w4, .ref w5, .ref w6, .int (nI (wt)), .int (nI (rd)), .long (va), .ref w7, .ref w8, .ref w9, .ref wa, .ref wb, .ref wd])), (w2, .inl (cs.1, 48, .inl (fun j => nI (ln j)))), (wd, .inl (cs.1, 48, .inl (fun j => nI (co j))))]) := by
  refine MG.mk (own := RM) (by decide) rfl (Nat.le_of_ble_eq_true rfl) ?_
  intro p e s m below meth c A C hr hlk
  refine g_lv (lv' := [(0, .ref w), (1, .int (x))]) [0, 1] rfl ?_
  refine g_aload_n C d_M_code_0 0 rfl rfl ?_
  refine g_iload_n C d_M_code_1 1 rfl rfl ?_
  refine g_callSi C (n := 1) (ws' := [(w, .inr (4, [.int (nI (cd)), .int (nI (ru)), .ref w1, .ref w2, .ref w3, .ref w4, .ref w5, .ref w6, .int (nI (wt)), .int (nI (rd)), .long (va), .ref w7, .ref w8, .ref w9, .ref wa, .ref wb, .ref wd])), (w2, .inl (cs.1, 48, .inl (fun j => nI (ln j)))), (wd, .inl (cs.1, 48, .inl (fun j => nI (co j))))]) (As := [.int (x)]) (rest := [.ref w]) (m_M_isSymbol_0 l D cs (x) hx) tw_497 tw_498 tw_6 tw_499 (by decide +kernel) rfl ⟨rfl, rfl, by decide, by decide, by decide⟩ rfl [] rfl rfl (by decide) (Nat.le_of_ble_eq_true rfl) rfl d_M_code_2 ?_
  refine g_aload_n C d_M_code_5 0 rfl rfl ?_
  refine g_callVi C (n := 0) (ws' := [(w, .inr (4, [.int (nI (cd)), .int (nI (ru)), .ref w1, .ref w2, .ref w3, .ref w4, .ref w5, .ref w6, .int (nI (wt)), .int (nI (rd)), .long (va), .ref w7, .ref w8, .ref w9, .ref wa, .ref wb, .ref wd])), (w2, .inl (cs.1, 48, .inl (fun j => nI (ln j)))), (wd, .inl (cs.1, 48, .inl (fun j => nI (co j))))]) (As := []) (rest := [.int (nI (0)), .ref w]) (m_M_fill l D cs w w1 w2 w3 w4 w5 w6 w7 w8 w9 wa wb wd (cd) (ru) (wt) (rd) (va) (ln) hl) tw_525 tw_527 ts_18 tw_6 tw_528 rfl 0 rfl rfl (by decide +kernel) rfl ⟨rfl, rfl, by decide, by decide, by decide⟩ rfl [0, 1] rfl rfl (by decide) (Nat.le_of_ble_eq_true rfl) rfl d_M_code_6 ?_
  refine g_iconst C (v := nI 2) d_M_code_9 rfl ?_
  refine n_icmp_ge C 17 d_M_code_10 (by decide) (by have := stt_le (flm ln 48); omega) (by omega) (fun h10 => ?_) (fun h10 => ?_)
  · refine g_iconst C (v := nI 0) d_M_code_17 rfl ?_
    refine g_callVi C (n := 2) (ws' := [(w, .inr (4, [.int (nI (1)), .int (nI (ru)), .ref w1, .ref w2, .ref w3, .ref w4, .ref w5, .ref w6, .int (nI (wt)), .int (nI (rd)), .long (va), .ref w7, .ref w8, .ref w9, .ref wa, .ref wb, .ref wd])), (w2, .inl (cs.1, 48, .inl (fun j => nI (ln j)))), (wd, .inl (cs.1, 48, .inl (fun j => nI (co j))))]) (As := [.int (nI (0)), .int (nI (0))]) (rest := []) (m_M_fails_1 l D cs w w1 w2 w3 w4 w5 w6 w7 w8 w9 wa wb wd (cd) (ru) (wt) (rd) (va)  (0)) tw_501 tw_503 ts_15 tw_6 tw_504 rfl 0 rfl rfl (by decide +kernel) rfl ⟨rfl, rfl, by decide, by decide, by decide⟩ rfl [0] rfl rfl (by decide) (Nat.le_of_ble_eq_true rfl) rfl d_M_code_18 ?_
    refine n_if_eq C 26 d_M_code_21 (by decide) (by omega) (fun h => absurd h (by omega)) (fun _ => ?_)
    refine g_lconst C (v := lN 0) d_M_code_24 rfl ?_
    exact g_lret C hr hlk rfl rfl d_M_code_25
  · refine g_iconst C (v := nI 1) d_M_code_13 rfl ?_
    refine g_goto C 18 d_M_code_14 (by decide) ?_
    refine g_callVi C (n := 2) (ws' := [(w, .inr (4, [.int (nI (1)), .int (nI (ru)), .ref w1, .ref w2, .ref w3, .ref w4, .ref w5, .ref w6, .int (nI (wt)), .int (nI (rd)), .long (va), .ref w7, .ref w8, .ref w9, .ref wa, .ref wb, .ref wd])), (w2, .inl (cs.1, 48, .inl (fun j => nI (ln j)))), (wd, .inl (cs.1, 48, .inl (fun j => nI (co j))))]) (As := [.int (nI (0)), .int (nI (1))]) (rest := []) (m_M_fails_1 l D cs w w1 w2 w3 w4 w5 w6 w7 w8 w9 wa wb wd (cd) (ru) (wt) (rd) (va)  (1)) tw_501 tw_503 ts_15 tw_6 tw_504 rfl 0 rfl rfl (by decide +kernel) rfl ⟨rfl, rfl, by decide, by decide, by decide⟩ rfl [0] rfl rfl (by decide) (Nat.le_of_ble_eq_true rfl) rfl d_M_code_18 ?_
    refine n_if_eq C 26 d_M_code_21 (by decide) (by omega) (fun h => absurd h (by omega)) (fun _ => ?_)
    refine g_lconst C (v := lN 0) d_M_code_24 rfl ?_
    exact g_lret C hr hlk rfl rfl d_M_code_25
set_option maxHeartbeats 4000000 in
set_option maxRecDepth 100000 in
theorem m_M_code_2 (l : Launch) (D : va_G) (cs : ClassId × ClassId × ClassId × ClassId) (w w1 w2 w3 w4 w5 w6 w7 w8 w9 wa wb wd : Nat) (cd ru wt rd : Nat) (va : Int64) (ln : Nat → Nat) (co : Nat → Nat) (y : Nat) (hy : y < 48) (hl : ∀ j, j < 48 → ln j ≤ 16) (hf : 65536 < fll ln) : MG l y_M_code k_M_code { frames := 1, cells := 0, slots := 0, locals := 26 } D cs [.ref w, .int (nI (y))] [(w, .inr (4, [.int (nI (cd)), .int (nI (ru)), .ref w1, .ref w2, .ref w3, .ref w4, .ref w5, .ref w6, .int (nI (wt)), .int (nI (rd)), .long (va), .ref w7, .ref w8, .ref w9, .ref wa, .ref wb, .ref wd])), (w2, .inl (cs.1, 48, .inl (fun j => nI (ln j)))), (wd, .inl (cs.1, 48, .inl (fun j => nI (co j))))] (QL D (lN (0)) [(w, .inr (4, [.int (nI (2)), .int (nI (ru)), .ref w1, .ref w2, .ref w3, .ref w4, .ref w5, .ref w6, .int (nI (wt)), .int (nI (rd)), .long (va), .ref w7, .ref w8, .ref w9, .ref wa, .ref wb, .ref wd])), (w2, .inl (cs.1, 48, .inl (fun j => nI (ln j)))), (wd, .inl (cs.1, 48, .inl (fun j => nI (co j))))]) := by
  refine MG.mk (own := RM) (by decide) rfl (Nat.le_of_ble_eq_true rfl) ?_
  intro p e s m below meth c A C hr hlk
  refine g_lv (lv' := [(0, .ref w), (1, .int (nI (y)))]) [0, 1] rfl ?_
  refine g_aload_n C d_M_code_0 0 rfl rfl ?_
  refine g_iload_n C d_M_code_1 1 rfl rfl ?_
  refine g_callSi C (n := 1) (ws' := [(w, .inr (4, [.int (nI (cd)), .int (nI (ru)), .ref w1, .ref w2, .ref w3, .ref w4, .ref w5, .ref w6, .int (nI (wt)), .int (nI (rd)), .long (va), .ref w7, .ref w8, .ref w9, .ref wa, .ref wb, .ref wd])), (w2, .inl (cs.1, 48, .inl (fun j => nI (ln j)))), (wd, .inl (cs.1, 48, .inl (fun j => nI (co j))))]) (As := [.int (nI (y))]) (rest := [.ref w]) (m_M_isSymbol_1 l D cs (y) (by omega)) tw_497 tw_498 tw_6 tw_499 (by decide +kernel) rfl ⟨rfl, rfl, by decide, by decide, by decide⟩ rfl [] rfl rfl (by decide) (Nat.le_of_ble_eq_true rfl) rfl d_M_code_2 ?_
  refine g_aload_n C d_M_code_5 0 rfl rfl ?_
  refine g_callVi C (n := 0) (ws' := [(w, .inr (4, [.int (nI (cd)), .int (nI (ru)), .ref w1, .ref w2, .ref w3, .ref w4, .ref w5, .ref w6, .int (nI (wt)), .int (nI (rd)), .long (va), .ref w7, .ref w8, .ref w9, .ref wa, .ref wb, .ref wd])), (w2, .inl (cs.1, 48, .inl (fun j => nI (ln j)))), (wd, .inl (cs.1, 48, .inl (fun j => nI (co j))))]) (As := []) (rest := [.int (nI (1)), .ref w]) (m_M_fill l D cs w w1 w2 w3 w4 w5 w6 w7 w8 w9 wa wb wd (cd) (ru) (wt) (rd) (va) (ln) hl) tw_525 tw_527 ts_18 tw_6 tw_528 rfl 0 rfl rfl (by decide +kernel) rfl ⟨rfl, rfl, by decide, by decide, by decide⟩ rfl [0, 1] rfl rfl (by decide) (Nat.le_of_ble_eq_true rfl) rfl d_M_code_6 ?_
  refine g_iconst C (v := nI 2) d_M_code_9 rfl ?_
  refine n_icmp_ge C 17 d_M_code_10 (by decide) (by have := stt_le (flm ln 48); omega) (by omega) (fun _ => ?_) (fun h => absurd h (by have := stt_full (f := flm ln 48) (by rw [flm_fll hl]; exact hf); omega))
  refine g_iconst C (v := nI 0) d_M_code_17 rfl ?_
  refine g_callVi C (n := 2) (ws' := [(w, .inr (4, [.int (nI (2)), .int (nI (ru)), .ref w1, .ref w2, .ref w3, .ref w4, .ref w5, .ref w6, .int (nI (wt)), .int (nI (rd)), .long (va), .ref w7, .ref w8, .ref w9, .ref wa, .ref wb, .ref wd])), (w2, .inl (cs.1, 48, .inl (fun j => nI (ln j)))), (wd, .inl (cs.1, 48, .inl (fun j => nI (co j))))]) (As := [.int (nI (1)), .int (nI (0))]) (rest := []) (m_M_fails_2 l D cs w w1 w2 w3 w4 w5 w6 w7 w8 w9 wa wb wd (cd) (ru) (wt) (rd) (va)  ) tw_501 tw_503 ts_15 tw_6 tw_504 rfl 0 rfl rfl (by decide +kernel) rfl ⟨rfl, rfl, by decide, by decide, by decide⟩ rfl [0] rfl rfl (by decide) (Nat.le_of_ble_eq_true rfl) rfl d_M_code_18 ?_
  refine n_if_eq C 26 d_M_code_21 (by decide) (by omega) (fun h => absurd h (by omega)) (fun _ => ?_)
  refine g_lconst C (v := lN 0) d_M_code_24 rfl ?_
  exact g_lret C hr hlk rfl rfl d_M_code_25
/-- n bits begin some code, but are none -/
def stp (ln co bt : Nat → Nat) (n : Nat) : Prop := (∃ j, j < 48 ∧ bgn ln co bt j n = 1) ∧ ∀ j, j < 48 → ¬ (bgn ln co bt j n = 1 ∧ ln j = n)
set_option maxHeartbeats 4000000 in
set_option maxRecDepth 100000 in
theorem l_M_ri {p : Program} {l : Launch} {e : Env} {s : State} {m : MethodId} {args : Array Value} {below : List Frame} {meth : Method} {c : Code} {Q : State → Prop} {A : Nat → Prop} {D : va_G} {cs : ClassId × ClassId × ClassId × ClassId} (C : CX p s m args c c_M_read 5 RM D cs A) (w w1 w2 w3 w4 w5 w6 w7 w8 w9 wa wb wd : Nat) (cd ru wt rd : Nat) (va : Int64) (ln : Nat → Nat) (rg : Nat → Nat) (lo : Nat → Int32) (ex : Nat → Int32) (bt : Nat → Nat) (co : Nat → Nat) (nq : Nat) (hl : ∀ j, j < 48 → ln j ≤ 16) (hc : ∀ j, j < 48 → co j < 2 ^ 31) (hb : ∀ j, j < 400 → bt j < 2) (hz : wt ≤ 400) (hnq : nq ≤ wt)
    (Kt : ∀ y : Nat, y < 48 → bgn ln co bt y nq = 1 → ln y = nq → (∀ j, j < y → ¬ (bgn ln co bt j nq = 1 ∧ ln j = nq)) → GO p l e { frames := 2, cells := 0, slots := 0, locals := 47 } s m args below meth c 0 0 Q A D 5 85 [(0, .ref w), (3, .int (nI (y)))] [] [(w, .inr (4, [.int (nI (cd)), .int (nI (ru)), .ref w1, .ref w2, .ref w3, .ref w4, .ref w5, .ref w6, .int (nI (wt)), .int (nI (rd)), .long (va), .ref w7, .ref w8, .ref w9, .ref wa, .ref wb, .ref wd])), (w2, .inl (cs.1, 48, .inl (fun j => nI (ln j)))), (w3, .inl (cs.2.2.1, 48, .inl (fun j => nI (rg j)))), (w4, .inl (cs.1, 48, .inl (lo))), (w5, .inl (cs.1, 48, .inl (ex))), (w6, .inl (cs.1, 400, .inl (fun j => nI (bt j)))), (wd, .inl (cs.1, 48, .inl (fun j => nI (co j))))])
    (K0 : (∀ j, j < 48 → bgn ln co bt j nq = 0) → GO p l e { frames := 2, cells := 0, slots := 0, locals := 47 } s m args below meth c 0 0 Q A D 5 97 [(0, .ref w), (1, .int (nI (nq))), (2, .int (nI (0)))] [] [(w, .inr (4, [.int (nI (cd)), .int (nI (ru)), .ref w1, .ref w2, .ref w3, .ref w4, .ref w5, .ref w6, .int (nI (wt)), .int (nI (rd)), .long (va), .ref w7, .ref w8, .ref w9, .ref wa, .ref wb, .ref wd])), (w2, .inl (cs.1, 48, .inl (fun j => nI (ln j)))), (w3, .inl (cs.2.2.1, 48, .inl (fun j => nI (rg j)))), (w4, .inl (cs.1, 48, .inl (lo))), (w5, .inl (cs.1, 48, .inl (ex))), (w6, .inl (cs.1, 400, .inl (fun j => nI (bt j)))), (wd, .inl (cs.1, 48, .inl (fun j => nI (co j))))])
    (K1 : stp ln co bt nq → GO p l e { frames := 2, cells := 0, slots := 0, locals := 47 } s m args below meth c 0 0 Q A D 5 97 [(0, .ref w), (1, .int (nI (nq))), (2, .int (nI (1)))] [] [(w, .inr (4, [.int (nI (cd)), .int (nI (ru)), .ref w1, .ref w2, .ref w3, .ref w4, .ref w5, .ref w6, .int (nI (wt)), .int (nI (rd)), .long (va), .ref w7, .ref w8, .ref w9, .ref wa, .ref wb, .ref wd])), (w2, .inl (cs.1, 48, .inl (fun j => nI (ln j)))), (w3, .inl (cs.2.2.1, 48, .inl (fun j => nI (rg j)))), (w4, .inl (cs.1, 48, .inl (lo))), (w5, .inl (cs.1, 48, .inl (ex))), (w6, .inl (cs.1, 400, .inl (fun j => nI (bt j)))), (wd, .inl (cs.1, 48, .inl (fun j => nI (co j))))])
    : ∀ (n : Nat) (sq sm9 : Nat), 48 - sq = n → (sq ≤ 48) → (∀ j, j < sq → ¬ (bgn ln co bt j nq = 1 ∧ ln j = nq)) → ((sm9 = 0 ∧ ∀ j, j < sq → bgn ln co bt j nq = 0) ∨ (sm9 = 1 ∧ ∃ j, j < 48 ∧ bgn ln co bt j nq = 1)) → GO p l e { frames := 2, cells := 0, slots := 0, locals := 47 } s m args below meth c 0 0 Q A D 5 41 [(0, .ref w), (1, .int (nI (nq))), (2, .int (nI (sm9))), (3, .int (nI (sq)))] [] [(w, .inr (4, [.int (nI (cd)), .int (nI (ru)), .ref w1, .ref w2, .ref w3, .ref w4, .ref w5, .ref w6, .int (nI (wt)), .int (nI (rd)), .long (va), .ref w7, .ref w8, .ref w9, .ref wa, .ref wb, .ref wd])), (w2, .inl (cs.1, 48, .inl (fun j => nI (ln j)))), (w3, .inl (cs.2.2.1, 48, .inl (fun j => nI (rg j)))), (w4, .inl (cs.1, 48, .inl (lo))), (w5, .inl (cs.1, 48, .inl (ex))), (w6, .inl (cs.1, 400, .inl (fun j => nI (bt j)))), (wd, .inl (cs.1, 48, .inl (fun j => nI (co j))))] := by
  intro n
  induction n using Nat.strongRecOn with
  | _ n ih =>
  intro sq sm9  hn hi hno hsm
  refine g_iload_n C d_M_read_41 3 rfl rfl ?_
  refine g_bipush C (v := nI 48) d_M_read_42 rfl ?_
  refine n_icmp_ge C 97 d_M_read_44 (by decide) (by omega) (by omega) (fun h44 => ?_) (fun h44 => ?_)
  · refine g_lv (lv' := [(0, .ref w), (1, .int (nI (nq))), (2, .int (nI (sm9)))]) [0, 1, 2] rfl ?_
    have e9 : sq = 48 := by omega
    subst e9
    rcases hsm with ⟨e8, h8⟩ | ⟨e8, h8⟩
    · subst e8; exact K0 h8
    · subst e8; exact K1 ⟨h8, hno⟩
  · refine g_aload_n C d_M_read_47 0 rfl rfl ?_
    refine g_iload_n C d_M_read_48 3 rfl rfl ?_
    refine g_iload_n C d_M_read_49 1 rfl rfl ?_
    refine g_callVi C (n := 2) (ws' := [(w, .inr (4, [.int (nI (cd)), .int (nI (ru)), .ref w1, .ref w2, .ref w3, .ref w4, .ref w5, .ref w6, .int (nI (wt)), .int (nI (rd)), .long (va), .ref w7, .ref w8, .ref w9, .ref wa, .ref wb, .ref wd])), (w2, .inl (cs.1, 48, .inl (fun j => nI (ln j)))), (w3, .inl (cs.2.2.1, 48, .inl (fun j => nI (rg j)))), (w4, .inl (cs.1, 48, .inl (lo))), (w5, .inl (cs.1, 48, .inl (ex))), (w6, .inl (cs.1, 400, .inl (fun j => nI (bt j)))), (wd, .inl (cs.1, 48, .inl (fun j => nI (co j))))]) (As := [.int (nI (sq)), .int (nI (nq))]) (rest := []) (m_M_begins l D cs w w1 w2 w3 w4 w5 w6 w7 w8 w9 wa wb wd (cd) (ru) (wt) (rd) (va) (ln) (bt) (co) (sq) (nq) (by omega) (by omega) hl hc hb) tw_555 tw_557 ts_20 tw_6 tw_558 rfl 0 rfl rfl (by decide +kernel) rfl ⟨rfl, rfl, by decide, by decide, by decide⟩ rfl [0, 1, 5, 6] rfl rfl (by decide) (Nat.le_of_ble_eq_true rfl) rfl d_M_read_50 ?_
    refine g_istore C (lv' := [(4, .int (nI (bgn (ln) (co) (bt) (sq) (nq)))), (0, .ref w), (1, .int (nI (nq))), (2, .int (nI (sm9))), (3, .int (nI (sq)))]) d_M_read_53 (by decide) rfl ?_
    refine g_iload_n C d_M_read_55 3 rfl rfl ?_
    refine n_if_ne C 64 d_M_read_56 (by decide) (by rcases hsm with hsm | hsm <;> omega) (fun h56 => ?_) (fun h56 => ?_)
    · refine g_iconst C (v := nI 1) d_M_read_64 rfl ?_
      refine g_goto C 69 d_M_read_65 (by decide) ?_
      refine g_istore_n C (lv' := [(2, .int (nI (1))), (4, .int (nI (bgn (ln) (co) (bt) (sq) (nq)))), (0, .ref w), (1, .int (nI (nq))), (3, .int (nI (sq)))]) d_M_read_69 rfl (by decide) rfl ?_
      refine g_iload C d_M_read_70 1 rfl ?_
      refine n_if_eq C 91 d_M_read_72 (by decide) (by have := bgn_01 ln co bt sq nq; omega) (fun h72 => ?_) (fun h72 => ?_)
      · refine g_iinc C (lv' := [(3, .int (nI (sq + 1))), (2, .int (nI (1))), (4, .int (nI (bgn (ln) (co) (bt) (sq) (nq)))), (0, .ref w), (1, .int (nI (nq)))]) (k := 4) d_M_read_91 rfl (nI_1 _) (by decide) rfl ?_
        refine g_goto C 41 d_M_read_94 (by decide) ?_
        refine g_lv (lv' := [(0, .ref w), (1, .int (nI (nq))), (2, .int (nI (1))), (3, .int (nI (sq + 1)))]) [3, 4, 1, 0] rfl ?_
        exact ih (48 - (sq + 1)) (om_lt hn h44) (sq + 1) 1 rfl (Nat.succ_le_of_lt h44) (fun j hj q => by
      by_cases e : j = sq
      · subst e; omega
      · exact hno j (by omega) q) (Or.inr ⟨rfl, by
      rcases hsm with ⟨a9, _⟩ | ⟨_, a9⟩
      · exact ⟨sq, by omega, by have := bgn_01 ln co bt sq nq; omega⟩
      · exact a9⟩)
      · refine g_aload_n C d_M_read_75 2 rfl rfl ?_
        refine g_get C (T := FM) (N := 17) 0 3 inM rfl rfl (by decide) tw_439 rfl rfl d_M_read_76 ?_
        refine g_iload_n C d_M_read_79 4 rfl rfl ?_
        refine g_iald C 1 rfl (by omega) (by decide) d_M_read_80 ?_
        refine g_iload_n C d_M_read_81 3 rfl rfl ?_
        refine n_icmp_ne C 91 d_M_read_82 (by decide) (by have := hl sq (by omega); omega) (by omega) (fun h82 => ?_) (fun h82 => ?_)
        · refine g_iinc C (lv' := [(3, .int (nI (sq + 1))), (2, .int (nI (1))), (4, .int (nI (bgn (ln) (co) (bt) (sq) (nq)))), (0, .ref w), (1, .int (nI (nq)))]) (k := 4) d_M_read_91 rfl (nI_1 _) (by decide) rfl ?_
          refine g_goto C 41 d_M_read_94 (by decide) ?_
          refine g_lv (lv' := [(0, .ref w), (1, .int (nI (nq))), (2, .int (nI (1))), (3, .int (nI (sq + 1)))]) [3, 4, 1, 0] rfl ?_
          exact ih (48 - (sq + 1)) (om_lt hn h44) (sq + 1) 1 rfl (Nat.succ_le_of_lt h44) (fun j hj q => by
      by_cases e : j = sq
      · subst e; omega
      · exact hno j (by omega) q) (Or.inr ⟨rfl, by
      rcases hsm with ⟨a9, _⟩ | ⟨_, a9⟩
      · exact ⟨sq, by omega, by have := bgn_01 ln co bt sq nq; omega⟩
      · exact a9⟩)
        · refine g_lv (lv' := [(0, .ref w), (3, .int (nI (sq)))]) [2, 4] rfl ?_
          exact Kt sq (by omega) (by have := bgn_01 ln co bt sq nq; omega) (by omega) (fun j hj => hno j hj)
    · refine g_iload C d_M_read_59 0 rfl ?_
      refine n_if_eq C 68 d_M_read_61 (by decide) (by have := bgn_01 ln co bt sq nq; omega) (fun h61 => ?_) (fun h61 => ?_)
      · refine g_iconst C (v := nI 0) d_M_read_68 rfl ?_
        refine g_istore_n C (lv' := [(2, .int (nI (0))), (4, .int (nI (bgn (ln) (co) (bt) (sq) (nq)))), (0, .ref w), (1, .int (nI (nq))), (3, .int (nI (sq)))]) d_M_read_69 rfl (by decide) rfl ?_
        refine g_iload C d_M_read_70 1 rfl ?_
        refine n_if_eq C 91 d_M_read_72 (by decide) (by have := bgn_01 ln co bt sq nq; omega) (fun h72 => ?_) (fun h72 => ?_)
        · refine g_iinc C (lv' := [(3, .int (nI (sq + 1))), (2, .int (nI (0))), (4, .int (nI (bgn (ln) (co) (bt) (sq) (nq)))), (0, .ref w), (1, .int (nI (nq)))]) (k := 4) d_M_read_91 rfl (nI_1 _) (by decide) rfl ?_
          refine g_goto C 41 d_M_read_94 (by decide) ?_
          refine g_lv (lv' := [(0, .ref w), (1, .int (nI (nq))), (2, .int (nI (0))), (3, .int (nI (sq + 1)))]) [3, 4, 1, 0] rfl ?_
          exact ih (48 - (sq + 1)) (om_lt hn h44) (sq + 1) 0 rfl (Nat.succ_le_of_lt h44) (fun j hj q => by
      by_cases e : j = sq
      · subst e; omega
      · exact hno j (by omega) q) (Or.inl ⟨rfl, fun j hj => by
      by_cases e : j = sq
      · subst e; omega
      · rcases hsm with ⟨_, h9⟩ | ⟨h9, _⟩
        · exact h9 j (by omega)
        · omega⟩)
        · refine g_aload_n C d_M_read_75 2 rfl rfl ?_
          refine g_get C (T := FM) (N := 17) 0 3 inM rfl rfl (by decide) tw_439 rfl rfl d_M_read_76 ?_
          refine g_iload_n C d_M_read_79 4 rfl rfl ?_
          refine g_iald C 1 rfl (by omega) (by decide) d_M_read_80 ?_
          refine g_iload_n C d_M_read_81 3 rfl rfl ?_
          refine n_icmp_ne C 91 d_M_read_82 (by decide) (by have := hl sq (by omega); omega) (by omega) (fun h82 => ?_) (fun h82 => ?_)
          · refine g_iinc C (lv' := [(3, .int (nI (sq + 1))), (2, .int (nI (0))), (4, .int (nI (bgn (ln) (co) (bt) (sq) (nq)))), (0, .ref w), (1, .int (nI (nq)))]) (k := 4) d_M_read_91 rfl (nI_1 _) (by decide) rfl ?_
            refine g_goto C 41 d_M_read_94 (by decide) ?_
            refine g_lv (lv' := [(0, .ref w), (1, .int (nI (nq))), (2, .int (nI (0))), (3, .int (nI (sq + 1)))]) [3, 4, 1, 0] rfl ?_
            exact ih (48 - (sq + 1)) (om_lt hn h44) (sq + 1) 0 rfl (Nat.succ_le_of_lt h44) (fun j hj q => by
      by_cases e : j = sq
      · subst e; omega
      · exact hno j (by omega) q) (Or.inl ⟨rfl, fun j hj => by
      by_cases e : j = sq
      · subst e; omega
      · rcases hsm with ⟨_, h9⟩ | ⟨h9, _⟩
        · exact h9 j (by omega)
        · omega⟩)
          · refine g_lv (lv' := [(0, .ref w), (3, .int (nI (sq)))]) [2, 4] rfl ?_
            exact Kt sq (by omega) (by have := bgn_01 ln co bt sq nq; omega) (by omega) (fun j hj => hno j hj)
      · refine g_iconst C (v := nI 1) d_M_read_64 rfl ?_
        refine g_goto C 69 d_M_read_65 (by decide) ?_
        refine g_istore_n C (lv' := [(2, .int (nI (1))), (4, .int (nI (bgn (ln) (co) (bt) (sq) (nq)))), (0, .ref w), (1, .int (nI (nq))), (3, .int (nI (sq)))]) d_M_read_69 rfl (by decide) rfl ?_
        refine g_iload C d_M_read_70 1 rfl ?_
        refine n_if_eq C 91 d_M_read_72 (by decide) (by have := bgn_01 ln co bt sq nq; omega) (fun h72 => ?_) (fun h72 => ?_)
        · refine g_iinc C (lv' := [(3, .int (nI (sq + 1))), (2, .int (nI (1))), (4, .int (nI (bgn (ln) (co) (bt) (sq) (nq)))), (0, .ref w), (1, .int (nI (nq)))]) (k := 4) d_M_read_91 rfl (nI_1 _) (by decide) rfl ?_
          refine g_goto C 41 d_M_read_94 (by decide) ?_
          refine g_lv (lv' := [(0, .ref w), (1, .int (nI (nq))), (2, .int (nI (1))), (3, .int (nI (sq + 1)))]) [3, 4, 1, 0] rfl ?_
          exact ih (48 - (sq + 1)) (om_lt hn h44) (sq + 1) 1 rfl (Nat.succ_le_of_lt h44) (fun j hj q => by
      by_cases e : j = sq
      · subst e; omega
      · exact hno j (by omega) q) (Or.inr ⟨rfl, by
      rcases hsm with ⟨a9, _⟩ | ⟨_, a9⟩
      · exact ⟨sq, by omega, by have := bgn_01 ln co bt sq nq; omega⟩
      · exact a9⟩)
        · refine g_aload_n C d_M_read_75 2 rfl rfl ?_
          refine g_get C (T := FM) (N := 17) 0 3 inM rfl rfl (by decide) tw_439 rfl rfl d_M_read_76 ?_
          refine g_iload_n C d_M_read_79 4 rfl rfl ?_
          refine g_iald C 1 rfl (by omega) (by decide) d_M_read_80 ?_
          refine g_iload_n C d_M_read_81 3 rfl rfl ?_
          refine n_icmp_ne C 91 d_M_read_82 (by decide) (by have := hl sq (by omega); omega) (by omega) (fun h82 => ?_) (fun h82 => ?_)
          · refine g_iinc C (lv' := [(3, .int (nI (sq + 1))), (2, .int (nI (1))), (4, .int (nI (bgn (ln) (co) (bt) (sq) (nq)))), (0, .ref w), (1, .int (nI (nq)))]) (k := 4) d_M_read_91 rfl (nI_1 _) (by decide) rfl ?_
            refine g_goto C 41 d_M_read_94 (by decide) ?_
            refine g_lv (lv' := [(0, .ref w), (1, .int (nI (nq))), (2, .int (nI (1))), (3, .int (nI (sq + 1)))]) [3, 4, 1, 0] rfl ?_
            exact ih (48 - (sq + 1)) (om_lt hn h44) (sq + 1) 1 rfl (Nat.succ_le_of_lt h44) (fun j hj q => by
      by_cases e : j = sq
      · subst e; omega
      · exact hno j (by omega) q) (Or.inr ⟨rfl, by
      rcases hsm with ⟨a9, _⟩ | ⟨_, a9⟩
      · exact ⟨sq, by omega, by have := bgn_01 ln co bt sq nq; omega⟩
      · exact a9⟩)
          · refine g_lv (lv' := [(0, .ref w), (3, .int (nI (sq)))]) [2, 4] rfl ?_
            exact Kt sq (by omega) (by have := bgn_01 ln co bt sq nq; omega) (by omega) (fun j hj => hno j hj)
set_option maxHeartbeats 4000000 in
set_option maxRecDepth 100000 in
theorem l_M_ro {p : Program} {l : Launch} {e : Env} {s : State} {m : MethodId} {args : Array Value} {below : List Frame} {meth : Method} {c : Code} {Q : State → Prop} {A : Nat → Prop} {D : va_G} {cs : ClassId × ClassId × ClassId × ClassId} (C : CX p s m args c c_M_read 5 RM D cs A) (w w1 w2 w3 w4 w5 w6 w7 w8 w9 wa wb wd : Nat) (cd ru wt rd : Nat) (va : Int64) (ln : Nat → Nat) (rg : Nat → Nat) (lo : Nat → Int32) (ex : Nat → Int32) (bt : Nat → Nat) (co : Nat → Nat) (hl : ∀ j, j < 48 → ln j ≤ 16) (hc : ∀ j, j < 48 → co j < 2 ^ 31) (hb : ∀ j, j < 400 → bt j < 2) (hz : wt ≤ 400)
    (Kw : (∀ n, 1 ≤ n → n ≤ wt → stp ln co bt n) → GO p l e { frames := 2, cells := 0, slots := 0, locals := 47 } s m args below meth c 0 0 Q A D 5 115 [(0, .ref w)] [] [(w, .inr (4, [.int (nI (cd)), .int (nI (ru)), .ref w1, .ref w2, .ref w3, .ref w4, .ref w5, .ref w6, .int (nI (wt)), .int (nI (rd)), .long (va), .ref w7, .ref w8, .ref w9, .ref wa, .ref wb, .ref wd])), (w2, .inl (cs.1, 48, .inl (fun j => nI (ln j)))), (w3, .inl (cs.2.2.1, 48, .inl (fun j => nI (rg j)))), (w4, .inl (cs.1, 48, .inl (lo))), (w5, .inl (cs.1, 48, .inl (ex))), (w6, .inl (cs.1, 400, .inl (fun j => nI (bt j)))), (wd, .inl (cs.1, 48, .inl (fun j => nI (co j))))])
    (Kn : ∀ n : Nat, 1 ≤ n → n ≤ wt → (∀ i, 1 ≤ i → i < n → stp ln co bt i) → (∀ j, j < 48 → bgn ln co bt j n = 0) → GO p l e { frames := 2, cells := 0, slots := 0, locals := 47 } s m args below meth c 0 0 Q A D 5 101 [(0, .ref w), (1, .int (nI (n)))] [] [(w, .inr (4, [.int (nI (cd)), .int (nI (ru)), .ref w1, .ref w2, .ref w3, .ref w4, .ref w5, .ref w6, .int (nI (wt)), .int (nI (rd)), .long (va), .ref w7, .ref w8, .ref w9, .ref wa, .ref wb, .ref wd])), (w2, .inl (cs.1, 48, .inl (fun j => nI (ln j)))), (w3, .inl (cs.2.2.1, 48, .inl (fun j => nI (rg j)))), (w4, .inl (cs.1, 48, .inl (lo))), (w5, .inl (cs.1, 48, .inl (ex))), (w6, .inl (cs.1, 400, .inl (fun j => nI (bt j)))), (wd, .inl (cs.1, 48, .inl (fun j => nI (co j))))])
    (Kt : ∀ n y : Nat, 1 ≤ n → n ≤ wt → (∀ i, 1 ≤ i → i < n → stp ln co bt i) → y < 48 → bgn ln co bt y n = 1 → ln y = n → (∀ j, j < y → ¬ (bgn ln co bt j n = 1 ∧ ln j = n)) → GO p l e { frames := 2, cells := 0, slots := 0, locals := 47 } s m args below meth c 0 0 Q A D 5 85 [(0, .ref w), (3, .int (nI (y)))] [] [(w, .inr (4, [.int (nI (cd)), .int (nI (ru)), .ref w1, .ref w2, .ref w3, .ref w4, .ref w5, .ref w6, .int (nI (wt)), .int (nI (rd)), .long (va), .ref w7, .ref w8, .ref w9, .ref wa, .ref wb, .ref wd])), (w2, .inl (cs.1, 48, .inl (fun j => nI (ln j)))), (w3, .inl (cs.2.2.1, 48, .inl (fun j => nI (rg j)))), (w4, .inl (cs.1, 48, .inl (lo))), (w5, .inl (cs.1, 48, .inl (ex))), (w6, .inl (cs.1, 400, .inl (fun j => nI (bt j)))), (wd, .inl (cs.1, 48, .inl (fun j => nI (co j))))])
    : ∀ (n : Nat) (nq : Nat), 401 - nq = n → (1 ≤ nq) → (nq ≤ wt + 1) → (∀ i, 1 ≤ i → i < nq → stp ln co bt i) → GO p l e { frames := 2, cells := 0, slots := 0, locals := 47 } s m args below meth c 0 0 Q A D 5 29 [(0, .ref w), (1, .int (nI (nq)))] [] [(w, .inr (4, [.int (nI (cd)), .int (nI (ru)), .ref w1, .ref w2, .ref w3, .ref w4, .ref w5, .ref w6, .int (nI (wt)), .int (nI (rd)), .long (va), .ref w7, .ref w8, .ref w9, .ref wa, .ref wb, .ref wd])), (w2, .inl (cs.1, 48, .inl (fun j => nI (ln j)))), (w3, .inl (cs.2.2.1, 48, .inl (fun j => nI (rg j)))), (w4, .inl (cs.1, 48, .inl (lo))), (w5, .inl (cs.1, 48, .inl (ex))), (w6, .inl (cs.1, 400, .inl (fun j => nI (bt j)))), (wd, .inl (cs.1, 48, .inl (fun j => nI (co j))))] := by
  intro n
  induction n using Nat.strongRecOn with
  | _ n ih =>
  intro nq  hn h1q hnq hbe
  refine g_iload_n C d_M_read_29 1 rfl rfl ?_
  refine g_aload_n C d_M_read_30 0 rfl rfl ?_
  refine g_get C (T := FM) (N := 17) 0 8 inM rfl rfl (by decide) tw_444 rfl rfl d_M_read_31 ?_
  refine n_icmp_gt C 115 d_M_read_34 (by decide) (by omega) (by omega) (fun h34 => ?_) (fun h34 => ?_)
  · refine g_lv (lv' := [(0, .ref w)]) [0] rfl ?_
    exact Kw (fun n h1 h2 => hbe n h1 (by omega))
  · refine g_iconst C (v := nI 0) d_M_read_37 rfl ?_
    refine g_istore_n C (lv' := [(2, .int (nI (0))), (0, .ref w), (1, .int (nI (nq)))]) d_M_read_38 rfl (by decide) rfl ?_
    refine g_iconst C (v := nI 0) d_M_read_39 rfl ?_
    refine g_istore_n C (lv' := [(3, .int (nI (0))), (2, .int (nI (0))), (0, .ref w), (1, .int (nI (nq)))]) d_M_read_40 rfl (by decide) rfl ?_
    refine g_lv (lv' := [(0, .ref w), (1, .int (nI (nq))), (2, .int (nI (0))), (3, .int (nI (0)))]) [2, 3, 1, 0] rfl ?_
    refine l_M_ri C w w1 w2 w3 w4 w5 w6 w7 w8 w9 wa wb wd cd ru wt rd va ln rg lo ex bt co nq hl hc hb hz (by omega) (fun y hy h1 h2 h3 => Kt nq y h1q (by omega) hbe hy h1 h2 h3) ?_ ?_ _ 0 0 rfl (by omega) (fun j hj => absurd hj (by omega)) (Or.inl ⟨rfl, fun j hj => absurd hj (by omega)⟩)
    · intro hst
      refine g_iload_n C d_M_read_97 2 rfl rfl ?_
      refine n_if_ne C 109 d_M_read_98 (by decide) (by omega) (fun h => absurd h (by omega)) (fun _ => ?_)
      refine g_lv (lv' := [(0, .ref w), (1, .int (nI (nq)))]) [0, 1] rfl ?_
      exact Kn nq h1q (by omega) hbe hst
    · intro hst
      refine g_iload_n C d_M_read_97 2 rfl rfl ?_
      refine n_if_ne C 109 d_M_read_98 (by decide) (by omega) (fun _ => ?_) (fun h => absurd h (by omega))
      refine g_iinc C (lv' := [(1, .int (nI (nq + 1))), (0, .ref w), (2, .int (nI (1)))]) (k := 1) d_M_read_109 rfl (nI_1 _) (by decide) rfl ?_
      refine g_goto C 29 d_M_read_112 (by decide) ?_
      refine g_lv (lv' := [(0, .ref w), (1, .int (nI (nq + 1)))]) [1, 0] rfl ?_
      exact ih (401 - (nq + 1)) (by omega) (nq + 1) rfl (by omega) (by omega) (fun i h1 h2 => by
      by_cases e : i = nq
      · subst e; exact hst
      · exact hbe i h1 (by omega))
set_option maxHeartbeats 4000000 in
set_option maxRecDepth 100000 in
theorem m_M_read_w (l : Launch) (D : va_G) (cs : ClassId × ClassId × ClassId × ClassId) (w w1 w2 w3 w4 w5 w6 w7 w8 w9 wa wb wd : Nat) (cd ru wt rd : Nat) (va : Int64) (ln : Nat → Nat) (rg : Nat → Nat) (lo : Nat → Int32) (ex : Nat → Int32) (bt : Nat → Nat) (co : Nat → Nat) (hl : ∀ j, j < 48 → ln j ≤ 16) (hc : ∀ j, j < 48 → co j < 2 ^ 31) (hb : ∀ j, j < 400 → bt j < 2) (hz : wt ≤ 400) (hf : fll ln ≤ 65536) (hru : ru < 3) (co9 : Nat → Nat) (hco : co9 = (cdG (stc (ru) (shr (ln) 48)) (ln) (co) (ru) 48)) (hw : ∀ n, 1 ≤ n → n ≤ wt → stp ln co9 bt n) : MG l y_M_read k_M_read { frames := 2, cells := 0, slots := 0, locals := 47 } D cs [.ref w] [(w, .inr (4, [.int (nI (cd)), .int (nI (ru)), .ref w1, .ref w2, .ref w3, .ref w4, .ref w5, .ref w6, .int (nI (wt)), .int (nI (rd)), .long (va), .ref w7, .ref w8, .ref w9, .ref wa, .ref wb, .ref wd])), (w2, .inl (cs.1, 48, .inl (fun j => nI (ln j)))), (w3, .inl (cs.2.2.1, 48, .inl (fun j => nI (rg j)))), (w4, .inl (cs.1, 48, .inl (lo))), (w5, .inl (cs.1, 48, .inl (ex))), (w6, .inl (cs.1, 400, .inl (fun j => nI (bt j)))), (wd, .inl (cs.1, 48, .inl (fun j => nI (co j))))] (QI D ((-1)) [(w, .inr (4, [.int (nI (0)), .int (nI (ru)), .ref w1, .ref w2, .ref w3, .ref w4, .ref w5, .ref w6, .int (nI (wt)), .int (nI (rd)), .long (va), .ref w7, .ref w8, .ref w9, .ref wa, .ref wb, .ref wd])), (w2, .inl (cs.1, 48, .inl (fun j => nI (ln j)))), (w3, .inl (cs.2.2.1, 48, .inl (fun j => nI (rg j)))), (w4, .inl (cs.1, 48, .inl (lo))), (w5, .inl (cs.1, 48, .inl (ex))), (w6, .inl (cs.1, 400, .inl (fun j => nI (bt j)))), (wd, .inl (cs.1, 48, .inl (fun j => nI (co9 j))))]) := by
  refine MG.mk (own := RM) (by decide) rfl (Nat.le_of_ble_eq_true rfl) ?_
  intro p e s m below meth c A C hr hlk
  refine g_lv (lv' := [(0, .ref w)]) [0] rfl ?_
  refine g_aload_n C d_M_read_0 0 rfl rfl ?_
  refine g_aload_n C d_M_read_1 0 rfl rfl ?_
  refine g_callVi C (n := 0) (ws' := [(w, .inr (4, [.int (nI (cd)), .int (nI (ru)), .ref w1, .ref w2, .ref w3, .ref w4, .ref w5, .ref w6, .int (nI (wt)), .int (nI (rd)), .long (va), .ref w7, .ref w8, .ref w9, .ref wa, .ref wb, .ref wd])), (w2, .inl (cs.1, 48, .inl (fun j => nI (ln j)))), (w3, .inl (cs.2.2.1, 48, .inl (fun j => nI (rg j)))), (w4, .inl (cs.1, 48, .inl (lo))), (w5, .inl (cs.1, 48, .inl (ex))), (w6, .inl (cs.1, 400, .inl (fun j => nI (bt j)))), (wd, .inl (cs.1, 48, .inl (fun j => nI (co j))))]) (As := []) (rest := [.ref w]) (m_M_fill l D cs w w1 w2 w3 w4 w5 w6 w7 w8 w9 wa wb wd (cd) (ru) (wt) (rd) (va) (ln) hl) tw_525 tw_527 ts_18 tw_6 tw_528 rfl 0 rfl rfl (by decide +kernel) rfl ⟨rfl, rfl, by decide, by decide, by decide⟩ rfl [0, 1] rfl rfl (by decide) (Nat.le_of_ble_eq_true rfl) rfl d_M_read_2 ?_
  refine g_iconst C (v := nI 2) d_M_read_5 rfl ?_
  refine n_icmp_ge C 13 d_M_read_6 (by decide) (by have := stt_le (flm ln 48); omega) (by omega) (fun h => absurd h (by have := stt_ok (f := flm ln 48) (by rw [flm_fll hl]; exact hf); omega)) (fun _ => ?_)
  refine g_iconst C (v := nI 1) d_M_read_9 rfl ?_
  refine g_goto C 14 d_M_read_10 (by decide) ?_
  refine g_iconst C (v := nI 1) d_M_read_14 rfl ?_
  refine g_callVi C (n := 2) (ws' := [(w, .inr (4, [.int (nI (0)), .int (nI (ru)), .ref w1, .ref w2, .ref w3, .ref w4, .ref w5, .ref w6, .int (nI (wt)), .int (nI (rd)), .long (va), .ref w7, .ref w8, .ref w9, .ref wa, .ref wb, .ref wd])), (w2, .inl (cs.1, 48, .inl (fun j => nI (ln j)))), (w3, .inl (cs.2.2.1, 48, .inl (fun j => nI (rg j)))), (w4, .inl (cs.1, 48, .inl (lo))), (w5, .inl (cs.1, 48, .inl (ex))), (w6, .inl (cs.1, 400, .inl (fun j => nI (bt j)))), (wd, .inl (cs.1, 48, .inl (fun j => nI (co j))))]) (As := [.int (nI (1)), .int (nI (1))]) (rest := []) (m_M_fails_0 l D cs w w1 w2 w3 w4 w5 w6 w7 w8 w9 wa wb wd (cd) (ru) (wt) (rd) (va)  ) tw_501 tw_503 ts_15 tw_6 tw_504 rfl 0 rfl rfl (by decide +kernel) rfl ⟨rfl, rfl, by decide, by decide, by decide⟩ rfl [0] rfl rfl (by decide) (Nat.le_of_ble_eq_true rfl) rfl d_M_read_15 ?_
  refine n_if_eq C 23 d_M_read_18 (by decide) (by omega) (fun _ => ?_) (fun h => absurd h (by omega))
  refine g_aload_n C d_M_read_23 0 rfl rfl ?_
  refine g_callVv C (n := 0) (ws' := [(w, .inr (4, [.int (nI (0)), .int (nI (ru)), .ref w1, .ref w2, .ref w3, .ref w4, .ref w5, .ref w6, .int (nI (wt)), .int (nI (rd)), .long (va), .ref w7, .ref w8, .ref w9, .ref wa, .ref wb, .ref wd])), (w2, .inl (cs.1, 48, .inl (fun j => nI (ln j)))), (w3, .inl (cs.2.2.1, 48, .inl (fun j => nI (rg j)))), (w4, .inl (cs.1, 48, .inl (lo))), (w5, .inl (cs.1, 48, .inl (ex))), (w6, .inl (cs.1, 400, .inl (fun j => nI (bt j)))), (wd, .inl (cs.1, 48, .inl (fun j => nI ((cdG (stc (ru) (shr (ln) 48)) (ln) (co) (ru) 48) j))))]) (As := []) (rest := []) (m_M_makeCodes l D cs w w1 w2 w3 w4 w5 w6 w7 w8 w9 wa wb wd (0) (ru) (wt) (rd) (va) (ln) (co) hl hf hru) tw_542 tw_544 ts_19 tw_6 tw_545 rfl 0 rfl rfl (by decide +kernel) rfl ⟨rfl, rfl, by decide, by decide, by decide⟩ rfl [0, 1, 6] rfl rfl (by decide) (Nat.le_of_ble_eq_true rfl) rfl d_M_read_24 ?_
  refine g_iconst C (v := nI 1) d_M_read_27 rfl ?_
  refine g_istore_n C (lv' := [(1, .int (nI (1))), (0, .ref w)]) d_M_read_28 rfl (by decide) rfl ?_
  refine g_lv (lv' := [(0, .ref w), (1, .int (nI (1)))]) [1, 0] rfl ?_
  refine g_ws (ws' := [(w, .inr (4, [.int (nI (0)), .int (nI (ru)), .ref w1, .ref w2, .ref w3, .ref w4, .ref w5, .ref w6, .int (nI (wt)), .int (nI (rd)), .long (va), .ref w7, .ref w8, .ref w9, .ref wa, .ref wb, .ref wd])), (w2, .inl (cs.1, 48, .inl (fun j => nI (ln j)))), (w3, .inl (cs.2.2.1, 48, .inl (fun j => nI (rg j)))), (w4, .inl (cs.1, 48, .inl (lo))), (w5, .inl (cs.1, 48, .inl (ex))), (w6, .inl (cs.1, 400, .inl (fun j => nI (bt j)))), (wd, .inl (cs.1, 48, .inl (fun j => nI (co9 j))))]) (by rw [hco]) ?_
  have hc9 : ∀ j, j < 48 → co9 j < 2 ^ 31 := fun j hj => by rw [hco]; exact cdG_b hl hf hc hj
  refine l_M_ro C w w1 w2 w3 w4 w5 w6 w7 w8 w9 wa wb wd 0 ru wt rd va  ln rg lo ex bt co9 hl hc9 hb hz ?_ (fun n h1 h2 _ h3 => absurd (hw n h1 h2) (fun q => by obtain ⟨j, a1, a2⟩ := q.1; rw [h3 j a1] at a2; exact absurd a2 (by decide))) (fun n y h1 h2 _ h3 h4 h5 _ => absurd ⟨h4, h5⟩ ((hw n h1 h2).2 y h3)) _ 1 rfl (by omega) (by omega) (fun i h1 h2 => absurd h2 (by omega))
  intro _
  refine g_iconst C (v := (-1)) d_M_read_115 rfl ?_
  exact g_iret C hr hlk rfl rfl d_M_read_116
set_option maxHeartbeats 4000000 in
set_option maxRecDepth 100000 in
theorem m_M_read_n (l : Launch) (D : va_G) (cs : ClassId × ClassId × ClassId × ClassId) (w w1 w2 w3 w4 w5 w6 w7 w8 w9 wa wb wd : Nat) (cd ru wt rd : Nat) (va : Int64) (ln : Nat → Nat) (rg : Nat → Nat) (lo : Nat → Int32) (ex : Nat → Int32) (bt : Nat → Nat) (co : Nat → Nat) (hl : ∀ j, j < 48 → ln j ≤ 16) (hc : ∀ j, j < 48 → co j < 2 ^ 31) (hb : ∀ j, j < 400 → bt j < 2) (hz : wt ≤ 400) (hf : fll ln ≤ 65536) (hru : ru < 3) (co9 : Nat → Nat) (hco : co9 = (cdG (stc (ru) (shr (ln) 48)) (ln) (co) (ru) 48)) (kk : Nat) (h1k : 1 ≤ kk) (hkw : kk ≤ wt) (hbe : ∀ i, 1 ≤ i → i < kk → stp ln co9 bt i) (hno : ∀ j, j < 48 → bgn ln co9 bt j kk = 0) : MG l y_M_read k_M_read { frames := 2, cells := 0, slots := 0, locals := 47 } D cs [.ref w] [(w, .inr (4, [.int (nI (cd)), .int (nI (ru)), .ref w1, .ref w2, .ref w3, .ref w4, .ref w5, .ref w6, .int (nI (wt)), .int (nI (rd)), .long (va), .ref w7, .ref w8, .ref w9, .ref wa, .ref wb, .ref wd])), (w2, .inl (cs.1, 48, .inl (fun j => nI (ln j)))), (w3, .inl (cs.2.2.1, 48, .inl (fun j => nI (rg j)))), (w4, .inl (cs.1, 48, .inl (lo))), (w5, .inl (cs.1, 48, .inl (ex))), (w6, .inl (cs.1, 400, .inl (fun j => nI (bt j)))), (wd, .inl (cs.1, 48, .inl (fun j => nI (co j))))] (QI D ((-2)) [(w, .inr (4, [.int (nI (0)), .int (nI (ru)), .ref w1, .ref w2, .ref w3, .ref w4, .ref w5, .ref w6, .int (nI ((wt) - (kk))), .int (nI (rd)), .long (va), .ref w7, .ref w8, .ref w9, .ref wa, .ref wb, .ref wd])), (w2, .inl (cs.1, 48, .inl (fun j => nI (ln j)))), (w3, .inl (cs.2.2.1, 48, .inl (fun j => nI (rg j)))), (w4, .inl (cs.1, 48, .inl (lo))), (w5, .inl (cs.1, 48, .inl (ex))), (w6, .inl (cs.1, 400, .inl (fun j => nI ((drp (bt) (kk) (wt)) j)))), (wd, .inl (cs.1, 48, .inl (fun j => nI (co9 j))))]) := by
  refine MG.mk (own := RM) (by decide) rfl (Nat.le_of_ble_eq_true rfl) ?_
  intro p e s m below meth c A C hr hlk
  refine g_lv (lv' := [(0, .ref w)]) [0] rfl ?_
  refine g_aload_n C d_M_read_0 0 rfl rfl ?_
  refine g_aload_n C d_M_read_1 0 rfl rfl ?_
  refine g_callVi C (n := 0) (ws' := [(w, .inr (4, [.int (nI (cd)), .int (nI (ru)), .ref w1, .ref w2, .ref w3, .ref w4, .ref w5, .ref w6, .int (nI (wt)), .int (nI (rd)), .long (va), .ref w7, .ref w8, .ref w9, .ref wa, .ref wb, .ref wd])), (w2, .inl (cs.1, 48, .inl (fun j => nI (ln j)))), (w3, .inl (cs.2.2.1, 48, .inl (fun j => nI (rg j)))), (w4, .inl (cs.1, 48, .inl (lo))), (w5, .inl (cs.1, 48, .inl (ex))), (w6, .inl (cs.1, 400, .inl (fun j => nI (bt j)))), (wd, .inl (cs.1, 48, .inl (fun j => nI (co j))))]) (As := []) (rest := [.ref w]) (m_M_fill l D cs w w1 w2 w3 w4 w5 w6 w7 w8 w9 wa wb wd (cd) (ru) (wt) (rd) (va) (ln) hl) tw_525 tw_527 ts_18 tw_6 tw_528 rfl 0 rfl rfl (by decide +kernel) rfl ⟨rfl, rfl, by decide, by decide, by decide⟩ rfl [0, 1] rfl rfl (by decide) (Nat.le_of_ble_eq_true rfl) rfl d_M_read_2 ?_
  refine g_iconst C (v := nI 2) d_M_read_5 rfl ?_
  refine n_icmp_ge C 13 d_M_read_6 (by decide) (by have := stt_le (flm ln 48); omega) (by omega) (fun h => absurd h (by have := stt_ok (f := flm ln 48) (by rw [flm_fll hl]; exact hf); omega)) (fun _ => ?_)
  refine g_iconst C (v := nI 1) d_M_read_9 rfl ?_
  refine g_goto C 14 d_M_read_10 (by decide) ?_
  refine g_iconst C (v := nI 1) d_M_read_14 rfl ?_
  refine g_callVi C (n := 2) (ws' := [(w, .inr (4, [.int (nI (0)), .int (nI (ru)), .ref w1, .ref w2, .ref w3, .ref w4, .ref w5, .ref w6, .int (nI (wt)), .int (nI (rd)), .long (va), .ref w7, .ref w8, .ref w9, .ref wa, .ref wb, .ref wd])), (w2, .inl (cs.1, 48, .inl (fun j => nI (ln j)))), (w3, .inl (cs.2.2.1, 48, .inl (fun j => nI (rg j)))), (w4, .inl (cs.1, 48, .inl (lo))), (w5, .inl (cs.1, 48, .inl (ex))), (w6, .inl (cs.1, 400, .inl (fun j => nI (bt j)))), (wd, .inl (cs.1, 48, .inl (fun j => nI (co j))))]) (As := [.int (nI (1)), .int (nI (1))]) (rest := []) (m_M_fails_0 l D cs w w1 w2 w3 w4 w5 w6 w7 w8 w9 wa wb wd (cd) (ru) (wt) (rd) (va)  ) tw_501 tw_503 ts_15 tw_6 tw_504 rfl 0 rfl rfl (by decide +kernel) rfl ⟨rfl, rfl, by decide, by decide, by decide⟩ rfl [0] rfl rfl (by decide) (Nat.le_of_ble_eq_true rfl) rfl d_M_read_15 ?_
  refine n_if_eq C 23 d_M_read_18 (by decide) (by omega) (fun _ => ?_) (fun h => absurd h (by omega))
  refine g_aload_n C d_M_read_23 0 rfl rfl ?_
  refine g_callVv C (n := 0) (ws' := [(w, .inr (4, [.int (nI (0)), .int (nI (ru)), .ref w1, .ref w2, .ref w3, .ref w4, .ref w5, .ref w6, .int (nI (wt)), .int (nI (rd)), .long (va), .ref w7, .ref w8, .ref w9, .ref wa, .ref wb, .ref wd])), (w2, .inl (cs.1, 48, .inl (fun j => nI (ln j)))), (w3, .inl (cs.2.2.1, 48, .inl (fun j => nI (rg j)))), (w4, .inl (cs.1, 48, .inl (lo))), (w5, .inl (cs.1, 48, .inl (ex))), (w6, .inl (cs.1, 400, .inl (fun j => nI (bt j)))), (wd, .inl (cs.1, 48, .inl (fun j => nI ((cdG (stc (ru) (shr (ln) 48)) (ln) (co) (ru) 48) j))))]) (As := []) (rest := []) (m_M_makeCodes l D cs w w1 w2 w3 w4 w5 w6 w7 w8 w9 wa wb wd (0) (ru) (wt) (rd) (va) (ln) (co) hl hf hru) tw_542 tw_544 ts_19 tw_6 tw_545 rfl 0 rfl rfl (by decide +kernel) rfl ⟨rfl, rfl, by decide, by decide, by decide⟩ rfl [0, 1, 6] rfl rfl (by decide) (Nat.le_of_ble_eq_true rfl) rfl d_M_read_24 ?_
  refine g_iconst C (v := nI 1) d_M_read_27 rfl ?_
  refine g_istore_n C (lv' := [(1, .int (nI (1))), (0, .ref w)]) d_M_read_28 rfl (by decide) rfl ?_
  refine g_lv (lv' := [(0, .ref w), (1, .int (nI (1)))]) [1, 0] rfl ?_
  refine g_ws (ws' := [(w, .inr (4, [.int (nI (0)), .int (nI (ru)), .ref w1, .ref w2, .ref w3, .ref w4, .ref w5, .ref w6, .int (nI (wt)), .int (nI (rd)), .long (va), .ref w7, .ref w8, .ref w9, .ref wa, .ref wb, .ref wd])), (w2, .inl (cs.1, 48, .inl (fun j => nI (ln j)))), (w3, .inl (cs.2.2.1, 48, .inl (fun j => nI (rg j)))), (w4, .inl (cs.1, 48, .inl (lo))), (w5, .inl (cs.1, 48, .inl (ex))), (w6, .inl (cs.1, 400, .inl (fun j => nI (bt j)))), (wd, .inl (cs.1, 48, .inl (fun j => nI (co9 j))))]) (by rw [hco]) ?_
  have hc9 : ∀ j, j < 48 → co9 j < 2 ^ 31 := fun j hj => by rw [hco]; exact cdG_b hl hf hc hj
  refine l_M_ro C w w1 w2 w3 w4 w5 w6 w7 w8 w9 wa wb wd 0 ru wt rd va  ln rg lo ex bt co9 hl hc9 hb hz (fun h => absurd (h kk h1k hkw) (fun q => by obtain ⟨j, a1, a2⟩ := q.1; rw [hno j a1] at a2; exact absurd a2 (by decide))) ?_ (fun n y h1 h2 h3 h4 h5 h6 _ => by
      rcases Nat.lt_trichotomy n kk with q | q | q
      · exact absurd ⟨h5, h6⟩ ((hbe n h1 q).2 y h4)
      · subst q; rw [hno y h4] at h5; exact absurd h5 (by decide)
      · obtain ⟨j, a1, a2⟩ := (h3 kk h1k q).1; rw [hno j a1] at a2; exact absurd a2 (by decide)) _ 1 rfl (by omega) (by omega) (fun i h1 h2 => absurd h2 (by omega))
  intro n9 h1 h2 h3 h4
  obtain rfl : n9 = kk := by
    rcases Nat.lt_trichotomy n9 kk with q | q | q
    · obtain ⟨j, a1, a2⟩ := (hbe n9 h1 q).1; rw [h4 j a1] at a2; exact absurd a2 (by decide)
    · exact q
    · obtain ⟨j, a1, a2⟩ := (h3 kk h1k q).1; rw [hno j a1] at a2; exact absurd a2 (by decide)
  refine g_aload_n C d_M_read_101 0 rfl rfl ?_
  refine g_iload_n C d_M_read_102 1 rfl rfl ?_
  refine g_callVv C (n := 1) (ws' := [(w, .inr (4, [.int (nI (0)), .int (nI (ru)), .ref w1, .ref w2, .ref w3, .ref w4, .ref w5, .ref w6, .int (nI ((wt) - (n9))), .int (nI (rd)), .long (va), .ref w7, .ref w8, .ref w9, .ref wa, .ref wb, .ref wd])), (w2, .inl (cs.1, 48, .inl (fun j => nI (ln j)))), (w3, .inl (cs.2.2.1, 48, .inl (fun j => nI (rg j)))), (w4, .inl (cs.1, 48, .inl (lo))), (w5, .inl (cs.1, 48, .inl (ex))), (w6, .inl (cs.1, 400, .inl (fun j => nI ((drp (bt) (n9) (wt)) j)))), (wd, .inl (cs.1, 48, .inl (fun j => nI (co9 j))))]) (As := [.int (nI (n9))]) (rest := []) (m_M_drop l D cs w w1 w2 w3 w4 w5 w6 w7 w8 w9 wa wb wd (0) (ru) (wt) (rd) (va) (bt) (n9) (by omega) hz) tw_564 tw_566 ts_22 tw_6 tw_567 rfl 0 rfl rfl (by decide +kernel) rfl ⟨rfl, rfl, by decide, by decide, by decide⟩ rfl [0, 5] rfl rfl (by decide) (Nat.le_of_ble_eq_true rfl) rfl d_M_read_103 ?_
  refine g_bipush C (v := (-2)) d_M_read_106 rfl ?_
  exact g_iret C hr hlk rfl rfl d_M_read_108
set_option maxHeartbeats 4000000 in
set_option maxRecDepth 100000 in
theorem m_M_read_u (l : Launch) (D : va_G) (cs : ClassId × ClassId × ClassId × ClassId) (w w1 w2 w3 w4 w5 w6 w7 w8 w9 wa wb wd : Nat) (cd ru wt rd : Nat) (va : Int64) (ln : Nat → Nat) (rg : Nat → Nat) (lo : Nat → Int32) (ex : Nat → Int32) (bt : Nat → Nat) (co : Nat → Nat) (hl : ∀ j, j < 48 → ln j ≤ 16) (hc : ∀ j, j < 48 → co j < 2 ^ 31) (hb : ∀ j, j < 400 → bt j < 2) (hz : wt ≤ 400) (hf : fll ln ≤ 65536) (hru : ru < 3) (co9 : Nat → Nat) (hco : co9 = (cdG (stc (ru) (shr (ln) 48)) (ln) (co) (ru) 48)) (y : Nat) (hy : y < 48) (h1y : 1 ≤ ln y) (hyw : ln y ≤ wt) (hbe : ∀ i, 1 ≤ i → i < ln y → stp ln co9 bt i) (hby : bgn ln co9 bt y (ln y) = 1) (hle : ∀ j, j < y → ¬ (bgn ln co9 bt j (ln y) = 1 ∧ ln j = ln y)) (hg : ∀ j, j < 48 → rg j < 2) (hx : ∀ j, j < 48 → -32 ≤ (ex j).toInt ∧ (ex j).toInt ≤ 32) (hw : wt < ln y + mrm rg ex y) : MG l y_M_read k_M_read { frames := 2, cells := 0, slots := 0, locals := 47 } D cs [.ref w] [(w, .inr (4, [.int (nI (cd)), .int (nI (ru)), .ref w1, .ref w2, .ref w3, .ref w4, .ref w5, .ref w6, .int (nI (wt)), .int (nI (rd)), .long (va), .ref w7, .ref w8, .ref w9, .ref wa, .ref wb, .ref wd])), (w2, .inl (cs.1, 48, .inl (fun j => nI (ln j)))), (w3, .inl (cs.2.2.1, 48, .inl (fun j => nI (rg j)))), (w4, .inl (cs.1, 48, .inl (lo))), (w5, .inl (cs.1, 48, .inl (ex))), (w6, .inl (cs.1, 400, .inl (fun j => nI (bt j)))), (wd, .inl (cs.1, 48, .inl (fun j => nI (co j))))] (QI D ((-1)) [(w, .inr (4, [.int (nI (0)), .int (nI (ru)), .ref w1, .ref w2, .ref w3, .ref w4, .ref w5, .ref w6, .int (nI (wt)), .int (nI (rd)), .long (va), .ref w7, .ref w8, .ref w9, .ref wa, .ref wb, .ref wd])), (w2, .inl (cs.1, 48, .inl (fun j => nI (ln j)))), (w3, .inl (cs.2.2.1, 48, .inl (fun j => nI (rg j)))), (w4, .inl (cs.1, 48, .inl (lo))), (w5, .inl (cs.1, 48, .inl (ex))), (w6, .inl (cs.1, 400, .inl (fun j => nI (bt j)))), (wd, .inl (cs.1, 48, .inl (fun j => nI (co9 j))))]) := by
  refine MG.mk (own := RM) (by decide) rfl (Nat.le_of_ble_eq_true rfl) ?_
  intro p e s m below meth c A C hr hlk
  refine g_lv (lv' := [(0, .ref w)]) [0] rfl ?_
  refine g_aload_n C d_M_read_0 0 rfl rfl ?_
  refine g_aload_n C d_M_read_1 0 rfl rfl ?_
  refine g_callVi C (n := 0) (ws' := [(w, .inr (4, [.int (nI (cd)), .int (nI (ru)), .ref w1, .ref w2, .ref w3, .ref w4, .ref w5, .ref w6, .int (nI (wt)), .int (nI (rd)), .long (va), .ref w7, .ref w8, .ref w9, .ref wa, .ref wb, .ref wd])), (w2, .inl (cs.1, 48, .inl (fun j => nI (ln j)))), (w3, .inl (cs.2.2.1, 48, .inl (fun j => nI (rg j)))), (w4, .inl (cs.1, 48, .inl (lo))), (w5, .inl (cs.1, 48, .inl (ex))), (w6, .inl (cs.1, 400, .inl (fun j => nI (bt j)))), (wd, .inl (cs.1, 48, .inl (fun j => nI (co j))))]) (As := []) (rest := [.ref w]) (m_M_fill l D cs w w1 w2 w3 w4 w5 w6 w7 w8 w9 wa wb wd (cd) (ru) (wt) (rd) (va) (ln) hl) tw_525 tw_527 ts_18 tw_6 tw_528 rfl 0 rfl rfl (by decide +kernel) rfl ⟨rfl, rfl, by decide, by decide, by decide⟩ rfl [0, 1] rfl rfl (by decide) (Nat.le_of_ble_eq_true rfl) rfl d_M_read_2 ?_
  refine g_iconst C (v := nI 2) d_M_read_5 rfl ?_
  refine n_icmp_ge C 13 d_M_read_6 (by decide) (by have := stt_le (flm ln 48); omega) (by omega) (fun h => absurd h (by have := stt_ok (f := flm ln 48) (by rw [flm_fll hl]; exact hf); omega)) (fun _ => ?_)
  refine g_iconst C (v := nI 1) d_M_read_9 rfl ?_
  refine g_goto C 14 d_M_read_10 (by decide) ?_
  refine g_iconst C (v := nI 1) d_M_read_14 rfl ?_
  refine g_callVi C (n := 2) (ws' := [(w, .inr (4, [.int (nI (0)), .int (nI (ru)), .ref w1, .ref w2, .ref w3, .ref w4, .ref w5, .ref w6, .int (nI (wt)), .int (nI (rd)), .long (va), .ref w7, .ref w8, .ref w9, .ref wa, .ref wb, .ref wd])), (w2, .inl (cs.1, 48, .inl (fun j => nI (ln j)))), (w3, .inl (cs.2.2.1, 48, .inl (fun j => nI (rg j)))), (w4, .inl (cs.1, 48, .inl (lo))), (w5, .inl (cs.1, 48, .inl (ex))), (w6, .inl (cs.1, 400, .inl (fun j => nI (bt j)))), (wd, .inl (cs.1, 48, .inl (fun j => nI (co j))))]) (As := [.int (nI (1)), .int (nI (1))]) (rest := []) (m_M_fails_0 l D cs w w1 w2 w3 w4 w5 w6 w7 w8 w9 wa wb wd (cd) (ru) (wt) (rd) (va)  ) tw_501 tw_503 ts_15 tw_6 tw_504 rfl 0 rfl rfl (by decide +kernel) rfl ⟨rfl, rfl, by decide, by decide, by decide⟩ rfl [0] rfl rfl (by decide) (Nat.le_of_ble_eq_true rfl) rfl d_M_read_15 ?_
  refine n_if_eq C 23 d_M_read_18 (by decide) (by omega) (fun _ => ?_) (fun h => absurd h (by omega))
  refine g_aload_n C d_M_read_23 0 rfl rfl ?_
  refine g_callVv C (n := 0) (ws' := [(w, .inr (4, [.int (nI (0)), .int (nI (ru)), .ref w1, .ref w2, .ref w3, .ref w4, .ref w5, .ref w6, .int (nI (wt)), .int (nI (rd)), .long (va), .ref w7, .ref w8, .ref w9, .ref wa, .ref wb, .ref wd])), (w2, .inl (cs.1, 48, .inl (fun j => nI (ln j)))), (w3, .inl (cs.2.2.1, 48, .inl (fun j => nI (rg j)))), (w4, .inl (cs.1, 48, .inl (lo))), (w5, .inl (cs.1, 48, .inl (ex))), (w6, .inl (cs.1, 400, .inl (fun j => nI (bt j)))), (wd, .inl (cs.1, 48, .inl (fun j => nI ((cdG (stc (ru) (shr (ln) 48)) (ln) (co) (ru) 48) j))))]) (As := []) (rest := []) (m_M_makeCodes l D cs w w1 w2 w3 w4 w5 w6 w7 w8 w9 wa wb wd (0) (ru) (wt) (rd) (va) (ln) (co) hl hf hru) tw_542 tw_544 ts_19 tw_6 tw_545 rfl 0 rfl rfl (by decide +kernel) rfl ⟨rfl, rfl, by decide, by decide, by decide⟩ rfl [0, 1, 6] rfl rfl (by decide) (Nat.le_of_ble_eq_true rfl) rfl d_M_read_24 ?_
  refine g_iconst C (v := nI 1) d_M_read_27 rfl ?_
  refine g_istore_n C (lv' := [(1, .int (nI (1))), (0, .ref w)]) d_M_read_28 rfl (by decide) rfl ?_
  refine g_lv (lv' := [(0, .ref w), (1, .int (nI (1)))]) [1, 0] rfl ?_
  refine g_ws (ws' := [(w, .inr (4, [.int (nI (0)), .int (nI (ru)), .ref w1, .ref w2, .ref w3, .ref w4, .ref w5, .ref w6, .int (nI (wt)), .int (nI (rd)), .long (va), .ref w7, .ref w8, .ref w9, .ref wa, .ref wb, .ref wd])), (w2, .inl (cs.1, 48, .inl (fun j => nI (ln j)))), (w3, .inl (cs.2.2.1, 48, .inl (fun j => nI (rg j)))), (w4, .inl (cs.1, 48, .inl (lo))), (w5, .inl (cs.1, 48, .inl (ex))), (w6, .inl (cs.1, 400, .inl (fun j => nI (bt j)))), (wd, .inl (cs.1, 48, .inl (fun j => nI (co9 j))))]) (by rw [hco]) ?_
  have hc9 : ∀ j, j < 48 → co9 j < 2 ^ 31 := fun j hj => by rw [hco]; exact cdG_b hl hf hc hj
  refine l_M_ro C w w1 w2 w3 w4 w5 w6 w7 w8 w9 wa wb wd 0 ru wt rd va  ln rg lo ex bt co9 hl hc9 hb hz (fun h => absurd ⟨hby, rfl⟩ ((h (ln y) h1y hyw).2 y hy)) (fun n h1 h2 h3 h4 => by
      rcases Nat.lt_trichotomy n (ln y) with q | q | q
      · obtain ⟨j, a1, a2⟩ := (hbe n h1 q).1; rw [h4 j a1] at a2; exact absurd a2 (by decide)
      · rw [q] at h4; rw [h4 y hy] at hby; exact absurd hby (by decide)
      · exact absurd ⟨hby, rfl⟩ ((h3 (ln y) h1y q).2 y hy)) ?_ _ 1 rfl (by omega) (by omega) (fun i h1 h2 => absurd h2 (by omega))
  intro n9 y9 h1 h2 h3 h4 h5 h6 h7
  have e7 : n9 = ln y := by
    rcases Nat.lt_trichotomy n9 (ln y) with q | q | q
    · exact absurd ⟨h5, h6⟩ ((hbe n9 h1 q).2 y9 h4)
    · exact q
    · exact absurd ⟨hby, rfl⟩ ((h3 (ln y) h1y q).2 y hy)
  obtain rfl : y9 = y := by
    rcases Nat.lt_trichotomy y9 y with q | q | q
    · exact absurd ⟨e7 ▸ h5, e7 ▸ h6⟩ (hle y9 q)
    · exact q
    · exact absurd ⟨e7 ▸ hby, e7.symm⟩ (h7 y q)
  refine g_aload_n C d_M_read_85 0 rfl rfl ?_
  refine g_iload_n C d_M_read_86 1 rfl rfl ?_
  refine g_callVi C (n := 1) (ws' := [(w, .inr (4, [.int (nI (0)), .int (nI (ru)), .ref w1, .ref w2, .ref w3, .ref w4, .ref w5, .ref w6, .int (nI (wt)), .int (nI (rd)), .long (va), .ref w7, .ref w8, .ref w9, .ref wa, .ref wb, .ref wd])), (w2, .inl (cs.1, 48, .inl (fun j => nI (ln j)))), (w3, .inl (cs.2.2.1, 48, .inl (fun j => nI (rg j)))), (w4, .inl (cs.1, 48, .inl (lo))), (w5, .inl (cs.1, 48, .inl (ex))), (w6, .inl (cs.1, 400, .inl (fun j => nI (bt j)))), (wd, .inl (cs.1, 48, .inl (fun j => nI (co9 j))))]) (As := [.int (nI (y9))]) (rest := []) (m_M_take_w l D cs w w1 w2 w3 w4 w5 w6 w7 w8 w9 wa wb wd (0) (ru) (wt) (rd) (va) (ln) (rg) (lo) (ex) (bt) (y9) hy hl hg hx hz hb hw) tw_559 tw_561 ts_21 tw_6 tw_562 rfl 0 rfl rfl (by decide +kernel) rfl ⟨rfl, rfl, by decide, by decide, by decide⟩ rfl [0, 1, 2, 3, 4, 5] rfl rfl (by decide) (Nat.le_of_ble_eq_true rfl) rfl d_M_read_87 ?_
  exact g_iret C hr hlk rfl rfl d_M_read_90
set_option maxHeartbeats 4000000 in
set_option maxRecDepth 100000 in
theorem m_M_read_t (l : Launch) (D : va_G) (cs : ClassId × ClassId × ClassId × ClassId) (w w1 w2 w3 w4 w5 w6 w7 w8 w9 wa wb wd : Nat) (cd ru wt rd : Nat) (va : Int64) (ln : Nat → Nat) (rg : Nat → Nat) (lo : Nat → Int32) (ex : Nat → Int32) (bt : Nat → Nat) (co : Nat → Nat) (hl : ∀ j, j < 48 → ln j ≤ 16) (hc : ∀ j, j < 48 → co j < 2 ^ 31) (hb : ∀ j, j < 400 → bt j < 2) (hz : wt ≤ 400) (hf : fll ln ≤ 65536) (hru : ru < 3) (co9 : Nat → Nat) (hco : co9 = (cdG (stc (ru) (shr (ln) 48)) (ln) (co) (ru) 48)) (y : Nat) (hy : y < 48) (h1y : 1 ≤ ln y) (hyw : ln y ≤ wt) (hbe : ∀ i, 1 ≤ i → i < ln y → stp ln co9 bt i) (hby : bgn ln co9 bt y (ln y) = 1) (hle : ∀ j, j < y → ¬ (bgn ln co9 bt j (ln y) = 1 ∧ ln j = ln y)) (hg : ∀ j, j < 48 → rg j < 2) (hx : ∀ j, j < 48 → -32 ≤ (ex j).toInt ∧ (ex j).toInt ≤ 32) (hw : ln y + mrm rg ex y ≤ wt) : MG l y_M_read k_M_read { frames := 2, cells := 0, slots := 0, locals := 47 } D cs [.ref w] [(w, .inr (4, [.int (nI (cd)), .int (nI (ru)), .ref w1, .ref w2, .ref w3, .ref w4, .ref w5, .ref w6, .int (nI (wt)), .int (nI (rd)), .long (va), .ref w7, .ref w8, .ref w9, .ref wa, .ref wb, .ref wd])), (w2, .inl (cs.1, 48, .inl (fun j => nI (ln j)))), (w3, .inl (cs.2.2.1, 48, .inl (fun j => nI (rg j)))), (w4, .inl (cs.1, 48, .inl (lo))), (w5, .inl (cs.1, 48, .inl (ex))), (w6, .inl (cs.1, 400, .inl (fun j => nI (bt j)))), (wd, .inl (cs.1, 48, .inl (fun j => nI (co j))))] (QI D (nI (y)) [(w, .inr (4, [.int (nI (0)), .int (nI (ru)), .ref w1, .ref w2, .ref w3, .ref w4, .ref w5, .ref w6, .int (nI ((wt) - (ln (y) + (mrm rg ex y)))), .int (nI (1)), .long ((vlm rg lo ex y (nmm bt (ln y) (mrm rg ex y)))), .ref w7, .ref w8, .ref w9, .ref wa, .ref wb, .ref wd])), (w2, .inl (cs.1, 48, .inl (fun j => nI (ln j)))), (w3, .inl (cs.2.2.1, 48, .inl (fun j => nI (rg j)))), (w4, .inl (cs.1, 48, .inl (lo))), (w5, .inl (cs.1, 48, .inl (ex))), (w6, .inl (cs.1, 400, .inl (fun j => nI ((drp (bt) (ln (y) + (mrm rg ex y)) (wt)) j)))), (wd, .inl (cs.1, 48, .inl (fun j => nI (co9 j))))]) := by
  refine MG.mk (own := RM) (by decide) rfl (Nat.le_of_ble_eq_true rfl) ?_
  intro p e s m below meth c A C hr hlk
  refine g_lv (lv' := [(0, .ref w)]) [0] rfl ?_
  refine g_aload_n C d_M_read_0 0 rfl rfl ?_
  refine g_aload_n C d_M_read_1 0 rfl rfl ?_
  refine g_callVi C (n := 0) (ws' := [(w, .inr (4, [.int (nI (cd)), .int (nI (ru)), .ref w1, .ref w2, .ref w3, .ref w4, .ref w5, .ref w6, .int (nI (wt)), .int (nI (rd)), .long (va), .ref w7, .ref w8, .ref w9, .ref wa, .ref wb, .ref wd])), (w2, .inl (cs.1, 48, .inl (fun j => nI (ln j)))), (w3, .inl (cs.2.2.1, 48, .inl (fun j => nI (rg j)))), (w4, .inl (cs.1, 48, .inl (lo))), (w5, .inl (cs.1, 48, .inl (ex))), (w6, .inl (cs.1, 400, .inl (fun j => nI (bt j)))), (wd, .inl (cs.1, 48, .inl (fun j => nI (co j))))]) (As := []) (rest := [.ref w]) (m_M_fill l D cs w w1 w2 w3 w4 w5 w6 w7 w8 w9 wa wb wd (cd) (ru) (wt) (rd) (va) (ln) hl) tw_525 tw_527 ts_18 tw_6 tw_528 rfl 0 rfl rfl (by decide +kernel) rfl ⟨rfl, rfl, by decide, by decide, by decide⟩ rfl [0, 1] rfl rfl (by decide) (Nat.le_of_ble_eq_true rfl) rfl d_M_read_2 ?_
  refine g_iconst C (v := nI 2) d_M_read_5 rfl ?_
  refine n_icmp_ge C 13 d_M_read_6 (by decide) (by have := stt_le (flm ln 48); omega) (by omega) (fun h => absurd h (by have := stt_ok (f := flm ln 48) (by rw [flm_fll hl]; exact hf); omega)) (fun _ => ?_)
  refine g_iconst C (v := nI 1) d_M_read_9 rfl ?_
  refine g_goto C 14 d_M_read_10 (by decide) ?_
  refine g_iconst C (v := nI 1) d_M_read_14 rfl ?_
  refine g_callVi C (n := 2) (ws' := [(w, .inr (4, [.int (nI (0)), .int (nI (ru)), .ref w1, .ref w2, .ref w3, .ref w4, .ref w5, .ref w6, .int (nI (wt)), .int (nI (rd)), .long (va), .ref w7, .ref w8, .ref w9, .ref wa, .ref wb, .ref wd])), (w2, .inl (cs.1, 48, .inl (fun j => nI (ln j)))), (w3, .inl (cs.2.2.1, 48, .inl (fun j => nI (rg j)))), (w4, .inl (cs.1, 48, .inl (lo))), (w5, .inl (cs.1, 48, .inl (ex))), (w6, .inl (cs.1, 400, .inl (fun j => nI (bt j)))), (wd, .inl (cs.1, 48, .inl (fun j => nI (co j))))]) (As := [.int (nI (1)), .int (nI (1))]) (rest := []) (m_M_fails_0 l D cs w w1 w2 w3 w4 w5 w6 w7 w8 w9 wa wb wd (cd) (ru) (wt) (rd) (va)  ) tw_501 tw_503 ts_15 tw_6 tw_504 rfl 0 rfl rfl (by decide +kernel) rfl ⟨rfl, rfl, by decide, by decide, by decide⟩ rfl [0] rfl rfl (by decide) (Nat.le_of_ble_eq_true rfl) rfl d_M_read_15 ?_
  refine n_if_eq C 23 d_M_read_18 (by decide) (by omega) (fun _ => ?_) (fun h => absurd h (by omega))
  refine g_aload_n C d_M_read_23 0 rfl rfl ?_
  refine g_callVv C (n := 0) (ws' := [(w, .inr (4, [.int (nI (0)), .int (nI (ru)), .ref w1, .ref w2, .ref w3, .ref w4, .ref w5, .ref w6, .int (nI (wt)), .int (nI (rd)), .long (va), .ref w7, .ref w8, .ref w9, .ref wa, .ref wb, .ref wd])), (w2, .inl (cs.1, 48, .inl (fun j => nI (ln j)))), (w3, .inl (cs.2.2.1, 48, .inl (fun j => nI (rg j)))), (w4, .inl (cs.1, 48, .inl (lo))), (w5, .inl (cs.1, 48, .inl (ex))), (w6, .inl (cs.1, 400, .inl (fun j => nI (bt j)))), (wd, .inl (cs.1, 48, .inl (fun j => nI ((cdG (stc (ru) (shr (ln) 48)) (ln) (co) (ru) 48) j))))]) (As := []) (rest := []) (m_M_makeCodes l D cs w w1 w2 w3 w4 w5 w6 w7 w8 w9 wa wb wd (0) (ru) (wt) (rd) (va) (ln) (co) hl hf hru) tw_542 tw_544 ts_19 tw_6 tw_545 rfl 0 rfl rfl (by decide +kernel) rfl ⟨rfl, rfl, by decide, by decide, by decide⟩ rfl [0, 1, 6] rfl rfl (by decide) (Nat.le_of_ble_eq_true rfl) rfl d_M_read_24 ?_
  refine g_iconst C (v := nI 1) d_M_read_27 rfl ?_
  refine g_istore_n C (lv' := [(1, .int (nI (1))), (0, .ref w)]) d_M_read_28 rfl (by decide) rfl ?_
  refine g_lv (lv' := [(0, .ref w), (1, .int (nI (1)))]) [1, 0] rfl ?_
  refine g_ws (ws' := [(w, .inr (4, [.int (nI (0)), .int (nI (ru)), .ref w1, .ref w2, .ref w3, .ref w4, .ref w5, .ref w6, .int (nI (wt)), .int (nI (rd)), .long (va), .ref w7, .ref w8, .ref w9, .ref wa, .ref wb, .ref wd])), (w2, .inl (cs.1, 48, .inl (fun j => nI (ln j)))), (w3, .inl (cs.2.2.1, 48, .inl (fun j => nI (rg j)))), (w4, .inl (cs.1, 48, .inl (lo))), (w5, .inl (cs.1, 48, .inl (ex))), (w6, .inl (cs.1, 400, .inl (fun j => nI (bt j)))), (wd, .inl (cs.1, 48, .inl (fun j => nI (co9 j))))]) (by rw [hco]) ?_
  have hc9 : ∀ j, j < 48 → co9 j < 2 ^ 31 := fun j hj => by rw [hco]; exact cdG_b hl hf hc hj
  refine l_M_ro C w w1 w2 w3 w4 w5 w6 w7 w8 w9 wa wb wd 0 ru wt rd va  ln rg lo ex bt co9 hl hc9 hb hz (fun h => absurd ⟨hby, rfl⟩ ((h (ln y) h1y hyw).2 y hy)) (fun n h1 h2 h3 h4 => by
      rcases Nat.lt_trichotomy n (ln y) with q | q | q
      · obtain ⟨j, a1, a2⟩ := (hbe n h1 q).1; rw [h4 j a1] at a2; exact absurd a2 (by decide)
      · rw [q] at h4; rw [h4 y hy] at hby; exact absurd hby (by decide)
      · exact absurd ⟨hby, rfl⟩ ((h3 (ln y) h1y q).2 y hy)) ?_ _ 1 rfl (by omega) (by omega) (fun i h1 h2 => absurd h2 (by omega))
  intro n9 y9 h1 h2 h3 h4 h5 h6 h7
  have e7 : n9 = ln y := by
    rcases Nat.lt_trichotomy n9 (ln y) with q | q | q
    · exact absurd ⟨h5, h6⟩ ((hbe n9 h1 q).2 y9 h4)
    · exact q
    · exact absurd ⟨hby, rfl⟩ ((h3 (ln y) h1y q).2 y hy)
  obtain rfl : y9 = y := by
    rcases Nat.lt_trichotomy y9 y with q | q | q
    · exact absurd ⟨e7 ▸ h5, e7 ▸ h6⟩ (hle y9 q)
    · exact q
    · exact absurd ⟨e7 ▸ hby, e7.symm⟩ (h7 y q)
  refine g_aload_n C d_M_read_85 0 rfl rfl ?_
  refine g_iload_n C d_M_read_86 1 rfl rfl ?_
  refine g_callVi C (n := 1) (ws' := [(w, .inr (4, [.int (nI (0)), .int (nI (ru)), .ref w1, .ref w2, .ref w3, .ref w4, .ref w5, .ref w6, .int (nI ((wt) - (ln (y9) + (mrm rg ex y9)))), .int (nI (1)), .long ((vlm rg lo ex y9 (nmm bt (ln y9) (mrm rg ex y9)))), .ref w7, .ref w8, .ref w9, .ref wa, .ref wb, .ref wd])), (w2, .inl (cs.1, 48, .inl (fun j => nI (ln j)))), (w3, .inl (cs.2.2.1, 48, .inl (fun j => nI (rg j)))), (w4, .inl (cs.1, 48, .inl (lo))), (w5, .inl (cs.1, 48, .inl (ex))), (w6, .inl (cs.1, 400, .inl (fun j => nI ((drp (bt) (ln (y9) + (mrm rg ex y9)) (wt)) j)))), (wd, .inl (cs.1, 48, .inl (fun j => nI (co9 j))))]) (As := [.int (nI (y9))]) (rest := []) (m_M_take_t l D cs w w1 w2 w3 w4 w5 w6 w7 w8 w9 wa wb wd (0) (ru) (wt) (rd) (va) (ln) (rg) (lo) (ex) (bt) (y9) hy hl hg hx hz hb hw) tw_559 tw_561 ts_21 tw_6 tw_562 rfl 0 rfl rfl (by decide +kernel) rfl ⟨rfl, rfl, by decide, by decide, by decide⟩ rfl [0, 1, 2, 3, 4, 5] rfl rfl (by decide) (Nat.le_of_ble_eq_true rfl) rfl d_M_read_87 ?_
  exact g_iret C hr hlk rfl rfl d_M_read_90
set_option maxHeartbeats 4000000 in
set_option maxRecDepth 100000 in
theorem m_M_read_1 (l : Launch) (D : va_G) (cs : ClassId × ClassId × ClassId × ClassId) (w w1 w2 w3 w4 w5 w6 w7 w8 w9 wa wb wd : Nat) (cd ru wt rd : Nat) (va : Int64) (ln : Nat → Nat) (rg : Nat → Nat) (lo : Nat → Int32) (ex : Nat → Int32) (bt : Nat → Nat) (co : Nat → Nat) (hl : ∀ j, j < 48 → ln j ≤ 16) (hf : 65536 < fll ln) : MG l y_M_read k_M_read { frames := 2, cells := 0, slots := 0, locals := 47 } D cs [.ref w] [(w, .inr (4, [.int (nI (cd)), .int (nI (ru)), .ref w1, .ref w2, .ref w3, .ref w4, .ref w5, .ref w6, .int (nI (wt)), .int (nI (rd)), .long (va), .ref w7, .ref w8, .ref w9, .ref wa, .ref wb, .ref wd])), (w2, .inl (cs.1, 48, .inl (fun j => nI (ln j)))), (w3, .inl (cs.2.2.1, 48, .inl (fun j => nI (rg j)))), (w4, .inl (cs.1, 48, .inl (lo))), (w5, .inl (cs.1, 48, .inl (ex))), (w6, .inl (cs.1, 400, .inl (fun j => nI (bt j)))), (wd, .inl (cs.1, 48, .inl (fun j => nI (co j))))] (QI D (nI (0)) [(w, .inr (4, [.int (nI (1)), .int (nI (ru)), .ref w1, .ref w2, .ref w3, .ref w4, .ref w5, .ref w6, .int (nI (wt)), .int (nI (rd)), .long (va), .ref w7, .ref w8, .ref w9, .ref wa, .ref wb, .ref wd])), (w2, .inl (cs.1, 48, .inl (fun j => nI (ln j)))), (w3, .inl (cs.2.2.1, 48, .inl (fun j => nI (rg j)))), (w4, .inl (cs.1, 48, .inl (lo))), (w5, .inl (cs.1, 48, .inl (ex))), (w6, .inl (cs.1, 400, .inl (fun j => nI (bt j)))), (wd, .inl (cs.1, 48, .inl (fun j => nI (co j))))]) := by
  refine MG.mk (own := RM) (by decide) rfl (Nat.le_of_ble_eq_true rfl) ?_
  intro p e s m below meth c A C hr hlk
  refine g_lv (lv' := [(0, .ref w)]) [0] rfl ?_
  refine g_aload_n C d_M_read_0 0 rfl rfl ?_
  refine g_aload_n C d_M_read_1 0 rfl rfl ?_
  refine g_callVi C (n := 0) (ws' := [(w, .inr (4, [.int (nI (cd)), .int (nI (ru)), .ref w1, .ref w2, .ref w3, .ref w4, .ref w5, .ref w6, .int (nI (wt)), .int (nI (rd)), .long (va), .ref w7, .ref w8, .ref w9, .ref wa, .ref wb, .ref wd])), (w2, .inl (cs.1, 48, .inl (fun j => nI (ln j)))), (w3, .inl (cs.2.2.1, 48, .inl (fun j => nI (rg j)))), (w4, .inl (cs.1, 48, .inl (lo))), (w5, .inl (cs.1, 48, .inl (ex))), (w6, .inl (cs.1, 400, .inl (fun j => nI (bt j)))), (wd, .inl (cs.1, 48, .inl (fun j => nI (co j))))]) (As := []) (rest := [.ref w]) (m_M_fill l D cs w w1 w2 w3 w4 w5 w6 w7 w8 w9 wa wb wd (cd) (ru) (wt) (rd) (va) (ln) hl) tw_525 tw_527 ts_18 tw_6 tw_528 rfl 0 rfl rfl (by decide +kernel) rfl ⟨rfl, rfl, by decide, by decide, by decide⟩ rfl [0, 1] rfl rfl (by decide) (Nat.le_of_ble_eq_true rfl) rfl d_M_read_2 ?_
  refine g_iconst C (v := nI 2) d_M_read_5 rfl ?_
  refine n_icmp_ge C 13 d_M_read_6 (by decide) (by have := stt_le (flm ln 48); omega) (by omega) (fun _ => ?_) (fun h => absurd h (by have := stt_full (f := flm ln 48) (by rw [flm_fll hl]; exact hf); omega))
  refine g_iconst C (v := nI 0) d_M_read_13 rfl ?_
  refine g_iconst C (v := nI 1) d_M_read_14 rfl ?_
  refine g_callVi C (n := 2) (ws' := [(w, .inr (4, [.int (nI (1)), .int (nI (ru)), .ref w1, .ref w2, .ref w3, .ref w4, .ref w5, .ref w6, .int (nI (wt)), .int (nI (rd)), .long (va), .ref w7, .ref w8, .ref w9, .ref wa, .ref wb, .ref wd])), (w2, .inl (cs.1, 48, .inl (fun j => nI (ln j)))), (w3, .inl (cs.2.2.1, 48, .inl (fun j => nI (rg j)))), (w4, .inl (cs.1, 48, .inl (lo))), (w5, .inl (cs.1, 48, .inl (ex))), (w6, .inl (cs.1, 400, .inl (fun j => nI (bt j)))), (wd, .inl (cs.1, 48, .inl (fun j => nI (co j))))]) (As := [.int (nI (0)), .int (nI (1))]) (rest := []) (m_M_fails_1 l D cs w w1 w2 w3 w4 w5 w6 w7 w8 w9 wa wb wd (cd) (ru) (wt) (rd) (va)  (1)) tw_501 tw_503 ts_15 tw_6 tw_504 rfl 0 rfl rfl (by decide +kernel) rfl ⟨rfl, rfl, by decide, by decide, by decide⟩ rfl [0] rfl rfl (by decide) (Nat.le_of_ble_eq_true rfl) rfl d_M_read_15 ?_
  refine n_if_eq C 23 d_M_read_18 (by decide) (by omega) (fun h => absurd h (by omega)) (fun _ => ?_)
  refine g_iconst C (v := nI 0) d_M_read_21 rfl ?_
  exact g_iret C hr hlk rfl rfl d_M_read_22
