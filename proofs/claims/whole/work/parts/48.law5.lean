/-- the making's own things, in the law's world -/
abbrev KW (cs : ClassId × ClassId × ClassId × ClassId) (k ko kp kr ks r1 r2 rs cd : Nat) (ra od rv sv : Nat → Nat) : va_W :=
  [(k, .inr (0, [.ref ko, .ref kp, .ref r1, .ref r2, .int (nI (rs)), .int (nI (cd))])), (ko, .inl (cs.1, 48, .inl (fun j => nI (od j)))), (kp, .inl (cs.2.2.2, 16, .inr (.inr (.inr (.inr (fun i => some (ra i))))))), (kr, .inl (cs.2.1, 96, .inr (.inl (fun j => lN (rv j))))), (ks, .inl (cs.2.1, 96, .inr (.inl (fun j => lN (sv j)))))]
theorem wUpd_len : ∀ (isX : List Nat) (X Xc : va_W), (wUpd X isX Xc).length = X.length
  | [], X, Xc => by cases Xc <;> rfl
  | i :: is, X, [] => rfl
  | i :: is, X, c :: cs => by
    show (wUpd (X.set i c) is cs).length = _
    rw [wUpd_len is, List.length_set]
theorem wUpd_tail2 {X Xc' T T' : va_W} {isX J : List Nat} {n : Nat} (hX : X.length = n) (hlt : isX.all (fun i => decide (i < n)) = true) (hlen : isX.length = Xc'.length) (hJ : J = (List.range T.length).map (fun i => n + i)) (hT : T'.length = T.length) : wUpd (X ++ T) (isX ++ J) (Xc' ++ T') = wUpd X isX Xc' ++ T' := by
  subst hX
  rw [wUpd_app _ _ _ _ _ hlen, wUpd_left isX X Xc' T (fun i hi => by have := List.all_eq_true.mp hlt i hi; simpa using this)]
  have h := wUpd_right T' (wUpd X isX Xc') T 0 (by omega)
  rw [List.take_zero, List.append_nil, hT, wUpd_len] at h
  rw [hJ]
  exact h
section GSUB
variable {p : Program} {l : Launch} {e : Env} {R : Room} {s : State} {m : MethodId} {args : Array Value} {below : List Frame} {meth : Method} {c : Code} {cells slots : Nat} {Q : State → Prop} {A : Nat → Prop} {D : va_G} {nL : Nat} {cc : ByteArray} {own : String} {cs : ClassId × ClassId × ClassId × ClassId}
variable {pc : Nat} {lv lv' : List (Nat × Value)} {st : List Value} {ws ws' : va_W}

theorem g_sub (isC : List Nat) (hC : isC.map (fun i => ws[i]?) = ws'.map some) (hnd : va_nd isC = true) (g : GO p l e R s m args below meth c cells slots Q A D nL pc lv st ws') : GO p l e R s m args below meth c cells slots Q A D nL pc lv st ws := by
  intro H locs ls hP hD hS hl
  refine g H locs ls (hP.sub isC (by
    have e9 : isC.filterMap (fun i => ws[i]?) = (isC.map (fun i => ws[i]?)).filterMap id := by rw [List.filterMap_map]; rfl
    rw [e9, hC, List.filterMap_map]; simp)) (hD.sub isC hnd hC) hS hl
end GSUB
set_option maxHeartbeats 4000000 in
set_option maxRecDepth 100000 in
theorem r_make_n {p : Program} {l : Launch} {e : Env} {s : State} {m : MethodId} {args : Array Value} {below : List Frame} {meth : Method} {c : Code} {cells slots : Nat} {Q : State → Prop} {A : Nat → Prop} {D : va_G} {cs : ClassId × ClassId × ClassId × ClassId} (C : CX p s m args c code 8 RL D cs A) (b k bc bl bx a al ac ah an g gr : Nat) (ct : Nat → Nat) (lo ex : Nat → Int32) (wr : Nat) (lv9 : Int64) (rl : Nat) (ln cn sn xn : Nat → Nat) (fl : Nat) (rb : Nat → Nat) (st sz : Nat) (od : Nat → Nat) (T9 : va_W) (w w1 w2 w3 w4 w5 w6 w7 w8 w9 wa wb wd mc : Nat) (rg bt ms sm bf co : Nat → Nat) (ml mx rw : Nat → Int32) (o9 : Nat) (ov : Nat → Int64) (zz L i : Nat) (xs : Nat → Int32) (hX : va_X zz L xs s s.heap) (hbl : zz < s.heap.size) (hbA : ¬ A zz) (hL : L ≤ 2561) (hiL : i + 5 ≤ L) (xf : XF s) (xs9 : XS A s s.heap) (hce : cells + 1 + 0 ≤ room_1.cells) (hsl : slots + 6 + 0 ≤ room_1.slots)  (mo : Nat) (h1 : 1 ≤ mo) (hmo : mo ≤ 16) (hct : ∀ j, j < 48 → ct j ≤ 1000000000) (e1 : xs (i + 1) = nI mo) (hn : 2 ^ mo < (srt ct 48 od 0).2)
    (K : GO p l e room_1 s m args below meth c (cells + 1) (slots + 6) Q A D 8 794 [(0, .ref zz), (1, .ref b), (2, .ref w), (3, .ref o9), (4, .int (nI (i)))] [] (LW cs b k bc bl bx a al ac ah an g gr w w1 w2 w3 w4 w5 w6 w7 w8 w9 wa wb wd o9 (wr) (lv9) (ct) (lo) (ex) (rl) (fl) (ln) (cn) (sn) (xn) (st) (sz) (rb) (0) (rl) (sz) (wr) (lv9) (ct) (ln) (rg) (ml) (mx) (bt) ((srt (ct) 48 (od) 0).1) (rw) (ms) (sm) (bf) (co) ((fun _ => ((-1 : Int32)).toInt64)) ++ T9))
    : GO p l e room_1 s m args below meth c (cells + 1) (slots + 6) Q A D 8 238 [(0, .ref zz), (1, .ref b), (2, .ref w), (3, .ref o9), (4, .int (nI (i)))] [.int (nI (0))] (LW cs b k bc bl bx a al ac ah an g gr w w1 w2 w3 w4 w5 w6 w7 w8 w9 wa wb wd o9 (wr) (lv9) (ct) (lo) (ex) (rl) (fl) (ln) (cn) (sn) (xn) (st) (sz) (rb) (mc) (rl) (sz) (wr) (lv9) (ct) (ln) (rg) (ml) (mx) (bt) (od) (rw) (ms) (sm) (bf) (co) ((fun _ => ((-1 : Int32)).toInt64)) ++ T9) := by
  refine g_istore C (lv' := [(5, .int (nI (0))), (0, .ref zz), (1, .ref b), (2, .ref w), (3, .ref o9), (4, .int (nI (i)))]) d_L_law_238 (by decide) rfl ?_
  refine g_aload_n C d_L_law_240 3 rfl rfl ?_
  refine g_aload_n C d_L_law_241 1 rfl rfl ?_
  refine g_iload C d_L_law_242 5 rfl ?_
  refine g_iconst C (v := nI 1) d_L_law_244 rfl ?_
  refine g_iadd C (v := nI (i + 1)) d_L_law_245 (nI_add _ _) ?_
  refine g_xald C hX hbl hbA (i := i + 1) (v := nI (mo)) (by omega) (by omega) e1 d_L_law_246 ?_
  refine g_callVi C (n := 1) (ws' := (LW cs b k bc bl bx a al ac ah an g gr w w1 w2 w3 w4 w5 w6 w7 w8 w9 wa wb wd o9 (wr) (lv9) (ct) (lo) (ex) (rl) (fl) (ln) (cn) (sn) (xn) (st) (sz) (rb) (0) (rl) (sz) (wr) (lv9) (ct) (ln) (rg) (ml) (mx) (bt) ((srt (ct) 48 (od) 0).1) (rw) (ms) (sm) (bf) (co) ((fun _ => ((-1 : Int32)).toInt64)) ++ T9)) (As := [.int (nI (mo))]) (rest := []) (m_M_make_n l D cs w w1 w2 w3 w4 w5 w6 w7 w8 w9 wa wb wd (mc) (rl) (sz) (wr) (lv9) (ct) (ln) (rg) (od) (rw) (ms) (sm) (bf) mo h1 hmo hct hn) tw_505 tw_506 tw_507 tw_6 tw_508 rfl 0 rfl rfl (by decide +kernel) rfl ⟨rfl, rfl, by decide, hce, hsl⟩ rfl [11, 12, 13, 14, 18, 19, 20, 21, 22] rfl rfl (by decide) (Nat.le_of_ble_eq_true rfl) rfl d_L_law_247 ?_
  refine g_istore C (lv' := [(6, .int ((-1))), (5, .int (nI (0))), (0, .ref zz), (1, .ref b), (2, .ref w), (3, .ref o9), (4, .int (nI (i)))]) d_L_law_250 (by decide) rfl ?_
  refine g_aload_n C d_L_law_252 4 rfl rfl ?_
  refine g_callVi C (n := 0) (ws' := (LW cs b k bc bl bx a al ac ah an g gr w w1 w2 w3 w4 w5 w6 w7 w8 w9 wa wb wd o9 (wr) (lv9) (ct) (lo) (ex) (rl) (fl) (ln) (cn) (sn) (xn) (st) (sz) (rb) (0) (rl) (sz) (wr) (lv9) (ct) (ln) (rg) (ml) (mx) (bt) ((srt (ct) 48 (od) 0).1) (rw) (ms) (sm) (bf) (co) ((fun _ => ((-1 : Int32)).toInt64)) ++ T9)) (As := []) (rest := []) (m_M_thrown l D cs w w1 w2 w3 w4 w5 w6 w7 w8 w9 wa wb wd (0) (rl) (sz) (wr) (lv9)  ) tw_489 tw_490 tw_491 tw_6 tw_492 rfl 0 rfl rfl (by decide +kernel) rfl ⟨rfl, rfl, by decide, hce, hsl⟩ rfl [11] rfl rfl (by decide) (Nat.le_of_ble_eq_true rfl) rfl d_L_law_253 ?_
  refine g_iload C d_L_law_256 1 rfl ?_
  refine n_icmp_eq C 263 d_L_law_258 (by decide) (by omega) (by omega) (fun _ => ?_) (fun h => absurd h (by omega))
  refine g_iload C d_L_law_263 1 rfl ?_
  refine n_if_ne C 280 d_L_law_265 (by decide) (by omega) (fun h => absurd h (by omega)) (fun _ => ?_)
  refine g_aload_n C d_L_law_268 5 rfl rfl ?_
  refine g_iconst C (v := nI 0) d_L_law_269 rfl ?_
  refine g_lald C 24 rfl (by omega) (by decide) d_L_law_270 ?_
  refine g_iload C d_L_law_271 0 rfl ?_
  refine g_i2l C (v := ((-1)).toInt64) d_L_law_273 rfl ?_
  refine g_lcmp_eq C 280 d_L_law_274 d_L_law_275 (by decide) (fun _ => ?_) (fun h => absurd h (not_not_intro rfl))
  refine g_goto C 794 d_L_law_280 (by decide) ?_
  refine g_lv (lv' := [(0, .ref zz), (1, .ref b), (2, .ref w), (3, .ref o9), (4, .int (nI (i)))]) [2, 3, 4, 5, 6] rfl ?_
  exact K
set_option maxHeartbeats 4000000 in
set_option maxRecDepth 100000 in
theorem r_make_0 {p : Program} {l : Launch} {e : Env} {s : State} {m : MethodId} {args : Array Value} {below : List Frame} {meth : Method} {c : Code} {cells slots : Nat} {Q : State → Prop} {A : Nat → Prop} {D : va_G} {cs : ClassId × ClassId × ClassId × ClassId} (C : CX p s m args c code 8 RL D cs A) (b k bc bl bx a al ac ah an g gr : Nat) (ct : Nat → Nat) (lo ex : Nat → Int32) (wr : Nat) (lv9 : Int64) (rl : Nat) (ln cn sn xn : Nat → Nat) (fl : Nat) (rb : Nat → Nat) (st sz : Nat) (od : Nat → Nat) (T9 : va_W) (w w1 w2 w3 w4 w5 w6 w7 w8 w9 wa wb wd mc : Nat) (rg bt ms sm bf co : Nat → Nat) (ml mx rw : Nat → Int32) (o9 : Nat) (ov : Nat → Int64) (zz L i : Nat) (xs : Nat → Int32) (hX : va_X zz L xs s s.heap) (hbl : zz < s.heap.size) (hbA : ¬ A zz) (hL : L ≤ 2561) (hiL : i + 5 ≤ L) (xf : XF s) (xs9 : XS A s s.heap) (hce : cells + 1 + 0 ≤ room_1.cells) (hsl : slots + 6 + 0 ≤ room_1.slots)  (lnB : Nat → Nat) (mo : Nat) (h1 : 1 ≤ mo) (hmo : mo ≤ 16) (hct : ∀ j, j < 48 → ct j ≤ 1000000000) (e1 : xs (i + 1) = nI mo) (hn : (srt ct 48 od 0).2 = 0)
    (K : GO p l e room_1 s m args below meth c (cells + 1) (slots + 6) Q A D 8 794 [(0, .ref zz), (1, .ref b), (2, .ref w), (3, .ref o9), (4, .int (nI (i)))] [] (LW cs b k bc bl bx a al ac ah an g gr w w1 w2 w3 w4 w5 w6 w7 w8 w9 wa wb wd o9 (wr) (lv9) (ct) (lo) (ex) (rl) (fl) (lnB) (cn) (sn) (xn) (st) (sz) (rb) (0) (rl) (sz) (wr) (lv9) (ct) ((ctm (ct) ((srt (ct) 48 (od) 0).1) ((srt (ct) 48 (od) 0).2) (mo) (fun _ => 0) (if (srt (ct) 48 (od) 0).2 = 0 then 0 else 2 * (srt (ct) 48 (od) 0).2 - 2))) ((fun _ => 0)) (ml) (mx) (bt) ((srt (ct) 48 (od) 0).1) ((pkst (ct) ((srt (ct) 48 (od) 0).1) ((srt (ct) 48 (od) 0).2) (bf) (sm) (rw) (ms) (mo)).2.2.1) ((pkst (ct) ((srt (ct) 48 (od) 0).1) ((srt (ct) 48 (od) 0).2) (bf) (sm) (rw) (ms) (mo)).2.2.2) ((pkst (ct) ((srt (ct) 48 (od) 0).1) ((srt (ct) 48 (od) 0).2) (bf) (sm) (rw) (ms) (mo)).2.1) ((pkst (ct) ((srt (ct) 48 (od) 0).1) ((srt (ct) 48 (od) 0).2) (bf) (sm) (rw) (ms) (mo)).1) (co) ((fun _ => lN (srt (ct) 48 (od) 0).2)) ++ T9))
    : GO p l e room_1 s m args below meth c (cells + 1) (slots + 6) Q A D 8 238 [(0, .ref zz), (1, .ref b), (2, .ref w), (3, .ref o9), (4, .int (nI (i)))] [.int (nI (0))] (LW cs b k bc bl bx a al ac ah an g gr w w1 w2 w3 w4 w5 w6 w7 w8 w9 wa wb wd o9 (wr) (lv9) (ct) (lo) (ex) (rl) (fl) (lnB) (cn) (sn) (xn) (st) (sz) (rb) (mc) (rl) (sz) (wr) (lv9) (ct) (ln) (rg) (ml) (mx) (bt) (od) (rw) (ms) (sm) (bf) (co) ((fun _ => lN (srt (ct) 48 (od) 0).2)) ++ T9) := by
  refine g_istore C (lv' := [(5, .int (nI (0))), (0, .ref zz), (1, .ref b), (2, .ref w), (3, .ref o9), (4, .int (nI (i)))]) d_L_law_238 (by decide) rfl ?_
  refine g_aload_n C d_L_law_240 3 rfl rfl ?_
  refine g_aload_n C d_L_law_241 1 rfl rfl ?_
  refine g_iload C d_L_law_242 5 rfl ?_
  refine g_iconst C (v := nI 1) d_L_law_244 rfl ?_
  refine g_iadd C (v := nI (i + 1)) d_L_law_245 (nI_add _ _) ?_
  refine g_xald C hX hbl hbA (i := i + 1) (v := nI (mo)) (by omega) (by omega) e1 d_L_law_246 ?_
  refine g_callVi C (n := 1) (ws' := (LW cs b k bc bl bx a al ac ah an g gr w w1 w2 w3 w4 w5 w6 w7 w8 w9 wa wb wd o9 (wr) (lv9) (ct) (lo) (ex) (rl) (fl) (lnB) (cn) (sn) (xn) (st) (sz) (rb) (0) (rl) (sz) (wr) (lv9) (ct) ((ctm (ct) ((srt (ct) 48 (od) 0).1) ((srt (ct) 48 (od) 0).2) (mo) (fun _ => 0) (if (srt (ct) 48 (od) 0).2 = 0 then 0 else 2 * (srt (ct) 48 (od) 0).2 - 2))) ((fun _ => 0)) (ml) (mx) (bt) ((srt (ct) 48 (od) 0).1) ((pkst (ct) ((srt (ct) 48 (od) 0).1) ((srt (ct) 48 (od) 0).2) (bf) (sm) (rw) (ms) (mo)).2.2.1) ((pkst (ct) ((srt (ct) 48 (od) 0).1) ((srt (ct) 48 (od) 0).2) (bf) (sm) (rw) (ms) (mo)).2.2.2) ((pkst (ct) ((srt (ct) 48 (od) 0).1) ((srt (ct) 48 (od) 0).2) (bf) (sm) (rw) (ms) (mo)).2.1) ((pkst (ct) ((srt (ct) 48 (od) 0).1) ((srt (ct) 48 (od) 0).2) (bf) (sm) (rw) (ms) (mo)).1) (co) ((fun _ => lN (srt (ct) 48 (od) 0).2)) ++ T9)) (As := [.int (nI (mo))]) (rest := []) (m_M_make_m l D cs w w1 w2 w3 w4 w5 w6 w7 w8 w9 wa wb wd (mc) (rl) (sz) (wr) (lv9) (ct) (ln) (rg) (od) (rw) (ms) (sm) (bf) mo h1 hmo hct (by omega) (by have := Nat.two_pow_pos mo; omega)) tw_505 tw_506 tw_507 tw_6 tw_508 rfl 0 rfl rfl (by decide +kernel) rfl ⟨rfl, rfl, by decide, hce, hsl⟩ rfl [11, 12, 13, 14, 18, 19, 20, 21, 22] rfl rfl (by decide) (Nat.le_of_ble_eq_true rfl) rfl d_L_law_247 ?_
  refine g_istore C (lv' := [(6, .int (nI ((srt (ct) 48 (od) 0).2))), (5, .int (nI (0))), (0, .ref zz), (1, .ref b), (2, .ref w), (3, .ref o9), (4, .int (nI (i)))]) d_L_law_250 (by decide) rfl ?_
  refine g_aload_n C d_L_law_252 4 rfl rfl ?_
  refine g_callVi C (n := 0) (ws' := (LW cs b k bc bl bx a al ac ah an g gr w w1 w2 w3 w4 w5 w6 w7 w8 w9 wa wb wd o9 (wr) (lv9) (ct) (lo) (ex) (rl) (fl) (lnB) (cn) (sn) (xn) (st) (sz) (rb) (0) (rl) (sz) (wr) (lv9) (ct) ((ctm (ct) ((srt (ct) 48 (od) 0).1) ((srt (ct) 48 (od) 0).2) (mo) (fun _ => 0) (if (srt (ct) 48 (od) 0).2 = 0 then 0 else 2 * (srt (ct) 48 (od) 0).2 - 2))) ((fun _ => 0)) (ml) (mx) (bt) ((srt (ct) 48 (od) 0).1) ((pkst (ct) ((srt (ct) 48 (od) 0).1) ((srt (ct) 48 (od) 0).2) (bf) (sm) (rw) (ms) (mo)).2.2.1) ((pkst (ct) ((srt (ct) 48 (od) 0).1) ((srt (ct) 48 (od) 0).2) (bf) (sm) (rw) (ms) (mo)).2.2.2) ((pkst (ct) ((srt (ct) 48 (od) 0).1) ((srt (ct) 48 (od) 0).2) (bf) (sm) (rw) (ms) (mo)).2.1) ((pkst (ct) ((srt (ct) 48 (od) 0).1) ((srt (ct) 48 (od) 0).2) (bf) (sm) (rw) (ms) (mo)).1) (co) ((fun _ => lN (srt (ct) 48 (od) 0).2)) ++ T9)) (As := []) (rest := []) (m_M_thrown l D cs w w1 w2 w3 w4 w5 w6 w7 w8 w9 wa wb wd (0) (rl) (sz) (wr) (lv9)  ) tw_489 tw_490 tw_491 tw_6 tw_492 rfl 0 rfl rfl (by decide +kernel) rfl ⟨rfl, rfl, by decide, hce, hsl⟩ rfl [11] rfl rfl (by decide) (Nat.le_of_ble_eq_true rfl) rfl d_L_law_253 ?_
  refine g_iload C d_L_law_256 1 rfl ?_
  refine n_icmp_eq C 263 d_L_law_258 (by decide) (by omega) (by omega) (fun _ => ?_) (fun h => absurd h (by omega))
  refine g_iload C d_L_law_263 1 rfl ?_
  refine n_if_ne C 280 d_L_law_265 (by decide) (by omega) (fun h => absurd h (by omega)) (fun _ => ?_)
  refine g_aload_n C d_L_law_268 5 rfl rfl ?_
  refine g_iconst C (v := nI 0) d_L_law_269 rfl ?_
  refine g_lald C 24 rfl (by omega) (by decide) d_L_law_270 ?_
  refine g_iload C d_L_law_271 0 rfl ?_
  refine g_i2l C (v := lN ((srt (ct) 48 (od) 0).2)) d_L_law_273 (nI_l (by have := (srt_48 ct od).1; omega)) ?_
  refine g_lcmp_eq C 280 d_L_law_274 d_L_law_275 (by decide) (fun _ => ?_) (fun h => absurd h (not_not_intro rfl))
  refine g_goto C 794 d_L_law_280 (by decide) ?_
  refine g_lv (lv' := [(0, .ref zz), (1, .ref b), (2, .ref w), (3, .ref o9), (4, .int (nI (i)))]) [2, 3, 4, 5, 6] rfl ?_
  exact K
set_option maxHeartbeats 4000000 in
set_option maxRecDepth 100000 in
theorem r_make_o {p : Program} {l : Launch} {e : Env} {s : State} {m : MethodId} {args : Array Value} {below : List Frame} {meth : Method} {c : Code} {cells slots : Nat} {Q : State → Prop} {A : Nat → Prop} {D : va_G} {cs : ClassId × ClassId × ClassId × ClassId} (C : CX p s m args c code 8 RL D cs A) (b k bc bl bx a al ac ah an g gr : Nat) (ct : Nat → Nat) (lo ex : Nat → Int32) (wr : Nat) (lv9 : Int64) (rl : Nat) (ln cn sn xn : Nat → Nat) (fl : Nat) (rb : Nat → Nat) (st sz : Nat) (od : Nat → Nat) (T9 : va_W) (w w1 w2 w3 w4 w5 w6 w7 w8 w9 wa wb wd mc : Nat) (rg bt ms sm bf co : Nat → Nat) (ml mx rw : Nat → Int32) (o9 : Nat) (ov : Nat → Int64) (zz L i : Nat) (xs : Nat → Int32) (hX : va_X zz L xs s s.heap) (hbl : zz < s.heap.size) (hbA : ¬ A zz) (hL : L ≤ 2561) (hiL : i + 5 ≤ L) (xf : XF s) (xs9 : XS A s s.heap) (hce : cells + 1 + 0 ≤ room_1.cells) (hsl : slots + 6 + 0 ≤ room_1.slots)  (lnB : Nat → Nat) (mo : Nat) (h1 : 1 ≤ mo) (hmo : mo ≤ 16) (hct : ∀ j, j < 48 → ct j ≤ 1000000000) (e1 : xs (i + 1) = nI mo) (hn : (srt ct 48 od 0).2 = 1)
    (K : GO p l e room_1 s m args below meth c (cells + 1) (slots + 6) Q A D 8 794 [(0, .ref zz), (1, .ref b), (2, .ref w), (3, .ref o9), (4, .int (nI (i)))] [] (LW cs b k bc bl bx a al ac ah an g gr w w1 w2 w3 w4 w5 w6 w7 w8 w9 wa wb wd o9 (wr) (lv9) (ct) (lo) (ex) (rl) (fl) (lnB) (cn) (sn) (xn) (st) (sz) (rb) (0) (rl) (sz) (wr) (lv9) (ct) ((updN ((fun _ => 0)) ((srt (ct) 48 (od) 0).1 (0)) (1))) ((fun _ => 0)) (ml) (mx) (bt) ((srt (ct) 48 (od) 0).1) (rw) (ms) (sm) (bf) (co) ((fun _ => lN (srt (ct) 48 (od) 0).2)) ++ T9))
    : GO p l e room_1 s m args below meth c (cells + 1) (slots + 6) Q A D 8 238 [(0, .ref zz), (1, .ref b), (2, .ref w), (3, .ref o9), (4, .int (nI (i)))] [.int (nI (0))] (LW cs b k bc bl bx a al ac ah an g gr w w1 w2 w3 w4 w5 w6 w7 w8 w9 wa wb wd o9 (wr) (lv9) (ct) (lo) (ex) (rl) (fl) (lnB) (cn) (sn) (xn) (st) (sz) (rb) (mc) (rl) (sz) (wr) (lv9) (ct) (ln) (rg) (ml) (mx) (bt) (od) (rw) (ms) (sm) (bf) (co) ((fun _ => lN (srt (ct) 48 (od) 0).2)) ++ T9) := by
  refine g_istore C (lv' := [(5, .int (nI (0))), (0, .ref zz), (1, .ref b), (2, .ref w), (3, .ref o9), (4, .int (nI (i)))]) d_L_law_238 (by decide) rfl ?_
  refine g_aload_n C d_L_law_240 3 rfl rfl ?_
  refine g_aload_n C d_L_law_241 1 rfl rfl ?_
  refine g_iload C d_L_law_242 5 rfl ?_
  refine g_iconst C (v := nI 1) d_L_law_244 rfl ?_
  refine g_iadd C (v := nI (i + 1)) d_L_law_245 (nI_add _ _) ?_
  refine g_xald C hX hbl hbA (i := i + 1) (v := nI (mo)) (by omega) (by omega) e1 d_L_law_246 ?_
  refine g_callVi C (n := 1) (ws' := (LW cs b k bc bl bx a al ac ah an g gr w w1 w2 w3 w4 w5 w6 w7 w8 w9 wa wb wd o9 (wr) (lv9) (ct) (lo) (ex) (rl) (fl) (lnB) (cn) (sn) (xn) (st) (sz) (rb) (0) (rl) (sz) (wr) (lv9) (ct) ((updN ((fun _ => 0)) ((srt (ct) 48 (od) 0).1 (0)) (1))) ((fun _ => 0)) (ml) (mx) (bt) ((srt (ct) 48 (od) 0).1) (rw) (ms) (sm) (bf) (co) ((fun _ => lN (srt (ct) 48 (od) 0).2)) ++ T9)) (As := [.int (nI (mo))]) (rest := []) (m_M_make_o l D cs w w1 w2 w3 w4 w5 w6 w7 w8 w9 wa wb wd (mc) (rl) (sz) (wr) (lv9) (ct) (ln) (rg) (od) (rw) (ms) (sm) (bf) mo h1 hmo hct hn) tw_505 tw_506 tw_507 tw_6 tw_508 rfl 0 rfl rfl (by decide +kernel) rfl ⟨rfl, rfl, by decide, hce, hsl⟩ rfl [11, 12, 13, 14, 18, 19, 20, 21, 22] rfl rfl (by decide) (Nat.le_of_ble_eq_true rfl) rfl d_L_law_247 ?_
  refine g_istore C (lv' := [(6, .int (nI ((srt (ct) 48 (od) 0).2))), (5, .int (nI (0))), (0, .ref zz), (1, .ref b), (2, .ref w), (3, .ref o9), (4, .int (nI (i)))]) d_L_law_250 (by decide) rfl ?_
  refine g_aload_n C d_L_law_252 4 rfl rfl ?_
  refine g_callVi C (n := 0) (ws' := (LW cs b k bc bl bx a al ac ah an g gr w w1 w2 w3 w4 w5 w6 w7 w8 w9 wa wb wd o9 (wr) (lv9) (ct) (lo) (ex) (rl) (fl) (lnB) (cn) (sn) (xn) (st) (sz) (rb) (0) (rl) (sz) (wr) (lv9) (ct) ((updN ((fun _ => 0)) ((srt (ct) 48 (od) 0).1 (0)) (1))) ((fun _ => 0)) (ml) (mx) (bt) ((srt (ct) 48 (od) 0).1) (rw) (ms) (sm) (bf) (co) ((fun _ => lN (srt (ct) 48 (od) 0).2)) ++ T9)) (As := []) (rest := []) (m_M_thrown l D cs w w1 w2 w3 w4 w5 w6 w7 w8 w9 wa wb wd (0) (rl) (sz) (wr) (lv9)  ) tw_489 tw_490 tw_491 tw_6 tw_492 rfl 0 rfl rfl (by decide +kernel) rfl ⟨rfl, rfl, by decide, hce, hsl⟩ rfl [11] rfl rfl (by decide) (Nat.le_of_ble_eq_true rfl) rfl d_L_law_253 ?_
  refine g_iload C d_L_law_256 1 rfl ?_
  refine n_icmp_eq C 263 d_L_law_258 (by decide) (by omega) (by omega) (fun _ => ?_) (fun h => absurd h (by omega))
  refine g_iload C d_L_law_263 1 rfl ?_
  refine n_if_ne C 280 d_L_law_265 (by decide) (by omega) (fun h => absurd h (by omega)) (fun _ => ?_)
  refine g_aload_n C d_L_law_268 5 rfl rfl ?_
  refine g_iconst C (v := nI 0) d_L_law_269 rfl ?_
  refine g_lald C 24 rfl (by omega) (by decide) d_L_law_270 ?_
  refine g_iload C d_L_law_271 0 rfl ?_
  refine g_i2l C (v := lN ((srt (ct) 48 (od) 0).2)) d_L_law_273 (nI_l (by have := (srt_48 ct od).1; omega)) ?_
  refine g_lcmp_eq C 280 d_L_law_274 d_L_law_275 (by decide) (fun _ => ?_) (fun h => absurd h (not_not_intro rfl))
  refine g_goto C 794 d_L_law_280 (by decide) ?_
  refine g_lv (lv' := [(0, .ref zz), (1, .ref b), (2, .ref w), (3, .ref o9), (4, .int (nI (i)))]) [2, 3, 4, 5, 6] rfl ?_
  exact K
set_option maxHeartbeats 4000000 in
set_option maxRecDepth 100000 in
theorem r_make_m {p : Program} {l : Launch} {e : Env} {s : State} {m : MethodId} {args : Array Value} {below : List Frame} {meth : Method} {c : Code} {cells slots : Nat} {Q : State → Prop} {A : Nat → Prop} {D : va_G} {cs : ClassId × ClassId × ClassId × ClassId} (C : CX p s m args c code 8 RL D cs A) (b k bc bl bx a al ac ah an g gr : Nat) (ct : Nat → Nat) (lo ex : Nat → Int32) (wr : Nat) (lv9 : Int64) (rl : Nat) (ln cn sn xn : Nat → Nat) (fl : Nat) (rb : Nat → Nat) (st sz : Nat) (od : Nat → Nat) (T9 : va_W) (w w1 w2 w3 w4 w5 w6 w7 w8 w9 wa wb wd mc : Nat) (rg bt ms sm bf co : Nat → Nat) (ml mx rw : Nat → Int32) (o9 : Nat) (ov : Nat → Int64) (zz L i : Nat) (xs : Nat → Int32) (hX : va_X zz L xs s s.heap) (hbl : zz < s.heap.size) (hbA : ¬ A zz) (hL : L ≤ 2561) (hiL : i + 5 ≤ L) (xf : XF s) (xs9 : XS A s s.heap) (hce : cells + 1 + 0 ≤ room_1.cells) (hsl : slots + 6 + 0 ≤ room_1.slots)  (lnB : Nat → Nat) (mo : Nat) (h1 : 1 ≤ mo) (hmo : mo ≤ 16) (hct : ∀ j, j < 48 → ct j ≤ 1000000000) (e1 : xs (i + 1) = nI mo) (h2 : 2 ≤ (srt ct 48 od 0).2) (hn : (srt ct 48 od 0).2 ≤ 2 ^ mo)
    (K : GO p l e room_1 s m args below meth c (cells + 1) (slots + 6) Q A D 8 794 [(0, .ref zz), (1, .ref b), (2, .ref w), (3, .ref o9), (4, .int (nI (i)))] [] (LW cs b k bc bl bx a al ac ah an g gr w w1 w2 w3 w4 w5 w6 w7 w8 w9 wa wb wd o9 (wr) (lv9) (ct) (lo) (ex) (rl) (fl) (lnB) (cn) (sn) (xn) (st) (sz) (rb) (0) (rl) (sz) (wr) (lv9) (ct) ((ctm (ct) ((srt (ct) 48 (od) 0).1) ((srt (ct) 48 (od) 0).2) (mo) (fun _ => 0) (if (srt (ct) 48 (od) 0).2 = 0 then 0 else 2 * (srt (ct) 48 (od) 0).2 - 2))) ((fun _ => 0)) (ml) (mx) (bt) ((srt (ct) 48 (od) 0).1) ((pkst (ct) ((srt (ct) 48 (od) 0).1) ((srt (ct) 48 (od) 0).2) (bf) (sm) (rw) (ms) (mo)).2.2.1) ((pkst (ct) ((srt (ct) 48 (od) 0).1) ((srt (ct) 48 (od) 0).2) (bf) (sm) (rw) (ms) (mo)).2.2.2) ((pkst (ct) ((srt (ct) 48 (od) 0).1) ((srt (ct) 48 (od) 0).2) (bf) (sm) (rw) (ms) (mo)).2.1) ((pkst (ct) ((srt (ct) 48 (od) 0).1) ((srt (ct) 48 (od) 0).2) (bf) (sm) (rw) (ms) (mo)).1) (co) ((fun _ => lN (srt (ct) 48 (od) 0).2)) ++ T9))
    : GO p l e room_1 s m args below meth c (cells + 1) (slots + 6) Q A D 8 238 [(0, .ref zz), (1, .ref b), (2, .ref w), (3, .ref o9), (4, .int (nI (i)))] [.int (nI (0))] (LW cs b k bc bl bx a al ac ah an g gr w w1 w2 w3 w4 w5 w6 w7 w8 w9 wa wb wd o9 (wr) (lv9) (ct) (lo) (ex) (rl) (fl) (lnB) (cn) (sn) (xn) (st) (sz) (rb) (mc) (rl) (sz) (wr) (lv9) (ct) (ln) (rg) (ml) (mx) (bt) (od) (rw) (ms) (sm) (bf) (co) ((fun _ => lN (srt (ct) 48 (od) 0).2)) ++ T9) := by
  refine g_istore C (lv' := [(5, .int (nI (0))), (0, .ref zz), (1, .ref b), (2, .ref w), (3, .ref o9), (4, .int (nI (i)))]) d_L_law_238 (by decide) rfl ?_
  refine g_aload_n C d_L_law_240 3 rfl rfl ?_
  refine g_aload_n C d_L_law_241 1 rfl rfl ?_
  refine g_iload C d_L_law_242 5 rfl ?_
  refine g_iconst C (v := nI 1) d_L_law_244 rfl ?_
  refine g_iadd C (v := nI (i + 1)) d_L_law_245 (nI_add _ _) ?_
  refine g_xald C hX hbl hbA (i := i + 1) (v := nI (mo)) (by omega) (by omega) e1 d_L_law_246 ?_
  refine g_callVi C (n := 1) (ws' := (LW cs b k bc bl bx a al ac ah an g gr w w1 w2 w3 w4 w5 w6 w7 w8 w9 wa wb wd o9 (wr) (lv9) (ct) (lo) (ex) (rl) (fl) (lnB) (cn) (sn) (xn) (st) (sz) (rb) (0) (rl) (sz) (wr) (lv9) (ct) ((ctm (ct) ((srt (ct) 48 (od) 0).1) ((srt (ct) 48 (od) 0).2) (mo) (fun _ => 0) (if (srt (ct) 48 (od) 0).2 = 0 then 0 else 2 * (srt (ct) 48 (od) 0).2 - 2))) ((fun _ => 0)) (ml) (mx) (bt) ((srt (ct) 48 (od) 0).1) ((pkst (ct) ((srt (ct) 48 (od) 0).1) ((srt (ct) 48 (od) 0).2) (bf) (sm) (rw) (ms) (mo)).2.2.1) ((pkst (ct) ((srt (ct) 48 (od) 0).1) ((srt (ct) 48 (od) 0).2) (bf) (sm) (rw) (ms) (mo)).2.2.2) ((pkst (ct) ((srt (ct) 48 (od) 0).1) ((srt (ct) 48 (od) 0).2) (bf) (sm) (rw) (ms) (mo)).2.1) ((pkst (ct) ((srt (ct) 48 (od) 0).1) ((srt (ct) 48 (od) 0).2) (bf) (sm) (rw) (ms) (mo)).1) (co) ((fun _ => lN (srt (ct) 48 (od) 0).2)) ++ T9)) (As := [.int (nI (mo))]) (rest := []) (m_M_make_m l D cs w w1 w2 w3 w4 w5 w6 w7 w8 w9 wa wb wd (mc) (rl) (sz) (wr) (lv9) (ct) (ln) (rg) (od) (rw) (ms) (sm) (bf) mo h1 hmo hct (by omega) hn) tw_505 tw_506 tw_507 tw_6 tw_508 rfl 0 rfl rfl (by decide +kernel) rfl ⟨rfl, rfl, by decide, hce, hsl⟩ rfl [11, 12, 13, 14, 18, 19, 20, 21, 22] rfl rfl (by decide) (Nat.le_of_ble_eq_true rfl) rfl d_L_law_247 ?_
  refine g_istore C (lv' := [(6, .int (nI ((srt (ct) 48 (od) 0).2))), (5, .int (nI (0))), (0, .ref zz), (1, .ref b), (2, .ref w), (3, .ref o9), (4, .int (nI (i)))]) d_L_law_250 (by decide) rfl ?_
  refine g_aload_n C d_L_law_252 4 rfl rfl ?_
  refine g_callVi C (n := 0) (ws' := (LW cs b k bc bl bx a al ac ah an g gr w w1 w2 w3 w4 w5 w6 w7 w8 w9 wa wb wd o9 (wr) (lv9) (ct) (lo) (ex) (rl) (fl) (lnB) (cn) (sn) (xn) (st) (sz) (rb) (0) (rl) (sz) (wr) (lv9) (ct) ((ctm (ct) ((srt (ct) 48 (od) 0).1) ((srt (ct) 48 (od) 0).2) (mo) (fun _ => 0) (if (srt (ct) 48 (od) 0).2 = 0 then 0 else 2 * (srt (ct) 48 (od) 0).2 - 2))) ((fun _ => 0)) (ml) (mx) (bt) ((srt (ct) 48 (od) 0).1) ((pkst (ct) ((srt (ct) 48 (od) 0).1) ((srt (ct) 48 (od) 0).2) (bf) (sm) (rw) (ms) (mo)).2.2.1) ((pkst (ct) ((srt (ct) 48 (od) 0).1) ((srt (ct) 48 (od) 0).2) (bf) (sm) (rw) (ms) (mo)).2.2.2) ((pkst (ct) ((srt (ct) 48 (od) 0).1) ((srt (ct) 48 (od) 0).2) (bf) (sm) (rw) (ms) (mo)).2.1) ((pkst (ct) ((srt (ct) 48 (od) 0).1) ((srt (ct) 48 (od) 0).2) (bf) (sm) (rw) (ms) (mo)).1) (co) ((fun _ => lN (srt (ct) 48 (od) 0).2)) ++ T9)) (As := []) (rest := []) (m_M_thrown l D cs w w1 w2 w3 w4 w5 w6 w7 w8 w9 wa wb wd (0) (rl) (sz) (wr) (lv9)  ) tw_489 tw_490 tw_491 tw_6 tw_492 rfl 0 rfl rfl (by decide +kernel) rfl ⟨rfl, rfl, by decide, hce, hsl⟩ rfl [11] rfl rfl (by decide) (Nat.le_of_ble_eq_true rfl) rfl d_L_law_253 ?_
  refine g_iload C d_L_law_256 1 rfl ?_
  refine n_icmp_eq C 263 d_L_law_258 (by decide) (by omega) (by omega) (fun _ => ?_) (fun h => absurd h (by omega))
  refine g_iload C d_L_law_263 1 rfl ?_
  refine n_if_ne C 280 d_L_law_265 (by decide) (by omega) (fun h => absurd h (by omega)) (fun _ => ?_)
  refine g_aload_n C d_L_law_268 5 rfl rfl ?_
  refine g_iconst C (v := nI 0) d_L_law_269 rfl ?_
  refine g_lald C 24 rfl (by omega) (by decide) d_L_law_270 ?_
  refine g_iload C d_L_law_271 0 rfl ?_
  refine g_i2l C (v := lN ((srt (ct) 48 (od) 0).2)) d_L_law_273 (nI_l (by have := (srt_48 ct od).1; omega)) ?_
  refine g_lcmp_eq C 280 d_L_law_274 d_L_law_275 (by decide) (fun _ => ?_) (fun h => absurd h (not_not_intro rfl))
  refine g_goto C 794 d_L_law_280 (by decide) ?_
  refine g_lv (lv' := [(0, .ref zz), (1, .ref b), (2, .ref w), (3, .ref o9), (4, .int (nI (i)))]) [2, 3, 4, 5, 6] rfl ?_
  exact K
