/-- the law's world: the codes, the model, the answer's array -/
abbrev LW (cs : ClassId × ClassId × ClassId × ClassId) (b k bc bl bx a al ac ah an g gr w w1 w2 w3 w4 w5 w6 w7 w8 w9 wa wb wd o9 : Nat) (wr : Nat) (lv9 : Int64) (ct : Nat → Nat) (lo : Nat → Int32) (ex : Nat → Int32) (rl : Nat) (fl : Nat) (ln : Nat → Nat) (cn : Nat → Nat) (sn : Nat → Nat) (xn : Nat → Nat) (st : Nat) (sz : Nat) (rb : Nat → Nat) (mc : Nat) (mru : Nat) (mwt : Nat) (mrd : Nat) (mva : Int64) (mct : Nat → Nat) (mln : Nat → Nat) (rg : Nat → Nat) (ml : Nat → Int32) (mx : Nat → Int32) (bt : Nat → Nat) (mod : Nat → Nat) (rw : Nat → Int32) (ms : Nat → Nat) (sm : Nat → Nat) (bf : Nat → Nat) (co : Nat → Nat) (ov : Nat → Int64) : va_W :=
  [(b, .inr (3, [.ref a, .ref k, .ref g, .ref bc, .ref bl, .ref bx, .int (nI (wr)), .long (lv9)])), (bc, .inl (cs.2.1, 48, .inr (.inl (fun j => lN (ct j))))), (bl, .inl (cs.1, 48, .inl (lo))), (bx, .inl (cs.1, 48, .inl (ex))), (a, .inr (1, [.int (nI (rl)), .ref al, .ref ac, .ref ah, .ref an, .int (nI (fl))])), (al, .inl (cs.1, 48, .inl (fun j => nI (ln j)))), (ac, .inl (cs.1, 48, .inl (fun j => nI (cn j)))), (ah, .inl (cs.1, 17, .inl (fun j => nI (sn j)))), (an, .inl (cs.1, 17, .inl (fun j => nI (xn j)))), (g, .inr (2, [.ref gr, .int (nI (st)), .int (nI (sz))])), (gr, .inl (cs.1, 400, .inl (fun j => nI (rb j)))), (w, .inr (4, [.int (nI (mc)), .int (nI (mru)), .ref w1, .ref w2, .ref w3, .ref w4, .ref w5, .ref w6, .int (nI (mwt)), .int (nI (mrd)), .long (mva), .ref w7, .ref w8, .ref w9, .ref wa, .ref wb, .ref wd])), (w1, .inl (cs.2.1, 48, .inr (.inl (fun j => lN (mct j))))), (w2, .inl (cs.1, 48, .inl (fun j => nI (mln j)))), (w3, .inl (cs.2.2.1, 48, .inl (fun j => nI (rg j)))), (w4, .inl (cs.1, 48, .inl (ml))), (w5, .inl (cs.1, 48, .inl (mx))), (w6, .inl (cs.1, 400, .inl (fun j => nI (bt j)))), (w7, .inl (cs.1, 48, .inl (fun j => nI (mod j)))), (w8, .inl (cs.1, 1536, .inl (rw))), (w9, .inl (cs.1, 16, .inl (fun j => nI (ms j)))), (wa, .inl (cs.2.1, 96, .inr (.inl (fun j => lN (sm j))))), (wb, .inl (cs.2.1, 96, .inr (.inl (fun j => lN (bf j))))), (wd, .inl (cs.1, 48, .inl (fun j => nI (co j)))), (o9, .inl (cs.2.1, 1, .inr (.inl (ov))))]
/-- a long out of two ints, as the law makes it -/
def cval (v2 v3 : Int32) : Int64 := (v2.toInt64 <<< ((nI 32).toInt64 &&& 63)) ||| (v3.toInt64 &&& lN 4294967295)
set_option maxHeartbeats 4000000 in
set_option maxRecDepth 100000 in
theorem s_count_0 {p : Program} {l : Launch} {e : Env} {s : State} {m : MethodId} {args : Array Value} {below : List Frame} {meth : Method} {c : Code} {cells slots : Nat} {Q : State → Prop} {A : Nat → Prop} {D : va_G} {cs : ClassId × ClassId × ClassId × ClassId} (C : CX p s m args c code 8 RL D cs A) (b k bc bl bx a al ac ah an g gr : Nat) (ct : Nat → Nat) (lo ex : Nat → Int32) (wr : Nat) (lv9 : Int64) (rl : Nat) (ln cn sn xn : Nat → Nat) (fl : Nat) (rb : Nat → Nat) (st sz : Nat) (od : Nat → Nat) (T9 : va_W) (w w1 w2 w3 w4 w5 w6 w7 w8 w9 wa wb wd mc : Nat) (rg bt ms sm bf co : Nat → Nat) (ml mx rw : Nat → Int32) (o9 : Nat) (ov : Nat → Int64) (zz L i : Nat) (xs : Nat → Int32) (hX : va_X zz L xs s s.heap) (hbl : zz < s.heap.size) (hbA : ¬ A zz) (hL : L ≤ 2561) (hiL : i + 5 ≤ L) (xf : XF s) (xs9 : XS A s s.heap) (hce : cells + 1 + 0 ≤ room_1.cells) (hsl : slots + 6 + 0 ≤ room_1.slots) (y n9 : Nat) (v2 v3 : Int32) (hy : y < 48) (hn9 : n9 ≤ 1000000000) (hct : ∀ j, j < 48 → ct j ≤ 1000000000) (e1 : xs (i + 1) = nI y) (e2 : xs (i + 2) = v2) (e3 : xs (i + 3) = v3) (hn8 : cval v2 v3 = lN n9)
    (K : GO p l e room_1 s m args below meth c (cells + 1) (slots + 6) Q A D 8 794 [(0, .ref zz), (1, .ref b), (2, .ref w), (3, .ref o9), (4, .int (nI (i)))] [] (LW cs b k bc bl bx a al ac ah an g gr w w1 w2 w3 w4 w5 w6 w7 w8 w9 wa wb wd o9 (wr) (lv9) ((updN (ct) (y) (n9))) (lo) (ex) (rl) (fl) (ln) (cn) (sn) (xn) (st) (sz) (rb) (0) (rl) (sz) (wr) (lv9) ((updN (ct) (y) (n9))) (ln) (rg) (ml) (mx) (bt) (od) (rw) (ms) (sm) (bf) (co) ((fun _ => lN (if ct y = n9 then 0 else 1))) ++ T9))
    : GO p l e room_1 s m args below meth c cells slots Q A D 8 120 [(0, .ref zz), (1, .ref b), (2, .ref w), (3, .ref o9), (4, .int (nI (i)))] [] (LW cs b k bc bl bx a al ac ah an g gr w w1 w2 w3 w4 w5 w6 w7 w8 w9 wa wb wd o9 (wr) (lv9) (ct) (lo) (ex) (rl) (fl) (ln) (cn) (sn) (xn) (st) (sz) (rb) (mc) (rl) (sz) (wr) (lv9) (ct) (ln) (rg) (ml) (mx) (bt) (od) (rw) (ms) (sm) (bf) (co) (ov) ++ T9) := by
  refine g_aload_n C d_L_law_120 1 rfl rfl ?_
  refine g_aload_n C d_L_law_121 0 rfl rfl ?_
  refine g_iload C d_L_law_122 4 rfl ?_
  refine g_iconst C (v := nI 1) d_L_law_124 rfl ?_
  refine g_iadd C (v := nI (i + 1)) d_L_law_125 (nI_add _ _) ?_
  refine g_xald C hX hbl hbA (i := i + 1) (v := nI (y)) (by omega) (by omega) e1 d_L_law_126 ?_
  refine g_aload_n C d_L_law_127 0 rfl rfl ?_
  refine g_iload C d_L_law_128 4 rfl ?_
  refine g_iconst C (v := nI 2) d_L_law_130 rfl ?_
  refine g_iadd C (v := nI (i + 2)) d_L_law_131 (nI_add _ _) ?_
  refine g_xald C hX hbl hbA (i := i + 2) (v := v2) (by omega) (by omega) e2 d_L_law_132 ?_
  refine g_i2l C (v := (v2).toInt64) d_L_law_133 rfl ?_
  refine g_bipush C (v := nI 32) d_L_law_134 rfl ?_
  refine g_lshl C (v := ((v2).toInt64) <<< (((nI (32))).toInt64 &&& 63)) d_L_law_136 rfl ?_
  refine g_aload_n C d_L_law_137 0 rfl rfl ?_
  refine g_iload C d_L_law_138 4 rfl ?_
  refine g_iconst C (v := nI 3) d_L_law_140 rfl ?_
  refine g_iadd C (v := nI (i + 3)) d_L_law_141 (nI_add _ _) ?_
  refine g_xald C hX hbl hbA (i := i + 3) (v := v3) (by omega) (by omega) e3 d_L_law_142 ?_
  refine g_i2l C (v := (v3).toInt64) d_L_law_143 rfl ?_
  refine g_ldc2 C (v := lN 4294967295) tw_588 d_L_law_144 ?_
  refine g_land C (v := ((v3).toInt64) &&& (lN (4294967295))) d_L_law_147 rfl ?_
  refine g_lor C (v := lN (n9)) d_L_law_148 hn8 ?_
  refine g_aload_n C d_L_law_149 3 rfl rfl ?_
  refine g_callSw C (n := 4) (ws' := (LW cs b k bc bl bx a al ac ah an g gr w w1 w2 w3 w4 w5 w6 w7 w8 w9 wa wb wd o9 (wr) (lv9) ((updN (ct) (y) (n9))) (lo) (ex) (rl) (fl) (ln) (cn) (sn) (xn) (st) (sz) (rb) (mc) (rl) (sz) (wr) (lv9) (ct) (ln) (rg) (ml) (mx) (bt) (od) (rw) (ms) (sm) (bf) (co) ((fun _ => lN (if ct y = n9 then 0 else 1))) ++ T9)) (As := [.ref b, .int (nI (y)), .long (lN (n9)), .ref o9]) (rest := []) (m_L_count_0 l D cs b k bc bl bx a al ac ah an g gr (ct) (lo) (ex) (wr) (lv9) (rl) (ln) (cn) (sn) (xn) (fl) (rb) (st) (sz)  o9 (ov) y n9 hy hn9 hct) tw_204 tw_205 tw_0 tw_206 xf xs9 (by decide +kernel) rfl ⟨rfl, rfl, by decide, hce, hsl⟩ rfl [0, 1, 2, 3, 4, 5, 6, 7, 8, 9, 10, 24] rfl rfl (by decide) (Nat.le_of_ble_eq_true rfl) rfl d_L_law_150 ?_
  refine g_istore C (lv' := [(5, .int (nI (0))), (0, .ref zz), (1, .ref b), (2, .ref w), (3, .ref o9), (4, .int (nI (i)))]) d_L_law_153 (by decide) rfl ?_
  refine g_aload_n C d_L_law_155 3 rfl rfl ?_
  refine g_aload_n C d_L_law_156 1 rfl rfl ?_
  refine g_iload C d_L_law_157 5 rfl ?_
  refine g_iconst C (v := nI 1) d_L_law_159 rfl ?_
  refine g_iadd C (v := nI (i + 1)) d_L_law_160 (nI_add _ _) ?_
  refine g_xald C hX hbl hbA (i := i + 1) (v := nI (y)) (by omega) (by omega) e1 d_L_law_161 ?_
  refine g_aload_n C d_L_law_162 1 rfl rfl ?_
  refine g_iload C d_L_law_163 5 rfl ?_
  refine g_iconst C (v := nI 2) d_L_law_165 rfl ?_
  refine g_iadd C (v := nI (i + 2)) d_L_law_166 (nI_add _ _) ?_
  refine g_xald C hX hbl hbA (i := i + 2) (v := v2) (by omega) (by omega) e2 d_L_law_167 ?_
  refine g_i2l C (v := (v2).toInt64) d_L_law_168 rfl ?_
  refine g_bipush C (v := nI 32) d_L_law_169 rfl ?_
  refine g_lshl C (v := ((v2).toInt64) <<< (((nI (32))).toInt64 &&& 63)) d_L_law_171 rfl ?_
  refine g_aload_n C d_L_law_172 1 rfl rfl ?_
  refine g_iload C d_L_law_173 5 rfl ?_
  refine g_iconst C (v := nI 3) d_L_law_175 rfl ?_
  refine g_iadd C (v := nI (i + 3)) d_L_law_176 (nI_add _ _) ?_
  refine g_xald C hX hbl hbA (i := i + 3) (v := v3) (by omega) (by omega) e3 d_L_law_177 ?_
  refine g_i2l C (v := (v3).toInt64) d_L_law_178 rfl ?_
  refine g_ldc2 C (v := lN 4294967295) tw_588 d_L_law_179 ?_
  refine g_land C (v := ((v3).toInt64) &&& (lN (4294967295))) d_L_law_182 rfl ?_
  refine g_lor C (v := lN (n9)) d_L_law_183 hn8 ?_
  refine g_callVi C (n := 2) (ws' := (LW cs b k bc bl bx a al ac ah an g gr w w1 w2 w3 w4 w5 w6 w7 w8 w9 wa wb wd o9 (wr) (lv9) ((updN (ct) (y) (n9))) (lo) (ex) (rl) (fl) (ln) (cn) (sn) (xn) (st) (sz) (rb) (0) (rl) (sz) (wr) (lv9) ((updN (ct) (y) (n9))) (ln) (rg) (ml) (mx) (bt) (od) (rw) (ms) (sm) (bf) (co) ((fun _ => lN (if ct y = n9 then 0 else 1))) ++ T9)) (As := [.int (nI (y)), .long (lN (n9))]) (rest := []) (m_M_count_0 l D cs w w1 w2 w3 w4 w5 w6 w7 w8 w9 wa wb wd (mc) (rl) (sz) (wr) (lv9) (ct) y n9 hy hn9 hct) tw_493 tw_494 tw_495 tw_6 tw_496 rfl 0 rfl rfl (by decide +kernel) rfl ⟨rfl, rfl, by decide, hce, hsl⟩ rfl [11, 12] rfl rfl (by decide) (Nat.le_of_ble_eq_true rfl) rfl d_L_law_184 ?_
  refine g_istore C (lv' := [(6, .int (nI ((if ct y = n9 then 0 else 1)))), (5, .int (nI (0))), (0, .ref zz), (1, .ref b), (2, .ref w), (3, .ref o9), (4, .int (nI (i)))]) d_L_law_187 (by decide) rfl ?_
  refine g_aload_n C d_L_law_189 4 rfl rfl ?_
  refine g_callVi C (n := 0) (ws' := (LW cs b k bc bl bx a al ac ah an g gr w w1 w2 w3 w4 w5 w6 w7 w8 w9 wa wb wd o9 (wr) (lv9) ((updN (ct) (y) (n9))) (lo) (ex) (rl) (fl) (ln) (cn) (sn) (xn) (st) (sz) (rb) (0) (rl) (sz) (wr) (lv9) ((updN (ct) (y) (n9))) (ln) (rg) (ml) (mx) (bt) (od) (rw) (ms) (sm) (bf) (co) ((fun _ => lN (if ct y = n9 then 0 else 1))) ++ T9)) (As := []) (rest := []) (m_M_thrown l D cs w w1 w2 w3 w4 w5 w6 w7 w8 w9 wa wb wd (0) (rl) (sz) (wr) (lv9)  ) tw_489 tw_490 tw_491 tw_6 tw_492 rfl 0 rfl rfl (by decide +kernel) rfl ⟨rfl, rfl, by decide, hce, hsl⟩ rfl [11] rfl rfl (by decide) (Nat.le_of_ble_eq_true rfl) rfl d_L_law_190 ?_
  refine g_iload C d_L_law_193 1 rfl ?_
  refine n_icmp_eq C 200 d_L_law_195 (by decide) (by omega) (by omega) (fun _ => ?_) (fun h => absurd h (by omega))
  refine g_iload C d_L_law_200 1 rfl ?_
  refine n_if_ne C 224 d_L_law_202 (by decide) (by omega) (fun h => absurd h (by omega)) (fun _ => ?_)
  refine g_aload_n C d_L_law_205 5 rfl rfl ?_
  refine g_iconst C (v := nI 0) d_L_law_206 rfl ?_
  refine g_lald C 24 rfl (by omega) (by decide) d_L_law_207 ?_
  refine g_iload C d_L_law_208 0 rfl ?_
  refine n_if_eq C 217 d_L_law_210 (by decide) (by split <;> omega) (fun h210 => ?_) (fun h210 => ?_)
  · refine g_lconst C (v := lN 0) d_L_law_217 rfl ?_
    refine g_lcmp_eq C 224 d_L_law_218 d_L_law_219 (by decide) (fun _ => ?_) (fun h => absurd h (not_not_intro (congrArg lN (by have h8 : (if ct y = n9 then 0 else 1) < 2 := (by split <;> omega); omega))))
    refine g_goto C 794 d_L_law_224 (by decide) ?_
    refine g_lv (lv' := [(0, .ref zz), (1, .ref b), (2, .ref w), (3, .ref o9), (4, .int (nI (i)))]) [2, 3, 4, 5, 6] rfl ?_
    exact K
  · refine g_lconst C (v := lN 1) d_L_law_213 rfl ?_
    refine g_goto C 218 d_L_law_214 (by decide) ?_
    refine g_lcmp_eq C 224 d_L_law_218 d_L_law_219 (by decide) (fun _ => ?_) (fun h => absurd h (not_not_intro (congrArg lN (by have h8 : (if ct y = n9 then 0 else 1) < 2 := (by split <;> omega); omega))))
    refine g_goto C 794 d_L_law_224 (by decide) ?_
    refine g_lv (lv' := [(0, .ref zz), (1, .ref b), (2, .ref w), (3, .ref o9), (4, .int (nI (i)))]) [2, 3, 4, 5, 6] rfl ?_
    exact K
set_option maxHeartbeats 4000000 in
set_option maxRecDepth 100000 in
theorem s_count_1 {p : Program} {l : Launch} {e : Env} {s : State} {m : MethodId} {args : Array Value} {below : List Frame} {meth : Method} {c : Code} {cells slots : Nat} {Q : State → Prop} {A : Nat → Prop} {D : va_G} {cs : ClassId × ClassId × ClassId × ClassId} (hl9 : l.stackTraces = false) (C : CX p s m args c code 8 RL D cs A) (b k bc bl bx a al ac ah an g gr : Nat) (ct : Nat → Nat) (lo ex : Nat → Int32) (wr : Nat) (lv9 : Int64) (rl : Nat) (ln cn sn xn : Nat → Nat) (fl : Nat) (rb : Nat → Nat) (st sz : Nat) (od : Nat → Nat) (T9 : va_W) (w w1 w2 w3 w4 w5 w6 w7 w8 w9 wa wb wd mc : Nat) (rg bt ms sm bf co : Nat → Nat) (ml mx rw : Nat → Int32) (o9 : Nat) (ov : Nat → Int64) (zz L i : Nat) (xs : Nat → Int32) (hX : va_X zz L xs s s.heap) (hbl : zz < s.heap.size) (hbA : ¬ A zz) (hL : L ≤ 2561) (hiL : i + 5 ≤ L) (xf : XF s) (xs9 : XS A s s.heap) (hce : cells + 1 + 0 ≤ room_1.cells) (hsl : slots + 6 + 0 ≤ room_1.slots) (x : Int32) (hx : x < 0 ∨ ¬ x < nI 48) (e1 : xs (i + 1) = x) (v2 v3 : Int32) (n8 : Int64) (e2 : xs (i + 2) = v2) (e3 : xs (i + 3) = v3) (hn8 : cval v2 v3 = n8)
    (K : GO p l e room_1 s m args below meth c (cells + 1) (slots + 6) Q A D 8 794 [(0, .ref zz), (1, .ref b), (2, .ref w), (3, .ref o9), (4, .int (nI (i)))] [] (LW cs b k bc bl bx a al ac ah an g gr w w1 w2 w3 w4 w5 w6 w7 w8 w9 wa wb wd o9 (wr) (lv9) (ct) (lo) (ex) (rl) (fl) (ln) (cn) (sn) (xn) (st) (sz) (rb) (1) (rl) (sz) (wr) (lv9) (ct) (ln) (rg) (ml) (mx) (bt) (od) (rw) (ms) (sm) (bf) (co) (ov) ++ T9))
    : GO p l e room_1 s m args below meth c cells slots Q A D 8 120 [(0, .ref zz), (1, .ref b), (2, .ref w), (3, .ref o9), (4, .int (nI (i)))] [] (LW cs b k bc bl bx a al ac ah an g gr w w1 w2 w3 w4 w5 w6 w7 w8 w9 wa wb wd o9 (wr) (lv9) (ct) (lo) (ex) (rl) (fl) (ln) (cn) (sn) (xn) (st) (sz) (rb) (mc) (rl) (sz) (wr) (lv9) (ct) (ln) (rg) (ml) (mx) (bt) (od) (rw) (ms) (sm) (bf) (co) (ov) ++ T9) := by
  refine g_aload_n C d_L_law_120 1 rfl rfl ?_
  refine g_aload_n C d_L_law_121 0 rfl rfl ?_
  refine g_iload C d_L_law_122 4 rfl ?_
  refine g_iconst C (v := nI 1) d_L_law_124 rfl ?_
  refine g_iadd C (v := nI (i + 1)) d_L_law_125 (nI_add _ _) ?_
  refine g_xald C hX hbl hbA (i := i + 1) (v := x) (by omega) (by omega) e1 d_L_law_126 ?_
  refine g_aload_n C d_L_law_127 0 rfl rfl ?_
  refine g_iload C d_L_law_128 4 rfl ?_
  refine g_iconst C (v := nI 2) d_L_law_130 rfl ?_
  refine g_iadd C (v := nI (i + 2)) d_L_law_131 (nI_add _ _) ?_
  refine g_xald C hX hbl hbA (i := i + 2) (v := v2) (by omega) (by omega) e2 d_L_law_132 ?_
  refine g_i2l C (v := (v2).toInt64) d_L_law_133 rfl ?_
  refine g_bipush C (v := nI 32) d_L_law_134 rfl ?_
  refine g_lshl C (v := ((v2).toInt64) <<< (((nI (32))).toInt64 &&& 63)) d_L_law_136 rfl ?_
  refine g_aload_n C d_L_law_137 0 rfl rfl ?_
  refine g_iload C d_L_law_138 4 rfl ?_
  refine g_iconst C (v := nI 3) d_L_law_140 rfl ?_
  refine g_iadd C (v := nI (i + 3)) d_L_law_141 (nI_add _ _) ?_
  refine g_xald C hX hbl hbA (i := i + 3) (v := v3) (by omega) (by omega) e3 d_L_law_142 ?_
  refine g_i2l C (v := (v3).toInt64) d_L_law_143 rfl ?_
  refine g_ldc2 C (v := lN 4294967295) tw_588 d_L_law_144 ?_
  refine g_land C (v := ((v3).toInt64) &&& (lN (4294967295))) d_L_law_147 rfl ?_
  refine g_lor C (v := n8) d_L_law_148 hn8 ?_
  refine g_aload_n C d_L_law_149 3 rfl rfl ?_
  refine g_callSw C (n := 4) (ws' := (LW cs b k bc bl bx a al ac ah an g gr w w1 w2 w3 w4 w5 w6 w7 w8 w9 wa wb wd o9 (wr) (lv9) (ct) (lo) (ex) (rl) (fl) (ln) (cn) (sn) (xn) (st) (sz) (rb) (mc) (rl) (sz) (wr) (lv9) (ct) (ln) (rg) (ml) (mx) (bt) (od) (rw) (ms) (sm) (bf) (co) (ov) ++ T9)) (As := [.ref b, .int (x), .long (n8), .ref o9]) (rest := []) (m_L_count_1 l hl9 D cs b k bc bl bx a al ac ah an g gr (ct) (lo) (ex) (wr) (lv9) (rl) (ln) (cn) (sn) (xn) (fl) (rb) (st) (sz)  o9 (ov) x hx n8) tw_204 tw_205 tw_0 tw_206 xf xs9 (by decide +kernel) rfl ⟨rfl, rfl, by decide, hce, hsl⟩ rfl [0, 1, 2, 3, 4, 5, 6, 7, 8, 9, 10, 24] rfl rfl (by decide) (Nat.le_of_ble_eq_true rfl) rfl d_L_law_150 ?_
  refine g_istore C (lv' := [(5, .int (nI (1))), (0, .ref zz), (1, .ref b), (2, .ref w), (3, .ref o9), (4, .int (nI (i)))]) d_L_law_153 (by decide) rfl ?_
  refine g_aload_n C d_L_law_155 3 rfl rfl ?_
  refine g_aload_n C d_L_law_156 1 rfl rfl ?_
  refine g_iload C d_L_law_157 5 rfl ?_
  refine g_iconst C (v := nI 1) d_L_law_159 rfl ?_
  refine g_iadd C (v := nI (i + 1)) d_L_law_160 (nI_add _ _) ?_
  refine g_xald C hX hbl hbA (i := i + 1) (v := x) (by omega) (by omega) e1 d_L_law_161 ?_
  refine g_aload_n C d_L_law_162 1 rfl rfl ?_
  refine g_iload C d_L_law_163 5 rfl ?_
  refine g_iconst C (v := nI 2) d_L_law_165 rfl ?_
  refine g_iadd C (v := nI (i + 2)) d_L_law_166 (nI_add _ _) ?_
  refine g_xald C hX hbl hbA (i := i + 2) (v := v2) (by omega) (by omega) e2 d_L_law_167 ?_
  refine g_i2l C (v := (v2).toInt64) d_L_law_168 rfl ?_
  refine g_bipush C (v := nI 32) d_L_law_169 rfl ?_
  refine g_lshl C (v := ((v2).toInt64) <<< (((nI (32))).toInt64 &&& 63)) d_L_law_171 rfl ?_
  refine g_aload_n C d_L_law_172 1 rfl rfl ?_
  refine g_iload C d_L_law_173 5 rfl ?_
  refine g_iconst C (v := nI 3) d_L_law_175 rfl ?_
  refine g_iadd C (v := nI (i + 3)) d_L_law_176 (nI_add _ _) ?_
  refine g_xald C hX hbl hbA (i := i + 3) (v := v3) (by omega) (by omega) e3 d_L_law_177 ?_
  refine g_i2l C (v := (v3).toInt64) d_L_law_178 rfl ?_
  refine g_ldc2 C (v := lN 4294967295) tw_588 d_L_law_179 ?_
  refine g_land C (v := ((v3).toInt64) &&& (lN (4294967295))) d_L_law_182 rfl ?_
  refine g_lor C (v := n8) d_L_law_183 hn8 ?_
  refine g_callVi C (n := 2) (ws' := (LW cs b k bc bl bx a al ac ah an g gr w w1 w2 w3 w4 w5 w6 w7 w8 w9 wa wb wd o9 (wr) (lv9) (ct) (lo) (ex) (rl) (fl) (ln) (cn) (sn) (xn) (st) (sz) (rb) (1) (rl) (sz) (wr) (lv9) (ct) (ln) (rg) (ml) (mx) (bt) (od) (rw) (ms) (sm) (bf) (co) (ov) ++ T9)) (As := [.int (x), .long (n8)]) (rest := []) (m_M_count_1 l D cs w w1 w2 w3 w4 w5 w6 w7 w8 w9 wa wb wd (mc) (rl) (sz) (wr) (lv9) (ct) x hx n8) tw_493 tw_494 tw_495 tw_6 tw_496 rfl 0 rfl rfl (by decide +kernel) rfl ⟨rfl, rfl, by decide, hce, hsl⟩ rfl [11, 12] rfl rfl (by decide) (Nat.le_of_ble_eq_true rfl) rfl d_L_law_184 ?_
  refine g_istore C (lv' := [(6, .int (nI (0))), (5, .int (nI (1))), (0, .ref zz), (1, .ref b), (2, .ref w), (3, .ref o9), (4, .int (nI (i)))]) d_L_law_187 (by decide) rfl ?_
  refine g_aload_n C d_L_law_189 4 rfl rfl ?_
  refine g_callVi C (n := 0) (ws' := (LW cs b k bc bl bx a al ac ah an g gr w w1 w2 w3 w4 w5 w6 w7 w8 w9 wa wb wd o9 (wr) (lv9) (ct) (lo) (ex) (rl) (fl) (ln) (cn) (sn) (xn) (st) (sz) (rb) (1) (rl) (sz) (wr) (lv9) (ct) (ln) (rg) (ml) (mx) (bt) (od) (rw) (ms) (sm) (bf) (co) (ov) ++ T9)) (As := []) (rest := []) (m_M_thrown l D cs w w1 w2 w3 w4 w5 w6 w7 w8 w9 wa wb wd (1) (rl) (sz) (wr) (lv9)  ) tw_489 tw_490 tw_491 tw_6 tw_492 rfl 0 rfl rfl (by decide +kernel) rfl ⟨rfl, rfl, by decide, hce, hsl⟩ rfl [11] rfl rfl (by decide) (Nat.le_of_ble_eq_true rfl) rfl d_L_law_190 ?_
  refine g_iload C d_L_law_193 1 rfl ?_
  refine n_icmp_eq C 200 d_L_law_195 (by decide) (by omega) (by omega) (fun _ => ?_) (fun h => absurd h (by omega))
  refine g_iload C d_L_law_200 1 rfl ?_
  refine n_if_ne C 224 d_L_law_202 (by decide) (by omega) (fun _ => ?_) (fun h => absurd h (by omega))
  refine g_goto C 794 d_L_law_224 (by decide) ?_
  refine g_lv (lv' := [(0, .ref zz), (1, .ref b), (2, .ref w), (3, .ref o9), (4, .int (nI (i)))]) [2, 3, 4, 5, 6] rfl ?_
  exact K
set_option maxHeartbeats 4000000 in
set_option maxRecDepth 100000 in
theorem s_count_2 {p : Program} {l : Launch} {e : Env} {s : State} {m : MethodId} {args : Array Value} {below : List Frame} {meth : Method} {c : Code} {cells slots : Nat} {Q : State → Prop} {A : Nat → Prop} {D : va_G} {cs : ClassId × ClassId × ClassId × ClassId} (hl9 : l.stackTraces = false) (C : CX p s m args c code 8 RL D cs A) (b k bc bl bx a al ac ah an g gr : Nat) (ct : Nat → Nat) (lo ex : Nat → Int32) (wr : Nat) (lv9 : Int64) (rl : Nat) (ln cn sn xn : Nat → Nat) (fl : Nat) (rb : Nat → Nat) (st sz : Nat) (od : Nat → Nat) (T9 : va_W) (w w1 w2 w3 w4 w5 w6 w7 w8 w9 wa wb wd mc : Nat) (rg bt ms sm bf co : Nat → Nat) (ml mx rw : Nat → Int32) (o9 : Nat) (ov : Nat → Int64) (zz L i : Nat) (xs : Nat → Int32) (hX : va_X zz L xs s s.heap) (hbl : zz < s.heap.size) (hbA : ¬ A zz) (hL : L ≤ 2561) (hiL : i + 5 ≤ L) (xf : XF s) (xs9 : XS A s s.heap) (hce : cells + 1 + 0 ≤ room_1.cells) (hsl : slots + 6 + 0 ≤ room_1.slots) (y : Nat) (hy : y < 48) (v2 v3 : Int32) (n8 : Int64) (hx : n8 < lN 0 ∨ lN 1000000000 < n8) (e1 : xs (i + 1) = nI y) (e2 : xs (i + 2) = v2) (e3 : xs (i + 3) = v3) (hn8 : cval v2 v3 = n8)
    (K : GO p l e room_1 s m args below meth c (cells + 1) (slots + 6) Q A D 8 794 [(0, .ref zz), (1, .ref b), (2, .ref w), (3, .ref o9), (4, .int (nI (i)))] [] (LW cs b k bc bl bx a al ac ah an g gr w w1 w2 w3 w4 w5 w6 w7 w8 w9 wa wb wd o9 (wr) (lv9) (ct) (lo) (ex) (rl) (fl) (ln) (cn) (sn) (xn) (st) (sz) (rb) (2) (rl) (sz) (wr) (lv9) (ct) (ln) (rg) (ml) (mx) (bt) (od) (rw) (ms) (sm) (bf) (co) (ov) ++ T9))
    : GO p l e room_1 s m args below meth c cells slots Q A D 8 120 [(0, .ref zz), (1, .ref b), (2, .ref w), (3, .ref o9), (4, .int (nI (i)))] [] (LW cs b k bc bl bx a al ac ah an g gr w w1 w2 w3 w4 w5 w6 w7 w8 w9 wa wb wd o9 (wr) (lv9) (ct) (lo) (ex) (rl) (fl) (ln) (cn) (sn) (xn) (st) (sz) (rb) (mc) (rl) (sz) (wr) (lv9) (ct) (ln) (rg) (ml) (mx) (bt) (od) (rw) (ms) (sm) (bf) (co) (ov) ++ T9) := by
  refine g_aload_n C d_L_law_120 1 rfl rfl ?_
  refine g_aload_n C d_L_law_121 0 rfl rfl ?_
  refine g_iload C d_L_law_122 4 rfl ?_
  refine g_iconst C (v := nI 1) d_L_law_124 rfl ?_
  refine g_iadd C (v := nI (i + 1)) d_L_law_125 (nI_add _ _) ?_
  refine g_xald C hX hbl hbA (i := i + 1) (v := nI (y)) (by omega) (by omega) e1 d_L_law_126 ?_
  refine g_aload_n C d_L_law_127 0 rfl rfl ?_
  refine g_iload C d_L_law_128 4 rfl ?_
  refine g_iconst C (v := nI 2) d_L_law_130 rfl ?_
  refine g_iadd C (v := nI (i + 2)) d_L_law_131 (nI_add _ _) ?_
  refine g_xald C hX hbl hbA (i := i + 2) (v := v2) (by omega) (by omega) e2 d_L_law_132 ?_
  refine g_i2l C (v := (v2).toInt64) d_L_law_133 rfl ?_
  refine g_bipush C (v := nI 32) d_L_law_134 rfl ?_
  refine g_lshl C (v := ((v2).toInt64) <<< (((nI (32))).toInt64 &&& 63)) d_L_law_136 rfl ?_
  refine g_aload_n C d_L_law_137 0 rfl rfl ?_
  refine g_iload C d_L_law_138 4 rfl ?_
  refine g_iconst C (v := nI 3) d_L_law_140 rfl ?_
  refine g_iadd C (v := nI (i + 3)) d_L_law_141 (nI_add _ _) ?_
  refine g_xald C hX hbl hbA (i := i + 3) (v := v3) (by omega) (by omega) e3 d_L_law_142 ?_
  refine g_i2l C (v := (v3).toInt64) d_L_law_143 rfl ?_
  refine g_ldc2 C (v := lN 4294967295) tw_588 d_L_law_144 ?_
  refine g_land C (v := ((v3).toInt64) &&& (lN (4294967295))) d_L_law_147 rfl ?_
  refine g_lor C (v := n8) d_L_law_148 hn8 ?_
  refine g_aload_n C d_L_law_149 3 rfl rfl ?_
  refine g_callSw C (n := 4) (ws' := (LW cs b k bc bl bx a al ac ah an g gr w w1 w2 w3 w4 w5 w6 w7 w8 w9 wa wb wd o9 (wr) (lv9) (ct) (lo) (ex) (rl) (fl) (ln) (cn) (sn) (xn) (st) (sz) (rb) (mc) (rl) (sz) (wr) (lv9) (ct) (ln) (rg) (ml) (mx) (bt) (od) (rw) (ms) (sm) (bf) (co) (ov) ++ T9)) (As := [.ref b, .int (nI (y)), .long (n8), .ref o9]) (rest := []) (m_L_count_2 l hl9 D cs b k bc bl bx a al ac ah an g gr (ct) (lo) (ex) (wr) (lv9) (rl) (ln) (cn) (sn) (xn) (fl) (rb) (st) (sz)  o9 (ov) y hy n8 hx) tw_204 tw_205 tw_0 tw_206 xf xs9 (by decide +kernel) rfl ⟨rfl, rfl, by decide, hce, hsl⟩ rfl [0, 1, 2, 3, 4, 5, 6, 7, 8, 9, 10, 24] rfl rfl (by decide) (Nat.le_of_ble_eq_true rfl) rfl d_L_law_150 ?_
  refine g_istore C (lv' := [(5, .int (nI (2))), (0, .ref zz), (1, .ref b), (2, .ref w), (3, .ref o9), (4, .int (nI (i)))]) d_L_law_153 (by decide) rfl ?_
  refine g_aload_n C d_L_law_155 3 rfl rfl ?_
  refine g_aload_n C d_L_law_156 1 rfl rfl ?_
  refine g_iload C d_L_law_157 5 rfl ?_
  refine g_iconst C (v := nI 1) d_L_law_159 rfl ?_
  refine g_iadd C (v := nI (i + 1)) d_L_law_160 (nI_add _ _) ?_
  refine g_xald C hX hbl hbA (i := i + 1) (v := nI (y)) (by omega) (by omega) e1 d_L_law_161 ?_
  refine g_aload_n C d_L_law_162 1 rfl rfl ?_
  refine g_iload C d_L_law_163 5 rfl ?_
  refine g_iconst C (v := nI 2) d_L_law_165 rfl ?_
  refine g_iadd C (v := nI (i + 2)) d_L_law_166 (nI_add _ _) ?_
  refine g_xald C hX hbl hbA (i := i + 2) (v := v2) (by omega) (by omega) e2 d_L_law_167 ?_
  refine g_i2l C (v := (v2).toInt64) d_L_law_168 rfl ?_
  refine g_bipush C (v := nI 32) d_L_law_169 rfl ?_
  refine g_lshl C (v := ((v2).toInt64) <<< (((nI (32))).toInt64 &&& 63)) d_L_law_171 rfl ?_
  refine g_aload_n C d_L_law_172 1 rfl rfl ?_
  refine g_iload C d_L_law_173 5 rfl ?_
  refine g_iconst C (v := nI 3) d_L_law_175 rfl ?_
  refine g_iadd C (v := nI (i + 3)) d_L_law_176 (nI_add _ _) ?_
  refine g_xald C hX hbl hbA (i := i + 3) (v := v3) (by omega) (by omega) e3 d_L_law_177 ?_
  refine g_i2l C (v := (v3).toInt64) d_L_law_178 rfl ?_
  refine g_ldc2 C (v := lN 4294967295) tw_588 d_L_law_179 ?_
  refine g_land C (v := ((v3).toInt64) &&& (lN (4294967295))) d_L_law_182 rfl ?_
  refine g_lor C (v := n8) d_L_law_183 hn8 ?_
  refine g_callVi C (n := 2) (ws' := (LW cs b k bc bl bx a al ac ah an g gr w w1 w2 w3 w4 w5 w6 w7 w8 w9 wa wb wd o9 (wr) (lv9) (ct) (lo) (ex) (rl) (fl) (ln) (cn) (sn) (xn) (st) (sz) (rb) (2) (rl) (sz) (wr) (lv9) (ct) (ln) (rg) (ml) (mx) (bt) (od) (rw) (ms) (sm) (bf) (co) (ov) ++ T9)) (As := [.int (nI (y)), .long (n8)]) (rest := []) (m_M_count_2 l D cs w w1 w2 w3 w4 w5 w6 w7 w8 w9 wa wb wd (mc) (rl) (sz) (wr) (lv9) (ct) y hy n8 hx) tw_493 tw_494 tw_495 tw_6 tw_496 rfl 0 rfl rfl (by decide +kernel) rfl ⟨rfl, rfl, by decide, hce, hsl⟩ rfl [11, 12] rfl rfl (by decide) (Nat.le_of_ble_eq_true rfl) rfl d_L_law_184 ?_
  refine g_istore C (lv' := [(6, .int (nI (0))), (5, .int (nI (2))), (0, .ref zz), (1, .ref b), (2, .ref w), (3, .ref o9), (4, .int (nI (i)))]) d_L_law_187 (by decide) rfl ?_
  refine g_aload_n C d_L_law_189 4 rfl rfl ?_
  refine g_callVi C (n := 0) (ws' := (LW cs b k bc bl bx a al ac ah an g gr w w1 w2 w3 w4 w5 w6 w7 w8 w9 wa wb wd o9 (wr) (lv9) (ct) (lo) (ex) (rl) (fl) (ln) (cn) (sn) (xn) (st) (sz) (rb) (2) (rl) (sz) (wr) (lv9) (ct) (ln) (rg) (ml) (mx) (bt) (od) (rw) (ms) (sm) (bf) (co) (ov) ++ T9)) (As := []) (rest := []) (m_M_thrown l D cs w w1 w2 w3 w4 w5 w6 w7 w8 w9 wa wb wd (2) (rl) (sz) (wr) (lv9)  ) tw_489 tw_490 tw_491 tw_6 tw_492 rfl 0 rfl rfl (by decide +kernel) rfl ⟨rfl, rfl, by decide, hce, hsl⟩ rfl [11] rfl rfl (by decide) (Nat.le_of_ble_eq_true rfl) rfl d_L_law_190 ?_
  refine g_iload C d_L_law_193 1 rfl ?_
  refine n_icmp_eq C 200 d_L_law_195 (by decide) (by omega) (by omega) (fun _ => ?_) (fun h => absurd h (by omega))
  refine g_iload C d_L_law_200 1 rfl ?_
  refine n_if_ne C 224 d_L_law_202 (by decide) (by omega) (fun _ => ?_) (fun h => absurd h (by omega))
  refine g_goto C 794 d_L_law_224 (by decide) ?_
  refine g_lv (lv' := [(0, .ref zz), (1, .ref b), (2, .ref w), (3, .ref o9), (4, .int (nI (i)))]) [2, 3, 4, 5, 6] rfl ?_
  exact K
set_option maxHeartbeats 4000000 in
set_option maxRecDepth 100000 in
theorem s_length_0 {p : Program} {l : Launch} {e : Env} {s : State} {m : MethodId} {args : Array Value} {below : List Frame} {meth : Method} {c : Code} {cells slots : Nat} {Q : State → Prop} {A : Nat → Prop} {D : va_G} {cs : ClassId × ClassId × ClassId × ClassId} (C : CX p s m args c code 8 RL D cs A) (b k bc bl bx a al ac ah an g gr : Nat) (ct : Nat → Nat) (lo ex : Nat → Int32) (wr : Nat) (lv9 : Int64) (rl : Nat) (ln cn sn xn : Nat → Nat) (fl : Nat) (rb : Nat → Nat) (st sz : Nat) (od : Nat → Nat) (T9 : va_W) (w w1 w2 w3 w4 w5 w6 w7 w8 w9 wa wb wd mc : Nat) (rg bt ms sm bf co : Nat → Nat) (ml mx rw : Nat → Int32) (o9 : Nat) (ov : Nat → Int64) (zz L i : Nat) (xs : Nat → Int32) (hX : va_X zz L xs s s.heap) (hbl : zz < s.heap.size) (hbA : ¬ A zz) (hL : L ≤ 2561) (hiL : i + 5 ≤ L) (xf : XF s) (xs9 : XS A s s.heap) (hce : cells + 1 + 0 ≤ room_1.cells) (hsl : slots + 6 + 0 ≤ room_1.slots) (y : Nat) (hy : y < 48) (hl : ∀ j, j < 48 → ln j ≤ 16) (e1 : xs (i + 1) = nI y)
    (K : GO p l e room_1 s m args below meth c (cells + 1) (slots + 6) Q A D 8 794 [(0, .ref zz), (1, .ref b), (2, .ref w), (3, .ref o9), (4, .int (nI (i)))] [] (LW cs b k bc bl bx a al ac ah an g gr w w1 w2 w3 w4 w5 w6 w7 w8 w9 wa wb wd o9 (wr) (lv9) (ct) (lo) (ex) (rl) (fl) (ln) (cn) (sn) (xn) (st) (sz) (rb) (0) (rl) (sz) (wr) (lv9) (ct) (ln) (rg) (ml) (mx) (bt) (od) (rw) (ms) (sm) (bf) (co) ((fun _ => lN (ln y))) ++ T9))
    : GO p l e room_1 s m args below meth c cells slots Q A D 8 283 [(0, .ref zz), (1, .ref b), (2, .ref w), (3, .ref o9), (4, .int (nI (i)))] [] (LW cs b k bc bl bx a al ac ah an g gr w w1 w2 w3 w4 w5 w6 w7 w8 w9 wa wb wd o9 (wr) (lv9) (ct) (lo) (ex) (rl) (fl) (ln) (cn) (sn) (xn) (st) (sz) (rb) (mc) (rl) (sz) (wr) (lv9) (ct) (ln) (rg) (ml) (mx) (bt) (od) (rw) (ms) (sm) (bf) (co) (ov) ++ T9) := by
  refine g_aload_n C d_L_law_283 1 rfl rfl ?_
  refine g_aload_n C d_L_law_284 0 rfl rfl ?_
  refine g_iload C d_L_law_285 4 rfl ?_
  refine g_iconst C (v := nI 1) d_L_law_287 rfl ?_
  refine g_iadd C (v := nI (i + 1)) d_L_law_288 (nI_add _ _) ?_
  refine g_xald C hX hbl hbA (i := i + 1) (v := nI (y)) (by omega) (by omega) e1 d_L_law_289 ?_
  refine g_aload_n C d_L_law_290 3 rfl rfl ?_
  refine g_callSw C (n := 3) (ws' := (LW cs b k bc bl bx a al ac ah an g gr w w1 w2 w3 w4 w5 w6 w7 w8 w9 wa wb wd o9 (wr) (lv9) (ct) (lo) (ex) (rl) (fl) (ln) (cn) (sn) (xn) (st) (sz) (rb) (mc) (rl) (sz) (wr) (lv9) (ct) (ln) (rg) (ml) (mx) (bt) (od) (rw) (ms) (sm) (bf) (co) ((fun _ => lN (ln y))) ++ T9)) (As := [.ref b, .int (nI (y)), .ref o9]) (rest := []) (m_L_length_0 l D cs b k bc bl bx a al ac ah an g gr (ct) (lo) (ex) (wr) (lv9) (rl) (ln) (cn) (sn) (xn) (fl) (rb) (st) (sz)  o9 (ov) y hy hl) tw_330 tw_331 tw_0 tw_332 xf xs9 (by decide +kernel) rfl ⟨rfl, rfl, by decide, hce, hsl⟩ rfl [0, 1, 2, 3, 4, 5, 6, 7, 8, 9, 10, 24] rfl rfl (by decide) (Nat.le_of_ble_eq_true rfl) rfl d_L_law_291 ?_
  refine g_istore C (lv' := [(5, .int (nI (0))), (0, .ref zz), (1, .ref b), (2, .ref w), (3, .ref o9), (4, .int (nI (i)))]) d_L_law_294 (by decide) rfl ?_
  refine g_aload_n C d_L_law_296 3 rfl rfl ?_
  refine g_aload_n C d_L_law_297 1 rfl rfl ?_
  refine g_iload C d_L_law_298 5 rfl ?_
  refine g_iconst C (v := nI 1) d_L_law_300 rfl ?_
  refine g_iadd C (v := nI (i + 1)) d_L_law_301 (nI_add _ _) ?_
  refine g_xald C hX hbl hbA (i := i + 1) (v := nI (y)) (by omega) (by omega) e1 d_L_law_302 ?_
  refine g_callVi C (n := 1) (ws' := (LW cs b k bc bl bx a al ac ah an g gr w w1 w2 w3 w4 w5 w6 w7 w8 w9 wa wb wd o9 (wr) (lv9) (ct) (lo) (ex) (rl) (fl) (ln) (cn) (sn) (xn) (st) (sz) (rb) (0) (rl) (sz) (wr) (lv9) (ct) (ln) (rg) (ml) (mx) (bt) (od) (rw) (ms) (sm) (bf) (co) ((fun _ => lN (ln y))) ++ T9)) (As := [.int (nI (y))]) (rest := []) (m_M_length_0 l D cs w w1 w2 w3 w4 w5 w6 w7 w8 w9 wa wb wd (mc) (rl) (sz) (wr) (lv9) (ln) y hy) tw_517 tw_518 tw_519 tw_6 tw_520 rfl 0 rfl rfl (by decide +kernel) rfl ⟨rfl, rfl, by decide, hce, hsl⟩ rfl [11, 13] rfl rfl (by decide) (Nat.le_of_ble_eq_true rfl) rfl d_L_law_303 ?_
  refine g_istore C (lv' := [(6, .int (nI (ln (y)))), (5, .int (nI (0))), (0, .ref zz), (1, .ref b), (2, .ref w), (3, .ref o9), (4, .int (nI (i)))]) d_L_law_306 (by decide) rfl ?_
  refine g_aload_n C d_L_law_308 4 rfl rfl ?_
  refine g_callVi C (n := 0) (ws' := (LW cs b k bc bl bx a al ac ah an g gr w w1 w2 w3 w4 w5 w6 w7 w8 w9 wa wb wd o9 (wr) (lv9) (ct) (lo) (ex) (rl) (fl) (ln) (cn) (sn) (xn) (st) (sz) (rb) (0) (rl) (sz) (wr) (lv9) (ct) (ln) (rg) (ml) (mx) (bt) (od) (rw) (ms) (sm) (bf) (co) ((fun _ => lN (ln y))) ++ T9)) (As := []) (rest := []) (m_M_thrown l D cs w w1 w2 w3 w4 w5 w6 w7 w8 w9 wa wb wd (0) (rl) (sz) (wr) (lv9)  ) tw_489 tw_490 tw_491 tw_6 tw_492 rfl 0 rfl rfl (by decide +kernel) rfl ⟨rfl, rfl, by decide, hce, hsl⟩ rfl [11] rfl rfl (by decide) (Nat.le_of_ble_eq_true rfl) rfl d_L_law_309 ?_
  refine g_iload C d_L_law_312 1 rfl ?_
  refine n_icmp_eq C 319 d_L_law_314 (by decide) (by omega) (by omega) (fun _ => ?_) (fun h => absurd h (by omega))
  refine g_iload C d_L_law_319 1 rfl ?_
  refine n_if_ne C 336 d_L_law_321 (by decide) (by omega) (fun h => absurd h (by omega)) (fun _ => ?_)
  refine g_aload_n C d_L_law_324 5 rfl rfl ?_
  refine g_iconst C (v := nI 0) d_L_law_325 rfl ?_
  refine g_lald C 24 rfl (by omega) (by decide) d_L_law_326 ?_
  refine g_iload C d_L_law_327 0 rfl ?_
  refine g_i2l C (v := lN (ln (y))) d_L_law_329 (nI_l (by have := hl y hy; omega)) ?_
  refine g_lcmp_eq C 336 d_L_law_330 d_L_law_331 (by decide) (fun _ => ?_) (fun h => absurd h (not_not_intro rfl))
  refine g_goto C 794 d_L_law_336 (by decide) ?_
  refine g_lv (lv' := [(0, .ref zz), (1, .ref b), (2, .ref w), (3, .ref o9), (4, .int (nI (i)))]) [2, 3, 4, 5, 6] rfl ?_
  exact K
set_option maxHeartbeats 4000000 in
set_option maxRecDepth 100000 in
theorem s_length_1 {p : Program} {l : Launch} {e : Env} {s : State} {m : MethodId} {args : Array Value} {below : List Frame} {meth : Method} {c : Code} {cells slots : Nat} {Q : State → Prop} {A : Nat → Prop} {D : va_G} {cs : ClassId × ClassId × ClassId × ClassId} (hl9 : l.stackTraces = false) (C : CX p s m args c code 8 RL D cs A) (b k bc bl bx a al ac ah an g gr : Nat) (ct : Nat → Nat) (lo ex : Nat → Int32) (wr : Nat) (lv9 : Int64) (rl : Nat) (ln cn sn xn : Nat → Nat) (fl : Nat) (rb : Nat → Nat) (st sz : Nat) (od : Nat → Nat) (T9 : va_W) (w w1 w2 w3 w4 w5 w6 w7 w8 w9 wa wb wd mc : Nat) (rg bt ms sm bf co : Nat → Nat) (ml mx rw : Nat → Int32) (o9 : Nat) (ov : Nat → Int64) (zz L i : Nat) (xs : Nat → Int32) (hX : va_X zz L xs s s.heap) (hbl : zz < s.heap.size) (hbA : ¬ A zz) (hL : L ≤ 2561) (hiL : i + 5 ≤ L) (xf : XF s) (xs9 : XS A s s.heap) (hce : cells + 1 + 0 ≤ room_1.cells) (hsl : slots + 6 + 0 ≤ room_1.slots) (x : Int32) (hx : x < 0 ∨ ¬ x < nI 48) (e1 : xs (i + 1) = x)
    (K : GO p l e room_1 s m args below meth c (cells + 1) (slots + 6) Q A D 8 794 [(0, .ref zz), (1, .ref b), (2, .ref w), (3, .ref o9), (4, .int (nI (i)))] [] (LW cs b k bc bl bx a al ac ah an g gr w w1 w2 w3 w4 w5 w6 w7 w8 w9 wa wb wd o9 (wr) (lv9) (ct) (lo) (ex) (rl) (fl) (ln) (cn) (sn) (xn) (st) (sz) (rb) (1) (rl) (sz) (wr) (lv9) (ct) (ln) (rg) (ml) (mx) (bt) (od) (rw) (ms) (sm) (bf) (co) (ov) ++ T9))
    : GO p l e room_1 s m args below meth c cells slots Q A D 8 283 [(0, .ref zz), (1, .ref b), (2, .ref w), (3, .ref o9), (4, .int (nI (i)))] [] (LW cs b k bc bl bx a al ac ah an g gr w w1 w2 w3 w4 w5 w6 w7 w8 w9 wa wb wd o9 (wr) (lv9) (ct) (lo) (ex) (rl) (fl) (ln) (cn) (sn) (xn) (st) (sz) (rb) (mc) (rl) (sz) (wr) (lv9) (ct) (ln) (rg) (ml) (mx) (bt) (od) (rw) (ms) (sm) (bf) (co) (ov) ++ T9) := by
  refine g_aload_n C d_L_law_283 1 rfl rfl ?_
  refine g_aload_n C d_L_law_284 0 rfl rfl ?_
  refine g_iload C d_L_law_285 4 rfl ?_
  refine g_iconst C (v := nI 1) d_L_law_287 rfl ?_
  refine g_iadd C (v := nI (i + 1)) d_L_law_288 (nI_add _ _) ?_
  refine g_xald C hX hbl hbA (i := i + 1) (v := x) (by omega) (by omega) e1 d_L_law_289 ?_
  refine g_aload_n C d_L_law_290 3 rfl rfl ?_
  refine g_callSw C (n := 3) (ws' := (LW cs b k bc bl bx a al ac ah an g gr w w1 w2 w3 w4 w5 w6 w7 w8 w9 wa wb wd o9 (wr) (lv9) (ct) (lo) (ex) (rl) (fl) (ln) (cn) (sn) (xn) (st) (sz) (rb) (mc) (rl) (sz) (wr) (lv9) (ct) (ln) (rg) (ml) (mx) (bt) (od) (rw) (ms) (sm) (bf) (co) (ov) ++ T9)) (As := [.ref b, .int (x), .ref o9]) (rest := []) (m_L_length_1 l hl9 D cs b k bc bl bx a al ac ah an g gr (ct) (lo) (ex) (wr) (lv9) (rl) (ln) (cn) (sn) (xn) (fl) (rb) (st) (sz)  o9 (ov) x hx) tw_330 tw_331 tw_0 tw_332 xf xs9 (by decide +kernel) rfl ⟨rfl, rfl, by decide, hce, hsl⟩ rfl [0, 1, 2, 3, 4, 5, 6, 7, 8, 9, 10, 24] rfl rfl (by decide) (Nat.le_of_ble_eq_true rfl) rfl d_L_law_291 ?_
  refine g_istore C (lv' := [(5, .int (nI (1))), (0, .ref zz), (1, .ref b), (2, .ref w), (3, .ref o9), (4, .int (nI (i)))]) d_L_law_294 (by decide) rfl ?_
  refine g_aload_n C d_L_law_296 3 rfl rfl ?_
  refine g_aload_n C d_L_law_297 1 rfl rfl ?_
  refine g_iload C d_L_law_298 5 rfl ?_
  refine g_iconst C (v := nI 1) d_L_law_300 rfl ?_
  refine g_iadd C (v := nI (i + 1)) d_L_law_301 (nI_add _ _) ?_
  refine g_xald C hX hbl hbA (i := i + 1) (v := x) (by omega) (by omega) e1 d_L_law_302 ?_
  refine g_callVi C (n := 1) (ws' := (LW cs b k bc bl bx a al ac ah an g gr w w1 w2 w3 w4 w5 w6 w7 w8 w9 wa wb wd o9 (wr) (lv9) (ct) (lo) (ex) (rl) (fl) (ln) (cn) (sn) (xn) (st) (sz) (rb) (1) (rl) (sz) (wr) (lv9) (ct) (ln) (rg) (ml) (mx) (bt) (od) (rw) (ms) (sm) (bf) (co) (ov) ++ T9)) (As := [.int (x)]) (rest := []) (m_M_length_1 l D cs w w1 w2 w3 w4 w5 w6 w7 w8 w9 wa wb wd (mc) (rl) (sz) (wr) (lv9) (ln) x hx) tw_517 tw_518 tw_519 tw_6 tw_520 rfl 0 rfl rfl (by decide +kernel) rfl ⟨rfl, rfl, by decide, hce, hsl⟩ rfl [11, 13] rfl rfl (by decide) (Nat.le_of_ble_eq_true rfl) rfl d_L_law_303 ?_
  refine g_istore C (lv' := [(6, .int (nI (0))), (5, .int (nI (1))), (0, .ref zz), (1, .ref b), (2, .ref w), (3, .ref o9), (4, .int (nI (i)))]) d_L_law_306 (by decide) rfl ?_
  refine g_aload_n C d_L_law_308 4 rfl rfl ?_
  refine g_callVi C (n := 0) (ws' := (LW cs b k bc bl bx a al ac ah an g gr w w1 w2 w3 w4 w5 w6 w7 w8 w9 wa wb wd o9 (wr) (lv9) (ct) (lo) (ex) (rl) (fl) (ln) (cn) (sn) (xn) (st) (sz) (rb) (1) (rl) (sz) (wr) (lv9) (ct) (ln) (rg) (ml) (mx) (bt) (od) (rw) (ms) (sm) (bf) (co) (ov) ++ T9)) (As := []) (rest := []) (m_M_thrown l D cs w w1 w2 w3 w4 w5 w6 w7 w8 w9 wa wb wd (1) (rl) (sz) (wr) (lv9)  ) tw_489 tw_490 tw_491 tw_6 tw_492 rfl 0 rfl rfl (by decide +kernel) rfl ⟨rfl, rfl, by decide, hce, hsl⟩ rfl [11] rfl rfl (by decide) (Nat.le_of_ble_eq_true rfl) rfl d_L_law_309 ?_
  refine g_iload C d_L_law_312 1 rfl ?_
  refine n_icmp_eq C 319 d_L_law_314 (by decide) (by omega) (by omega) (fun _ => ?_) (fun h => absurd h (by omega))
  refine g_iload C d_L_law_319 1 rfl ?_
  refine n_if_ne C 336 d_L_law_321 (by decide) (by omega) (fun _ => ?_) (fun h => absurd h (by omega))
  refine g_goto C 794 d_L_law_336 (by decide) ?_
  refine g_lv (lv' := [(0, .ref zz), (1, .ref b), (2, .ref w), (3, .ref o9), (4, .int (nI (i)))]) [2, 3, 4, 5, 6] rfl ?_
  exact K
set_option maxHeartbeats 4000000 in
set_option maxRecDepth 100000 in
theorem s_code_0 {p : Program} {l : Launch} {e : Env} {s : State} {m : MethodId} {args : Array Value} {below : List Frame} {meth : Method} {c : Code} {cells slots : Nat} {Q : State → Prop} {A : Nat → Prop} {D : va_G} {cs : ClassId × ClassId × ClassId × ClassId} (C : CX p s m args c code 8 RL D cs A) (b k bc bl bx a al ac ah an g gr : Nat) (ct : Nat → Nat) (lo ex : Nat → Int32) (wr : Nat) (lv9 : Int64) (rl : Nat) (ln cn sn xn : Nat → Nat) (fl : Nat) (rb : Nat → Nat) (st sz : Nat) (od : Nat → Nat) (T9 : va_W) (w w1 w2 w3 w4 w5 w6 w7 w8 w9 wa wb wd mc : Nat) (rg bt ms sm bf co : Nat → Nat) (ml mx rw : Nat → Int32) (o9 : Nat) (ov : Nat → Int64) (zz L i : Nat) (xs : Nat → Int32) (hX : va_X zz L xs s s.heap) (hbl : zz < s.heap.size) (hbA : ¬ A zz) (hL : L ≤ 2561) (hiL : i + 5 ≤ L) (xf : XF s) (xs9 : XS A s s.heap) (hce : cells + 1 + 0 ≤ room_1.cells) (hsl : slots + 6 + 0 ≤ room_1.slots) (y : Nat) (hy : y < 48) (hl : ∀ j, j < 48 → ln j ≤ 16) (hc : ∀ j, j < 48 → cn j < 2 ^ 31) (hf : fl ≤ 65536) (hf2 : fll ln ≤ 65536) (hrl : rl < 3) (hc2 : ∀ j, j < 48 → co j < 2 ^ 31) (hv : (if ln y = 0 then (-1) else lN (cn y)) = (if ln y = 0 then (-1) else lN ((cdG (stc (rl) (shr (ln) 48)) (ln) (co) (rl) 48) y))) (e1 : xs (i + 1) = nI y)
    (K : GO p l e room_1 s m args below meth c (cells + 1) (slots + 6) Q A D 8 794 [(0, .ref zz), (1, .ref b), (2, .ref w), (3, .ref o9), (4, .int (nI (i)))] [] (LW cs b k bc bl bx a al ac ah an g gr w w1 w2 w3 w4 w5 w6 w7 w8 w9 wa wb wd o9 (wr) (lv9) (ct) (lo) (ex) (rl) (fl) (ln) (cn) (sn) (xn) (st) (sz) (rb) (0) (rl) (sz) (wr) (lv9) (ct) (ln) (rg) (ml) (mx) (bt) (od) (rw) (ms) (sm) (bf) ((cdG (stc (rl) (shr (ln) 48)) (ln) (co) (rl) 48)) ((fun _ => (if ln y = 0 then (-1) else lN (cn y)))) ++ T9))
    : GO p l e room_1 s m args below meth c cells slots Q A D 8 339 [(0, .ref zz), (1, .ref b), (2, .ref w), (3, .ref o9), (4, .int (nI (i)))] [] (LW cs b k bc bl bx a al ac ah an g gr w w1 w2 w3 w4 w5 w6 w7 w8 w9 wa wb wd o9 (wr) (lv9) (ct) (lo) (ex) (rl) (fl) (ln) (cn) (sn) (xn) (st) (sz) (rb) (mc) (rl) (sz) (wr) (lv9) (ct) (ln) (rg) (ml) (mx) (bt) (od) (rw) (ms) (sm) (bf) (co) (ov) ++ T9) := by
  refine g_aload_n C d_L_law_339 1 rfl rfl ?_
  refine g_aload_n C d_L_law_340 0 rfl rfl ?_
  refine g_iload C d_L_law_341 4 rfl ?_
  refine g_iconst C (v := nI 1) d_L_law_343 rfl ?_
  refine g_iadd C (v := nI (i + 1)) d_L_law_344 (nI_add _ _) ?_
  refine g_xald C hX hbl hbA (i := i + 1) (v := nI (y)) (by omega) (by omega) e1 d_L_law_345 ?_
  refine g_aload_n C d_L_law_346 3 rfl rfl ?_
  refine g_callSw C (n := 3) (ws' := (LW cs b k bc bl bx a al ac ah an g gr w w1 w2 w3 w4 w5 w6 w7 w8 w9 wa wb wd o9 (wr) (lv9) (ct) (lo) (ex) (rl) (fl) (ln) (cn) (sn) (xn) (st) (sz) (rb) (mc) (rl) (sz) (wr) (lv9) (ct) (ln) (rg) (ml) (mx) (bt) (od) (rw) (ms) (sm) (bf) (co) ((fun _ => (if ln y = 0 then (-1) else lN (cn y)))) ++ T9)) (As := [.ref b, .int (nI (y)), .ref o9]) (rest := []) (m_L_code_0 l D cs b k bc bl bx a al ac ah an g gr (ct) (lo) (ex) (wr) (lv9) (rl) (ln) (cn) (sn) (xn) (fl) (rb) (st) (sz)  o9 (ov) y hy hl hc hf) tw_337 tw_338 tw_0 tw_339 xf xs9 (by decide +kernel) rfl ⟨rfl, rfl, by decide, hce, hsl⟩ rfl [0, 1, 2, 3, 4, 5, 6, 7, 8, 9, 10, 24] rfl rfl (by decide) (Nat.le_of_ble_eq_true rfl) rfl d_L_law_347 ?_
  refine g_istore C (lv' := [(5, .int (nI (0))), (0, .ref zz), (1, .ref b), (2, .ref w), (3, .ref o9), (4, .int (nI (i)))]) d_L_law_350 (by decide) rfl ?_
  refine g_aload_n C d_L_law_352 3 rfl rfl ?_
  refine g_aload_n C d_L_law_353 1 rfl rfl ?_
  refine g_iload C d_L_law_354 5 rfl ?_
  refine g_iconst C (v := nI 1) d_L_law_356 rfl ?_
  refine g_iadd C (v := nI (i + 1)) d_L_law_357 (nI_add _ _) ?_
  refine g_xald C hX hbl hbA (i := i + 1) (v := nI (y)) (by omega) (by omega) e1 d_L_law_358 ?_
  refine g_callVl C (n := 1) (ws' := (LW cs b k bc bl bx a al ac ah an g gr w w1 w2 w3 w4 w5 w6 w7 w8 w9 wa wb wd o9 (wr) (lv9) (ct) (lo) (ex) (rl) (fl) (ln) (cn) (sn) (xn) (st) (sz) (rb) (0) (rl) (sz) (wr) (lv9) (ct) (ln) (rg) (ml) (mx) (bt) (od) (rw) (ms) (sm) (bf) ((cdG (stc (rl) (shr (ln) 48)) (ln) (co) (rl) 48)) ((fun _ => (if ln y = 0 then (-1) else lN (cn y)))) ++ T9)) (As := [.int (nI (y))]) (rest := []) (m_M_code_0 l D cs w w1 w2 w3 w4 w5 w6 w7 w8 w9 wa wb wd (mc) (rl) (sz) (wr) (lv9) (ln) (co) y hy hl hf2 hrl hc2) tw_538 tw_539 tw_540 tw_6 tw_541 rfl 0 rfl rfl (by decide +kernel) rfl ⟨rfl, rfl, by decide, hce, hsl⟩ rfl [11, 13, 23] rfl rfl (by decide) (Nat.le_of_ble_eq_true rfl) rfl d_L_law_359 ?_
  refine g_lstore C (lv' := [(6, .long ((if ln y = 0 then (-1) else lN ((cdG (stc (rl) (shr (ln) 48)) (ln) (co) (rl) 48) y)))), (5, .int (nI (0))), (0, .ref zz), (1, .ref b), (2, .ref w), (3, .ref o9), (4, .int (nI (i)))]) d_L_law_362 (by decide) rfl ?_
  refine g_aload_n C d_L_law_364 4 rfl rfl ?_
  refine g_callVi C (n := 0) (ws' := (LW cs b k bc bl bx a al ac ah an g gr w w1 w2 w3 w4 w5 w6 w7 w8 w9 wa wb wd o9 (wr) (lv9) (ct) (lo) (ex) (rl) (fl) (ln) (cn) (sn) (xn) (st) (sz) (rb) (0) (rl) (sz) (wr) (lv9) (ct) (ln) (rg) (ml) (mx) (bt) (od) (rw) (ms) (sm) (bf) ((cdG (stc (rl) (shr (ln) 48)) (ln) (co) (rl) 48)) ((fun _ => (if ln y = 0 then (-1) else lN (cn y)))) ++ T9)) (As := []) (rest := []) (m_M_thrown l D cs w w1 w2 w3 w4 w5 w6 w7 w8 w9 wa wb wd (0) (rl) (sz) (wr) (lv9)  ) tw_489 tw_490 tw_491 tw_6 tw_492 rfl 0 rfl rfl (by decide +kernel) rfl ⟨rfl, rfl, by decide, hce, hsl⟩ rfl [11] rfl rfl (by decide) (Nat.le_of_ble_eq_true rfl) rfl d_L_law_365 ?_
  refine g_iload C d_L_law_368 1 rfl ?_
  refine n_icmp_eq C 375 d_L_law_370 (by decide) (by omega) (by omega) (fun _ => ?_) (fun h => absurd h (by omega))
  refine g_iload C d_L_law_375 1 rfl ?_
  refine n_if_ne C 391 d_L_law_377 (by decide) (by omega) (fun h => absurd h (by omega)) (fun _ => ?_)
  refine g_aload_n C d_L_law_380 5 rfl rfl ?_
  refine g_iconst C (v := nI 0) d_L_law_381 rfl ?_
  refine g_lald C 24 rfl (by omega) (by decide) d_L_law_382 ?_
  refine g_lload C d_L_law_383 0 rfl ?_
  refine g_lcmp_eq C 391 d_L_law_385 d_L_law_386 (by decide) (fun _ => ?_) (fun h => absurd h (not_not_intro hv))
  refine g_goto C 794 d_L_law_391 (by decide) ?_
  refine g_lv (lv' := [(0, .ref zz), (1, .ref b), (2, .ref w), (3, .ref o9), (4, .int (nI (i)))]) [2, 3, 4, 5, 6] rfl ?_
  exact K
set_option maxHeartbeats 4000000 in
set_option maxRecDepth 100000 in
theorem s_code_1 {p : Program} {l : Launch} {e : Env} {s : State} {m : MethodId} {args : Array Value} {below : List Frame} {meth : Method} {c : Code} {cells slots : Nat} {Q : State → Prop} {A : Nat → Prop} {D : va_G} {cs : ClassId × ClassId × ClassId × ClassId} (hl9 : l.stackTraces = false) (C : CX p s m args c code 8 RL D cs A) (b k bc bl bx a al ac ah an g gr : Nat) (ct : Nat → Nat) (lo ex : Nat → Int32) (wr : Nat) (lv9 : Int64) (rl : Nat) (ln cn sn xn : Nat → Nat) (fl : Nat) (rb : Nat → Nat) (st sz : Nat) (od : Nat → Nat) (T9 : va_W) (w w1 w2 w3 w4 w5 w6 w7 w8 w9 wa wb wd mc : Nat) (rg bt ms sm bf co : Nat → Nat) (ml mx rw : Nat → Int32) (o9 : Nat) (ov : Nat → Int64) (zz L i : Nat) (xs : Nat → Int32) (hX : va_X zz L xs s s.heap) (hbl : zz < s.heap.size) (hbA : ¬ A zz) (hL : L ≤ 2561) (hiL : i + 5 ≤ L) (xf : XF s) (xs9 : XS A s s.heap) (hce : cells + 1 + 0 ≤ room_1.cells) (hsl : slots + 6 + 0 ≤ room_1.slots) (x : Int32) (hx : x < 0 ∨ ¬ x < nI 48) (e1 : xs (i + 1) = x) (hl : ∀ j, j < 48 → ln j ≤ 16)
    (K : GO p l e room_1 s m args below meth c (cells + 1) (slots + 6) Q A D 8 794 [(0, .ref zz), (1, .ref b), (2, .ref w), (3, .ref o9), (4, .int (nI (i)))] [] (LW cs b k bc bl bx a al ac ah an g gr w w1 w2 w3 w4 w5 w6 w7 w8 w9 wa wb wd o9 (wr) (lv9) (ct) (lo) (ex) (rl) (fl) (ln) (cn) (sn) (xn) (st) (sz) (rb) (1) (rl) (sz) (wr) (lv9) (ct) (ln) (rg) (ml) (mx) (bt) (od) (rw) (ms) (sm) (bf) (co) (ov) ++ T9))
    : GO p l e room_1 s m args below meth c cells slots Q A D 8 339 [(0, .ref zz), (1, .ref b), (2, .ref w), (3, .ref o9), (4, .int (nI (i)))] [] (LW cs b k bc bl bx a al ac ah an g gr w w1 w2 w3 w4 w5 w6 w7 w8 w9 wa wb wd o9 (wr) (lv9) (ct) (lo) (ex) (rl) (fl) (ln) (cn) (sn) (xn) (st) (sz) (rb) (mc) (rl) (sz) (wr) (lv9) (ct) (ln) (rg) (ml) (mx) (bt) (od) (rw) (ms) (sm) (bf) (co) (ov) ++ T9) := by
  refine g_aload_n C d_L_law_339 1 rfl rfl ?_
  refine g_aload_n C d_L_law_340 0 rfl rfl ?_
  refine g_iload C d_L_law_341 4 rfl ?_
  refine g_iconst C (v := nI 1) d_L_law_343 rfl ?_
  refine g_iadd C (v := nI (i + 1)) d_L_law_344 (nI_add _ _) ?_
  refine g_xald C hX hbl hbA (i := i + 1) (v := x) (by omega) (by omega) e1 d_L_law_345 ?_
  refine g_aload_n C d_L_law_346 3 rfl rfl ?_
  refine g_callSw C (n := 3) (ws' := (LW cs b k bc bl bx a al ac ah an g gr w w1 w2 w3 w4 w5 w6 w7 w8 w9 wa wb wd o9 (wr) (lv9) (ct) (lo) (ex) (rl) (fl) (ln) (cn) (sn) (xn) (st) (sz) (rb) (mc) (rl) (sz) (wr) (lv9) (ct) (ln) (rg) (ml) (mx) (bt) (od) (rw) (ms) (sm) (bf) (co) (ov) ++ T9)) (As := [.ref b, .int (x), .ref o9]) (rest := []) (m_L_code_1 l hl9 D cs b k bc bl bx a al ac ah an g gr (ct) (lo) (ex) (wr) (lv9) (rl) (ln) (cn) (sn) (xn) (fl) (rb) (st) (sz)  o9 (ov) x hx) tw_337 tw_338 tw_0 tw_339 xf xs9 (by decide +kernel) rfl ⟨rfl, rfl, by decide, hce, hsl⟩ rfl [0, 1, 2, 3, 4, 5, 6, 7, 8, 9, 10, 24] rfl rfl (by decide) (Nat.le_of_ble_eq_true rfl) rfl d_L_law_347 ?_
  refine g_istore C (lv' := [(5, .int (nI (1))), (0, .ref zz), (1, .ref b), (2, .ref w), (3, .ref o9), (4, .int (nI (i)))]) d_L_law_350 (by decide) rfl ?_
  refine g_aload_n C d_L_law_352 3 rfl rfl ?_
  refine g_aload_n C d_L_law_353 1 rfl rfl ?_
  refine g_iload C d_L_law_354 5 rfl ?_
  refine g_iconst C (v := nI 1) d_L_law_356 rfl ?_
  refine g_iadd C (v := nI (i + 1)) d_L_law_357 (nI_add _ _) ?_
  refine g_xald C hX hbl hbA (i := i + 1) (v := x) (by omega) (by omega) e1 d_L_law_358 ?_
  refine g_callVl C (n := 1) (ws' := (LW cs b k bc bl bx a al ac ah an g gr w w1 w2 w3 w4 w5 w6 w7 w8 w9 wa wb wd o9 (wr) (lv9) (ct) (lo) (ex) (rl) (fl) (ln) (cn) (sn) (xn) (st) (sz) (rb) (1) (rl) (sz) (wr) (lv9) (ct) (ln) (rg) (ml) (mx) (bt) (od) (rw) (ms) (sm) (bf) (co) (ov) ++ T9)) (As := [.int (x)]) (rest := []) (m_M_code_1 l D cs w w1 w2 w3 w4 w5 w6 w7 w8 w9 wa wb wd (mc) (rl) (sz) (wr) (lv9) (ln) (co) x hx hl) tw_538 tw_539 tw_540 tw_6 tw_541 rfl 0 rfl rfl (by decide +kernel) rfl ⟨rfl, rfl, by decide, hce, hsl⟩ rfl [11, 13, 23] rfl rfl (by decide) (Nat.le_of_ble_eq_true rfl) rfl d_L_law_359 ?_
  refine g_lstore C (lv' := [(6, .long (lN (0))), (5, .int (nI (1))), (0, .ref zz), (1, .ref b), (2, .ref w), (3, .ref o9), (4, .int (nI (i)))]) d_L_law_362 (by decide) rfl ?_
  refine g_aload_n C d_L_law_364 4 rfl rfl ?_
  refine g_callVi C (n := 0) (ws' := (LW cs b k bc bl bx a al ac ah an g gr w w1 w2 w3 w4 w5 w6 w7 w8 w9 wa wb wd o9 (wr) (lv9) (ct) (lo) (ex) (rl) (fl) (ln) (cn) (sn) (xn) (st) (sz) (rb) (1) (rl) (sz) (wr) (lv9) (ct) (ln) (rg) (ml) (mx) (bt) (od) (rw) (ms) (sm) (bf) (co) (ov) ++ T9)) (As := []) (rest := []) (m_M_thrown l D cs w w1 w2 w3 w4 w5 w6 w7 w8 w9 wa wb wd (1) (rl) (sz) (wr) (lv9)  ) tw_489 tw_490 tw_491 tw_6 tw_492 rfl 0 rfl rfl (by decide +kernel) rfl ⟨rfl, rfl, by decide, hce, hsl⟩ rfl [11] rfl rfl (by decide) (Nat.le_of_ble_eq_true rfl) rfl d_L_law_365 ?_
  refine g_iload C d_L_law_368 1 rfl ?_
  refine n_icmp_eq C 375 d_L_law_370 (by decide) (by omega) (by omega) (fun _ => ?_) (fun h => absurd h (by omega))
  refine g_iload C d_L_law_375 1 rfl ?_
  refine n_if_ne C 391 d_L_law_377 (by decide) (by omega) (fun _ => ?_) (fun h => absurd h (by omega))
  refine g_goto C 794 d_L_law_391 (by decide) ?_
  refine g_lv (lv' := [(0, .ref zz), (1, .ref b), (2, .ref w), (3, .ref o9), (4, .int (nI (i)))]) [2, 3, 4, 5, 6] rfl ?_
  exact K
set_option maxHeartbeats 4000000 in
set_option maxRecDepth 100000 in
theorem s_code_2 {p : Program} {l : Launch} {e : Env} {s : State} {m : MethodId} {args : Array Value} {below : List Frame} {meth : Method} {c : Code} {cells slots : Nat} {Q : State → Prop} {A : Nat → Prop} {D : va_G} {cs : ClassId × ClassId × ClassId × ClassId} (hl9 : l.stackTraces = false) (C : CX p s m args c code 8 RL D cs A) (b k bc bl bx a al ac ah an g gr : Nat) (ct : Nat → Nat) (lo ex : Nat → Int32) (wr : Nat) (lv9 : Int64) (rl : Nat) (ln cn sn xn : Nat → Nat) (fl : Nat) (rb : Nat → Nat) (st sz : Nat) (od : Nat → Nat) (T9 : va_W) (w w1 w2 w3 w4 w5 w6 w7 w8 w9 wa wb wd mc : Nat) (rg bt ms sm bf co : Nat → Nat) (ml mx rw : Nat → Int32) (o9 : Nat) (ov : Nat → Int64) (zz L i : Nat) (xs : Nat → Int32) (hX : va_X zz L xs s s.heap) (hbl : zz < s.heap.size) (hbA : ¬ A zz) (hL : L ≤ 2561) (hiL : i + 5 ≤ L) (xf : XF s) (xs9 : XS A s s.heap) (hce : cells + 1 + 0 ≤ room_1.cells) (hsl : slots + 6 + 0 ≤ room_1.slots) (y : Nat) (hy : y < 48) (hl : ∀ j, j < 48 → ln j ≤ 16) (hf : 65536 < fl) (hf2 : fl < 2 ^ 31) (hf3 : 65536 < fll ln) (e1 : xs (i + 1) = nI y)
    (K : GO p l e room_1 s m args below meth c (cells + 1) (slots + 6) Q A D 8 794 [(0, .ref zz), (1, .ref b), (2, .ref w), (3, .ref o9), (4, .int (nI (i)))] [] (LW cs b k bc bl bx a al ac ah an g gr w w1 w2 w3 w4 w5 w6 w7 w8 w9 wa wb wd o9 (wr) (lv9) (ct) (lo) (ex) (rl) (fl) (ln) (cn) (sn) (xn) (st) (sz) (rb) (2) (rl) (sz) (wr) (lv9) (ct) (ln) (rg) (ml) (mx) (bt) (od) (rw) (ms) (sm) (bf) (co) (ov) ++ T9))
    : GO p l e room_1 s m args below meth c cells slots Q A D 8 339 [(0, .ref zz), (1, .ref b), (2, .ref w), (3, .ref o9), (4, .int (nI (i)))] [] (LW cs b k bc bl bx a al ac ah an g gr w w1 w2 w3 w4 w5 w6 w7 w8 w9 wa wb wd o9 (wr) (lv9) (ct) (lo) (ex) (rl) (fl) (ln) (cn) (sn) (xn) (st) (sz) (rb) (mc) (rl) (sz) (wr) (lv9) (ct) (ln) (rg) (ml) (mx) (bt) (od) (rw) (ms) (sm) (bf) (co) (ov) ++ T9) := by
  refine g_aload_n C d_L_law_339 1 rfl rfl ?_
  refine g_aload_n C d_L_law_340 0 rfl rfl ?_
  refine g_iload C d_L_law_341 4 rfl ?_
  refine g_iconst C (v := nI 1) d_L_law_343 rfl ?_
  refine g_iadd C (v := nI (i + 1)) d_L_law_344 (nI_add _ _) ?_
  refine g_xald C hX hbl hbA (i := i + 1) (v := nI (y)) (by omega) (by omega) e1 d_L_law_345 ?_
  refine g_aload_n C d_L_law_346 3 rfl rfl ?_
  refine g_callSw C (n := 3) (ws' := (LW cs b k bc bl bx a al ac ah an g gr w w1 w2 w3 w4 w5 w6 w7 w8 w9 wa wb wd o9 (wr) (lv9) (ct) (lo) (ex) (rl) (fl) (ln) (cn) (sn) (xn) (st) (sz) (rb) (mc) (rl) (sz) (wr) (lv9) (ct) (ln) (rg) (ml) (mx) (bt) (od) (rw) (ms) (sm) (bf) (co) (ov) ++ T9)) (As := [.ref b, .int (nI (y)), .ref o9]) (rest := []) (m_L_code_2 l hl9 D cs b k bc bl bx a al ac ah an g gr (ct) (lo) (ex) (wr) (lv9) (rl) (ln) (cn) (sn) (xn) (fl) (rb) (st) (sz)  o9 (ov) y hy hf hf2) tw_337 tw_338 tw_0 tw_339 xf xs9 (by decide +kernel) rfl ⟨rfl, rfl, by decide, hce, hsl⟩ rfl [0, 1, 2, 3, 4, 5, 6, 7, 8, 9, 10, 24] rfl rfl (by decide) (Nat.le_of_ble_eq_true rfl) rfl d_L_law_347 ?_
  refine g_istore C (lv' := [(5, .int (nI (2))), (0, .ref zz), (1, .ref b), (2, .ref w), (3, .ref o9), (4, .int (nI (i)))]) d_L_law_350 (by decide) rfl ?_
  refine g_aload_n C d_L_law_352 3 rfl rfl ?_
  refine g_aload_n C d_L_law_353 1 rfl rfl ?_
  refine g_iload C d_L_law_354 5 rfl ?_
  refine g_iconst C (v := nI 1) d_L_law_356 rfl ?_
  refine g_iadd C (v := nI (i + 1)) d_L_law_357 (nI_add _ _) ?_
  refine g_xald C hX hbl hbA (i := i + 1) (v := nI (y)) (by omega) (by omega) e1 d_L_law_358 ?_
  refine g_callVl C (n := 1) (ws' := (LW cs b k bc bl bx a al ac ah an g gr w w1 w2 w3 w4 w5 w6 w7 w8 w9 wa wb wd o9 (wr) (lv9) (ct) (lo) (ex) (rl) (fl) (ln) (cn) (sn) (xn) (st) (sz) (rb) (2) (rl) (sz) (wr) (lv9) (ct) (ln) (rg) (ml) (mx) (bt) (od) (rw) (ms) (sm) (bf) (co) (ov) ++ T9)) (As := [.int (nI (y))]) (rest := []) (m_M_code_2 l D cs w w1 w2 w3 w4 w5 w6 w7 w8 w9 wa wb wd (mc) (rl) (sz) (wr) (lv9) (ln) (co) y hy hl hf3) tw_538 tw_539 tw_540 tw_6 tw_541 rfl 0 rfl rfl (by decide +kernel) rfl ⟨rfl, rfl, by decide, hce, hsl⟩ rfl [11, 13, 23] rfl rfl (by decide) (Nat.le_of_ble_eq_true rfl) rfl d_L_law_359 ?_
  refine g_lstore C (lv' := [(6, .long (lN (0))), (5, .int (nI (2))), (0, .ref zz), (1, .ref b), (2, .ref w), (3, .ref o9), (4, .int (nI (i)))]) d_L_law_362 (by decide) rfl ?_
  refine g_aload_n C d_L_law_364 4 rfl rfl ?_
  refine g_callVi C (n := 0) (ws' := (LW cs b k bc bl bx a al ac ah an g gr w w1 w2 w3 w4 w5 w6 w7 w8 w9 wa wb wd o9 (wr) (lv9) (ct) (lo) (ex) (rl) (fl) (ln) (cn) (sn) (xn) (st) (sz) (rb) (2) (rl) (sz) (wr) (lv9) (ct) (ln) (rg) (ml) (mx) (bt) (od) (rw) (ms) (sm) (bf) (co) (ov) ++ T9)) (As := []) (rest := []) (m_M_thrown l D cs w w1 w2 w3 w4 w5 w6 w7 w8 w9 wa wb wd (2) (rl) (sz) (wr) (lv9)  ) tw_489 tw_490 tw_491 tw_6 tw_492 rfl 0 rfl rfl (by decide +kernel) rfl ⟨rfl, rfl, by decide, hce, hsl⟩ rfl [11] rfl rfl (by decide) (Nat.le_of_ble_eq_true rfl) rfl d_L_law_365 ?_
  refine g_iload C d_L_law_368 1 rfl ?_
  refine n_icmp_eq C 375 d_L_law_370 (by decide) (by omega) (by omega) (fun _ => ?_) (fun h => absurd h (by omega))
  refine g_iload C d_L_law_375 1 rfl ?_
  refine n_if_ne C 391 d_L_law_377 (by decide) (by omega) (fun _ => ?_) (fun h => absurd h (by omega))
  refine g_goto C 794 d_L_law_391 (by decide) ?_
  refine g_lv (lv' := [(0, .ref zz), (1, .ref b), (2, .ref w), (3, .ref o9), (4, .int (nI (i)))]) [2, 3, 4, 5, 6] rfl ?_
  exact K
set_option maxHeartbeats 4000000 in
set_option maxRecDepth 100000 in
theorem s_given_0 {p : Program} {l : Launch} {e : Env} {s : State} {m : MethodId} {args : Array Value} {below : List Frame} {meth : Method} {c : Code} {cells slots : Nat} {Q : State → Prop} {A : Nat → Prop} {D : va_G} {cs : ClassId × ClassId × ClassId × ClassId} (C : CX p s m args c code 8 RL D cs A) (b k bc bl bx a al ac ah an g gr : Nat) (ct : Nat → Nat) (lo ex : Nat → Int32) (wr : Nat) (lv9 : Int64) (rl : Nat) (ln cn sn xn : Nat → Nat) (fl : Nat) (rb : Nat → Nat) (st sz : Nat) (od : Nat → Nat) (T9 : va_W) (w w1 w2 w3 w4 w5 w6 w7 w8 w9 wa wb wd mc : Nat) (rg bt ms sm bf co : Nat → Nat) (ml mx rw : Nat → Int32) (o9 : Nat) (ov : Nat → Int64) (zz L i : Nat) (xs : Nat → Int32) (hX : va_X zz L xs s s.heap) (hbl : zz < s.heap.size) (hbA : ¬ A zz) (hL : L ≤ 2561) (hiL : i + 5 ≤ L) (xf : XF s) (xs9 : XS A s s.heap) (hce : cells + 1 + 0 ≤ room_1.cells) (hsl : slots + 6 + 0 ≤ room_1.slots) (y L9 : Nat) (hy : y < 48) (hL9 : L9 ≤ 16) (hl : ∀ j, j < 48 → ln j ≤ 16) (hrl : rl < 3) (e1 : xs (i + 1) = nI y) (e2 : xs (i + 2) = nI L9)
    (K : GO p l e room_1 s m args below meth c (cells + 1) (slots + 6) Q A D 8 794 [(0, .ref zz), (1, .ref b), (2, .ref w), (3, .ref o9), (4, .int (nI (i)))] [] (LW cs b k bc bl bx a al ac ah an g gr w w1 w2 w3 w4 w5 w6 w7 w8 w9 wa wb wd o9 (wr) (lv9) (ct) (upd (lo) (y) (nI (y))) (upd (ex) (y) (nI (0))) (rl) (fll (updN (ln) (y) (L9))) ((updN (ln) (y) (L9))) ((cN (rl) (updN (ln) (y) (L9)) (cn))) ((shr (updN (ln) (y) (L9)) 48)) ((xN (rl) (updN (ln) (y) (L9)) (xn))) (st) (sz) (rb) (0) (rl) (sz) (wr) (lv9) (ct) ((updN (ln) (y) (L9))) ((updN (rg) (y) (0))) (ml) (mx) (bt) (od) (rw) (ms) (sm) (bf) (co) ((fun _ => lN (if stt (fll (updN ln y L9)) = 2 then 0 else 1))) ++ T9))
    : GO p l e room_1 s m args below meth c cells slots Q A D 8 394 [(0, .ref zz), (1, .ref b), (2, .ref w), (3, .ref o9), (4, .int (nI (i)))] [] (LW cs b k bc bl bx a al ac ah an g gr w w1 w2 w3 w4 w5 w6 w7 w8 w9 wa wb wd o9 (wr) (lv9) (ct) (lo) (ex) (rl) (fl) (ln) (cn) (sn) (xn) (st) (sz) (rb) (mc) (rl) (sz) (wr) (lv9) (ct) (ln) (rg) (ml) (mx) (bt) (od) (rw) (ms) (sm) (bf) (co) (ov) ++ T9) := by
  have e8 : (if stt (fll (updN ln y L9)) = 2 then 0 else 1) = (if stt (flm (updN (ln) (y) (L9)) 48) < 2 then 1 else 0) := by
    rw [flm_fll (fun j hj => by unfold updN; split; exact hL9; exact hl j hj)]
    have := stt_le (fll (updN ln y L9))
    (repeat' split) <;> omega
  refine g_aload_n C d_L_law_394 1 rfl rfl ?_
  refine g_aload_n C d_L_law_395 0 rfl rfl ?_
  refine g_iload C d_L_law_396 4 rfl ?_
  refine g_iconst C (v := nI 1) d_L_law_398 rfl ?_
  refine g_iadd C (v := nI (i + 1)) d_L_law_399 (nI_add _ _) ?_
  refine g_xald C hX hbl hbA (i := i + 1) (v := nI (y)) (by omega) (by omega) e1 d_L_law_400 ?_
  refine g_aload_n C d_L_law_401 0 rfl rfl ?_
  refine g_iload C d_L_law_402 4 rfl ?_
  refine g_iconst C (v := nI 2) d_L_law_404 rfl ?_
  refine g_iadd C (v := nI (i + 2)) d_L_law_405 (nI_add _ _) ?_
  refine g_xald C hX hbl hbA (i := i + 2) (v := nI (L9)) (by omega) (by omega) e2 d_L_law_406 ?_
  refine g_aload_n C d_L_law_407 3 rfl rfl ?_
  refine g_callSw C (n := 4) (ws' := (LW cs b k bc bl bx a al ac ah an g gr w w1 w2 w3 w4 w5 w6 w7 w8 w9 wa wb wd o9 (wr) (lv9) (ct) (upd (lo) (y) (nI (y))) (upd (ex) (y) (nI (0))) (rl) (fll (updN (ln) (y) (L9))) ((updN (ln) (y) (L9))) ((cN (rl) (updN (ln) (y) (L9)) (cn))) ((shr (updN (ln) (y) (L9)) 48)) ((xN (rl) (updN (ln) (y) (L9)) (xn))) (st) (sz) (rb) (mc) (rl) (sz) (wr) (lv9) (ct) (ln) (rg) (ml) (mx) (bt) (od) (rw) (ms) (sm) (bf) (co) ((fun _ => lN (if stt (fll (updN ln y L9)) = 2 then 0 else 1))) ++ T9)) (As := [.ref b, .int (nI (y)), .int (nI (L9)), .ref o9]) (rest := []) (m_L_given_0 l D cs b k bc bl bx a al ac ah an g gr (ct) (lo) (ex) (wr) (lv9) (rl) (ln) (cn) (sn) (xn) (fl) (rb) (st) (sz)  o9 (ov) y L9 hy hL9 hl hrl) tw_366 tw_367 tw_0 tw_368 xf xs9 (by decide +kernel) rfl ⟨rfl, rfl, by decide, hce, hsl⟩ rfl [0, 1, 2, 3, 4, 5, 6, 7, 8, 9, 10, 24] rfl rfl (by decide) (Nat.le_of_ble_eq_true rfl) rfl d_L_law_408 ?_
  refine g_istore C (lv' := [(5, .int (nI (0))), (0, .ref zz), (1, .ref b), (2, .ref w), (3, .ref o9), (4, .int (nI (i)))]) d_L_law_411 (by decide) rfl ?_
  refine g_aload_n C d_L_law_413 3 rfl rfl ?_
  refine g_aload_n C d_L_law_414 1 rfl rfl ?_
  refine g_iload C d_L_law_415 5 rfl ?_
  refine g_iconst C (v := nI 1) d_L_law_417 rfl ?_
  refine g_iadd C (v := nI (i + 1)) d_L_law_418 (nI_add _ _) ?_
  refine g_xald C hX hbl hbA (i := i + 1) (v := nI (y)) (by omega) (by omega) e1 d_L_law_419 ?_
  refine g_aload_n C d_L_law_420 1 rfl rfl ?_
  refine g_iload C d_L_law_421 5 rfl ?_
  refine g_iconst C (v := nI 2) d_L_law_423 rfl ?_
  refine g_iadd C (v := nI (i + 2)) d_L_law_424 (nI_add _ _) ?_
  refine g_xald C hX hbl hbA (i := i + 2) (v := nI (L9)) (by omega) (by omega) e2 d_L_law_425 ?_
  refine g_callVi C (n := 2) (ws' := (LW cs b k bc bl bx a al ac ah an g gr w w1 w2 w3 w4 w5 w6 w7 w8 w9 wa wb wd o9 (wr) (lv9) (ct) (upd (lo) (y) (nI (y))) (upd (ex) (y) (nI (0))) (rl) (fll (updN (ln) (y) (L9))) ((updN (ln) (y) (L9))) ((cN (rl) (updN (ln) (y) (L9)) (cn))) ((shr (updN (ln) (y) (L9)) 48)) ((xN (rl) (updN (ln) (y) (L9)) (xn))) (st) (sz) (rb) (0) (rl) (sz) (wr) (lv9) (ct) ((updN (ln) (y) (L9))) ((updN (rg) (y) (0))) (ml) (mx) (bt) (od) (rw) (ms) (sm) (bf) (co) ((fun _ => lN (if stt (fll (updN ln y L9)) = 2 then 0 else 1))) ++ T9)) (As := [.int (nI (y)), .int (nI (L9))]) (rest := []) (m_M_given_0 l D cs w w1 w2 w3 w4 w5 w6 w7 w8 w9 wa wb wd (mc) (rl) (sz) (wr) (lv9) (ln) (rg) y L9 hy hL9 hl) tw_530 tw_531 tw_532 tw_6 tw_533 rfl 0 rfl rfl (by decide +kernel) rfl ⟨rfl, rfl, by decide, hce, hsl⟩ rfl [11, 13, 14] rfl rfl (by decide) (Nat.le_of_ble_eq_true rfl) rfl d_L_law_426 ?_
  refine g_istore C (lv' := [(6, .int (nI (if stt (flm (updN (ln) (y) (L9)) 48) < 2 then 1 else 0))), (5, .int (nI (0))), (0, .ref zz), (1, .ref b), (2, .ref w), (3, .ref o9), (4, .int (nI (i)))]) d_L_law_429 (by decide) rfl ?_
  refine g_aload_n C d_L_law_431 4 rfl rfl ?_
  refine g_callVi C (n := 0) (ws' := (LW cs b k bc bl bx a al ac ah an g gr w w1 w2 w3 w4 w5 w6 w7 w8 w9 wa wb wd o9 (wr) (lv9) (ct) (upd (lo) (y) (nI (y))) (upd (ex) (y) (nI (0))) (rl) (fll (updN (ln) (y) (L9))) ((updN (ln) (y) (L9))) ((cN (rl) (updN (ln) (y) (L9)) (cn))) ((shr (updN (ln) (y) (L9)) 48)) ((xN (rl) (updN (ln) (y) (L9)) (xn))) (st) (sz) (rb) (0) (rl) (sz) (wr) (lv9) (ct) ((updN (ln) (y) (L9))) ((updN (rg) (y) (0))) (ml) (mx) (bt) (od) (rw) (ms) (sm) (bf) (co) ((fun _ => lN (if stt (fll (updN ln y L9)) = 2 then 0 else 1))) ++ T9)) (As := []) (rest := []) (m_M_thrown l D cs w w1 w2 w3 w4 w5 w6 w7 w8 w9 wa wb wd (0) (rl) (sz) (wr) (lv9)  ) tw_489 tw_490 tw_491 tw_6 tw_492 rfl 0 rfl rfl (by decide +kernel) rfl ⟨rfl, rfl, by decide, hce, hsl⟩ rfl [11] rfl rfl (by decide) (Nat.le_of_ble_eq_true rfl) rfl d_L_law_432 ?_
  refine g_iload C d_L_law_435 1 rfl ?_
  refine n_icmp_eq C 442 d_L_law_437 (by decide) (by omega) (by omega) (fun _ => ?_) (fun h => absurd h (by omega))
  refine g_iload C d_L_law_442 1 rfl ?_
  refine n_if_ne C 466 d_L_law_444 (by decide) (by omega) (fun h => absurd h (by omega)) (fun _ => ?_)
  refine g_aload_n C d_L_law_447 5 rfl rfl ?_
  refine g_iconst C (v := nI 0) d_L_law_448 rfl ?_
  refine g_lald C 24 rfl (by omega) (by decide) d_L_law_449 ?_
  refine g_iload C d_L_law_450 0 rfl ?_
  refine n_if_eq C 459 d_L_law_452 (by decide) (by split <;> omega) (fun h452 => ?_) (fun h452 => ?_)
  · refine g_lconst C (v := lN 0) d_L_law_459 rfl ?_
    refine g_lcmp_eq C 466 d_L_law_460 d_L_law_461 (by decide) (fun _ => ?_) (fun h => absurd h (not_not_intro (congrArg lN (by have h8 : (if stt (fll (updN ln y L9)) = 2 then 0 else 1) < 2 := (by split <;> omega); omega))))
    refine g_goto C 794 d_L_law_466 (by decide) ?_
    refine g_lv (lv' := [(0, .ref zz), (1, .ref b), (2, .ref w), (3, .ref o9), (4, .int (nI (i)))]) [2, 3, 4, 5, 6] rfl ?_
    exact K
  · refine g_lconst C (v := lN 1) d_L_law_455 rfl ?_
    refine g_goto C 460 d_L_law_456 (by decide) ?_
    refine g_lcmp_eq C 466 d_L_law_460 d_L_law_461 (by decide) (fun _ => ?_) (fun h => absurd h (not_not_intro (congrArg lN (by have h8 : (if stt (fll (updN ln y L9)) = 2 then 0 else 1) < 2 := (by split <;> omega); omega))))
    refine g_goto C 794 d_L_law_466 (by decide) ?_
    refine g_lv (lv' := [(0, .ref zz), (1, .ref b), (2, .ref w), (3, .ref o9), (4, .int (nI (i)))]) [2, 3, 4, 5, 6] rfl ?_
    exact K
set_option maxHeartbeats 4000000 in
set_option maxRecDepth 100000 in
theorem s_given_1 {p : Program} {l : Launch} {e : Env} {s : State} {m : MethodId} {args : Array Value} {below : List Frame} {meth : Method} {c : Code} {cells slots : Nat} {Q : State → Prop} {A : Nat → Prop} {D : va_G} {cs : ClassId × ClassId × ClassId × ClassId} (hl9 : l.stackTraces = false) (C : CX p s m args c code 8 RL D cs A) (b k bc bl bx a al ac ah an g gr : Nat) (ct : Nat → Nat) (lo ex : Nat → Int32) (wr : Nat) (lv9 : Int64) (rl : Nat) (ln cn sn xn : Nat → Nat) (fl : Nat) (rb : Nat → Nat) (st sz : Nat) (od : Nat → Nat) (T9 : va_W) (w w1 w2 w3 w4 w5 w6 w7 w8 w9 wa wb wd mc : Nat) (rg bt ms sm bf co : Nat → Nat) (ml mx rw : Nat → Int32) (o9 : Nat) (ov : Nat → Int64) (zz L i : Nat) (xs : Nat → Int32) (hX : va_X zz L xs s s.heap) (hbl : zz < s.heap.size) (hbA : ¬ A zz) (hL : L ≤ 2561) (hiL : i + 5 ≤ L) (xf : XF s) (xs9 : XS A s s.heap) (hce : cells + 1 + 0 ≤ room_1.cells) (hsl : slots + 6 + 0 ≤ room_1.slots) (x : Int32) (hx : x < 0 ∨ ¬ x < nI 48) (e1 : xs (i + 1) = x) (z : Int32) (e2 : xs (i + 2) = z)
    (K : GO p l e room_1 s m args below meth c (cells + 1) (slots + 6) Q A D 8 794 [(0, .ref zz), (1, .ref b), (2, .ref w), (3, .ref o9), (4, .int (nI (i)))] [] (LW cs b k bc bl bx a al ac ah an g gr w w1 w2 w3 w4 w5 w6 w7 w8 w9 wa wb wd o9 (wr) (lv9) (ct) (lo) (ex) (rl) (fl) (ln) (cn) (sn) (xn) (st) (sz) (rb) (1) (rl) (sz) (wr) (lv9) (ct) (ln) (rg) (ml) (mx) (bt) (od) (rw) (ms) (sm) (bf) (co) (ov) ++ T9))
    : GO p l e room_1 s m args below meth c cells slots Q A D 8 394 [(0, .ref zz), (1, .ref b), (2, .ref w), (3, .ref o9), (4, .int (nI (i)))] [] (LW cs b k bc bl bx a al ac ah an g gr w w1 w2 w3 w4 w5 w6 w7 w8 w9 wa wb wd o9 (wr) (lv9) (ct) (lo) (ex) (rl) (fl) (ln) (cn) (sn) (xn) (st) (sz) (rb) (mc) (rl) (sz) (wr) (lv9) (ct) (ln) (rg) (ml) (mx) (bt) (od) (rw) (ms) (sm) (bf) (co) (ov) ++ T9) := by
  refine g_aload_n C d_L_law_394 1 rfl rfl ?_
  refine g_aload_n C d_L_law_395 0 rfl rfl ?_
  refine g_iload C d_L_law_396 4 rfl ?_
  refine g_iconst C (v := nI 1) d_L_law_398 rfl ?_
  refine g_iadd C (v := nI (i + 1)) d_L_law_399 (nI_add _ _) ?_
  refine g_xald C hX hbl hbA (i := i + 1) (v := x) (by omega) (by omega) e1 d_L_law_400 ?_
  refine g_aload_n C d_L_law_401 0 rfl rfl ?_
  refine g_iload C d_L_law_402 4 rfl ?_
  refine g_iconst C (v := nI 2) d_L_law_404 rfl ?_
  refine g_iadd C (v := nI (i + 2)) d_L_law_405 (nI_add _ _) ?_
  refine g_xald C hX hbl hbA (i := i + 2) (v := z) (by omega) (by omega) e2 d_L_law_406 ?_
  refine g_aload_n C d_L_law_407 3 rfl rfl ?_
  refine g_callSw C (n := 4) (ws' := (LW cs b k bc bl bx a al ac ah an g gr w w1 w2 w3 w4 w5 w6 w7 w8 w9 wa wb wd o9 (wr) (lv9) (ct) (lo) (ex) (rl) (fl) (ln) (cn) (sn) (xn) (st) (sz) (rb) (mc) (rl) (sz) (wr) (lv9) (ct) (ln) (rg) (ml) (mx) (bt) (od) (rw) (ms) (sm) (bf) (co) (ov) ++ T9)) (As := [.ref b, .int (x), .int (z), .ref o9]) (rest := []) (m_L_given_1 l hl9 D cs b k bc bl bx a al ac ah an g gr (ct) (lo) (ex) (wr) (lv9) (rl) (ln) (cn) (sn) (xn) (fl) (rb) (st) (sz)  o9 (ov) x hx z) tw_366 tw_367 tw_0 tw_368 xf xs9 (by decide +kernel) rfl ⟨rfl, rfl, by decide, hce, hsl⟩ rfl [0, 1, 2, 3, 4, 5, 6, 7, 8, 9, 10, 24] rfl rfl (by decide) (Nat.le_of_ble_eq_true rfl) rfl d_L_law_408 ?_
  refine g_istore C (lv' := [(5, .int (nI (1))), (0, .ref zz), (1, .ref b), (2, .ref w), (3, .ref o9), (4, .int (nI (i)))]) d_L_law_411 (by decide) rfl ?_
  refine g_aload_n C d_L_law_413 3 rfl rfl ?_
  refine g_aload_n C d_L_law_414 1 rfl rfl ?_
  refine g_iload C d_L_law_415 5 rfl ?_
  refine g_iconst C (v := nI 1) d_L_law_417 rfl ?_
  refine g_iadd C (v := nI (i + 1)) d_L_law_418 (nI_add _ _) ?_
  refine g_xald C hX hbl hbA (i := i + 1) (v := x) (by omega) (by omega) e1 d_L_law_419 ?_
  refine g_aload_n C d_L_law_420 1 rfl rfl ?_
  refine g_iload C d_L_law_421 5 rfl ?_
  refine g_iconst C (v := nI 2) d_L_law_423 rfl ?_
  refine g_iadd C (v := nI (i + 2)) d_L_law_424 (nI_add _ _) ?_
  refine g_xald C hX hbl hbA (i := i + 2) (v := z) (by omega) (by omega) e2 d_L_law_425 ?_
  refine g_callVi C (n := 2) (ws' := (LW cs b k bc bl bx a al ac ah an g gr w w1 w2 w3 w4 w5 w6 w7 w8 w9 wa wb wd o9 (wr) (lv9) (ct) (lo) (ex) (rl) (fl) (ln) (cn) (sn) (xn) (st) (sz) (rb) (1) (rl) (sz) (wr) (lv9) (ct) (ln) (rg) (ml) (mx) (bt) (od) (rw) (ms) (sm) (bf) (co) (ov) ++ T9)) (As := [.int (x), .int (z)]) (rest := []) (m_M_given_1 l D cs w w1 w2 w3 w4 w5 w6 w7 w8 w9 wa wb wd (mc) (rl) (sz) (wr) (lv9) (ln) (rg) x hx z) tw_530 tw_531 tw_532 tw_6 tw_533 rfl 0 rfl rfl (by decide +kernel) rfl ⟨rfl, rfl, by decide, hce, hsl⟩ rfl [11, 13, 14] rfl rfl (by decide) (Nat.le_of_ble_eq_true rfl) rfl d_L_law_426 ?_
  refine g_istore C (lv' := [(6, .int (nI (0))), (5, .int (nI (1))), (0, .ref zz), (1, .ref b), (2, .ref w), (3, .ref o9), (4, .int (nI (i)))]) d_L_law_429 (by decide) rfl ?_
  refine g_aload_n C d_L_law_431 4 rfl rfl ?_
  refine g_callVi C (n := 0) (ws' := (LW cs b k bc bl bx a al ac ah an g gr w w1 w2 w3 w4 w5 w6 w7 w8 w9 wa wb wd o9 (wr) (lv9) (ct) (lo) (ex) (rl) (fl) (ln) (cn) (sn) (xn) (st) (sz) (rb) (1) (rl) (sz) (wr) (lv9) (ct) (ln) (rg) (ml) (mx) (bt) (od) (rw) (ms) (sm) (bf) (co) (ov) ++ T9)) (As := []) (rest := []) (m_M_thrown l D cs w w1 w2 w3 w4 w5 w6 w7 w8 w9 wa wb wd (1) (rl) (sz) (wr) (lv9)  ) tw_489 tw_490 tw_491 tw_6 tw_492 rfl 0 rfl rfl (by decide +kernel) rfl ⟨rfl, rfl, by decide, hce, hsl⟩ rfl [11] rfl rfl (by decide) (Nat.le_of_ble_eq_true rfl) rfl d_L_law_432 ?_
  refine g_iload C d_L_law_435 1 rfl ?_
  refine n_icmp_eq C 442 d_L_law_437 (by decide) (by omega) (by omega) (fun _ => ?_) (fun h => absurd h (by omega))
  refine g_iload C d_L_law_442 1 rfl ?_
  refine n_if_ne C 466 d_L_law_444 (by decide) (by omega) (fun _ => ?_) (fun h => absurd h (by omega))
  refine g_goto C 794 d_L_law_466 (by decide) ?_
  refine g_lv (lv' := [(0, .ref zz), (1, .ref b), (2, .ref w), (3, .ref o9), (4, .int (nI (i)))]) [2, 3, 4, 5, 6] rfl ?_
  exact K
set_option maxHeartbeats 4000000 in
set_option maxRecDepth 100000 in
theorem s_given_2 {p : Program} {l : Launch} {e : Env} {s : State} {m : MethodId} {args : Array Value} {below : List Frame} {meth : Method} {c : Code} {cells slots : Nat} {Q : State → Prop} {A : Nat → Prop} {D : va_G} {cs : ClassId × ClassId × ClassId × ClassId} (hl9 : l.stackTraces = false) (C : CX p s m args c code 8 RL D cs A) (b k bc bl bx a al ac ah an g gr : Nat) (ct : Nat → Nat) (lo ex : Nat → Int32) (wr : Nat) (lv9 : Int64) (rl : Nat) (ln cn sn xn : Nat → Nat) (fl : Nat) (rb : Nat → Nat) (st sz : Nat) (od : Nat → Nat) (T9 : va_W) (w w1 w2 w3 w4 w5 w6 w7 w8 w9 wa wb wd mc : Nat) (rg bt ms sm bf co : Nat → Nat) (ml mx rw : Nat → Int32) (o9 : Nat) (ov : Nat → Int64) (zz L i : Nat) (xs : Nat → Int32) (hX : va_X zz L xs s s.heap) (hbl : zz < s.heap.size) (hbA : ¬ A zz) (hL : L ≤ 2561) (hiL : i + 5 ≤ L) (xf : XF s) (xs9 : XS A s s.heap) (hce : cells + 1 + 0 ≤ room_1.cells) (hsl : slots + 6 + 0 ≤ room_1.slots) (y : Nat) (hy : y < 48) (x : Int32) (hx : x < 0 ∨ ¬ x ≤ nI 16) (e1 : xs (i + 1) = nI y) (e2 : xs (i + 2) = x)
    (K : GO p l e room_1 s m args below meth c (cells + 1) (slots + 6) Q A D 8 794 [(0, .ref zz), (1, .ref b), (2, .ref w), (3, .ref o9), (4, .int (nI (i)))] [] (LW cs b k bc bl bx a al ac ah an g gr w w1 w2 w3 w4 w5 w6 w7 w8 w9 wa wb wd o9 (wr) (lv9) (ct) (lo) (ex) (rl) (fl) (ln) (cn) (sn) (xn) (st) (sz) (rb) (2) (rl) (sz) (wr) (lv9) (ct) (ln) (rg) (ml) (mx) (bt) (od) (rw) (ms) (sm) (bf) (co) (ov) ++ T9))
    : GO p l e room_1 s m args below meth c cells slots Q A D 8 394 [(0, .ref zz), (1, .ref b), (2, .ref w), (3, .ref o9), (4, .int (nI (i)))] [] (LW cs b k bc bl bx a al ac ah an g gr w w1 w2 w3 w4 w5 w6 w7 w8 w9 wa wb wd o9 (wr) (lv9) (ct) (lo) (ex) (rl) (fl) (ln) (cn) (sn) (xn) (st) (sz) (rb) (mc) (rl) (sz) (wr) (lv9) (ct) (ln) (rg) (ml) (mx) (bt) (od) (rw) (ms) (sm) (bf) (co) (ov) ++ T9) := by
  refine g_aload_n C d_L_law_394 1 rfl rfl ?_
  refine g_aload_n C d_L_law_395 0 rfl rfl ?_
  refine g_iload C d_L_law_396 4 rfl ?_
  refine g_iconst C (v := nI 1) d_L_law_398 rfl ?_
  refine g_iadd C (v := nI (i + 1)) d_L_law_399 (nI_add _ _) ?_
  refine g_xald C hX hbl hbA (i := i + 1) (v := nI (y)) (by omega) (by omega) e1 d_L_law_400 ?_
  refine g_aload_n C d_L_law_401 0 rfl rfl ?_
  refine g_iload C d_L_law_402 4 rfl ?_
  refine g_iconst C (v := nI 2) d_L_law_404 rfl ?_
  refine g_iadd C (v := nI (i + 2)) d_L_law_405 (nI_add _ _) ?_
  refine g_xald C hX hbl hbA (i := i + 2) (v := x) (by omega) (by omega) e2 d_L_law_406 ?_
  refine g_aload_n C d_L_law_407 3 rfl rfl ?_
  refine g_callSw C (n := 4) (ws' := (LW cs b k bc bl bx a al ac ah an g gr w w1 w2 w3 w4 w5 w6 w7 w8 w9 wa wb wd o9 (wr) (lv9) (ct) (lo) (ex) (rl) (fl) (ln) (cn) (sn) (xn) (st) (sz) (rb) (mc) (rl) (sz) (wr) (lv9) (ct) (ln) (rg) (ml) (mx) (bt) (od) (rw) (ms) (sm) (bf) (co) (ov) ++ T9)) (As := [.ref b, .int (nI (y)), .int (x), .ref o9]) (rest := []) (m_L_given_2 l hl9 D cs b k bc bl bx a al ac ah an g gr (ct) (lo) (ex) (wr) (lv9) (rl) (ln) (cn) (sn) (xn) (fl) (rb) (st) (sz)  o9 (ov) y hy x hx) tw_366 tw_367 tw_0 tw_368 xf xs9 (by decide +kernel) rfl ⟨rfl, rfl, by decide, hce, hsl⟩ rfl [0, 1, 2, 3, 4, 5, 6, 7, 8, 9, 10, 24] rfl rfl (by decide) (Nat.le_of_ble_eq_true rfl) rfl d_L_law_408 ?_
  refine g_istore C (lv' := [(5, .int (nI (2))), (0, .ref zz), (1, .ref b), (2, .ref w), (3, .ref o9), (4, .int (nI (i)))]) d_L_law_411 (by decide) rfl ?_
  refine g_aload_n C d_L_law_413 3 rfl rfl ?_
  refine g_aload_n C d_L_law_414 1 rfl rfl ?_
  refine g_iload C d_L_law_415 5 rfl ?_
  refine g_iconst C (v := nI 1) d_L_law_417 rfl ?_
  refine g_iadd C (v := nI (i + 1)) d_L_law_418 (nI_add _ _) ?_
  refine g_xald C hX hbl hbA (i := i + 1) (v := nI (y)) (by omega) (by omega) e1 d_L_law_419 ?_
  refine g_aload_n C d_L_law_420 1 rfl rfl ?_
  refine g_iload C d_L_law_421 5 rfl ?_
  refine g_iconst C (v := nI 2) d_L_law_423 rfl ?_
  refine g_iadd C (v := nI (i + 2)) d_L_law_424 (nI_add _ _) ?_
  refine g_xald C hX hbl hbA (i := i + 2) (v := x) (by omega) (by omega) e2 d_L_law_425 ?_
  refine g_callVi C (n := 2) (ws' := (LW cs b k bc bl bx a al ac ah an g gr w w1 w2 w3 w4 w5 w6 w7 w8 w9 wa wb wd o9 (wr) (lv9) (ct) (lo) (ex) (rl) (fl) (ln) (cn) (sn) (xn) (st) (sz) (rb) (2) (rl) (sz) (wr) (lv9) (ct) (ln) (rg) (ml) (mx) (bt) (od) (rw) (ms) (sm) (bf) (co) (ov) ++ T9)) (As := [.int (nI (y)), .int (x)]) (rest := []) (m_M_given_2 l D cs w w1 w2 w3 w4 w5 w6 w7 w8 w9 wa wb wd (mc) (rl) (sz) (wr) (lv9) (ln) (rg) y hy x hx) tw_530 tw_531 tw_532 tw_6 tw_533 rfl 0 rfl rfl (by decide +kernel) rfl ⟨rfl, rfl, by decide, hce, hsl⟩ rfl [11, 13, 14] rfl rfl (by decide) (Nat.le_of_ble_eq_true rfl) rfl d_L_law_426 ?_
  refine g_istore C (lv' := [(6, .int (nI (0))), (5, .int (nI (2))), (0, .ref zz), (1, .ref b), (2, .ref w), (3, .ref o9), (4, .int (nI (i)))]) d_L_law_429 (by decide) rfl ?_
  refine g_aload_n C d_L_law_431 4 rfl rfl ?_
  refine g_callVi C (n := 0) (ws' := (LW cs b k bc bl bx a al ac ah an g gr w w1 w2 w3 w4 w5 w6 w7 w8 w9 wa wb wd o9 (wr) (lv9) (ct) (lo) (ex) (rl) (fl) (ln) (cn) (sn) (xn) (st) (sz) (rb) (2) (rl) (sz) (wr) (lv9) (ct) (ln) (rg) (ml) (mx) (bt) (od) (rw) (ms) (sm) (bf) (co) (ov) ++ T9)) (As := []) (rest := []) (m_M_thrown l D cs w w1 w2 w3 w4 w5 w6 w7 w8 w9 wa wb wd (2) (rl) (sz) (wr) (lv9)  ) tw_489 tw_490 tw_491 tw_6 tw_492 rfl 0 rfl rfl (by decide +kernel) rfl ⟨rfl, rfl, by decide, hce, hsl⟩ rfl [11] rfl rfl (by decide) (Nat.le_of_ble_eq_true rfl) rfl d_L_law_432 ?_
  refine g_iload C d_L_law_435 1 rfl ?_
  refine n_icmp_eq C 442 d_L_law_437 (by decide) (by omega) (by omega) (fun _ => ?_) (fun h => absurd h (by omega))
  refine g_iload C d_L_law_442 1 rfl ?_
  refine n_if_ne C 466 d_L_law_444 (by decide) (by omega) (fun _ => ?_) (fun h => absurd h (by omega))
  refine g_goto C 794 d_L_law_466 (by decide) ?_
  refine g_lv (lv' := [(0, .ref zz), (1, .ref b), (2, .ref w), (3, .ref o9), (4, .int (nI (i)))]) [2, 3, 4, 5, 6] rfl ?_
  exact K
set_option maxHeartbeats 4000000 in
set_option maxRecDepth 100000 in
theorem s_range_0 {p : Program} {l : Launch} {e : Env} {s : State} {m : MethodId} {args : Array Value} {below : List Frame} {meth : Method} {c : Code} {cells slots : Nat} {Q : State → Prop} {A : Nat → Prop} {D : va_G} {cs : ClassId × ClassId × ClassId × ClassId} (C : CX p s m args c code 8 RL D cs A) (b k bc bl bx a al ac ah an g gr : Nat) (ct : Nat → Nat) (lo ex : Nat → Int32) (wr : Nat) (lv9 : Int64) (rl : Nat) (ln cn sn xn : Nat → Nat) (fl : Nat) (rb : Nat → Nat) (st sz : Nat) (od : Nat → Nat) (T9 : va_W) (w w1 w2 w3 w4 w5 w6 w7 w8 w9 wa wb wd mc : Nat) (rg bt ms sm bf co : Nat → Nat) (ml mx rw : Nat → Int32) (o9 : Nat) (ov : Nat → Int64) (zz L i : Nat) (xs : Nat → Int32) (hX : va_X zz L xs s s.heap) (hbl : zz < s.heap.size) (hbA : ¬ A zz) (hL : L ≤ 2561) (hiL : i + 5 ≤ L) (xf : XF s) (xs9 : XS A s s.heap) (hce : cells + 1 + 0 ≤ room_1.cells) (hsl : slots + 6 + 0 ≤ room_1.slots) (y L9 : Nat) (lw e9 : Int32) (hy : y < 48) (h1L : 1 ≤ L9) (hL9 : L9 ≤ 16) (he : ¬ e9 < (-32)) (he2 : e9 ≤ nI 32) (hl : ∀ j, j < 48 → ln j ≤ 16) (hrl : rl < 3) (e1 : xs (i + 1) = nI y) (e2 : xs (i + 2) = lw) (e3 : xs (i + 3) = e9) (e4 : xs (i + 4) = nI L9)
    (K : GO p l e room_1 s m args below meth c (cells + 1) (slots + 6) Q A D 8 794 [(0, .ref zz), (1, .ref b), (2, .ref w), (3, .ref o9), (4, .int (nI (i)))] [] (LW cs b k bc bl bx a al ac ah an g gr w w1 w2 w3 w4 w5 w6 w7 w8 w9 wa wb wd o9 (wr) (lv9) (ct) (upd (lo) (y) (lw)) (upd (ex) (y) (e9)) (rl) (fll (updN (ln) (y) (L9))) ((updN (ln) (y) (L9))) ((cN (rl) (updN (ln) (y) (L9)) (cn))) ((shr (updN (ln) (y) (L9)) 48)) ((xN (rl) (updN (ln) (y) (L9)) (xn))) (st) (sz) (rb) (0) (rl) (sz) (wr) (lv9) (ct) ((updN (ln) (y) (L9))) ((updN (rg) (y) (1))) (upd (ml) (y) (lw)) (upd (mx) (y) (e9)) (bt) (od) (rw) (ms) (sm) (bf) (co) ((fun _ => lN (if stt (fll (updN ln y L9)) = 2 then 0 else 1))) ++ T9))
    : GO p l e room_1 s m args below meth c cells slots Q A D 8 469 [(0, .ref zz), (1, .ref b), (2, .ref w), (3, .ref o9), (4, .int (nI (i)))] [] (LW cs b k bc bl bx a al ac ah an g gr w w1 w2 w3 w4 w5 w6 w7 w8 w9 wa wb wd o9 (wr) (lv9) (ct) (lo) (ex) (rl) (fl) (ln) (cn) (sn) (xn) (st) (sz) (rb) (mc) (rl) (sz) (wr) (lv9) (ct) (ln) (rg) (ml) (mx) (bt) (od) (rw) (ms) (sm) (bf) (co) (ov) ++ T9) := by
  have e8 : (if stt (fll (updN ln y L9)) = 2 then 0 else 1) = (if stt (flm (updN (ln) (y) (L9)) 48) < 2 then 1 else 0) := by
    rw [flm_fll (fun j hj => by unfold updN; split; exact hL9; exact hl j hj)]
    have := stt_le (fll (updN ln y L9))
    (repeat' split) <;> omega
  refine g_aload_n C d_L_law_469 1 rfl rfl ?_
  refine g_aload_n C d_L_law_470 0 rfl rfl ?_
  refine g_iload C d_L_law_471 4 rfl ?_
  refine g_iconst C (v := nI 1) d_L_law_473 rfl ?_
  refine g_iadd C (v := nI (i + 1)) d_L_law_474 (nI_add _ _) ?_
  refine g_xald C hX hbl hbA (i := i + 1) (v := nI (y)) (by omega) (by omega) e1 d_L_law_475 ?_
  refine g_aload_n C d_L_law_476 0 rfl rfl ?_
  refine g_iload C d_L_law_477 4 rfl ?_
  refine g_iconst C (v := nI 2) d_L_law_479 rfl ?_
  refine g_iadd C (v := nI (i + 2)) d_L_law_480 (nI_add _ _) ?_
  refine g_xald C hX hbl hbA (i := i + 2) (v := lw) (by omega) (by omega) e2 d_L_law_481 ?_
  refine g_aload_n C d_L_law_482 0 rfl rfl ?_
  refine g_iload C d_L_law_483 4 rfl ?_
  refine g_iconst C (v := nI 3) d_L_law_485 rfl ?_
  refine g_iadd C (v := nI (i + 3)) d_L_law_486 (nI_add _ _) ?_
  refine g_xald C hX hbl hbA (i := i + 3) (v := e9) (by omega) (by omega) e3 d_L_law_487 ?_
  refine g_aload_n C d_L_law_488 0 rfl rfl ?_
  refine g_iload C d_L_law_489 4 rfl ?_
  refine g_iconst C (v := nI 4) d_L_law_491 rfl ?_
  refine g_iadd C (v := nI (i + 4)) d_L_law_492 (nI_add _ _) ?_
  refine g_xald C hX hbl hbA (i := i + 4) (v := nI (L9)) (by omega) (by omega) e4 d_L_law_493 ?_
  refine g_aload_n C d_L_law_494 3 rfl rfl ?_
  refine g_callSw C (n := 6) (ws' := (LW cs b k bc bl bx a al ac ah an g gr w w1 w2 w3 w4 w5 w6 w7 w8 w9 wa wb wd o9 (wr) (lv9) (ct) (upd (lo) (y) (lw)) (upd (ex) (y) (e9)) (rl) (fll (updN (ln) (y) (L9))) ((updN (ln) (y) (L9))) ((cN (rl) (updN (ln) (y) (L9)) (cn))) ((shr (updN (ln) (y) (L9)) 48)) ((xN (rl) (updN (ln) (y) (L9)) (xn))) (st) (sz) (rb) (mc) (rl) (sz) (wr) (lv9) (ct) (ln) (rg) (ml) (mx) (bt) (od) (rw) (ms) (sm) (bf) (co) ((fun _ => lN (if stt (fll (updN ln y L9)) = 2 then 0 else 1))) ++ T9)) (As := [.ref b, .int (nI (y)), .int (lw), .int (e9), .int (nI (L9)), .ref o9]) (rest := []) (m_L_range_0 l D cs b k bc bl bx a al ac ah an g gr (ct) (lo) (ex) (wr) (lv9) (rl) (ln) (cn) (sn) (xn) (fl) (rb) (st) (sz)  o9 (ov) y L9 lw e9 hy h1L hL9 he he2 hl hrl) tw_378 tw_379 tw_0 tw_380 xf xs9 (by decide +kernel) rfl ⟨rfl, rfl, by decide, hce, hsl⟩ rfl [0, 1, 2, 3, 4, 5, 6, 7, 8, 9, 10, 24] rfl rfl (by decide) (Nat.le_of_ble_eq_true rfl) rfl d_L_law_495 ?_
  refine g_istore C (lv' := [(5, .int (nI (0))), (0, .ref zz), (1, .ref b), (2, .ref w), (3, .ref o9), (4, .int (nI (i)))]) d_L_law_498 (by decide) rfl ?_
  refine g_aload_n C d_L_law_500 3 rfl rfl ?_
  refine g_aload_n C d_L_law_501 1 rfl rfl ?_
  refine g_iload C d_L_law_502 5 rfl ?_
  refine g_iconst C (v := nI 1) d_L_law_504 rfl ?_
  refine g_iadd C (v := nI (i + 1)) d_L_law_505 (nI_add _ _) ?_
  refine g_xald C hX hbl hbA (i := i + 1) (v := nI (y)) (by omega) (by omega) e1 d_L_law_506 ?_
  refine g_aload_n C d_L_law_507 1 rfl rfl ?_
  refine g_iload C d_L_law_508 5 rfl ?_
  refine g_iconst C (v := nI 2) d_L_law_510 rfl ?_
  refine g_iadd C (v := nI (i + 2)) d_L_law_511 (nI_add _ _) ?_
  refine g_xald C hX hbl hbA (i := i + 2) (v := lw) (by omega) (by omega) e2 d_L_law_512 ?_
  refine g_aload_n C d_L_law_513 1 rfl rfl ?_
  refine g_iload C d_L_law_514 5 rfl ?_
  refine g_iconst C (v := nI 3) d_L_law_516 rfl ?_
  refine g_iadd C (v := nI (i + 3)) d_L_law_517 (nI_add _ _) ?_
  refine g_xald C hX hbl hbA (i := i + 3) (v := e9) (by omega) (by omega) e3 d_L_law_518 ?_
  refine g_aload_n C d_L_law_519 1 rfl rfl ?_
  refine g_iload C d_L_law_520 5 rfl ?_
  refine g_iconst C (v := nI 4) d_L_law_522 rfl ?_
  refine g_iadd C (v := nI (i + 4)) d_L_law_523 (nI_add _ _) ?_
  refine g_xald C hX hbl hbA (i := i + 4) (v := nI (L9)) (by omega) (by omega) e4 d_L_law_524 ?_
  refine g_callVi C (n := 4) (ws' := (LW cs b k bc bl bx a al ac ah an g gr w w1 w2 w3 w4 w5 w6 w7 w8 w9 wa wb wd o9 (wr) (lv9) (ct) (upd (lo) (y) (lw)) (upd (ex) (y) (e9)) (rl) (fll (updN (ln) (y) (L9))) ((updN (ln) (y) (L9))) ((cN (rl) (updN (ln) (y) (L9)) (cn))) ((shr (updN (ln) (y) (L9)) 48)) ((xN (rl) (updN (ln) (y) (L9)) (xn))) (st) (sz) (rb) (0) (rl) (sz) (wr) (lv9) (ct) ((updN (ln) (y) (L9))) ((updN (rg) (y) (1))) (upd (ml) (y) (lw)) (upd (mx) (y) (e9)) (bt) (od) (rw) (ms) (sm) (bf) (co) ((fun _ => lN (if stt (fll (updN ln y L9)) = 2 then 0 else 1))) ++ T9)) (As := [.int (nI (y)), .int (lw), .int (e9), .int (nI (L9))]) (rest := []) (m_M_range_0 l D cs w w1 w2 w3 w4 w5 w6 w7 w8 w9 wa wb wd (mc) (rl) (sz) (wr) (lv9) (ln) (rg) (ml) (mx) y L9 lw e9 hy h1L hL9 he he2 hl) tw_534 tw_535 tw_536 tw_6 tw_537 rfl 0 rfl rfl (by decide +kernel) rfl ⟨rfl, rfl, by decide, hce, hsl⟩ rfl [11, 13, 14, 15, 16] rfl rfl (by decide) (Nat.le_of_ble_eq_true rfl) rfl d_L_law_525 ?_
  refine g_istore C (lv' := [(6, .int (nI (if stt (flm (updN (ln) (y) (L9)) 48) < 2 then 1 else 0))), (5, .int (nI (0))), (0, .ref zz), (1, .ref b), (2, .ref w), (3, .ref o9), (4, .int (nI (i)))]) d_L_law_528 (by decide) rfl ?_
  refine g_aload_n C d_L_law_530 4 rfl rfl ?_
  refine g_callVi C (n := 0) (ws' := (LW cs b k bc bl bx a al ac ah an g gr w w1 w2 w3 w4 w5 w6 w7 w8 w9 wa wb wd o9 (wr) (lv9) (ct) (upd (lo) (y) (lw)) (upd (ex) (y) (e9)) (rl) (fll (updN (ln) (y) (L9))) ((updN (ln) (y) (L9))) ((cN (rl) (updN (ln) (y) (L9)) (cn))) ((shr (updN (ln) (y) (L9)) 48)) ((xN (rl) (updN (ln) (y) (L9)) (xn))) (st) (sz) (rb) (0) (rl) (sz) (wr) (lv9) (ct) ((updN (ln) (y) (L9))) ((updN (rg) (y) (1))) (upd (ml) (y) (lw)) (upd (mx) (y) (e9)) (bt) (od) (rw) (ms) (sm) (bf) (co) ((fun _ => lN (if stt (fll (updN ln y L9)) = 2 then 0 else 1))) ++ T9)) (As := []) (rest := []) (m_M_thrown l D cs w w1 w2 w3 w4 w5 w6 w7 w8 w9 wa wb wd (0) (rl) (sz) (wr) (lv9)  ) tw_489 tw_490 tw_491 tw_6 tw_492 rfl 0 rfl rfl (by decide +kernel) rfl ⟨rfl, rfl, by decide, hce, hsl⟩ rfl [11] rfl rfl (by decide) (Nat.le_of_ble_eq_true rfl) rfl d_L_law_531 ?_
  refine g_iload C d_L_law_534 1 rfl ?_
  refine n_icmp_eq C 541 d_L_law_536 (by decide) (by omega) (by omega) (fun _ => ?_) (fun h => absurd h (by omega))
  refine g_iload C d_L_law_541 1 rfl ?_
  refine n_if_ne C 565 d_L_law_543 (by decide) (by omega) (fun h => absurd h (by omega)) (fun _ => ?_)
  refine g_aload_n C d_L_law_546 5 rfl rfl ?_
  refine g_iconst C (v := nI 0) d_L_law_547 rfl ?_
  refine g_lald C 24 rfl (by omega) (by decide) d_L_law_548 ?_
  refine g_iload C d_L_law_549 0 rfl ?_
  refine n_if_eq C 558 d_L_law_551 (by decide) (by split <;> omega) (fun h551 => ?_) (fun h551 => ?_)
  · refine g_lconst C (v := lN 0) d_L_law_558 rfl ?_
    refine g_lcmp_eq C 565 d_L_law_559 d_L_law_560 (by decide) (fun _ => ?_) (fun h => absurd h (not_not_intro (congrArg lN (by have h8 : (if stt (fll (updN ln y L9)) = 2 then 0 else 1) < 2 := (by split <;> omega); omega))))
    refine g_goto C 794 d_L_law_565 (by decide) ?_
    refine g_lv (lv' := [(0, .ref zz), (1, .ref b), (2, .ref w), (3, .ref o9), (4, .int (nI (i)))]) [2, 3, 4, 5, 6] rfl ?_
    exact K
  · refine g_lconst C (v := lN 1) d_L_law_554 rfl ?_
    refine g_goto C 559 d_L_law_555 (by decide) ?_
    refine g_lcmp_eq C 565 d_L_law_559 d_L_law_560 (by decide) (fun _ => ?_) (fun h => absurd h (not_not_intro (congrArg lN (by have h8 : (if stt (fll (updN ln y L9)) = 2 then 0 else 1) < 2 := (by split <;> omega); omega))))
    refine g_goto C 794 d_L_law_565 (by decide) ?_
    refine g_lv (lv' := [(0, .ref zz), (1, .ref b), (2, .ref w), (3, .ref o9), (4, .int (nI (i)))]) [2, 3, 4, 5, 6] rfl ?_
    exact K
set_option maxHeartbeats 4000000 in
set_option maxRecDepth 100000 in
theorem s_range_1 {p : Program} {l : Launch} {e : Env} {s : State} {m : MethodId} {args : Array Value} {below : List Frame} {meth : Method} {c : Code} {cells slots : Nat} {Q : State → Prop} {A : Nat → Prop} {D : va_G} {cs : ClassId × ClassId × ClassId × ClassId} (hl9 : l.stackTraces = false) (C : CX p s m args c code 8 RL D cs A) (b k bc bl bx a al ac ah an g gr : Nat) (ct : Nat → Nat) (lo ex : Nat → Int32) (wr : Nat) (lv9 : Int64) (rl : Nat) (ln cn sn xn : Nat → Nat) (fl : Nat) (rb : Nat → Nat) (st sz : Nat) (od : Nat → Nat) (T9 : va_W) (w w1 w2 w3 w4 w5 w6 w7 w8 w9 wa wb wd mc : Nat) (rg bt ms sm bf co : Nat → Nat) (ml mx rw : Nat → Int32) (o9 : Nat) (ov : Nat → Int64) (zz L i : Nat) (xs : Nat → Int32) (hX : va_X zz L xs s s.heap) (hbl : zz < s.heap.size) (hbA : ¬ A zz) (hL : L ≤ 2561) (hiL : i + 5 ≤ L) (xf : XF s) (xs9 : XS A s s.heap) (hce : cells + 1 + 0 ≤ room_1.cells) (hsl : slots + 6 + 0 ≤ room_1.slots) (x : Int32) (hx : x < 0 ∨ ¬ x < nI 48) (e1 : xs (i + 1) = x) (z1 z2 z3 : Int32) (e2 : xs (i + 2) = z1) (e3 : xs (i + 3) = z2) (e4 : xs (i + 4) = z3)
    (K : GO p l e room_1 s m args below meth c (cells + 1) (slots + 6) Q A D 8 794 [(0, .ref zz), (1, .ref b), (2, .ref w), (3, .ref o9), (4, .int (nI (i)))] [] (LW cs b k bc bl bx a al ac ah an g gr w w1 w2 w3 w4 w5 w6 w7 w8 w9 wa wb wd o9 (wr) (lv9) (ct) (lo) (ex) (rl) (fl) (ln) (cn) (sn) (xn) (st) (sz) (rb) (1) (rl) (sz) (wr) (lv9) (ct) (ln) (rg) (ml) (mx) (bt) (od) (rw) (ms) (sm) (bf) (co) (ov) ++ T9))
    : GO p l e room_1 s m args below meth c cells slots Q A D 8 469 [(0, .ref zz), (1, .ref b), (2, .ref w), (3, .ref o9), (4, .int (nI (i)))] [] (LW cs b k bc bl bx a al ac ah an g gr w w1 w2 w3 w4 w5 w6 w7 w8 w9 wa wb wd o9 (wr) (lv9) (ct) (lo) (ex) (rl) (fl) (ln) (cn) (sn) (xn) (st) (sz) (rb) (mc) (rl) (sz) (wr) (lv9) (ct) (ln) (rg) (ml) (mx) (bt) (od) (rw) (ms) (sm) (bf) (co) (ov) ++ T9) := by
  refine g_aload_n C d_L_law_469 1 rfl rfl ?_
  refine g_aload_n C d_L_law_470 0 rfl rfl ?_
  refine g_iload C d_L_law_471 4 rfl ?_
  refine g_iconst C (v := nI 1) d_L_law_473 rfl ?_
  refine g_iadd C (v := nI (i + 1)) d_L_law_474 (nI_add _ _) ?_
  refine g_xald C hX hbl hbA (i := i + 1) (v := x) (by omega) (by omega) e1 d_L_law_475 ?_
  refine g_aload_n C d_L_law_476 0 rfl rfl ?_
  refine g_iload C d_L_law_477 4 rfl ?_
  refine g_iconst C (v := nI 2) d_L_law_479 rfl ?_
  refine g_iadd C (v := nI (i + 2)) d_L_law_480 (nI_add _ _) ?_
  refine g_xald C hX hbl hbA (i := i + 2) (v := z1) (by omega) (by omega) e2 d_L_law_481 ?_
  refine g_aload_n C d_L_law_482 0 rfl rfl ?_
  refine g_iload C d_L_law_483 4 rfl ?_
  refine g_iconst C (v := nI 3) d_L_law_485 rfl ?_
  refine g_iadd C (v := nI (i + 3)) d_L_law_486 (nI_add _ _) ?_
  refine g_xald C hX hbl hbA (i := i + 3) (v := z2) (by omega) (by omega) e3 d_L_law_487 ?_
  refine g_aload_n C d_L_law_488 0 rfl rfl ?_
  refine g_iload C d_L_law_489 4 rfl ?_
  refine g_iconst C (v := nI 4) d_L_law_491 rfl ?_
  refine g_iadd C (v := nI (i + 4)) d_L_law_492 (nI_add _ _) ?_
  refine g_xald C hX hbl hbA (i := i + 4) (v := z3) (by omega) (by omega) e4 d_L_law_493 ?_
  refine g_aload_n C d_L_law_494 3 rfl rfl ?_
  refine g_callSw C (n := 6) (ws' := (LW cs b k bc bl bx a al ac ah an g gr w w1 w2 w3 w4 w5 w6 w7 w8 w9 wa wb wd o9 (wr) (lv9) (ct) (lo) (ex) (rl) (fl) (ln) (cn) (sn) (xn) (st) (sz) (rb) (mc) (rl) (sz) (wr) (lv9) (ct) (ln) (rg) (ml) (mx) (bt) (od) (rw) (ms) (sm) (bf) (co) (ov) ++ T9)) (As := [.ref b, .int (x), .int (z1), .int (z2), .int (z3), .ref o9]) (rest := []) (m_L_range_1 l hl9 D cs b k bc bl bx a al ac ah an g gr (ct) (lo) (ex) (wr) (lv9) (rl) (ln) (cn) (sn) (xn) (fl) (rb) (st) (sz)  o9 (ov) x hx z1 z2 z3) tw_378 tw_379 tw_0 tw_380 xf xs9 (by decide +kernel) rfl ⟨rfl, rfl, by decide, hce, hsl⟩ rfl [0, 1, 2, 3, 4, 5, 6, 7, 8, 9, 10, 24] rfl rfl (by decide) (Nat.le_of_ble_eq_true rfl) rfl d_L_law_495 ?_
  refine g_istore C (lv' := [(5, .int (nI (1))), (0, .ref zz), (1, .ref b), (2, .ref w), (3, .ref o9), (4, .int (nI (i)))]) d_L_law_498 (by decide) rfl ?_
  refine g_aload_n C d_L_law_500 3 rfl rfl ?_
  refine g_aload_n C d_L_law_501 1 rfl rfl ?_
  refine g_iload C d_L_law_502 5 rfl ?_
  refine g_iconst C (v := nI 1) d_L_law_504 rfl ?_
  refine g_iadd C (v := nI (i + 1)) d_L_law_505 (nI_add _ _) ?_
  refine g_xald C hX hbl hbA (i := i + 1) (v := x) (by omega) (by omega) e1 d_L_law_506 ?_
  refine g_aload_n C d_L_law_507 1 rfl rfl ?_
  refine g_iload C d_L_law_508 5 rfl ?_
  refine g_iconst C (v := nI 2) d_L_law_510 rfl ?_
  refine g_iadd C (v := nI (i + 2)) d_L_law_511 (nI_add _ _) ?_
  refine g_xald C hX hbl hbA (i := i + 2) (v := z1) (by omega) (by omega) e2 d_L_law_512 ?_
  refine g_aload_n C d_L_law_513 1 rfl rfl ?_
  refine g_iload C d_L_law_514 5 rfl ?_
  refine g_iconst C (v := nI 3) d_L_law_516 rfl ?_
  refine g_iadd C (v := nI (i + 3)) d_L_law_517 (nI_add _ _) ?_
  refine g_xald C hX hbl hbA (i := i + 3) (v := z2) (by omega) (by omega) e3 d_L_law_518 ?_
  refine g_aload_n C d_L_law_519 1 rfl rfl ?_
  refine g_iload C d_L_law_520 5 rfl ?_
  refine g_iconst C (v := nI 4) d_L_law_522 rfl ?_
  refine g_iadd C (v := nI (i + 4)) d_L_law_523 (nI_add _ _) ?_
  refine g_xald C hX hbl hbA (i := i + 4) (v := z3) (by omega) (by omega) e4 d_L_law_524 ?_
  refine g_callVi C (n := 4) (ws' := (LW cs b k bc bl bx a al ac ah an g gr w w1 w2 w3 w4 w5 w6 w7 w8 w9 wa wb wd o9 (wr) (lv9) (ct) (lo) (ex) (rl) (fl) (ln) (cn) (sn) (xn) (st) (sz) (rb) (1) (rl) (sz) (wr) (lv9) (ct) (ln) (rg) (ml) (mx) (bt) (od) (rw) (ms) (sm) (bf) (co) (ov) ++ T9)) (As := [.int (x), .int (z1), .int (z2), .int (z3)]) (rest := []) (m_M_range_1 l D cs w w1 w2 w3 w4 w5 w6 w7 w8 w9 wa wb wd (mc) (rl) (sz) (wr) (lv9) (ln) (rg) (ml) (mx) x hx z1 z2 z3) tw_534 tw_535 tw_536 tw_6 tw_537 rfl 0 rfl rfl (by decide +kernel) rfl ⟨rfl, rfl, by decide, hce, hsl⟩ rfl [11, 13, 14, 15, 16] rfl rfl (by decide) (Nat.le_of_ble_eq_true rfl) rfl d_L_law_525 ?_
  refine g_istore C (lv' := [(6, .int (nI (0))), (5, .int (nI (1))), (0, .ref zz), (1, .ref b), (2, .ref w), (3, .ref o9), (4, .int (nI (i)))]) d_L_law_528 (by decide) rfl ?_
  refine g_aload_n C d_L_law_530 4 rfl rfl ?_
  refine g_callVi C (n := 0) (ws' := (LW cs b k bc bl bx a al ac ah an g gr w w1 w2 w3 w4 w5 w6 w7 w8 w9 wa wb wd o9 (wr) (lv9) (ct) (lo) (ex) (rl) (fl) (ln) (cn) (sn) (xn) (st) (sz) (rb) (1) (rl) (sz) (wr) (lv9) (ct) (ln) (rg) (ml) (mx) (bt) (od) (rw) (ms) (sm) (bf) (co) (ov) ++ T9)) (As := []) (rest := []) (m_M_thrown l D cs w w1 w2 w3 w4 w5 w6 w7 w8 w9 wa wb wd (1) (rl) (sz) (wr) (lv9)  ) tw_489 tw_490 tw_491 tw_6 tw_492 rfl 0 rfl rfl (by decide +kernel) rfl ⟨rfl, rfl, by decide, hce, hsl⟩ rfl [11] rfl rfl (by decide) (Nat.le_of_ble_eq_true rfl) rfl d_L_law_531 ?_
  refine g_iload C d_L_law_534 1 rfl ?_
  refine n_icmp_eq C 541 d_L_law_536 (by decide) (by omega) (by omega) (fun _ => ?_) (fun h => absurd h (by omega))
  refine g_iload C d_L_law_541 1 rfl ?_
  refine n_if_ne C 565 d_L_law_543 (by decide) (by omega) (fun _ => ?_) (fun h => absurd h (by omega))
  refine g_goto C 794 d_L_law_565 (by decide) ?_
  refine g_lv (lv' := [(0, .ref zz), (1, .ref b), (2, .ref w), (3, .ref o9), (4, .int (nI (i)))]) [2, 3, 4, 5, 6] rfl ?_
  exact K
set_option maxHeartbeats 4000000 in
set_option maxRecDepth 100000 in
theorem s_range_2 {p : Program} {l : Launch} {e : Env} {s : State} {m : MethodId} {args : Array Value} {below : List Frame} {meth : Method} {c : Code} {cells slots : Nat} {Q : State → Prop} {A : Nat → Prop} {D : va_G} {cs : ClassId × ClassId × ClassId × ClassId} (hl9 : l.stackTraces = false) (C : CX p s m args c code 8 RL D cs A) (b k bc bl bx a al ac ah an g gr : Nat) (ct : Nat → Nat) (lo ex : Nat → Int32) (wr : Nat) (lv9 : Int64) (rl : Nat) (ln cn sn xn : Nat → Nat) (fl : Nat) (rb : Nat → Nat) (st sz : Nat) (od : Nat → Nat) (T9 : va_W) (w w1 w2 w3 w4 w5 w6 w7 w8 w9 wa wb wd mc : Nat) (rg bt ms sm bf co : Nat → Nat) (ml mx rw : Nat → Int32) (o9 : Nat) (ov : Nat → Int64) (zz L i : Nat) (xs : Nat → Int32) (hX : va_X zz L xs s s.heap) (hbl : zz < s.heap.size) (hbA : ¬ A zz) (hL : L ≤ 2561) (hiL : i + 5 ≤ L) (xf : XF s) (xs9 : XS A s s.heap) (hce : cells + 1 + 0 ≤ room_1.cells) (hsl : slots + 6 + 0 ≤ room_1.slots) (y : Nat) (hy : y < 48) (lw e9 z : Int32) (hx : (z < nI 1 ∨ ¬ z ≤ nI 16) ∨ (e9 < (-32) ∨ ¬ e9 ≤ nI 32)) (e1 : xs (i + 1) = nI y) (e2 : xs (i + 2) = lw) (e3 : xs (i + 3) = e9) (e4 : xs (i + 4) = z)
    (K : GO p l e room_1 s m args below meth c (cells + 1) (slots + 6) Q A D 8 794 [(0, .ref zz), (1, .ref b), (2, .ref w), (3, .ref o9), (4, .int (nI (i)))] [] (LW cs b k bc bl bx a al ac ah an g gr w w1 w2 w3 w4 w5 w6 w7 w8 w9 wa wb wd o9 (wr) (lv9) (ct) (lo) (ex) (rl) (fl) (ln) (cn) (sn) (xn) (st) (sz) (rb) (2) (rl) (sz) (wr) (lv9) (ct) (ln) (rg) (ml) (mx) (bt) (od) (rw) (ms) (sm) (bf) (co) (ov) ++ T9))
    : GO p l e room_1 s m args below meth c cells slots Q A D 8 469 [(0, .ref zz), (1, .ref b), (2, .ref w), (3, .ref o9), (4, .int (nI (i)))] [] (LW cs b k bc bl bx a al ac ah an g gr w w1 w2 w3 w4 w5 w6 w7 w8 w9 wa wb wd o9 (wr) (lv9) (ct) (lo) (ex) (rl) (fl) (ln) (cn) (sn) (xn) (st) (sz) (rb) (mc) (rl) (sz) (wr) (lv9) (ct) (ln) (rg) (ml) (mx) (bt) (od) (rw) (ms) (sm) (bf) (co) (ov) ++ T9) := by
  refine g_aload_n C d_L_law_469 1 rfl rfl ?_
  refine g_aload_n C d_L_law_470 0 rfl rfl ?_
  refine g_iload C d_L_law_471 4 rfl ?_
  refine g_iconst C (v := nI 1) d_L_law_473 rfl ?_
  refine g_iadd C (v := nI (i + 1)) d_L_law_474 (nI_add _ _) ?_
  refine g_xald C hX hbl hbA (i := i + 1) (v := nI (y)) (by omega) (by omega) e1 d_L_law_475 ?_
  refine g_aload_n C d_L_law_476 0 rfl rfl ?_
  refine g_iload C d_L_law_477 4 rfl ?_
  refine g_iconst C (v := nI 2) d_L_law_479 rfl ?_
  refine g_iadd C (v := nI (i + 2)) d_L_law_480 (nI_add _ _) ?_
  refine g_xald C hX hbl hbA (i := i + 2) (v := lw) (by omega) (by omega) e2 d_L_law_481 ?_
  refine g_aload_n C d_L_law_482 0 rfl rfl ?_
  refine g_iload C d_L_law_483 4 rfl ?_
  refine g_iconst C (v := nI 3) d_L_law_485 rfl ?_
  refine g_iadd C (v := nI (i + 3)) d_L_law_486 (nI_add _ _) ?_
  refine g_xald C hX hbl hbA (i := i + 3) (v := e9) (by omega) (by omega) e3 d_L_law_487 ?_
  refine g_aload_n C d_L_law_488 0 rfl rfl ?_
  refine g_iload C d_L_law_489 4 rfl ?_
  refine g_iconst C (v := nI 4) d_L_law_491 rfl ?_
  refine g_iadd C (v := nI (i + 4)) d_L_law_492 (nI_add _ _) ?_
  refine g_xald C hX hbl hbA (i := i + 4) (v := z) (by omega) (by omega) e4 d_L_law_493 ?_
  refine g_aload_n C d_L_law_494 3 rfl rfl ?_
  refine g_callSw C (n := 6) (ws' := (LW cs b k bc bl bx a al ac ah an g gr w w1 w2 w3 w4 w5 w6 w7 w8 w9 wa wb wd o9 (wr) (lv9) (ct) (lo) (ex) (rl) (fl) (ln) (cn) (sn) (xn) (st) (sz) (rb) (mc) (rl) (sz) (wr) (lv9) (ct) (ln) (rg) (ml) (mx) (bt) (od) (rw) (ms) (sm) (bf) (co) (ov) ++ T9)) (As := [.ref b, .int (nI (y)), .int (lw), .int (e9), .int (z), .ref o9]) (rest := []) (m_L_range_2 l hl9 D cs b k bc bl bx a al ac ah an g gr (ct) (lo) (ex) (wr) (lv9) (rl) (ln) (cn) (sn) (xn) (fl) (rb) (st) (sz)  o9 (ov) y hy lw e9 z hx) tw_378 tw_379 tw_0 tw_380 xf xs9 (by decide +kernel) rfl ⟨rfl, rfl, by decide, hce, hsl⟩ rfl [0, 1, 2, 3, 4, 5, 6, 7, 8, 9, 10, 24] rfl rfl (by decide) (Nat.le_of_ble_eq_true rfl) rfl d_L_law_495 ?_
  refine g_istore C (lv' := [(5, .int (nI (2))), (0, .ref zz), (1, .ref b), (2, .ref w), (3, .ref o9), (4, .int (nI (i)))]) d_L_law_498 (by decide) rfl ?_
  refine g_aload_n C d_L_law_500 3 rfl rfl ?_
  refine g_aload_n C d_L_law_501 1 rfl rfl ?_
  refine g_iload C d_L_law_502 5 rfl ?_
  refine g_iconst C (v := nI 1) d_L_law_504 rfl ?_
  refine g_iadd C (v := nI (i + 1)) d_L_law_505 (nI_add _ _) ?_
  refine g_xald C hX hbl hbA (i := i + 1) (v := nI (y)) (by omega) (by omega) e1 d_L_law_506 ?_
  refine g_aload_n C d_L_law_507 1 rfl rfl ?_
  refine g_iload C d_L_law_508 5 rfl ?_
  refine g_iconst C (v := nI 2) d_L_law_510 rfl ?_
  refine g_iadd C (v := nI (i + 2)) d_L_law_511 (nI_add _ _) ?_
  refine g_xald C hX hbl hbA (i := i + 2) (v := lw) (by omega) (by omega) e2 d_L_law_512 ?_
  refine g_aload_n C d_L_law_513 1 rfl rfl ?_
  refine g_iload C d_L_law_514 5 rfl ?_
  refine g_iconst C (v := nI 3) d_L_law_516 rfl ?_
  refine g_iadd C (v := nI (i + 3)) d_L_law_517 (nI_add _ _) ?_
  refine g_xald C hX hbl hbA (i := i + 3) (v := e9) (by omega) (by omega) e3 d_L_law_518 ?_
  refine g_aload_n C d_L_law_519 1 rfl rfl ?_
  refine g_iload C d_L_law_520 5 rfl ?_
  refine g_iconst C (v := nI 4) d_L_law_522 rfl ?_
  refine g_iadd C (v := nI (i + 4)) d_L_law_523 (nI_add _ _) ?_
  refine g_xald C hX hbl hbA (i := i + 4) (v := z) (by omega) (by omega) e4 d_L_law_524 ?_
  refine g_callVi C (n := 4) (ws' := (LW cs b k bc bl bx a al ac ah an g gr w w1 w2 w3 w4 w5 w6 w7 w8 w9 wa wb wd o9 (wr) (lv9) (ct) (lo) (ex) (rl) (fl) (ln) (cn) (sn) (xn) (st) (sz) (rb) (2) (rl) (sz) (wr) (lv9) (ct) (ln) (rg) (ml) (mx) (bt) (od) (rw) (ms) (sm) (bf) (co) (ov) ++ T9)) (As := [.int (nI (y)), .int (lw), .int (e9), .int (z)]) (rest := []) (m_M_range_2 l D cs w w1 w2 w3 w4 w5 w6 w7 w8 w9 wa wb wd (mc) (rl) (sz) (wr) (lv9) (ln) (rg) (ml) (mx) y hy lw e9 z hx) tw_534 tw_535 tw_536 tw_6 tw_537 rfl 0 rfl rfl (by decide +kernel) rfl ⟨rfl, rfl, by decide, hce, hsl⟩ rfl [11, 13, 14, 15, 16] rfl rfl (by decide) (Nat.le_of_ble_eq_true rfl) rfl d_L_law_525 ?_
  refine g_istore C (lv' := [(6, .int (nI (0))), (5, .int (nI (2))), (0, .ref zz), (1, .ref b), (2, .ref w), (3, .ref o9), (4, .int (nI (i)))]) d_L_law_528 (by decide) rfl ?_
  refine g_aload_n C d_L_law_530 4 rfl rfl ?_
  refine g_callVi C (n := 0) (ws' := (LW cs b k bc bl bx a al ac ah an g gr w w1 w2 w3 w4 w5 w6 w7 w8 w9 wa wb wd o9 (wr) (lv9) (ct) (lo) (ex) (rl) (fl) (ln) (cn) (sn) (xn) (st) (sz) (rb) (2) (rl) (sz) (wr) (lv9) (ct) (ln) (rg) (ml) (mx) (bt) (od) (rw) (ms) (sm) (bf) (co) (ov) ++ T9)) (As := []) (rest := []) (m_M_thrown l D cs w w1 w2 w3 w4 w5 w6 w7 w8 w9 wa wb wd (2) (rl) (sz) (wr) (lv9)  ) tw_489 tw_490 tw_491 tw_6 tw_492 rfl 0 rfl rfl (by decide +kernel) rfl ⟨rfl, rfl, by decide, hce, hsl⟩ rfl [11] rfl rfl (by decide) (Nat.le_of_ble_eq_true rfl) rfl d_L_law_531 ?_
  refine g_iload C d_L_law_534 1 rfl ?_
  refine n_icmp_eq C 541 d_L_law_536 (by decide) (by omega) (by omega) (fun _ => ?_) (fun h => absurd h (by omega))
  refine g_iload C d_L_law_541 1 rfl ?_
  refine n_if_ne C 565 d_L_law_543 (by decide) (by omega) (fun _ => ?_) (fun h => absurd h (by omega))
  refine g_goto C 794 d_L_law_565 (by decide) ?_
  refine g_lv (lv' := [(0, .ref zz), (1, .ref b), (2, .ref w), (3, .ref o9), (4, .int (nI (i)))]) [2, 3, 4, 5, 6] rfl ?_
  exact K
