/-- the law's world between two calls -/
abbrev WL (cs : ClassId × ClassId × ClassId × ClassId) (b k bc bl bx a al ac ah an g gr w w1 w2 w3 w4 w5 w6 w7 w8 w9 wa wb wd o9 ko kp : Nat) (ra : Nat → Nat) (rl : Nat) (wr : Nat) (lv9 : Int64) (ct : Nat → Nat) (lo : Nat → Int32) (ex : Nat → Int32) (fl : Nat) (ln : Nat → Nat) (cn : Nat → Nat) (sn : Nat → Nat) (xn : Nat → Nat) (st : Nat) (sz : Nat) (rb : Nat → Nat) (mc : Nat) (rg : Nat → Nat) (ml : Nat → Int32) (mx : Nat → Int32) (bt : Nat → Nat) (od : Nat → Nat) (rw : Nat → Int32) (ms : Nat → Nat) (sm : Nat → Nat) (bf : Nat → Nat) (co : Nat → Nat) (ov : Nat → Int64) (kr : Nat) (ks : Nat) (rs : Nat) (cd : Nat) (rv : Nat → Nat) (sv : Nat → Nat) (pl : Nat → Nat → Nat) : va_W := LW cs b k bc bl bx a al ac ah an g gr w w1 w2 w3 w4 w5 w6 w7 w8 w9 wa wb wd o9 wr lv9 ct lo ex rl fl ln cn sn xn st sz rb mc rl sz wr lv9 ct ln rg ml mx bt od rw ms sm bf co ov ++ (KW cs k ko kp kr ks kr ks rs cd ra od rv sv ++ rowsW cs.1 ra pl)
/-- what the law's loop wants behind a call -/
def NX (cs : ClassId × ClassId × ClassId × ClassId) (b k bc bl bx a al ac ah an g gr w w1 w2 w3 w4 w5 w6 w7 w8 w9 wa wb wd o9 ko kp : Nat) (ra : Nat → Nat) (rl : Nat) (K9 : va_W → Prop) : Prop := ∀ (wr : Nat) (lv9 : Int64) (ct : Nat → Nat) (lo : Nat → Int32) (ex : Nat → Int32) (fl : Nat) (ln : Nat → Nat) (cn : Nat → Nat) (sn : Nat → Nat) (xn : Nat → Nat) (st : Nat) (sz : Nat) (rb : Nat → Nat) (mc : Nat) (rg : Nat → Nat) (ml : Nat → Int32) (mx : Nat → Int32) (bt : Nat → Nat) (od : Nat → Nat) (rw : Nat → Int32) (ms : Nat → Nat) (sm : Nat → Nat) (bf : Nat → Nat) (co : Nat → Nat) (ov : Nat → Int64) (kr : Nat) (ks : Nat) (rs : Nat) (cd : Nat) (rv : Nat → Nat) (sv : Nat → Nat) (pl : Nat → Nat → Nat), Inv9 rl wr ct lo ex fl ln cn st sz rb rg ml mx bt co → K9 (WL cs b k bc bl bx a al ac ah an g gr w w1 w2 w3 w4 w5 w6 w7 w8 w9 wa wb wd o9 ko kp ra rl wr lv9 ct lo ex fl ln cn sn xn st sz rb mc rg ml mx bt od rw ms sm bf co ov kr ks rs cd rv sv pl)

set_option maxHeartbeats 4000000 in
set_option maxRecDepth 100000 in
theorem k_count {p : Program} {l : Launch} {e : Env} {s : State} {m : MethodId} {args : Array Value} {below : List Frame} {meth : Method} {c : Code} {cells slots : Nat} {Q : State → Prop} {A : Nat → Prop} {D : va_G} {cs : ClassId × ClassId × ClassId × ClassId} (hl9 : l.stackTraces = false) (C : CX p s m args c code 8 RL D cs A) (b k bc bl bx a al ac ah an g gr w w1 w2 w3 w4 w5 w6 w7 w8 w9 wa wb wd o9 ko kp : Nat) (ra : Nat → Nat) (rl : Nat) (wr : Nat) (lv9 : Int64) (ct : Nat → Nat) (lo : Nat → Int32) (ex : Nat → Int32) (fl : Nat) (ln : Nat → Nat) (cn : Nat → Nat) (sn : Nat → Nat) (xn : Nat → Nat) (st : Nat) (sz : Nat) (rb : Nat → Nat) (mc : Nat) (rg : Nat → Nat) (ml : Nat → Int32) (mx : Nat → Int32) (bt : Nat → Nat) (od : Nat → Nat) (rw : Nat → Int32) (ms : Nat → Nat) (sm : Nat → Nat) (bf : Nat → Nat) (co : Nat → Nat) (ov : Nat → Int64) (kr : Nat) (ks : Nat) (rs : Nat) (cd : Nat) (rv : Nat → Nat) (sv : Nat → Nat) (pl : Nat → Nat → Nat) (zz L i : Nat) (xs : Nat → Int32) (hX : va_X zz L xs s s.heap) (hbl : zz < s.heap.size) (hbA : ¬ A zz) (hL : L ≤ 2561) (hiL : i + 5 ≤ L) (xf : XF s) (xs9 : XS A s s.heap) (hce : cells + 1 + 0 ≤ room_1.cells) (hsl : slots + 6 + 0 ≤ room_1.slots) (hrl : rl < 3) (I : Inv9 rl wr ct lo ex fl ln cn st sz rb rg ml mx bt co)
    (N : NX cs b k bc bl bx a al ac ah an g gr w w1 w2 w3 w4 w5 w6 w7 w8 w9 wa wb wd o9 ko kp ra rl (fun ws => GO p l e room_1 s m args below meth c (cells + 1) (slots + 6) Q A D 8 794 [(0, .ref zz), (1, .ref b), (2, .ref w), (3, .ref o9), (4, .int (nI (i)))] [] ws))
    : GO p l e room_1 s m args below meth c cells slots Q A D 8 120 [(0, .ref zz), (1, .ref b), (2, .ref w), (3, .ref o9), (4, .int (nI (i)))] [] (WL cs b k bc bl bx a al ac ah an g gr w w1 w2 w3 w4 w5 w6 w7 w8 w9 wa wb wd o9 ko kp ra rl wr lv9 ct lo ex fl ln cn sn xn st sz rb mc rg ml mx bt od rw ms sm bf co ov kr ks rs cd rv sv pl) := by
  obtain ⟨⟨i1, i2, i3, i4⟩, j1, j2, j3, j4, j5, ⟨j6, j7, j8, j9⟩, k1, k2, k3⟩ := id I
  have hfl : fl < 2 ^ 31 := by rw [i4]; exact fll_lt ln
  by_cases hx : (xs (i + 1)) < 0 ∨ ¬ (xs (i + 1)) < nI 48
  · refine s_count_1 hl9 C b k bc bl bx a al ac ah an g gr ct lo ex wr lv9 rl ln cn sn xn fl rb st sz od (KW cs k ko kp kr ks kr ks rs cd ra od rv sv ++ rowsW cs.1 ra pl) w w1 w2 w3 w4 w5 w6 w7 w8 w9 wa wb wd mc rg bt ms sm bf co ml mx rw o9 ov zz L i xs hX hbl hbA hL hiL xf xs9 hce hsl (xs (i + 1)) hx rfl (xs (i + 2)) (xs (i + 3)) (cval (xs (i + 2)) (xs (i + 3))) rfl rfl rfl ?_
    refine N _ _ _ _ _ _ _ _ _ _ _ _ _ _ _ _ _ _ _ _ _ _ _ _ _ _ _ _ _ _ _ _ ?_
    exact I
  · obtain ⟨y, hy, ey⟩ := inN (by decide) hx
    by_cases hn : (cval (xs (i + 2)) (xs (i + 3))) < lN 0 ∨ lN 1000000000 < (cval (xs (i + 2)) (xs (i + 3)))
    · refine s_count_2 hl9 C b k bc bl bx a al ac ah an g gr ct lo ex wr lv9 rl ln cn sn xn fl rb st sz od (KW cs k ko kp kr ks kr ks rs cd ra od rv sv ++ rowsW cs.1 ra pl) w w1 w2 w3 w4 w5 w6 w7 w8 w9 wa wb wd mc rg bt ms sm bf co ml mx rw o9 ov zz L i xs hX hbl hbA hL hiL xf xs9 hce hsl y hy (xs (i + 2)) (xs (i + 3)) (cval (xs (i + 2)) (xs (i + 3))) hn ey rfl rfl rfl ?_
      refine N _ _ _ _ _ _ _ _ _ _ _ _ _ _ _ _ _ _ _ _ _ _ _ _ _ _ _ _ _ _ _ _ ?_
      exact I
    · obtain ⟨n9, hn9, en⟩ := inL hn
      refine s_count_0 C b k bc bl bx a al ac ah an g gr ct lo ex wr lv9 rl ln cn sn xn fl rb st sz od (KW cs k ko kp kr ks kr ks rs cd ra od rv sv ++ rowsW cs.1 ra pl) w w1 w2 w3 w4 w5 w6 w7 w8 w9 wa wb wd mc rg bt ms sm bf co ml mx rw o9 ov zz L i xs hX hbl hbA hL hiL xf xs9 hce hsl y n9 (xs (i + 2)) (xs (i + 3)) hy hn9 j1 ey rfl rfl en ?_
      refine N _ _ _ _ _ _ _ _ _ _ _ _ _ _ _ _ _ _ _ _ _ _ _ _ _ _ _ _ _ _ _ _ ?_
      exact I9_count I hn9
set_option maxHeartbeats 4000000 in
set_option maxRecDepth 100000 in
theorem k_length {p : Program} {l : Launch} {e : Env} {s : State} {m : MethodId} {args : Array Value} {below : List Frame} {meth : Method} {c : Code} {cells slots : Nat} {Q : State → Prop} {A : Nat → Prop} {D : va_G} {cs : ClassId × ClassId × ClassId × ClassId} (hl9 : l.stackTraces = false) (C : CX p s m args c code 8 RL D cs A) (b k bc bl bx a al ac ah an g gr w w1 w2 w3 w4 w5 w6 w7 w8 w9 wa wb wd o9 ko kp : Nat) (ra : Nat → Nat) (rl : Nat) (wr : Nat) (lv9 : Int64) (ct : Nat → Nat) (lo : Nat → Int32) (ex : Nat → Int32) (fl : Nat) (ln : Nat → Nat) (cn : Nat → Nat) (sn : Nat → Nat) (xn : Nat → Nat) (st : Nat) (sz : Nat) (rb : Nat → Nat) (mc : Nat) (rg : Nat → Nat) (ml : Nat → Int32) (mx : Nat → Int32) (bt : Nat → Nat) (od : Nat → Nat) (rw : Nat → Int32) (ms : Nat → Nat) (sm : Nat → Nat) (bf : Nat → Nat) (co : Nat → Nat) (ov : Nat → Int64) (kr : Nat) (ks : Nat) (rs : Nat) (cd : Nat) (rv : Nat → Nat) (sv : Nat → Nat) (pl : Nat → Nat → Nat) (zz L i : Nat) (xs : Nat → Int32) (hX : va_X zz L xs s s.heap) (hbl : zz < s.heap.size) (hbA : ¬ A zz) (hL : L ≤ 2561) (hiL : i + 5 ≤ L) (xf : XF s) (xs9 : XS A s s.heap) (hce : cells + 1 + 0 ≤ room_1.cells) (hsl : slots + 6 + 0 ≤ room_1.slots) (hrl : rl < 3) (I : Inv9 rl wr ct lo ex fl ln cn st sz rb rg ml mx bt co)
    (N : NX cs b k bc bl bx a al ac ah an g gr w w1 w2 w3 w4 w5 w6 w7 w8 w9 wa wb wd o9 ko kp ra rl (fun ws => GO p l e room_1 s m args below meth c (cells + 1) (slots + 6) Q A D 8 794 [(0, .ref zz), (1, .ref b), (2, .ref w), (3, .ref o9), (4, .int (nI (i)))] [] ws))
    : GO p l e room_1 s m args below meth c cells slots Q A D 8 283 [(0, .ref zz), (1, .ref b), (2, .ref w), (3, .ref o9), (4, .int (nI (i)))] [] (WL cs b k bc bl bx a al ac ah an g gr w w1 w2 w3 w4 w5 w6 w7 w8 w9 wa wb wd o9 ko kp ra rl wr lv9 ct lo ex fl ln cn sn xn st sz rb mc rg ml mx bt od rw ms sm bf co ov kr ks rs cd rv sv pl) := by
  obtain ⟨⟨i1, i2, i3, i4⟩, j1, j2, j3, j4, j5, ⟨j6, j7, j8, j9⟩, k1, k2, k3⟩ := id I
  have hfl : fl < 2 ^ 31 := by rw [i4]; exact fll_lt ln
  by_cases hx : (xs (i + 1)) < 0 ∨ ¬ (xs (i + 1)) < nI 48
  · refine s_length_1 hl9 C b k bc bl bx a al ac ah an g gr ct lo ex wr lv9 rl ln cn sn xn fl rb st sz od (KW cs k ko kp kr ks kr ks rs cd ra od rv sv ++ rowsW cs.1 ra pl) w w1 w2 w3 w4 w5 w6 w7 w8 w9 wa wb wd mc rg bt ms sm bf co ml mx rw o9 ov zz L i xs hX hbl hbA hL hiL xf xs9 hce hsl (xs (i + 1)) hx rfl ?_
    refine N _ _ _ _ _ _ _ _ _ _ _ _ _ _ _ _ _ _ _ _ _ _ _ _ _ _ _ _ _ _ _ _ ?_
    exact I
  · obtain ⟨y, hy, ey⟩ := inN (by decide) hx
    refine s_length_0 C b k bc bl bx a al ac ah an g gr ct lo ex wr lv9 rl ln cn sn xn fl rb st sz od (KW cs k ko kp kr ks kr ks rs cd ra od rv sv ++ rowsW cs.1 ra pl) w w1 w2 w3 w4 w5 w6 w7 w8 w9 wa wb wd mc rg bt ms sm bf co ml mx rw o9 ov zz L i xs hX hbl hbA hL hiL xf xs9 hce hsl y hy j2 ey ?_
    refine N _ _ _ _ _ _ _ _ _ _ _ _ _ _ _ _ _ _ _ _ _ _ _ _ _ _ _ _ _ _ _ _ ?_
    exact I
set_option maxHeartbeats 4000000 in
set_option maxRecDepth 100000 in
theorem k_code {p : Program} {l : Launch} {e : Env} {s : State} {m : MethodId} {args : Array Value} {below : List Frame} {meth : Method} {c : Code} {cells slots : Nat} {Q : State → Prop} {A : Nat → Prop} {D : va_G} {cs : ClassId × ClassId × ClassId × ClassId} (hl9 : l.stackTraces = false) (C : CX p s m args c code 8 RL D cs A) (b k bc bl bx a al ac ah an g gr w w1 w2 w3 w4 w5 w6 w7 w8 w9 wa wb wd o9 ko kp : Nat) (ra : Nat → Nat) (rl : Nat) (wr : Nat) (lv9 : Int64) (ct : Nat → Nat) (lo : Nat → Int32) (ex : Nat → Int32) (fl : Nat) (ln : Nat → Nat) (cn : Nat → Nat) (sn : Nat → Nat) (xn : Nat → Nat) (st : Nat) (sz : Nat) (rb : Nat → Nat) (mc : Nat) (rg : Nat → Nat) (ml : Nat → Int32) (mx : Nat → Int32) (bt : Nat → Nat) (od : Nat → Nat) (rw : Nat → Int32) (ms : Nat → Nat) (sm : Nat → Nat) (bf : Nat → Nat) (co : Nat → Nat) (ov : Nat → Int64) (kr : Nat) (ks : Nat) (rs : Nat) (cd : Nat) (rv : Nat → Nat) (sv : Nat → Nat) (pl : Nat → Nat → Nat) (zz L i : Nat) (xs : Nat → Int32) (hX : va_X zz L xs s s.heap) (hbl : zz < s.heap.size) (hbA : ¬ A zz) (hL : L ≤ 2561) (hiL : i + 5 ≤ L) (xf : XF s) (xs9 : XS A s s.heap) (hce : cells + 1 + 0 ≤ room_1.cells) (hsl : slots + 6 + 0 ≤ room_1.slots) (hrl : rl < 3) (I : Inv9 rl wr ct lo ex fl ln cn st sz rb rg ml mx bt co)
    (N : NX cs b k bc bl bx a al ac ah an g gr w w1 w2 w3 w4 w5 w6 w7 w8 w9 wa wb wd o9 ko kp ra rl (fun ws => GO p l e room_1 s m args below meth c (cells + 1) (slots + 6) Q A D 8 794 [(0, .ref zz), (1, .ref b), (2, .ref w), (3, .ref o9), (4, .int (nI (i)))] [] ws))
    : GO p l e room_1 s m args below meth c cells slots Q A D 8 339 [(0, .ref zz), (1, .ref b), (2, .ref w), (3, .ref o9), (4, .int (nI (i)))] [] (WL cs b k bc bl bx a al ac ah an g gr w w1 w2 w3 w4 w5 w6 w7 w8 w9 wa wb wd o9 ko kp ra rl wr lv9 ct lo ex fl ln cn sn xn st sz rb mc rg ml mx bt od rw ms sm bf co ov kr ks rs cd rv sv pl) := by
  obtain ⟨⟨i1, i2, i3, i4⟩, j1, j2, j3, j4, j5, ⟨j6, j7, j8, j9⟩, k1, k2, k3⟩ := id I
  have hfl : fl < 2 ^ 31 := by rw [i4]; exact fll_lt ln
  by_cases hx : (xs (i + 1)) < 0 ∨ ¬ (xs (i + 1)) < nI 48
  · refine s_code_1 hl9 C b k bc bl bx a al ac ah an g gr ct lo ex wr lv9 rl ln cn sn xn fl rb st sz od (KW cs k ko kp kr ks kr ks rs cd ra od rv sv ++ rowsW cs.1 ra pl) w w1 w2 w3 w4 w5 w6 w7 w8 w9 wa wb wd mc rg bt ms sm bf co ml mx rw o9 ov zz L i xs hX hbl hbA hL hiL xf xs9 hce hsl (xs (i + 1)) hx rfl j2 ?_
    refine N _ _ _ _ _ _ _ _ _ _ _ _ _ _ _ _ _ _ _ _ _ _ _ _ _ _ _ _ _ _ _ _ ?_
    exact I
  · obtain ⟨y, hy, ey⟩ := inN (by decide) hx
    by_cases hf : fll ln ≤ 65536
    · refine s_code_0 C b k bc bl bx a al ac ah an g gr ct lo ex wr lv9 rl ln cn sn xn fl rb st sz od (KW cs k ko kp kr ks kr ks rs cd ra od rv sv ++ rowsW cs.1 ra pl) w w1 w2 w3 w4 w5 w6 w7 w8 w9 wa wb wd mc rg bt ms sm bf co ml mx rw o9 ov zz L i xs hX hbl hbA hL hiL xf xs9 hce hsl y hy j2 j4 (by rw [i4]; exact hf) hf hrl j5 (codev hy (j3 hf)) ey ?_
      refine N _ _ _ _ _ _ _ _ _ _ _ _ _ _ _ _ _ _ _ _ _ _ _ _ _ _ _ _ _ _ _ _ ?_
      exact I9_code I hf
    · refine s_code_2 hl9 C b k bc bl bx a al ac ah an g gr ct lo ex wr lv9 rl ln cn sn xn fl rb st sz od (KW cs k ko kp kr ks kr ks rs cd ra od rv sv ++ rowsW cs.1 ra pl) w w1 w2 w3 w4 w5 w6 w7 w8 w9 wa wb wd mc rg bt ms sm bf co ml mx rw o9 ov zz L i xs hX hbl hbA hL hiL xf xs9 hce hsl y hy j2 (by rw [i4]; omega) hfl (by omega) ey ?_
      refine N _ _ _ _ _ _ _ _ _ _ _ _ _ _ _ _ _ _ _ _ _ _ _ _ _ _ _ _ _ _ _ _ ?_
      exact I
set_option maxHeartbeats 4000000 in
set_option maxRecDepth 100000 in
theorem k_given {p : Program} {l : Launch} {e : Env} {s : State} {m : MethodId} {args : Array Value} {below : List Frame} {meth : Method} {c : Code} {cells slots : Nat} {Q : State → Prop} {A : Nat → Prop} {D : va_G} {cs : ClassId × ClassId × ClassId × ClassId} (hl9 : l.stackTraces = false) (C : CX p s m args c code 8 RL D cs A) (b k bc bl bx a al ac ah an g gr w w1 w2 w3 w4 w5 w6 w7 w8 w9 wa wb wd o9 ko kp : Nat) (ra : Nat → Nat) (rl : Nat) (wr : Nat) (lv9 : Int64) (ct : Nat → Nat) (lo : Nat → Int32) (ex : Nat → Int32) (fl : Nat) (ln : Nat → Nat) (cn : Nat → Nat) (sn : Nat → Nat) (xn : Nat → Nat) (st : Nat) (sz : Nat) (rb : Nat → Nat) (mc : Nat) (rg : Nat → Nat) (ml : Nat → Int32) (mx : Nat → Int32) (bt : Nat → Nat) (od : Nat → Nat) (rw : Nat → Int32) (ms : Nat → Nat) (sm : Nat → Nat) (bf : Nat → Nat) (co : Nat → Nat) (ov : Nat → Int64) (kr : Nat) (ks : Nat) (rs : Nat) (cd : Nat) (rv : Nat → Nat) (sv : Nat → Nat) (pl : Nat → Nat → Nat) (zz L i : Nat) (xs : Nat → Int32) (hX : va_X zz L xs s s.heap) (hbl : zz < s.heap.size) (hbA : ¬ A zz) (hL : L ≤ 2561) (hiL : i + 5 ≤ L) (xf : XF s) (xs9 : XS A s s.heap) (hce : cells + 1 + 0 ≤ room_1.cells) (hsl : slots + 6 + 0 ≤ room_1.slots) (hrl : rl < 3) (I : Inv9 rl wr ct lo ex fl ln cn st sz rb rg ml mx bt co)
    (N : NX cs b k bc bl bx a al ac ah an g gr w w1 w2 w3 w4 w5 w6 w7 w8 w9 wa wb wd o9 ko kp ra rl (fun ws => GO p l e room_1 s m args below meth c (cells + 1) (slots + 6) Q A D 8 794 [(0, .ref zz), (1, .ref b), (2, .ref w), (3, .ref o9), (4, .int (nI (i)))] [] ws))
    : GO p l e room_1 s m args below meth c cells slots Q A D 8 394 [(0, .ref zz), (1, .ref b), (2, .ref w), (3, .ref o9), (4, .int (nI (i)))] [] (WL cs b k bc bl bx a al ac ah an g gr w w1 w2 w3 w4 w5 w6 w7 w8 w9 wa wb wd o9 ko kp ra rl wr lv9 ct lo ex fl ln cn sn xn st sz rb mc rg ml mx bt od rw ms sm bf co ov kr ks rs cd rv sv pl) := by
  obtain ⟨⟨i1, i2, i3, i4⟩, j1, j2, j3, j4, j5, ⟨j6, j7, j8, j9⟩, k1, k2, k3⟩ := id I
  have hfl : fl < 2 ^ 31 := by rw [i4]; exact fll_lt ln
  by_cases hx : (xs (i + 1)) < 0 ∨ ¬ (xs (i + 1)) < nI 48
  · refine s_given_1 hl9 C b k bc bl bx a al ac ah an g gr ct lo ex wr lv9 rl ln cn sn xn fl rb st sz od (KW cs k ko kp kr ks kr ks rs cd ra od rv sv ++ rowsW cs.1 ra pl) w w1 w2 w3 w4 w5 w6 w7 w8 w9 wa wb wd mc rg bt ms sm bf co ml mx rw o9 ov zz L i xs hX hbl hbA hL hiL xf xs9 hce hsl (xs (i + 1)) hx rfl (xs (i + 2)) rfl ?_
    refine N _ _ _ _ _ _ _ _ _ _ _ _ _ _ _ _ _ _ _ _ _ _ _ _ _ _ _ _ _ _ _ _ ?_
    exact I
  · obtain ⟨y, hy, ey⟩ := inN (by decide) hx
    by_cases hz : (xs (i + 2)) < 0 ∨ ¬ (xs (i + 2)) ≤ nI 16
    · refine s_given_2 hl9 C b k bc bl bx a al ac ah an g gr ct lo ex wr lv9 rl ln cn sn xn fl rb st sz od (KW cs k ko kp kr ks kr ks rs cd ra od rv sv ++ rowsW cs.1 ra pl) w w1 w2 w3 w4 w5 w6 w7 w8 w9 wa wb wd mc rg bt ms sm bf co ml mx rw o9 ov zz L i xs hX hbl hbA hL hiL xf xs9 hce hsl y hy (xs (i + 2)) hz ey rfl ?_
      refine N _ _ _ _ _ _ _ _ _ _ _ _ _ _ _ _ _ _ _ _ _ _ _ _ _ _ _ _ _ _ _ _ ?_
      exact I
    · obtain ⟨L9, hL9, eL⟩ := inN0 (by decide) hz
      refine s_given_0 C b k bc bl bx a al ac ah an g gr ct lo ex wr lv9 rl ln cn sn xn fl rb st sz od (KW cs k ko kp kr ks kr ks rs cd ra od rv sv ++ rowsW cs.1 ra pl) w w1 w2 w3 w4 w5 w6 w7 w8 w9 wa wb wd mc rg bt ms sm bf co ml mx rw o9 ov zz L i xs hX hbl hbA hL hiL xf xs9 hce hsl y L9 hy hL9 j2 hrl ey eL ?_
      refine N _ _ _ _ _ _ _ _ _ _ _ _ _ _ _ _ _ _ _ _ _ _ _ _ _ _ _ _ _ _ _ _ ?_
      exact I9_given I hL9
set_option maxHeartbeats 4000000 in
set_option maxRecDepth 100000 in
theorem k_range {p : Program} {l : Launch} {e : Env} {s : State} {m : MethodId} {args : Array Value} {below : List Frame} {meth : Method} {c : Code} {cells slots : Nat} {Q : State → Prop} {A : Nat → Prop} {D : va_G} {cs : ClassId × ClassId × ClassId × ClassId} (hl9 : l.stackTraces = false) (C : CX p s m args c code 8 RL D cs A) (b k bc bl bx a al ac ah an g gr w w1 w2 w3 w4 w5 w6 w7 w8 w9 wa wb wd o9 ko kp : Nat) (ra : Nat → Nat) (rl : Nat) (wr : Nat) (lv9 : Int64) (ct : Nat → Nat) (lo : Nat → Int32) (ex : Nat → Int32) (fl : Nat) (ln : Nat → Nat) (cn : Nat → Nat) (sn : Nat → Nat) (xn : Nat → Nat) (st : Nat) (sz : Nat) (rb : Nat → Nat) (mc : Nat) (rg : Nat → Nat) (ml : Nat → Int32) (mx : Nat → Int32) (bt : Nat → Nat) (od : Nat → Nat) (rw : Nat → Int32) (ms : Nat → Nat) (sm : Nat → Nat) (bf : Nat → Nat) (co : Nat → Nat) (ov : Nat → Int64) (kr : Nat) (ks : Nat) (rs : Nat) (cd : Nat) (rv : Nat → Nat) (sv : Nat → Nat) (pl : Nat → Nat → Nat) (zz L i : Nat) (xs : Nat → Int32) (hX : va_X zz L xs s s.heap) (hbl : zz < s.heap.size) (hbA : ¬ A zz) (hL : L ≤ 2561) (hiL : i + 5 ≤ L) (xf : XF s) (xs9 : XS A s s.heap) (hce : cells + 1 + 0 ≤ room_1.cells) (hsl : slots + 6 + 0 ≤ room_1.slots) (hrl : rl < 3) (I : Inv9 rl wr ct lo ex fl ln cn st sz rb rg ml mx bt co)
    (N : NX cs b k bc bl bx a al ac ah an g gr w w1 w2 w3 w4 w5 w6 w7 w8 w9 wa wb wd o9 ko kp ra rl (fun ws => GO p l e room_1 s m args below meth c (cells + 1) (slots + 6) Q A D 8 794 [(0, .ref zz), (1, .ref b), (2, .ref w), (3, .ref o9), (4, .int (nI (i)))] [] ws))
    : GO p l e room_1 s m args below meth c cells slots Q A D 8 469 [(0, .ref zz), (1, .ref b), (2, .ref w), (3, .ref o9), (4, .int (nI (i)))] [] (WL cs b k bc bl bx a al ac ah an g gr w w1 w2 w3 w4 w5 w6 w7 w8 w9 wa wb wd o9 ko kp ra rl wr lv9 ct lo ex fl ln cn sn xn st sz rb mc rg ml mx bt od rw ms sm bf co ov kr ks rs cd rv sv pl) := by
  obtain ⟨⟨i1, i2, i3, i4⟩, j1, j2, j3, j4, j5, ⟨j6, j7, j8, j9⟩, k1, k2, k3⟩ := id I
  have hfl : fl < 2 ^ 31 := by rw [i4]; exact fll_lt ln
  by_cases hx : (xs (i + 1)) < 0 ∨ ¬ (xs (i + 1)) < nI 48
  · refine s_range_1 hl9 C b k bc bl bx a al ac ah an g gr ct lo ex wr lv9 rl ln cn sn xn fl rb st sz od (KW cs k ko kp kr ks kr ks rs cd ra od rv sv ++ rowsW cs.1 ra pl) w w1 w2 w3 w4 w5 w6 w7 w8 w9 wa wb wd mc rg bt ms sm bf co ml mx rw o9 ov zz L i xs hX hbl hbA hL hiL xf xs9 hce hsl (xs (i + 1)) hx rfl (xs (i + 2)) (xs (i + 3)) (xs (i + 4)) rfl rfl rfl ?_
    refine N _ _ _ _ _ _ _ _ _ _ _ _ _ _ _ _ _ _ _ _ _ _ _ _ _ _ _ _ _ _ _ _ ?_
    exact I
  · obtain ⟨y, hy, ey⟩ := inN (by decide) hx
    by_cases hz : ((xs (i + 4)) < nI 1 ∨ ¬ (xs (i + 4)) ≤ nI 16) ∨ ((xs (i + 3)) < (-32) ∨ ¬ (xs (i + 3)) ≤ nI 32)
    · refine s_range_2 hl9 C b k bc bl bx a al ac ah an g gr ct lo ex wr lv9 rl ln cn sn xn fl rb st sz od (KW cs k ko kp kr ks kr ks rs cd ra od rv sv ++ rowsW cs.1 ra pl) w w1 w2 w3 w4 w5 w6 w7 w8 w9 wa wb wd mc rg bt ms sm bf co ml mx rw o9 ov zz L i xs hX hbl hbA hL hiL xf xs9 hce hsl y hy (xs (i + 2)) (xs (i + 3)) (xs (i + 4)) hz ey rfl rfl rfl ?_
      refine N _ _ _ _ _ _ _ _ _ _ _ _ _ _ _ _ _ _ _ _ _ _ _ _ _ _ _ _ _ _ _ _ ?_
      exact I
    · obtain ⟨L9, h1L, hL9, eL⟩ := inN2 (by decide) (fun q => hz (Or.inl q)) (by decide)
      have he : ¬ (xs (i + 3)) < (-32) := fun q => hz (Or.inr (Or.inl q))
      have he2 : (xs (i + 3)) ≤ nI 32 := Classical.byContradiction fun q => hz (Or.inr (Or.inr q))
      refine s_range_0 C b k bc bl bx a al ac ah an g gr ct lo ex wr lv9 rl ln cn sn xn fl rb st sz od (KW cs k ko kp kr ks kr ks rs cd ra od rv sv ++ rowsW cs.1 ra pl) w w1 w2 w3 w4 w5 w6 w7 w8 w9 wa wb wd mc rg bt ms sm bf co ml mx rw o9 ov zz L i xs hX hbl hbA hL hiL xf xs9 hce hsl y L9 (xs (i + 2)) (xs (i + 3)) hy h1L hL9 he he2 j2 hrl ey rfl rfl eL ?_
      refine N _ _ _ _ _ _ _ _ _ _ _ _ _ _ _ _ _ _ _ _ _ _ _ _ _ _ _ _ _ _ _ _ ?_
      exact I9_range I hL9 he he2
set_option maxHeartbeats 4000000 in
set_option maxRecDepth 100000 in
theorem k_check {p : Program} {l : Launch} {e : Env} {s : State} {m : MethodId} {args : Array Value} {below : List Frame} {meth : Method} {c : Code} {cells slots : Nat} {Q : State → Prop} {A : Nat → Prop} {D : va_G} {cs : ClassId × ClassId × ClassId × ClassId} (hl9 : l.stackTraces = false) (C : CX p s m args c code 8 RL D cs A) (b k bc bl bx a al ac ah an g gr w w1 w2 w3 w4 w5 w6 w7 w8 w9 wa wb wd o9 ko kp : Nat) (ra : Nat → Nat) (rl : Nat) (wr : Nat) (lv9 : Int64) (ct : Nat → Nat) (lo : Nat → Int32) (ex : Nat → Int32) (fl : Nat) (ln : Nat → Nat) (cn : Nat → Nat) (sn : Nat → Nat) (xn : Nat → Nat) (st : Nat) (sz : Nat) (rb : Nat → Nat) (mc : Nat) (rg : Nat → Nat) (ml : Nat → Int32) (mx : Nat → Int32) (bt : Nat → Nat) (od : Nat → Nat) (rw : Nat → Int32) (ms : Nat → Nat) (sm : Nat → Nat) (bf : Nat → Nat) (co : Nat → Nat) (ov : Nat → Int64) (kr : Nat) (ks : Nat) (rs : Nat) (cd : Nat) (rv : Nat → Nat) (sv : Nat → Nat) (pl : Nat → Nat → Nat) (zz L i : Nat) (xs : Nat → Int32) (hX : va_X zz L xs s s.heap) (hbl : zz < s.heap.size) (hbA : ¬ A zz) (hL : L ≤ 2561) (hiL : i + 5 ≤ L) (xf : XF s) (xs9 : XS A s s.heap) (hce : cells + 1 + 0 ≤ room_1.cells) (hsl : slots + 6 + 0 ≤ room_1.slots) (hrl : rl < 3) (I : Inv9 rl wr ct lo ex fl ln cn st sz rb rg ml mx bt co)
    (N : NX cs b k bc bl bx a al ac ah an g gr w w1 w2 w3 w4 w5 w6 w7 w8 w9 wa wb wd o9 ko kp ra rl (fun ws => GO p l e room_1 s m args below meth c (cells + 1) (slots + 6) Q A D 8 794 [(0, .ref zz), (1, .ref b), (2, .ref w), (3, .ref o9), (4, .int (nI (i)))] [] ws))
    : GO p l e room_1 s m args below meth c cells slots Q A D 8 568 [(0, .ref zz), (1, .ref b), (2, .ref w), (3, .ref o9), (4, .int (nI (i)))] [] (WL cs b k bc bl bx a al ac ah an g gr w w1 w2 w3 w4 w5 w6 w7 w8 w9 wa wb wd o9 ko kp ra rl wr lv9 ct lo ex fl ln cn sn xn st sz rb mc rg ml mx bt od rw ms sm bf co ov kr ks rs cd rv sv pl) := by
  obtain ⟨⟨i1, i2, i3, i4⟩, j1, j2, j3, j4, j5, ⟨j6, j7, j8, j9⟩, k1, k2, k3⟩ := id I
  have hfl : fl < 2 ^ 31 := by rw [i4]; exact fll_lt ln
  refine s_check C b k bc bl bx a al ac ah an g gr ct lo ex wr lv9 rl ln cn sn xn fl rb st sz od (KW cs k ko kp kr ks kr ks rs cd ra od rv sv ++ rowsW cs.1 ra pl) w w1 w2 w3 w4 w5 w6 w7 w8 w9 wa wb wd mc rg bt ms sm bf co ml mx rw o9 ov zz L i xs hX hbl hbA hL hiL xf xs9 hce hsl j2 hfl (by rw [i4, flm_fll j2]) ?_
  refine N _ _ _ _ _ _ _ _ _ _ _ _ _ _ _ _ _ _ _ _ _ _ _ _ _ _ _ _ _ _ _ _ ?_
  exact I
set_option maxHeartbeats 4000000 in
set_option maxRecDepth 100000 in
theorem k_feed {p : Program} {l : Launch} {e : Env} {s : State} {m : MethodId} {args : Array Value} {below : List Frame} {meth : Method} {c : Code} {cells slots : Nat} {Q : State → Prop} {A : Nat → Prop} {D : va_G} {cs : ClassId × ClassId × ClassId × ClassId} (hl9 : l.stackTraces = false) (C : CX p s m args c code 8 RL D cs A) (b k bc bl bx a al ac ah an g gr w w1 w2 w3 w4 w5 w6 w7 w8 w9 wa wb wd o9 ko kp : Nat) (ra : Nat → Nat) (rl : Nat) (wr : Nat) (lv9 : Int64) (ct : Nat → Nat) (lo : Nat → Int32) (ex : Nat → Int32) (fl : Nat) (ln : Nat → Nat) (cn : Nat → Nat) (sn : Nat → Nat) (xn : Nat → Nat) (st : Nat) (sz : Nat) (rb : Nat → Nat) (mc : Nat) (rg : Nat → Nat) (ml : Nat → Int32) (mx : Nat → Int32) (bt : Nat → Nat) (od : Nat → Nat) (rw : Nat → Int32) (ms : Nat → Nat) (sm : Nat → Nat) (bf : Nat → Nat) (co : Nat → Nat) (ov : Nat → Int64) (kr : Nat) (ks : Nat) (rs : Nat) (cd : Nat) (rv : Nat → Nat) (sv : Nat → Nat) (pl : Nat → Nat → Nat) (zz L i : Nat) (xs : Nat → Int32) (hX : va_X zz L xs s s.heap) (hbl : zz < s.heap.size) (hbA : ¬ A zz) (hL : L ≤ 2561) (hiL : i + 5 ≤ L) (xf : XF s) (xs9 : XS A s s.heap) (hce : cells + 1 + 0 ≤ room_1.cells) (hsl : slots + 6 + 0 ≤ room_1.slots) (hrl : rl < 3) (I : Inv9 rl wr ct lo ex fl ln cn st sz rb rg ml mx bt co)
    (N : NX cs b k bc bl bx a al ac ah an g gr w w1 w2 w3 w4 w5 w6 w7 w8 w9 wa wb wd o9 ko kp ra rl (fun ws => GO p l e room_1 s m args below meth c (cells + 1) (slots + 6) Q A D 8 794 [(0, .ref zz), (1, .ref b), (2, .ref w), (3, .ref o9), (4, .int (nI (i)))] [] ws))
    : GO p l e room_1 s m args below meth c cells slots Q A D 8 581 [(0, .ref zz), (1, .ref b), (2, .ref w), (3, .ref o9), (4, .int (nI (i)))] [] (WL cs b k bc bl bx a al ac ah an g gr w w1 w2 w3 w4 w5 w6 w7 w8 w9 wa wb wd o9 ko kp ra rl wr lv9 ct lo ex fl ln cn sn xn st sz rb mc rg ml mx bt od rw ms sm bf co ov kr ks rs cd rv sv pl) := by
  obtain ⟨⟨i1, i2, i3, i4⟩, j1, j2, j3, j4, j5, ⟨j6, j7, j8, j9⟩, k1, k2, k3⟩ := id I
  have hfl : fl < 2 ^ 31 := by rw [i4]; exact fll_lt ln
  by_cases h0 : (xs (i + 1)) = 0
  · refine s_feed_0 C b k bc bl bx a al ac ah an g gr ct lo ex wr lv9 rl ln cn sn xn fl rb st sz od (KW cs k ko kp kr ks kr ks rs cd ra od rv sv ++ rowsW cs.1 ra pl) w w1 w2 w3 w4 w5 w6 w7 w8 w9 wa wb wd mc rg bt ms sm bf co ml mx rw o9 ov zz L i xs hX hbl hbA hL hiL xf xs9 hce hsl 0 (by decide) i2 i3 h0 ?_
    refine N _ _ _ _ _ _ _ _ _ _ _ _ _ _ _ _ _ _ _ _ _ _ _ _ _ _ _ _ _ _ _ _ ?_
    exact I9_feed I (by decide)
  · by_cases h1 : (xs (i + 1)) = nI 1
    · refine s_feed_0 C b k bc bl bx a al ac ah an g gr ct lo ex wr lv9 rl ln cn sn xn fl rb st sz od (KW cs k ko kp kr ks kr ks rs cd ra od rv sv ++ rowsW cs.1 ra pl) w w1 w2 w3 w4 w5 w6 w7 w8 w9 wa wb wd mc rg bt ms sm bf co ml mx rw o9 ov zz L i xs hX hbl hbA hL hiL xf xs9 hce hsl 1 (by decide) i2 i3 h1 ?_
      refine N _ _ _ _ _ _ _ _ _ _ _ _ _ _ _ _ _ _ _ _ _ _ _ _ _ _ _ _ _ _ _ _ ?_
      exact I9_feed I (by decide)
    · refine s_feed_1 hl9 C b k bc bl bx a al ac ah an g gr ct lo ex wr lv9 rl ln cn sn xn fl rb st sz od (KW cs k ko kp kr ks kr ks rs cd ra od rv sv ++ rowsW cs.1 ra pl) w w1 w2 w3 w4 w5 w6 w7 w8 w9 wa wb wd mc rg bt ms sm bf co ml mx rw o9 ov zz L i xs hX hbl hbA hL hiL xf xs9 hce hsl (xs (i + 1)) h0 h1 rfl ?_
      refine N _ _ _ _ _ _ _ _ _ _ _ _ _ _ _ _ _ _ _ _ _ _ _ _ _ _ _ _ _ _ _ _ ?_
      exact I
