theorem g_perm {p : Program} {l : Launch} {e : Env} {s : State} {m : MethodId} {args : Array Value} {below : List Frame} {meth : Method} {c : Code} {cells slots : Nat} {Q : State → Prop} {A : Nat → Prop} {D : va_G} {lv : List (Nat × Value)} {pc : Nat} {X : va_W} {c1 c2 c3 c4 c5 : Nat × va_E} {T : va_W} (hX : X.length = 25) (hT : T.length = 16)
    (g : GO p l e room_1 s m args below meth c cells slots Q A D 8 pc lv [] (X ++ ([c1, c2, c3, c5, c4] ++ T))) : GO p l e room_1 s m args below meth c cells slots Q A D 8 pc lv [] (X ++ ([c1, c2, c3, c4, c5] ++ T)) := by
  intro H locs ls hP hD hS hl
  have e1 : X ++ ([c1, c2, c3, c4, c5] ++ T) = ((X ++ [c1, c2, c3]) ++ [c4]) ++ ([c5] ++ T) := by simp
  have e2 : X ++ ([c1, c2, c3, c5, c4] ++ T) = (((X ++ [c1, c2, c3]) ++ [c5]) ++ [c4]) ++ T := by simp
  rw [e1] at hP hD
  have hP1 := va_P.swap hP
  have hD1 := va_D.swap hD
  have e3 : ((X ++ [c1, c2, c3]) ++ ([c5] ++ T)) ++ [c4] = (((X ++ [c1, c2, c3]) ++ [c5]) ++ T) ++ [c4] := by simp
  rw [e3] at hP1 hD1
  have hP2 := va_P.swap hP1
  have hD2 := va_D.swap hD1
  rw [← e2] at hP2 hD2
  exact g H locs ls hP2 hD2 hS hl
set_option maxHeartbeats 4000000 in
set_option maxRecDepth 100000 in
theorem k_make {p : Program} {l : Launch} {e : Env} {s : State} {m : MethodId} {args : Array Value} {below : List Frame} {meth : Method} {c : Code} {cells slots : Nat} {Q : State → Prop} {A : Nat → Prop} {D : va_G} {cs : ClassId × ClassId × ClassId × ClassId} (hl9 : l.stackTraces = false) (C : CX p s m args c code 8 RL D cs A) (b k bc bl bx a al ac ah an g gr w w1 w2 w3 w4 w5 w6 w7 w8 w9 wa wb wd o9 ko kp : Nat) (ra : Nat → Nat) (rl : Nat) (wr : Nat) (lv9 : Int64) (ct : Nat → Nat) (lo : Nat → Int32) (ex : Nat → Int32) (fl : Nat) (ln : Nat → Nat) (cn : Nat → Nat) (sn : Nat → Nat) (xn : Nat → Nat) (st : Nat) (sz : Nat) (rb : Nat → Nat) (mc : Nat) (rg : Nat → Nat) (ml : Nat → Int32) (mx : Nat → Int32) (bt : Nat → Nat) (od : Nat → Nat) (rw : Nat → Int32) (ms : Nat → Nat) (sm : Nat → Nat) (bf : Nat → Nat) (co : Nat → Nat) (ov : Nat → Int64) (kr : Nat) (ks : Nat) (rs : Nat) (cd : Nat) (rv : Nat → Nat) (sv : Nat → Nat) (pl : Nat → Nat → Nat) (zz L i : Nat) (xs : Nat → Int32) (hX : va_X zz L xs s s.heap) (hbl : zz < s.heap.size) (hbA : ¬ A zz) (hL : L ≤ 2561) (hiL : i + 5 ≤ L) (xf : XF s) (xs9 : XS A s s.heap) (hce : cells + 1 + 0 ≤ room_1.cells) (hsl : slots + 6 + 0 ≤ room_1.slots) (hrl : rl < 3) (I : Inv9 rl wr ct lo ex fl ln cn st sz rb rg ml mx bt co)
    (N : NX cs b k bc bl bx a al ac ah an g gr w w1 w2 w3 w4 w5 w6 w7 w8 w9 wa wb wd o9 ko kp ra rl (fun ws => GO p l e room_1 s m args below meth c (cells + 1) (slots + 6) Q A D 8 794 [(0, .ref zz), (1, .ref b), (2, .ref w), (3, .ref o9), (4, .int (nI (i)))] [] ws))
    : GO p l e room_1 s m args below meth c cells slots Q A D 8 227 [(0, .ref zz), (1, .ref b), (2, .ref w), (3, .ref o9), (4, .int (nI (i)))] [] (WL cs b k bc bl bx a al ac ah an g gr w w1 w2 w3 w4 w5 w6 w7 w8 w9 wa wb wd o9 ko kp ra rl wr lv9 ct lo ex fl ln cn sn xn st sz rb mc rg ml mx bt od rw ms sm bf co ov kr ks rs cd rv sv pl) := by
  obtain ⟨⟨i1, i2, i3, i4⟩, j1, j2, j3, j4, j5, ⟨j6, j7, j8, j9⟩, k1, k2, k3⟩ := id I
  have hfl : fl < 2 ^ 31 := by rw [i4]; exact fll_lt ln
  by_cases hx : (xs (i + 1)) < nI 1 ∨ ¬ (xs (i + 1)) ≤ nI 16
  · refine s_make_1 hl9 C b k bc bl bx a al ac ah an g gr ct lo ex wr lv9 rl ln cn sn xn fl rb st sz od (KW cs k ko kp kr ks kr ks rs cd ra od rv sv ++ rowsW cs.1 ra pl) w w1 w2 w3 w4 w5 w6 w7 w8 w9 wa wb wd mc rg bt ms sm bf co ml mx rw o9 ov zz L i xs hX hbl hbA hL hiL xf xs9 hce hsl (xs (i + 1)) hx rfl ?_
    refine N _ _ _ _ _ _ _ _ _ _ _ _ _ _ _ _ _ _ _ _ _ _ _ _ _ _ _ _ _ _ _ _ ?_
    exact I
  · obtain ⟨mo, h1, hmo, em⟩ := inN2 (by decide) hx (by decide)
    by_cases hn : 2 ^ mo < (srt ct 48 od 0).2
    · refine s_make_n C b k bc bl bx a al ac ah an g gr ct lo ex wr lv9 rl ln cn sn xn fl rb st sz od w w1 w2 w3 w4 w5 w6 w7 w8 w9 wa wb wd mc rg bt ms sm bf co ml mx rw o9 ov zz L i xs ko kp kr ks rs cd ra rv sv pl hX hbl hbA hL hiL xf xs9 hce hsl mo h1 hmo j1 em hn ?_
      refine N _ _ _ _ _ _ _ _ _ _ _ _ _ _ _ _ _ _ _ _ _ _ _ _ _ _ _ _ _ _ _ _ ?_
      exact I
    · by_cases h0 : (srt ct 48 od 0).2 = 0
      · refine s_make_0 C b k bc bl bx a al ac ah an g gr ct lo ex wr lv9 rl ln cn sn xn fl rb st sz od w w1 w2 w3 w4 w5 w6 w7 w8 w9 wa wb wd mc rg bt ms sm bf co ml mx rw o9 ov zz L i xs ko kp kr ks rs cd ra rv sv pl hX hbl hbA hL hiL xf xs9 hce hsl mo h1 hmo j1 em hrl h0 ?_
        rw [mk0 h0]
        refine N _ _ _ _ _ _ _ _ _ _ _ _ _ _ _ _ _ _ _ _ _ _ _ _ _ _ _ _ _ _ _ _ ?_
        exact I9_all I (fun j hj => Nat.zero_le _)
      · by_cases hq : (srt ct 48 od 0).2 = 1
        · refine s_make_o C b k bc bl bx a al ac ah an g gr ct lo ex wr lv9 rl ln cn sn xn fl rb st sz od w w1 w2 w3 w4 w5 w6 w7 w8 w9 wa wb wd mc rg bt ms sm bf co ml mx rw o9 ov zz L i xs ko kp kr ks rs cd ra rv sv pl hX hbl hbA hL hiL xf xs9 hce hsl mo h1 hmo j1 em hrl hq ?_
          refine N _ _ _ _ _ _ _ _ _ _ _ _ _ _ _ _ _ _ _ _ _ _ _ _ _ _ _ _ _ _ _ _ ?_
          exact I9_all I (fun j hj => by unfold updN; split; decide; exact Nat.zero_le _)
        · have h2 : 2 ≤ (srt ct 48 od 0).2 := by omega
          refine s_make_m C b k bc bl bx a al ac ah an g gr ct lo ex wr lv9 rl ln cn sn xn fl rb st sz od w w1 w2 w3 w4 w5 w6 w7 w8 w9 wa wb wd mc rg bt ms sm bf co ml mx rw o9 ov zz L i xs ko kp kr ks rs cd ra rv sv pl hX hbl hbA hL hiL xf xs9 hce hsl mo h1 hmo j1 em hrl h2 (by omega) ?_
          rw [mk2 (rv := rv) (sv := sv) (pl := pl) h1 h2 (by omega)]
          by_cases hp : mo % 2 = 0
          · simp only [if_pos hp]
            refine N _ _ _ _ _ _ _ _ _ _ _ _ _ _ _ _ _ _ _ _ _ _ _ _ _ _ _ _ _ _ _ _ ?_
            exact I9_all I (mk2_le hmo)
          · simp only [if_neg hp]
            refine g_perm rfl (rowsW_len _ _ _) ?_
            refine N _ _ _ _ _ _ _ _ _ _ _ _ _ _ _ _ _ _ _ _ _ _ _ _ _ _ _ _ _ _ _ _ ?_
            exact I9_all I (mk2_le hmo)
