set_option maxHeartbeats 4000000 in
set_option maxRecDepth 100000 in
theorem law_head {p : Program} {l : Launch} {e : Env} {s : State} {m : MethodId} {args : Array Value} {below : List Frame} {meth : Method} {c : Code} {cells slots : Nat} {Q : State → Prop} {A : Nat → Prop} {D : va_G} {cs : ClassId × ClassId × ClassId × ClassId} (C : CX p s m args c code 8 RL D cs A) (zz b w o9 L i : Nat) (xs : Nat → Int32) {ws : va_W} (hX : va_X zz L xs s s.heap) (hbl : zz < s.heap.size) (hbA : ¬ A zz) (hL : L ≤ 2561) (hi : i ≤ 2561)
    (Kx : GO p l e room_1 s m args below meth c cells slots Q A D 8 800 [(0, .ref zz), (1, .ref b), (2, .ref w), (3, .ref o9), (4, .int (nI (i)))] [] ws) (Kb : i + 5 ≤ L → GO p l e room_1 s m args below meth c cells slots Q A D 8 42 [(0, .ref zz), (1, .ref b), (2, .ref w), (3, .ref o9), (4, .int (nI (i)))] [] ws) : GO p l e room_1 s m args below meth c cells slots Q A D 8 33 [(0, .ref zz), (1, .ref b), (2, .ref w), (3, .ref o9), (4, .int (nI (i)))] [] ws := by
  refine g_iload C d_L_law_33 4 rfl ?_
  refine g_aload_n C d_L_law_35 0 rfl rfl ?_
  refine g_xlen C hX hbl hbA d_L_law_36 ?_
  refine g_iconst C (v := nI 5) d_L_law_37 rfl ?_
  refine g_isub C (v := nI L - nI 5) d_L_law_38 rfl ?_
  refine g_icmp_gt C 800 d_L_law_39 (by decide) (fun h => ?_) (fun h => ?_)
  · exact Kx
  · exact Kb (le5 hL hi h)
set_option maxHeartbeats 4000000 in
set_option maxRecDepth 100000 in
theorem law_sw {p : Program} {l : Launch} {e : Env} {s : State} {m : MethodId} {args : Array Value} {below : List Frame} {meth : Method} {c : Code} {cells slots : Nat} {Q : State → Prop} {A : Nat → Prop} {D : va_G} {cs : ClassId × ClassId × ClassId × ClassId} (C : CX p s m args c code 8 RL D cs A) (zz b w o9 L i : Nat) (xs : Nat → Int32) {ws : va_W} (hX : va_X zz L xs s s.heap) (hbl : zz < s.heap.size) (hbA : ¬ A zz) (hL : L ≤ 2561) (hiL : i + 5 ≤ L)
    (K0 : GO p l e room_1 s m args below meth c cells slots Q A D 8 120 [(0, .ref zz), (1, .ref b), (2, .ref w), (3, .ref o9), (4, .int (nI (i)))] [] ws) (K1 : GO p l e room_1 s m args below meth c cells slots Q A D 8 227 [(0, .ref zz), (1, .ref b), (2, .ref w), (3, .ref o9), (4, .int (nI (i)))] [] ws) (K2 : GO p l e room_1 s m args below meth c cells slots Q A D 8 283 [(0, .ref zz), (1, .ref b), (2, .ref w), (3, .ref o9), (4, .int (nI (i)))] [] ws) (K3 : GO p l e room_1 s m args below meth c cells slots Q A D 8 339 [(0, .ref zz), (1, .ref b), (2, .ref w), (3, .ref o9), (4, .int (nI (i)))] [] ws) (K4 : GO p l e room_1 s m args below meth c cells slots Q A D 8 394 [(0, .ref zz), (1, .ref b), (2, .ref w), (3, .ref o9), (4, .int (nI (i)))] [] ws) (K5 : GO p l e room_1 s m args below meth c cells slots Q A D 8 469 [(0, .ref zz), (1, .ref b), (2, .ref w), (3, .ref o9), (4, .int (nI (i)))] [] ws) (K6 : GO p l e room_1 s m args below meth c cells slots Q A D 8 568 [(0, .ref zz), (1, .ref b), (2, .ref w), (3, .ref o9), (4, .int (nI (i)))] [] ws) (K7 : GO p l e room_1 s m args below meth c cells slots Q A D 8 581 [(0, .ref zz), (1, .ref b), (2, .ref w), (3, .ref o9), (4, .int (nI (i)))] [] ws) (K8 : GO p l e room_1 s m args below meth c cells slots Q A D 8 644 [(0, .ref zz), (1, .ref b), (2, .ref w), (3, .ref o9), (4, .int (nI (i)))] [] ws) (K9 : GO p l e room_1 s m args below meth c cells slots Q A D 8 688 [(0, .ref zz), (1, .ref b), (2, .ref w), (3, .ref o9), (4, .int (nI (i)))] [] ws) (K10 : GO p l e room_1 s m args below meth c cells slots Q A D 8 731 [(0, .ref zz), (1, .ref b), (2, .ref w), (3, .ref o9), (4, .int (nI (i)))] [] ws) (K11 : GO p l e room_1 s m args below meth c cells slots Q A D 8 744 [(0, .ref zz), (1, .ref b), (2, .ref w), (3, .ref o9), (4, .int (nI (i)))] [] ws) (K12 : GO p l e room_1 s m args below meth c cells slots Q A D 8 758 [(0, .ref zz), (1, .ref b), (2, .ref w), (3, .ref o9), (4, .int (nI (i)))] [] ws) (K13 : GO p l e room_1 s m args below meth c cells slots Q A D 8 783 [(0, .ref zz), (1, .ref b), (2, .ref w), (3, .ref o9), (4, .int (nI (i)))] [] ws) (Kd : GO p l e room_1 s m args below meth c cells slots Q A D 8 794 [(0, .ref zz), (1, .ref b), (2, .ref w), (3, .ref o9), (4, .int (nI (i)))] [] ws) : GO p l e room_1 s m args below meth c cells slots Q A D 8 42 [(0, .ref zz), (1, .ref b), (2, .ref w), (3, .ref o9), (4, .int (nI (i)))] [] ws := by
  obtain ⟨t, ht, et⟩ := pk_andE (xs i) (m := nI 15) 4 (by decide)
  refine g_aload_n C d_L_law_42 0 rfl rfl ?_
  refine g_iload C d_L_law_43 4 rfl ?_
  refine g_xald C hX hbl hbA (i := i) (v := xs i) (by omega) (by omega) rfl d_L_law_45 ?_
  refine g_bipush C (v := nI 15) d_L_law_46 rfl ?_
  refine g_iand C (v := nI t) d_L_law_48 et ?_
  have ht : t < 16 := ht
  rcases (show t = 0 ∨ t = 1 ∨ t = 2 ∨ t = 3 ∨ t = 4 ∨ t = 5 ∨ t = 6 ∨ t = 7 ∨ t = 8 ∨ t = 9 ∨ t = 10 ∨ t = 11 ∨ t = 12 ∨ t = 13 ∨ t = 14 ∨ t = 15 by omega) with rfl | rfl | rfl | rfl | rfl | rfl | rfl | rfl | rfl | rfl | rfl | rfl | rfl | rfl | rfl | rfl
  · exact g_tsin C 120 (off := 71) d_L_law_49 (by decide) (by decide) (by decide +kernel) (by decide) K0
  · exact g_tsin C 227 (off := 178) d_L_law_49 (by decide) (by decide) (by decide +kernel) (by decide) K1
  · exact g_tsin C 283 (off := 234) d_L_law_49 (by decide) (by decide) (by decide +kernel) (by decide) K2
  · exact g_tsin C 339 (off := 290) d_L_law_49 (by decide) (by decide) (by decide +kernel) (by decide) K3
  · exact g_tsin C 394 (off := 345) d_L_law_49 (by decide) (by decide) (by decide +kernel) (by decide) K4
  · exact g_tsin C 469 (off := 420) d_L_law_49 (by decide) (by decide) (by decide +kernel) (by decide) K5
  · exact g_tsin C 568 (off := 519) d_L_law_49 (by decide) (by decide) (by decide +kernel) (by decide) K6
  · exact g_tsin C 581 (off := 532) d_L_law_49 (by decide) (by decide) (by decide +kernel) (by decide) K7
  · exact g_tsin C 644 (off := 595) d_L_law_49 (by decide) (by decide) (by decide +kernel) (by decide) K8
  · exact g_tsin C 688 (off := 639) d_L_law_49 (by decide) (by decide) (by decide +kernel) (by decide) K9
  · exact g_tsin C 731 (off := 682) d_L_law_49 (by decide) (by decide) (by decide +kernel) (by decide) K10
  · exact g_tsin C 744 (off := 695) d_L_law_49 (by decide) (by decide) (by decide +kernel) (by decide) K11
  · exact g_tsin C 758 (off := 709) d_L_law_49 (by decide) (by decide) (by decide +kernel) (by decide) K12
  · exact g_tsin C 783 (off := 734) d_L_law_49 (by decide) (by decide) (by decide +kernel) (by decide) K13
  · exact g_tsout C 794 d_L_law_49 (Or.inr (by decide)) (by decide) Kd
  · exact g_tsout C 794 d_L_law_49 (Or.inr (by decide)) (by decide) Kd
set_option maxHeartbeats 4000000 in
set_option maxRecDepth 100000 in
theorem law_exit {p : Program} {l : Launch} {e : Env} {s : State} {m : MethodId} {below : List Frame} {meth : Method} {c : Code} {D : va_G} {cs : ClassId × ClassId × ClassId × ClassId} {cells slots : Nat} {zz : Nat} (C : CX p s m #[Value.ref zz] c code 8 RL D cs (fun q : Nat => s.heap.size ≤ q)) (hr : meth.sig.returnType = ret) (hlk : meth.locks = false) (h1 : cells ≤ 601024) (h2 : slots ≤ 7293000) {lv : List (Nat × Value)} {ws : va_W} : GO p l e room_1 s m #[Value.ref zz] below meth c cells slots (lw_Z below #[Value.ref zz] s) (fun q : Nat => s.heap.size ≤ q) D 8 800 lv [] ws := by
  refine g_iconst C (v := 1) d_L_law_800 (by decide) ?_
  obtain ⟨⟨hx, hb, hml, hown, ht⟩, hK, hA⟩ := C
  intro H locs ls hP hD hS hl
  refine va_forget (fun q hq => hS.2.2 q hq) ?_
  refine W.widen (k := 601024) (n := 7293000) h1 h2 ?_
  exact lw_ret hx hb hr hlk d_L_law_801
