section GTOI
variable {p : Program} {l : Launch} {e : Env} {R : Room} {s : State} {m : MethodId} {args : Array Value} {below : List Frame} {meth : Method} {c : Code} {cells slots : Nat} {Q : State → Prop} {A : Nat → Prop} {D : va_G} {nL : Nat} {cc : ByteArray} {own : String} {cs : ClassId × ClassId × ClassId × ClassId}
variable {pc : Nat} {lv lv' : List (Nat × Value)} {st : List Value} {ws ws' : va_W}
theorem g_toi {x v : Int32} (h : x = v) (g : GO p l e R s m args below meth c cells slots Q A D nL pc lv (.int v :: st) ws) : GO p l e R s m args below meth c cells slots Q A D nL pc lv (.int x :: st) ws := by rw [h]; exact g
end GTOI
/-- how many further bits a symbol has, and the value that it tells -/
def mrm (rg : Nat → Nat) (ex : Nat → Int32) (y : Nat) : Nat := if rg y = 0 then 0 else (ex y).toInt.natAbs
def vlm (rg : Nat → Nat) (lo ex : Nat → Int32) (y tl : Nat) : Int64 := if rg y = 0 then lN y else if ex y < 0 then (lo y).toInt64 - lN tl else (lo y).toInt64 + lN tl
theorem mrm_le {rg : Nat → Nat} {ex : Nat → Int32} {y : Nat} (h : -32 ≤ (ex y).toInt ∧ (ex y).toInt ≤ 32) : mrm rg ex y ≤ 32 := by unfold mrm; split <;> omega
theorem mrm_n {rg : Nat → Nat} {ex : Nat → Int32} {y : Nat} (h : -32 ≤ (ex y).toInt ∧ (ex y).toInt ≤ 32) (h0 : ¬ rg y = 0) (h1 : ¬ 0 ≤ ex y) : -(ex y) = nI (mrm rg ex y) := by
  have := abs_nI (x := ex y) (by omega) (by omega)
  rw [if_neg h1] at this
  unfold mrm; rw [if_neg h0, ← this, Int32.zero_sub]
theorem mrm_p {rg : Nat → Nat} {ex : Nat → Int32} {y : Nat} (h : -32 ≤ (ex y).toInt ∧ (ex y).toInt ≤ 32) (h0 : ¬ rg y = 0) (h1 : 0 ≤ ex y) : ex y = nI (mrm rg ex y) := by
  have := abs_nI (x := ex y) (by omega) (by omega)
  rw [if_pos h1] at this
  unfold mrm; rw [if_neg h0, ← this]
theorem nmm_lt {bt : Nat → Nat} {bh : Nat} : ∀ n, (∀ j, j < bh + n → bt j < 2) → nmm bt bh n < 2 ^ n
  | 0, _ => by show 0 < 2 ^ 0; decide
  | n + 1, hb => by
    have h1 := nmm_lt (bt := bt) (bh := bh) n (fun j hj => hb j (by omega))
    have h2 := hb (bh + n) (by omega)
    show 2 * nmm bt bh n + bt (bh + n) < 2 ^ (n + 1)
    rw [Nat.pow_succ]; omega

set_option maxHeartbeats 4000000 in
set_option maxRecDepth 100000 in
theorem m_M_take_w (l : Launch) (D : va_G) (cs : ClassId × ClassId × ClassId × ClassId) (w w1 w2 w3 w4 w5 w6 w7 w8 w9 wa wb wd : Nat) (cd ru wt rd : Nat) (va : Int64) (ln : Nat → Nat) (rg : Nat → Nat) (lo : Nat → Int32) (ex : Nat → Int32) (bt : Nat → Nat) (y : Nat) (hy : y < 48) (hl : ∀ j, j < 48 → ln j ≤ 16) (hg : ∀ j, j < 48 → rg j < 2) (hx : ∀ j, j < 48 → -32 ≤ (ex j).toInt ∧ (ex j).toInt ≤ 32) (hz : wt ≤ 400) (hb : ∀ j, j < 400 → bt j < 2) (hw : wt < ln y + mrm rg ex y) : MG l y_M_take k_M_take { frames := 0, cells := 0, slots := 0, locals := 0 } D cs [.ref w, .int (nI (y))] [(w, .inr (4, [.int (nI (cd)), .int (nI (ru)), .ref w1, .ref w2, .ref w3, .ref w4, .ref w5, .ref w6, .int (nI (wt)), .int (nI (rd)), .long (va), .ref w7, .ref w8, .ref w9, .ref wa, .ref wb, .ref wd])), (w2, .inl (cs.1, 48, .inl (fun j => nI (ln j)))), (w3, .inl (cs.2.2.1, 48, .inl (fun j => nI (rg j)))), (w4, .inl (cs.1, 48, .inl (lo))), (w5, .inl (cs.1, 48, .inl (ex))), (w6, .inl (cs.1, 400, .inl (fun j => nI (bt j))))] (QI D ((-1)) [(w, .inr (4, [.int (nI (cd)), .int (nI (ru)), .ref w1, .ref w2, .ref w3, .ref w4, .ref w5, .ref w6, .int (nI (wt)), .int (nI (rd)), .long (va), .ref w7, .ref w8, .ref w9, .ref wa, .ref wb, .ref wd])), (w2, .inl (cs.1, 48, .inl (fun j => nI (ln j)))), (w3, .inl (cs.2.2.1, 48, .inl (fun j => nI (rg j)))), (w4, .inl (cs.1, 48, .inl (lo))), (w5, .inl (cs.1, 48, .inl (ex))), (w6, .inl (cs.1, 400, .inl (fun j => nI (bt j))))]) := by
  refine MG.mk (own := RM) (by decide) rfl (Nat.le_of_ble_eq_true rfl) ?_
  intro p e s m below meth c A C hr hlk
  refine g_lv (lv' := [(0, .ref w), (1, .int (nI (y)))]) [0, 1] rfl ?_
  refine g_aload_n C d_M_take_0 0 rfl rfl ?_
  refine g_get C (T := FM) (N := 17) 0 4 inM rfl rfl (by decide) tw_440 rfl rfl d_M_take_1 ?_
  refine g_iload_n C d_M_take_4 1 rfl rfl ?_
  refine g_zald C 2 rfl (by omega) (by decide) d_M_take_5 ?_
  refine n_if_ne C 13 d_M_take_6 (by decide) (by have := hg y hy; omega) (fun h6 => ?_) (fun h6 => ?_)
  · refine g_aload_n C d_M_take_13 0 rfl rfl ?_
    refine g_get C (T := FM) (N := 17) 0 6 inM rfl rfl (by decide) tw_442 rfl rfl d_M_take_14 ?_
    refine g_iload_n C d_M_take_17 1 rfl rfl ?_
    refine g_iald C 4 rfl (by omega) (by decide) d_M_take_18 ?_
    refine g_if_ge C 32 d_M_take_19 (by decide) (fun h19 => ?_) (fun h19 => ?_)
    · refine g_aload_n C d_M_take_32 0 rfl rfl ?_
      refine g_get C (T := FM) (N := 17) 0 6 inM rfl rfl (by decide) tw_442 rfl rfl d_M_take_33 ?_
      refine g_iload_n C d_M_take_36 1 rfl rfl ?_
      refine g_iald C 4 rfl (by omega) (by decide) d_M_take_37 ?_
      refine g_toi (v := nI (mrm rg ex y)) (mrm_p (hx y hy) (by omega) h19) ?_
      refine g_istore_n C (lv' := [(2, .int (nI (mrm rg ex y))), (0, .ref w), (1, .int (nI (y)))]) d_M_take_38 rfl (by decide) rfl ?_
      refine g_aload_n C d_M_take_39 1 rfl rfl ?_
      refine g_get C (T := FM) (N := 17) 0 3 inM rfl rfl (by decide) tw_439 rfl rfl d_M_take_40 ?_
      refine g_iload_n C d_M_take_43 2 rfl rfl ?_
      refine g_iald C 1 rfl (by omega) (by decide) d_M_take_44 ?_
      refine g_iload_n C d_M_take_45 0 rfl rfl ?_
      refine g_iadd C (v := nI (ln (y) + (mrm rg ex y))) d_M_take_46 (nI_add _ _) ?_
      refine g_aload_n C d_M_take_47 1 rfl rfl ?_
      refine g_get C (T := FM) (N := 17) 0 8 inM rfl rfl (by decide) tw_444 rfl rfl d_M_take_48 ?_
      refine n_icmp_le C 56 d_M_take_51 (by decide) (by have := hl y hy; have := mrm_le (rg := rg) (hx y hy); omega) (by omega) (fun h => absurd h (by omega)) (fun _ => ?_)
      refine g_iconst C (v := (-1)) d_M_take_54 rfl ?_
      exact g_iret C hr hlk rfl rfl d_M_take_55
    · refine g_aload_n C d_M_take_22 0 rfl rfl ?_
      refine g_get C (T := FM) (N := 17) 0 6 inM rfl rfl (by decide) tw_442 rfl rfl d_M_take_23 ?_
      refine g_iload_n C d_M_take_26 1 rfl rfl ?_
      refine g_iald C 4 rfl (by omega) (by decide) d_M_take_27 ?_
      refine g_ineg C (v := -(ex (y))) d_M_take_28 rfl ?_
      refine g_goto C 38 d_M_take_29 (by decide) ?_
      refine g_toi (v := nI (mrm rg ex y)) (mrm_n (hx y hy) (by omega) h19) ?_
      refine g_istore_n C (lv' := [(2, .int (nI (mrm rg ex y))), (0, .ref w), (1, .int (nI (y)))]) d_M_take_38 rfl (by decide) rfl ?_
      refine g_aload_n C d_M_take_39 1 rfl rfl ?_
      refine g_get C (T := FM) (N := 17) 0 3 inM rfl rfl (by decide) tw_439 rfl rfl d_M_take_40 ?_
      refine g_iload_n C d_M_take_43 2 rfl rfl ?_
      refine g_iald C 1 rfl (by omega) (by decide) d_M_take_44 ?_
      refine g_iload_n C d_M_take_45 0 rfl rfl ?_
      refine g_iadd C (v := nI (ln (y) + (mrm rg ex y))) d_M_take_46 (nI_add _ _) ?_
      refine g_aload_n C d_M_take_47 1 rfl rfl ?_
      refine g_get C (T := FM) (N := 17) 0 8 inM rfl rfl (by decide) tw_444 rfl rfl d_M_take_48 ?_
      refine n_icmp_le C 56 d_M_take_51 (by decide) (by have := hl y hy; have := mrm_le (rg := rg) (hx y hy); omega) (by omega) (fun h => absurd h (by omega)) (fun _ => ?_)
      refine g_iconst C (v := (-1)) d_M_take_54 rfl ?_
      exact g_iret C hr hlk rfl rfl d_M_take_55
  · refine g_iconst C (v := nI 0) d_M_take_9 rfl ?_
    refine g_goto C 38 d_M_take_10 (by decide) ?_
    refine g_toi (v := nI (mrm rg ex y)) (by unfold mrm; rw [if_pos (by assumption)]) ?_
    refine g_istore_n C (lv' := [(2, .int (nI (mrm rg ex y))), (0, .ref w), (1, .int (nI (y)))]) d_M_take_38 rfl (by decide) rfl ?_
    refine g_aload_n C d_M_take_39 1 rfl rfl ?_
    refine g_get C (T := FM) (N := 17) 0 3 inM rfl rfl (by decide) tw_439 rfl rfl d_M_take_40 ?_
    refine g_iload_n C d_M_take_43 2 rfl rfl ?_
    refine g_iald C 1 rfl (by omega) (by decide) d_M_take_44 ?_
    refine g_iload_n C d_M_take_45 0 rfl rfl ?_
    refine g_iadd C (v := nI (ln (y) + (mrm rg ex y))) d_M_take_46 (nI_add _ _) ?_
    refine g_aload_n C d_M_take_47 1 rfl rfl ?_
    refine g_get C (T := FM) (N := 17) 0 8 inM rfl rfl (by decide) tw_444 rfl rfl d_M_take_48 ?_
    refine n_icmp_le C 56 d_M_take_51 (by decide) (by have := hl y hy; have := mrm_le (rg := rg) (hx y hy); omega) (by omega) (fun h => absurd h (by omega)) (fun _ => ?_)
    refine g_iconst C (v := (-1)) d_M_take_54 rfl ?_
    exact g_iret C hr hlk rfl rfl d_M_take_55
set_option maxHeartbeats 4000000 in
set_option maxRecDepth 100000 in
theorem l_M_take {p : Program} {l : Launch} {e : Env} {s : State} {m : MethodId} {args : Array Value} {below : List Frame} {meth : Method} {c : Code} {Q : State → Prop} {A : Nat → Prop} {D : va_G} {cs : ClassId × ClassId × ClassId × ClassId} (C : CX p s m args c c_M_take 6 RM D cs A) (w w1 w2 w3 w4 w5 w6 w7 w8 w9 wa wb wd : Nat) (cd ru wt rd : Nat) (va : Int64) (ln : Nat → Nat) (rg : Nat → Nat) (lo : Nat → Int32) (ex : Nat → Int32) (bt : Nat → Nat) (y : Nat) (hy : y < 48) (hl : ∀ j, j < 48 → ln j ≤ 16) (hg : ∀ j, j < 48 → rg j < 2) (hx : ∀ j, j < 48 → -32 ≤ (ex j).toInt ∧ (ex j).toInt ≤ 32) (hz : wt ≤ 400) (hb : ∀ j, j < 400 → bt j < 2) (mr : Nat) (hw : ln y + mr ≤ wt)
    (K : GO p l e { frames := 1, cells := 0, slots := 0, locals := 22 } s m args below meth c 0 0 Q A D 6 95 [(0, .ref w), (1, .int (nI (y))), (2, .int (nI (mr))), (3, .long (lN (nmm bt (ln y) (mr))))] [] [(w, .inr (4, [.int (nI (cd)), .int (nI (ru)), .ref w1, .ref w2, .ref w3, .ref w4, .ref w5, .ref w6, .int (nI (wt)), .int (nI (rd)), .long (va), .ref w7, .ref w8, .ref w9, .ref wa, .ref wb, .ref wd])), (w2, .inl (cs.1, 48, .inl (fun j => nI (ln j)))), (w3, .inl (cs.2.2.1, 48, .inl (fun j => nI (rg j)))), (w4, .inl (cs.1, 48, .inl (lo))), (w5, .inl (cs.1, 48, .inl (ex))), (w6, .inl (cs.1, 400, .inl (fun j => nI (bt j))))])
    : ∀ (n : Nat) (i : Nat), mr - i = n → (i ≤ mr) → GO p l e { frames := 1, cells := 0, slots := 0, locals := 22 } s m args below meth c 0 0 Q A D 6 61 [(0, .ref w), (1, .int (nI (y))), (2, .int (nI (mr))), (3, .long (lN (nmm bt (ln y) i))), (5, .int (nI (i)))] [] [(w, .inr (4, [.int (nI (cd)), .int (nI (ru)), .ref w1, .ref w2, .ref w3, .ref w4, .ref w5, .ref w6, .int (nI (wt)), .int (nI (rd)), .long (va), .ref w7, .ref w8, .ref w9, .ref wa, .ref wb, .ref wd])), (w2, .inl (cs.1, 48, .inl (fun j => nI (ln j)))), (w3, .inl (cs.2.2.1, 48, .inl (fun j => nI (rg j)))), (w4, .inl (cs.1, 48, .inl (lo))), (w5, .inl (cs.1, 48, .inl (ex))), (w6, .inl (cs.1, 400, .inl (fun j => nI (bt j))))] := by
  intro n
  induction n using Nat.strongRecOn with
  | _ n ih =>
  intro i  hn hi
  refine g_iload C d_M_take_61 4 rfl ?_
  refine g_iload_n C d_M_take_63 2 rfl rfl ?_
  refine n_icmp_ge C 95 d_M_take_64 (by decide) (by omega) (by omega) (fun h64 => ?_) (fun h64 => ?_)
  · refine g_lv (lv' := [(0, .ref w), (1, .int (nI (y))), (2, .int (nI (mr))), (3, .long (lN (nmm bt (ln y) i)))]) [0, 1, 2, 3] rfl ?_
    have e9 : i = mr := by omega
    subst e9
    exact K
  · refine g_ldc2 C (v := lN 2) tw_563 d_M_take_67 ?_
    refine g_lload_n C d_M_take_70 3 rfl rfl ?_
    refine g_lmul C (v := lN ((2) * (nmm bt (ln y) i))) d_M_take_71 (lN_mul _ _) ?_
    refine g_aload_n C d_M_take_72 0 rfl rfl ?_
    refine g_get C (T := FM) (N := 17) 0 7 inM rfl rfl (by decide) tw_443 rfl rfl d_M_take_73 ?_
    refine g_aload_n C d_M_take_76 0 rfl rfl ?_
    refine g_get C (T := FM) (N := 17) 0 3 inM rfl rfl (by decide) tw_439 rfl rfl d_M_take_77 ?_
    refine g_iload_n C d_M_take_80 1 rfl rfl ?_
    refine g_iald C 1 rfl (by omega) (by decide) d_M_take_81 ?_
    refine g_iload C d_M_take_82 4 rfl ?_
    refine g_iadd C (v := nI (ln (y) + i)) d_M_take_84 (nI_add _ _) ?_
    refine g_iald C 5 rfl (by omega) (by decide) d_M_take_85 ?_
    refine g_i2l C (v := lN (bt (ln (y) + i))) d_M_take_86 (nI_l (by have := hb (ln y + i) (by omega); omega)) ?_
    refine g_ladd C (v := lN ((2) * (nmm bt (ln y) i) + (bt (ln (y) + i)))) d_M_take_87 (lN_add _ _) ?_
    refine g_lstore_n C (lv' := [(3, .long (lN ((2) * (nmm bt (ln y) i) + (bt (ln (y) + i))))), (0, .ref w), (1, .int (nI (y))), (2, .int (nI (mr))), (5, .int (nI (i)))]) d_M_take_88 rfl (by decide) rfl ?_
    refine g_iinc C (lv' := [(5, .int (nI (i + 1))), (3, .long (lN ((2) * (nmm bt (ln y) i) + (bt (ln (y) + i))))), (0, .ref w), (1, .int (nI (y))), (2, .int (nI (mr)))]) (k := 4) d_M_take_89 rfl (nI_1 _) (by decide) rfl ?_
    refine g_goto C 61 d_M_take_92 (by decide) ?_
    refine g_lv (lv' := [(0, .ref w), (1, .int (nI (y))), (2, .int (nI (mr))), (3, .long (lN ((2) * (nmm bt (ln y) i) + (bt (ln (y) + i))))), (5, .int (nI (i + 1)))]) [2, 3, 4, 1, 0] rfl ?_
    exact ih (mr - (i + 1)) (by omega) (i + 1) rfl (by omega)
set_option maxHeartbeats 4000000 in
set_option maxRecDepth 100000 in
theorem m_M_take_t (l : Launch) (D : va_G) (cs : ClassId × ClassId × ClassId × ClassId) (w w1 w2 w3 w4 w5 w6 w7 w8 w9 wa wb wd : Nat) (cd ru wt rd : Nat) (va : Int64) (ln : Nat → Nat) (rg : Nat → Nat) (lo : Nat → Int32) (ex : Nat → Int32) (bt : Nat → Nat) (y : Nat) (hy : y < 48) (hl : ∀ j, j < 48 → ln j ≤ 16) (hg : ∀ j, j < 48 → rg j < 2) (hx : ∀ j, j < 48 → -32 ≤ (ex j).toInt ∧ (ex j).toInt ≤ 32) (hz : wt ≤ 400) (hb : ∀ j, j < 400 → bt j < 2) (hw : ln y + mrm rg ex y ≤ wt) : MG l y_M_take k_M_take { frames := 1, cells := 0, slots := 0, locals := 22 } D cs [.ref w, .int (nI (y))] [(w, .inr (4, [.int (nI (cd)), .int (nI (ru)), .ref w1, .ref w2, .ref w3, .ref w4, .ref w5, .ref w6, .int (nI (wt)), .int (nI (rd)), .long (va), .ref w7, .ref w8, .ref w9, .ref wa, .ref wb, .ref wd])), (w2, .inl (cs.1, 48, .inl (fun j => nI (ln j)))), (w3, .inl (cs.2.2.1, 48, .inl (fun j => nI (rg j)))), (w4, .inl (cs.1, 48, .inl (lo))), (w5, .inl (cs.1, 48, .inl (ex))), (w6, .inl (cs.1, 400, .inl (fun j => nI (bt j))))] (QI D (nI (y)) [(w, .inr (4, [.int (nI (cd)), .int (nI (ru)), .ref w1, .ref w2, .ref w3, .ref w4, .ref w5, .ref w6, .int (nI ((wt) - (ln (y) + (mrm rg ex y)))), .int (nI (1)), .long ((vlm rg lo ex y (nmm bt (ln y) (mrm rg ex y)))), .ref w7, .ref w8, .ref w9, .ref wa, .ref wb, .ref wd])), (w2, .inl (cs.1, 48, .inl (fun j => nI (ln j)))), (w3, .inl (cs.2.2.1, 48, .inl (fun j => nI (rg j)))), (w4, .inl (cs.1, 48, .inl (lo))), (w5, .inl (cs.1, 48, .inl (ex))), (w6, .inl (cs.1, 400, .inl (fun j => nI ((drp (bt) (ln (y) + (mrm rg ex y)) (wt)) j))))]) := by
  refine MG.mk (own := RM) (by decide) rfl (Nat.le_of_ble_eq_true rfl) ?_
  intro p e s m below meth c A C hr hlk
  refine g_lv (lv' := [(0, .ref w), (1, .int (nI (y)))]) [0, 1] rfl ?_
  refine g_aload_n C d_M_take_0 0 rfl rfl ?_
  refine g_get C (T := FM) (N := 17) 0 4 inM rfl rfl (by decide) tw_440 rfl rfl d_M_take_1 ?_
  refine g_iload_n C d_M_take_4 1 rfl rfl ?_
  refine g_zald C 2 rfl (by omega) (by decide) d_M_take_5 ?_
  refine n_if_ne C 13 d_M_take_6 (by decide) (by have := hg y hy; omega) (fun h6 => ?_) (fun h6 => ?_)
  · refine g_aload_n C d_M_take_13 0 rfl rfl ?_
    refine g_get C (T := FM) (N := 17) 0 6 inM rfl rfl (by decide) tw_442 rfl rfl d_M_take_14 ?_
    refine g_iload_n C d_M_take_17 1 rfl rfl ?_
    refine g_iald C 4 rfl (by omega) (by decide) d_M_take_18 ?_
    refine g_if_ge C 32 d_M_take_19 (by decide) (fun h19 => ?_) (fun h19 => ?_)
    · refine g_aload_n C d_M_take_32 0 rfl rfl ?_
      refine g_get C (T := FM) (N := 17) 0 6 inM rfl rfl (by decide) tw_442 rfl rfl d_M_take_33 ?_
      refine g_iload_n C d_M_take_36 1 rfl rfl ?_
      refine g_iald C 4 rfl (by omega) (by decide) d_M_take_37 ?_
      refine g_toi (v := nI (mrm rg ex y)) (mrm_p (hx y hy) (by omega) h19) ?_
      refine g_istore_n C (lv' := [(2, .int (nI (mrm rg ex y))), (0, .ref w), (1, .int (nI (y)))]) d_M_take_38 rfl (by decide) rfl ?_
      refine g_aload_n C d_M_take_39 1 rfl rfl ?_
      refine g_get C (T := FM) (N := 17) 0 3 inM rfl rfl (by decide) tw_439 rfl rfl d_M_take_40 ?_
      refine g_iload_n C d_M_take_43 2 rfl rfl ?_
      refine g_iald C 1 rfl (by omega) (by decide) d_M_take_44 ?_
      refine g_iload_n C d_M_take_45 0 rfl rfl ?_
      refine g_iadd C (v := nI (ln (y) + (mrm rg ex y))) d_M_take_46 (nI_add _ _) ?_
      refine g_aload_n C d_M_take_47 1 rfl rfl ?_
      refine g_get C (T := FM) (N := 17) 0 8 inM rfl rfl (by decide) tw_444 rfl rfl d_M_take_48 ?_
      refine n_icmp_le C 56 d_M_take_51 (by decide) (by have := hl y hy; have := mrm_le (rg := rg) (hx y hy); omega) (by omega) (fun _ => ?_) (fun h => absurd h (by omega))
      refine g_lconst C (v := lN 0) d_M_take_56 rfl ?_
      refine g_lstore_n C (lv' := [(3, .long (lN (0))), (2, .int (nI (mrm rg ex y))), (0, .ref w), (1, .int (nI (y)))]) d_M_take_57 rfl (by decide) rfl ?_
      refine g_iconst C (v := nI 0) d_M_take_58 rfl ?_
      refine g_istore C (lv' := [(5, .int (nI (0))), (3, .long (lN (0))), (2, .int (nI (mrm rg ex y))), (0, .ref w), (1, .int (nI (y)))]) d_M_take_59 (by decide) rfl ?_
      refine g_lv (lv' := [(0, .ref w), (1, .int (nI (y))), (2, .int (nI (mrm rg ex y))), (3, .long (lN (0))), (5, .int (nI (0)))]) [3, 4, 2, 1, 0] rfl ?_
      refine l_M_take C w w1 w2 w3 w4 w5 w6 w7 w8 w9 wa wb wd cd ru wt rd va ln rg lo ex bt y hy hl hg hx hz hb (mrm rg ex y) hw ?_ _ 0 rfl (by omega)
      refine g_aload_n C d_M_take_95 0 rfl rfl ?_
      refine g_iconst C (v := nI 1) d_M_take_96 rfl ?_
      refine g_put C (T := FM) (N := 17) (ws' := [(w, .inr (4, [.int (nI (cd)), .int (nI (ru)), .ref w1, .ref w2, .ref w3, .ref w4, .ref w5, .ref w6, .int (nI (wt)), .int (nI (1)), .long (va), .ref w7, .ref w8, .ref w9, .ref wa, .ref wb, .ref wd])), (w2, .inl (cs.1, 48, .inl (fun j => nI (ln j)))), (w3, .inl (cs.2.2.1, 48, .inl (fun j => nI (rg j)))), (w4, .inl (cs.1, 48, .inl (lo))), (w5, .inl (cs.1, 48, .inl (ex))), (w6, .inl (cs.1, 400, .inl (fun j => nI (bt j))))]) 0 9 inM tyM okM nmM rfl rfl (by decide) tw_445 rfl rfl rfl rfl rfl (Nat.le_of_ble_eq_true rfl) rfl d_M_take_97 ?_
      refine g_aload_n C d_M_take_100 0 rfl rfl ?_
      refine g_aload_n C d_M_take_101 0 rfl rfl ?_
      refine g_get C (T := FM) (N := 17) 0 4 inM rfl rfl (by decide) tw_440 rfl rfl d_M_take_102 ?_
      refine g_iload_n C d_M_take_105 1 rfl rfl ?_
      refine g_zald C 2 rfl (by omega) (by decide) d_M_take_106 ?_
      refine n_if_ne C 115 d_M_take_107 (by decide) (by have := hg y hy; omega) (fun h107 => ?_) (fun h107 => ?_)
      · refine g_aload_n C d_M_take_115 0 rfl rfl ?_
        refine g_get C (T := FM) (N := 17) 0 6 inM rfl rfl (by decide) tw_442 rfl rfl d_M_take_116 ?_
        refine g_iload_n C d_M_take_119 1 rfl rfl ?_
        refine g_iald C 4 rfl (by omega) (by decide) d_M_take_120 ?_
        refine g_if_ge C 136 d_M_take_121 (by decide) (fun h121 => ?_) (fun h121 => ?_)
        · refine g_aload_n C d_M_take_136 0 rfl rfl ?_
          refine g_get C (T := FM) (N := 17) 0 5 inM rfl rfl (by decide) tw_441 rfl rfl d_M_take_137 ?_
          refine g_iload_n C d_M_take_140 1 rfl rfl ?_
          refine g_iald C 3 rfl (by omega) (by decide) d_M_take_141 ?_
          refine g_i2l C (v := (lo (y)).toInt64) d_M_take_142 rfl ?_
          refine g_lload_n C d_M_take_143 3 rfl rfl ?_
          refine g_ladd C (v := ((lo (y)).toInt64) + (lN (nmm bt (ln y) (mrm rg ex y)))) d_M_take_144 rfl ?_
          refine g_tol (v := (vlm rg lo ex y (nmm bt (ln y) (mrm rg ex y)))) (by unfold vlm; first | (exfalso; omega) | rw [if_pos (show rg y = 0 by assumption)] | rw [if_neg (show ¬ rg y = 0 by omega), if_pos (nge_lt h121)] | rw [if_neg (show ¬ rg y = 0 by omega), if_neg (ge_nlt h121)]) ?_
          refine g_put C (T := FM) (N := 17) (ws' := [(w, .inr (4, [.int (nI (cd)), .int (nI (ru)), .ref w1, .ref w2, .ref w3, .ref w4, .ref w5, .ref w6, .int (nI (wt)), .int (nI (1)), .long ((vlm rg lo ex y (nmm bt (ln y) (mrm rg ex y)))), .ref w7, .ref w8, .ref w9, .ref wa, .ref wb, .ref wd])), (w2, .inl (cs.1, 48, .inl (fun j => nI (ln j)))), (w3, .inl (cs.2.2.1, 48, .inl (fun j => nI (rg j)))), (w4, .inl (cs.1, 48, .inl (lo))), (w5, .inl (cs.1, 48, .inl (ex))), (w6, .inl (cs.1, 400, .inl (fun j => nI (bt j))))]) 0 10 inM tyM okM nmM rfl rfl (by decide) tw_446 rfl rfl rfl rfl rfl (Nat.le_of_ble_eq_true rfl) rfl d_M_take_145 ?_
          refine g_aload_n C d_M_take_148 0 rfl rfl ?_
          refine g_aload_n C d_M_take_149 0 rfl rfl ?_
          refine g_get C (T := FM) (N := 17) 0 3 inM rfl rfl (by decide) tw_439 rfl rfl d_M_take_150 ?_
          refine g_iload_n C d_M_take_153 1 rfl rfl ?_
          refine g_iald C 1 rfl (by omega) (by decide) d_M_take_154 ?_
          refine g_iload_n C d_M_take_155 2 rfl rfl ?_
          refine g_iadd C (v := nI (ln (y) + (mrm rg ex y))) d_M_take_156 (nI_add _ _) ?_
          refine g_callVv C (n := 1) (ws' := [(w, .inr (4, [.int (nI (cd)), .int (nI (ru)), .ref w1, .ref w2, .ref w3, .ref w4, .ref w5, .ref w6, .int (nI ((wt) - (ln (y) + (mrm rg ex y)))), .int (nI (1)), .long ((vlm rg lo ex y (nmm bt (ln y) (mrm rg ex y)))), .ref w7, .ref w8, .ref w9, .ref wa, .ref wb, .ref wd])), (w2, .inl (cs.1, 48, .inl (fun j => nI (ln j)))), (w3, .inl (cs.2.2.1, 48, .inl (fun j => nI (rg j)))), (w4, .inl (cs.1, 48, .inl (lo))), (w5, .inl (cs.1, 48, .inl (ex))), (w6, .inl (cs.1, 400, .inl (fun j => nI ((drp (bt) (ln (y) + (mrm rg ex y)) (wt)) j))))]) (As := [.int (nI (ln (y) + (mrm rg ex y)))]) (rest := []) (m_M_drop l D cs w w1 w2 w3 w4 w5 w6 w7 w8 w9 wa wb wd (cd) (ru) (wt) (1) ((vlm rg lo ex y (nmm bt (ln y) (mrm rg ex y)))) (bt) (ln (y) + (mrm rg ex y)) (by omega) (by omega)) tw_564 tw_566 ts_22 tw_6 tw_567 rfl 0 rfl rfl (by decide +kernel) rfl ⟨rfl, rfl, by decide, by decide, by decide⟩ rfl [0, 5] rfl rfl (by decide) (Nat.le_of_ble_eq_true rfl) rfl d_M_take_157 ?_
          refine g_iload_n C d_M_take_160 1 rfl rfl ?_
          exact g_iret C hr hlk rfl rfl d_M_take_161
        · refine g_aload_n C d_M_take_124 0 rfl rfl ?_
          refine g_get C (T := FM) (N := 17) 0 5 inM rfl rfl (by decide) tw_441 rfl rfl d_M_take_125 ?_
          refine g_iload_n C d_M_take_128 1 rfl rfl ?_
          refine g_iald C 3 rfl (by omega) (by decide) d_M_take_129 ?_
          refine g_i2l C (v := (lo (y)).toInt64) d_M_take_130 rfl ?_
          refine g_lload_n C d_M_take_131 3 rfl rfl ?_
          refine g_lsub C (v := ((lo (y)).toInt64) - (lN (nmm bt (ln y) (mrm rg ex y)))) d_M_take_132 rfl ?_
          refine g_goto C 145 d_M_take_133 (by decide) ?_
          refine g_tol (v := (vlm rg lo ex y (nmm bt (ln y) (mrm rg ex y)))) (by unfold vlm; first | (exfalso; omega) | rw [if_pos (show rg y = 0 by assumption)] | rw [if_neg (show ¬ rg y = 0 by omega), if_pos (nge_lt h121)] | rw [if_neg (show ¬ rg y = 0 by omega), if_neg (ge_nlt h121)]) ?_
          refine g_put C (T := FM) (N := 17) (ws' := [(w, .inr (4, [.int (nI (cd)), .int (nI (ru)), .ref w1, .ref w2, .ref w3, .ref w4, .ref w5, .ref w6, .int (nI (wt)), .int (nI (1)), .long ((vlm rg lo ex y (nmm bt (ln y) (mrm rg ex y)))), .ref w7, .ref w8, .ref w9, .ref wa, .ref wb, .ref wd])), (w2, .inl (cs.1, 48, .inl (fun j => nI (ln j)))), (w3, .inl (cs.2.2.1, 48, .inl (fun j => nI (rg j)))), (w4, .inl (cs.1, 48, .inl (lo))), (w5, .inl (cs.1, 48, .inl (ex))), (w6, .inl (cs.1, 400, .inl (fun j => nI (bt j))))]) 0 10 inM tyM okM nmM rfl rfl (by decide) tw_446 rfl rfl rfl rfl rfl (Nat.le_of_ble_eq_true rfl) rfl d_M_take_145 ?_
          refine g_aload_n C d_M_take_148 0 rfl rfl ?_
          refine g_aload_n C d_M_take_149 0 rfl rfl ?_
          refine g_get C (T := FM) (N := 17) 0 3 inM rfl rfl (by decide) tw_439 rfl rfl d_M_take_150 ?_
          refine g_iload_n C d_M_take_153 1 rfl rfl ?_
          refine g_iald C 1 rfl (by omega) (by decide) d_M_take_154 ?_
          refine g_iload_n C d_M_take_155 2 rfl rfl ?_
          refine g_iadd C (v := nI (ln (y) + (mrm rg ex y))) d_M_take_156 (nI_add _ _) ?_
          refine g_callVv C (n := 1) (ws' := [(w, .inr (4, [.int (nI (cd)), .int (nI (ru)), .ref w1, .ref w2, .ref w3, .ref w4, .ref w5, .ref w6, .int (nI ((wt) - (ln (y) + (mrm rg ex y)))), .int (nI (1)), .long ((vlm rg lo ex y (nmm bt (ln y) (mrm rg ex y)))), .ref w7, .ref w8, .ref w9, .ref wa, .ref wb, .ref wd])), (w2, .inl (cs.1, 48, .inl (fun j => nI (ln j)))), (w3, .inl (cs.2.2.1, 48, .inl (fun j => nI (rg j)))), (w4, .inl (cs.1, 48, .inl (lo))), (w5, .inl (cs.1, 48, .inl (ex))), (w6, .inl (cs.1, 400, .inl (fun j => nI ((drp (bt) (ln (y) + (mrm rg ex y)) (wt)) j))))]) (As := [.int (nI (ln (y) + (mrm rg ex y)))]) (rest := []) (m_M_drop l D cs w w1 w2 w3 w4 w5 w6 w7 w8 w9 wa wb wd (cd) (ru) (wt) (1) ((vlm rg lo ex y (nmm bt (ln y) (mrm rg ex y)))) (bt) (ln (y) + (mrm rg ex y)) (by omega) (by omega)) tw_564 tw_566 ts_22 tw_6 tw_567 rfl 0 rfl rfl (by decide +kernel) rfl ⟨rfl, rfl, by decide, by decide, by decide⟩ rfl [0, 5] rfl rfl (by decide) (Nat.le_of_ble_eq_true rfl) rfl d_M_take_157 ?_
          refine g_iload_n C d_M_take_160 1 rfl rfl ?_
          exact g_iret C hr hlk rfl rfl d_M_take_161
      · refine g_iload_n C d_M_take_110 1 rfl rfl ?_
        refine g_i2l C (v := lN (y)) d_M_take_111 (nI_l (by omega)) ?_
        refine g_goto C 145 d_M_take_112 (by decide) ?_
        refine g_tol (v := (vlm rg lo ex y (nmm bt (ln y) (mrm rg ex y)))) (by unfold vlm; first | (exfalso; omega) | rw [if_pos (show rg y = 0 by assumption)] | rw [if_neg (show ¬ rg y = 0 by omega), if_pos (nge_lt h121)] | rw [if_neg (show ¬ rg y = 0 by omega), if_neg (ge_nlt h121)]) ?_
        refine g_put C (T := FM) (N := 17) (ws' := [(w, .inr (4, [.int (nI (cd)), .int (nI (ru)), .ref w1, .ref w2, .ref w3, .ref w4, .ref w5, .ref w6, .int (nI (wt)), .int (nI (1)), .long ((vlm rg lo ex y (nmm bt (ln y) (mrm rg ex y)))), .ref w7, .ref w8, .ref w9, .ref wa, .ref wb, .ref wd])), (w2, .inl (cs.1, 48, .inl (fun j => nI (ln j)))), (w3, .inl (cs.2.2.1, 48, .inl (fun j => nI (rg j)))), (w4, .inl (cs.1, 48, .inl (lo))), (w5, .inl (cs.1, 48, .inl (ex))), (w6, .inl (cs.1, 400, .inl (fun j => nI (bt j))))]) 0 10 inM tyM okM nmM rfl rfl (by decide) tw_446 rfl rfl rfl rfl rfl (Nat.le_of_ble_eq_true rfl) rfl d_M_take_145 ?_
        refine g_aload_n C d_M_take_148 0 rfl rfl ?_
        refine g_aload_n C d_M_take_149 0 rfl rfl ?_
        refine g_get C (T := FM) (N := 17) 0 3 inM rfl rfl (by decide) tw_439 rfl rfl d_M_take_150 ?_
        refine g_iload_n C d_M_take_153 1 rfl rfl ?_
        refine g_iald C 1 rfl (by omega) (by decide) d_M_take_154 ?_
        refine g_iload_n C d_M_take_155 2 rfl rfl ?_
        refine g_iadd C (v := nI (ln (y) + (mrm rg ex y))) d_M_take_156 (nI_add _ _) ?_
        refine g_callVv C (n := 1) (ws' := [(w, .inr (4, [.int (nI (cd)), .int (nI (ru)), .ref w1, .ref w2, .ref w3, .ref w4, .ref w5, .ref w6, .int (nI ((wt) - (ln (y) + (mrm rg ex y)))), .int (nI (1)), .long ((vlm rg lo ex y (nmm bt (ln y) (mrm rg ex y)))), .ref w7, .ref w8, .ref w9, .ref wa, .ref wb, .ref wd])), (w2, .inl (cs.1, 48, .inl (fun j => nI (ln j)))), (w3, .inl (cs.2.2.1, 48, .inl (fun j => nI (rg j)))), (w4, .inl (cs.1, 48, .inl (lo))), (w5, .inl (cs.1, 48, .inl (ex))), (w6, .inl (cs.1, 400, .inl (fun j => nI ((drp (bt) (ln (y) + (mrm rg ex y)) (wt)) j))))]) (As := [.int (nI (ln (y) + (mrm rg ex y)))]) (rest := []) (m_M_drop l D cs w w1 w2 w3 w4 w5 w6 w7 w8 w9 wa wb wd (cd) (ru) (wt) (1) ((vlm rg lo ex y (nmm bt (ln y) (mrm rg ex y)))) (bt) (ln (y) + (mrm rg ex y)) (by omega) (by omega)) tw_564 tw_566 ts_22 tw_6 tw_567 rfl 0 rfl rfl (by decide +kernel) rfl ⟨rfl, rfl, by decide, by decide, by decide⟩ rfl [0, 5] rfl rfl (by decide) (Nat.le_of_ble_eq_true rfl) rfl d_M_take_157 ?_
        refine g_iload_n C d_M_take_160 1 rfl rfl ?_
        exact g_iret C hr hlk rfl rfl d_M_take_161
    · refine g_aload_n C d_M_take_22 0 rfl rfl ?_
      refine g_get C (T := FM) (N := 17) 0 6 inM rfl rfl (by decide) tw_442 rfl rfl d_M_take_23 ?_
      refine g_iload_n C d_M_take_26 1 rfl rfl ?_
      refine g_iald C 4 rfl (by omega) (by decide) d_M_take_27 ?_
      refine g_ineg C (v := -(ex (y))) d_M_take_28 rfl ?_
      refine g_goto C 38 d_M_take_29 (by decide) ?_
      refine g_toi (v := nI (mrm rg ex y)) (mrm_n (hx y hy) (by omega) h19) ?_
      refine g_istore_n C (lv' := [(2, .int (nI (mrm rg ex y))), (0, .ref w), (1, .int (nI (y)))]) d_M_take_38 rfl (by decide) rfl ?_
      refine g_aload_n C d_M_take_39 1 rfl rfl ?_
      refine g_get C (T := FM) (N := 17) 0 3 inM rfl rfl (by decide) tw_439 rfl rfl d_M_take_40 ?_
      refine g_iload_n C d_M_take_43 2 rfl rfl ?_
      refine g_iald C 1 rfl (by omega) (by decide) d_M_take_44 ?_
      refine g_iload_n C d_M_take_45 0 rfl rfl ?_
      refine g_iadd C (v := nI (ln (y) + (mrm rg ex y))) d_M_take_46 (nI_add _ _) ?_
      refine g_aload_n C d_M_take_47 1 rfl rfl ?_
      refine g_get C (T := FM) (N := 17) 0 8 inM rfl rfl (by decide) tw_444 rfl rfl d_M_take_48 ?_
      refine n_icmp_le C 56 d_M_take_51 (by decide) (by have := hl y hy; have := mrm_le (rg := rg) (hx y hy); omega) (by omega) (fun _ => ?_) (fun h => absurd h (by omega))
      refine g_lconst C (v := lN 0) d_M_take_56 rfl ?_
      refine g_lstore_n C (lv' := [(3, .long (lN (0))), (2, .int (nI (mrm rg ex y))), (0, .ref w), (1, .int (nI (y)))]) d_M_take_57 rfl (by decide) rfl ?_
      refine g_iconst C (v := nI 0) d_M_take_58 rfl ?_
      refine g_istore C (lv' := [(5, .int (nI (0))), (3, .long (lN (0))), (2, .int (nI (mrm rg ex y))), (0, .ref w), (1, .int (nI (y)))]) d_M_take_59 (by decide) rfl ?_
      refine g_lv (lv' := [(0, .ref w), (1, .int (nI (y))), (2, .int (nI (mrm rg ex y))), (3, .long (lN (0))), (5, .int (nI (0)))]) [3, 4, 2, 1, 0] rfl ?_
      refine l_M_take C w w1 w2 w3 w4 w5 w6 w7 w8 w9 wa wb wd cd ru wt rd va ln rg lo ex bt y hy hl hg hx hz hb (mrm rg ex y) hw ?_ _ 0 rfl (by omega)
      refine g_aload_n C d_M_take_95 0 rfl rfl ?_
      refine g_iconst C (v := nI 1) d_M_take_96 rfl ?_
      refine g_put C (T := FM) (N := 17) (ws' := [(w, .inr (4, [.int (nI (cd)), .int (nI (ru)), .ref w1, .ref w2, .ref w3, .ref w4, .ref w5, .ref w6, .int (nI (wt)), .int (nI (1)), .long (va), .ref w7, .ref w8, .ref w9, .ref wa, .ref wb, .ref wd])), (w2, .inl (cs.1, 48, .inl (fun j => nI (ln j)))), (w3, .inl (cs.2.2.1, 48, .inl (fun j => nI (rg j)))), (w4, .inl (cs.1, 48, .inl (lo))), (w5, .inl (cs.1, 48, .inl (ex))), (w6, .inl (cs.1, 400, .inl (fun j => nI (bt j))))]) 0 9 inM tyM okM nmM rfl rfl (by decide) tw_445 rfl rfl rfl rfl rfl (Nat.le_of_ble_eq_true rfl) rfl d_M_take_97 ?_
      refine g_aload_n C d_M_take_100 0 rfl rfl ?_
      refine g_aload_n C d_M_take_101 0 rfl rfl ?_
      refine g_get C (T := FM) (N := 17) 0 4 inM rfl rfl (by decide) tw_440 rfl rfl d_M_take_102 ?_
      refine g_iload_n C d_M_take_105 1 rfl rfl ?_
      refine g_zald C 2 rfl (by omega) (by decide) d_M_take_106 ?_
      refine n_if_ne C 115 d_M_take_107 (by decide) (by have := hg y hy; omega) (fun h107 => ?_) (fun h107 => ?_)
      · refine g_aload_n C d_M_take_115 0 rfl rfl ?_
        refine g_get C (T := FM) (N := 17) 0 6 inM rfl rfl (by decide) tw_442 rfl rfl d_M_take_116 ?_
        refine g_iload_n C d_M_take_119 1 rfl rfl ?_
        refine g_iald C 4 rfl (by omega) (by decide) d_M_take_120 ?_
        refine g_if_ge C 136 d_M_take_121 (by decide) (fun h121 => ?_) (fun h121 => ?_)
        · refine g_aload_n C d_M_take_136 0 rfl rfl ?_
          refine g_get C (T := FM) (N := 17) 0 5 inM rfl rfl (by decide) tw_441 rfl rfl d_M_take_137 ?_
          refine g_iload_n C d_M_take_140 1 rfl rfl ?_
          refine g_iald C 3 rfl (by omega) (by decide) d_M_take_141 ?_
          refine g_i2l C (v := (lo (y)).toInt64) d_M_take_142 rfl ?_
          refine g_lload_n C d_M_take_143 3 rfl rfl ?_
          refine g_ladd C (v := ((lo (y)).toInt64) + (lN (nmm bt (ln y) (mrm rg ex y)))) d_M_take_144 rfl ?_
          refine g_tol (v := (vlm rg lo ex y (nmm bt (ln y) (mrm rg ex y)))) (by unfold vlm; first | (exfalso; omega) | rw [if_pos (show rg y = 0 by assumption)] | rw [if_neg (show ¬ rg y = 0 by omega), if_pos (nge_lt h121)] | rw [if_neg (show ¬ rg y = 0 by omega), if_neg (ge_nlt h121)]) ?_
          refine g_put C (T := FM) (N := 17) (ws' := [(w, .inr (4, [.int (nI (cd)), .int (nI (ru)), .ref w1, .ref w2, .ref w3, .ref w4, .ref w5, .ref w6, .int (nI (wt)), .int (nI (1)), .long ((vlm rg lo ex y (nmm bt (ln y) (mrm rg ex y)))), .ref w7, .ref w8, .ref w9, .ref wa, .ref wb, .ref wd])), (w2, .inl (cs.1, 48, .inl (fun j => nI (ln j)))), (w3, .inl (cs.2.2.1, 48, .inl (fun j => nI (rg j)))), (w4, .inl (cs.1, 48, .inl (lo))), (w5, .inl (cs.1, 48, .inl (ex))), (w6, .inl (cs.1, 400, .inl (fun j => nI (bt j))))]) 0 10 inM tyM okM nmM rfl rfl (by decide) tw_446 rfl rfl rfl rfl rfl (Nat.le_of_ble_eq_true rfl) rfl d_M_take_145 ?_
          refine g_aload_n C d_M_take_148 0 rfl rfl ?_
          refine g_aload_n C d_M_take_149 0 rfl rfl ?_
          refine g_get C (T := FM) (N := 17) 0 3 inM rfl rfl (by decide) tw_439 rfl rfl d_M_take_150 ?_
          refine g_iload_n C d_M_take_153 1 rfl rfl ?_
          refine g_iald C 1 rfl (by omega) (by decide) d_M_take_154 ?_
          refine g_iload_n C d_M_take_155 2 rfl rfl ?_
          refine g_iadd C (v := nI (ln (y) + (mrm rg ex y))) d_M_take_156 (nI_add _ _) ?_
          refine g_callVv C (n := 1) (ws' := [(w, .inr (4, [.int (nI (cd)), .int (nI (ru)), .ref w1, .ref w2, .ref w3, .ref w4, .ref w5, .ref w6, .int (nI ((wt) - (ln (y) + (mrm rg ex y)))), .int (nI (1)), .long ((vlm rg lo ex y (nmm bt (ln y) (mrm rg ex y)))), .ref w7, .ref w8, .ref w9, .ref wa, .ref wb, .ref wd])), (w2, .inl (cs.1, 48, .inl (fun j => nI (ln j)))), (w3, .inl (cs.2.2.1, 48, .inl (fun j => nI (rg j)))), (w4, .inl (cs.1, 48, .inl (lo))), (w5, .inl (cs.1, 48, .inl (ex))), (w6, .inl (cs.1, 400, .inl (fun j => nI ((drp (bt) (ln (y) + (mrm rg ex y)) (wt)) j))))]) (As := [.int (nI (ln (y) + (mrm rg ex y)))]) (rest := []) (m_M_drop l D cs w w1 w2 w3 w4 w5 w6 w7 w8 w9 wa wb wd (cd) (ru) (wt) (1) ((vlm rg lo ex y (nmm bt (ln y) (mrm rg ex y)))) (bt) (ln (y) + (mrm rg ex y)) (by omega) (by omega)) tw_564 tw_566 ts_22 tw_6 tw_567 rfl 0 rfl rfl (by decide +kernel) rfl ⟨rfl, rfl, by decide, by decide, by decide⟩ rfl [0, 5] rfl rfl (by decide) (Nat.le_of_ble_eq_true rfl) rfl d_M_take_157 ?_
          refine g_iload_n C d_M_take_160 1 rfl rfl ?_
          exact g_iret C hr hlk rfl rfl d_M_take_161
        · refine g_aload_n C d_M_take_124 0 rfl rfl ?_
          refine g_get C (T := FM) (N := 17) 0 5 inM rfl rfl (by decide) tw_441 rfl rfl d_M_take_125 ?_
          refine g_iload_n C d_M_take_128 1 rfl rfl ?_
          refine g_iald C 3 rfl (by omega) (by decide) d_M_take_129 ?_
          refine g_i2l C (v := (lo (y)).toInt64) d_M_take_130 rfl ?_
          refine g_lload_n C d_M_take_131 3 rfl rfl ?_
          refine g_lsub C (v := ((lo (y)).toInt64) - (lN (nmm bt (ln y) (mrm rg ex y)))) d_M_take_132 rfl ?_
          refine g_goto C 145 d_M_take_133 (by decide) ?_
          refine g_tol (v := (vlm rg lo ex y (nmm bt (ln y) (mrm rg ex y)))) (by unfold vlm; first | (exfalso; omega) | rw [if_pos (show rg y = 0 by assumption)] | rw [if_neg (show ¬ rg y = 0 by omega), if_pos (nge_lt h121)] | rw [if_neg (show ¬ rg y = 0 by omega), if_neg (ge_nlt h121)]) ?_
          refine g_put C (T := FM) (N := 17) (ws' := [(w, .inr (4, [.int (nI (cd)), .int (nI (ru)), .ref w1, .ref w2, .ref w3, .ref w4, .ref w5, .ref w6, .int (nI (wt)), .int (nI (1)), .long ((vlm rg lo ex y (nmm bt (ln y) (mrm rg ex y)))), .ref w7, .ref w8, .ref w9, .ref wa, .ref wb, .ref wd])), (w2, .inl (cs.1, 48, .inl (fun j => nI (ln j)))), (w3, .inl (cs.2.2.1, 48, .inl (fun j => nI (rg j)))), (w4, .inl (cs.1, 48, .inl (lo))), (w5, .inl (cs.1, 48, .inl (ex))), (w6, .inl (cs.1, 400, .inl (fun j => nI (bt j))))]) 0 10 inM tyM okM nmM rfl rfl (by decide) tw_446 rfl rfl rfl rfl rfl (Nat.le_of_ble_eq_true rfl) rfl d_M_take_145 ?_
          refine g_aload_n C d_M_take_148 0 rfl rfl ?_
          refine g_aload_n C d_M_take_149 0 rfl rfl ?_
          refine g_get C (T := FM) (N := 17) 0 3 inM rfl rfl (by decide) tw_439 rfl rfl d_M_take_150 ?_
          refine g_iload_n C d_M_take_153 1 rfl rfl ?_
          refine g_iald C 1 rfl (by omega) (by decide) d_M_take_154 ?_
          refine g_iload_n C d_M_take_155 2 rfl rfl ?_
          refine g_iadd C (v := nI (ln (y) + (mrm rg ex y))) d_M_take_156 (nI_add _ _) ?_
          refine g_callVv C (n := 1) (ws' := [(w, .inr (4, [.int (nI (cd)), .int (nI (ru)), .ref w1, .ref w2, .ref w3, .ref w4, .ref w5, .ref w6, .int (nI ((wt) - (ln (y) + (mrm rg ex y)))), .int (nI (1)), .long ((vlm rg lo ex y (nmm bt (ln y) (mrm rg ex y)))), .ref w7, .ref w8, .ref w9, .ref wa, .ref wb, .ref wd])), (w2, .inl (cs.1, 48, .inl (fun j => nI (ln j)))), (w3, .inl (cs.2.2.1, 48, .inl (fun j => nI (rg j)))), (w4, .inl (cs.1, 48, .inl (lo))), (w5, .inl (cs.1, 48, .inl (ex))), (w6, .inl (cs.1, 400, .inl (fun j => nI ((drp (bt) (ln (y) + (mrm rg ex y)) (wt)) j))))]) (As := [.int (nI (ln (y) + (mrm rg ex y)))]) (rest := []) (m_M_drop l D cs w w1 w2 w3 w4 w5 w6 w7 w8 w9 wa wb wd (cd) (ru) (wt) (1) ((vlm rg lo ex y (nmm bt (ln y) (mrm rg ex y)))) (bt) (ln (y) + (mrm rg ex y)) (by omega) (by omega)) tw_564 tw_566 ts_22 tw_6 tw_567 rfl 0 rfl rfl (by decide +kernel) rfl ⟨rfl, rfl, by decide, by decide, by decide⟩ rfl [0, 5] rfl rfl (by decide) (Nat.le_of_ble_eq_true rfl) rfl d_M_take_157 ?_
          refine g_iload_n C d_M_take_160 1 rfl rfl ?_
          exact g_iret C hr hlk rfl rfl d_M_take_161
      · refine g_iload_n C d_M_take_110 1 rfl rfl ?_
        refine g_i2l C (v := lN (y)) d_M_take_111 (nI_l (by omega)) ?_
        refine g_goto C 145 d_M_take_112 (by decide) ?_
        refine g_tol (v := (vlm rg lo ex y (nmm bt (ln y) (mrm rg ex y)))) (by unfold vlm; first | (exfalso; omega) | rw [if_pos (show rg y = 0 by assumption)] | rw [if_neg (show ¬ rg y = 0 by omega), if_pos (nge_lt h121)] | rw [if_neg (show ¬ rg y = 0 by omega), if_neg (ge_nlt h121)]) ?_
        refine g_put C (T := FM) (N := 17) (ws' := [(w, .inr (4, [.int (nI (cd)), .int (nI (ru)), .ref w1, .ref w2, .ref w3, .ref w4, .ref w5, .ref w6, .int (nI (wt)), .int (nI (1)), .long ((vlm rg lo ex y (nmm bt (ln y) (mrm rg ex y)))), .ref w7, .ref w8, .ref w9, .ref wa, .ref wb, .ref wd])), (w2, .inl (cs.1, 48, .inl (fun j => nI (ln j)))), (w3, .inl (cs.2.2.1, 48, .inl (fun j => nI (rg j)))), (w4, .inl (cs.1, 48, .inl (lo))), (w5, .inl (cs.1, 48, .inl (ex))), (w6, .inl (cs.1, 400, .inl (fun j => nI (bt j))))]) 0 10 inM tyM okM nmM rfl rfl (by decide) tw_446 rfl rfl rfl rfl rfl (Nat.le_of_ble_eq_true rfl) rfl d_M_take_145 ?_
        refine g_aload_n C d_M_take_148 0 rfl rfl ?_
        refine g_aload_n C d_M_take_149 0 rfl rfl ?_
        refine g_get C (T := FM) (N := 17) 0 3 inM rfl rfl (by decide) tw_439 rfl rfl d_M_take_150 ?_
        refine g_iload_n C d_M_take_153 1 rfl rfl ?_
        refine g_iald C 1 rfl (by omega) (by decide) d_M_take_154 ?_
        refine g_iload_n C d_M_take_155 2 rfl rfl ?_
        refine g_iadd C (v := nI (ln (y) + (mrm rg ex y))) d_M_take_156 (nI_add _ _) ?_
        refine g_callVv C (n := 1) (ws' := [(w, .inr (4, [.int (nI (cd)), .int (nI (ru)), .ref w1, .ref w2, .ref w3, .ref w4, .ref w5, .ref w6, .int (nI ((wt) - (ln (y) + (mrm rg ex y)))), .int (nI (1)), .long ((vlm rg lo ex y (nmm bt (ln y) (mrm rg ex y)))), .ref w7, .ref w8, .ref w9, .ref wa, .ref wb, .ref wd])), (w2, .inl (cs.1, 48, .inl (fun j => nI (ln j)))), (w3, .inl (cs.2.2.1, 48, .inl (fun j => nI (rg j)))), (w4, .inl (cs.1, 48, .inl (lo))), (w5, .inl (cs.1, 48, .inl (ex))), (w6, .inl (cs.1, 400, .inl (fun j => nI ((drp (bt) (ln (y) + (mrm rg ex y)) (wt)) j))))]) (As := [.int (nI (ln (y) + (mrm rg ex y)))]) (rest := []) (m_M_drop l D cs w w1 w2 w3 w4 w5 w6 w7 w8 w9 wa wb wd (cd) (ru) (wt) (1) ((vlm rg lo ex y (nmm bt (ln y) (mrm rg ex y)))) (bt) (ln (y) + (mrm rg ex y)) (by omega) (by omega)) tw_564 tw_566 ts_22 tw_6 tw_567 rfl 0 rfl rfl (by decide +kernel) rfl ⟨rfl, rfl, by decide, by decide, by decide⟩ rfl [0, 5] rfl rfl (by decide) (Nat.le_of_ble_eq_true rfl) rfl d_M_take_157 ?_
        refine g_iload_n C d_M_take_160 1 rfl rfl ?_
        exact g_iret C hr hlk rfl rfl d_M_take_161
  · refine g_iconst C (v := nI 0) d_M_take_9 rfl ?_
    refine g_goto C 38 d_M_take_10 (by decide) ?_
    refine g_toi (v := nI (mrm rg ex y)) (by unfold mrm; rw [if_pos (by assumption)]) ?_
    refine g_istore_n C (lv' := [(2, .int (nI (mrm rg ex y))), (0, .ref w), (1, .int (nI (y)))]) d_M_take_38 rfl (by decide) rfl ?_
    refine g_aload_n C d_M_take_39 1 rfl rfl ?_
    refine g_get C (T := FM) (N := 17) 0 3 inM rfl rfl (by decide) tw_439 rfl rfl d_M_take_40 ?_
    refine g_iload_n C d_M_take_43 2 rfl rfl ?_
    refine g_iald C 1 rfl (by omega) (by decide) d_M_take_44 ?_
    refine g_iload_n C d_M_take_45 0 rfl rfl ?_
    refine g_iadd C (v := nI (ln (y) + (mrm rg ex y))) d_M_take_46 (nI_add _ _) ?_
    refine g_aload_n C d_M_take_47 1 rfl rfl ?_
    refine g_get C (T := FM) (N := 17) 0 8 inM rfl rfl (by decide) tw_444 rfl rfl d_M_take_48 ?_
    refine n_icmp_le C 56 d_M_take_51 (by decide) (by have := hl y hy; have := mrm_le (rg := rg) (hx y hy); omega) (by omega) (fun _ => ?_) (fun h => absurd h (by omega))
    refine g_lconst C (v := lN 0) d_M_take_56 rfl ?_
    refine g_lstore_n C (lv' := [(3, .long (lN (0))), (2, .int (nI (mrm rg ex y))), (0, .ref w), (1, .int (nI (y)))]) d_M_take_57 rfl (by decide) rfl ?_
    refine g_iconst C (v := nI 0) d_M_take_58 rfl ?_
    refine g_istore C (lv' := [(5, .int (nI (0))), (3, .long (lN (0))), (2, .int (nI (mrm rg ex y))), (0, .ref w), (1, .int (nI (y)))]) d_M_take_59 (by decide) rfl ?_
    refine g_lv (lv' := [(0, .ref w), (1, .int (nI (y))), (2, .int (nI (mrm rg ex y))), (3, .long (lN (0))), (5, .int (nI (0)))]) [3, 4, 2, 1, 0] rfl ?_
    refine l_M_take C w w1 w2 w3 w4 w5 w6 w7 w8 w9 wa wb wd cd ru wt rd va ln rg lo ex bt y hy hl hg hx hz hb (mrm rg ex y) hw ?_ _ 0 rfl (by omega)
    refine g_aload_n C d_M_take_95 0 rfl rfl ?_
    refine g_iconst C (v := nI 1) d_M_take_96 rfl ?_
    refine g_put C (T := FM) (N := 17) (ws' := [(w, .inr (4, [.int (nI (cd)), .int (nI (ru)), .ref w1, .ref w2, .ref w3, .ref w4, .ref w5, .ref w6, .int (nI (wt)), .int (nI (1)), .long (va), .ref w7, .ref w8, .ref w9, .ref wa, .ref wb, .ref wd])), (w2, .inl (cs.1, 48, .inl (fun j => nI (ln j)))), (w3, .inl (cs.2.2.1, 48, .inl (fun j => nI (rg j)))), (w4, .inl (cs.1, 48, .inl (lo))), (w5, .inl (cs.1, 48, .inl (ex))), (w6, .inl (cs.1, 400, .inl (fun j => nI (bt j))))]) 0 9 inM tyM okM nmM rfl rfl (by decide) tw_445 rfl rfl rfl rfl rfl (Nat.le_of_ble_eq_true rfl) rfl d_M_take_97 ?_
    refine g_aload_n C d_M_take_100 0 rfl rfl ?_
    refine g_aload_n C d_M_take_101 0 rfl rfl ?_
    refine g_get C (T := FM) (N := 17) 0 4 inM rfl rfl (by decide) tw_440 rfl rfl d_M_take_102 ?_
    refine g_iload_n C d_M_take_105 1 rfl rfl ?_
    refine g_zald C 2 rfl (by omega) (by decide) d_M_take_106 ?_
    refine n_if_ne C 115 d_M_take_107 (by decide) (by have := hg y hy; omega) (fun h107 => ?_) (fun h107 => ?_)
    · refine g_aload_n C d_M_take_115 0 rfl rfl ?_
      refine g_get C (T := FM) (N := 17) 0 6 inM rfl rfl (by decide) tw_442 rfl rfl d_M_take_116 ?_
      refine g_iload_n C d_M_take_119 1 rfl rfl ?_
      refine g_iald C 4 rfl (by omega) (by decide) d_M_take_120 ?_
      refine g_if_ge C 136 d_M_take_121 (by decide) (fun h121 => ?_) (fun h121 => ?_)
      · refine g_aload_n C d_M_take_136 0 rfl rfl ?_
        refine g_get C (T := FM) (N := 17) 0 5 inM rfl rfl (by decide) tw_441 rfl rfl d_M_take_137 ?_
        refine g_iload_n C d_M_take_140 1 rfl rfl ?_
        refine g_iald C 3 rfl (by omega) (by decide) d_M_take_141 ?_
        refine g_i2l C (v := (lo (y)).toInt64) d_M_take_142 rfl ?_
        refine g_lload_n C d_M_take_143 3 rfl rfl ?_
        refine g_ladd C (v := ((lo (y)).toInt64) + (lN (nmm bt (ln y) (mrm rg ex y)))) d_M_take_144 rfl ?_
        refine g_tol (v := (vlm rg lo ex y (nmm bt (ln y) (mrm rg ex y)))) (by unfold vlm; first | (exfalso; omega) | rw [if_pos (show rg y = 0 by assumption)] | rw [if_neg (show ¬ rg y = 0 by omega), if_pos (nge_lt h121)] | rw [if_neg (show ¬ rg y = 0 by omega), if_neg (ge_nlt h121)]) ?_
        refine g_put C (T := FM) (N := 17) (ws' := [(w, .inr (4, [.int (nI (cd)), .int (nI (ru)), .ref w1, .ref w2, .ref w3, .ref w4, .ref w5, .ref w6, .int (nI (wt)), .int (nI (1)), .long ((vlm rg lo ex y (nmm bt (ln y) (mrm rg ex y)))), .ref w7, .ref w8, .ref w9, .ref wa, .ref wb, .ref wd])), (w2, .inl (cs.1, 48, .inl (fun j => nI (ln j)))), (w3, .inl (cs.2.2.1, 48, .inl (fun j => nI (rg j)))), (w4, .inl (cs.1, 48, .inl (lo))), (w5, .inl (cs.1, 48, .inl (ex))), (w6, .inl (cs.1, 400, .inl (fun j => nI (bt j))))]) 0 10 inM tyM okM nmM rfl rfl (by decide) tw_446 rfl rfl rfl rfl rfl (Nat.le_of_ble_eq_true rfl) rfl d_M_take_145 ?_
        refine g_aload_n C d_M_take_148 0 rfl rfl ?_
        refine g_aload_n C d_M_take_149 0 rfl rfl ?_
        refine g_get C (T := FM) (N := 17) 0 3 inM rfl rfl (by decide) tw_439 rfl rfl d_M_take_150 ?_
        refine g_iload_n C d_M_take_153 1 rfl rfl ?_
        refine g_iald C 1 rfl (by omega) (by decide) d_M_take_154 ?_
        refine g_iload_n C d_M_take_155 2 rfl rfl ?_
        refine g_iadd C (v := nI (ln (y) + (mrm rg ex y))) d_M_take_156 (nI_add _ _) ?_
        refine g_callVv C (n := 1) (ws' := [(w, .inr (4, [.int (nI (cd)), .int (nI (ru)), .ref w1, .ref w2, .ref w3, .ref w4, .ref w5, .ref w6, .int (nI ((wt) - (ln (y) + (mrm rg ex y)))), .int (nI (1)), .long ((vlm rg lo ex y (nmm bt (ln y) (mrm rg ex y)))), .ref w7, .ref w8, .ref w9, .ref wa, .ref wb, .ref wd])), (w2, .inl (cs.1, 48, .inl (fun j => nI (ln j)))), (w3, .inl (cs.2.2.1, 48, .inl (fun j => nI (rg j)))), (w4, .inl (cs.1, 48, .inl (lo))), (w5, .inl (cs.1, 48, .inl (ex))), (w6, .inl (cs.1, 400, .inl (fun j => nI ((drp (bt) (ln (y) + (mrm rg ex y)) (wt)) j))))]) (As := [.int (nI (ln (y) + (mrm rg ex y)))]) (rest := []) (m_M_drop l D cs w w1 w2 w3 w4 w5 w6 w7 w8 w9 wa wb wd (cd) (ru) (wt) (1) ((vlm rg lo ex y (nmm bt (ln y) (mrm rg ex y)))) (bt) (ln (y) + (mrm rg ex y)) (by omega) (by omega)) tw_564 tw_566 ts_22 tw_6 tw_567 rfl 0 rfl rfl (by decide +kernel) rfl ⟨rfl, rfl, by decide, by decide, by decide⟩ rfl [0, 5] rfl rfl (by decide) (Nat.le_of_ble_eq_true rfl) rfl d_M_take_157 ?_
        refine g_iload_n C d_M_take_160 1 rfl rfl ?_
        exact g_iret C hr hlk rfl rfl d_M_take_161
      · refine g_aload_n C d_M_take_124 0 rfl rfl ?_
        refine g_get C (T := FM) (N := 17) 0 5 inM rfl rfl (by decide) tw_441 rfl rfl d_M_take_125 ?_
        refine g_iload_n C d_M_take_128 1 rfl rfl ?_
        refine g_iald C 3 rfl (by omega) (by decide) d_M_take_129 ?_
        refine g_i2l C (v := (lo (y)).toInt64) d_M_take_130 rfl ?_
        refine g_lload_n C d_M_take_131 3 rfl rfl ?_
        refine g_lsub C (v := ((lo (y)).toInt64) - (lN (nmm bt (ln y) (mrm rg ex y)))) d_M_take_132 rfl ?_
        refine g_goto C 145 d_M_take_133 (by decide) ?_
        refine g_tol (v := (vlm rg lo ex y (nmm bt (ln y) (mrm rg ex y)))) (by unfold vlm; first | (exfalso; omega) | rw [if_pos (show rg y = 0 by assumption)] | rw [if_neg (show ¬ rg y = 0 by omega), if_pos (nge_lt h121)] | rw [if_neg (show ¬ rg y = 0 by omega), if_neg (ge_nlt h121)]) ?_
        refine g_put C (T := FM) (N := 17) (ws' := [(w, .inr (4, [.int (nI (cd)), .int (nI (ru)), .ref w1, .ref w2, .ref w3, .ref w4, .ref w5, .ref w6, .int (nI (wt)), .int (nI (1)), .long ((vlm rg lo ex y (nmm bt (ln y) (mrm rg ex y)))), .ref w7, .ref w8, .ref w9, .ref wa, .ref wb, .ref wd])), (w2, .inl (cs.1, 48, .inl (fun j => nI (ln j)))), (w3, .inl (cs.2.2.1, 48, .inl (fun j => nI (rg j)))), (w4, .inl (cs.1, 48, .inl (lo))), (w5, .inl (cs.1, 48, .inl (ex))), (w6, .inl (cs.1, 400, .inl (fun j => nI (bt j))))]) 0 10 inM tyM okM nmM rfl rfl (by decide) tw_446 rfl rfl rfl rfl rfl (Nat.le_of_ble_eq_true rfl) rfl d_M_take_145 ?_
        refine g_aload_n C d_M_take_148 0 rfl rfl ?_
        refine g_aload_n C d_M_take_149 0 rfl rfl ?_
        refine g_get C (T := FM) (N := 17) 0 3 inM rfl rfl (by decide) tw_439 rfl rfl d_M_take_150 ?_
        refine g_iload_n C d_M_take_153 1 rfl rfl ?_
        refine g_iald C 1 rfl (by omega) (by decide) d_M_take_154 ?_
        refine g_iload_n C d_M_take_155 2 rfl rfl ?_
        refine g_iadd C (v := nI (ln (y) + (mrm rg ex y))) d_M_take_156 (nI_add _ _) ?_
        refine g_callVv C (n := 1) (ws' := [(w, .inr (4, [.int (nI (cd)), .int (nI (ru)), .ref w1, .ref w2, .ref w3, .ref w4, .ref w5, .ref w6, .int (nI ((wt) - (ln (y) + (mrm rg ex y)))), .int (nI (1)), .long ((vlm rg lo ex y (nmm bt (ln y) (mrm rg ex y)))), .ref w7, .ref w8, .ref w9, .ref wa, .ref wb, .ref wd])), (w2, .inl (cs.1, 48, .inl (fun j => nI (ln j)))), (w3, .inl (cs.2.2.1, 48, .inl (fun j => nI (rg j)))), (w4, .inl (cs.1, 48, .inl (lo))), (w5, .inl (cs.1, 48, .inl (ex))), (w6, .inl (cs.1, 400, .inl (fun j => nI ((drp (bt) (ln (y) + (mrm rg ex y)) (wt)) j))))]) (As := [.int (nI (ln (y) + (mrm rg ex y)))]) (rest := []) (m_M_drop l D cs w w1 w2 w3 w4 w5 w6 w7 w8 w9 wa wb wd (cd) (ru) (wt) (1) ((vlm rg lo ex y (nmm bt (ln y) (mrm rg ex y)))) (bt) (ln (y) + (mrm rg ex y)) (by omega) (by omega)) tw_564 tw_566 ts_22 tw_6 tw_567 rfl 0 rfl rfl (by decide +kernel) rfl ⟨rfl, rfl, by decide, by decide, by decide⟩ rfl [0, 5] rfl rfl (by decide) (Nat.le_of_ble_eq_true rfl) rfl d_M_take_157 ?_
        refine g_iload_n C d_M_take_160 1 rfl rfl ?_
        exact g_iret C hr hlk rfl rfl d_M_take_161
    · refine g_iload_n C d_M_take_110 1 rfl rfl ?_
      refine g_i2l C (v := lN (y)) d_M_take_111 (nI_l (by omega)) ?_
      refine g_goto C 145 d_M_take_112 (by decide) ?_
      refine g_tol (v := (vlm rg lo ex y (nmm bt (ln y) (mrm rg ex y)))) (by unfold vlm; first | (exfalso; omega) | rw [if_pos (show rg y = 0 by assumption)] | rw [if_neg (show ¬ rg y = 0 by omega), if_pos (nge_lt h121)] | rw [if_neg (show ¬ rg y = 0 by omega), if_neg (ge_nlt h121)]) ?_
      refine g_put C (T := FM) (N := 17) (ws' := [(w, .inr (4, [.int (nI (cd)), .int (nI (ru)), .ref w1, .ref w2, .ref w3, .ref w4, .ref w5, .ref w6, .int (nI (wt)), .int (nI (1)), .long ((vlm rg lo ex y (nmm bt (ln y) (mrm rg ex y)))), .ref w7, .ref w8, .ref w9, .ref wa, .ref wb, .ref wd])), (w2, .inl (cs.1, 48, .inl (fun j => nI (ln j)))), (w3, .inl (cs.2.2.1, 48, .inl (fun j => nI (rg j)))), (w4, .inl (cs.1, 48, .inl (lo))), (w5, .inl (cs.1, 48, .inl (ex))), (w6, .inl (cs.1, 400, .inl (fun j => nI (bt j))))]) 0 10 inM tyM okM nmM rfl rfl (by decide) tw_446 rfl rfl rfl rfl rfl (Nat.le_of_ble_eq_true rfl) rfl d_M_take_145 ?_
      refine g_aload_n C d_M_take_148 0 rfl rfl ?_
      refine g_aload_n C d_M_take_149 0 rfl rfl ?_
      refine g_get C (T := FM) (N := 17) 0 3 inM rfl rfl (by decide) tw_439 rfl rfl d_M_take_150 ?_
      refine g_iload_n C d_M_take_153 1 rfl rfl ?_
      refine g_iald C 1 rfl (by omega) (by decide) d_M_take_154 ?_
      refine g_iload_n C d_M_take_155 2 rfl rfl ?_
      refine g_iadd C (v := nI (ln (y) + (mrm rg ex y))) d_M_take_156 (nI_add _ _) ?_
      refine g_callVv C (n := 1) (ws' := [(w, .inr (4, [.int (nI (cd)), .int (nI (ru)), .ref w1, .ref w2, .ref w3, .ref w4, .ref w5, .ref w6, .int (nI ((wt) - (ln (y) + (mrm rg ex y)))), .int (nI (1)), .long ((vlm rg lo ex y (nmm bt (ln y) (mrm rg ex y)))), .ref w7, .ref w8, .ref w9, .ref wa, .ref wb, .ref wd])), (w2, .inl (cs.1, 48, .inl (fun j => nI (ln j)))), (w3, .inl (cs.2.2.1, 48, .inl (fun j => nI (rg j)))), (w4, .inl (cs.1, 48, .inl (lo))), (w5, .inl (cs.1, 48, .inl (ex))), (w6, .inl (cs.1, 400, .inl (fun j => nI ((drp (bt) (ln (y) + (mrm rg ex y)) (wt)) j))))]) (As := [.int (nI (ln (y) + (mrm rg ex y)))]) (rest := []) (m_M_drop l D cs w w1 w2 w3 w4 w5 w6 w7 w8 w9 wa wb wd (cd) (ru) (wt) (1) ((vlm rg lo ex y (nmm bt (ln y) (mrm rg ex y)))) (bt) (ln (y) + (mrm rg ex y)) (by omega) (by omega)) tw_564 tw_566 ts_22 tw_6 tw_567 rfl 0 rfl rfl (by decide +kernel) rfl ⟨rfl, rfl, by decide, by decide, by decide⟩ rfl [0, 5] rfl rfl (by decide) (Nat.le_of_ble_eq_true rfl) rfl d_M_take_157 ?_
      refine g_iload_n C d_M_take_160 1 rfl rfl ?_
      exact g_iret C hr hlk rfl rfl d_M_take_161
theorem rnf_self (ln : Nat → Nat) {en at9 : Nat} (h : at9 < en) : rnf ln (ln at9) (en - at9) at9 = 1 + rnf ln (ln at9) (en - (at9 + 1)) (at9 + 1) := by
  rw [rnf_step ln _ h rfl]; omega
theorem rnf_ne (ln : Nat → Nat) (L : Nat) {en at9 : Nat} (h : at9 < en) : rnf ln L (en - at9) at9 = if ln at9 = L then rnf ln (ln at9) (en - at9) at9 else 0 := by
  by_cases e : ln at9 = L
  · rw [if_pos e, e]
  · rw [if_neg e, rnf_stop ln L h e]
/-- the number told, as the row of equal lengths has it -/
theorem ntd_z {ln : Nat → Nat} {en at9 : Nat} (h : at9 < en) (h0 : ln at9 = 0) (h3 : 2 < rnf ln (ln at9) (en - at9) at9) : ntd ln en at9 = 200 + min (rnf ln (ln at9) (en - at9) at9) 138 := by
  unfold ntd
  have e : rnf ln 0 (en - at9) at9 = rnf ln (ln at9) (en - at9) at9 := by rw [h0]
  rw [e, if_pos (by omega)]
theorem ntd_nz {ln : Nat → Nat} {en at9 : Nat} (h : at9 < en) (h0 : ¬ (ln at9 = 0 ∧ 2 < rnf ln (ln at9) (en - at9) at9)) : ¬ 3 ≤ rnf ln 0 (en - at9) at9 := by
  rw [rnf_ne ln 0 h]; split
  · omega
  · omega
theorem ntd_a {ln : Nat → Nat} {en at9 : Nat} (h : at9 < en) (hz : ¬ (ln at9 = 0 ∧ 2 < rnf ln (ln at9) (en - at9) at9)) (h0 : 0 < at9) (h1 : ln at9 = ln (at9 - 1)) (h3 : 2 < rnf ln (ln at9) (en - at9) at9) : ntd ln en at9 = 100 + min (rnf ln (ln at9) (en - at9) at9) 6 := by
  unfold ntd
  rw [if_neg (ntd_nz h hz), if_neg (show ¬ at9 = 0 by omega), ← h1, if_pos (by omega)]
theorem ntd_l {ln : Nat → Nat} {en at9 : Nat} (h : at9 < en) (hz : ¬ (ln at9 = 0 ∧ 2 < rnf ln (ln at9) (en - at9) at9)) (ha : ¬ (0 < at9 ∧ ln at9 = ln (at9 - 1) ∧ 2 < rnf ln (ln at9) (en - at9) at9)) : ntd ln en at9 = ln at9 := by
  unfold ntd
  rw [if_neg (ntd_nz h hz)]
  by_cases h0 : at9 = 0
  · rw [if_pos h0, if_neg (by omega)]
  · rw [if_neg h0, rnf_ne ln _ h, if_neg]
    split
    · omega
    · omega
theorem ltb_pos (t : Nat) : 1 ≤ ltb t := by unfold ltb; (repeat' split) <;> omega

set_option maxHeartbeats 4000000 in
set_option maxRecDepth 100000 in
theorem l_M_el {p : Program} {l : Launch} {e : Env} {s : State} {m : MethodId} {args : Array Value} {below : List Frame} {meth : Method} {c : Code} {Q : State → Prop} {A : Nat → Prop} {D : va_G} {cs : ClassId × ClassId × ClassId × ClassId} (C : CX p s m args c c_M_lengths 8 RM D cs A) (w w1 w2 w3 w4 w5 w6 w7 w8 w9 wa wb wd : Nat) (cd ru wt rd : Nat) (va : Int64) (ln : Nat → Nat) (i9 : Int32) (hl : ∀ j, j < 48 → ln j ≤ 16)
    (K : GO p l e { frames := 0, cells := 0, slots := 0, locals := 0 } s m args below meth c 0 0 Q A D 8 29 [(0, .ref w), (1, .int i9), (2, .int (nI (eol ln 48)))] [] [(w, .inr (4, [.int (nI (0)), .int (nI (ru)), .ref w1, .ref w2, .ref w3, .ref w4, .ref w5, .ref w6, .int (nI (wt)), .int (nI (rd)), .long (va), .ref w7, .ref w8, .ref w9, .ref wa, .ref wb, .ref wd])), (w2, .inl (cs.1, 48, .inl (fun j => nI (ln j))))])
    : ∀ (n : Nat) (k : Nat), k = n → (k ≤ 48) → (eol ln 48 = eol ln k) → GO p l e { frames := 0, cells := 0, slots := 0, locals := 0 } s m args below meth c 0 0 Q A D 8 8 [(0, .ref w), (1, .int (i9)), (2, .int (nI (k)))] [] [(w, .inr (4, [.int (nI (0)), .int (nI (ru)), .ref w1, .ref w2, .ref w3, .ref w4, .ref w5, .ref w6, .int (nI (wt)), .int (nI (rd)), .long (va), .ref w7, .ref w8, .ref w9, .ref wa, .ref wb, .ref wd])), (w2, .inl (cs.1, 48, .inl (fun j => nI (ln j))))] := by
  intro n
  induction n using Nat.strongRecOn with
  | _ n ih =>
  intro k  hn hk he
  refine g_iload_n C d_M_lengths_8 2 rfl rfl ?_
  refine n_if_le C 29 d_M_lengths_9 (by decide) (by omega) (fun h9 => ?_) (fun h9 => ?_)
  · refine g_lv (lv' := [(0, .ref w), (1, .int (i9)), (2, .int (nI (k)))]) [0, 1, 2] rfl ?_
    rw [show k = eol ln 48 from (by
      rw [he]
      first | (subst h9; rfl) | (obtain ⟨k9, rfl⟩ : ∃ k9, k = k9 + 1 := ⟨k - 1, by omega⟩; simp only [Nat.add_sub_cancel] at h20; rw [eol, if_neg (by omega)]))]
    exact K
  · refine g_aload_n C d_M_lengths_12 0 rfl rfl ?_
    refine g_get C (T := FM) (N := 17) 0 3 inM rfl rfl (by decide) tw_439 rfl rfl d_M_lengths_13 ?_
    refine g_iload_n C d_M_lengths_16 2 rfl rfl ?_
    refine g_iconst C (v := nI 1) d_M_lengths_17 rfl ?_
    refine g_isub C (v := nI ((k) - (1))) d_M_lengths_18 (pk_sub (by omega)) ?_
    refine g_iald C 1 rfl (by omega) (by decide) d_M_lengths_19 ?_
    refine n_if_ne C 29 d_M_lengths_20 (by decide) (by have := hl (k - 1) (by omega); omega) (fun h20 => ?_) (fun h20 => ?_)
    · refine g_lv (lv' := [(0, .ref w), (1, .int (i9)), (2, .int (nI (k)))]) [0, 1, 2] rfl ?_
      rw [show k = eol ln 48 from (by
      rw [he]
      first | (subst h9; rfl) | (obtain ⟨k9, rfl⟩ : ∃ k9, k = k9 + 1 := ⟨k - 1, by omega⟩; simp only [Nat.add_sub_cancel] at h20; rw [eol, if_neg (by omega)]))]
      exact K
    · refine g_iinc C (lv' := [(2, .int (nI (k - 1))), (0, .ref w), (1, .int (i9))]) (k := 2) d_M_lengths_23 rfl (nI_dec (by omega)) (by decide) rfl ?_
      refine g_goto C 8 d_M_lengths_26 (by decide) ?_
      refine g_lv (lv' := [(0, .ref w), (1, .int (i9)), (2, .int (nI (k - 1)))]) [1, 2, 0] rfl ?_
      exact ih (k - 1) (by omega) (k - 1) rfl (by omega) (by
      rw [he]
      obtain ⟨k9, rfl⟩ : ∃ k9, k = k9 + 1 := ⟨k - 1, by omega⟩
      simp only [Nat.add_sub_cancel] at h20 ⊢
      rw [eol, if_pos h20])
set_option maxHeartbeats 4000000 in
set_option maxRecDepth 100000 in
theorem l_M_row {p : Program} {l : Launch} {e : Env} {s : State} {m : MethodId} {args : Array Value} {below : List Frame} {meth : Method} {c : Code} {Q : State → Prop} {A : Nat → Prop} {D : va_G} {cs : ClassId × ClassId × ClassId × ClassId} (C : CX p s m args c c_M_lengths 8 RM D cs A) (w w1 w2 w3 w4 w5 w6 w7 w8 w9 wa wb wd : Nat) (cd ru wt rd : Nat) (va : Int64) (ln : Nat → Nat) (i9 : Int32) (en q at9 : Nat) (hl : ∀ j, j < 48 → ln j ≤ 16) (hen : en ≤ 48) (ha : at9 < en)
    (K : GO p l e { frames := 0, cells := 0, slots := 0, locals := 0 } s m args below meth c 0 0 Q A D 8 78 [(0, .ref w), (1, .int (i9)), (2, .int (nI (en))), (3, .int (nI (q))), (4, .int (nI (at9))), (5, .int (nI (rnf ln (ln at9) (en - at9) at9)))] [] [(w, .inr (4, [.int (nI (0)), .int (nI (ru)), .ref w1, .ref w2, .ref w3, .ref w4, .ref w5, .ref w6, .int (nI (wt)), .int (nI (rd)), .long (va), .ref w7, .ref w8, .ref w9, .ref wa, .ref wb, .ref wd])), (w2, .inl (cs.1, 48, .inl (fun j => nI (ln j))))])
    : ∀ (n : Nat) (r9 : Nat), en - (at9 + r9) = n → (1 ≤ r9) → (at9 + r9 ≤ en) → (rnf ln (ln at9) (en - at9) at9 = r9 + rnf ln (ln at9) (en - (at9 + r9)) (at9 + r9)) → GO p l e { frames := 0, cells := 0, slots := 0, locals := 0 } s m args below meth c 0 0 Q A D 8 43 [(0, .ref w), (1, .int (i9)), (2, .int (nI (en))), (3, .int (nI (q))), (4, .int (nI (at9))), (5, .int (nI (r9)))] [] [(w, .inr (4, [.int (nI (0)), .int (nI (ru)), .ref w1, .ref w2, .ref w3, .ref w4, .ref w5, .ref w6, .int (nI (wt)), .int (nI (rd)), .long (va), .ref w7, .ref w8, .ref w9, .ref wa, .ref wb, .ref wd])), (w2, .inl (cs.1, 48, .inl (fun j => nI (ln j))))] := by
  intro n
  induction n using Nat.strongRecOn with
  | _ n ih =>
  intro r9  hn h1r hr9 he
  refine g_iload C d_M_lengths_43 4 rfl ?_
  refine g_iload C d_M_lengths_45 5 rfl ?_
  refine g_iadd C (v := nI (at9 + r9)) d_M_lengths_47 (nI_add _ _) ?_
  refine g_iload_n C d_M_lengths_48 2 rfl rfl ?_
  refine n_icmp_ge C 78 d_M_lengths_49 (by decide) (by omega) (by omega) (fun h49 => ?_) (fun h49 => ?_)
  · refine g_lv (lv' := [(0, .ref w), (1, .int (i9)), (2, .int (nI (en))), (3, .int (nI (q))), (4, .int (nI (at9))), (5, .int (nI (r9)))]) [0, 1, 2, 3, 4, 5] rfl ?_
    have e9 : rnf ln (ln at9) (en - at9) at9 = r9 := (by
      rw [he]
      first | (rw [show en - (at9 + r9) = 0 by omega]; rfl) | (rw [rnf_stop ln (ln at9) (by omega) h69]; rfl))
    rw [e9] at K
    exact K
  · refine g_aload_n C d_M_lengths_52 0 rfl rfl ?_
    refine g_get C (T := FM) (N := 17) 0 3 inM rfl rfl (by decide) tw_439 rfl rfl d_M_lengths_53 ?_
    refine g_iload C d_M_lengths_56 4 rfl ?_
    refine g_iload C d_M_lengths_58 5 rfl ?_
    refine g_iadd C (v := nI (at9 + r9)) d_M_lengths_60 (nI_add _ _) ?_
    refine g_iald C 1 rfl (by omega) (by decide) d_M_lengths_61 ?_
    refine g_aload_n C d_M_lengths_62 0 rfl rfl ?_
    refine g_get C (T := FM) (N := 17) 0 3 inM rfl rfl (by decide) tw_439 rfl rfl d_M_lengths_63 ?_
    refine g_iload C d_M_lengths_66 4 rfl ?_
    refine g_iald C 1 rfl (by omega) (by decide) d_M_lengths_68 ?_
    refine n_icmp_ne C 78 d_M_lengths_69 (by decide) (by have := hl (at9 + r9) (by omega); omega) (by have := hl at9 (by omega); omega) (fun h69 => ?_) (fun h69 => ?_)
    · refine g_lv (lv' := [(0, .ref w), (1, .int (i9)), (2, .int (nI (en))), (3, .int (nI (q))), (4, .int (nI (at9))), (5, .int (nI (r9)))]) [0, 1, 2, 3, 4, 5] rfl ?_
      have e9 : rnf ln (ln at9) (en - at9) at9 = r9 := (by
      rw [he]
      first | (rw [show en - (at9 + r9) = 0 by omega]; rfl) | (rw [rnf_stop ln (ln at9) (by omega) h69]; rfl))
      rw [e9] at K
      exact K
    · refine g_iinc C (lv' := [(5, .int (nI (r9 + 1))), (0, .ref w), (1, .int (i9)), (2, .int (nI (en))), (3, .int (nI (q))), (4, .int (nI (at9)))]) (k := 5) d_M_lengths_72 rfl (nI_1 _) (by decide) rfl ?_
      refine g_goto C 43 d_M_lengths_75 (by decide) ?_
      refine g_lv (lv' := [(0, .ref w), (1, .int (i9)), (2, .int (nI (en))), (3, .int (nI (q))), (4, .int (nI (at9))), (5, .int (nI (r9 + 1)))]) [1, 2, 3, 4, 5, 0] rfl ?_
      exact ih (en - (at9 + (r9 + 1))) (by omega) (r9 + 1) rfl (by omega) (by omega) (by rw [he, rnf_step ln (ln at9) (by omega) h69, show at9 + r9 + 1 = at9 + (r9 + 1) by omega]; omega)
set_option maxHeartbeats 4000000 in
set_option maxRecDepth 100000 in
theorem l_M_lgs {p : Program} {l : Launch} {e : Env} {s : State} {m : MethodId} {args : Array Value} {below : List Frame} {meth : Method} {c : Code} {A : Nat → Prop} {D : va_G} {cs : ClassId × ClassId × ClassId × ClassId} (C : CX p s m args c c_M_lengths 8 RM D cs A) (w w1 w2 w3 w4 w5 w6 w7 w8 w9 wa wb wd : Nat) (cd ru wt rd : Nat) (va : Int64) (ln : Nat → Nat) (i9 : Int32) (en : Nat) (hl : ∀ j, j < 48 → ln j ≤ 16) (hen : en ≤ 48) (he0 : en = eol ln 48) (hr : meth.sig.returnType = some .int) (hlk : meth.locks = false)
    : ∀ (n : Nat) (q at9 : Nat), en - at9 = n → (q ≤ at9) → (at9 ≤ 200) → (rsl ln en i9 48 0 0 = rsl ln en i9 (48 - q) at9 q) → GO p l e { frames := 0, cells := 0, slots := 0, locals := 0 } s m args below meth c 0 0 (MQ below (QI D (rsl ln (eol ln 48) i9 48 0 0) [(w, .inr (4, [.int (nI (0)), .int (nI (ru)), .ref w1, .ref w2, .ref w3, .ref w4, .ref w5, .ref w6, .int (nI (wt)), .int (nI (rd)), .long (va), .ref w7, .ref w8, .ref w9, .ref wa, .ref wb, .ref wd])), (w2, .inl (cs.1, 48, .inl (fun j => nI (ln j))))] A) args s 0 0 A) A D 8 34 [(0, .ref w), (1, .int (i9)), (2, .int (nI (en))), (3, .int (nI (q))), (4, .int (nI (at9)))] [] [(w, .inr (4, [.int (nI (0)), .int (nI (ru)), .ref w1, .ref w2, .ref w3, .ref w4, .ref w5, .ref w6, .int (nI (wt)), .int (nI (rd)), .long (va), .ref w7, .ref w8, .ref w9, .ref wa, .ref wb, .ref wd])), (w2, .inl (cs.1, 48, .inl (fun j => nI (ln j))))] := by
  intro n
  induction n using Nat.strongRecOn with
  | _ n ih =>
  intro q at9  hn hq ha9 he
  refine g_iload C d_M_lengths_34 4 rfl ?_
  refine g_iload_n C d_M_lengths_36 2 rfl rfl ?_
  refine n_icmp_ge C 209 d_M_lengths_37 (by decide) (by omega) (by omega) (fun h37 => ?_) (fun h37 => ?_)
  · refine g_iconst C (v := (-1)) d_M_lengths_209 rfl ?_
    exact g_iret C hr hlk (by rw [← he0, he, rsl_end (by omega)]) rfl d_M_lengths_210
  · refine g_iconst C (v := nI 1) d_M_lengths_40 rfl ?_
    refine g_istore C (lv' := [(5, .int (nI (1))), (0, .ref w), (1, .int (i9)), (2, .int (nI (en))), (3, .int (nI (q))), (4, .int (nI (at9)))]) d_M_lengths_41 (by decide) rfl ?_
    refine g_lv (lv' := [(0, .ref w), (1, .int (i9)), (2, .int (nI (en))), (3, .int (nI (q))), (4, .int (nI (at9))), (5, .int (nI (1)))]) [1, 2, 3, 4, 5, 0] rfl ?_
    refine l_M_row C w w1 w2 w3 w4 w5 w6 w7 w8 w9 wa wb wd cd ru wt rd va ln i9 en q at9 hl hen (by omega) ?_ _ 1 rfl (by omega) (by omega) (rnf_self ln (by omega))
    refine g_aload_n C d_M_lengths_78 0 rfl rfl ?_
    refine g_get C (T := FM) (N := 17) 0 3 inM rfl rfl (by decide) tw_439 rfl rfl d_M_lengths_79 ?_
    refine g_iload C d_M_lengths_82 4 rfl ?_
    refine g_iald C 1 rfl (by omega) (by decide) d_M_lengths_84 ?_
    refine g_istore C (lv' := [(6, .int (nI (ln (at9)))), (0, .ref w), (1, .int (i9)), (2, .int (nI (en))), (3, .int (nI (q))), (4, .int (nI (at9))), (5, .int (nI (rnf ln (ln at9) (en - at9) at9)))]) d_M_lengths_85 (by decide) rfl ?_
    refine g_iconst C (v := nI 1) d_M_lengths_87 rfl ?_
    refine g_istore C (lv' := [(7, .int (nI (1))), (6, .int (nI (ln (at9)))), (0, .ref w), (1, .int (i9)), (2, .int (nI (en))), (3, .int (nI (q))), (4, .int (nI (at9))), (5, .int (nI (rnf ln (ln at9) (en - at9) at9)))]) d_M_lengths_88 (by decide) rfl ?_
    refine g_aload_n C d_M_lengths_90 2 rfl rfl ?_
    refine g_get C (T := FM) (N := 17) 0 3 inM rfl rfl (by decide) tw_439 rfl rfl d_M_lengths_91 ?_
    refine g_iload C d_M_lengths_94 6 rfl ?_
    refine g_iald C 1 rfl (by omega) (by decide) d_M_lengths_96 ?_
    refine n_if_ne C 135 d_M_lengths_97 (by decide) (by have := hl at9 (by omega); omega) (fun h97 => ?_) (fun h97 => ?_)
    · refine g_iload C d_M_lengths_135 6 rfl ?_
      refine n_if_le C 188 d_M_lengths_137 (by decide) (by omega) (fun h137 => ?_) (fun h137 => ?_)
      · have e9 : ntd ln en at9 = ln (at9) := by rw [ntd_l (by omega) (by omega) (by omega)]
        have e8 : ltb (ntd ln en at9) = 1 := by rw [e9]; have := hl at9 (by omega); have := rnf_le ln (ln at9) (en - at9) at9; unfold ltb; (repeat' split) <;> omega
        refine g_lv (lv' := [(0, .ref w), (1, .int (i9)), (2, .int (nI (en))), (3, .int (nI (q))), (4, .int (nI (at9))), (6, .int (nI (ntd ln en at9))), (7, .int (nI (ltb (ntd ln en at9))))]) [2, 3, 4, 5, 6, 1, 0] (by rw [e8, e9]; rfl) ?_
        refine g_iload_n C d_M_lengths_188 3 rfl rfl ?_
        refine g_iload_n C d_M_lengths_189 1 rfl rfl ?_
        refine g_icmp_ne C 196 d_M_lengths_190 (by decide) (fun h190 => ?_) (fun h190 => ?_)
        · refine g_iinc C (lv' := [(3, .int (nI (q + 1))), (0, .ref w), (1, .int (i9)), (2, .int (nI (en))), (4, .int (nI (at9))), (6, .int (nI (ntd ln en at9))), (7, .int (nI (ltb (ntd ln en at9))))]) (k := 3) d_M_lengths_196 rfl (nI_1 _) (by decide) rfl ?_
          refine g_iload C d_M_lengths_199 4 rfl ?_
          refine g_iload C d_M_lengths_201 6 rfl ?_
          refine g_iadd C (v := nI (at9 + (ltb (ntd ln en at9)))) d_M_lengths_203 (nI_add _ _) ?_
          refine g_istore C (lv' := [(4, .int (nI (at9 + (ltb (ntd ln en at9))))), (3, .int (nI (q + 1))), (0, .ref w), (1, .int (i9)), (2, .int (nI (en))), (6, .int (nI (ntd ln en at9))), (7, .int (nI (ltb (ntd ln en at9))))]) d_M_lengths_204 (by decide) rfl ?_
          refine g_goto C 34 d_M_lengths_206 (by decide) ?_
          refine g_lv (lv' := [(0, .ref w), (1, .int (i9)), (2, .int (nI (en))), (3, .int (nI (q + 1))), (4, .int (nI (at9 + (ltb (ntd ln en at9)))))]) [2, 3, 4, 1, 0] rfl ?_
          exact ih (en - (at9 + ltb (ntd ln en at9))) (by have := ltb_pos (ntd ln en at9); omega) (q + 1) (at9 + ltb (ntd ln en at9)) rfl (by have := ltb_pos (ntd ln en at9); omega) (by have := ltb_le (ntd_le (en := en) hl (show at9 < 48 by omega)); omega) (by rw [he, rsl_next (by omega) (by omega) h190])
        · refine g_iload C d_M_lengths_193 5 rfl ?_
          exact g_iret C hr hlk (by rw [← he0, he, rsl_hit (by omega) (by omega) (Classical.byContradiction h190)]) rfl d_M_lengths_195
      · refine g_aload_n C d_M_lengths_140 2 rfl rfl ?_
        refine g_get C (T := FM) (N := 17) 0 3 inM rfl rfl (by decide) tw_439 rfl rfl d_M_lengths_141 ?_
        refine g_iload C d_M_lengths_144 6 rfl ?_
        refine g_iald C 1 rfl (by omega) (by decide) d_M_lengths_146 ?_
        refine g_aload_n C d_M_lengths_147 2 rfl rfl ?_
        refine g_get C (T := FM) (N := 17) 0 3 inM rfl rfl (by decide) tw_439 rfl rfl d_M_lengths_148 ?_
        refine g_iload C d_M_lengths_151 6 rfl ?_
        refine g_iconst C (v := nI 1) d_M_lengths_153 rfl ?_
        refine g_isub C (v := nI ((at9) - (1))) d_M_lengths_154 (pk_sub (by omega)) ?_
        refine g_iald C 1 rfl (by omega) (by decide) d_M_lengths_155 ?_
        refine n_icmp_ne C 188 d_M_lengths_156 (by decide) (by have := hl at9 (by omega); omega) (by have := hl (at9 - 1) (by omega); omega) (fun h156 => ?_) (fun h156 => ?_)
        · have e9 : ntd ln en at9 = ln (at9) := by rw [ntd_l (by omega) (by omega) (by omega)]
          have e8 : ltb (ntd ln en at9) = 1 := by rw [e9]; have := hl at9 (by omega); have := rnf_le ln (ln at9) (en - at9) at9; unfold ltb; (repeat' split) <;> omega
          refine g_lv (lv' := [(0, .ref w), (1, .int (i9)), (2, .int (nI (en))), (3, .int (nI (q))), (4, .int (nI (at9))), (6, .int (nI (ntd ln en at9))), (7, .int (nI (ltb (ntd ln en at9))))]) [2, 3, 4, 5, 6, 1, 0] (by rw [e8, e9]; rfl) ?_
          refine g_iload_n C d_M_lengths_188 3 rfl rfl ?_
          refine g_iload_n C d_M_lengths_189 1 rfl rfl ?_
          refine g_icmp_ne C 196 d_M_lengths_190 (by decide) (fun h190 => ?_) (fun h190 => ?_)
          · refine g_iinc C (lv' := [(3, .int (nI (q + 1))), (0, .ref w), (1, .int (i9)), (2, .int (nI (en))), (4, .int (nI (at9))), (6, .int (nI (ntd ln en at9))), (7, .int (nI (ltb (ntd ln en at9))))]) (k := 3) d_M_lengths_196 rfl (nI_1 _) (by decide) rfl ?_
            refine g_iload C d_M_lengths_199 4 rfl ?_
            refine g_iload C d_M_lengths_201 6 rfl ?_
            refine g_iadd C (v := nI (at9 + (ltb (ntd ln en at9)))) d_M_lengths_203 (nI_add _ _) ?_
            refine g_istore C (lv' := [(4, .int (nI (at9 + (ltb (ntd ln en at9))))), (3, .int (nI (q + 1))), (0, .ref w), (1, .int (i9)), (2, .int (nI (en))), (6, .int (nI (ntd ln en at9))), (7, .int (nI (ltb (ntd ln en at9))))]) d_M_lengths_204 (by decide) rfl ?_
            refine g_goto C 34 d_M_lengths_206 (by decide) ?_
            refine g_lv (lv' := [(0, .ref w), (1, .int (i9)), (2, .int (nI (en))), (3, .int (nI (q + 1))), (4, .int (nI (at9 + (ltb (ntd ln en at9)))))]) [2, 3, 4, 1, 0] rfl ?_
            exact ih (en - (at9 + ltb (ntd ln en at9))) (by have := ltb_pos (ntd ln en at9); omega) (q + 1) (at9 + ltb (ntd ln en at9)) rfl (by have := ltb_pos (ntd ln en at9); omega) (by have := ltb_le (ntd_le (en := en) hl (show at9 < 48 by omega)); omega) (by rw [he, rsl_next (by omega) (by omega) h190])
          · refine g_iload C d_M_lengths_193 5 rfl ?_
            exact g_iret C hr hlk (by rw [← he0, he, rsl_hit (by omega) (by omega) (Classical.byContradiction h190)]) rfl d_M_lengths_195
        · refine g_iload C d_M_lengths_159 7 rfl ?_
          refine g_iconst C (v := nI 2) d_M_lengths_161 rfl ?_
          refine n_icmp_le C 188 d_M_lengths_162 (by decide) (by have := rnf_le ln (ln at9) (en - at9) at9; omega) (by omega) (fun h162 => ?_) (fun h162 => ?_)
          · have e9 : ntd ln en at9 = ln (at9) := by rw [ntd_l (by omega) (by omega) (by omega)]
            have e8 : ltb (ntd ln en at9) = 1 := by rw [e9]; have := hl at9 (by omega); have := rnf_le ln (ln at9) (en - at9) at9; unfold ltb; (repeat' split) <;> omega
            refine g_lv (lv' := [(0, .ref w), (1, .int (i9)), (2, .int (nI (en))), (3, .int (nI (q))), (4, .int (nI (at9))), (6, .int (nI (ntd ln en at9))), (7, .int (nI (ltb (ntd ln en at9))))]) [2, 3, 4, 5, 6, 1, 0] (by rw [e8, e9]; rfl) ?_
            refine g_iload_n C d_M_lengths_188 3 rfl rfl ?_
            refine g_iload_n C d_M_lengths_189 1 rfl rfl ?_
            refine g_icmp_ne C 196 d_M_lengths_190 (by decide) (fun h190 => ?_) (fun h190 => ?_)
            · refine g_iinc C (lv' := [(3, .int (nI (q + 1))), (0, .ref w), (1, .int (i9)), (2, .int (nI (en))), (4, .int (nI (at9))), (6, .int (nI (ntd ln en at9))), (7, .int (nI (ltb (ntd ln en at9))))]) (k := 3) d_M_lengths_196 rfl (nI_1 _) (by decide) rfl ?_
              refine g_iload C d_M_lengths_199 4 rfl ?_
              refine g_iload C d_M_lengths_201 6 rfl ?_
              refine g_iadd C (v := nI (at9 + (ltb (ntd ln en at9)))) d_M_lengths_203 (nI_add _ _) ?_
              refine g_istore C (lv' := [(4, .int (nI (at9 + (ltb (ntd ln en at9))))), (3, .int (nI (q + 1))), (0, .ref w), (1, .int (i9)), (2, .int (nI (en))), (6, .int (nI (ntd ln en at9))), (7, .int (nI (ltb (ntd ln en at9))))]) d_M_lengths_204 (by decide) rfl ?_
              refine g_goto C 34 d_M_lengths_206 (by decide) ?_
              refine g_lv (lv' := [(0, .ref w), (1, .int (i9)), (2, .int (nI (en))), (3, .int (nI (q + 1))), (4, .int (nI (at9 + (ltb (ntd ln en at9)))))]) [2, 3, 4, 1, 0] rfl ?_
              exact ih (en - (at9 + ltb (ntd ln en at9))) (by have := ltb_pos (ntd ln en at9); omega) (q + 1) (at9 + ltb (ntd ln en at9)) rfl (by have := ltb_pos (ntd ln en at9); omega) (by have := ltb_le (ntd_le (en := en) hl (show at9 < 48 by omega)); omega) (by rw [he, rsl_next (by omega) (by omega) h190])
            · refine g_iload C d_M_lengths_193 5 rfl ?_
              exact g_iret C hr hlk (by rw [← he0, he, rsl_hit (by omega) (by omega) (Classical.byContradiction h190)]) rfl d_M_lengths_195
          · refine g_iload C d_M_lengths_165 7 rfl ?_
            refine g_bipush C (v := nI 6) d_M_lengths_167 rfl ?_
            refine n_icmp_le C 177 d_M_lengths_169 (by decide) (by have := rnf_le ln (ln at9) (en - at9) at9; omega) (by omega) (fun h169 => ?_) (fun h169 => ?_)
            · refine g_iload C d_M_lengths_177 7 rfl ?_
              refine g_istore C (lv' := [(7, .int (nI (rnf ln (ln at9) (en - at9) at9))), (6, .int (nI (ln (at9)))), (0, .ref w), (1, .int (i9)), (2, .int (nI (en))), (3, .int (nI (q))), (4, .int (nI (at9))), (5, .int (nI (rnf ln (ln at9) (en - at9) at9)))]) d_M_lengths_179 (by decide) rfl ?_
              refine g_bipush C (v := nI 100) d_M_lengths_181 rfl ?_
              refine g_iload C d_M_lengths_183 0 rfl ?_
              refine g_iadd C (v := nI (100 + (rnf ln (ln at9) (en - at9) at9))) d_M_lengths_185 (nI_add _ _) ?_
              refine g_istore C (lv' := [(6, .int (nI (100 + (rnf ln (ln at9) (en - at9) at9)))), (7, .int (nI (rnf ln (ln at9) (en - at9) at9))), (0, .ref w), (1, .int (i9)), (2, .int (nI (en))), (3, .int (nI (q))), (4, .int (nI (at9))), (5, .int (nI (rnf ln (ln at9) (en - at9) at9)))]) d_M_lengths_186 (by decide) rfl ?_
              have e9 : ntd ln en at9 = 100 + (rnf ln (ln at9) (en - at9) at9) := by rw [ntd_a (by omega) (by omega) (by omega) (by omega) (by omega)]; have := rnf_le ln (ln at9) (en - at9) at9; omega
              have e8 : ltb (ntd ln en at9) = rnf ln (ln at9) (en - at9) at9 := by rw [e9]; have := hl at9 (by omega); have := rnf_le ln (ln at9) (en - at9) at9; unfold ltb; (repeat' split) <;> omega
              refine g_lv (lv' := [(0, .ref w), (1, .int (i9)), (2, .int (nI (en))), (3, .int (nI (q))), (4, .int (nI (at9))), (6, .int (nI (ntd ln en at9))), (7, .int (nI (ltb (ntd ln en at9))))]) [2, 3, 4, 5, 6, 0, 1] (by rw [e8, e9]; rfl) ?_
              refine g_iload_n C d_M_lengths_188 3 rfl rfl ?_
              refine g_iload_n C d_M_lengths_189 1 rfl rfl ?_
              refine g_icmp_ne C 196 d_M_lengths_190 (by decide) (fun h190 => ?_) (fun h190 => ?_)
              · refine g_iinc C (lv' := [(3, .int (nI (q + 1))), (0, .ref w), (1, .int (i9)), (2, .int (nI (en))), (4, .int (nI (at9))), (6, .int (nI (ntd ln en at9))), (7, .int (nI (ltb (ntd ln en at9))))]) (k := 3) d_M_lengths_196 rfl (nI_1 _) (by decide) rfl ?_
                refine g_iload C d_M_lengths_199 4 rfl ?_
                refine g_iload C d_M_lengths_201 6 rfl ?_
                refine g_iadd C (v := nI (at9 + (ltb (ntd ln en at9)))) d_M_lengths_203 (nI_add _ _) ?_
                refine g_istore C (lv' := [(4, .int (nI (at9 + (ltb (ntd ln en at9))))), (3, .int (nI (q + 1))), (0, .ref w), (1, .int (i9)), (2, .int (nI (en))), (6, .int (nI (ntd ln en at9))), (7, .int (nI (ltb (ntd ln en at9))))]) d_M_lengths_204 (by decide) rfl ?_
                refine g_goto C 34 d_M_lengths_206 (by decide) ?_
                refine g_lv (lv' := [(0, .ref w), (1, .int (i9)), (2, .int (nI (en))), (3, .int (nI (q + 1))), (4, .int (nI (at9 + (ltb (ntd ln en at9)))))]) [2, 3, 4, 1, 0] rfl ?_
                exact ih (en - (at9 + ltb (ntd ln en at9))) (by have := ltb_pos (ntd ln en at9); omega) (q + 1) (at9 + ltb (ntd ln en at9)) rfl (by have := ltb_pos (ntd ln en at9); omega) (by have := ltb_le (ntd_le (en := en) hl (show at9 < 48 by omega)); omega) (by rw [he, rsl_next (by omega) (by omega) h190])
              · refine g_iload C d_M_lengths_193 5 rfl ?_
                exact g_iret C hr hlk (by rw [← he0, he, rsl_hit (by omega) (by omega) (Classical.byContradiction h190)]) rfl d_M_lengths_195
            · refine g_bipush C (v := nI 6) d_M_lengths_172 rfl ?_
              refine g_goto C 179 d_M_lengths_174 (by decide) ?_
              refine g_istore C (lv' := [(7, .int (nI (6))), (6, .int (nI (ln (at9)))), (0, .ref w), (1, .int (i9)), (2, .int (nI (en))), (3, .int (nI (q))), (4, .int (nI (at9))), (5, .int (nI (rnf ln (ln at9) (en - at9) at9)))]) d_M_lengths_179 (by decide) rfl ?_
              refine g_bipush C (v := nI 100) d_M_lengths_181 rfl ?_
              refine g_iload C d_M_lengths_183 0 rfl ?_
              refine g_iadd C (v := nI (100 + 6)) d_M_lengths_185 (nI_add _ _) ?_
              refine g_istore C (lv' := [(6, .int (nI (100 + 6))), (7, .int (nI (6))), (0, .ref w), (1, .int (i9)), (2, .int (nI (en))), (3, .int (nI (q))), (4, .int (nI (at9))), (5, .int (nI (rnf ln (ln at9) (en - at9) at9)))]) d_M_lengths_186 (by decide) rfl ?_
              have e9 : ntd ln en at9 = 100 + 6 := by rw [ntd_a (by omega) (by omega) (by omega) (by omega) (by omega)]; have := rnf_le ln (ln at9) (en - at9) at9; omega
              have e8 : ltb (ntd ln en at9) = 6 := by rw [e9]; have := hl at9 (by omega); have := rnf_le ln (ln at9) (en - at9) at9; unfold ltb; (repeat' split) <;> omega
              refine g_lv (lv' := [(0, .ref w), (1, .int (i9)), (2, .int (nI (en))), (3, .int (nI (q))), (4, .int (nI (at9))), (6, .int (nI (ntd ln en at9))), (7, .int (nI (ltb (ntd ln en at9))))]) [2, 3, 4, 5, 6, 0, 1] (by rw [e8, e9]; rfl) ?_
              refine g_iload_n C d_M_lengths_188 3 rfl rfl ?_
              refine g_iload_n C d_M_lengths_189 1 rfl rfl ?_
              refine g_icmp_ne C 196 d_M_lengths_190 (by decide) (fun h190 => ?_) (fun h190 => ?_)
              · refine g_iinc C (lv' := [(3, .int (nI (q + 1))), (0, .ref w), (1, .int (i9)), (2, .int (nI (en))), (4, .int (nI (at9))), (6, .int (nI (ntd ln en at9))), (7, .int (nI (ltb (ntd ln en at9))))]) (k := 3) d_M_lengths_196 rfl (nI_1 _) (by decide) rfl ?_
                refine g_iload C d_M_lengths_199 4 rfl ?_
                refine g_iload C d_M_lengths_201 6 rfl ?_
                refine g_iadd C (v := nI (at9 + (ltb (ntd ln en at9)))) d_M_lengths_203 (nI_add _ _) ?_
                refine g_istore C (lv' := [(4, .int (nI (at9 + (ltb (ntd ln en at9))))), (3, .int (nI (q + 1))), (0, .ref w), (1, .int (i9)), (2, .int (nI (en))), (6, .int (nI (ntd ln en at9))), (7, .int (nI (ltb (ntd ln en at9))))]) d_M_lengths_204 (by decide) rfl ?_
                refine g_goto C 34 d_M_lengths_206 (by decide) ?_
                refine g_lv (lv' := [(0, .ref w), (1, .int (i9)), (2, .int (nI (en))), (3, .int (nI (q + 1))), (4, .int (nI (at9 + (ltb (ntd ln en at9)))))]) [2, 3, 4, 1, 0] rfl ?_
                exact ih (en - (at9 + ltb (ntd ln en at9))) (by have := ltb_pos (ntd ln en at9); omega) (q + 1) (at9 + ltb (ntd ln en at9)) rfl (by have := ltb_pos (ntd ln en at9); omega) (by have := ltb_le (ntd_le (en := en) hl (show at9 < 48 by omega)); omega) (by rw [he, rsl_next (by omega) (by omega) h190])
              · refine g_iload C d_M_lengths_193 5 rfl ?_
                exact g_iret C hr hlk (by rw [← he0, he, rsl_hit (by omega) (by omega) (Classical.byContradiction h190)]) rfl d_M_lengths_195
    · refine g_iload C d_M_lengths_100 7 rfl ?_
      refine g_iconst C (v := nI 2) d_M_lengths_102 rfl ?_
      refine n_icmp_le C 135 d_M_lengths_103 (by decide) (by have := rnf_le ln (ln at9) (en - at9) at9; omega) (by omega) (fun h103 => ?_) (fun h103 => ?_)
      · refine g_iload C d_M_lengths_135 6 rfl ?_
        refine n_if_le C 188 d_M_lengths_137 (by decide) (by omega) (fun h137 => ?_) (fun h137 => ?_)
        · have e9 : ntd ln en at9 = ln (at9) := by rw [ntd_l (by omega) (by omega) (by omega)]
          have e8 : ltb (ntd ln en at9) = 1 := by rw [e9]; have := hl at9 (by omega); have := rnf_le ln (ln at9) (en - at9) at9; unfold ltb; (repeat' split) <;> omega
          refine g_lv (lv' := [(0, .ref w), (1, .int (i9)), (2, .int (nI (en))), (3, .int (nI (q))), (4, .int (nI (at9))), (6, .int (nI (ntd ln en at9))), (7, .int (nI (ltb (ntd ln en at9))))]) [2, 3, 4, 5, 6, 1, 0] (by rw [e8, e9]; rfl) ?_
          refine g_iload_n C d_M_lengths_188 3 rfl rfl ?_
          refine g_iload_n C d_M_lengths_189 1 rfl rfl ?_
          refine g_icmp_ne C 196 d_M_lengths_190 (by decide) (fun h190 => ?_) (fun h190 => ?_)
          · refine g_iinc C (lv' := [(3, .int (nI (q + 1))), (0, .ref w), (1, .int (i9)), (2, .int (nI (en))), (4, .int (nI (at9))), (6, .int (nI (ntd ln en at9))), (7, .int (nI (ltb (ntd ln en at9))))]) (k := 3) d_M_lengths_196 rfl (nI_1 _) (by decide) rfl ?_
            refine g_iload C d_M_lengths_199 4 rfl ?_
            refine g_iload C d_M_lengths_201 6 rfl ?_
            refine g_iadd C (v := nI (at9 + (ltb (ntd ln en at9)))) d_M_lengths_203 (nI_add _ _) ?_
            refine g_istore C (lv' := [(4, .int (nI (at9 + (ltb (ntd ln en at9))))), (3, .int (nI (q + 1))), (0, .ref w), (1, .int (i9)), (2, .int (nI (en))), (6, .int (nI (ntd ln en at9))), (7, .int (nI (ltb (ntd ln en at9))))]) d_M_lengths_204 (by decide) rfl ?_
            refine g_goto C 34 d_M_lengths_206 (by decide) ?_
            refine g_lv (lv' := [(0, .ref w), (1, .int (i9)), (2, .int (nI (en))), (3, .int (nI (q + 1))), (4, .int (nI (at9 + (ltb (ntd ln en at9)))))]) [2, 3, 4, 1, 0] rfl ?_
            exact ih (en - (at9 + ltb (ntd ln en at9))) (by have := ltb_pos (ntd ln en at9); omega) (q + 1) (at9 + ltb (ntd ln en at9)) rfl (by have := ltb_pos (ntd ln en at9); omega) (by have := ltb_le (ntd_le (en := en) hl (show at9 < 48 by omega)); omega) (by rw [he, rsl_next (by omega) (by omega) h190])
          · refine g_iload C d_M_lengths_193 5 rfl ?_
            exact g_iret C hr hlk (by rw [← he0, he, rsl_hit (by omega) (by omega) (Classical.byContradiction h190)]) rfl d_M_lengths_195
        · refine g_aload_n C d_M_lengths_140 2 rfl rfl ?_
          refine g_get C (T := FM) (N := 17) 0 3 inM rfl rfl (by decide) tw_439 rfl rfl d_M_lengths_141 ?_
          refine g_iload C d_M_lengths_144 6 rfl ?_
          refine g_iald C 1 rfl (by omega) (by decide) d_M_lengths_146 ?_
          refine g_aload_n C d_M_lengths_147 2 rfl rfl ?_
          refine g_get C (T := FM) (N := 17) 0 3 inM rfl rfl (by decide) tw_439 rfl rfl d_M_lengths_148 ?_
          refine g_iload C d_M_lengths_151 6 rfl ?_
          refine g_iconst C (v := nI 1) d_M_lengths_153 rfl ?_
          refine g_isub C (v := nI ((at9) - (1))) d_M_lengths_154 (pk_sub (by omega)) ?_
          refine g_iald C 1 rfl (by omega) (by decide) d_M_lengths_155 ?_
          refine n_icmp_ne C 188 d_M_lengths_156 (by decide) (by have := hl at9 (by omega); omega) (by have := hl (at9 - 1) (by omega); omega) (fun h156 => ?_) (fun h156 => ?_)
          · have e9 : ntd ln en at9 = ln (at9) := by rw [ntd_l (by omega) (by omega) (by omega)]
            have e8 : ltb (ntd ln en at9) = 1 := by rw [e9]; have := hl at9 (by omega); have := rnf_le ln (ln at9) (en - at9) at9; unfold ltb; (repeat' split) <;> omega
            refine g_lv (lv' := [(0, .ref w), (1, .int (i9)), (2, .int (nI (en))), (3, .int (nI (q))), (4, .int (nI (at9))), (6, .int (nI (ntd ln en at9))), (7, .int (nI (ltb (ntd ln en at9))))]) [2, 3, 4, 5, 6, 1, 0] (by rw [e8, e9]; rfl) ?_
            refine g_iload_n C d_M_lengths_188 3 rfl rfl ?_
            refine g_iload_n C d_M_lengths_189 1 rfl rfl ?_
            refine g_icmp_ne C 196 d_M_lengths_190 (by decide) (fun h190 => ?_) (fun h190 => ?_)
            · refine g_iinc C (lv' := [(3, .int (nI (q + 1))), (0, .ref w), (1, .int (i9)), (2, .int (nI (en))), (4, .int (nI (at9))), (6, .int (nI (ntd ln en at9))), (7, .int (nI (ltb (ntd ln en at9))))]) (k := 3) d_M_lengths_196 rfl (nI_1 _) (by decide) rfl ?_
              refine g_iload C d_M_lengths_199 4 rfl ?_
              refine g_iload C d_M_lengths_201 6 rfl ?_
              refine g_iadd C (v := nI (at9 + (ltb (ntd ln en at9)))) d_M_lengths_203 (nI_add _ _) ?_
              refine g_istore C (lv' := [(4, .int (nI (at9 + (ltb (ntd ln en at9))))), (3, .int (nI (q + 1))), (0, .ref w), (1, .int (i9)), (2, .int (nI (en))), (6, .int (nI (ntd ln en at9))), (7, .int (nI (ltb (ntd ln en at9))))]) d_M_lengths_204 (by decide) rfl ?_
              refine g_goto C 34 d_M_lengths_206 (by decide) ?_
              refine g_lv (lv' := [(0, .ref w), (1, .int (i9)), (2, .int (nI (en))), (3, .int (nI (q + 1))), (4, .int (nI (at9 + (ltb (ntd ln en at9)))))]) [2, 3, 4, 1, 0] rfl ?_
              exact ih (en - (at9 + ltb (ntd ln en at9))) (by have := ltb_pos (ntd ln en at9); omega) (q + 1) (at9 + ltb (ntd ln en at9)) rfl (by have := ltb_pos (ntd ln en at9); omega) (by have := ltb_le (ntd_le (en := en) hl (show at9 < 48 by omega)); omega) (by rw [he, rsl_next (by omega) (by omega) h190])
            · refine g_iload C d_M_lengths_193 5 rfl ?_
              exact g_iret C hr hlk (by rw [← he0, he, rsl_hit (by omega) (by omega) (Classical.byContradiction h190)]) rfl d_M_lengths_195
          · refine g_iload C d_M_lengths_159 7 rfl ?_
            refine g_iconst C (v := nI 2) d_M_lengths_161 rfl ?_
            refine n_icmp_le C 188 d_M_lengths_162 (by decide) (by have := rnf_le ln (ln at9) (en - at9) at9; omega) (by omega) (fun h162 => ?_) (fun h162 => ?_)
            · have e9 : ntd ln en at9 = ln (at9) := by rw [ntd_l (by omega) (by omega) (by omega)]
              have e8 : ltb (ntd ln en at9) = 1 := by rw [e9]; have := hl at9 (by omega); have := rnf_le ln (ln at9) (en - at9) at9; unfold ltb; (repeat' split) <;> omega
              refine g_lv (lv' := [(0, .ref w), (1, .int (i9)), (2, .int (nI (en))), (3, .int (nI (q))), (4, .int (nI (at9))), (6, .int (nI (ntd ln en at9))), (7, .int (nI (ltb (ntd ln en at9))))]) [2, 3, 4, 5, 6, 1, 0] (by rw [e8, e9]; rfl) ?_
              refine g_iload_n C d_M_lengths_188 3 rfl rfl ?_
              refine g_iload_n C d_M_lengths_189 1 rfl rfl ?_
              refine g_icmp_ne C 196 d_M_lengths_190 (by decide) (fun h190 => ?_) (fun h190 => ?_)
              · refine g_iinc C (lv' := [(3, .int (nI (q + 1))), (0, .ref w), (1, .int (i9)), (2, .int (nI (en))), (4, .int (nI (at9))), (6, .int (nI (ntd ln en at9))), (7, .int (nI (ltb (ntd ln en at9))))]) (k := 3) d_M_lengths_196 rfl (nI_1 _) (by decide) rfl ?_
                refine g_iload C d_M_lengths_199 4 rfl ?_
                refine g_iload C d_M_lengths_201 6 rfl ?_
                refine g_iadd C (v := nI (at9 + (ltb (ntd ln en at9)))) d_M_lengths_203 (nI_add _ _) ?_
                refine g_istore C (lv' := [(4, .int (nI (at9 + (ltb (ntd ln en at9))))), (3, .int (nI (q + 1))), (0, .ref w), (1, .int (i9)), (2, .int (nI (en))), (6, .int (nI (ntd ln en at9))), (7, .int (nI (ltb (ntd ln en at9))))]) d_M_lengths_204 (by decide) rfl ?_
                refine g_goto C 34 d_M_lengths_206 (by decide) ?_
                refine g_lv (lv' := [(0, .ref w), (1, .int (i9)), (2, .int (nI (en))), (3, .int (nI (q + 1))), (4, .int (nI (at9 + (ltb (ntd ln en at9)))))]) [2, 3, 4, 1, 0] rfl ?_
                exact ih (en - (at9 + ltb (ntd ln en at9))) (by have := ltb_pos (ntd ln en at9); omega) (q + 1) (at9 + ltb (ntd ln en at9)) rfl (by have := ltb_pos (ntd ln en at9); omega) (by have := ltb_le (ntd_le (en := en) hl (show at9 < 48 by omega)); omega) (by rw [he, rsl_next (by omega) (by omega) h190])
              · refine g_iload C d_M_lengths_193 5 rfl ?_
                exact g_iret C hr hlk (by rw [← he0, he, rsl_hit (by omega) (by omega) (Classical.byContradiction h190)]) rfl d_M_lengths_195
            · refine g_iload C d_M_lengths_165 7 rfl ?_
              refine g_bipush C (v := nI 6) d_M_lengths_167 rfl ?_
              refine n_icmp_le C 177 d_M_lengths_169 (by decide) (by have := rnf_le ln (ln at9) (en - at9) at9; omega) (by omega) (fun h169 => ?_) (fun h169 => ?_)
              · refine g_iload C d_M_lengths_177 7 rfl ?_
                refine g_istore C (lv' := [(7, .int (nI (rnf ln (ln at9) (en - at9) at9))), (6, .int (nI (ln (at9)))), (0, .ref w), (1, .int (i9)), (2, .int (nI (en))), (3, .int (nI (q))), (4, .int (nI (at9))), (5, .int (nI (rnf ln (ln at9) (en - at9) at9)))]) d_M_lengths_179 (by decide) rfl ?_
                refine g_bipush C (v := nI 100) d_M_lengths_181 rfl ?_
                refine g_iload C d_M_lengths_183 0 rfl ?_
                refine g_iadd C (v := nI (100 + (rnf ln (ln at9) (en - at9) at9))) d_M_lengths_185 (nI_add _ _) ?_
                refine g_istore C (lv' := [(6, .int (nI (100 + (rnf ln (ln at9) (en - at9) at9)))), (7, .int (nI (rnf ln (ln at9) (en - at9) at9))), (0, .ref w), (1, .int (i9)), (2, .int (nI (en))), (3, .int (nI (q))), (4, .int (nI (at9))), (5, .int (nI (rnf ln (ln at9) (en - at9) at9)))]) d_M_lengths_186 (by decide) rfl ?_
                have e9 : ntd ln en at9 = 100 + (rnf ln (ln at9) (en - at9) at9) := by rw [ntd_a (by omega) (by omega) (by omega) (by omega) (by omega)]; have := rnf_le ln (ln at9) (en - at9) at9; omega
                have e8 : ltb (ntd ln en at9) = rnf ln (ln at9) (en - at9) at9 := by rw [e9]; have := hl at9 (by omega); have := rnf_le ln (ln at9) (en - at9) at9; unfold ltb; (repeat' split) <;> omega
                refine g_lv (lv' := [(0, .ref w), (1, .int (i9)), (2, .int (nI (en))), (3, .int (nI (q))), (4, .int (nI (at9))), (6, .int (nI (ntd ln en at9))), (7, .int (nI (ltb (ntd ln en at9))))]) [2, 3, 4, 5, 6, 0, 1] (by rw [e8, e9]; rfl) ?_
                refine g_iload_n C d_M_lengths_188 3 rfl rfl ?_
                refine g_iload_n C d_M_lengths_189 1 rfl rfl ?_
                refine g_icmp_ne C 196 d_M_lengths_190 (by decide) (fun h190 => ?_) (fun h190 => ?_)
                · refine g_iinc C (lv' := [(3, .int (nI (q + 1))), (0, .ref w), (1, .int (i9)), (2, .int (nI (en))), (4, .int (nI (at9))), (6, .int (nI (ntd ln en at9))), (7, .int (nI (ltb (ntd ln en at9))))]) (k := 3) d_M_lengths_196 rfl (nI_1 _) (by decide) rfl ?_
                  refine g_iload C d_M_lengths_199 4 rfl ?_
                  refine g_iload C d_M_lengths_201 6 rfl ?_
                  refine g_iadd C (v := nI (at9 + (ltb (ntd ln en at9)))) d_M_lengths_203 (nI_add _ _) ?_
                  refine g_istore C (lv' := [(4, .int (nI (at9 + (ltb (ntd ln en at9))))), (3, .int (nI (q + 1))), (0, .ref w), (1, .int (i9)), (2, .int (nI (en))), (6, .int (nI (ntd ln en at9))), (7, .int (nI (ltb (ntd ln en at9))))]) d_M_lengths_204 (by decide) rfl ?_
                  refine g_goto C 34 d_M_lengths_206 (by decide) ?_
                  refine g_lv (lv' := [(0, .ref w), (1, .int (i9)), (2, .int (nI (en))), (3, .int (nI (q + 1))), (4, .int (nI (at9 + (ltb (ntd ln en at9)))))]) [2, 3, 4, 1, 0] rfl ?_
                  exact ih (en - (at9 + ltb (ntd ln en at9))) (by have := ltb_pos (ntd ln en at9); omega) (q + 1) (at9 + ltb (ntd ln en at9)) rfl (by have := ltb_pos (ntd ln en at9); omega) (by have := ltb_le (ntd_le (en := en) hl (show at9 < 48 by omega)); omega) (by rw [he, rsl_next (by omega) (by omega) h190])
                · refine g_iload C d_M_lengths_193 5 rfl ?_
                  exact g_iret C hr hlk (by rw [← he0, he, rsl_hit (by omega) (by omega) (Classical.byContradiction h190)]) rfl d_M_lengths_195
              · refine g_bipush C (v := nI 6) d_M_lengths_172 rfl ?_
                refine g_goto C 179 d_M_lengths_174 (by decide) ?_
                refine g_istore C (lv' := [(7, .int (nI (6))), (6, .int (nI (ln (at9)))), (0, .ref w), (1, .int (i9)), (2, .int (nI (en))), (3, .int (nI (q))), (4, .int (nI (at9))), (5, .int (nI (rnf ln (ln at9) (en - at9) at9)))]) d_M_lengths_179 (by decide) rfl ?_
                refine g_bipush C (v := nI 100) d_M_lengths_181 rfl ?_
                refine g_iload C d_M_lengths_183 0 rfl ?_
                refine g_iadd C (v := nI (100 + 6)) d_M_lengths_185 (nI_add _ _) ?_
                refine g_istore C (lv' := [(6, .int (nI (100 + 6))), (7, .int (nI (6))), (0, .ref w), (1, .int (i9)), (2, .int (nI (en))), (3, .int (nI (q))), (4, .int (nI (at9))), (5, .int (nI (rnf ln (ln at9) (en - at9) at9)))]) d_M_lengths_186 (by decide) rfl ?_
                have e9 : ntd ln en at9 = 100 + 6 := by rw [ntd_a (by omega) (by omega) (by omega) (by omega) (by omega)]; have := rnf_le ln (ln at9) (en - at9) at9; omega
                have e8 : ltb (ntd ln en at9) = 6 := by rw [e9]; have := hl at9 (by omega); have := rnf_le ln (ln at9) (en - at9) at9; unfold ltb; (repeat' split) <;> omega
                refine g_lv (lv' := [(0, .ref w), (1, .int (i9)), (2, .int (nI (en))), (3, .int (nI (q))), (4, .int (nI (at9))), (6, .int (nI (ntd ln en at9))), (7, .int (nI (ltb (ntd ln en at9))))]) [2, 3, 4, 5, 6, 0, 1] (by rw [e8, e9]; rfl) ?_
                refine g_iload_n C d_M_lengths_188 3 rfl rfl ?_
                refine g_iload_n C d_M_lengths_189 1 rfl rfl ?_
                refine g_icmp_ne C 196 d_M_lengths_190 (by decide) (fun h190 => ?_) (fun h190 => ?_)
                · refine g_iinc C (lv' := [(3, .int (nI (q + 1))), (0, .ref w), (1, .int (i9)), (2, .int (nI (en))), (4, .int (nI (at9))), (6, .int (nI (ntd ln en at9))), (7, .int (nI (ltb (ntd ln en at9))))]) (k := 3) d_M_lengths_196 rfl (nI_1 _) (by decide) rfl ?_
                  refine g_iload C d_M_lengths_199 4 rfl ?_
                  refine g_iload C d_M_lengths_201 6 rfl ?_
                  refine g_iadd C (v := nI (at9 + (ltb (ntd ln en at9)))) d_M_lengths_203 (nI_add _ _) ?_
                  refine g_istore C (lv' := [(4, .int (nI (at9 + (ltb (ntd ln en at9))))), (3, .int (nI (q + 1))), (0, .ref w), (1, .int (i9)), (2, .int (nI (en))), (6, .int (nI (ntd ln en at9))), (7, .int (nI (ltb (ntd ln en at9))))]) d_M_lengths_204 (by decide) rfl ?_
                  refine g_goto C 34 d_M_lengths_206 (by decide) ?_
                  refine g_lv (lv' := [(0, .ref w), (1, .int (i9)), (2, .int (nI (en))), (3, .int (nI (q + 1))), (4, .int (nI (at9 + (ltb (ntd ln en at9)))))]) [2, 3, 4, 1, 0] rfl ?_
                  exact ih (en - (at9 + ltb (ntd ln en at9))) (by have := ltb_pos (ntd ln en at9); omega) (q + 1) (at9 + ltb (ntd ln en at9)) rfl (by have := ltb_pos (ntd ln en at9); omega) (by have := ltb_le (ntd_le (en := en) hl (show at9 < 48 by omega)); omega) (by rw [he, rsl_next (by omega) (by omega) h190])
                · refine g_iload C d_M_lengths_193 5 rfl ?_
                  exact g_iret C hr hlk (by rw [← he0, he, rsl_hit (by omega) (by omega) (Classical.byContradiction h190)]) rfl d_M_lengths_195
      · refine g_iload C d_M_lengths_106 7 rfl ?_
        refine g_sipush C (v := nI 138) d_M_lengths_108 rfl ?_
        refine n_icmp_le C 120 d_M_lengths_111 (by decide) (by have := rnf_le ln (ln at9) (en - at9) at9; omega) (by omega) (fun h111 => ?_) (fun h111 => ?_)
        · refine g_iload C d_M_lengths_120 7 rfl ?_
          refine g_istore C (lv' := [(7, .int (nI (rnf ln (ln at9) (en - at9) at9))), (6, .int (nI (ln (at9)))), (0, .ref w), (1, .int (i9)), (2, .int (nI (en))), (3, .int (nI (q))), (4, .int (nI (at9))), (5, .int (nI (rnf ln (ln at9) (en - at9) at9)))]) d_M_lengths_122 (by decide) rfl ?_
          refine g_sipush C (v := nI 200) d_M_lengths_124 rfl ?_
          refine g_iload C d_M_lengths_127 0 rfl ?_
          refine g_iadd C (v := nI (200 + (rnf ln (ln at9) (en - at9) at9))) d_M_lengths_129 (nI_add _ _) ?_
          refine g_istore C (lv' := [(6, .int (nI (200 + (rnf ln (ln at9) (en - at9) at9)))), (7, .int (nI (rnf ln (ln at9) (en - at9) at9))), (0, .ref w), (1, .int (i9)), (2, .int (nI (en))), (3, .int (nI (q))), (4, .int (nI (at9))), (5, .int (nI (rnf ln (ln at9) (en - at9) at9)))]) d_M_lengths_130 (by decide) rfl ?_
          refine g_goto C 188 d_M_lengths_132 (by decide) ?_
          have e9 : ntd ln en at9 = 200 + (rnf ln (ln at9) (en - at9) at9) := by rw [ntd_z (by omega) (by omega) (by omega)]; have := rnf_le ln (ln at9) (en - at9) at9; omega
          have e8 : ltb (ntd ln en at9) = rnf ln (ln at9) (en - at9) at9 := by rw [e9]; have := hl at9 (by omega); have := rnf_le ln (ln at9) (en - at9) at9; unfold ltb; (repeat' split) <;> omega
          refine g_lv (lv' := [(0, .ref w), (1, .int (i9)), (2, .int (nI (en))), (3, .int (nI (q))), (4, .int (nI (at9))), (6, .int (nI (ntd ln en at9))), (7, .int (nI (ltb (ntd ln en at9))))]) [2, 3, 4, 5, 6, 0, 1] (by rw [e8, e9]; rfl) ?_
          refine g_iload_n C d_M_lengths_188 3 rfl rfl ?_
          refine g_iload_n C d_M_lengths_189 1 rfl rfl ?_
          refine g_icmp_ne C 196 d_M_lengths_190 (by decide) (fun h190 => ?_) (fun h190 => ?_)
          · refine g_iinc C (lv' := [(3, .int (nI (q + 1))), (0, .ref w), (1, .int (i9)), (2, .int (nI (en))), (4, .int (nI (at9))), (6, .int (nI (ntd ln en at9))), (7, .int (nI (ltb (ntd ln en at9))))]) (k := 3) d_M_lengths_196 rfl (nI_1 _) (by decide) rfl ?_
            refine g_iload C d_M_lengths_199 4 rfl ?_
            refine g_iload C d_M_lengths_201 6 rfl ?_
            refine g_iadd C (v := nI (at9 + (ltb (ntd ln en at9)))) d_M_lengths_203 (nI_add _ _) ?_
            refine g_istore C (lv' := [(4, .int (nI (at9 + (ltb (ntd ln en at9))))), (3, .int (nI (q + 1))), (0, .ref w), (1, .int (i9)), (2, .int (nI (en))), (6, .int (nI (ntd ln en at9))), (7, .int (nI (ltb (ntd ln en at9))))]) d_M_lengths_204 (by decide) rfl ?_
            refine g_goto C 34 d_M_lengths_206 (by decide) ?_
            refine g_lv (lv' := [(0, .ref w), (1, .int (i9)), (2, .int (nI (en))), (3, .int (nI (q + 1))), (4, .int (nI (at9 + (ltb (ntd ln en at9)))))]) [2, 3, 4, 1, 0] rfl ?_
            exact ih (en - (at9 + ltb (ntd ln en at9))) (by have := ltb_pos (ntd ln en at9); omega) (q + 1) (at9 + ltb (ntd ln en at9)) rfl (by have := ltb_pos (ntd ln en at9); omega) (by have := ltb_le (ntd_le (en := en) hl (show at9 < 48 by omega)); omega) (by rw [he, rsl_next (by omega) (by omega) h190])
          · refine g_iload C d_M_lengths_193 5 rfl ?_
            exact g_iret C hr hlk (by rw [← he0, he, rsl_hit (by omega) (by omega) (Classical.byContradiction h190)]) rfl d_M_lengths_195
        · refine g_sipush C (v := nI 138) d_M_lengths_114 rfl ?_
          refine g_goto C 122 d_M_lengths_117 (by decide) ?_
          refine g_istore C (lv' := [(7, .int (nI (138))), (6, .int (nI (ln (at9)))), (0, .ref w), (1, .int (i9)), (2, .int (nI (en))), (3, .int (nI (q))), (4, .int (nI (at9))), (5, .int (nI (rnf ln (ln at9) (en - at9) at9)))]) d_M_lengths_122 (by decide) rfl ?_
          refine g_sipush C (v := nI 200) d_M_lengths_124 rfl ?_
          refine g_iload C d_M_lengths_127 0 rfl ?_
          refine g_iadd C (v := nI (200 + 138)) d_M_lengths_129 (nI_add _ _) ?_
          refine g_istore C (lv' := [(6, .int (nI (200 + 138))), (7, .int (nI (138))), (0, .ref w), (1, .int (i9)), (2, .int (nI (en))), (3, .int (nI (q))), (4, .int (nI (at9))), (5, .int (nI (rnf ln (ln at9) (en - at9) at9)))]) d_M_lengths_130 (by decide) rfl ?_
          refine g_goto C 188 d_M_lengths_132 (by decide) ?_
          have e9 : ntd ln en at9 = 200 + 138 := by rw [ntd_z (by omega) (by omega) (by omega)]; have := rnf_le ln (ln at9) (en - at9) at9; omega
          have e8 : ltb (ntd ln en at9) = 138 := by rw [e9]; have := hl at9 (by omega); have := rnf_le ln (ln at9) (en - at9) at9; unfold ltb; (repeat' split) <;> omega
          refine g_lv (lv' := [(0, .ref w), (1, .int (i9)), (2, .int (nI (en))), (3, .int (nI (q))), (4, .int (nI (at9))), (6, .int (nI (ntd ln en at9))), (7, .int (nI (ltb (ntd ln en at9))))]) [2, 3, 4, 5, 6, 0, 1] (by rw [e8, e9]; rfl) ?_
          refine g_iload_n C d_M_lengths_188 3 rfl rfl ?_
          refine g_iload_n C d_M_lengths_189 1 rfl rfl ?_
          refine g_icmp_ne C 196 d_M_lengths_190 (by decide) (fun h190 => ?_) (fun h190 => ?_)
          · refine g_iinc C (lv' := [(3, .int (nI (q + 1))), (0, .ref w), (1, .int (i9)), (2, .int (nI (en))), (4, .int (nI (at9))), (6, .int (nI (ntd ln en at9))), (7, .int (nI (ltb (ntd ln en at9))))]) (k := 3) d_M_lengths_196 rfl (nI_1 _) (by decide) rfl ?_
            refine g_iload C d_M_lengths_199 4 rfl ?_
            refine g_iload C d_M_lengths_201 6 rfl ?_
            refine g_iadd C (v := nI (at9 + (ltb (ntd ln en at9)))) d_M_lengths_203 (nI_add _ _) ?_
            refine g_istore C (lv' := [(4, .int (nI (at9 + (ltb (ntd ln en at9))))), (3, .int (nI (q + 1))), (0, .ref w), (1, .int (i9)), (2, .int (nI (en))), (6, .int (nI (ntd ln en at9))), (7, .int (nI (ltb (ntd ln en at9))))]) d_M_lengths_204 (by decide) rfl ?_
            refine g_goto C 34 d_M_lengths_206 (by decide) ?_
            refine g_lv (lv' := [(0, .ref w), (1, .int (i9)), (2, .int (nI (en))), (3, .int (nI (q + 1))), (4, .int (nI (at9 + (ltb (ntd ln en at9)))))]) [2, 3, 4, 1, 0] rfl ?_
            exact ih (en - (at9 + ltb (ntd ln en at9))) (by have := ltb_pos (ntd ln en at9); omega) (q + 1) (at9 + ltb (ntd ln en at9)) rfl (by have := ltb_pos (ntd ln en at9); omega) (by have := ltb_le (ntd_le (en := en) hl (show at9 < 48 by omega)); omega) (by rw [he, rsl_next (by omega) (by omega) h190])
          · refine g_iload C d_M_lengths_193 5 rfl ?_
            exact g_iret C hr hlk (by rw [← he0, he, rsl_hit (by omega) (by omega) (Classical.byContradiction h190)]) rfl d_M_lengths_195
set_option maxHeartbeats 4000000 in
set_option maxRecDepth 100000 in
theorem m_M_lengths (l : Launch) (D : va_G) (cs : ClassId × ClassId × ClassId × ClassId) (w w1 w2 w3 w4 w5 w6 w7 w8 w9 wa wb wd : Nat) (cd ru wt rd : Nat) (va : Int64) (ln : Nat → Nat) (i9 : Int32) (hl : ∀ j, j < 48 → ln j ≤ 16) : MG l y_M_lengths k_M_lengths { frames := 0, cells := 0, slots := 0, locals := 0 } D cs [.ref w, .int (i9)] [(w, .inr (4, [.int (nI (cd)), .int (nI (ru)), .ref w1, .ref w2, .ref w3, .ref w4, .ref w5, .ref w6, .int (nI (wt)), .int (nI (rd)), .long (va), .ref w7, .ref w8, .ref w9, .ref wa, .ref wb, .ref wd])), (w2, .inl (cs.1, 48, .inl (fun j => nI (ln j))))] (QI D (rsl ln (eol ln 48) i9 48 0 0) [(w, .inr (4, [.int (nI (0)), .int (nI (ru)), .ref w1, .ref w2, .ref w3, .ref w4, .ref w5, .ref w6, .int (nI (wt)), .int (nI (rd)), .long (va), .ref w7, .ref w8, .ref w9, .ref wa, .ref wb, .ref wd])), (w2, .inl (cs.1, 48, .inl (fun j => nI (ln j))))]) := by
  refine MG.mk (own := RM) (by decide) rfl (Nat.le_of_ble_eq_true rfl) ?_
  intro p e s m below meth c A C hr hlk
  refine g_lv (lv' := [(0, .ref w), (1, .int (i9))]) [0, 1] rfl ?_
  refine g_aload_n C d_M_lengths_0 0 rfl rfl ?_
  refine g_iconst C (v := nI 0) d_M_lengths_1 rfl ?_
  refine g_put C (T := FM) (N := 17) (ws' := [(w, .inr (4, [.int (nI (0)), .int (nI (ru)), .ref w1, .ref w2, .ref w3, .ref w4, .ref w5, .ref w6, .int (nI (wt)), .int (nI (rd)), .long (va), .ref w7, .ref w8, .ref w9, .ref wa, .ref wb, .ref wd])), (w2, .inl (cs.1, 48, .inl (fun j => nI (ln j))))]) 0 0 inM tyM okM nmM rfl rfl (by decide) tw_436 rfl rfl rfl rfl rfl (Nat.le_of_ble_eq_true rfl) rfl d_M_lengths_2 ?_
  refine g_bipush C (v := nI 48) d_M_lengths_5 rfl ?_
  refine g_istore_n C (lv' := [(2, .int (nI (48))), (0, .ref w), (1, .int (i9))]) d_M_lengths_7 rfl (by decide) rfl ?_
  refine g_lv (lv' := [(0, .ref w), (1, .int (i9)), (2, .int (nI (48)))]) [1, 2, 0] rfl ?_
  refine l_M_el C w w1 w2 w3 w4 w5 w6 w7 w8 w9 wa wb wd cd ru wt rd va ln i9 hl ?_ _ 48 rfl (by omega) rfl
  refine g_iconst C (v := nI 0) d_M_lengths_29 rfl ?_
  refine g_istore_n C (lv' := [(3, .int (nI (0))), (0, .ref w), (1, .int (i9)), (2, .int (nI (eol ln 48)))]) d_M_lengths_30 rfl (by decide) rfl ?_
  refine g_iconst C (v := nI 0) d_M_lengths_31 rfl ?_
  refine g_istore C (lv' := [(4, .int (nI (0))), (3, .int (nI (0))), (0, .ref w), (1, .int (i9)), (2, .int (nI (eol ln 48)))]) d_M_lengths_32 (by decide) rfl ?_
  refine g_lv (lv' := [(0, .ref w), (1, .int (i9)), (2, .int (nI (eol ln 48))), (3, .int (nI (0))), (4, .int (nI (0)))]) [2, 3, 4, 1, 0] rfl ?_
  exact l_M_lgs C w w1 w2 w3 w4 w5 w6 w7 w8 w9 wa wb wd cd ru wt rd va ln i9 (eol ln 48) hl (eol_le ln 48) rfl hr hlk _ 0 0 rfl (by omega) (by omega) rfl
