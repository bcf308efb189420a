theorem n_m (d : Nat) (h : d < 32) : (nI (2 ^ d - 1)).toBitVec.toNat = 2 ^ d - 1 := by
  show (BitVec.ofNat 32 (2 ^ d - 1)).toNat = _
  rw [BitVec.toNat_ofNat]
  have h1 : 2 ^ d < 2 ^ 32 := Nat.pow_lt_pow_right (by omega) h
  exact Nat.mod_eq_of_lt (by omega)
/-- the bits behind the first n, moved to the front, as far as k -/
def drp (bt : Nat → Nat) (n k : Nat) : Nat → Nat := fun j => if j + n < k then bt (j + n) else bt j
theorem drp_up (bt : Nat → Nat) {n k : Nat} (h : n ≤ k) : updN (drp bt n k) (k - n) (drp bt n k k) = drp bt n (k + 1) := by
  funext j
  have e : drp bt n k k = bt k := by unfold drp; rw [if_neg (by omega)]
  rw [e]
  unfold updN drp
  by_cases h1 : j = k - n
  · rw [if_pos h1, if_pos (by omega), show j + n = k by omega]
  · rw [if_neg h1]
    by_cases h2 : j + n < k
    · rw [if_pos h2, if_pos (by omega)]
    · rw [if_neg h2, if_neg (by omega)]
theorem drp_0 (bt : Nat → Nat) (n : Nat) : drp bt n n = bt := by
  funext j; unfold drp
  by_cases h : j + n < n
  · omega
  · rw [if_neg h]
/-- the first k bits of a code are those that wait: 1 or 0 -/
def bgL (ln co bt : Nat → Nat) (y : Nat) : Nat → Nat
  | 0 => 1
  | k + 1 => if bgL ln co bt y k = 1 ∧ co y / 2 ^ (ln y - 1 - k) % 2 = bt k then 1 else 0
def bgn (ln co bt : Nat → Nat) (y n : Nat) : Nat := if ln y < n ∨ ln y = 0 then 0 else bgL ln co bt y n
theorem bgL_01 (ln co bt : Nat → Nat) (y : Nat) : ∀ k, bgL ln co bt y k < 2
  | 0 => by show 1 < 2; decide
  | k + 1 => by unfold bgL; split <;> decide
theorem bgn_01 (ln co bt : Nat → Nat) (y n : Nat) : bgn ln co bt y n < 2 := by
  unfold bgn; split
  · decide
  · exact bgL_01 ln co bt y n
/-- k of the bits that wait, behind the first bh, as a number -/
def nmm (bt : Nat → Nat) (bh : Nat) : Nat → Nat
  | 0 => 0
  | k + 1 => 2 * nmm bt bh k + bt (bh + k)

set_option maxHeartbeats 4000000 in
set_option maxRecDepth 100000 in
theorem l_M_ins {p : Program} {l : Launch} {e : Env} {s : State} {m : MethodId} {args : Array Value} {below : List Frame} {meth : Method} {c : Code} {Q : State → Prop} {A : Nat → Prop} {D : va_G} {cs : ClassId × ClassId × ClassId × ClassId} (C : CX p s m args c c_M_sort 4 RM D cs A) (w w1 w2 w3 w4 w5 w6 w7 w8 w9 wa wb wd : Nat) (cd ru wt rd : Nat) (va : Int64) (ct : Nat → Nat) (od : Nat → Nat) (y c9 : Nat) (hy : y < 48) (hct : ∀ j, j < 48 → ct j ≤ 1000000000) (hcd : c9 < 48)
    (K : ∀ (t : Nat) (o2 : Nat → Nat), t ≤ c9 → updN o2 t y = ins ct y c9 od → GO p l e { frames := 0, cells := 0, slots := 0, locals := 0 } s m args below meth c 0 0 Q A D 4 69 [(0, .ref w), (1, .int (nI (c9))), (2, .int (nI (y))), (3, .int (nI (t)))] [] [(w, .inr (4, [.int (nI (0)), .int (nI (ru)), .ref w1, .ref w2, .ref w3, .ref w4, .ref w5, .ref w6, .int (nI (wt)), .int (nI (rd)), .long (va), .ref w7, .ref w8, .ref w9, .ref wa, .ref wb, .ref wd])), (w1, .inl (cs.2.1, 48, .inr (.inl (fun j => lN (ct j))))), (w7, .inl (cs.1, 48, .inl (fun j => nI (o2 j))))])
    : ∀ (n : Nat) (t : Nat) (o2 : Nat → Nat), t = n → (t ≤ c9) → (∀ j, j < t → o2 j < 48) → (ins ct y t o2 = ins ct y c9 od) → GO p l e { frames := 0, cells := 0, slots := 0, locals := 0 } s m args below meth c 0 0 Q A D 4 22 [(0, .ref w), (1, .int (nI (c9))), (2, .int (nI (y))), (3, .int (nI (t)))] [] [(w, .inr (4, [.int (nI (0)), .int (nI (ru)), .ref w1, .ref w2, .ref w3, .ref w4, .ref w5, .ref w6, .int (nI (wt)), .int (nI (rd)), .long (va), .ref w7, .ref w8, .ref w9, .ref wa, .ref wb, .ref wd])), (w1, .inl (cs.2.1, 48, .inr (.inl (fun j => lN (ct j))))), (w7, .inl (cs.1, 48, .inl (fun j => nI (o2 j))))] := by
  intro n
  induction n using Nat.strongRecOn with
  | _ n ih =>
  intro t  o2  hn ht ho he
  refine g_iload_n C d_M_sort_22 3 rfl rfl ?_
  refine n_if_le C 69 d_M_sort_23 (by decide) (by omega) (fun h23 => ?_) (fun h23 => ?_)
  · refine g_lv (lv' := [(0, .ref w), (1, .int (nI (c9))), (2, .int (nI (y))), (3, .int (nI (t)))]) [0, 1, 2, 3] rfl ?_
    exact K t o2 ht (by
      rw [← he]
      first
        | (rw [show t = 0 by omega]; rfl)
        | (obtain ⟨t9, rfl⟩ : ∃ t9, t = t9 + 1 := ⟨t - 1, by omega⟩
           simp only [Nat.add_sub_cancel] at h45
           rw [ins, if_neg (by omega)]))
  · refine g_aload_n C d_M_sort_26 0 rfl rfl ?_
    refine g_get C (T := FM) (N := 17) 0 2 inM rfl rfl (by decide) tw_438 rfl rfl d_M_sort_27 ?_
    refine g_aload_n C d_M_sort_30 0 rfl rfl ?_
    refine g_get C (T := FM) (N := 17) 0 11 inM rfl rfl (by decide) tw_447 rfl rfl d_M_sort_31 ?_
    refine g_iload_n C d_M_sort_34 3 rfl rfl ?_
    refine g_iconst C (v := nI 1) d_M_sort_35 rfl ?_
    refine g_isub C (v := nI ((t) - (1))) d_M_sort_36 (pk_sub (by omega)) ?_
    refine g_iald C 2 rfl (by omega) (by decide) d_M_sort_37 ?_
    refine g_lald C 1 rfl (ho _ (by omega)) (by decide) d_M_sort_38 ?_
    refine g_aload_n C d_M_sort_39 0 rfl rfl ?_
    refine g_get C (T := FM) (N := 17) 0 2 inM rfl rfl (by decide) tw_438 rfl rfl d_M_sort_40 ?_
    refine g_iload_n C d_M_sort_43 2 rfl rfl ?_
    refine g_lald C 1 rfl (by omega) (by decide) d_M_sort_44 ?_
    refine n_lcmp_le C 69 d_M_sort_45 d_M_sort_46 (by decide) (by have := hct _ (ho (t - 1) (by omega)); omega) (by have := hct y hy; omega) (fun h45 => ?_) (fun h45 => ?_)
    · refine g_lv (lv' := [(0, .ref w), (1, .int (nI (c9))), (2, .int (nI (y))), (3, .int (nI (t)))]) [0, 1, 2, 3] rfl ?_
      exact K t o2 ht (by
      rw [← he]
      first
        | (rw [show t = 0 by omega]; rfl)
        | (obtain ⟨t9, rfl⟩ : ∃ t9, t = t9 + 1 := ⟨t - 1, by omega⟩
           simp only [Nat.add_sub_cancel] at h45
           rw [ins, if_neg (by omega)]))
    · refine g_aload_n C d_M_sort_49 0 rfl rfl ?_
      refine g_get C (T := FM) (N := 17) 0 11 inM rfl rfl (by decide) tw_447 rfl rfl d_M_sort_50 ?_
      refine g_iload_n C d_M_sort_53 3 rfl rfl ?_
      refine g_aload_n C d_M_sort_54 0 rfl rfl ?_
      refine g_get C (T := FM) (N := 17) 0 11 inM rfl rfl (by decide) tw_447 rfl rfl d_M_sort_55 ?_
      refine g_iload_n C d_M_sort_58 3 rfl rfl ?_
      refine g_iconst C (v := nI 1) d_M_sort_59 rfl ?_
      refine g_isub C (v := nI ((t) - (1))) d_M_sort_60 (pk_sub (by omega)) ?_
      refine g_iald C 2 rfl (by omega) (by decide) d_M_sort_61 ?_
      refine n_iast C (ws' := [(w, .inr (4, [.int (nI (0)), .int (nI (ru)), .ref w1, .ref w2, .ref w3, .ref w4, .ref w5, .ref w6, .int (nI (wt)), .int (nI (rd)), .long (va), .ref w7, .ref w8, .ref w9, .ref wa, .ref wb, .ref wd])), (w1, .inl (cs.2.1, 48, .inr (.inl (fun j => lN (ct j))))), (w7, .inl (cs.1, 48, .inl (fun j => nI ((updN (o2) (t) (o2 ((t) - (1)))) j))))]) 2 rfl (by omega) (by decide) rfl d_M_sort_62 ?_
      refine g_iinc C (lv' := [(3, .int (nI (t - 1))), (0, .ref w), (1, .int (nI (c9))), (2, .int (nI (y)))]) (k := 3) d_M_sort_63 rfl (nI_dec (by omega)) (by decide) rfl ?_
      refine g_goto C 22 d_M_sort_66 (by decide) ?_
      refine g_lv (lv' := [(0, .ref w), (1, .int (nI (c9))), (2, .int (nI (y))), (3, .int (nI (t - 1)))]) [1, 2, 3, 0] rfl ?_
      exact ih (t - 1) (by omega) (t - 1) _ rfl (by omega) (fun j hj => by rw [updN_n (by omega)]; exact ho j (by omega)) (by
      rw [← he]
      obtain ⟨t9, rfl⟩ : ∃ t9, t = t9 + 1 := ⟨t - 1, by omega⟩
      simp only [Nat.add_sub_cancel] at h45 ⊢
      rw [ins, if_pos h45])
set_option maxHeartbeats 4000000 in
set_option maxRecDepth 100000 in
theorem l_M_srt {p : Program} {l : Launch} {e : Env} {s : State} {m : MethodId} {args : Array Value} {below : List Frame} {meth : Method} {c : Code} {A : Nat → Prop} {D : va_G} {cs : ClassId × ClassId × ClassId × ClassId} (C : CX p s m args c c_M_sort 4 RM D cs A) (w w1 w2 w3 w4 w5 w6 w7 w8 w9 wa wb wd : Nat) (cd ru wt rd : Nat) (va : Int64) (ct : Nat → Nat) (od : Nat → Nat) (hct : ∀ j, j < 48 → ct j ≤ 1000000000) (hr : meth.sig.returnType = some .int) (hlk : meth.locks = false) : ∀ (n : Nat) (t : Nat) (o2 : Nat → Nat) (c2 : Nat), t = n → t ≤ 48 → c2 + t ≤ 48 → (∀ j, j < c2 → o2 j < 48) → srt ct t o2 c2 = srt ct 48 od 0 → GO p l e { frames := 0, cells := 0, slots := 0, locals := 0 } s m args below meth c 0 0 (MQ below (QI D (nI (srt ct 48 od 0).2) [(w, .inr (4, [.int (nI (0)), .int (nI (ru)), .ref w1, .ref w2, .ref w3, .ref w4, .ref w5, .ref w6, .int (nI (wt)), .int (nI (rd)), .long (va), .ref w7, .ref w8, .ref w9, .ref wa, .ref wb, .ref wd])), (w1, .inl (cs.2.1, 48, .inr (.inl (fun j => lN (ct j))))), (w7, .inl (cs.1, 48, .inl (fun j => nI ((srt ct 48 od 0).1 j))))] A) args s 0 0 A) A D 4 5 [(0, .ref w), (1, .int (nI (c2))), (2, .int (nI t - 1))] [] [(w, .inr (4, [.int (nI (0)), .int (nI (ru)), .ref w1, .ref w2, .ref w3, .ref w4, .ref w5, .ref w6, .int (nI (wt)), .int (nI (rd)), .long (va), .ref w7, .ref w8, .ref w9, .ref wa, .ref wb, .ref wd])), (w1, .inl (cs.2.1, 48, .inr (.inl (fun j => lN (ct j))))), (w7, .inl (cs.1, 48, .inl (fun j => nI (o2 j))))] := by
  intro n
  induction n with
  | zero =>
    intro t o2 c2 hn ht hc ho he
    subst hn
    rw [nI_0m1]
    refine g_iload_n C d_M_sort_5 2 rfl rfl ?_
    refine g_if_lt C 85 d_M_sort_6 (by decide) (fun _ => ?_) (fun h => absurd (by decide) h)
    refine g_iload_n C d_M_sort_85 1 rfl rfl ?_
    exact g_iret C hr hlk (by rw [← he]; rfl) (by rw [← he]; rfl) d_M_sort_86
  | succ t ih =>
    intro t9 o2 c2 hn ht hc ho he
    subst hn
    rw [nI_pred t]
    refine g_iload_n C d_M_sort_5 2 rfl rfl ?_
    refine n_if_lt C 85 d_M_sort_6 (by decide) (by omega) ?_
    refine g_aload_n C d_M_sort_9 0 rfl rfl ?_
    refine g_get C (T := FM) (N := 17) 0 2 inM rfl rfl (by decide) tw_438 rfl rfl d_M_sort_10 ?_
    refine g_iload_n C d_M_sort_13 2 rfl rfl ?_
    refine g_lald C 1 rfl (by omega) (by decide) d_M_sort_14 ?_
    refine g_lconst C (v := lN 0) d_M_sort_15 rfl ?_
    refine n_lcmp_le C 79 d_M_sort_16 d_M_sort_17 (by decide) (by have := hct t (by omega); omega) (by omega) (fun h16 => ?_) (fun h16 => ?_)
    · refine g_iinc C (lv' := [(2, .int (nI (t) - 1)), (0, .ref w), (1, .int (nI (c2)))]) (k := 2) d_M_sort_79 rfl (dec_raw _) (by decide) rfl ?_
      refine g_goto C 5 d_M_sort_82 (by decide) ?_
      refine g_lv (lv' := [(0, .ref w), (1, .int (nI (c2))), (2, .int (nI (t) - 1))]) [1, 2, 0] rfl ?_
      exact ih t _ _ rfl (by omega) (by omega) ho (by rw [← he, srt, if_neg (by omega)])
    · refine g_iload_n C d_M_sort_20 1 rfl rfl ?_
      refine g_istore_n C (lv' := [(3, .int (nI (c2))), (0, .ref w), (1, .int (nI (c2))), (2, .int (nI (t)))]) d_M_sort_21 rfl (by decide) rfl ?_
      refine g_lv (lv' := [(0, .ref w), (1, .int (nI (c2))), (2, .int (nI (t))), (3, .int (nI (c2)))]) [1, 2, 3, 0] rfl ?_
      refine l_M_ins C w w1 w2 w3 w4 w5 w6 w7 w8 w9 wa wb wd 0 ru wt rd va  ct o2 t c2 (by omega) hct (by omega) ?_ _ c2 o2 rfl (Nat.le_refl _) ho rfl
      intro t8 o8 ht8 he8
      refine g_aload_n C d_M_sort_69 0 rfl rfl ?_
      refine g_get C (T := FM) (N := 17) 0 11 inM rfl rfl (by decide) tw_447 rfl rfl d_M_sort_70 ?_
      refine g_iload_n C d_M_sort_73 3 rfl rfl ?_
      refine g_iload_n C d_M_sort_74 2 rfl rfl ?_
      refine n_iast C (ws' := [(w, .inr (4, [.int (nI (0)), .int (nI (ru)), .ref w1, .ref w2, .ref w3, .ref w4, .ref w5, .ref w6, .int (nI (wt)), .int (nI (rd)), .long (va), .ref w7, .ref w8, .ref w9, .ref wa, .ref wb, .ref wd])), (w1, .inl (cs.2.1, 48, .inr (.inl (fun j => lN (ct j))))), (w7, .inl (cs.1, 48, .inl (fun j => nI ((updN (o8) (t8) (t)) j))))]) 2 rfl (by omega) (by decide) rfl d_M_sort_75 ?_
      refine g_ws (ws' := [(w, .inr (4, [.int (nI (0)), .int (nI (ru)), .ref w1, .ref w2, .ref w3, .ref w4, .ref w5, .ref w6, .int (nI (wt)), .int (nI (rd)), .long (va), .ref w7, .ref w8, .ref w9, .ref wa, .ref wb, .ref wd])), (w1, .inl (cs.2.1, 48, .inr (.inl (fun j => lN (ct j))))), (w7, .inl (cs.1, 48, .inl (fun j => nI ((ins ct t c2 o2) j))))]) (by rw [he8]) ?_
      refine g_iinc C (lv' := [(1, .int (nI (c2 + 1))), (0, .ref w), (2, .int (nI (t))), (3, .int (nI (t8)))]) (k := 1) d_M_sort_76 rfl (nI_1 _) (by decide) rfl ?_
      refine g_iinc C (lv' := [(2, .int (nI (t) - 1)), (1, .int (nI (c2 + 1))), (0, .ref w), (3, .int (nI (t8)))]) (k := 2) d_M_sort_79 rfl (dec_raw _) (by decide) rfl ?_
      refine g_goto C 5 d_M_sort_82 (by decide) ?_
      refine g_lv (lv' := [(0, .ref w), (1, .int (nI (c2 + 1))), (2, .int (nI (t) - 1))]) [2, 1, 0] rfl ?_
      exact ih t _ _ rfl (by omega) (by omega) (fun j hj => ins_lt (by omega) c2 o2 ho c2 (Nat.le_refl _) (fun i h1 h2 => absurd h1 (by omega)) j (by omega)) (by rw [← he, srt, if_pos (by omega)])
set_option maxHeartbeats 4000000 in
set_option maxRecDepth 100000 in
theorem m_M_sort (l : Launch) (D : va_G) (cs : ClassId × ClassId × ClassId × ClassId) (w w1 w2 w3 w4 w5 w6 w7 w8 w9 wa wb wd : Nat) (cd ru wt rd : Nat) (va : Int64) (ct : Nat → Nat) (od : Nat → Nat) (hct : ∀ j, j < 48 → ct j ≤ 1000000000) : MG l y_M_sort k_M_sort { frames := 0, cells := 0, slots := 0, locals := 0 } D cs [.ref w] [(w, .inr (4, [.int (nI (0)), .int (nI (ru)), .ref w1, .ref w2, .ref w3, .ref w4, .ref w5, .ref w6, .int (nI (wt)), .int (nI (rd)), .long (va), .ref w7, .ref w8, .ref w9, .ref wa, .ref wb, .ref wd])), (w1, .inl (cs.2.1, 48, .inr (.inl (fun j => lN (ct j))))), (w7, .inl (cs.1, 48, .inl (fun j => nI (od j))))] (QI D (nI ((srt ct 48 od 0).2)) [(w, .inr (4, [.int (nI (0)), .int (nI (ru)), .ref w1, .ref w2, .ref w3, .ref w4, .ref w5, .ref w6, .int (nI (wt)), .int (nI (rd)), .long (va), .ref w7, .ref w8, .ref w9, .ref wa, .ref wb, .ref wd])), (w1, .inl (cs.2.1, 48, .inr (.inl (fun j => lN (ct j))))), (w7, .inl (cs.1, 48, .inl (fun j => nI ((srt ct 48 od 0).1 j))))]) := by
  refine MG.mk (own := RM) (by decide) rfl (Nat.le_of_ble_eq_true rfl) ?_
  intro p e s m below meth c A C hr hlk
  refine g_lv (lv' := [(0, .ref w)]) [0] rfl ?_
  refine g_iconst C (v := nI 0) d_M_sort_0 rfl ?_
  refine g_istore_n C (lv' := [(1, .int (nI (0))), (0, .ref w)]) d_M_sort_1 rfl (by decide) rfl ?_
  refine g_bipush C (v := nI 47) d_M_sort_2 rfl ?_
  refine g_istore_n C (lv' := [(2, .int (nI (47))), (1, .int (nI (0))), (0, .ref w)]) d_M_sort_4 rfl (by decide) rfl ?_
  refine g_lv (lv' := [(0, .ref w), (1, .int (nI (0))), (2, .int (nI (47)))]) [2, 1, 0] rfl ?_
  exact l_M_srt C w w1 w2 w3 w4 w5 w6 w7 w8 w9 wa wb wd cd ru wt rd va ct od hct hr hlk 48 48 od 0 rfl (by omega) (by omega) (fun j hj => absurd hj (by omega)) rfl
set_option maxHeartbeats 4000000 in
set_option maxRecDepth 100000 in
theorem l_M_drop {p : Program} {l : Launch} {e : Env} {s : State} {m : MethodId} {args : Array Value} {below : List Frame} {meth : Method} {c : Code} {Q : State → Prop} {A : Nat → Prop} {D : va_G} {cs : ClassId × ClassId × ClassId × ClassId} (C : CX p s m args c c_M_drop 3 RM D cs A) (w w1 w2 w3 w4 w5 w6 w7 w8 w9 wa wb wd : Nat) (cd ru wt rd : Nat) (va : Int64) (bt : Nat → Nat) (nn : Nat) (hn9 : nn ≤ wt) (hz : wt ≤ 400)
    (K : GO p l e { frames := 0, cells := 0, slots := 0, locals := 0 } s m args below meth c 0 0 Q A D 3 30 [(0, .ref w), (1, .int (nI (nn)))] [] [(w, .inr (4, [.int (nI (cd)), .int (nI (ru)), .ref w1, .ref w2, .ref w3, .ref w4, .ref w5, .ref w6, .int (nI (wt)), .int (nI (rd)), .long (va), .ref w7, .ref w8, .ref w9, .ref wa, .ref wb, .ref wd])), (w6, .inl (cs.1, 400, .inl (fun j => nI ((drp bt nn wt) j))))])
    : ∀ (n : Nat) (i : Nat), wt - i = n → (i ≤ wt) → (nn ≤ i) → GO p l e { frames := 0, cells := 0, slots := 0, locals := 0 } s m args below meth c 0 0 Q A D 3 2 [(0, .ref w), (1, .int (nI (nn))), (2, .int (nI (i)))] [] [(w, .inr (4, [.int (nI (cd)), .int (nI (ru)), .ref w1, .ref w2, .ref w3, .ref w4, .ref w5, .ref w6, .int (nI (wt)), .int (nI (rd)), .long (va), .ref w7, .ref w8, .ref w9, .ref wa, .ref wb, .ref wd])), (w6, .inl (cs.1, 400, .inl (fun j => nI ((drp bt nn i) j))))] := by
  intro n
  induction n using Nat.strongRecOn with
  | _ n ih =>
  intro i  hn hi hi2
  refine g_iload_n C d_M_drop_2 2 rfl rfl ?_
  refine g_aload_n C d_M_drop_3 0 rfl rfl ?_
  refine g_get C (T := FM) (N := 17) 0 8 inM rfl rfl (by decide) tw_444 rfl rfl d_M_drop_4 ?_
  refine n_icmp_ge C 30 d_M_drop_7 (by decide) (by omega) (by omega) (fun h7 => ?_) (fun h7 => ?_)
  · refine g_lv (lv' := [(0, .ref w), (1, .int (nI (nn)))]) [0, 1] rfl ?_
    have e9 : i = wt := by omega
    subst e9
    exact K
  · refine g_aload_n C d_M_drop_10 0 rfl rfl ?_
    refine g_get C (T := FM) (N := 17) 0 7 inM rfl rfl (by decide) tw_443 rfl rfl d_M_drop_11 ?_
    refine g_iload_n C d_M_drop_14 2 rfl rfl ?_
    refine g_iload_n C d_M_drop_15 1 rfl rfl ?_
    refine g_isub C (v := nI ((i) - (nn))) d_M_drop_16 (pk_sub (by omega)) ?_
    refine g_aload_n C d_M_drop_17 0 rfl rfl ?_
    refine g_get C (T := FM) (N := 17) 0 7 inM rfl rfl (by decide) tw_443 rfl rfl d_M_drop_18 ?_
    refine g_iload_n C d_M_drop_21 2 rfl rfl ?_
    refine g_iald C 1 rfl (by omega) (by decide) d_M_drop_22 ?_
    refine n_iast C (ws' := [(w, .inr (4, [.int (nI (cd)), .int (nI (ru)), .ref w1, .ref w2, .ref w3, .ref w4, .ref w5, .ref w6, .int (nI (wt)), .int (nI (rd)), .long (va), .ref w7, .ref w8, .ref w9, .ref wa, .ref wb, .ref wd])), (w6, .inl (cs.1, 400, .inl (fun j => nI ((updN ((drp bt nn i)) ((i) - (nn)) ((drp bt nn i) (i))) j))))]) 1 rfl (by omega) (by decide) rfl d_M_drop_23 ?_
    refine g_iinc C (lv' := [(2, .int (nI (i + 1))), (0, .ref w), (1, .int (nI (nn)))]) (k := 2) d_M_drop_24 rfl (nI_1 _) (by decide) rfl ?_
    refine g_goto C 2 d_M_drop_27 (by decide) ?_
    refine g_ws (ws' := [(w, .inr (4, [.int (nI (cd)), .int (nI (ru)), .ref w1, .ref w2, .ref w3, .ref w4, .ref w5, .ref w6, .int (nI (wt)), .int (nI (rd)), .long (va), .ref w7, .ref w8, .ref w9, .ref wa, .ref wb, .ref wd])), (w6, .inl (cs.1, 400, .inl (fun j => nI ((drp bt nn (i + 1)) j))))]) (by rw [drp_up bt hi2]) ?_
    refine g_lv (lv' := [(0, .ref w), (1, .int (nI (nn))), (2, .int (nI (i + 1)))]) [1, 2, 0] rfl ?_
    exact ih (wt - (i + 1)) (by omega) (i + 1) rfl (by omega) (by omega)
set_option maxHeartbeats 4000000 in
set_option maxRecDepth 100000 in
theorem m_M_drop (l : Launch) (D : va_G) (cs : ClassId × ClassId × ClassId × ClassId) (w w1 w2 w3 w4 w5 w6 w7 w8 w9 wa wb wd : Nat) (cd ru wt rd : Nat) (va : Int64) (bt : Nat → Nat) (nn : Nat) (hn9 : nn ≤ wt) (hz : wt ≤ 400) : MG l y_M_drop k_M_drop { frames := 0, cells := 0, slots := 0, locals := 0 } D cs [.ref w, .int (nI (nn))] [(w, .inr (4, [.int (nI (cd)), .int (nI (ru)), .ref w1, .ref w2, .ref w3, .ref w4, .ref w5, .ref w6, .int (nI (wt)), .int (nI (rd)), .long (va), .ref w7, .ref w8, .ref w9, .ref wa, .ref wb, .ref wd])), (w6, .inl (cs.1, 400, .inl (fun j => nI (bt j))))] (QV D [(w, .inr (4, [.int (nI (cd)), .int (nI (ru)), .ref w1, .ref w2, .ref w3, .ref w4, .ref w5, .ref w6, .int (nI ((wt) - (nn))), .int (nI (rd)), .long (va), .ref w7, .ref w8, .ref w9, .ref wa, .ref wb, .ref wd])), (w6, .inl (cs.1, 400, .inl (fun j => nI ((drp bt nn wt) j))))]) := by
  refine MG.mk (own := RM) (by decide) rfl (Nat.le_of_ble_eq_true rfl) ?_
  intro p e s m below meth c A C hr hlk
  refine g_lv (lv' := [(0, .ref w), (1, .int (nI (nn)))]) [0, 1] rfl ?_
  refine g_iload_n C d_M_drop_0 1 rfl rfl ?_
  refine g_istore_n C (lv' := [(2, .int (nI (nn))), (0, .ref w), (1, .int (nI (nn)))]) d_M_drop_1 rfl (by decide) rfl ?_
  refine g_ws (ws' := [(w, .inr (4, [.int (nI (cd)), .int (nI (ru)), .ref w1, .ref w2, .ref w3, .ref w4, .ref w5, .ref w6, .int (nI (wt)), .int (nI (rd)), .long (va), .ref w7, .ref w8, .ref w9, .ref wa, .ref wb, .ref wd])), (w6, .inl (cs.1, 400, .inl (fun j => nI ((drp bt nn nn) j))))]) (by rw [drp_0]) ?_
  refine g_lv (lv' := [(0, .ref w), (1, .int (nI (nn))), (2, .int (nI (nn)))]) [1, 2, 0] rfl ?_
  refine l_M_drop C w w1 w2 w3 w4 w5 w6 w7 w8 w9 wa wb wd cd ru wt rd va bt nn hn9 hz ?_ _ nn rfl hn9 (Nat.le_refl _)
  refine g_aload_n C d_M_drop_30 0 rfl rfl ?_
  refine g_dup C d_M_drop_31 rfl ?_
  refine g_get C (T := FM) (N := 17) 0 8 inM rfl rfl (by decide) tw_444 rfl rfl d_M_drop_32 ?_
  refine g_iload_n C d_M_drop_35 1 rfl rfl ?_
  refine g_isub C (v := nI ((wt) - (nn))) d_M_drop_36 (pk_sub (by omega)) ?_
  refine g_put C (T := FM) (N := 17) (ws' := [(w, .inr (4, [.int (nI (cd)), .int (nI (ru)), .ref w1, .ref w2, .ref w3, .ref w4, .ref w5, .ref w6, .int (nI ((wt) - (nn))), .int (nI (rd)), .long (va), .ref w7, .ref w8, .ref w9, .ref wa, .ref wb, .ref wd])), (w6, .inl (cs.1, 400, .inl (fun j => nI ((drp bt nn wt) j))))]) 0 8 inM tyM okM nmM rfl rfl (by decide) tw_444 rfl rfl rfl rfl rfl (Nat.le_of_ble_eq_true rfl) rfl d_M_drop_37 ?_
  exact g_vret C hr hlk rfl d_M_drop_40
set_option maxHeartbeats 4000000 in
set_option maxRecDepth 100000 in
theorem l_M_bg {p : Program} {l : Launch} {e : Env} {s : State} {m : MethodId} {args : Array Value} {below : List Frame} {meth : Method} {c : Code} {A : Nat → Prop} {D : va_G} {cs : ClassId × ClassId × ClassId × ClassId} (C : CX p s m args c c_M_begins 5 RM D cs A) (w w1 w2 w3 w4 w5 w6 w7 w8 w9 wa wb wd : Nat) (cd ru wt rd : Nat) (va : Int64) (ln : Nat → Nat) (bt : Nat → Nat) (co : Nat → Nat) (y nn : Nat) (hy : y < 48) (hl : ∀ j, j < 48 → ln j ≤ 16) (hc : ∀ j, j < 48 → co j < 2 ^ 31) (hb : ∀ j, j < 400 → bt j < 2) (h1 : nn ≤ ln y) (h2 : 0 < ln y) (hr : meth.sig.returnType = some .boolean) (hlk : meth.locks = false)
    : ∀ (n : Nat) (i : Nat), nn - i = n → (i ≤ nn) → GO p l e { frames := 0, cells := 0, slots := 0, locals := 0 } s m args below meth c 0 0 (MQ below (QI D (nI (bgn ln co bt y nn)) [(w, .inr (4, [.int (nI (cd)), .int (nI (ru)), .ref w1, .ref w2, .ref w3, .ref w4, .ref w5, .ref w6, .int (nI (wt)), .int (nI (rd)), .long (va), .ref w7, .ref w8, .ref w9, .ref wa, .ref wb, .ref wd])), (w2, .inl (cs.1, 48, .inl (fun j => nI (ln j)))), (w6, .inl (cs.1, 400, .inl (fun j => nI (bt j)))), (wd, .inl (cs.1, 48, .inl (fun j => nI (co j))))] A) args s 0 0 A) A D 5 26 [(0, .ref w), (1, .int (nI (y))), (2, .int (nI (nn))), (3, .int (nI (bgL ln co bt y i))), (4, .int (nI (i)))] [] [(w, .inr (4, [.int (nI (cd)), .int (nI (ru)), .ref w1, .ref w2, .ref w3, .ref w4, .ref w5, .ref w6, .int (nI (wt)), .int (nI (rd)), .long (va), .ref w7, .ref w8, .ref w9, .ref wa, .ref wb, .ref wd])), (w2, .inl (cs.1, 48, .inl (fun j => nI (ln j)))), (w6, .inl (cs.1, 400, .inl (fun j => nI (bt j)))), (wd, .inl (cs.1, 48, .inl (fun j => nI (co j))))] := by
  intro n
  induction n using Nat.strongRecOn with
  | _ n ih =>
  intro i  hn hi
  refine g_iload C d_M_begins_26 4 rfl ?_
  refine g_iload_n C d_M_begins_28 2 rfl rfl ?_
  refine n_icmp_ge C 78 d_M_begins_29 (by decide) (by have := hl y hy; omega) (by have := hl y hy; omega) (fun h29 => ?_) (fun h29 => ?_)
  · refine g_iload_n C d_M_begins_78 3 rfl rfl ?_
    exact g_zret C hr hlk (by rcases (show bgL ln co bt y i = 0 ∨ bgL ln co bt y i = 1 by have := bgL_01 ln co bt y i; omega) with e9 | e9 <;> rw [e9] <;> rfl) (by rw [show i = nn by omega]; unfold bgn; rw [if_neg (by omega)]) rfl d_M_begins_79
  · refine g_iload_n C d_M_begins_32 3 rfl rfl ?_
    refine n_if_eq C 70 d_M_begins_33 (by decide) (by have := bgL_01 ln co bt y i; omega) (fun h33 => ?_) (fun h33 => ?_)
    · refine g_iconst C (v := nI 0) d_M_begins_70 rfl ?_
      refine g_istore_n C (lv' := [(3, .int (nI (0))), (0, .ref w), (1, .int (nI (y))), (2, .int (nI (nn))), (4, .int (nI (i)))]) d_M_begins_71 rfl (by decide) rfl ?_
      refine g_iinc C (lv' := [(4, .int (nI (i + 1))), (3, .int (nI (0))), (0, .ref w), (1, .int (nI (y))), (2, .int (nI (nn)))]) (k := 4) d_M_begins_72 rfl (nI_1 _) (by decide) rfl ?_
      refine g_goto C 26 d_M_begins_75 (by decide) ?_
      refine g_lv (lv' := [(0, .ref w), (1, .int (nI (y))), (2, .int (nI (nn))), (3, .int (nI (0))), (4, .int (nI (i + 1)))]) [2, 3, 4, 1, 0] rfl ?_
      have e9 : bgL ln co bt y (i + 1) = 0 := by rw [bgL]; first | rw [if_pos ⟨by have := bgL_01 ln co bt y i; omega, by assumption⟩] | rw [if_neg (fun q => absurd q.2 (by assumption))] | rw [if_neg (fun q => absurd q.1 (by omega))]
      have hg := ih (nn - (i + 1)) (by omega) (i + 1) rfl (by omega)
      rw [e9] at hg
      exact hg
    · refine g_aload_n C d_M_begins_36 0 rfl rfl ?_
      refine g_get C (T := FM) (N := 17) 0 16 inM rfl rfl (by decide) tw_452 rfl rfl d_M_begins_37 ?_
      refine g_iload_n C d_M_begins_40 1 rfl rfl ?_
      refine g_iald C 3 rfl hy (by decide) d_M_begins_41 ?_
      refine g_aload_n C d_M_begins_42 0 rfl rfl ?_
      refine g_get C (T := FM) (N := 17) 0 3 inM rfl rfl (by decide) tw_439 rfl rfl d_M_begins_43 ?_
      refine g_iload_n C d_M_begins_46 1 rfl rfl ?_
      refine g_iald C 1 rfl (by omega) (by decide) d_M_begins_47 ?_
      refine g_iconst C (v := nI 1) d_M_begins_48 rfl ?_
      refine g_isub C (v := nI (ln (y) - 1)) d_M_begins_49 (pk_sub (by omega)) ?_
      refine g_iload C d_M_begins_50 4 rfl ?_
      refine g_isub C (v := nI (ln (y) - 1 - i)) d_M_begins_52 (pk_sub (by omega)) ?_
      refine g_ishr C (v := nI (co (y) / 2 ^ (ln (y) - 1 - i))) d_M_begins_53 (n_shr (hc y hy) (by have := hl y hy; omega)) ?_
      refine g_iconst C (v := nI 1) d_M_begins_54 rfl ?_
      refine g_iand C (v := nI (co (y) / 2 ^ (ln (y) - 1 - i) % 2)) d_M_begins_55 ((pk_andN (Nat.lt_of_le_of_lt (Nat.div_le_self _ _) (Nat.lt_of_lt_of_le (hc y hy) (by decide))) 1 rfl).trans (by rw [Nat.pow_one])) ?_
      refine g_aload_n C d_M_begins_56 0 rfl rfl ?_
      refine g_get C (T := FM) (N := 17) 0 7 inM rfl rfl (by decide) tw_443 rfl rfl d_M_begins_57 ?_
      refine g_iload C d_M_begins_60 4 rfl ?_
      refine g_iald C 2 rfl (by have := hl y hy; omega) (by decide) d_M_begins_62 ?_
      refine n_icmp_ne C 70 d_M_begins_63 (by decide) (by omega) (by have := hb i (by have := hl y hy; omega); omega) (fun h63 => ?_) (fun h63 => ?_)
      · refine g_iconst C (v := nI 0) d_M_begins_70 rfl ?_
        refine g_istore_n C (lv' := [(3, .int (nI (0))), (0, .ref w), (1, .int (nI (y))), (2, .int (nI (nn))), (4, .int (nI (i)))]) d_M_begins_71 rfl (by decide) rfl ?_
        refine g_iinc C (lv' := [(4, .int (nI (i + 1))), (3, .int (nI (0))), (0, .ref w), (1, .int (nI (y))), (2, .int (nI (nn)))]) (k := 4) d_M_begins_72 rfl (nI_1 _) (by decide) rfl ?_
        refine g_goto C 26 d_M_begins_75 (by decide) ?_
        refine g_lv (lv' := [(0, .ref w), (1, .int (nI (y))), (2, .int (nI (nn))), (3, .int (nI (0))), (4, .int (nI (i + 1)))]) [2, 3, 4, 1, 0] rfl ?_
        have e9 : bgL ln co bt y (i + 1) = 0 := by rw [bgL]; first | rw [if_pos ⟨by have := bgL_01 ln co bt y i; omega, by assumption⟩] | rw [if_neg (fun q => absurd q.2 (by assumption))] | rw [if_neg (fun q => absurd q.1 (by omega))]
        have hg := ih (nn - (i + 1)) (by omega) (i + 1) rfl (by omega)
        rw [e9] at hg
        exact hg
      · refine g_iconst C (v := nI 1) d_M_begins_66 rfl ?_
        refine g_goto C 71 d_M_begins_67 (by decide) ?_
        refine g_istore_n C (lv' := [(3, .int (nI (1))), (0, .ref w), (1, .int (nI (y))), (2, .int (nI (nn))), (4, .int (nI (i)))]) d_M_begins_71 rfl (by decide) rfl ?_
        refine g_iinc C (lv' := [(4, .int (nI (i + 1))), (3, .int (nI (1))), (0, .ref w), (1, .int (nI (y))), (2, .int (nI (nn)))]) (k := 4) d_M_begins_72 rfl (nI_1 _) (by decide) rfl ?_
        refine g_goto C 26 d_M_begins_75 (by decide) ?_
        refine g_lv (lv' := [(0, .ref w), (1, .int (nI (y))), (2, .int (nI (nn))), (3, .int (nI (1))), (4, .int (nI (i + 1)))]) [2, 3, 4, 1, 0] rfl ?_
        have e9 : bgL ln co bt y (i + 1) = 1 := by rw [bgL]; first | rw [if_pos ⟨by have := bgL_01 ln co bt y i; omega, by assumption⟩] | rw [if_neg (fun q => absurd q.2 (by assumption))] | rw [if_neg (fun q => absurd q.1 (by omega))]
        have hg := ih (nn - (i + 1)) (by omega) (i + 1) rfl (by omega)
        rw [e9] at hg
        exact hg
set_option maxHeartbeats 4000000 in
set_option maxRecDepth 100000 in
theorem m_M_begins (l : Launch) (D : va_G) (cs : ClassId × ClassId × ClassId × ClassId) (w w1 w2 w3 w4 w5 w6 w7 w8 w9 wa wb wd : Nat) (cd ru wt rd : Nat) (va : Int64) (ln : Nat → Nat) (bt : Nat → Nat) (co : Nat → Nat) (y nn : Nat) (hn9 : nn < 2 ^ 31) (hy : y < 48) (hl : ∀ j, j < 48 → ln j ≤ 16) (hc : ∀ j, j < 48 → co j < 2 ^ 31) (hb : ∀ j, j < 400 → bt j < 2) : MG l y_M_begins k_M_begins { frames := 0, cells := 0, slots := 0, locals := 0 } D cs [.ref w, .int (nI (y)), .int (nI (nn))] [(w, .inr (4, [.int (nI (cd)), .int (nI (ru)), .ref w1, .ref w2, .ref w3, .ref w4, .ref w5, .ref w6, .int (nI (wt)), .int (nI (rd)), .long (va), .ref w7, .ref w8, .ref w9, .ref wa, .ref wb, .ref wd])), (w2, .inl (cs.1, 48, .inl (fun j => nI (ln j)))), (w6, .inl (cs.1, 400, .inl (fun j => nI (bt j)))), (wd, .inl (cs.1, 48, .inl (fun j => nI (co j))))] (QI D (nI (bgn ln co bt y nn)) [(w, .inr (4, [.int (nI (cd)), .int (nI (ru)), .ref w1, .ref w2, .ref w3, .ref w4, .ref w5, .ref w6, .int (nI (wt)), .int (nI (rd)), .long (va), .ref w7, .ref w8, .ref w9, .ref wa, .ref wb, .ref wd])), (w2, .inl (cs.1, 48, .inl (fun j => nI (ln j)))), (w6, .inl (cs.1, 400, .inl (fun j => nI (bt j)))), (wd, .inl (cs.1, 48, .inl (fun j => nI (co j))))]) := by
  refine MG.mk (own := RM) (by decide) rfl (Nat.le_of_ble_eq_true rfl) ?_
  intro p e s m below meth c A C hr hlk
  refine g_lv (lv' := [(0, .ref w), (1, .int (nI (y))), (2, .int (nI (nn)))]) [0, 1, 2] rfl ?_
  refine g_aload_n C d_M_begins_0 0 rfl rfl ?_
  refine g_get C (T := FM) (N := 17) 0 3 inM rfl rfl (by decide) tw_439 rfl rfl d_M_begins_1 ?_
  refine g_iload_n C d_M_begins_4 1 rfl rfl ?_
  refine g_iald C 1 rfl (by omega) (by decide) d_M_begins_5 ?_
  refine g_iload_n C d_M_begins_6 2 rfl rfl ?_
  refine n_icmp_lt C 19 d_M_begins_7 (by decide) (by have := hl y hy; omega) hn9 (fun h7 => ?_) (fun h7 => ?_)
  · refine g_iconst C (v := nI 0) d_M_begins_19 rfl ?_
    exact g_zret C hr hlk rfl (by unfold bgn; rw [if_pos (by omega)]) rfl d_M_begins_20
  · refine g_aload_n C d_M_begins_10 0 rfl rfl ?_
    refine g_get C (T := FM) (N := 17) 0 3 inM rfl rfl (by decide) tw_439 rfl rfl d_M_begins_11 ?_
    refine g_iload_n C d_M_begins_14 1 rfl rfl ?_
    refine g_iald C 1 rfl (by omega) (by decide) d_M_begins_15 ?_
    refine n_if_ne C 21 d_M_begins_16 (by decide) (by have := hl y hy; omega) (fun h16 => ?_) (fun h16 => ?_)
    · refine g_iconst C (v := nI 1) d_M_begins_21 rfl ?_
      refine g_istore_n C (lv' := [(3, .int (nI (1))), (0, .ref w), (1, .int (nI (y))), (2, .int (nI (nn)))]) d_M_begins_22 rfl (by decide) rfl ?_
      refine g_iconst C (v := nI 0) d_M_begins_23 rfl ?_
      refine g_istore C (lv' := [(4, .int (nI (0))), (3, .int (nI (1))), (0, .ref w), (1, .int (nI (y))), (2, .int (nI (nn)))]) d_M_begins_24 (by decide) rfl ?_
      refine g_lv (lv' := [(0, .ref w), (1, .int (nI (y))), (2, .int (nI (nn))), (3, .int (nI (1))), (4, .int (nI (0)))]) [2, 3, 4, 1, 0] rfl ?_
      exact l_M_bg C w w1 w2 w3 w4 w5 w6 w7 w8 w9 wa wb wd cd ru wt rd va ln bt co y nn hy hl hc hb (by omega) (by omega) hr hlk _ 0 rfl (by omega)
    · refine g_iconst C (v := nI 0) d_M_begins_19 rfl ?_
      exact g_zret C hr hlk rfl (by unfold bgn; rw [if_pos (by omega)]) rfl d_M_begins_20
