theorem dec_raw (a : Nat) : nI a + Int32.ofInt (-1) = nI a - 1 := by
  rw [Int32.sub_eq_add_neg]; rfl
theorem nI_0m1 : nI 0 - 1 = (-1 : Int32) := by decide
/-- a symbol put behind those of no greater count, the places from 't' on moved up -/
def ins (ct : Nat → Nat) (y : Nat) : Nat → (Nat → Nat) → (Nat → Nat)
  | 0, od => updN od 0 y
  | t + 1, od => if ct y < ct (od t) then ins ct y t (updN od (t + 1) (od t)) else updN od (t + 1) y
/-- the symbols with a count below k, from the greatest on, put in -/
def srt (ct : Nat → Nat) : Nat → (Nat → Nat) → Nat → (Nat → Nat) × Nat
  | 0, od, cd => (od, cd)
  | k + 1, od, cd => if 0 < ct k then srt ct k (ins ct k cd od) (cd + 1) else srt ct k od cd
theorem ins_lt {ct : Nat → Nat} {y : Nat} (hy : y < 48) : ∀ (t : Nat) (od : Nat → Nat), (∀ j, j < t → od j < 48) → ∀ N, t ≤ N → (∀ j, t < j → j ≤ N → od j < 48) → ∀ j, j ≤ N → ins ct y t od j < 48
  | 0, od, h, N, hN, h2, j, hj => by
    show updN od 0 y j < 48
    unfold updN; split
    · exact hy
    · exact h2 j (by omega) hj
  | t + 1, od, h, N, hN, h2, j, hj => by
    unfold ins
    split
    · refine ins_lt hy t _ (fun i hi => ?_) N (by omega) (fun i h1 h3 => ?_) j hj
      · rw [updN_n (by omega)]; exact h i (by omega)
      · unfold updN; split
        · exact h t (by omega)
        · exact h2 i (by omega) h3
    · unfold updN; split
      · exact hy
      · rcases Nat.lt_or_ge j (t + 1) with q | q
        · exact h j q
        · exact h2 j (by omega) hj

set_option maxHeartbeats 4000000 in
set_option maxRecDepth 100000 in
theorem l_K_ins {p : Program} {l : Launch} {e : Env} {s : State} {m : MethodId} {args : Array Value} {below : List Frame} {meth : Method} {c : Code} {Q : State → Prop} {A : Nat → Prop} {D : va_G} {cs : ClassId × ClassId × ClassId × ClassId} (C : CX p s m args c c_K_insert 4 RK D cs A) (k ko kp kr ks bc rs : Nat) (ct od : Nat → Nat) (cd : Nat) (y : Nat) (hy : y < 48) (hct : ∀ j, j < 48 → ct j ≤ 1000000000) (hcd : cd < 48)
    (K : ∀ (t : Nat) (o2 : Nat → Nat), t ≤ cd → updN o2 t y = ins ct y cd od → GO p l e { frames := 0, cells := 0, slots := 0, locals := 0 } s m args below meth c 0 0 Q A D 4 46 [(0, .ref k), (1, .int (nI (y))), (3, .int (nI (t)))] [] [(k, .inr (0, [.ref ko, .ref kp, .ref kr, .ref ks, .int (nI (rs)), .int (nI (cd))])), (ko, .inl (cs.1, 48, .inl (fun j => nI (o2 j)))), (bc, .inl (cs.2.1, 48, .inr (.inl (fun j => lN (ct j)))))])
    : ∀ (n : Nat) (t : Nat) (o2 : Nat → Nat), t = n → (t ≤ cd) → (∀ j, j < t → o2 j < 48) → (ins ct y t o2 = ins ct y cd od) → GO p l e { frames := 0, cells := 0, slots := 0, locals := 0 } s m args below meth c 0 0 Q A D 4 5 [(0, .ref k), (1, .int (nI (y))), (2, .ref bc), (3, .int (nI (t)))] [] [(k, .inr (0, [.ref ko, .ref kp, .ref kr, .ref ks, .int (nI (rs)), .int (nI (cd))])), (ko, .inl (cs.1, 48, .inl (fun j => nI (o2 j)))), (bc, .inl (cs.2.1, 48, .inr (.inl (fun j => lN (ct j)))))] := by
  intro n
  induction n using Nat.strongRecOn with
  | _ n ih =>
  intro t  o2  hn ht ho he
  refine g_iload_n C d_K_insert_5 3 rfl rfl ?_
  refine n_if_le C 46 d_K_insert_6 (by decide) (by omega) (fun h6 => ?_) (fun h6 => ?_)
  · refine g_lv (lv' := [(0, .ref k), (1, .int (nI (y))), (3, .int (nI (t)))]) [0, 1, 3] rfl ?_
    exact K t o2 ht (by
      rw [← he]
      first
        | (rw [show t = 0 by omega]; rfl)
        | (obtain ⟨t9, rfl⟩ : ∃ t9, t = t9 + 1 := ⟨t - 1, by omega⟩
           simp only [Nat.add_sub_cancel] at h22
           rw [ins, if_neg (by omega)]))
  · refine g_aload_n C d_K_insert_9 2 rfl rfl ?_
    refine g_aload_n C d_K_insert_10 0 rfl rfl ?_
    refine g_get C (T := FK) (N := 6) 0 0 inK rfl rfl (by decide) tw_29 rfl rfl d_K_insert_11 ?_
    refine g_iload_n C d_K_insert_14 3 rfl rfl ?_
    refine g_iconst C (v := nI 1) d_K_insert_15 rfl ?_
    refine g_isub C (v := nI ((t) - (1))) d_K_insert_16 (pk_sub (by omega)) ?_
    refine g_iald C 1 rfl (by omega) (by decide) d_K_insert_17 ?_
    refine g_lald C 2 rfl (ho _ (by omega)) (by decide) d_K_insert_18 ?_
    refine g_aload_n C d_K_insert_19 2 rfl rfl ?_
    refine g_iload_n C d_K_insert_20 1 rfl rfl ?_
    refine g_lald C 2 rfl (by omega) (by decide) d_K_insert_21 ?_
    refine n_lcmp_le C 46 d_K_insert_22 d_K_insert_23 (by decide) (by have := hct _ (ho (t - 1) (by omega)); omega) (by have := hct y hy; omega) (fun h22 => ?_) (fun h22 => ?_)
    · refine g_lv (lv' := [(0, .ref k), (1, .int (nI (y))), (3, .int (nI (t)))]) [0, 1, 3] rfl ?_
      exact K t o2 ht (by
      rw [← he]
      first
        | (rw [show t = 0 by omega]; rfl)
        | (obtain ⟨t9, rfl⟩ : ∃ t9, t = t9 + 1 := ⟨t - 1, by omega⟩
           simp only [Nat.add_sub_cancel] at h22
           rw [ins, if_neg (by omega)]))
    · refine g_aload_n C d_K_insert_26 0 rfl rfl ?_
      refine g_get C (T := FK) (N := 6) 0 0 inK rfl rfl (by decide) tw_29 rfl rfl d_K_insert_27 ?_
      refine g_iload_n C d_K_insert_30 3 rfl rfl ?_
      refine g_aload_n C d_K_insert_31 0 rfl rfl ?_
      refine g_get C (T := FK) (N := 6) 0 0 inK rfl rfl (by decide) tw_29 rfl rfl d_K_insert_32 ?_
      refine g_iload_n C d_K_insert_35 3 rfl rfl ?_
      refine g_iconst C (v := nI 1) d_K_insert_36 rfl ?_
      refine g_isub C (v := nI ((t) - (1))) d_K_insert_37 (pk_sub (by omega)) ?_
      refine g_iald C 1 rfl (by omega) (by decide) d_K_insert_38 ?_
      refine n_iast C (ws' := [(k, .inr (0, [.ref ko, .ref kp, .ref kr, .ref ks, .int (nI (rs)), .int (nI (cd))])), (ko, .inl (cs.1, 48, .inl (fun j => nI ((updN (o2) (t) (o2 ((t) - (1)))) j)))), (bc, .inl (cs.2.1, 48, .inr (.inl (fun j => lN (ct j)))))]) 1 rfl (by omega) (by decide) rfl d_K_insert_39 ?_
      refine g_iinc C (lv' := [(3, .int (nI (t - 1))), (0, .ref k), (1, .int (nI (y))), (2, .ref bc)]) (k := 3) d_K_insert_40 rfl (nI_dec (by omega)) (by decide) rfl ?_
      refine g_goto C 5 d_K_insert_43 (by decide) ?_
      refine g_lv (lv' := [(0, .ref k), (1, .int (nI (y))), (2, .ref bc), (3, .int (nI (t - 1)))]) [1, 2, 3, 0] rfl ?_
      exact ih (t - 1) (by omega) (t - 1) _ rfl (by omega) (fun j hj => by rw [updN_n (by omega)]; exact ho j (by omega)) (by
      rw [← he]
      obtain ⟨t9, rfl⟩ : ∃ t9, t = t9 + 1 := ⟨t - 1, by omega⟩
      simp only [Nat.add_sub_cancel] at h22 ⊢
      rw [ins, if_pos h22])
set_option maxHeartbeats 4000000 in
set_option maxRecDepth 100000 in
theorem m_K_insert (l : Launch) (D : va_G) (cs : ClassId × ClassId × ClassId × ClassId) (k ko kp kr ks bc rs : Nat) (ct od : Nat → Nat) (cd : Nat) (y : Nat) (hy : y < 48) (hct : ∀ j, j < 48 → ct j ≤ 1000000000) (hcd : cd < 48) (ho : ∀ j, j < cd → od j < 48) : MG l y_K_insert k_K_insert { frames := 0, cells := 0, slots := 0, locals := 0 } D cs [.ref k, .int (nI (y)), .ref bc] [(k, .inr (0, [.ref ko, .ref kp, .ref kr, .ref ks, .int (nI (rs)), .int (nI (cd))])), (ko, .inl (cs.1, 48, .inl (fun j => nI (od j)))), (bc, .inl (cs.2.1, 48, .inr (.inl (fun j => lN (ct j)))))] (QV D [(k, .inr (0, [.ref ko, .ref kp, .ref kr, .ref ks, .int (nI (rs)), .int (nI (cd + 1))])), (ko, .inl (cs.1, 48, .inl (fun j => nI ((ins ct y cd od) j)))), (bc, .inl (cs.2.1, 48, .inr (.inl (fun j => lN (ct j)))))]) := by
  refine MG.mk (own := RK) (by decide) rfl (Nat.le_of_ble_eq_true rfl) ?_
  intro p e s m below meth c A C hr hlk
  refine g_lv (lv' := [(0, .ref k), (1, .int (nI (y))), (2, .ref bc)]) [0, 1, 2] rfl ?_
  refine g_aload_n C d_K_insert_0 0 rfl rfl ?_
  refine g_get C (T := FK) (N := 6) 0 5 inK rfl rfl (by decide) tw_34 rfl rfl d_K_insert_1 ?_
  refine g_istore_n C (lv' := [(3, .int (nI (cd))), (0, .ref k), (1, .int (nI (y))), (2, .ref bc)]) d_K_insert_4 rfl (by decide) rfl ?_
  refine g_lv (lv' := [(0, .ref k), (1, .int (nI (y))), (2, .ref bc), (3, .int (nI (cd)))]) [1, 2, 3, 0] rfl ?_
  refine l_K_ins C k ko kp kr ks bc rs ct od cd y hy hct hcd ?_ _ cd od rfl (Nat.le_refl _) ho rfl
  intro t o2 ht he9
  refine g_aload_n C d_K_insert_46 0 rfl rfl ?_
  refine g_get C (T := FK) (N := 6) 0 0 inK rfl rfl (by decide) tw_29 rfl rfl d_K_insert_47 ?_
  refine g_iload_n C d_K_insert_50 2 rfl rfl ?_
  refine g_iload_n C d_K_insert_51 1 rfl rfl ?_
  refine n_iast C (ws' := [(k, .inr (0, [.ref ko, .ref kp, .ref kr, .ref ks, .int (nI (rs)), .int (nI (cd))])), (ko, .inl (cs.1, 48, .inl (fun j => nI ((updN (o2) (t) (y)) j)))), (bc, .inl (cs.2.1, 48, .inr (.inl (fun j => lN (ct j)))))]) 1 rfl (by omega) (by decide) rfl d_K_insert_52 ?_
  refine g_ws (ws' := [(k, .inr (0, [.ref ko, .ref kp, .ref kr, .ref ks, .int (nI (rs)), .int (nI (cd))])), (ko, .inl (cs.1, 48, .inl (fun j => nI ((ins ct y cd od) j)))), (bc, .inl (cs.2.1, 48, .inr (.inl (fun j => lN (ct j)))))]) (by rw [he9]) ?_
  refine g_aload_n C d_K_insert_53 0 rfl rfl ?_
  refine g_dup C d_K_insert_54 rfl ?_
  refine g_get C (T := FK) (N := 6) 0 5 inK rfl rfl (by decide) tw_34 rfl rfl d_K_insert_55 ?_
  refine g_iconst C (v := nI 1) d_K_insert_58 rfl ?_
  refine g_iadd C (v := nI (cd + 1)) d_K_insert_59 (nI_add _ _) ?_
  refine g_put C (T := FK) (N := 6) (ws' := [(k, .inr (0, [.ref ko, .ref kp, .ref kr, .ref ks, .int (nI (rs)), .int (nI (cd + 1))])), (ko, .inl (cs.1, 48, .inl (fun j => nI ((ins ct y cd od) j)))), (bc, .inl (cs.2.1, 48, .inr (.inl (fun j => lN (ct j)))))]) 0 5 inK tyK okK nmK rfl rfl (by decide) tw_34 rfl rfl rfl rfl rfl (Nat.le_of_ble_eq_true rfl) rfl d_K_insert_60 ?_
  exact g_vret C hr hlk rfl d_K_insert_63
set_option maxHeartbeats 4000000 in
set_option maxRecDepth 100000 in
theorem l_K_srt {p : Program} {l : Launch} {e : Env} {s : State} {m : MethodId} {args : Array Value} {below : List Frame} {meth : Method} {c : Code} {A : Nat → Prop} {D : va_G} {cs : ClassId × ClassId × ClassId × ClassId} (C : CX p s m args c c_K_sortSymbols 3 RK D cs A) (k ko kp kr ks bc rs : Nat) (ct od : Nat → Nat) (cd : Nat) (hct : ∀ j, j < 48 → ct j ≤ 1000000000) (hr : meth.sig.returnType = some .int) (hlk : meth.locks = false) : ∀ (n : Nat) (t : Nat) (o2 : Nat → Nat) (c2 : Nat), t = n → t ≤ 48 → c2 + t ≤ 48 → (∀ j, j < c2 → o2 j < 48) → srt ct t o2 c2 = srt ct 48 od 0 → GO p l e { frames := 1, cells := 0, slots := 0, locals := 23 } s m args below meth c 0 0 (MQ below (QI D (nI (srt ct 48 od 0).2) [(k, .inr (0, [.ref ko, .ref kp, .ref kr, .ref ks, .int (nI (rs)), .int (nI ((srt ct 48 od 0).2))])), (ko, .inl (cs.1, 48, .inl (fun j => nI ((srt ct 48 od 0).1 j)))), (bc, .inl (cs.2.1, 48, .inr (.inl (fun j => lN (ct j)))))] A) args s 0 0 A) A D 3 8 [(0, .ref k), (1, .ref bc), (2, .int (nI t - 1))] [] [(k, .inr (0, [.ref ko, .ref kp, .ref kr, .ref ks, .int (nI (rs)), .int (nI (c2))])), (ko, .inl (cs.1, 48, .inl (fun j => nI (o2 j)))), (bc, .inl (cs.2.1, 48, .inr (.inl (fun j => lN (ct j)))))] := by
  intro n
  induction n with
  | zero =>
    intro t o2 c2 hn ht hc ho he
    subst hn
    rw [nI_0m1]
    refine g_iload_n C d_K_sortSymbols_8 2 rfl rfl ?_
    refine g_if_lt C 32 d_K_sortSymbols_9 (by decide) (fun _ => ?_) (fun h => absurd (by decide) h)
    refine g_aload_n C d_K_sortSymbols_32 0 rfl rfl ?_
    refine g_get C (T := FK) (N := 6) 0 5 inK rfl rfl (by decide) tw_34 rfl rfl d_K_sortSymbols_33 ?_
    exact g_iret C hr hlk (by rw [← he]; rfl) (by rw [← he]; rfl) d_K_sortSymbols_36
  | succ t ih =>
    intro t9 o2 c2 hn ht hc ho he
    subst hn
    rw [nI_pred t]
    refine g_iload_n C d_K_sortSymbols_8 2 rfl rfl ?_
    refine n_if_lt C 32 d_K_sortSymbols_9 (by decide) (by omega) ?_
    refine g_aload_n C d_K_sortSymbols_12 1 rfl rfl ?_
    refine g_iload_n C d_K_sortSymbols_13 2 rfl rfl ?_
    refine g_lald C 2 rfl (by omega) (by decide) d_K_sortSymbols_14 ?_
    refine g_lconst C (v := lN 0) d_K_sortSymbols_15 rfl ?_
    refine n_lcmp_le C 26 d_K_sortSymbols_16 d_K_sortSymbols_17 (by decide) (by have := hct t (by omega); omega) (by omega) (fun h16 => ?_) (fun h16 => ?_)
    · refine g_iinc C (lv' := [(2, .int (nI (t) - 1)), (0, .ref k), (1, .ref bc)]) (k := 2) d_K_sortSymbols_26 rfl (dec_raw _) (by decide) rfl ?_
      refine g_goto C 8 d_K_sortSymbols_29 (by decide) ?_
      refine g_lv (lv' := [(0, .ref k), (1, .ref bc), (2, .int (nI (t) - 1))]) [1, 2, 0] rfl ?_
      exact ih t _ _ rfl (by omega) (by omega) ho (by rw [← he, srt, if_neg (by omega)])
    · refine g_aload_n C d_K_sortSymbols_20 0 rfl rfl ?_
      refine g_iload_n C d_K_sortSymbols_21 2 rfl rfl ?_
      refine g_aload_n C d_K_sortSymbols_22 1 rfl rfl ?_
      refine g_callVv C (n := 2) (ws' := [(k, .inr (0, [.ref ko, .ref kp, .ref kr, .ref ks, .int (nI (rs)), .int (nI (c2 + 1))])), (ko, .inl (cs.1, 48, .inl (fun j => nI ((ins ct (t) (c2) o2) j)))), (bc, .inl (cs.2.1, 48, .inr (.inl (fun j => lN (ct j)))))]) (As := [.int (nI (t)), .ref bc]) (rest := []) (m_K_insert l D cs k ko kp kr ks bc (rs) (ct) (o2) (c2) (t) (by omega) hct (by omega) ho) tw_313 tw_315 ts_9 tw_2 tw_316 rfl 0 rfl rfl (by decide +kernel) rfl ⟨rfl, rfl, by decide, by decide, by decide⟩ rfl [0, 1, 2] rfl rfl (by decide) (Nat.le_of_ble_eq_true rfl) rfl d_K_sortSymbols_23 ?_
      refine g_iinc C (lv' := [(2, .int (nI (t) - 1)), (0, .ref k), (1, .ref bc)]) (k := 2) d_K_sortSymbols_26 rfl (dec_raw _) (by decide) rfl ?_
      refine g_goto C 8 d_K_sortSymbols_29 (by decide) ?_
      refine g_lv (lv' := [(0, .ref k), (1, .ref bc), (2, .int (nI (t) - 1))]) [1, 2, 0] rfl ?_
      exact ih t _ _ rfl (by omega) (by omega) (fun j hj => ins_lt (by omega) c2 o2 ho c2 (Nat.le_refl _) (fun i h1 h2 => absurd h1 (by omega)) j (by omega)) (by rw [← he, srt, if_pos (by omega)])
set_option maxHeartbeats 4000000 in
set_option maxRecDepth 100000 in
theorem m_K_sortSymbols (l : Launch) (D : va_G) (cs : ClassId × ClassId × ClassId × ClassId) (k ko kp kr ks bc rs : Nat) (ct od : Nat → Nat) (cd : Nat) (hct : ∀ j, j < 48 → ct j ≤ 1000000000) : MG l y_K_sortSymbols k_K_sortSymbols { frames := 1, cells := 0, slots := 0, locals := 23 } D cs [.ref k, .ref bc] [(k, .inr (0, [.ref ko, .ref kp, .ref kr, .ref ks, .int (nI (rs)), .int (nI (cd))])), (ko, .inl (cs.1, 48, .inl (fun j => nI (od j)))), (bc, .inl (cs.2.1, 48, .inr (.inl (fun j => lN (ct j)))))] (QI D (nI ((srt ct 48 od 0).2)) [(k, .inr (0, [.ref ko, .ref kp, .ref kr, .ref ks, .int (nI (rs)), .int (nI ((srt ct 48 od 0).2))])), (ko, .inl (cs.1, 48, .inl (fun j => nI ((srt ct 48 od 0).1 j)))), (bc, .inl (cs.2.1, 48, .inr (.inl (fun j => lN (ct j)))))]) := by
  refine MG.mk (own := RK) (by decide) rfl (Nat.le_of_ble_eq_true rfl) ?_
  intro p e s m below meth c A C hr hlk
  refine g_lv (lv' := [(0, .ref k), (1, .ref bc)]) [0, 1] rfl ?_
  refine g_aload_n C d_K_sortSymbols_0 0 rfl rfl ?_
  refine g_iconst C (v := nI 0) d_K_sortSymbols_1 rfl ?_
  refine g_put C (T := FK) (N := 6) (ws' := [(k, .inr (0, [.ref ko, .ref kp, .ref kr, .ref ks, .int (nI (rs)), .int (nI (0))])), (ko, .inl (cs.1, 48, .inl (fun j => nI (od j)))), (bc, .inl (cs.2.1, 48, .inr (.inl (fun j => lN (ct j)))))]) 0 5 inK tyK okK nmK rfl rfl (by decide) tw_34 rfl rfl rfl rfl rfl (Nat.le_of_ble_eq_true rfl) rfl d_K_sortSymbols_2 ?_
  refine g_bipush C (v := nI 47) d_K_sortSymbols_5 rfl ?_
  refine g_istore_n C (lv' := [(2, .int (nI (47))), (0, .ref k), (1, .ref bc)]) d_K_sortSymbols_7 rfl (by decide) rfl ?_
  refine g_lv (lv' := [(0, .ref k), (1, .ref bc), (2, .int (nI (47)))]) [1, 2, 0] rfl ?_
  exact l_K_srt C k ko kp kr ks bc rs ct od cd hct hr hlk 48 48 od 0 rfl (by omega) (by omega) (fun j hj => absurd hj (by omega)) rfl
