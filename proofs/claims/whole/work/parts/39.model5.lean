section CG
variable {ct od rv rv' : Nat → Nat} {n pr : Nat}
theorem sym_cong (h : ∀ j, j < 2 * pr → rv j = rv' j) (q : Nat × Nat) : sym ct od rv n pr q = sym ct od rv' n pr q := by
  unfold sym
  congr 1
  refine propext ⟨fun k => ⟨k.1, fun q9 => ?_⟩, fun k => ⟨k.1, fun q9 => ?_⟩⟩
  · rw [← h _ (by omega), ← h _ (by omega)]; exact k.2 q9
  · rw [h _ (by omega), h _ (by omega)]; exact k.2 q9
theorem mst_cong (h : ∀ j, j < 2 * pr → rv j = rv' j) : ∀ t, mst ct od rv n pr t = mst ct od rv' n pr t
  | 0 => rfl
  | t + 1 => by rw [mst, mst, mst_cong h t, sym_cong h]
theorem mst_np {t : Nat} (ht : t < n + pr) (h : ¬ sym ct od rv n pr (mst ct od rv n pr t) = true) : (mst ct od rv n pr t).2 < pr := by
  have h1 := mst_sum (ct := ct) (od := od) (rv := rv) (n := n) (pr := pr) t
  have h2 := of_decide_eq_false (eq_false_of_ne_true h)
  rcases Nat.lt_or_ge (mst ct od rv n pr t).2 pr with q | q
  · exact q
  · exact absurd ⟨by omega, fun q3 => absurd q3 (by omega)⟩ h2
theorem mvl_cong (h : ∀ j, j < 2 * pr → rv j = rv' j) {t : Nat} (ht : t < n + pr) : mvl ct od rv n pr t = mvl ct od rv' n pr t := by
  unfold mvl
  by_cases hs : sym ct od rv n pr (mst ct od rv n pr t) = true
  · rw [if_pos hs, if_pos (by rw [← mst_cong h, ← sym_cong h]; exact hs), mst_cong h]
  · have := mst_np ht hs
    rw [if_neg hs, if_neg (by rw [← mst_cong h, ← sym_cong h]; exact hs), ← mst_cong h, h _ (by omega), h _ (by omega)]
theorem rsv_cong (h : ∀ j, j < 2 * pr → rv j = rv' j) (t : Nat) : rsv ct od rv n pr t = rsv ct od rv' n pr t := by
  unfold rsv; rw [mst_cong h, sym_cong h]
end CG
/-- the rows themselves: counts and size of row i -/
def rVS (ct od : Nat → Nat) (n : Nat) : Nat → (Nat → Nat) × Nat
  | 0 => (fun _ => 0, 0)
  | i + 1 => (mvl ct od (rVS ct od n i).1 n ((rVS ct od n i).2 / 2), n + (rVS ct od n i).2 / 2)
theorem rVS_le (ct od : Nat → Nat) (n : Nat) : ∀ i, (rVS ct od n i).2 ≤ 2 * n
  | 0 => Nat.zero_le _
  | i + 1 => by have := rVS_le ct od n i; show n + _ / 2 ≤ _; omega
theorem rVS_bd {ct od : Nat → Nat} {n : Nat} (hct : ∀ j, j < 48 → ct j ≤ 1000000000) (hod : ∀ j, j < n → od j < 48) : ∀ i j, j < (rVS ct od n i).2 → (rVS ct od n i).1 j ≤ 1000000000 * 2 ^ i
  | 0, j, h => absurd h (by show ¬ j < 0; omega)
  | i + 1, j, h => by
    have ih := rVS_bd hct hod i
    have h : j < n + (rVS ct od n i).2 / 2 := h
    have hp : 2 ^ (i + 1) = 2 * 2 ^ i := Nat.pow_succ'
    have hpp := Nat.two_pow_pos i
    show mvl ct od (rVS ct od n i).1 n ((rVS ct od n i).2 / 2) j ≤ _
    unfold mvl
    split
    · rename_i hs
      have := hct _ (hod _ (of_decide_eq_true hs).1)
      omega
    · rename_i hs
      have h9 := mst_np h hs
      have h1 := ih (2 * (mst ct od (rVS ct od n i).1 n ((rVS ct od n i).2 / 2) j).2) (by omega)
      have h2 := ih (2 * (mst ct od (rVS ct od n i).1 n ((rVS ct od n i).2 / 2) j).2 + 1) (by omega)
      omega
/-- the model's arrays behind i rows -/
def pkst (ct od : Nat → Nat) (n : Nat) (bf sm : Nat → Nat) (rw0 : Nat → Int32) (sz : Nat → Nat) : Nat → (Nat → Nat) × (Nat → Nat) × (Nat → Int32) × (Nat → Nat)
  | 0 => (bf, sm, rw0, sz)
  | i + 1 =>
    (cpb (pkst ct od n bf sm rw0 sz i).1 (rwp ct od (pkst ct od n bf sm rw0 sz i).1 n (if i = 0 then 0 else (pkst ct od n bf sm rw0 sz i).2.2.2 (i - 1) / 2) (pkst ct od n bf sm rw0 sz i).2.1 (n + (if i = 0 then 0 else (pkst ct od n bf sm rw0 sz i).2.2.2 (i - 1) / 2))) (n + (if i = 0 then 0 else (pkst ct od n bf sm rw0 sz i).2.2.2 (i - 1) / 2)),
     rwp ct od (pkst ct od n bf sm rw0 sz i).1 n (if i = 0 then 0 else (pkst ct od n bf sm rw0 sz i).2.2.2 (i - 1) / 2) (pkst ct od n bf sm rw0 sz i).2.1 (n + (if i = 0 then 0 else (pkst ct od n bf sm rw0 sz i).2.2.2 (i - 1) / 2)),
     rwm ct od (pkst ct od n bf sm rw0 sz i).1 n (if i = 0 then 0 else (pkst ct od n bf sm rw0 sz i).2.2.2 (i - 1) / 2) i (pkst ct od n bf sm rw0 sz i).2.2.1 (n + (if i = 0 then 0 else (pkst ct od n bf sm rw0 sz i).2.2.2 (i - 1) / 2)),
     updN (pkst ct od n bf sm rw0 sz i).2.2.2 i (n + (if i = 0 then 0 else (pkst ct od n bf sm rw0 sz i).2.2.2 (i - 1) / 2)))
section PK
variable {ct od bf sm sz : Nat → Nat} {n : Nat} {rw0 : Nat → Int32}
theorem pks_pr : ∀ i, (if i = 0 then 0 else (pkst ct od n bf sm rw0 sz i).2.2.2 (i - 1) / 2) = (rVS ct od n i).2 / 2
  | 0 => by rw [if_pos rfl]; show 0 = 0 / 2; rfl
  | i + 1 => by
    rw [if_neg (by omega), Nat.add_sub_cancel]
    show updN (pkst ct od n bf sm rw0 sz i).2.2.2 i (n + (if i = 0 then 0 else (pkst ct od n bf sm rw0 sz i).2.2.2 (i - 1) / 2)) i / 2 = (n + (rVS ct od n i).2 / 2) / 2
    rw [updN_s, pks_pr i]
theorem pks_bf : ∀ i j, j < (rVS ct od n i).2 → (pkst ct od n bf sm rw0 sz i).1 j = (rVS ct od n i).1 j
  | 0, j, h => absurd h (by show ¬ j < 0; omega)
  | i + 1, j, h => by
    have ih := pks_bf i
    have h : j < n + (rVS ct od n i).2 / 2 := h
    rw [pkst, pks_pr i]
    show cpb _ _ _ j = mvl ct od (rVS ct od n i).1 n ((rVS ct od n i).2 / 2) j
    unfold cpb
    rw [if_pos h, rwp_at _ _ h]
    exact mvl_cong (fun j9 h9 => ih j9 (by omega)) h
theorem rwm_at {rv : Nat → Nat} {pr kk : Nat} {r0 : Nat → Int32} : ∀ T t, t < T → rwm ct od rv n pr kk r0 T (96 * kk + t) = rsv ct od rv n pr t
  | 0, t, h => absurd h (by omega)
  | T + 1, t, h => by
    rw [rwm]
    by_cases e : t = T
    · subst e; rw [pk_us]
    · rw [pk_un (by omega)]; exact rwm_at T t (by omega)
theorem rwm_out {rv : Nat → Nat} {pr kk : Nat} {r0 : Nat → Int32} {i : Nat} (h : i < 96 * kk) : ∀ T, rwm ct od rv n pr kk r0 T i = r0 i
  | 0 => rfl
  | T + 1 => by rw [rwm, pk_un (by omega)]; exact rwm_out h T
theorem pks_rw (hn : n ≤ 48) : ∀ i k, k < i → ∀ t, t < (rVS ct od n (k + 1)).2 → (pkst ct od n bf sm rw0 sz i).2.2.1 (96 * k + t) = rsv ct od (rVS ct od n k).1 n ((rVS ct od n k).2 / 2) t
  | 0, k, h, _, _ => absurd h (by omega)
  | i + 1, k, h, t, ht => by
    rw [pkst, pks_pr i]
    show rwm ct od (pkst ct od n bf sm rw0 sz i).1 n ((rVS ct od n i).2 / 2) i (pkst ct od n bf sm rw0 sz i).2.2.1 (n + (rVS ct od n i).2 / 2) (96 * k + t) = _
    by_cases e : k = i
    · subst e
      have ht : t < n + (rVS ct od n k).2 / 2 := ht
      rw [rwm_at _ _ ht]
      exact rsv_cong (fun j9 h9 => pks_bf k j9 (by omega)) t
    · have h1 := rVS_le ct od n (k + 1)
      rw [rwm_out (show 96 * k + t < 96 * i by omega)]
      exact pks_rw hn i k (by omega) t ht
end PK
/-- where a row stands behind t of its places -/
def Mk (ct od : Nat → Nat) (n k t : Nat) : Nat × Nat := mst ct od (rVS ct od n k).1 n ((rVS ct od n k).2 / 2) t
/-- lengths by the rows below k, of which tk are taken -/
def ctm (ct od : Nat → Nat) (n : Nat) : Nat → (Nat → Nat) → Nat → (Nat → Nat)
  | 0, ln, _ => ln
  | k + 1, ln, tk => ctm ct od n k (inc ln od (Mk ct od n k tk).1) (2 * (Mk ct od n k tk).2)
theorem ctm_tk {ct od : Nat → Nat} {n k tk : Nat} (h : tk ≤ (rVS ct od n (k + 1)).2) : 2 * (Mk ct od n k tk).2 ≤ (rVS ct od n k).2 := by
  have h1 := (mst_le (ct := ct) (od := od) (rv := (rVS ct od n k).1) (n := n) (pr := (rVS ct od n k).2 / 2) tk).2 h
  unfold Mk; omega

set_option maxHeartbeats 4000000 in
set_option maxRecDepth 100000 in
theorem l_M_mz {p : Program} {l : Launch} {e : Env} {s : State} {m : MethodId} {args : Array Value} {below : List Frame} {meth : Method} {c : Code} {Q : State → Prop} {A : Nat → Prop} {D : va_G} {cs : ClassId × ClassId × ClassId × ClassId} (C : CX p s m args c c_M_make 8 RM D cs A) (w w1 w2 w3 w4 w5 w6 w7 w8 w9 wa wb wd : Nat) (cd ru wt rd : Nat) (va : Int64) (ct : Nat → Nat) (ln : Nat → Nat) (rg : Nat → Nat) (od : Nat → Nat) (rw : Nat → Int32) (sz : Nat → Nat) (sm : Nat → Nat) (bf : Nat → Nat) (mo nn : Nat) 
    (K : ∀ l2 r2 : Nat → Nat, (∀ j, j < 48 → l2 j = 0 ∧ r2 j = 0) → GO p l e { frames := 1, cells := 0, slots := 0, locals := 28 } s m args below meth c 0 0 Q A D 8 68 [(0, .ref w), (1, .int (nI (mo))), (2, .int (nI (nn)))] [] [(w, .inr (4, [.int (nI (0)), .int (nI (ru)), .ref w1, .ref w2, .ref w3, .ref w4, .ref w5, .ref w6, .int (nI (wt)), .int (nI (rd)), .long (va), .ref w7, .ref w8, .ref w9, .ref wa, .ref wb, .ref wd])), (w1, .inl (cs.2.1, 48, .inr (.inl (fun j => lN (ct j))))), (w2, .inl (cs.1, 48, .inl (fun j => nI (l2 j)))), (w3, .inl (cs.2.2.1, 48, .inl (fun j => nI (r2 j)))), (w7, .inl (cs.1, 48, .inl (fun j => nI (od j)))), (w8, .inl (cs.1, 1536, .inl (rw))), (w9, .inl (cs.1, 16, .inl (fun j => nI (sz j)))), (wa, .inl (cs.2.1, 96, .inr (.inl (fun j => lN (sm j))))), (wb, .inl (cs.2.1, 96, .inr (.inl (fun j => lN (bf j)))))])
    : ∀ (n : Nat) (i : Nat) (l2 r2 : Nat → Nat), 48 - i = n → (i ≤ 48) → (∀ j, j < i → l2 j = 0 ∧ r2 j = 0) → GO p l e { frames := 1, cells := 0, slots := 0, locals := 28 } s m args below meth c 0 0 Q A D 8 42 [(0, .ref w), (1, .int (nI (mo))), (2, .int (nI (nn))), (3, .int (nI (i)))] [] [(w, .inr (4, [.int (nI (0)), .int (nI (ru)), .ref w1, .ref w2, .ref w3, .ref w4, .ref w5, .ref w6, .int (nI (wt)), .int (nI (rd)), .long (va), .ref w7, .ref w8, .ref w9, .ref wa, .ref wb, .ref wd])), (w1, .inl (cs.2.1, 48, .inr (.inl (fun j => lN (ct j))))), (w2, .inl (cs.1, 48, .inl (fun j => nI (l2 j)))), (w3, .inl (cs.2.2.1, 48, .inl (fun j => nI (r2 j)))), (w7, .inl (cs.1, 48, .inl (fun j => nI (od j)))), (w8, .inl (cs.1, 1536, .inl (rw))), (w9, .inl (cs.1, 16, .inl (fun j => nI (sz j)))), (wa, .inl (cs.2.1, 96, .inr (.inl (fun j => lN (sm j))))), (wb, .inl (cs.2.1, 96, .inr (.inl (fun j => lN (bf j)))))] := by
  intro n
  induction n using Nat.strongRecOn with
  | _ n ih =>
  intro i  l2 r2  hn hi hq
  refine g_iload_n C d_M_make_42 3 rfl rfl ?_
  refine g_bipush C (v := nI 48) d_M_make_43 rfl ?_
  refine n_icmp_ge C 68 d_M_make_45 (by decide) (by omega) (by omega) (fun h45 => ?_) (fun h45 => ?_)
  · refine g_lv (lv' := [(0, .ref w), (1, .int (nI (mo))), (2, .int (nI (nn)))]) [0, 1, 2] rfl ?_
    exact K l2 r2 (fun j hj => hq j (by omega))
  · refine g_aload_n C d_M_make_48 0 rfl rfl ?_
    refine g_get C (T := FM) (N := 17) 0 3 inM rfl rfl (by decide) tw_439 rfl rfl d_M_make_49 ?_
    refine g_iload_n C d_M_make_52 3 rfl rfl ?_
    refine g_iconst C (v := nI 0) d_M_make_53 rfl ?_
    refine n_iast C (ws' := [(w, .inr (4, [.int (nI (0)), .int (nI (ru)), .ref w1, .ref w2, .ref w3, .ref w4, .ref w5, .ref w6, .int (nI (wt)), .int (nI (rd)), .long (va), .ref w7, .ref w8, .ref w9, .ref wa, .ref wb, .ref wd])), (w1, .inl (cs.2.1, 48, .inr (.inl (fun j => lN (ct j))))), (w2, .inl (cs.1, 48, .inl (fun j => nI ((updN (l2) (i) (0)) j)))), (w3, .inl (cs.2.2.1, 48, .inl (fun j => nI (r2 j)))), (w7, .inl (cs.1, 48, .inl (fun j => nI (od j)))), (w8, .inl (cs.1, 1536, .inl (rw))), (w9, .inl (cs.1, 16, .inl (fun j => nI (sz j)))), (wa, .inl (cs.2.1, 96, .inr (.inl (fun j => lN (sm j))))), (wb, .inl (cs.2.1, 96, .inr (.inl (fun j => lN (bf j)))))]) 2 rfl (by omega) (by decide) rfl d_M_make_54 ?_
    refine g_aload_n C d_M_make_55 0 rfl rfl ?_
    refine g_get C (T := FM) (N := 17) 0 4 inM rfl rfl (by decide) tw_440 rfl rfl d_M_make_56 ?_
    refine g_iload_n C d_M_make_59 3 rfl rfl ?_
    refine g_iconst C (v := nI 0) d_M_make_60 rfl ?_
    refine n_zast C (ws' := [(w, .inr (4, [.int (nI (0)), .int (nI (ru)), .ref w1, .ref w2, .ref w3, .ref w4, .ref w5, .ref w6, .int (nI (wt)), .int (nI (rd)), .long (va), .ref w7, .ref w8, .ref w9, .ref wa, .ref wb, .ref wd])), (w1, .inl (cs.2.1, 48, .inr (.inl (fun j => lN (ct j))))), (w2, .inl (cs.1, 48, .inl (fun j => nI ((updN (l2) (i) (0)) j)))), (w3, .inl (cs.2.2.1, 48, .inl (fun j => nI ((updN (r2) (i) (0)) j)))), (w7, .inl (cs.1, 48, .inl (fun j => nI (od j)))), (w8, .inl (cs.1, 1536, .inl (rw))), (w9, .inl (cs.1, 16, .inl (fun j => nI (sz j)))), (wa, .inl (cs.2.1, 96, .inr (.inl (fun j => lN (sm j))))), (wb, .inl (cs.2.1, 96, .inr (.inl (fun j => lN (bf j)))))]) 3 rfl (by omega) (by decide) (by omega) rfl d_M_make_61 ?_
    refine g_iinc C (lv' := [(3, .int (nI (i + 1))), (0, .ref w), (1, .int (nI (mo))), (2, .int (nI (nn)))]) (k := 3) d_M_make_62 rfl (nI_1 _) (by decide) rfl ?_
    refine g_goto C 42 d_M_make_65 (by decide) ?_
    refine g_lv (lv' := [(0, .ref w), (1, .int (nI (mo))), (2, .int (nI (nn))), (3, .int (nI (i + 1)))]) [1, 2, 3, 0] rfl ?_
    exact ih (48 - (i + 1)) (by omega) (i + 1) _ _ rfl (by omega) (fun j hj => by
      unfold updN
      by_cases e : j = i
      · subst e; simp
      · simp only [e, if_false]; exact hq j (by omega))
theorem pks_s9 {ct od bf sm sz : Nat → Nat} {n : Nat} {rw0 : Nat → Int32} : ∀ i, i ≠ 0 → (pkst ct od n bf sm rw0 sz i).2.2.2 (i - 1) = (rVS ct od n i).2
  | 0, h => absurd rfl h
  | i + 1, _ => by
    rw [Nat.add_sub_cancel]
    show updN (pkst ct od n bf sm rw0 sz i).2.2.2 i (n + (if i = 0 then 0 else (pkst ct od n bf sm rw0 sz i).2.2.2 (i - 1) / 2)) i = n + (rVS ct od n i).2 / 2
    rw [updN_s, pks_pr i]
set_option maxHeartbeats 4000000 in
set_option maxRecDepth 100000 in
theorem l_M_mr {p : Program} {l : Launch} {e : Env} {s : State} {m : MethodId} {args : Array Value} {below : List Frame} {meth : Method} {c : Code} {Q : State → Prop} {A : Nat → Prop} {D : va_G} {cs : ClassId × ClassId × ClassId × ClassId} (C : CX p s m args c c_M_make 8 RM D cs A) (w w1 w2 w3 w4 w5 w6 w7 w8 w9 wa wb wd : Nat) (cd ru wt rd : Nat) (va : Int64) (ct : Nat → Nat) (ln : Nat → Nat) (rg : Nat → Nat) (od : Nat → Nat) (rw : Nat → Int32) (sz : Nat → Nat) (sm : Nat → Nat) (bf : Nat → Nat) (mo nn : Nat) (hnn : nn ≤ 48) (hmo : mo ≤ 16) (hct : ∀ j, j < 48 → ct j ≤ 1000000000) (hod : ∀ j, j < nn → od j < 48)
    (K : GO p l e { frames := 1, cells := 0, slots := 0, locals := 28 } s m args below meth c 0 0 Q A D 8 106 [(0, .ref w), (1, .int (nI (mo))), (2, .int (nI (nn)))] [] [(w, .inr (4, [.int (nI (0)), .int (nI (ru)), .ref w1, .ref w2, .ref w3, .ref w4, .ref w5, .ref w6, .int (nI (wt)), .int (nI (rd)), .long (va), .ref w7, .ref w8, .ref w9, .ref wa, .ref wb, .ref wd])), (w1, .inl (cs.2.1, 48, .inr (.inl (fun j => lN (ct j))))), (w2, .inl (cs.1, 48, .inl (fun j => nI (ln j)))), (w3, .inl (cs.2.2.1, 48, .inl (fun j => nI (rg j)))), (w7, .inl (cs.1, 48, .inl (fun j => nI (od j)))), (w8, .inl (cs.1, 1536, .inl ((pkst ct od nn bf sm rw sz (mo)).2.2.1))), (w9, .inl (cs.1, 16, .inl (fun j => nI ((pkst ct od nn bf sm rw sz (mo)).2.2.2 j)))), (wa, .inl (cs.2.1, 96, .inr (.inl (fun j => lN ((pkst ct od nn bf sm rw sz (mo)).2.1 j))))), (wb, .inl (cs.2.1, 96, .inr (.inl (fun j => lN ((pkst ct od nn bf sm rw sz (mo)).1 j)))))])
    : ∀ (n : Nat) (i : Nat), mo - i = n → (i ≤ mo) → GO p l e { frames := 1, cells := 0, slots := 0, locals := 28 } s m args below meth c 0 0 Q A D 8 89 [(0, .ref w), (1, .int (nI (mo))), (2, .int (nI (nn))), (3, .int (nI (i)))] [] [(w, .inr (4, [.int (nI (0)), .int (nI (ru)), .ref w1, .ref w2, .ref w3, .ref w4, .ref w5, .ref w6, .int (nI (wt)), .int (nI (rd)), .long (va), .ref w7, .ref w8, .ref w9, .ref wa, .ref wb, .ref wd])), (w1, .inl (cs.2.1, 48, .inr (.inl (fun j => lN (ct j))))), (w2, .inl (cs.1, 48, .inl (fun j => nI (ln j)))), (w3, .inl (cs.2.2.1, 48, .inl (fun j => nI (rg j)))), (w7, .inl (cs.1, 48, .inl (fun j => nI (od j)))), (w8, .inl (cs.1, 1536, .inl ((pkst ct od nn bf sm rw sz (i)).2.2.1))), (w9, .inl (cs.1, 16, .inl (fun j => nI ((pkst ct od nn bf sm rw sz (i)).2.2.2 j)))), (wa, .inl (cs.2.1, 96, .inr (.inl (fun j => lN ((pkst ct od nn bf sm rw sz (i)).2.1 j))))), (wb, .inl (cs.2.1, 96, .inr (.inl (fun j => lN ((pkst ct od nn bf sm rw sz (i)).1 j)))))] := by
  intro n
  induction n using Nat.strongRecOn with
  | _ n ih =>
  intro i  hn hi
  refine g_iload_n C d_M_make_89 3 rfl rfl ?_
  refine g_iload_n C d_M_make_90 1 rfl rfl ?_
  refine n_icmp_ge C 106 d_M_make_91 (by decide) (by omega) (by omega) (fun h91 => ?_) (fun h91 => ?_)
  · refine g_lv (lv' := [(0, .ref w), (1, .int (nI (mo))), (2, .int (nI (nn)))]) [0, 1, 2] rfl ?_
    have e9 : i = mo := by omega
    subst e9
    exact K
  · refine g_aload_n C d_M_make_94 0 rfl rfl ?_
    refine g_iload_n C d_M_make_95 3 rfl rfl ?_
    refine g_iload_n C d_M_make_96 2 rfl rfl ?_
    refine g_callVv C (n := 2) (ws' := [(w, .inr (4, [.int (nI (0)), .int (nI (ru)), .ref w1, .ref w2, .ref w3, .ref w4, .ref w5, .ref w6, .int (nI (wt)), .int (nI (rd)), .long (va), .ref w7, .ref w8, .ref w9, .ref wa, .ref wb, .ref wd])), (w1, .inl (cs.2.1, 48, .inr (.inl (fun j => lN (ct j))))), (w2, .inl (cs.1, 48, .inl (fun j => nI (ln j)))), (w3, .inl (cs.2.2.1, 48, .inl (fun j => nI (rg j)))), (w7, .inl (cs.1, 48, .inl (fun j => nI (od j)))), (w8, .inl (cs.1, 1536, .inl ((rwm (ct) (od) ((pkst ct od nn bf sm rw sz (i)).1) (nn) (if i = 0 then 0 else (pkst ct od nn bf sm rw sz (i)).2.2.2 (i - 1) / 2) (i) ((pkst ct od nn bf sm rw sz (i)).2.2.1) (nn + (if i = 0 then 0 else (pkst ct od nn bf sm rw sz (i)).2.2.2 (i - 1) / 2)))))), (w9, .inl (cs.1, 16, .inl (fun j => nI ((updN ((pkst ct od nn bf sm rw sz (i)).2.2.2) (i) (nn + (if i = 0 then 0 else (pkst ct od nn bf sm rw sz (i)).2.2.2 (i - 1) / 2))) j)))), (wa, .inl (cs.2.1, 96, .inr (.inl (fun j => lN ((rwp (ct) (od) ((pkst ct od nn bf sm rw sz (i)).1) (nn) (if i = 0 then 0 else (pkst ct od nn bf sm rw sz (i)).2.2.2 (i - 1) / 2) ((pkst ct od nn bf sm rw sz (i)).2.1) (nn + (if i = 0 then 0 else (pkst ct od nn bf sm rw sz (i)).2.2.2 (i - 1) / 2))) j))))), (wb, .inl (cs.2.1, 96, .inr (.inl (fun j => lN ((cpb ((pkst ct od nn bf sm rw sz (i)).1) (rwp (ct) (od) ((pkst ct od nn bf sm rw sz (i)).1) (nn) (if i = 0 then 0 else (pkst ct od nn bf sm rw sz (i)).2.2.2 (i - 1) / 2) ((pkst ct od nn bf sm rw sz (i)).2.1) (nn + (if i = 0 then 0 else (pkst ct od nn bf sm rw sz (i)).2.2.2 (i - 1) / 2))) (nn + (if i = 0 then 0 else (pkst ct od nn bf sm rw sz (i)).2.2.2 (i - 1) / 2))) j)))))]) (As := [.int (nI (i)), .int (nI (nn))]) (rest := []) (m_M_pack l D cs w w1 w2 w3 w4 w5 w6 w7 w8 w9 wa wb wd (0) (ru) (wt) (rd) (va) (ct) (od) ((pkst ct od nn bf sm rw sz (i)).2.2.1) ((pkst ct od nn bf sm rw sz (i)).2.2.2) ((pkst ct od nn bf sm rw sz (i)).2.1) ((pkst ct od nn bf sm rw sz (i)).1) (i) (nn) (if i = 0 then 0 else (pkst ct od nn bf sm rw sz (i)).2.2.2 (i - 1) / 2) rfl (fun h0 => by have h8 := pks_pr (ct := ct) (od := od) (n := nn) (bf := bf) (sm := sm) (rw0 := rw) (sz := sz) i; have h9 := rVS_le ct od nn i; rw [if_neg h0] at h8; have h7 := pks_s9 (ct := ct) (od := od) (n := nn) (bf := bf) (sm := sm) (rw0 := rw) (sz := sz) i h0; omega) hnn (by rw [pks_pr i]; have h9 := rVS_le ct od nn i; omega) (by omega) hct hod (fun j hj => by rw [pks_pr i] at hj; have h9 := rVS_le ct od nn i; rw [pks_bf i j (by omega)]; have h8 := rVS_bd hct hod i j (by omega); have h7 : 2 ^ i ≤ 2 ^ 16 := Nat.pow_le_pow_right (by omega) (by omega); omega)) tw_513 tw_515 ts_17 tw_6 tw_516 rfl 0 rfl rfl (by decide +kernel) rfl ⟨rfl, rfl, by decide, by decide, by decide⟩ rfl [0, 1, 4, 5, 6, 7, 8] rfl rfl (by decide) (Nat.le_of_ble_eq_true rfl) rfl d_M_make_97 ?_
    refine g_iinc C (lv' := [(3, .int (nI (i + 1))), (0, .ref w), (1, .int (nI (mo))), (2, .int (nI (nn)))]) (k := 3) d_M_make_100 rfl (nI_1 _) (by decide) rfl ?_
    refine g_goto C 89 d_M_make_103 (by decide) ?_
    refine g_lv (lv' := [(0, .ref w), (1, .int (nI (mo))), (2, .int (nI (nn))), (3, .int (nI (i + 1)))]) [1, 2, 3, 0] rfl ?_
    exact ih (mo - (i + 1)) (by omega) (i + 1) rfl (by omega)
set_option maxHeartbeats 4000000 in
set_option maxRecDepth 100000 in
theorem l_M_mi {p : Program} {l : Launch} {e : Env} {s : State} {m : MethodId} {args : Array Value} {below : List Frame} {meth : Method} {c : Code} {Q : State → Prop} {A : Nat → Prop} {D : va_G} {cs : ClassId × ClassId × ClassId × ClassId} (C : CX p s m args c c_M_make 8 RM D cs A) (w w1 w2 w3 w4 w5 w6 w7 w8 w9 wa wb wd : Nat) (cd ru wt rd : Nat) (va : Int64) (ct : Nat → Nat) (ln : Nat → Nat) (rg : Nat → Nat) (od : Nat → Nat) (rw : Nat → Int32) (sz : Nat → Nat) (sm : Nat → Nat) (bf : Nat → Nat) (nn tk kq pr : Nat) (rv : Nat → Nat) (hkq : kq < 16) (htk : tk ≤ 96) (hod : ∀ j, j < nn → od j < 48) (hrow : ∀ t, t < tk → rw (96 * kq + t) = rsv ct od rv nn pr t)
    (K : GO p l e { frames := 1, cells := 0, slots := 0, locals := 28 } s m args below meth c 0 0 Q A D 8 194 [(0, .ref w), (2, .int (nI (nn))), (4, .int (nI (kq))), (5, .int (nI ((mst ct od rv nn pr tk).2)))] [] [(w, .inr (4, [.int (nI (0)), .int (nI (ru)), .ref w1, .ref w2, .ref w3, .ref w4, .ref w5, .ref w6, .int (nI (wt)), .int (nI (rd)), .long (va), .ref w7, .ref w8, .ref w9, .ref wa, .ref wb, .ref wd])), (w1, .inl (cs.2.1, 48, .inr (.inl (fun j => lN (ct j))))), (w2, .inl (cs.1, 48, .inl (fun j => nI ((inc ln od (mst ct od rv nn pr tk).1) j)))), (w3, .inl (cs.2.2.1, 48, .inl (fun j => nI (rg j)))), (w7, .inl (cs.1, 48, .inl (fun j => nI (od j)))), (w8, .inl (cs.1, 1536, .inl (rw))), (w9, .inl (cs.1, 16, .inl (fun j => nI (sz j)))), (wa, .inl (cs.2.1, 96, .inr (.inl (fun j => lN (sm j))))), (wb, .inl (cs.2.1, 96, .inr (.inl (fun j => lN (bf j)))))])
    : ∀ (n : Nat) (j9 : Nat), 96 - j9 = n → (j9 ≤ tk) → GO p l e { frames := 1, cells := 0, slots := 0, locals := 28 } s m args below meth c 0 0 Q A D 8 136 [(0, .ref w), (2, .int (nI (nn))), (3, .int (nI (tk))), (4, .int (nI (kq))), (5, .int (nI ((mst ct od rv nn pr j9).2))), (6, .int (nI (j9)))] [] [(w, .inr (4, [.int (nI (0)), .int (nI (ru)), .ref w1, .ref w2, .ref w3, .ref w4, .ref w5, .ref w6, .int (nI (wt)), .int (nI (rd)), .long (va), .ref w7, .ref w8, .ref w9, .ref wa, .ref wb, .ref wd])), (w1, .inl (cs.2.1, 48, .inr (.inl (fun j => lN (ct j))))), (w2, .inl (cs.1, 48, .inl (fun j => nI ((inc ln od (mst ct od rv nn pr j9).1) j)))), (w3, .inl (cs.2.2.1, 48, .inl (fun j => nI (rg j)))), (w7, .inl (cs.1, 48, .inl (fun j => nI (od j)))), (w8, .inl (cs.1, 1536, .inl (rw))), (w9, .inl (cs.1, 16, .inl (fun j => nI (sz j)))), (wa, .inl (cs.2.1, 96, .inr (.inl (fun j => lN (sm j))))), (wb, .inl (cs.2.1, 96, .inr (.inl (fun j => lN (bf j)))))] := by
  intro n
  induction n using Nat.strongRecOn with
  | _ n ih =>
  intro j9  hn hj9
  refine g_iload C d_M_make_136 5 rfl ?_
  refine g_iload_n C d_M_make_138 2 rfl rfl ?_
  refine n_icmp_ge C 194 d_M_make_139 (by decide) (by omega) (by omega) (fun h139 => ?_) (fun h139 => ?_)
  · refine g_lv (lv' := [(0, .ref w), (2, .int (nI (nn))), (4, .int (nI (kq))), (5, .int (nI ((mst ct od rv nn pr j9).2)))]) [0, 1, 3, 4] rfl ?_
    have e9 : j9 = tk := by omega
    subst e9
    exact K
  · refine g_aload_n C d_M_make_142 0 rfl rfl ?_
    refine g_get C (T := FM) (N := 17) 0 12 inM rfl rfl (by decide) tw_448 rfl rfl d_M_make_143 ?_
    refine g_bipush C (v := nI 96) d_M_make_146 rfl ?_
    refine g_iload C d_M_make_148 3 rfl ?_
    refine g_imul C (v := nI ((96) * (kq))) d_M_make_150 (pk_mul _ _) ?_
    refine g_iload C d_M_make_151 5 rfl ?_
    refine g_iadd C (v := nI ((96) * (kq) + j9)) d_M_make_153 (nI_add _ _) ?_
    refine g_iald C 5 rfl (by omega) (by decide) d_M_make_154 ?_
    by_cases hsy : sym ct od rv nn pr (mst ct od rv nn pr j9) = true
    · have hs1 := (of_decide_eq_true hsy).1
      have hg := ih (96 - (j9 + 1)) (by omega) (j9 + 1) rfl (by omega)
      rw [mst_s hsy] at hg
      refine g_toi (v := nI (od (mst ct od rv nn pr j9).1)) (by rw [hrow j9 (by omega), rsv, if_pos hsy]) ?_
      refine g_istore C (lv' := [(7, .int (nI (od (mst ct od rv nn pr j9).1))), (0, .ref w), (2, .int (nI (nn))), (3, .int (nI (tk))), (4, .int (nI (kq))), (5, .int (nI ((mst ct od rv nn pr j9).2))), (6, .int (nI (j9)))]) d_M_make_155 (by decide) rfl ?_
      refine g_iload C d_M_make_157 5 rfl ?_
      refine g_iload C d_M_make_159 0 rfl ?_
      refine n_if_ge C 168 d_M_make_161 (by decide) (by have := hod _ hs1; omega) ?_
      refine g_iconst C (v := nI 0) d_M_make_168 rfl ?_
      refine g_iadd C (v := nI ((mst ct od rv nn pr j9).2 + 0)) d_M_make_169 (nI_add _ _) ?_
      refine g_istore C (lv' := [(5, .int (nI ((mst ct od rv nn pr j9).2 + 0))), (7, .int (nI (od (mst ct od rv nn pr j9).1))), (0, .ref w), (2, .int (nI (nn))), (3, .int (nI (tk))), (4, .int (nI (kq))), (6, .int (nI (j9)))]) d_M_make_170 (by decide) rfl ?_
      refine g_iload C d_M_make_172 1 rfl ?_
      refine n_if_lt C 188 d_M_make_174 (by decide) (by have := hod _ hs1; omega) ?_
      refine g_aload_n C d_M_make_177 2 rfl rfl ?_
      refine g_get C (T := FM) (N := 17) 0 3 inM rfl rfl (by decide) tw_439 rfl rfl d_M_make_178 ?_
      refine g_iload C d_M_make_181 1 rfl ?_
      refine g_dup2 C d_M_make_183 rfl rfl ?_
      refine g_iald C 2 rfl (hod _ hs1) (by decide) d_M_make_184 ?_
      refine g_iconst C (v := nI 1) d_M_make_185 rfl ?_
      refine g_iadd C (v := nI ((inc ln od (mst ct od rv nn pr j9).1) (od (mst ct od rv nn pr j9).1) + 1)) d_M_make_186 (nI_add _ _) ?_
      refine n_iast C (ws' := [(w, .inr (4, [.int (nI (0)), .int (nI (ru)), .ref w1, .ref w2, .ref w3, .ref w4, .ref w5, .ref w6, .int (nI (wt)), .int (nI (rd)), .long (va), .ref w7, .ref w8, .ref w9, .ref wa, .ref wb, .ref wd])), (w1, .inl (cs.2.1, 48, .inr (.inl (fun j => lN (ct j))))), (w2, .inl (cs.1, 48, .inl (fun j => nI ((updN ((inc ln od (mst ct od rv nn pr j9).1)) (od (mst ct od rv nn pr j9).1) ((inc ln od (mst ct od rv nn pr j9).1) (od (mst ct od rv nn pr j9).1) + 1)) j)))), (w3, .inl (cs.2.2.1, 48, .inl (fun j => nI (rg j)))), (w7, .inl (cs.1, 48, .inl (fun j => nI (od j)))), (w8, .inl (cs.1, 1536, .inl (rw))), (w9, .inl (cs.1, 16, .inl (fun j => nI (sz j)))), (wa, .inl (cs.2.1, 96, .inr (.inl (fun j => lN (sm j))))), (wb, .inl (cs.2.1, 96, .inr (.inl (fun j => lN (bf j)))))]) 2 rfl (hod _ hs1) (by decide) rfl d_M_make_187 ?_
      refine g_iinc C (lv' := [(6, .int (nI (j9 + 1))), (5, .int (nI ((mst ct od rv nn pr j9).2 + 0))), (7, .int (nI (od (mst ct od rv nn pr j9).1))), (0, .ref w), (2, .int (nI (nn))), (3, .int (nI (tk))), (4, .int (nI (kq)))]) (k := 6) d_M_make_188 rfl (nI_1 _) (by decide) rfl ?_
      refine g_goto C 136 d_M_make_191 (by decide) ?_
      refine g_lv (lv' := [(0, .ref w), (2, .int (nI (nn))), (3, .int (nI (tk))), (4, .int (nI (kq))), (5, .int (nI ((mst ct od rv nn pr j9).2 + 0))), (6, .int (nI (j9 + 1)))]) [3, 4, 5, 6, 1, 0] rfl ?_
      exact hg
    · have hg := ih (96 - (j9 + 1)) (by omega) (j9 + 1) rfl (by omega)
      rw [mst_p hsy] at hg
      refine g_toi (v := (-1)) (by rw [hrow j9 (by omega), rsv, if_neg hsy]) ?_
      refine g_istore C (lv' := [(7, .int ((-1))), (0, .ref w), (2, .int (nI (nn))), (3, .int (nI (tk))), (4, .int (nI (kq))), (5, .int (nI ((mst ct od rv nn pr j9).2))), (6, .int (nI (j9)))]) d_M_make_155 (by decide) rfl ?_
      refine g_iload C d_M_make_157 5 rfl ?_
      refine g_iload C d_M_make_159 0 rfl ?_
      refine g_if_ge C 168 d_M_make_161 (by decide) (fun h => absurd h (by decide)) (fun _ => ?_)
      refine g_iconst C (v := nI 1) d_M_make_164 rfl ?_
      refine g_goto C 169 d_M_make_165 (by decide) ?_
      refine g_iadd C (v := nI ((mst ct od rv nn pr j9).2 + 1)) d_M_make_169 (nI_add _ _) ?_
      refine g_istore C (lv' := [(5, .int (nI ((mst ct od rv nn pr j9).2 + 1))), (7, .int ((-1))), (0, .ref w), (2, .int (nI (nn))), (3, .int (nI (tk))), (4, .int (nI (kq))), (6, .int (nI (j9)))]) d_M_make_170 (by decide) rfl ?_
      refine g_iload C d_M_make_172 1 rfl ?_
      refine g_if_lt C 188 d_M_make_174 (by decide) (fun _ => ?_) (fun h => absurd (by decide) h)
      refine g_iinc C (lv' := [(6, .int (nI (j9 + 1))), (5, .int (nI ((mst ct od rv nn pr j9).2 + 1))), (7, .int ((-1))), (0, .ref w), (2, .int (nI (nn))), (3, .int (nI (tk))), (4, .int (nI (kq)))]) (k := 6) d_M_make_188 rfl (nI_1 _) (by decide) rfl ?_
      refine g_goto C 136 d_M_make_191 (by decide) ?_
      refine g_lv (lv' := [(0, .ref w), (2, .int (nI (nn))), (3, .int (nI (tk))), (4, .int (nI (kq))), (5, .int (nI ((mst ct od rv nn pr j9).2 + 1))), (6, .int (nI (j9 + 1)))]) [3, 4, 5, 6, 1, 0] rfl ?_
      exact hg
set_option maxHeartbeats 4000000 in
set_option maxRecDepth 100000 in
theorem l_M_mc {p : Program} {l : Launch} {e : Env} {s : State} {m : MethodId} {args : Array Value} {below : List Frame} {meth : Method} {c : Code} {A : Nat → Prop} {D : va_G} {cs : ClassId × ClassId × ClassId × ClassId} (C : CX p s m args c c_M_make 8 RM D cs A) (w w1 w2 w3 w4 w5 w6 w7 w8 w9 wa wb wd : Nat) (cd ru wt rd : Nat) (va : Int64) (ct : Nat → Nat) (ln : Nat → Nat) (rg : Nat → Nat) (od : Nat → Nat) (rw : Nat → Int32) (sz : Nat → Nat) (sm : Nat → Nat) (bf : Nat → Nat) (mo nn t0 : Nat) (hnn : nn ≤ 48) (hod : ∀ j, j < nn → od j < 48) (hmo : mo ≤ 16) (hrow : ∀ k, k < mo → ∀ t, t < (rVS ct od nn (k + 1)).2 → rw (96 * k + t) = rsv ct od (rVS ct od nn k).1 nn ((rVS ct od nn k).2 / 2) t) (hr : meth.sig.returnType = some .int) (hlk : meth.locks = false) : ∀ (t : Nat) (ln2 : Nat → Nat) (tk : Nat), t ≤ mo → tk ≤ (rVS ct od nn t).2 → ctm ct od nn t ln2 tk = ctm ct od nn mo (fun _ => 0) t0 → GO p l e { frames := 1, cells := 0, slots := 0, locals := 28 } s m args below meth c 0 0 (MQ below (QI D (nI (nn)) [(w, .inr (4, [.int (nI (0)), .int (nI (ru)), .ref w1, .ref w2, .ref w3, .ref w4, .ref w5, .ref w6, .int (nI (wt)), .int (nI (rd)), .long (va), .ref w7, .ref w8, .ref w9, .ref wa, .ref wb, .ref wd])), (w1, .inl (cs.2.1, 48, .inr (.inl (fun j => lN (ct j))))), (w2, .inl (cs.1, 48, .inl (fun j => nI ((ctm ct od nn mo (fun _ => 0) t0) j)))), (w3, .inl (cs.2.2.1, 48, .inl (fun j => nI (rg j)))), (w7, .inl (cs.1, 48, .inl (fun j => nI (od j)))), (w8, .inl (cs.1, 1536, .inl (rw))), (w9, .inl (cs.1, 16, .inl (fun j => nI (sz j)))), (wa, .inl (cs.2.1, 96, .inr (.inl (fun j => lN (sm j))))), (wb, .inl (cs.2.1, 96, .inr (.inl (fun j => lN (bf j)))))] A) args s 0 0 A) A D 8 125 [(0, .ref w), (2, .int (nI (nn))), (3, .int (nI (tk))), (4, .int (nI t - 1))] [] [(w, .inr (4, [.int (nI (0)), .int (nI (ru)), .ref w1, .ref w2, .ref w3, .ref w4, .ref w5, .ref w6, .int (nI (wt)), .int (nI (rd)), .long (va), .ref w7, .ref w8, .ref w9, .ref wa, .ref wb, .ref wd])), (w1, .inl (cs.2.1, 48, .inr (.inl (fun j => lN (ct j))))), (w2, .inl (cs.1, 48, .inl (fun j => nI (ln2 j)))), (w3, .inl (cs.2.2.1, 48, .inl (fun j => nI (rg j)))), (w7, .inl (cs.1, 48, .inl (fun j => nI (od j)))), (w8, .inl (cs.1, 1536, .inl (rw))), (w9, .inl (cs.1, 16, .inl (fun j => nI (sz j)))), (wa, .inl (cs.2.1, 96, .inr (.inl (fun j => lN (sm j))))), (wb, .inl (cs.2.1, 96, .inr (.inl (fun j => lN (bf j)))))] := by
  intro t
  induction t with
  | zero =>
    intro ln2 tk ht htk he
    rw [nI_0m1]
    refine g_iload C d_M_make_125 3 rfl ?_
    refine g_if_lt C 205 d_M_make_127 (by decide) (fun _ => ?_) (fun h => absurd (by decide) h)
    refine g_iload_n C d_M_make_205 1 rfl rfl ?_
    exact g_iret C hr hlk rfl (by rw [← he]; rfl) d_M_make_206
  | succ t ih =>
    intro ln2 tk ht htk he
    rw [nI_pred t]
    have hsz := rVS_le ct od nn (t + 1)
    refine g_iload C d_M_make_125 3 rfl ?_
    refine n_if_lt C 205 d_M_make_127 (by decide) (by omega) ?_
    refine g_iconst C (v := nI 0) d_M_make_130 rfl ?_
    refine g_istore C (lv' := [(5, .int (nI (0))), (0, .ref w), (2, .int (nI (nn))), (3, .int (nI (tk))), (4, .int (nI (t)))]) d_M_make_131 (by decide) rfl ?_
    refine g_iconst C (v := nI 0) d_M_make_133 rfl ?_
    refine g_istore C (lv' := [(6, .int (nI (0))), (5, .int (nI (0))), (0, .ref w), (2, .int (nI (nn))), (3, .int (nI (tk))), (4, .int (nI (t)))]) d_M_make_134 (by decide) rfl ?_
    refine g_lv (lv' := [(0, .ref w), (2, .int (nI (nn))), (3, .int (nI (tk))), (4, .int (nI (t))), (5, .int (nI (0))), (6, .int (nI (0)))]) [2, 3, 4, 5, 1, 0] rfl ?_
    refine l_M_mi C w w1 w2 w3 w4 w5 w6 w7 w8 w9 wa wb wd 0 ru wt rd va  (ct) (ln2) (rg) (od) (rw) (sz) (sm) (bf) nn tk t ((rVS ct od nn t).2 / 2) (rVS ct od nn t).1 (by omega) (by omega) hod (fun t9 h9 => hrow t (by omega) t9 (by omega)) ?_ _ 0 rfl (by omega)
    refine g_iconst C (v := nI 2) d_M_make_194 rfl ?_
    refine g_iload C d_M_make_195 3 rfl ?_
    refine g_imul C (v := nI ((2) * ((mst ct od (rVS ct od nn t).1 nn ((rVS ct od nn t).2 / 2) tk).2))) d_M_make_197 (pk_mul _ _) ?_
    refine g_istore_n C (lv' := [(3, .int (nI ((2) * ((mst ct od (rVS ct od nn t).1 nn ((rVS ct od nn t).2 / 2) tk).2)))), (0, .ref w), (2, .int (nI (nn))), (4, .int (nI (t))), (5, .int (nI ((mst ct od (rVS ct od nn t).1 nn ((rVS ct od nn t).2 / 2) tk).2)))]) d_M_make_198 rfl (by decide) rfl ?_
    refine g_iinc C (lv' := [(4, .int (nI (t) - 1)), (3, .int (nI ((2) * ((mst ct od (rVS ct od nn t).1 nn ((rVS ct od nn t).2 / 2) tk).2)))), (0, .ref w), (2, .int (nI (nn))), (5, .int (nI ((mst ct od (rVS ct od nn t).1 nn ((rVS ct od nn t).2 / 2) tk).2)))]) (k := 3) d_M_make_199 rfl (dec_raw _) (by decide) rfl ?_
    refine g_goto C 125 d_M_make_202 (by decide) ?_
    refine g_lv (lv' := [(0, .ref w), (2, .int (nI (nn))), (3, .int (nI ((2) * ((mst ct od (rVS ct od nn t).1 nn ((rVS ct od nn t).2 / 2) tk).2)))), (4, .int (nI (t) - 1))]) [2, 3, 1, 0] rfl ?_
    exact ih _ _ (by omega) (ctm_tk htk) (by rw [← he, ctm]; rfl)
set_option maxHeartbeats 4000000 in
set_option maxRecDepth 100000 in
theorem m_M_make_1 (l : Launch) (D : va_G) (cs : ClassId × ClassId × ClassId × ClassId) (w w1 w2 w3 w4 w5 w6 w7 w8 w9 wa wb wd : Nat) (cd ru wt rd : Nat) (va : Int64) (ct : Nat → Nat) (ln : Nat → Nat) (rg : Nat → Nat) (od : Nat → Nat) (rw : Nat → Int32) (sz : Nat → Nat) (sm : Nat → Nat) (bf : Nat → Nat) (x : Int32) (hx : x < nI 1 ∨ ¬ x ≤ nI 16) : MG l y_M_make k_M_make { frames := 1, cells := 0, slots := 0, locals := 28 } D cs [.ref w, .int (x)] [(w, .inr (4, [.int (nI (cd)), .int (nI (ru)), .ref w1, .ref w2, .ref w3, .ref w4, .ref w5, .ref w6, .int (nI (wt)), .int (nI (rd)), .long (va), .ref w7, .ref w8, .ref w9, .ref wa, .ref wb, .ref wd])), (w1, .inl (cs.2.1, 48, .inr (.inl (fun j => lN (ct j))))), (w2, .inl (cs.1, 48, .inl (fun j => nI (ln j)))), (w3, .inl (cs.2.2.1, 48, .inl (fun j => nI (rg j)))), (w7, .inl (cs.1, 48, .inl (fun j => nI (od j)))), (w8, .inl (cs.1, 1536, .inl (rw))), (w9, .inl (cs.1, 16, .inl (fun j => nI (sz j)))), (wa, .inl (cs.2.1, 96, .inr (.inl (fun j => lN (sm j))))), (wb, .inl (cs.2.1, 96, .inr (.inl (fun j => lN (bf j)))))] (QI D (nI (0)) [(w, .inr (4, [.int (nI (1)), .int (nI (ru)), .ref w1, .ref w2, .ref w3, .ref w4, .ref w5, .ref w6, .int (nI (wt)), .int (nI (rd)), .long (va), .ref w7, .ref w8, .ref w9, .ref wa, .ref wb, .ref wd])), (w1, .inl (cs.2.1, 48, .inr (.inl (fun j => lN (ct j))))), (w2, .inl (cs.1, 48, .inl (fun j => nI (ln j)))), (w3, .inl (cs.2.2.1, 48, .inl (fun j => nI (rg j)))), (w7, .inl (cs.1, 48, .inl (fun j => nI (od j)))), (w8, .inl (cs.1, 1536, .inl (rw))), (w9, .inl (cs.1, 16, .inl (fun j => nI (sz j)))), (wa, .inl (cs.2.1, 96, .inr (.inl (fun j => lN (sm j))))), (wb, .inl (cs.2.1, 96, .inr (.inl (fun j => lN (bf j)))))]) := by
  refine MG.mk (own := RM) (by decide) rfl (Nat.le_of_ble_eq_true rfl) ?_
  intro p e s m below meth c A C hr hlk
  refine g_lv (lv' := [(0, .ref w), (1, .int (x))]) [0, 1] rfl ?_
  refine g_aload_n C d_M_make_0 0 rfl rfl ?_
  refine g_iload_n C d_M_make_1 1 rfl rfl ?_
  refine g_iconst C (v := nI 1) d_M_make_2 rfl ?_
  refine g_icmp_lt C 16 d_M_make_3 (by decide) (fun h3 => ?_) (fun h3 => ?_)
  · refine g_iconst C (v := nI 0) d_M_make_16 rfl ?_
    refine g_iconst C (v := nI 1) d_M_make_17 rfl ?_
    refine g_callVi C (n := 2) (ws' := [(w, .inr (4, [.int (nI (1)), .int (nI (ru)), .ref w1, .ref w2, .ref w3, .ref w4, .ref w5, .ref w6, .int (nI (wt)), .int (nI (rd)), .long (va), .ref w7, .ref w8, .ref w9, .ref wa, .ref wb, .ref wd])), (w1, .inl (cs.2.1, 48, .inr (.inl (fun j => lN (ct j))))), (w2, .inl (cs.1, 48, .inl (fun j => nI (ln j)))), (w3, .inl (cs.2.2.1, 48, .inl (fun j => nI (rg j)))), (w7, .inl (cs.1, 48, .inl (fun j => nI (od j)))), (w8, .inl (cs.1, 1536, .inl (rw))), (w9, .inl (cs.1, 16, .inl (fun j => nI (sz j)))), (wa, .inl (cs.2.1, 96, .inr (.inl (fun j => lN (sm j))))), (wb, .inl (cs.2.1, 96, .inr (.inl (fun j => lN (bf j)))))]) (As := [.int (nI (0)), .int (nI (1))]) (rest := []) (m_M_fails_1 l D cs w w1 w2 w3 w4 w5 w6 w7 w8 w9 wa wb wd (cd) (ru) (wt) (rd) (va)  (1)) tw_501 tw_503 ts_15 tw_6 tw_504 rfl 0 rfl rfl (by decide +kernel) rfl ⟨rfl, rfl, by decide, by decide, by decide⟩ rfl [0] rfl rfl (by decide) (Nat.le_of_ble_eq_true rfl) rfl d_M_make_18 ?_
    refine n_if_eq C 26 d_M_make_21 (by decide) (by omega) (fun h => absurd h (by omega)) (fun _ => ?_)
    refine g_iconst C (v := nI 0) d_M_make_24 rfl ?_
    exact g_iret C hr hlk rfl rfl d_M_make_25
  · refine g_iload_n C d_M_make_6 1 rfl rfl ?_
    refine g_bipush C (v := nI 16) d_M_make_7 rfl ?_
    refine g_icmp_gt C 16 d_M_make_9 (by decide) (fun h9 => ?_) (fun h9 => ?_)
    · refine g_iconst C (v := nI 0) d_M_make_16 rfl ?_
      refine g_iconst C (v := nI 1) d_M_make_17 rfl ?_
      refine g_callVi C (n := 2) (ws' := [(w, .inr (4, [.int (nI (1)), .int (nI (ru)), .ref w1, .ref w2, .ref w3, .ref w4, .ref w5, .ref w6, .int (nI (wt)), .int (nI (rd)), .long (va), .ref w7, .ref w8, .ref w9, .ref wa, .ref wb, .ref wd])), (w1, .inl (cs.2.1, 48, .inr (.inl (fun j => lN (ct j))))), (w2, .inl (cs.1, 48, .inl (fun j => nI (ln j)))), (w3, .inl (cs.2.2.1, 48, .inl (fun j => nI (rg j)))), (w7, .inl (cs.1, 48, .inl (fun j => nI (od j)))), (w8, .inl (cs.1, 1536, .inl (rw))), (w9, .inl (cs.1, 16, .inl (fun j => nI (sz j)))), (wa, .inl (cs.2.1, 96, .inr (.inl (fun j => lN (sm j))))), (wb, .inl (cs.2.1, 96, .inr (.inl (fun j => lN (bf j)))))]) (As := [.int (nI (0)), .int (nI (1))]) (rest := []) (m_M_fails_1 l D cs w w1 w2 w3 w4 w5 w6 w7 w8 w9 wa wb wd (cd) (ru) (wt) (rd) (va)  (1)) tw_501 tw_503 ts_15 tw_6 tw_504 rfl 0 rfl rfl (by decide +kernel) rfl ⟨rfl, rfl, by decide, by decide, by decide⟩ rfl [0] rfl rfl (by decide) (Nat.le_of_ble_eq_true rfl) rfl d_M_make_18 ?_
      refine n_if_eq C 26 d_M_make_21 (by decide) (by omega) (fun h => absurd h (by omega)) (fun _ => ?_)
      refine g_iconst C (v := nI 0) d_M_make_24 rfl ?_
      exact g_iret C hr hlk rfl rfl d_M_make_25
    · exact hx.elim (fun h => absurd h (by assumption)) (fun h => absurd (Int32.not_lt.mp (by assumption)) h)
set_option maxHeartbeats 4000000 in
set_option maxRecDepth 100000 in
theorem m_M_make_n (l : Launch) (D : va_G) (cs : ClassId × ClassId × ClassId × ClassId) (w w1 w2 w3 w4 w5 w6 w7 w8 w9 wa wb wd : Nat) (cd ru wt rd : Nat) (va : Int64) (ct : Nat → Nat) (ln : Nat → Nat) (rg : Nat → Nat) (od : Nat → Nat) (rw : Nat → Int32) (sz : Nat → Nat) (sm : Nat → Nat) (bf : Nat → Nat) (mo : Nat) (h1 : 1 ≤ mo) (hmo : mo ≤ 16) (hct : ∀ j, j < 48 → ct j ≤ 1000000000) (hn : 2 ^ mo < (srt ct 48 od 0).2) : MG l y_M_make k_M_make { frames := 1, cells := 0, slots := 0, locals := 28 } D cs [.ref w, .int (nI (mo))] [(w, .inr (4, [.int (nI (cd)), .int (nI (ru)), .ref w1, .ref w2, .ref w3, .ref w4, .ref w5, .ref w6, .int (nI (wt)), .int (nI (rd)), .long (va), .ref w7, .ref w8, .ref w9, .ref wa, .ref wb, .ref wd])), (w1, .inl (cs.2.1, 48, .inr (.inl (fun j => lN (ct j))))), (w2, .inl (cs.1, 48, .inl (fun j => nI (ln j)))), (w3, .inl (cs.2.2.1, 48, .inl (fun j => nI (rg j)))), (w7, .inl (cs.1, 48, .inl (fun j => nI (od j)))), (w8, .inl (cs.1, 1536, .inl (rw))), (w9, .inl (cs.1, 16, .inl (fun j => nI (sz j)))), (wa, .inl (cs.2.1, 96, .inr (.inl (fun j => lN (sm j))))), (wb, .inl (cs.2.1, 96, .inr (.inl (fun j => lN (bf j)))))] (QI D ((-1)) [(w, .inr (4, [.int (nI (0)), .int (nI (ru)), .ref w1, .ref w2, .ref w3, .ref w4, .ref w5, .ref w6, .int (nI (wt)), .int (nI (rd)), .long (va), .ref w7, .ref w8, .ref w9, .ref wa, .ref wb, .ref wd])), (w1, .inl (cs.2.1, 48, .inr (.inl (fun j => lN (ct j))))), (w2, .inl (cs.1, 48, .inl (fun j => nI (ln j)))), (w3, .inl (cs.2.2.1, 48, .inl (fun j => nI (rg j)))), (w7, .inl (cs.1, 48, .inl (fun j => nI ((srt (ct) 48 (od) 0).1 j)))), (w8, .inl (cs.1, 1536, .inl (rw))), (w9, .inl (cs.1, 16, .inl (fun j => nI (sz j)))), (wa, .inl (cs.2.1, 96, .inr (.inl (fun j => lN (sm j))))), (wb, .inl (cs.2.1, 96, .inr (.inl (fun j => lN (bf j)))))]) := by
  refine MG.mk (own := RM) (by decide) rfl (Nat.le_of_ble_eq_true rfl) ?_
  intro p e s m below meth c A C hr hlk
  refine g_lv (lv' := [(0, .ref w), (1, .int (nI (mo)))]) [0, 1] rfl ?_
  refine g_aload_n C d_M_make_0 0 rfl rfl ?_
  refine g_iload_n C d_M_make_1 1 rfl rfl ?_
  refine g_iconst C (v := nI 1) d_M_make_2 rfl ?_
  refine n_icmp_lt C 16 d_M_make_3 (by decide) (by omega) (by omega) (fun h => absurd h (by omega)) (fun _ => ?_)
  refine g_iload_n C d_M_make_6 1 rfl rfl ?_
  refine g_bipush C (v := nI 16) d_M_make_7 rfl ?_
  refine n_icmp_gt C 16 d_M_make_9 (by decide) (by omega) (by omega) (fun h => absurd h (by omega)) (fun _ => ?_)
  refine g_iconst C (v := nI 1) d_M_make_12 rfl ?_
  refine g_goto C 17 d_M_make_13 (by decide) ?_
  refine g_iconst C (v := nI 1) d_M_make_17 rfl ?_
  refine g_callVi C (n := 2) (ws' := [(w, .inr (4, [.int (nI (0)), .int (nI (ru)), .ref w1, .ref w2, .ref w3, .ref w4, .ref w5, .ref w6, .int (nI (wt)), .int (nI (rd)), .long (va), .ref w7, .ref w8, .ref w9, .ref wa, .ref wb, .ref wd])), (w1, .inl (cs.2.1, 48, .inr (.inl (fun j => lN (ct j))))), (w2, .inl (cs.1, 48, .inl (fun j => nI (ln j)))), (w3, .inl (cs.2.2.1, 48, .inl (fun j => nI (rg j)))), (w7, .inl (cs.1, 48, .inl (fun j => nI (od j)))), (w8, .inl (cs.1, 1536, .inl (rw))), (w9, .inl (cs.1, 16, .inl (fun j => nI (sz j)))), (wa, .inl (cs.2.1, 96, .inr (.inl (fun j => lN (sm j))))), (wb, .inl (cs.2.1, 96, .inr (.inl (fun j => lN (bf j)))))]) (As := [.int (nI (1)), .int (nI (1))]) (rest := []) (m_M_fails_0 l D cs w w1 w2 w3 w4 w5 w6 w7 w8 w9 wa wb wd (cd) (ru) (wt) (rd) (va)  ) tw_501 tw_503 ts_15 tw_6 tw_504 rfl 0 rfl rfl (by decide +kernel) rfl ⟨rfl, rfl, by decide, by decide, by decide⟩ rfl [0] rfl rfl (by decide) (Nat.le_of_ble_eq_true rfl) rfl d_M_make_18 ?_
  refine n_if_eq C 26 d_M_make_21 (by decide) (by omega) (fun _ => ?_) (fun h => absurd h (by omega))
  refine g_aload_n C d_M_make_26 0 rfl rfl ?_
  refine g_callVi C (n := 0) (ws' := [(w, .inr (4, [.int (nI (0)), .int (nI (ru)), .ref w1, .ref w2, .ref w3, .ref w4, .ref w5, .ref w6, .int (nI (wt)), .int (nI (rd)), .long (va), .ref w7, .ref w8, .ref w9, .ref wa, .ref wb, .ref wd])), (w1, .inl (cs.2.1, 48, .inr (.inl (fun j => lN (ct j))))), (w2, .inl (cs.1, 48, .inl (fun j => nI (ln j)))), (w3, .inl (cs.2.2.1, 48, .inl (fun j => nI (rg j)))), (w7, .inl (cs.1, 48, .inl (fun j => nI ((srt (ct) 48 (od) 0).1 j)))), (w8, .inl (cs.1, 1536, .inl (rw))), (w9, .inl (cs.1, 16, .inl (fun j => nI (sz j)))), (wa, .inl (cs.2.1, 96, .inr (.inl (fun j => lN (sm j))))), (wb, .inl (cs.2.1, 96, .inr (.inl (fun j => lN (bf j)))))]) (As := []) (rest := []) (m_M_sort l D cs w w1 w2 w3 w4 w5 w6 w7 w8 w9 wa wb wd (0) (ru) (wt) (rd) (va) (ct) (od) hct) tw_509 tw_511 ts_16 tw_6 tw_512 rfl 0 rfl rfl (by decide +kernel) rfl ⟨rfl, rfl, by decide, by decide, by decide⟩ rfl [0, 1, 4] rfl rfl (by decide) (Nat.le_of_ble_eq_true rfl) rfl d_M_make_27 ?_
  refine g_istore_n C (lv' := [(2, .int (nI ((srt (ct) 48 (od) 0).2))), (0, .ref w), (1, .int (nI (mo)))]) d_M_make_30 rfl (by decide) rfl ?_
  refine g_iload_n C d_M_make_31 0 rfl rfl ?_
  refine g_iconst C (v := nI 1) d_M_make_32 rfl ?_
  refine g_iload_n C d_M_make_33 2 rfl rfl ?_
  refine g_ishl C (v := nI (2 ^ mo)) d_M_make_34 ((n_shl ⟨by omega, by have : 2 ^ mo ≤ 2 ^ 16 := Nat.pow_le_pow_right (by omega) hmo; omega⟩).trans (by rw [Nat.one_mul])) ?_
  refine n_icmp_le C 40 d_M_make_35 (by decide) (by have := (srt_48 ct od).1; omega) (by have : 2 ^ mo ≤ 2 ^ 16 := Nat.pow_le_pow_right (by omega) hmo; omega) (fun h => absurd h (by omega)) (fun _ => ?_)
  refine g_iconst C (v := (-1)) d_M_make_38 rfl ?_
  exact g_iret C hr hlk rfl rfl d_M_make_39
set_option maxHeartbeats 4000000 in
set_option maxRecDepth 100000 in
theorem m_M_make_o (l : Launch) (D : va_G) (cs : ClassId × ClassId × ClassId × ClassId) (w w1 w2 w3 w4 w5 w6 w7 w8 w9 wa wb wd : Nat) (cd ru wt rd : Nat) (va : Int64) (ct : Nat → Nat) (ln : Nat → Nat) (rg : Nat → Nat) (od : Nat → Nat) (rw : Nat → Int32) (sz : Nat → Nat) (sm : Nat → Nat) (bf : Nat → Nat) (mo : Nat) (h1 : 1 ≤ mo) (hmo : mo ≤ 16) (hct : ∀ j, j < 48 → ct j ≤ 1000000000) (hn : (srt ct 48 od 0).2 = 1) : MG l y_M_make k_M_make { frames := 1, cells := 0, slots := 0, locals := 28 } D cs [.ref w, .int (nI (mo))] [(w, .inr (4, [.int (nI (cd)), .int (nI (ru)), .ref w1, .ref w2, .ref w3, .ref w4, .ref w5, .ref w6, .int (nI (wt)), .int (nI (rd)), .long (va), .ref w7, .ref w8, .ref w9, .ref wa, .ref wb, .ref wd])), (w1, .inl (cs.2.1, 48, .inr (.inl (fun j => lN (ct j))))), (w2, .inl (cs.1, 48, .inl (fun j => nI (ln j)))), (w3, .inl (cs.2.2.1, 48, .inl (fun j => nI (rg j)))), (w7, .inl (cs.1, 48, .inl (fun j => nI (od j)))), (w8, .inl (cs.1, 1536, .inl (rw))), (w9, .inl (cs.1, 16, .inl (fun j => nI (sz j)))), (wa, .inl (cs.2.1, 96, .inr (.inl (fun j => lN (sm j))))), (wb, .inl (cs.2.1, 96, .inr (.inl (fun j => lN (bf j)))))] (QI D (nI ((srt (ct) 48 (od) 0).2)) [(w, .inr (4, [.int (nI (0)), .int (nI (ru)), .ref w1, .ref w2, .ref w3, .ref w4, .ref w5, .ref w6, .int (nI (wt)), .int (nI (rd)), .long (va), .ref w7, .ref w8, .ref w9, .ref wa, .ref wb, .ref wd])), (w1, .inl (cs.2.1, 48, .inr (.inl (fun j => lN (ct j))))), (w2, .inl (cs.1, 48, .inl (fun j => nI ((updN ((fun _ => 0)) ((srt (ct) 48 (od) 0).1 (0)) (1)) j)))), (w3, .inl (cs.2.2.1, 48, .inl (fun j => nI ((fun _ => 0) j)))), (w7, .inl (cs.1, 48, .inl (fun j => nI ((srt (ct) 48 (od) 0).1 j)))), (w8, .inl (cs.1, 1536, .inl (rw))), (w9, .inl (cs.1, 16, .inl (fun j => nI (sz j)))), (wa, .inl (cs.2.1, 96, .inr (.inl (fun j => lN (sm j))))), (wb, .inl (cs.2.1, 96, .inr (.inl (fun j => lN (bf j)))))]) := by
  refine MG.mk (own := RM) (by decide) rfl (Nat.le_of_ble_eq_true rfl) ?_
  intro p e s m below meth c A C hr hlk
  refine g_lv (lv' := [(0, .ref w), (1, .int (nI (mo)))]) [0, 1] rfl ?_
  refine g_aload_n C d_M_make_0 0 rfl rfl ?_
  refine g_iload_n C d_M_make_1 1 rfl rfl ?_
  refine g_iconst C (v := nI 1) d_M_make_2 rfl ?_
  refine n_icmp_lt C 16 d_M_make_3 (by decide) (by omega) (by omega) (fun h => absurd h (by omega)) (fun _ => ?_)
  refine g_iload_n C d_M_make_6 1 rfl rfl ?_
  refine g_bipush C (v := nI 16) d_M_make_7 rfl ?_
  refine n_icmp_gt C 16 d_M_make_9 (by decide) (by omega) (by omega) (fun h => absurd h (by omega)) (fun _ => ?_)
  refine g_iconst C (v := nI 1) d_M_make_12 rfl ?_
  refine g_goto C 17 d_M_make_13 (by decide) ?_
  refine g_iconst C (v := nI 1) d_M_make_17 rfl ?_
  refine g_callVi C (n := 2) (ws' := [(w, .inr (4, [.int (nI (0)), .int (nI (ru)), .ref w1, .ref w2, .ref w3, .ref w4, .ref w5, .ref w6, .int (nI (wt)), .int (nI (rd)), .long (va), .ref w7, .ref w8, .ref w9, .ref wa, .ref wb, .ref wd])), (w1, .inl (cs.2.1, 48, .inr (.inl (fun j => lN (ct j))))), (w2, .inl (cs.1, 48, .inl (fun j => nI (ln j)))), (w3, .inl (cs.2.2.1, 48, .inl (fun j => nI (rg j)))), (w7, .inl (cs.1, 48, .inl (fun j => nI (od j)))), (w8, .inl (cs.1, 1536, .inl (rw))), (w9, .inl (cs.1, 16, .inl (fun j => nI (sz j)))), (wa, .inl (cs.2.1, 96, .inr (.inl (fun j => lN (sm j))))), (wb, .inl (cs.2.1, 96, .inr (.inl (fun j => lN (bf j)))))]) (As := [.int (nI (1)), .int (nI (1))]) (rest := []) (m_M_fails_0 l D cs w w1 w2 w3 w4 w5 w6 w7 w8 w9 wa wb wd (cd) (ru) (wt) (rd) (va)  ) tw_501 tw_503 ts_15 tw_6 tw_504 rfl 0 rfl rfl (by decide +kernel) rfl ⟨rfl, rfl, by decide, by decide, by decide⟩ rfl [0] rfl rfl (by decide) (Nat.le_of_ble_eq_true rfl) rfl d_M_make_18 ?_
  refine n_if_eq C 26 d_M_make_21 (by decide) (by omega) (fun _ => ?_) (fun h => absurd h (by omega))
  refine g_aload_n C d_M_make_26 0 rfl rfl ?_
  refine g_callVi C (n := 0) (ws' := [(w, .inr (4, [.int (nI (0)), .int (nI (ru)), .ref w1, .ref w2, .ref w3, .ref w4, .ref w5, .ref w6, .int (nI (wt)), .int (nI (rd)), .long (va), .ref w7, .ref w8, .ref w9, .ref wa, .ref wb, .ref wd])), (w1, .inl (cs.2.1, 48, .inr (.inl (fun j => lN (ct j))))), (w2, .inl (cs.1, 48, .inl (fun j => nI (ln j)))), (w3, .inl (cs.2.2.1, 48, .inl (fun j => nI (rg j)))), (w7, .inl (cs.1, 48, .inl (fun j => nI ((srt (ct) 48 (od) 0).1 j)))), (w8, .inl (cs.1, 1536, .inl (rw))), (w9, .inl (cs.1, 16, .inl (fun j => nI (sz j)))), (wa, .inl (cs.2.1, 96, .inr (.inl (fun j => lN (sm j))))), (wb, .inl (cs.2.1, 96, .inr (.inl (fun j => lN (bf j)))))]) (As := []) (rest := []) (m_M_sort l D cs w w1 w2 w3 w4 w5 w6 w7 w8 w9 wa wb wd (0) (ru) (wt) (rd) (va) (ct) (od) hct) tw_509 tw_511 ts_16 tw_6 tw_512 rfl 0 rfl rfl (by decide +kernel) rfl ⟨rfl, rfl, by decide, by decide, by decide⟩ rfl [0, 1, 4] rfl rfl (by decide) (Nat.le_of_ble_eq_true rfl) rfl d_M_make_27 ?_
  refine g_istore_n C (lv' := [(2, .int (nI ((srt (ct) 48 (od) 0).2))), (0, .ref w), (1, .int (nI (mo)))]) d_M_make_30 rfl (by decide) rfl ?_
  refine g_iload_n C d_M_make_31 0 rfl rfl ?_
  refine g_iconst C (v := nI 1) d_M_make_32 rfl ?_
  refine g_iload_n C d_M_make_33 2 rfl rfl ?_
  refine g_ishl C (v := nI (2 ^ mo)) d_M_make_34 ((n_shl ⟨by omega, by have : 2 ^ mo ≤ 2 ^ 16 := Nat.pow_le_pow_right (by omega) hmo; omega⟩).trans (by rw [Nat.one_mul])) ?_
  refine n_icmp_le C 40 d_M_make_35 (by decide) (by have := (srt_48 ct od).1; omega) (by have : 2 ^ mo ≤ 2 ^ 16 := Nat.pow_le_pow_right (by omega) hmo; omega) (fun _ => ?_) (fun h => absurd h (by have := Nat.two_pow_pos mo; omega))
  refine g_iconst C (v := nI 0) d_M_make_40 rfl ?_
  refine g_istore_n C (lv' := [(3, .int (nI (0))), (2, .int (nI ((srt (ct) 48 (od) 0).2))), (0, .ref w), (1, .int (nI (mo)))]) d_M_make_41 rfl (by decide) rfl ?_
  refine g_lv (lv' := [(0, .ref w), (1, .int (nI (mo))), (2, .int (nI ((srt (ct) 48 (od) 0).2))), (3, .int (nI (0)))]) [2, 3, 1, 0] rfl ?_
  refine l_M_mz C w w1 w2 w3 w4 w5 w6 w7 w8 w9 wa wb wd 0 ru wt rd va  (ct) (ln) (rg) ((srt (ct) 48 (od) 0).1) (rw) (sz) (sm) (bf) mo (srt (ct) 48 (od) 0).2 ?_ _ 0 ln rg rfl (by omega) (fun j hj => absurd hj (by omega))
  intro l2 r2 h9
  refine n_ci (f2 := fun _ => 0) (ws' := [(w, .inr (4, [.int (nI (0)), .int (nI (ru)), .ref w1, .ref w2, .ref w3, .ref w4, .ref w5, .ref w6, .int (nI (wt)), .int (nI (rd)), .long (va), .ref w7, .ref w8, .ref w9, .ref wa, .ref wb, .ref wd])), (w1, .inl (cs.2.1, 48, .inr (.inl (fun j => lN (ct j))))), (w2, .inl (cs.1, 48, .inl (fun j => nI ((fun _ => 0) j)))), (w3, .inl (cs.2.2.1, 48, .inl (fun j => nI (r2 j)))), (w7, .inl (cs.1, 48, .inl (fun j => nI ((srt (ct) 48 (od) 0).1 j)))), (w8, .inl (cs.1, 1536, .inl (rw))), (w9, .inl (cs.1, 16, .inl (fun j => nI (sz j)))), (wa, .inl (cs.2.1, 96, .inr (.inl (fun j => lN (sm j))))), (wb, .inl (cs.2.1, 96, .inr (.inl (fun j => lN (bf j)))))]) 2 rfl (fun j hj => (h9 j hj).1) rfl ?_
  refine n_ci (f2 := fun _ => 0) (ws' := [(w, .inr (4, [.int (nI (0)), .int (nI (ru)), .ref w1, .ref w2, .ref w3, .ref w4, .ref w5, .ref w6, .int (nI (wt)), .int (nI (rd)), .long (va), .ref w7, .ref w8, .ref w9, .ref wa, .ref wb, .ref wd])), (w1, .inl (cs.2.1, 48, .inr (.inl (fun j => lN (ct j))))), (w2, .inl (cs.1, 48, .inl (fun j => nI ((fun _ => 0) j)))), (w3, .inl (cs.2.2.1, 48, .inl (fun j => nI ((fun _ => 0) j)))), (w7, .inl (cs.1, 48, .inl (fun j => nI ((srt (ct) 48 (od) 0).1 j)))), (w8, .inl (cs.1, 1536, .inl (rw))), (w9, .inl (cs.1, 16, .inl (fun j => nI (sz j)))), (wa, .inl (cs.2.1, 96, .inr (.inl (fun j => lN (sm j))))), (wb, .inl (cs.2.1, 96, .inr (.inl (fun j => lN (bf j)))))]) 3 rfl (fun j hj => (h9 j hj).2) rfl ?_
  refine g_iload_n C d_M_make_68 2 rfl rfl ?_
  refine g_iconst C (v := nI 1) d_M_make_69 rfl ?_
  refine n_icmp_ne C 87 d_M_make_70 (by decide) (by omega) (by omega) (fun h => absurd h (by omega)) (fun _ => ?_)
  refine g_aload_n C d_M_make_73 0 rfl rfl ?_
  refine g_get C (T := FM) (N := 17) 0 3 inM rfl rfl (by decide) tw_439 rfl rfl d_M_make_74 ?_
  refine g_aload_n C d_M_make_77 0 rfl rfl ?_
  refine g_get C (T := FM) (N := 17) 0 11 inM rfl rfl (by decide) tw_447 rfl rfl d_M_make_78 ?_
  refine g_iconst C (v := nI 0) d_M_make_81 rfl ?_
  refine g_iald C 4 rfl (by omega) (by decide) d_M_make_82 ?_
  refine g_iconst C (v := nI 1) d_M_make_83 rfl ?_
  refine n_iast C (ws' := [(w, .inr (4, [.int (nI (0)), .int (nI (ru)), .ref w1, .ref w2, .ref w3, .ref w4, .ref w5, .ref w6, .int (nI (wt)), .int (nI (rd)), .long (va), .ref w7, .ref w8, .ref w9, .ref wa, .ref wb, .ref wd])), (w1, .inl (cs.2.1, 48, .inr (.inl (fun j => lN (ct j))))), (w2, .inl (cs.1, 48, .inl (fun j => nI ((updN ((fun _ => 0)) ((srt (ct) 48 (od) 0).1 (0)) (1)) j)))), (w3, .inl (cs.2.2.1, 48, .inl (fun j => nI ((fun _ => 0) j)))), (w7, .inl (cs.1, 48, .inl (fun j => nI ((srt (ct) 48 (od) 0).1 j)))), (w8, .inl (cs.1, 1536, .inl (rw))), (w9, .inl (cs.1, 16, .inl (fun j => nI (sz j)))), (wa, .inl (cs.2.1, 96, .inr (.inl (fun j => lN (sm j))))), (wb, .inl (cs.2.1, 96, .inr (.inl (fun j => lN (bf j)))))]) 2 rfl ((srt_48 ct od).2 0 (by omega)) (by decide) rfl d_M_make_84 ?_
  refine g_iconst C (v := nI 1) d_M_make_85 rfl ?_
  exact g_iret C hr hlk (by rw [hn]) rfl d_M_make_86
theorem rVS_def {ct od : Nat → Nat} {n mo : Nat} (hn : n ≤ 2 ^ mo) : ∀ i, i < mo → 2 * n ≤ (rVS ct od n (i + 1)).2 + 2 ^ (mo - i)
  | 0, _ => by show 2 * n ≤ n + 0 / 2 + 2 ^ (mo - 0); rw [Nat.sub_zero]; omega
  | i + 1, h => by
    have ih := rVS_def (ct := ct) (od := od) hn i (by omega)
    have e : 2 ^ (mo - i) = 2 * 2 ^ (mo - (i + 1)) := by rw [← Nat.pow_succ']; congr 1; omega
    show 2 * n ≤ n + (rVS ct od n (i + 1)).2 / 2 + 2 ^ (mo - (i + 1))
    omega
theorem rVS_last {ct od : Nat → Nat} {n mo : Nat} (h1 : 1 ≤ mo) (hn : n ≤ 2 ^ mo) : 2 * n - 2 ≤ (rVS ct od n mo).2 := by
  have h := rVS_def (ct := ct) (od := od) hn (mo - 1) (by omega)
  rw [show mo - 1 + 1 = mo by omega, show mo - (mo - 1) = 1 by omega] at h
  omega
set_option maxHeartbeats 4000000 in
set_option maxRecDepth 100000 in
theorem m_M_make_m (l : Launch) (D : va_G) (cs : ClassId × ClassId × ClassId × ClassId) (w w1 w2 w3 w4 w5 w6 w7 w8 w9 wa wb wd : Nat) (cd ru wt rd : Nat) (va : Int64) (ct : Nat → Nat) (ln : Nat → Nat) (rg : Nat → Nat) (od : Nat → Nat) (rw : Nat → Int32) (sz : Nat → Nat) (sm : Nat → Nat) (bf : Nat → Nat) (mo : Nat) (h1 : 1 ≤ mo) (hmo : mo ≤ 16) (hct : ∀ j, j < 48 → ct j ≤ 1000000000) (hn1 : (srt ct 48 od 0).2 ≠ 1) (hn : (srt ct 48 od 0).2 ≤ 2 ^ mo) : MG l y_M_make k_M_make { frames := 1, cells := 0, slots := 0, locals := 28 } D cs [.ref w, .int (nI (mo))] [(w, .inr (4, [.int (nI (cd)), .int (nI (ru)), .ref w1, .ref w2, .ref w3, .ref w4, .ref w5, .ref w6, .int (nI (wt)), .int (nI (rd)), .long (va), .ref w7, .ref w8, .ref w9, .ref wa, .ref wb, .ref wd])), (w1, .inl (cs.2.1, 48, .inr (.inl (fun j => lN (ct j))))), (w2, .inl (cs.1, 48, .inl (fun j => nI (ln j)))), (w3, .inl (cs.2.2.1, 48, .inl (fun j => nI (rg j)))), (w7, .inl (cs.1, 48, .inl (fun j => nI (od j)))), (w8, .inl (cs.1, 1536, .inl (rw))), (w9, .inl (cs.1, 16, .inl (fun j => nI (sz j)))), (wa, .inl (cs.2.1, 96, .inr (.inl (fun j => lN (sm j))))), (wb, .inl (cs.2.1, 96, .inr (.inl (fun j => lN (bf j)))))] (QI D (nI ((srt (ct) 48 (od) 0).2)) [(w, .inr (4, [.int (nI (0)), .int (nI (ru)), .ref w1, .ref w2, .ref w3, .ref w4, .ref w5, .ref w6, .int (nI (wt)), .int (nI (rd)), .long (va), .ref w7, .ref w8, .ref w9, .ref wa, .ref wb, .ref wd])), (w1, .inl (cs.2.1, 48, .inr (.inl (fun j => lN (ct j))))), (w2, .inl (cs.1, 48, .inl (fun j => nI ((ctm (ct) ((srt (ct) 48 (od) 0).1) ((srt (ct) 48 (od) 0).2) (mo) (fun _ => 0) (if (srt (ct) 48 (od) 0).2 = 0 then 0 else 2 * (srt (ct) 48 (od) 0).2 - 2)) j)))), (w3, .inl (cs.2.2.1, 48, .inl (fun j => nI ((fun _ => 0) j)))), (w7, .inl (cs.1, 48, .inl (fun j => nI ((srt (ct) 48 (od) 0).1 j)))), (w8, .inl (cs.1, 1536, .inl ((pkst (ct) ((srt (ct) 48 (od) 0).1) ((srt (ct) 48 (od) 0).2) (bf) (sm) (rw) (sz) (mo)).2.2.1))), (w9, .inl (cs.1, 16, .inl (fun j => nI ((pkst (ct) ((srt (ct) 48 (od) 0).1) ((srt (ct) 48 (od) 0).2) (bf) (sm) (rw) (sz) (mo)).2.2.2 j)))), (wa, .inl (cs.2.1, 96, .inr (.inl (fun j => lN ((pkst (ct) ((srt (ct) 48 (od) 0).1) ((srt (ct) 48 (od) 0).2) (bf) (sm) (rw) (sz) (mo)).2.1 j))))), (wb, .inl (cs.2.1, 96, .inr (.inl (fun j => lN ((pkst (ct) ((srt (ct) 48 (od) 0).1) ((srt (ct) 48 (od) 0).2) (bf) (sm) (rw) (sz) (mo)).1 j)))))]) := by
  refine MG.mk (own := RM) (by decide) rfl (Nat.le_of_ble_eq_true rfl) ?_
  intro p e s m below meth c A C hr hlk
  refine g_lv (lv' := [(0, .ref w), (1, .int (nI (mo)))]) [0, 1] rfl ?_
  refine g_aload_n C d_M_make_0 0 rfl rfl ?_
  refine g_iload_n C d_M_make_1 1 rfl rfl ?_
  refine g_iconst C (v := nI 1) d_M_make_2 rfl ?_
  refine n_icmp_lt C 16 d_M_make_3 (by decide) (by omega) (by omega) (fun h => absurd h (by omega)) (fun _ => ?_)
  refine g_iload_n C d_M_make_6 1 rfl rfl ?_
  refine g_bipush C (v := nI 16) d_M_make_7 rfl ?_
  refine n_icmp_gt C 16 d_M_make_9 (by decide) (by omega) (by omega) (fun h => absurd h (by omega)) (fun _ => ?_)
  refine g_iconst C (v := nI 1) d_M_make_12 rfl ?_
  refine g_goto C 17 d_M_make_13 (by decide) ?_
  refine g_iconst C (v := nI 1) d_M_make_17 rfl ?_
  refine g_callVi C (n := 2) (ws' := [(w, .inr (4, [.int (nI (0)), .int (nI (ru)), .ref w1, .ref w2, .ref w3, .ref w4, .ref w5, .ref w6, .int (nI (wt)), .int (nI (rd)), .long (va), .ref w7, .ref w8, .ref w9, .ref wa, .ref wb, .ref wd])), (w1, .inl (cs.2.1, 48, .inr (.inl (fun j => lN (ct j))))), (w2, .inl (cs.1, 48, .inl (fun j => nI (ln j)))), (w3, .inl (cs.2.2.1, 48, .inl (fun j => nI (rg j)))), (w7, .inl (cs.1, 48, .inl (fun j => nI (od j)))), (w8, .inl (cs.1, 1536, .inl (rw))), (w9, .inl (cs.1, 16, .inl (fun j => nI (sz j)))), (wa, .inl (cs.2.1, 96, .inr (.inl (fun j => lN (sm j))))), (wb, .inl (cs.2.1, 96, .inr (.inl (fun j => lN (bf j)))))]) (As := [.int (nI (1)), .int (nI (1))]) (rest := []) (m_M_fails_0 l D cs w w1 w2 w3 w4 w5 w6 w7 w8 w9 wa wb wd (cd) (ru) (wt) (rd) (va)  ) tw_501 tw_503 ts_15 tw_6 tw_504 rfl 0 rfl rfl (by decide +kernel) rfl ⟨rfl, rfl, by decide, by decide, by decide⟩ rfl [0] rfl rfl (by decide) (Nat.le_of_ble_eq_true rfl) rfl d_M_make_18 ?_
  refine n_if_eq C 26 d_M_make_21 (by decide) (by omega) (fun _ => ?_) (fun h => absurd h (by omega))
  refine g_aload_n C d_M_make_26 0 rfl rfl ?_
  refine g_callVi C (n := 0) (ws' := [(w, .inr (4, [.int (nI (0)), .int (nI (ru)), .ref w1, .ref w2, .ref w3, .ref w4, .ref w5, .ref w6, .int (nI (wt)), .int (nI (rd)), .long (va), .ref w7, .ref w8, .ref w9, .ref wa, .ref wb, .ref wd])), (w1, .inl (cs.2.1, 48, .inr (.inl (fun j => lN (ct j))))), (w2, .inl (cs.1, 48, .inl (fun j => nI (ln j)))), (w3, .inl (cs.2.2.1, 48, .inl (fun j => nI (rg j)))), (w7, .inl (cs.1, 48, .inl (fun j => nI ((srt (ct) 48 (od) 0).1 j)))), (w8, .inl (cs.1, 1536, .inl (rw))), (w9, .inl (cs.1, 16, .inl (fun j => nI (sz j)))), (wa, .inl (cs.2.1, 96, .inr (.inl (fun j => lN (sm j))))), (wb, .inl (cs.2.1, 96, .inr (.inl (fun j => lN (bf j)))))]) (As := []) (rest := []) (m_M_sort l D cs w w1 w2 w3 w4 w5 w6 w7 w8 w9 wa wb wd (0) (ru) (wt) (rd) (va) (ct) (od) hct) tw_509 tw_511 ts_16 tw_6 tw_512 rfl 0 rfl rfl (by decide +kernel) rfl ⟨rfl, rfl, by decide, by decide, by decide⟩ rfl [0, 1, 4] rfl rfl (by decide) (Nat.le_of_ble_eq_true rfl) rfl d_M_make_27 ?_
  refine g_istore_n C (lv' := [(2, .int (nI ((srt (ct) 48 (od) 0).2))), (0, .ref w), (1, .int (nI (mo)))]) d_M_make_30 rfl (by decide) rfl ?_
  refine g_iload_n C d_M_make_31 0 rfl rfl ?_
  refine g_iconst C (v := nI 1) d_M_make_32 rfl ?_
  refine g_iload_n C d_M_make_33 2 rfl rfl ?_
  refine g_ishl C (v := nI (2 ^ mo)) d_M_make_34 ((n_shl ⟨by omega, by have : 2 ^ mo ≤ 2 ^ 16 := Nat.pow_le_pow_right (by omega) hmo; omega⟩).trans (by rw [Nat.one_mul])) ?_
  refine n_icmp_le C 40 d_M_make_35 (by decide) (by have := (srt_48 ct od).1; omega) (by have : 2 ^ mo ≤ 2 ^ 16 := Nat.pow_le_pow_right (by omega) hmo; omega) (fun _ => ?_) (fun h => absurd h (by omega))
  refine g_iconst C (v := nI 0) d_M_make_40 rfl ?_
  refine g_istore_n C (lv' := [(3, .int (nI (0))), (2, .int (nI ((srt (ct) 48 (od) 0).2))), (0, .ref w), (1, .int (nI (mo)))]) d_M_make_41 rfl (by decide) rfl ?_
  refine g_lv (lv' := [(0, .ref w), (1, .int (nI (mo))), (2, .int (nI ((srt (ct) 48 (od) 0).2))), (3, .int (nI (0)))]) [2, 3, 1, 0] rfl ?_
  refine l_M_mz C w w1 w2 w3 w4 w5 w6 w7 w8 w9 wa wb wd 0 ru wt rd va  (ct) (ln) (rg) ((srt (ct) 48 (od) 0).1) (rw) (sz) (sm) (bf) mo (srt (ct) 48 (od) 0).2 ?_ _ 0 ln rg rfl (by omega) (fun j hj => absurd hj (by omega))
  intro l2 r2 h9
  refine n_ci (f2 := fun _ => 0) (ws' := [(w, .inr (4, [.int (nI (0)), .int (nI (ru)), .ref w1, .ref w2, .ref w3, .ref w4, .ref w5, .ref w6, .int (nI (wt)), .int (nI (rd)), .long (va), .ref w7, .ref w8, .ref w9, .ref wa, .ref wb, .ref wd])), (w1, .inl (cs.2.1, 48, .inr (.inl (fun j => lN (ct j))))), (w2, .inl (cs.1, 48, .inl (fun j => nI ((fun _ => 0) j)))), (w3, .inl (cs.2.2.1, 48, .inl (fun j => nI (r2 j)))), (w7, .inl (cs.1, 48, .inl (fun j => nI ((srt (ct) 48 (od) 0).1 j)))), (w8, .inl (cs.1, 1536, .inl (rw))), (w9, .inl (cs.1, 16, .inl (fun j => nI (sz j)))), (wa, .inl (cs.2.1, 96, .inr (.inl (fun j => lN (sm j))))), (wb, .inl (cs.2.1, 96, .inr (.inl (fun j => lN (bf j)))))]) 2 rfl (fun j hj => (h9 j hj).1) rfl ?_
  refine n_ci (f2 := fun _ => 0) (ws' := [(w, .inr (4, [.int (nI (0)), .int (nI (ru)), .ref w1, .ref w2, .ref w3, .ref w4, .ref w5, .ref w6, .int (nI (wt)), .int (nI (rd)), .long (va), .ref w7, .ref w8, .ref w9, .ref wa, .ref wb, .ref wd])), (w1, .inl (cs.2.1, 48, .inr (.inl (fun j => lN (ct j))))), (w2, .inl (cs.1, 48, .inl (fun j => nI ((fun _ => 0) j)))), (w3, .inl (cs.2.2.1, 48, .inl (fun j => nI ((fun _ => 0) j)))), (w7, .inl (cs.1, 48, .inl (fun j => nI ((srt (ct) 48 (od) 0).1 j)))), (w8, .inl (cs.1, 1536, .inl (rw))), (w9, .inl (cs.1, 16, .inl (fun j => nI (sz j)))), (wa, .inl (cs.2.1, 96, .inr (.inl (fun j => lN (sm j))))), (wb, .inl (cs.2.1, 96, .inr (.inl (fun j => lN (bf j)))))]) 3 rfl (fun j hj => (h9 j hj).2) rfl ?_
  refine g_iload_n C d_M_make_68 2 rfl rfl ?_
  refine g_iconst C (v := nI 1) d_M_make_69 rfl ?_
  refine n_icmp_ne C 87 d_M_make_70 (by decide) (by have := (srt_48 ct od).1; omega) (by omega) (fun _ => ?_) (fun h => absurd h (by omega))
  refine g_iconst C (v := nI 0) d_M_make_87 rfl ?_
  refine g_istore_n C (lv' := [(3, .int (nI (0))), (0, .ref w), (1, .int (nI (mo))), (2, .int (nI ((srt (ct) 48 (od) 0).2)))]) d_M_make_88 rfl (by decide) rfl ?_
  refine g_lv (lv' := [(0, .ref w), (1, .int (nI (mo))), (2, .int (nI ((srt (ct) 48 (od) 0).2))), (3, .int (nI (0)))]) [1, 2, 3, 0] rfl ?_
  refine l_M_mr C w w1 w2 w3 w4 w5 w6 w7 w8 w9 wa wb wd 0 ru wt rd va  (ct) ((fun _ => 0)) ((fun _ => 0)) ((srt (ct) 48 (od) 0).1) (rw) (sz) (sm) (bf) mo (srt (ct) 48 (od) 0).2 (srt_48 ct od).1 hmo hct (srt_48 ct od).2 ?_ _ 0 rfl (by omega)
  refine g_iload_n C d_M_make_106 2 rfl rfl ?_
  refine n_if_ne C 114 d_M_make_107 (by decide) (by have := (srt_48 ct od).1; omega) (fun h107 => ?_) (fun h107 => ?_)
  · refine g_iconst C (v := nI 2) d_M_make_114 rfl ?_
    refine g_iload_n C d_M_make_115 2 rfl rfl ?_
    refine g_imul C (v := nI ((2) * ((srt (ct) 48 (od) 0).2))) d_M_make_116 (pk_mul _ _) ?_
    refine g_iconst C (v := nI 2) d_M_make_117 rfl ?_
    refine g_isub C (v := nI (2 * (srt (ct) 48 (od) 0).2 - 2)) d_M_make_118 (pk_sub (by omega)) ?_
    refine g_toi (v := nI ((if (srt (ct) 48 (od) 0).2 = 0 then 0 else 2 * (srt (ct) 48 (od) 0).2 - 2))) (congrArg nI (by first | rw [if_pos (by assumption)] | rw [if_neg (by omega)])) ?_
    refine g_istore_n C (lv' := [(3, .int (nI ((if (srt (ct) 48 (od) 0).2 = 0 then 0 else 2 * (srt (ct) 48 (od) 0).2 - 2)))), (0, .ref w), (1, .int (nI (mo))), (2, .int (nI ((srt (ct) 48 (od) 0).2)))]) d_M_make_119 rfl (by decide) rfl ?_
    refine g_iload_n C d_M_make_120 2 rfl rfl ?_
    refine g_iconst C (v := nI 1) d_M_make_121 rfl ?_
    refine g_isub C (v := nI mo - 1) d_M_make_122 rfl ?_
    refine g_istore C (lv' := [(4, .int (nI mo - 1)), (3, .int (nI ((if (srt (ct) 48 (od) 0).2 = 0 then 0 else 2 * (srt (ct) 48 (od) 0).2 - 2)))), (0, .ref w), (1, .int (nI (mo))), (2, .int (nI ((srt (ct) 48 (od) 0).2)))]) d_M_make_123 (by decide) rfl ?_
    refine g_lv (lv' := [(0, .ref w), (2, .int (nI ((srt (ct) 48 (od) 0).2))), (3, .int (nI ((if (srt (ct) 48 (od) 0).2 = 0 then 0 else 2 * (srt (ct) 48 (od) 0).2 - 2)))), (4, .int (nI mo - 1))]) [2, 4, 1, 0] rfl ?_
    exact l_M_mc C w w1 w2 w3 w4 w5 w6 w7 w8 w9 wa wb wd 0 ru wt rd va  (ct) ((fun _ => 0)) ((fun _ => 0)) ((srt (ct) 48 (od) 0).1) ((pkst (ct) ((srt (ct) 48 (od) 0).1) ((srt (ct) 48 (od) 0).2) (bf) (sm) (rw) (sz) (mo)).2.2.1) ((pkst (ct) ((srt (ct) 48 (od) 0).1) ((srt (ct) 48 (od) 0).2) (bf) (sm) (rw) (sz) (mo)).2.2.2) ((pkst (ct) ((srt (ct) 48 (od) 0).1) ((srt (ct) 48 (od) 0).2) (bf) (sm) (rw) (sz) (mo)).2.1) ((pkst (ct) ((srt (ct) 48 (od) 0).1) ((srt (ct) 48 (od) 0).2) (bf) (sm) (rw) (sz) (mo)).1) mo (srt (ct) 48 (od) 0).2 (if (srt (ct) 48 (od) 0).2 = 0 then 0 else 2 * (srt (ct) 48 (od) 0).2 - 2) (srt_48 ct od).1 (srt_48 ct od).2 hmo (fun k hk t ht => pks_rw (srt_48 ct od).1 mo k hk t ht) hr hlk mo (fun _ => 0) (if (srt (ct) 48 (od) 0).2 = 0 then 0 else 2 * (srt (ct) 48 (od) 0).2 - 2) (Nat.le_refl _) (by have := rVS_last (ct := ct) (od := (srt (ct) 48 (od) 0).1) h1 hn; split <;> omega) rfl
  · refine g_iconst C (v := nI 0) d_M_make_110 rfl ?_
    refine g_goto C 119 d_M_make_111 (by decide) ?_
    refine g_toi (v := nI ((if (srt (ct) 48 (od) 0).2 = 0 then 0 else 2 * (srt (ct) 48 (od) 0).2 - 2))) (congrArg nI (by first | rw [if_pos (by assumption)] | rw [if_neg (by omega)])) ?_
    refine g_istore_n C (lv' := [(3, .int (nI ((if (srt (ct) 48 (od) 0).2 = 0 then 0 else 2 * (srt (ct) 48 (od) 0).2 - 2)))), (0, .ref w), (1, .int (nI (mo))), (2, .int (nI ((srt (ct) 48 (od) 0).2)))]) d_M_make_119 rfl (by decide) rfl ?_
    refine g_iload_n C d_M_make_120 2 rfl rfl ?_
    refine g_iconst C (v := nI 1) d_M_make_121 rfl ?_
    refine g_isub C (v := nI mo - 1) d_M_make_122 rfl ?_
    refine g_istore C (lv' := [(4, .int (nI mo - 1)), (3, .int (nI ((if (srt (ct) 48 (od) 0).2 = 0 then 0 else 2 * (srt (ct) 48 (od) 0).2 - 2)))), (0, .ref w), (1, .int (nI (mo))), (2, .int (nI ((srt (ct) 48 (od) 0).2)))]) d_M_make_123 (by decide) rfl ?_
    refine g_lv (lv' := [(0, .ref w), (2, .int (nI ((srt (ct) 48 (od) 0).2))), (3, .int (nI ((if (srt (ct) 48 (od) 0).2 = 0 then 0 else 2 * (srt (ct) 48 (od) 0).2 - 2)))), (4, .int (nI mo - 1))]) [2, 4, 1, 0] rfl ?_
    exact l_M_mc C w w1 w2 w3 w4 w5 w6 w7 w8 w9 wa wb wd 0 ru wt rd va  (ct) ((fun _ => 0)) ((fun _ => 0)) ((srt (ct) 48 (od) 0).1) ((pkst (ct) ((srt (ct) 48 (od) 0).1) ((srt (ct) 48 (od) 0).2) (bf) (sm) (rw) (sz) (mo)).2.2.1) ((pkst (ct) ((srt (ct) 48 (od) 0).1) ((srt (ct) 48 (od) 0).2) (bf) (sm) (rw) (sz) (mo)).2.2.2) ((pkst (ct) ((srt (ct) 48 (od) 0).1) ((srt (ct) 48 (od) 0).2) (bf) (sm) (rw) (sz) (mo)).2.1) ((pkst (ct) ((srt (ct) 48 (od) 0).1) ((srt (ct) 48 (od) 0).2) (bf) (sm) (rw) (sz) (mo)).1) mo (srt (ct) 48 (od) 0).2 (if (srt (ct) 48 (od) 0).2 = 0 then 0 else 2 * (srt (ct) 48 (od) 0).2 - 2) (srt_48 ct od).1 (srt_48 ct od).2 hmo (fun k hk t ht => pks_rw (srt_48 ct od).1 mo k hk t ht) hr hlk mo (fun _ => 0) (if (srt (ct) 48 (od) 0).2 = 0 then 0 else 2 * (srt (ct) 48 (od) 0).2 - 2) (Nat.le_refl _) (by have := rVS_last (ct := ct) (od := (srt (ct) 48 (od) 0).1) h1 hn; split <;> omega) rfl
