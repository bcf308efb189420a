/-- of row and symbols, a symbol comes next -/
def sym (ct od rv : Nat → Nat) (n pr : Nat) (q : Nat × Nat) : Bool := decide (q.1 < n ∧ (q.2 < pr → ct (od q.1) ≤ rv (2 * q.2) + rv (2 * q.2 + 1)))
/-- how many symbols and pairs stand ahead of a place -/
def mst (ct od rv : Nat → Nat) (n pr : Nat) : Nat → Nat × Nat
  | 0 => (0, 0)
  | t + 1 => if sym ct od rv n pr (mst ct od rv n pr t) = true then ((mst ct od rv n pr t).1 + 1, (mst ct od rv n pr t).2) else ((mst ct od rv n pr t).1, (mst ct od rv n pr t).2 + 1)
/-- the count at a place -/
def mvl (ct od rv : Nat → Nat) (n pr : Nat) (t : Nat) : Nat :=
  if sym ct od rv n pr (mst ct od rv n pr t) = true then ct (od (mst ct od rv n pr t).1) else rv (2 * (mst ct od rv n pr t).2) + rv (2 * (mst ct od rv n pr t).2 + 1)
def rwp (ct od rv : Nat → Nat) (n pr : Nat) (sv : Nat → Nat) : Nat → (Nat → Nat)
  | 0 => sv
  | t + 1 => updN (rwp ct od rv n pr sv t) t (mvl ct od rv n pr t)
def plp (ct od rv : Nat → Nat) (n pr : Nat) (p0 : Nat → Nat) : Nat → (Nat → Nat)
  | 0 => p0
  | t + 1 => if sym ct od rv n pr (mst ct od rv n pr t) = true then updN (plp ct od rv n pr p0 t) (mst ct od rv n pr t).1 t else plp ct od rv n pr p0 t
section MS
variable {ct od rv sv p0 : Nat → Nat} {n pr t : Nat}
theorem mst_s (h : sym ct od rv n pr (mst ct od rv n pr t) = true) : mst ct od rv n pr (t + 1) = ((mst ct od rv n pr t).1 + 1, (mst ct od rv n pr t).2) := by rw [mst, if_pos h]
theorem mst_p (h : ¬ sym ct od rv n pr (mst ct od rv n pr t) = true) : mst ct od rv n pr (t + 1) = ((mst ct od rv n pr t).1, (mst ct od rv n pr t).2 + 1) := by rw [mst, if_neg h]
theorem rwp_s (h : sym ct od rv n pr (mst ct od rv n pr t) = true) : rwp ct od rv n pr sv (t + 1) = updN (rwp ct od rv n pr sv t) t (ct (od (mst ct od rv n pr t).1)) := by rw [rwp, mvl, if_pos h]
theorem rwp_p (h : ¬ sym ct od rv n pr (mst ct od rv n pr t) = true) : rwp ct od rv n pr sv (t + 1) = updN (rwp ct od rv n pr sv t) t (rv (2 * (mst ct od rv n pr t).2) + rv (2 * (mst ct od rv n pr t).2 + 1)) := by rw [rwp, mvl, if_neg h]
theorem plp_s (h : sym ct od rv n pr (mst ct od rv n pr t) = true) : plp ct od rv n pr p0 (t + 1) = updN (plp ct od rv n pr p0 t) (mst ct od rv n pr t).1 t := by rw [plp, if_pos h]
theorem plp_p (h : ¬ sym ct od rv n pr (mst ct od rv n pr t) = true) : plp ct od rv n pr p0 (t + 1) = plp ct od rv n pr p0 t := by rw [plp, if_neg h]
theorem mst_sum : ∀ t, (mst ct od rv n pr t).1 + (mst ct od rv n pr t).2 = t
  | 0 => rfl
  | t + 1 => by
    have ih := mst_sum t
    by_cases h : sym ct od rv n pr (mst ct od rv n pr t) = true
    · rw [mst_s h]; show _ + 1 + _ = _; omega
    · rw [mst_p h]; show _ + (_ + 1) = _; omega
theorem mst_le : ∀ t, (mst ct od rv n pr t).1 ≤ n ∧ (t ≤ n + pr → (mst ct od rv n pr t).2 ≤ pr)
  | 0 => ⟨Nat.zero_le _, fun _ => Nat.zero_le _⟩
  | t + 1 => by
    have ih := mst_le t
    have hs := mst_sum (ct := ct) (od := od) (rv := rv) (n := n) (pr := pr) t
    by_cases h : sym ct od rv n pr (mst ct od rv n pr t) = true
    · rw [mst_s h]
      have h2 := of_decide_eq_true h
      exact ⟨h2.1, fun q => ih.2 (by omega)⟩
    · rw [mst_p h]
      refine ⟨ih.1, fun q => ?_⟩
      have h2 := of_decide_eq_false (eq_false_of_ne_true h)
      have h3 := ih.2 (by omega)
      show (mst ct od rv n pr t).2 + 1 ≤ pr
      rcases Nat.lt_or_ge (mst ct od rv n pr t).2 pr with q2 | q2
      · exact q2
      · exact absurd ⟨by omega, fun q3 => absurd q3 (by omega)⟩ h2
end MS

/-- one row of a grid told anew -/
def plg (pl : Nat → Nat → Nat) (kk : Nat) (p : Nat → Nat) : Nat → Nat → Nat := fun r => if r = kk then p else pl r
theorem plg_up (pl : Nat → Nat → Nat) (kk j v : Nat) (p : Nat → Nat) : updG (plg pl kk p) kk j v = plg pl kk (updN p j v) := by
  funext r
  unfold updG plg
  by_cases h : r = kk
  · subst h; simp
  · simp [h]
theorem plg_0 (pl : Nat → Nat → Nat) (kk : Nat) : plg pl kk (pl kk) = pl := by
  funext r
  unfold plg
  by_cases h : r = kk
  · subst h; simp
  · simp [h]

set_option maxHeartbeats 4000000 in
set_option maxRecDepth 100000 in
theorem l_K_br {p : Program} {l : Launch} {e : Env} {s : State} {m : MethodId} {args : Array Value} {below : List Frame} {meth : Method} {c : Code} {Q : State → Prop} {A : Nat → Prop} {D : va_G} {cs : ClassId × ClassId × ClassId × ClassId} (C : CX p s m args c c_K_buildRow 9 RK D cs A) (k ko kp kr ks bc rs : Nat) (ra : Nat → Nat) (ct od : Nat → Nat) (cd : Nat) (rv sv : Nat → Nat) (pl : Nat → Nat → Nat) (kk : Nat) (hcd : cd ≤ 48) (hrs : rs ≤ 96) (hkk : kk < 16) (hct : ∀ j, j < 48 → ct j ≤ 1000000000) (hod : ∀ j, j < cd → od j < 48) (hrv : ∀ j, j < rs → rv j < 2 ^ 60)
    (K : GO p l e { frames := 0, cells := 0, slots := 0, locals := 0 } s m args below meth c 0 0 Q A D 9 145 [(0, .ref k)] [] ([(k, .inr (0, [.ref ko, .ref kp, .ref kr, .ref ks, .int (nI (cd + rs / 2)), .int (nI (cd))])), (ko, .inl (cs.1, 48, .inl (fun j => nI (od j)))), (bc, .inl (cs.2.1, 48, .inr (.inl (fun j => lN (ct j))))), (kp, .inl (cs.2.2.2, 16, .inr (.inr (.inr (.inr (fun i => some (ra i))))))), (kr, .inl (cs.2.1, 96, .inr (.inl (fun j => lN (rv j))))), (ks, .inl (cs.2.1, 96, .inr (.inl (fun j => lN ((rwp ct od rv cd (rs / 2) sv (cd + rs / 2)) j)))))] ++ rowsW cs.1 ra ((plg pl kk (plp ct od rv cd (rs / 2) (pl kk) (cd + rs / 2))))))
    : ∀ (n : Nat) (t : Nat), 96 - t = n → (t ≤ cd + rs / 2) → GO p l e { frames := 0, cells := 0, slots := 0, locals := 0 } s m args below meth c 0 0 Q A D 9 26 [(0, .ref k), (1, .int (nI (kk))), (2, .ref bc), (3, .int (nI (rs / 2))), (4, .int (nI ((mst ct od rv cd (rs / 2) t).1))), (5, .int (nI ((mst ct od rv cd (rs / 2) t).2))), (6, .int (nI (t)))] [] ([(k, .inr (0, [.ref ko, .ref kp, .ref kr, .ref ks, .int (nI (cd + rs / 2)), .int (nI (cd))])), (ko, .inl (cs.1, 48, .inl (fun j => nI (od j)))), (bc, .inl (cs.2.1, 48, .inr (.inl (fun j => lN (ct j))))), (kp, .inl (cs.2.2.2, 16, .inr (.inr (.inr (.inr (fun i => some (ra i))))))), (kr, .inl (cs.2.1, 96, .inr (.inl (fun j => lN (rv j))))), (ks, .inl (cs.2.1, 96, .inr (.inl (fun j => lN ((rwp ct od rv cd (rs / 2) sv t) j)))))] ++ rowsW cs.1 ra ((plg pl kk (plp ct od rv cd (rs / 2) (pl kk) (t))))) := by
  intro n
  induction n using Nat.strongRecOn with
  | _ n ih =>
  intro t  hn ht
  have hmu := mst_sum (ct := ct) (od := od) (rv := rv) (n := cd) (pr := rs / 2) t
  have hml := (mst_le (ct := ct) (od := od) (rv := rv) (n := cd) (pr := rs / 2) t).1
  have hmr := (mst_le (ct := ct) (od := od) (rv := rv) (n := cd) (pr := rs / 2) t).2 (by omega)
  refine g_iload C d_K_buildRow_26 6 rfl ?_
  refine g_aload_n C d_K_buildRow_28 0 rfl rfl ?_
  refine g_get C (T := FK) (N := 6) 0 4 inK rfl rfl (by decide) tw_33 rfl rfl d_K_buildRow_29 ?_
  refine n_icmp_ge C 145 d_K_buildRow_32 (by decide) (by omega) (by omega) (fun h32 => ?_) (fun h32 => ?_)
  · refine g_lv (lv' := [(0, .ref k)]) [0] rfl ?_
    have e9 : t = cd + rs / 2 := by omega
    subst e9
    exact K
  · refine g_iload C d_K_buildRow_35 5 rfl ?_
    refine g_iload_n C d_K_buildRow_37 3 rfl rfl ?_
    refine n_icmp_ge C 65 d_K_buildRow_38 (by decide) (by omega) (by omega) (fun h38 => ?_) (fun h38 => ?_)
    · refine g_ldc2 C (v := lN 9223372036854775807) tw_325 d_K_buildRow_65 ?_
      refine g_lstore C (lv' := [(7, .long (lN (9223372036854775807))), (0, .ref k), (1, .int (nI (kk))), (2, .ref bc), (3, .int (nI (rs / 2))), (4, .int (nI ((mst ct od rv cd (rs / 2) t).1))), (5, .int (nI ((mst ct od rv cd (rs / 2) t).2))), (6, .int (nI (t)))]) d_K_buildRow_68 (by decide) rfl ?_
      refine g_iload C d_K_buildRow_70 5 rfl ?_
      refine g_aload_n C d_K_buildRow_72 1 rfl rfl ?_
      refine g_get C (T := FK) (N := 6) 0 5 inK rfl rfl (by decide) tw_34 rfl rfl d_K_buildRow_73 ?_
      refine n_icmp_ge C 127 d_K_buildRow_76 (by decide) (by omega) (by omega) (fun h => absurd h (by omega)) (fun _ => ?_)
      refine g_aload_n C d_K_buildRow_79 3 rfl rfl ?_
      refine g_aload_n C d_K_buildRow_80 1 rfl rfl ?_
      refine g_get C (T := FK) (N := 6) 0 0 inK rfl rfl (by decide) tw_29 rfl rfl d_K_buildRow_81 ?_
      refine g_iload C d_K_buildRow_84 5 rfl ?_
      refine g_iald C 1 rfl (by omega) (by decide) d_K_buildRow_86 ?_
      refine g_lald C 2 rfl (hod _ (by omega)) (by decide) d_K_buildRow_87 ?_
      refine g_lload C d_K_buildRow_88 0 rfl ?_
      refine n_lcmp_gt C 127 d_K_buildRow_90 d_K_buildRow_91 (by decide) (by have := hct _ (hod (mst ct od rv cd (rs / 2) t).1 (by omega)); omega) (by omega) (fun h => absurd h (by have := hct _ (hod (mst ct od rv cd (rs / 2) t).1 (by omega)); omega)) (fun _ => ?_)
      refine g_aload_n C d_K_buildRow_94 1 rfl rfl ?_
      refine g_get C (T := FK) (N := 6) 0 1 inK rfl rfl (by decide) tw_30 rfl rfl d_K_buildRow_95 ?_
      refine g_iload_n C d_K_buildRow_98 2 rfl rfl ?_
      refine g_aald C 3 rfl (by omega) d_K_buildRow_99 ?_
      refine g_iload C d_K_buildRow_100 5 rfl ?_
      refine g_iload C d_K_buildRow_102 7 rfl ?_
      refine g_rast C (X := [(k, .inr (0, [.ref ko, .ref kp, .ref kr, .ref ks, .int (nI (cd + rs / 2)), .int (nI (cd))])), (ko, .inl (cs.1, 48, .inl (fun j => nI (od j)))), (bc, .inl (cs.2.1, 48, .inr (.inl (fun j => lN (ct j))))), (kp, .inl (cs.2.2.2, 16, .inr (.inr (.inr (.inr (fun i => some (ra i))))))), (kr, .inl (cs.2.1, 96, .inr (.inl (fun j => lN (rv j))))), (ks, .inl (cs.2.1, 96, .inr (.inl (fun j => lN ((rwp ct od rv cd (rs / 2) sv t) j)))))]) (ws' := ([(k, .inr (0, [.ref ko, .ref kp, .ref kr, .ref ks, .int (nI (cd + rs / 2)), .int (nI (cd))])), (ko, .inl (cs.1, 48, .inl (fun j => nI (od j)))), (bc, .inl (cs.2.1, 48, .inr (.inl (fun j => lN (ct j))))), (kp, .inl (cs.2.2.2, 16, .inr (.inr (.inr (.inr (fun i => some (ra i))))))), (kr, .inl (cs.2.1, 96, .inr (.inl (fun j => lN (rv j))))), (ks, .inl (cs.2.1, 96, .inr (.inl (fun j => lN ((rwp ct od rv cd (rs / 2) sv t) j)))))] ++ rowsW cs.1 ra (updG ((plg pl kk (plp ct od rv cd (rs / 2) (pl kk) (t)))) (kk) ((mst ct od rv cd (rs / 2) t).1) (t)))) (i := (kk)) rfl (by omega) (by omega) rfl d_K_buildRow_104 ?_
      refine g_aload_n C d_K_buildRow_105 1 rfl rfl ?_
      refine g_get C (T := FK) (N := 6) 0 3 inK rfl rfl (by decide) tw_32 rfl rfl d_K_buildRow_106 ?_
      refine g_iload C d_K_buildRow_109 7 rfl ?_
      refine g_aload_n C d_K_buildRow_111 3 rfl rfl ?_
      refine g_aload_n C d_K_buildRow_112 1 rfl rfl ?_
      refine g_get C (T := FK) (N := 6) 0 0 inK rfl rfl (by decide) tw_29 rfl rfl d_K_buildRow_113 ?_
      refine g_iload C d_K_buildRow_116 5 rfl ?_
      refine g_iald C 1 rfl (by omega) (by decide) d_K_buildRow_118 ?_
      refine g_lald C 2 rfl (hod _ (by omega)) (by decide) d_K_buildRow_119 ?_
      refine n_last C (ws' := ([(k, .inr (0, [.ref ko, .ref kp, .ref kr, .ref ks, .int (nI (cd + rs / 2)), .int (nI (cd))])), (ko, .inl (cs.1, 48, .inl (fun j => nI (od j)))), (bc, .inl (cs.2.1, 48, .inr (.inl (fun j => lN (ct j))))), (kp, .inl (cs.2.2.2, 16, .inr (.inr (.inr (.inr (fun i => some (ra i))))))), (kr, .inl (cs.2.1, 96, .inr (.inl (fun j => lN (rv j))))), (ks, .inl (cs.2.1, 96, .inr (.inl (fun j => lN ((updN ((rwp ct od rv cd (rs / 2) sv t)) (t) (ct (od ((mst ct od rv cd (rs / 2) t).1)))) j)))))] ++ rowsW cs.1 ra (updG ((plg pl kk (plp ct od rv cd (rs / 2) (pl kk) (t)))) (kk) ((mst ct od rv cd (rs / 2) t).1) (t)))) 5 rfl (by omega) (by decide) rfl d_K_buildRow_120 ?_
      refine g_iinc C (lv' := [(4, .int (nI ((mst ct od rv cd (rs / 2) t).1 + 1))), (7, .long (lN (9223372036854775807))), (0, .ref k), (1, .int (nI (kk))), (2, .ref bc), (3, .int (nI (rs / 2))), (5, .int (nI ((mst ct od rv cd (rs / 2) t).2))), (6, .int (nI (t)))]) (k := 5) d_K_buildRow_121 rfl (nI_1 _) (by decide) rfl ?_
      refine g_goto C 139 d_K_buildRow_124 (by decide) ?_
      refine g_iinc C (lv' := [(6, .int (nI (t + 1))), (4, .int (nI ((mst ct od rv cd (rs / 2) t).1 + 1))), (7, .long (lN (9223372036854775807))), (0, .ref k), (1, .int (nI (kk))), (2, .ref bc), (3, .int (nI (rs / 2))), (5, .int (nI ((mst ct od rv cd (rs / 2) t).2)))]) (k := 7) d_K_buildRow_139 rfl (nI_1 _) (by decide) rfl ?_
      refine g_goto C 26 d_K_buildRow_142 (by decide) ?_
      refine g_lv (lv' := [(0, .ref k), (1, .int (nI (kk))), (2, .ref bc), (3, .int (nI (rs / 2))), (4, .int (nI ((mst ct od rv cd (rs / 2) t).1 + 1))), (5, .int (nI ((mst ct od rv cd (rs / 2) t).2))), (6, .int (nI (t + 1)))]) [3, 4, 5, 6, 1, 7, 0] rfl ?_
      have hsy : sym ct od rv cd (rs / 2) (mst ct od rv cd (rs / 2) t) = true := decide_eq_true ⟨by omega, fun q9 => by omega⟩
      have hg := ih (96 - (t + 1)) (by omega) (t + 1) rfl (by omega)
      rw [mst_s hsy, rwp_s hsy, plp_s hsy] at hg
      rw [plg_up]
      exact hg
    · refine g_aload_n C d_K_buildRow_41 0 rfl rfl ?_
      refine g_get C (T := FK) (N := 6) 0 2 inK rfl rfl (by decide) tw_31 rfl rfl d_K_buildRow_42 ?_
      refine g_iconst C (v := nI 2) d_K_buildRow_45 rfl ?_
      refine g_iload C d_K_buildRow_46 5 rfl ?_
      refine g_imul C (v := nI ((2) * ((mst ct od rv cd (rs / 2) t).2))) d_K_buildRow_48 (pk_mul _ _) ?_
      refine g_lald C 4 rfl (by omega) (by decide) d_K_buildRow_49 ?_
      refine g_aload_n C d_K_buildRow_50 0 rfl rfl ?_
      refine g_get C (T := FK) (N := 6) 0 2 inK rfl rfl (by decide) tw_31 rfl rfl d_K_buildRow_51 ?_
      refine g_iconst C (v := nI 2) d_K_buildRow_54 rfl ?_
      refine g_iload C d_K_buildRow_55 5 rfl ?_
      refine g_imul C (v := nI ((2) * ((mst ct od rv cd (rs / 2) t).2))) d_K_buildRow_57 (pk_mul _ _) ?_
      refine g_iconst C (v := nI 1) d_K_buildRow_58 rfl ?_
      refine g_iadd C (v := nI ((2) * ((mst ct od rv cd (rs / 2) t).2) + 1)) d_K_buildRow_59 (nI_add _ _) ?_
      refine g_lald C 4 rfl (by omega) (by decide) d_K_buildRow_60 ?_
      refine g_ladd C (v := lN (rv ((2) * ((mst ct od rv cd (rs / 2) t).2)) + (rv ((2) * ((mst ct od rv cd (rs / 2) t).2) + 1)))) d_K_buildRow_61 (lN_add _ _) ?_
      refine g_goto C 68 d_K_buildRow_62 (by decide) ?_
      refine g_lstore C (lv' := [(7, .long (lN (rv ((2) * ((mst ct od rv cd (rs / 2) t).2)) + (rv ((2) * ((mst ct od rv cd (rs / 2) t).2) + 1))))), (0, .ref k), (1, .int (nI (kk))), (2, .ref bc), (3, .int (nI (rs / 2))), (4, .int (nI ((mst ct od rv cd (rs / 2) t).1))), (5, .int (nI ((mst ct od rv cd (rs / 2) t).2))), (6, .int (nI (t)))]) d_K_buildRow_68 (by decide) rfl ?_
      refine g_iload C d_K_buildRow_70 5 rfl ?_
      refine g_aload_n C d_K_buildRow_72 1 rfl rfl ?_
      refine g_get C (T := FK) (N := 6) 0 5 inK rfl rfl (by decide) tw_34 rfl rfl d_K_buildRow_73 ?_
      refine n_icmp_ge C 127 d_K_buildRow_76 (by decide) (by omega) (by omega) (fun h76 => ?_) (fun h76 => ?_)
      · refine g_aload_n C d_K_buildRow_127 1 rfl rfl ?_
        refine g_get C (T := FK) (N := 6) 0 3 inK rfl rfl (by decide) tw_32 rfl rfl d_K_buildRow_128 ?_
        refine g_iload C d_K_buildRow_131 7 rfl ?_
        refine g_lload C d_K_buildRow_133 0 rfl ?_
        refine n_last C (ws' := ([(k, .inr (0, [.ref ko, .ref kp, .ref kr, .ref ks, .int (nI (cd + rs / 2)), .int (nI (cd))])), (ko, .inl (cs.1, 48, .inl (fun j => nI (od j)))), (bc, .inl (cs.2.1, 48, .inr (.inl (fun j => lN (ct j))))), (kp, .inl (cs.2.2.2, 16, .inr (.inr (.inr (.inr (fun i => some (ra i))))))), (kr, .inl (cs.2.1, 96, .inr (.inl (fun j => lN (rv j))))), (ks, .inl (cs.2.1, 96, .inr (.inl (fun j => lN ((updN ((rwp ct od rv cd (rs / 2) sv t)) (t) (rv ((2) * ((mst ct od rv cd (rs / 2) t).2)) + (rv ((2) * ((mst ct od rv cd (rs / 2) t).2) + 1)))) j)))))] ++ rowsW cs.1 ra ((plg pl kk (plp ct od rv cd (rs / 2) (pl kk) (t)))))) 5 rfl (by omega) (by decide) rfl d_K_buildRow_135 ?_
        refine g_iinc C (lv' := [(5, .int (nI ((mst ct od rv cd (rs / 2) t).2 + 1))), (7, .long (lN (rv ((2) * ((mst ct od rv cd (rs / 2) t).2)) + (rv ((2) * ((mst ct od rv cd (rs / 2) t).2) + 1))))), (0, .ref k), (1, .int (nI (kk))), (2, .ref bc), (3, .int (nI (rs / 2))), (4, .int (nI ((mst ct od rv cd (rs / 2) t).1))), (6, .int (nI (t)))]) (k := 6) d_K_buildRow_136 rfl (nI_1 _) (by decide) rfl ?_
        refine g_iinc C (lv' := [(6, .int (nI (t + 1))), (5, .int (nI ((mst ct od rv cd (rs / 2) t).2 + 1))), (7, .long (lN (rv ((2) * ((mst ct od rv cd (rs / 2) t).2)) + (rv ((2) * ((mst ct od rv cd (rs / 2) t).2) + 1))))), (0, .ref k), (1, .int (nI (kk))), (2, .ref bc), (3, .int (nI (rs / 2))), (4, .int (nI ((mst ct od rv cd (rs / 2) t).1)))]) (k := 7) d_K_buildRow_139 rfl (nI_1 _) (by decide) rfl ?_
        refine g_goto C 26 d_K_buildRow_142 (by decide) ?_
        refine g_lv (lv' := [(0, .ref k), (1, .int (nI (kk))), (2, .ref bc), (3, .int (nI (rs / 2))), (4, .int (nI ((mst ct od rv cd (rs / 2) t).1))), (5, .int (nI ((mst ct od rv cd (rs / 2) t).2 + 1))), (6, .int (nI (t + 1)))]) [3, 4, 5, 6, 7, 1, 0] rfl ?_
        have hsy : ¬ sym ct od rv cd (rs / 2) (mst ct od rv cd (rs / 2) t) = true := fun q8 => by have q9 := of_decide_eq_true q8; omega
        have hg := ih (96 - (t + 1)) (by omega) (t + 1) rfl (by omega)
        rw [mst_p hsy, rwp_p hsy, plp_p hsy] at hg
        exact hg
      · refine g_aload_n C d_K_buildRow_79 3 rfl rfl ?_
        refine g_aload_n C d_K_buildRow_80 1 rfl rfl ?_
        refine g_get C (T := FK) (N := 6) 0 0 inK rfl rfl (by decide) tw_29 rfl rfl d_K_buildRow_81 ?_
        refine g_iload C d_K_buildRow_84 5 rfl ?_
        refine g_iald C 1 rfl (by omega) (by decide) d_K_buildRow_86 ?_
        refine g_lald C 2 rfl (hod _ (by omega)) (by decide) d_K_buildRow_87 ?_
        refine g_lload C d_K_buildRow_88 0 rfl ?_
        refine n_lcmp_gt C 127 d_K_buildRow_90 d_K_buildRow_91 (by decide) (by have := hct _ (hod (mst ct od rv cd (rs / 2) t).1 (by omega)); omega) (by have h7 := hrv (2 * (mst ct od rv cd (rs / 2) t).2) (by omega); have h8 := hrv (2 * (mst ct od rv cd (rs / 2) t).2 + 1) (by omega); omega) (fun h90 => ?_) (fun h90 => ?_)
        · refine g_aload_n C d_K_buildRow_127 1 rfl rfl ?_
          refine g_get C (T := FK) (N := 6) 0 3 inK rfl rfl (by decide) tw_32 rfl rfl d_K_buildRow_128 ?_
          refine g_iload C d_K_buildRow_131 7 rfl ?_
          refine g_lload C d_K_buildRow_133 0 rfl ?_
          refine n_last C (ws' := ([(k, .inr (0, [.ref ko, .ref kp, .ref kr, .ref ks, .int (nI (cd + rs / 2)), .int (nI (cd))])), (ko, .inl (cs.1, 48, .inl (fun j => nI (od j)))), (bc, .inl (cs.2.1, 48, .inr (.inl (fun j => lN (ct j))))), (kp, .inl (cs.2.2.2, 16, .inr (.inr (.inr (.inr (fun i => some (ra i))))))), (kr, .inl (cs.2.1, 96, .inr (.inl (fun j => lN (rv j))))), (ks, .inl (cs.2.1, 96, .inr (.inl (fun j => lN ((updN ((rwp ct od rv cd (rs / 2) sv t)) (t) (rv ((2) * ((mst ct od rv cd (rs / 2) t).2)) + (rv ((2) * ((mst ct od rv cd (rs / 2) t).2) + 1)))) j)))))] ++ rowsW cs.1 ra ((plg pl kk (plp ct od rv cd (rs / 2) (pl kk) (t)))))) 5 rfl (by omega) (by decide) rfl d_K_buildRow_135 ?_
          refine g_iinc C (lv' := [(5, .int (nI ((mst ct od rv cd (rs / 2) t).2 + 1))), (7, .long (lN (rv ((2) * ((mst ct od rv cd (rs / 2) t).2)) + (rv ((2) * ((mst ct od rv cd (rs / 2) t).2) + 1))))), (0, .ref k), (1, .int (nI (kk))), (2, .ref bc), (3, .int (nI (rs / 2))), (4, .int (nI ((mst ct od rv cd (rs / 2) t).1))), (6, .int (nI (t)))]) (k := 6) d_K_buildRow_136 rfl (nI_1 _) (by decide) rfl ?_
          refine g_iinc C (lv' := [(6, .int (nI (t + 1))), (5, .int (nI ((mst ct od rv cd (rs / 2) t).2 + 1))), (7, .long (lN (rv ((2) * ((mst ct od rv cd (rs / 2) t).2)) + (rv ((2) * ((mst ct od rv cd (rs / 2) t).2) + 1))))), (0, .ref k), (1, .int (nI (kk))), (2, .ref bc), (3, .int (nI (rs / 2))), (4, .int (nI ((mst ct od rv cd (rs / 2) t).1)))]) (k := 7) d_K_buildRow_139 rfl (nI_1 _) (by decide) rfl ?_
          refine g_goto C 26 d_K_buildRow_142 (by decide) ?_
          refine g_lv (lv' := [(0, .ref k), (1, .int (nI (kk))), (2, .ref bc), (3, .int (nI (rs / 2))), (4, .int (nI ((mst ct od rv cd (rs / 2) t).1))), (5, .int (nI ((mst ct od rv cd (rs / 2) t).2 + 1))), (6, .int (nI (t + 1)))]) [3, 4, 5, 6, 7, 1, 0] rfl ?_
          have hsy : ¬ sym ct od rv cd (rs / 2) (mst ct od rv cd (rs / 2) t) = true := fun q8 => by have q9 := of_decide_eq_true q8; omega
          have hg := ih (96 - (t + 1)) (by omega) (t + 1) rfl (by omega)
          rw [mst_p hsy, rwp_p hsy, plp_p hsy] at hg
          exact hg
        · refine g_aload_n C d_K_buildRow_94 1 rfl rfl ?_
          refine g_get C (T := FK) (N := 6) 0 1 inK rfl rfl (by decide) tw_30 rfl rfl d_K_buildRow_95 ?_
          refine g_iload_n C d_K_buildRow_98 2 rfl rfl ?_
          refine g_aald C 3 rfl (by omega) d_K_buildRow_99 ?_
          refine g_iload C d_K_buildRow_100 5 rfl ?_
          refine g_iload C d_K_buildRow_102 7 rfl ?_
          refine g_rast C (X := [(k, .inr (0, [.ref ko, .ref kp, .ref kr, .ref ks, .int (nI (cd + rs / 2)), .int (nI (cd))])), (ko, .inl (cs.1, 48, .inl (fun j => nI (od j)))), (bc, .inl (cs.2.1, 48, .inr (.inl (fun j => lN (ct j))))), (kp, .inl (cs.2.2.2, 16, .inr (.inr (.inr (.inr (fun i => some (ra i))))))), (kr, .inl (cs.2.1, 96, .inr (.inl (fun j => lN (rv j))))), (ks, .inl (cs.2.1, 96, .inr (.inl (fun j => lN ((rwp ct od rv cd (rs / 2) sv t) j)))))]) (ws' := ([(k, .inr (0, [.ref ko, .ref kp, .ref kr, .ref ks, .int (nI (cd + rs / 2)), .int (nI (cd))])), (ko, .inl (cs.1, 48, .inl (fun j => nI (od j)))), (bc, .inl (cs.2.1, 48, .inr (.inl (fun j => lN (ct j))))), (kp, .inl (cs.2.2.2, 16, .inr (.inr (.inr (.inr (fun i => some (ra i))))))), (kr, .inl (cs.2.1, 96, .inr (.inl (fun j => lN (rv j))))), (ks, .inl (cs.2.1, 96, .inr (.inl (fun j => lN ((rwp ct od rv cd (rs / 2) sv t) j)))))] ++ rowsW cs.1 ra (updG ((plg pl kk (plp ct od rv cd (rs / 2) (pl kk) (t)))) (kk) ((mst ct od rv cd (rs / 2) t).1) (t)))) (i := (kk)) rfl (by omega) (by omega) rfl d_K_buildRow_104 ?_
          refine g_aload_n C d_K_buildRow_105 1 rfl rfl ?_
          refine g_get C (T := FK) (N := 6) 0 3 inK rfl rfl (by decide) tw_32 rfl rfl d_K_buildRow_106 ?_
          refine g_iload C d_K_buildRow_109 7 rfl ?_
          refine g_aload_n C d_K_buildRow_111 3 rfl rfl ?_
          refine g_aload_n C d_K_buildRow_112 1 rfl rfl ?_
          refine g_get C (T := FK) (N := 6) 0 0 inK rfl rfl (by decide) tw_29 rfl rfl d_K_buildRow_113 ?_
          refine g_iload C d_K_buildRow_116 5 rfl ?_
          refine g_iald C 1 rfl (by omega) (by decide) d_K_buildRow_118 ?_
          refine g_lald C 2 rfl (hod _ (by omega)) (by decide) d_K_buildRow_119 ?_
          refine n_last C (ws' := ([(k, .inr (0, [.ref ko, .ref kp, .ref kr, .ref ks, .int (nI (cd + rs / 2)), .int (nI (cd))])), (ko, .inl (cs.1, 48, .inl (fun j => nI (od j)))), (bc, .inl (cs.2.1, 48, .inr (.inl (fun j => lN (ct j))))), (kp, .inl (cs.2.2.2, 16, .inr (.inr (.inr (.inr (fun i => some (ra i))))))), (kr, .inl (cs.2.1, 96, .inr (.inl (fun j => lN (rv j))))), (ks, .inl (cs.2.1, 96, .inr (.inl (fun j => lN ((updN ((rwp ct od rv cd (rs / 2) sv t)) (t) (ct (od ((mst ct od rv cd (rs / 2) t).1)))) j)))))] ++ rowsW cs.1 ra (updG ((plg pl kk (plp ct od rv cd (rs / 2) (pl kk) (t)))) (kk) ((mst ct od rv cd (rs / 2) t).1) (t)))) 5 rfl (by omega) (by decide) rfl d_K_buildRow_120 ?_
          refine g_iinc C (lv' := [(4, .int (nI ((mst ct od rv cd (rs / 2) t).1 + 1))), (7, .long (lN (rv ((2) * ((mst ct od rv cd (rs / 2) t).2)) + (rv ((2) * ((mst ct od rv cd (rs / 2) t).2) + 1))))), (0, .ref k), (1, .int (nI (kk))), (2, .ref bc), (3, .int (nI (rs / 2))), (5, .int (nI ((mst ct od rv cd (rs / 2) t).2))), (6, .int (nI (t)))]) (k := 5) d_K_buildRow_121 rfl (nI_1 _) (by decide) rfl ?_
          refine g_goto C 139 d_K_buildRow_124 (by decide) ?_
          refine g_iinc C (lv' := [(6, .int (nI (t + 1))), (4, .int (nI ((mst ct od rv cd (rs / 2) t).1 + 1))), (7, .long (lN (rv ((2) * ((mst ct od rv cd (rs / 2) t).2)) + (rv ((2) * ((mst ct od rv cd (rs / 2) t).2) + 1))))), (0, .ref k), (1, .int (nI (kk))), (2, .ref bc), (3, .int (nI (rs / 2))), (5, .int (nI ((mst ct od rv cd (rs / 2) t).2)))]) (k := 7) d_K_buildRow_139 rfl (nI_1 _) (by decide) rfl ?_
          refine g_goto C 26 d_K_buildRow_142 (by decide) ?_
          refine g_lv (lv' := [(0, .ref k), (1, .int (nI (kk))), (2, .ref bc), (3, .int (nI (rs / 2))), (4, .int (nI ((mst ct od rv cd (rs / 2) t).1 + 1))), (5, .int (nI ((mst ct od rv cd (rs / 2) t).2))), (6, .int (nI (t + 1)))]) [3, 4, 5, 6, 1, 7, 0] rfl ?_
          have hsy : sym ct od rv cd (rs / 2) (mst ct od rv cd (rs / 2) t) = true := decide_eq_true ⟨by omega, fun q9 => by omega⟩
          have hg := ih (96 - (t + 1)) (by omega) (t + 1) rfl (by omega)
          rw [mst_s hsy, rwp_s hsy, plp_s hsy] at hg
          rw [plg_up]
          exact hg
set_option maxHeartbeats 4000000 in
set_option maxRecDepth 100000 in
theorem m_K_buildRow (l : Launch) (D : va_G) (cs : ClassId × ClassId × ClassId × ClassId) (k ko kp kr ks bc rs : Nat) (ra : Nat → Nat) (ct od : Nat → Nat) (cd : Nat) (rv sv : Nat → Nat) (pl : Nat → Nat → Nat) (kk : Nat) (hcd : cd ≤ 48) (hrs : rs ≤ 96) (hkk : kk < 16) (hct : ∀ j, j < 48 → ct j ≤ 1000000000) (hod : ∀ j, j < cd → od j < 48) (hrv : ∀ j, j < rs → rv j < 2 ^ 60) : MG l y_K_buildRow k_K_buildRow { frames := 0, cells := 0, slots := 0, locals := 0 } D cs [.ref k, .int (nI (kk)), .ref bc] ([(k, .inr (0, [.ref ko, .ref kp, .ref kr, .ref ks, .int (nI (rs)), .int (nI (cd))])), (ko, .inl (cs.1, 48, .inl (fun j => nI (od j)))), (bc, .inl (cs.2.1, 48, .inr (.inl (fun j => lN (ct j))))), (kp, .inl (cs.2.2.2, 16, .inr (.inr (.inr (.inr (fun i => some (ra i))))))), (kr, .inl (cs.2.1, 96, .inr (.inl (fun j => lN (rv j))))), (ks, .inl (cs.2.1, 96, .inr (.inl (fun j => lN (sv j)))))] ++ rowsW cs.1 ra (pl)) (QV D ([(k, .inr (0, [.ref ko, .ref kp, .ref ks, .ref kr, .int (nI (cd + rs / 2)), .int (nI (cd))])), (ko, .inl (cs.1, 48, .inl (fun j => nI (od j)))), (bc, .inl (cs.2.1, 48, .inr (.inl (fun j => lN (ct j))))), (kp, .inl (cs.2.2.2, 16, .inr (.inr (.inr (.inr (fun i => some (ra i))))))), (kr, .inl (cs.2.1, 96, .inr (.inl (fun j => lN (rv j))))), (ks, .inl (cs.2.1, 96, .inr (.inl (fun j => lN ((rwp ct od rv cd (rs / 2) sv (cd + rs / 2)) j)))))] ++ rowsW cs.1 ra ((plg pl kk (plp ct od rv cd (rs / 2) (pl kk) (cd + rs / 2)))))) := by
  refine MG.mk (own := RK) (by decide) rfl (Nat.le_of_ble_eq_true rfl) ?_
  intro p e s m below meth c A C hr hlk
  refine g_lv (lv' := [(0, .ref k), (1, .int (nI (kk))), (2, .ref bc)]) [0, 1, 2] rfl ?_
  refine g_aload_n C d_K_buildRow_0 0 rfl rfl ?_
  refine g_get C (T := FK) (N := 6) 0 4 inK rfl rfl (by decide) tw_33 rfl rfl d_K_buildRow_1 ?_
  refine g_iconst C (v := nI 2) d_K_buildRow_4 rfl ?_
  refine g_idiv C (v := nI (rs / 2)) d_K_buildRow_5 (nI_ne0 (n := 2) (by omega) (by omega)) (pk_div (d := 2) (by omega) (by omega) (by omega)) ?_
  refine g_istore_n C (lv' := [(3, .int (nI (rs / 2))), (0, .ref k), (1, .int (nI (kk))), (2, .ref bc)]) d_K_buildRow_6 rfl (by decide) rfl ?_
  refine g_iconst C (v := nI 0) d_K_buildRow_7 rfl ?_
  refine g_istore C (lv' := [(4, .int (nI (0))), (3, .int (nI (rs / 2))), (0, .ref k), (1, .int (nI (kk))), (2, .ref bc)]) d_K_buildRow_8 (by decide) rfl ?_
  refine g_iconst C (v := nI 0) d_K_buildRow_10 rfl ?_
  refine g_istore C (lv' := [(5, .int (nI (0))), (4, .int (nI (0))), (3, .int (nI (rs / 2))), (0, .ref k), (1, .int (nI (kk))), (2, .ref bc)]) d_K_buildRow_11 (by decide) rfl ?_
  refine g_aload_n C d_K_buildRow_13 3 rfl rfl ?_
  refine g_aload_n C d_K_buildRow_14 3 rfl rfl ?_
  refine g_get C (T := FK) (N := 6) 0 5 inK rfl rfl (by decide) tw_34 rfl rfl d_K_buildRow_15 ?_
  refine g_iload_n C d_K_buildRow_18 2 rfl rfl ?_
  refine g_iadd C (v := nI (cd + (rs / 2))) d_K_buildRow_19 (nI_add _ _) ?_
  refine g_put C (T := FK) (N := 6) (ws' := ([(k, .inr (0, [.ref ko, .ref kp, .ref kr, .ref ks, .int (nI (cd + (rs / 2))), .int (nI (cd))])), (ko, .inl (cs.1, 48, .inl (fun j => nI (od j)))), (bc, .inl (cs.2.1, 48, .inr (.inl (fun j => lN (ct j))))), (kp, .inl (cs.2.2.2, 16, .inr (.inr (.inr (.inr (fun i => some (ra i))))))), (kr, .inl (cs.2.1, 96, .inr (.inl (fun j => lN (rv j))))), (ks, .inl (cs.2.1, 96, .inr (.inl (fun j => lN (sv j)))))] ++ rowsW cs.1 ra (pl))) 0 4 inK tyK okK nmK rfl rfl (by decide) tw_33 rfl rfl rfl rfl rfl (Nat.le_of_ble_eq_true rfl) rfl d_K_buildRow_20 ?_
  refine g_iconst C (v := nI 0) d_K_buildRow_23 rfl ?_
  refine g_istore C (lv' := [(6, .int (nI (0))), (5, .int (nI (0))), (4, .int (nI (0))), (3, .int (nI (rs / 2))), (0, .ref k), (1, .int (nI (kk))), (2, .ref bc)]) d_K_buildRow_24 (by decide) rfl ?_
  refine g_ws (ws' := ([(k, .inr (0, [.ref ko, .ref kp, .ref kr, .ref ks, .int (nI (cd + (rs / 2))), .int (nI (cd))])), (ko, .inl (cs.1, 48, .inl (fun j => nI (od j)))), (bc, .inl (cs.2.1, 48, .inr (.inl (fun j => lN (ct j))))), (kp, .inl (cs.2.2.2, 16, .inr (.inr (.inr (.inr (fun i => some (ra i))))))), (kr, .inl (cs.2.1, 96, .inr (.inl (fun j => lN (rv j))))), (ks, .inl (cs.2.1, 96, .inr (.inl (fun j => lN (sv j)))))] ++ rowsW cs.1 ra (plg pl kk (plp ct od rv cd (rs / 2) (pl kk) 0)))) (by rw [plp, plg_0]) ?_
  refine g_lv (lv' := [(0, .ref k), (1, .int (nI (kk))), (2, .ref bc), (3, .int (nI (rs / 2))), (4, .int (nI (0))), (5, .int (nI (0))), (6, .int (nI (0)))]) [4, 5, 6, 3, 2, 1, 0] rfl ?_
  refine l_K_br C k ko kp kr ks bc rs ra ct od cd rv sv pl kk hcd hrs hkk hct hod hrv ?_ _ 0 rfl (by omega)
  refine g_aload_n C d_K_buildRow_145 0 rfl rfl ?_
  refine g_get C (T := FK) (N := 6) 0 2 inK rfl rfl (by decide) tw_31 rfl rfl d_K_buildRow_146 ?_
  refine g_astore C (lv' := [(6, .ref kr), (0, .ref k)]) d_K_buildRow_149 (by decide) rfl ?_
  refine g_aload_n C d_K_buildRow_151 1 rfl rfl ?_
  refine g_aload_n C d_K_buildRow_152 1 rfl rfl ?_
  refine g_get C (T := FK) (N := 6) 0 3 inK rfl rfl (by decide) tw_32 rfl rfl d_K_buildRow_153 ?_
  refine g_put C (T := FK) (N := 6) (ws' := ([(k, .inr (0, [.ref ko, .ref kp, .ref ks, .ref ks, .int (nI (cd + rs / 2)), .int (nI (cd))])), (ko, .inl (cs.1, 48, .inl (fun j => nI (od j)))), (bc, .inl (cs.2.1, 48, .inr (.inl (fun j => lN (ct j))))), (kp, .inl (cs.2.2.2, 16, .inr (.inr (.inr (.inr (fun i => some (ra i))))))), (kr, .inl (cs.2.1, 96, .inr (.inl (fun j => lN (rv j))))), (ks, .inl (cs.2.1, 96, .inr (.inl (fun j => lN ((rwp ct od rv cd (rs / 2) sv (cd + rs / 2)) j)))))] ++ rowsW cs.1 ra ((plg pl kk (plp ct od rv cd (rs / 2) (pl kk) (cd + rs / 2)))))) 0 2 inK tyK okK nmK rfl rfl (by decide) tw_31 rfl rfl rfl rfl rfl (Nat.le_of_ble_eq_true rfl) rfl d_K_buildRow_156 ?_
  refine g_aload_n C d_K_buildRow_159 1 rfl rfl ?_
  refine g_aload C d_K_buildRow_160 0 rfl ?_
  refine g_put C (T := FK) (N := 6) (ws' := ([(k, .inr (0, [.ref ko, .ref kp, .ref ks, .ref kr, .int (nI (cd + rs / 2)), .int (nI (cd))])), (ko, .inl (cs.1, 48, .inl (fun j => nI (od j)))), (bc, .inl (cs.2.1, 48, .inr (.inl (fun j => lN (ct j))))), (kp, .inl (cs.2.2.2, 16, .inr (.inr (.inr (.inr (fun i => some (ra i))))))), (kr, .inl (cs.2.1, 96, .inr (.inl (fun j => lN (rv j))))), (ks, .inl (cs.2.1, 96, .inr (.inl (fun j => lN ((rwp ct od rv cd (rs / 2) sv (cd + rs / 2)) j)))))] ++ rowsW cs.1 ra ((plg pl kk (plp ct od rv cd (rs / 2) (pl kk) (cd + rs / 2)))))) 0 3 inK tyK okK nmK rfl rfl (by decide) tw_32 rfl rfl rfl rfl rfl (Nat.le_of_ble_eq_true rfl) rfl d_K_buildRow_162 ?_
  exact g_vret C hr hlk rfl d_K_buildRow_165
