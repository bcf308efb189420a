/-- what stands in a row, symbol or pair -/
def rsv (ct od rv : Nat → Nat) (n pr t : Nat) : Int32 := if sym ct od rv n pr (mst ct od rv n pr t) = true then nI (od (mst ct od rv n pr t).1) else -1
def rwm (ct od rv : Nat → Nat) (n pr kk : Nat) (r0 : Nat → Int32) : Nat → (Nat → Int32)
  | 0 => r0
  | t + 1 => upd (rwm ct od rv n pr kk r0 t) (96 * kk + t) (rsv ct od rv n pr t)
/-- the first j of one array, behind them the other -/
def cpb (bf sm : Nat → Nat) (j : Nat) : Nat → Nat := fun i => if i < j then sm i else bf i
theorem cpb_up (bf sm : Nat → Nat) (j : Nat) : updN (cpb bf sm j) j (sm j) = cpb bf sm (j + 1) := by
  funext i
  unfold updN cpb
  by_cases h : i = j
  · subst h; simp
  · simp only [h, if_false]
    have : (i < j) ↔ (i < j + 1) := by omega
    simp only [this]
theorem cpb_0 (bf sm : Nat → Nat) : cpb bf sm 0 = bf := by funext i; unfold cpb; rw [if_neg (by omega)]
section RM
variable {ct od rv : Nat → Nat} {n pr t kk : Nat} {r0 : Nat → Int32}
theorem rwm_s (h : sym ct od rv n pr (mst ct od rv n pr t) = true) : rwm ct od rv n pr kk r0 (t + 1) = upd (rwm ct od rv n pr kk r0 t) (96 * kk + t) (nI (od (mst ct od rv n pr t).1)) := by rw [rwm, rsv, if_pos h]
theorem rwm_p (h : ¬ sym ct od rv n pr (mst ct od rv n pr t) = true) : rwm ct od rv n pr kk r0 (t + 1) = upd (rwm ct od rv n pr kk r0 t) (96 * kk + t) (-1) := by rw [rwm, rsv, if_neg h]
end RM

set_option maxHeartbeats 4000000 in
set_option maxRecDepth 100000 in
theorem l_M_pk {p : Program} {l : Launch} {e : Env} {s : State} {m : MethodId} {args : Array Value} {below : List Frame} {meth : Method} {c : Code} {Q : State → Prop} {A : Nat → Prop} {D : va_G} {cs : ClassId × ClassId × ClassId × ClassId} (C : CX p s m args c c_M_pack 9 RM D cs A) (w w1 w2 w3 w4 w5 w6 w7 w8 w9 wa wb wd : Nat) (cd ru wt rd : Nat) (va : Int64) (ct : Nat → Nat) (od : Nat → Nat) (rw : Nat → Int32) (sz : Nat → Nat) (sm : Nat → Nat) (bf : Nat → Nat) (kk nn pr : Nat) (hnn : nn ≤ 48) (hpr : pr ≤ 48) (hkk : kk < 16) (hct : ∀ j, j < 48 → ct j ≤ 1000000000) (hod : ∀ j, j < nn → od j < 48) (hbf : ∀ j, j < 2 * pr → bf j < 2 ^ 60)
    (K : GO p l e { frames := 0, cells := 0, slots := 0, locals := 0 } s m args below meth c 0 0 Q A D 9 203 [(0, .ref w), (1, .int (nI (kk))), (2, .int (nI (nn))), (3, .int (nI (pr)))] [] [(w, .inr (4, [.int (nI (0)), .int (nI (ru)), .ref w1, .ref w2, .ref w3, .ref w4, .ref w5, .ref w6, .int (nI (wt)), .int (nI (rd)), .long (va), .ref w7, .ref w8, .ref w9, .ref wa, .ref wb, .ref wd])), (w1, .inl (cs.2.1, 48, .inr (.inl (fun j => lN (ct j))))), (w7, .inl (cs.1, 48, .inl (fun j => nI (od j)))), (w8, .inl (cs.1, 1536, .inl ((rwm ct od bf nn pr kk rw (nn + pr))))), (w9, .inl (cs.1, 16, .inl (fun j => nI (sz j)))), (wa, .inl (cs.2.1, 96, .inr (.inl (fun j => lN ((rwp ct od bf nn pr sm (nn + pr)) j))))), (wb, .inl (cs.2.1, 96, .inr (.inl (fun j => lN (bf j)))))])
    : ∀ (n : Nat) (t : Nat), 96 - t = n → (t ≤ nn + pr) → GO p l e { frames := 0, cells := 0, slots := 0, locals := 0 } s m args below meth c 0 0 Q A D 9 25 [(0, .ref w), (1, .int (nI (kk))), (2, .int (nI (nn))), (3, .int (nI (pr))), (4, .int (nI ((mst ct od bf nn pr t).1))), (5, .int (nI ((mst ct od bf nn pr t).2)))] [] [(w, .inr (4, [.int (nI (0)), .int (nI (ru)), .ref w1, .ref w2, .ref w3, .ref w4, .ref w5, .ref w6, .int (nI (wt)), .int (nI (rd)), .long (va), .ref w7, .ref w8, .ref w9, .ref wa, .ref wb, .ref wd])), (w1, .inl (cs.2.1, 48, .inr (.inl (fun j => lN (ct j))))), (w7, .inl (cs.1, 48, .inl (fun j => nI (od j)))), (w8, .inl (cs.1, 1536, .inl ((rwm ct od bf nn pr kk rw (t))))), (w9, .inl (cs.1, 16, .inl (fun j => nI (sz j)))), (wa, .inl (cs.2.1, 96, .inr (.inl (fun j => lN ((rwp ct od bf nn pr sm (t)) j))))), (wb, .inl (cs.2.1, 96, .inr (.inl (fun j => lN (bf j)))))] := by
  intro n
  induction n using Nat.strongRecOn with
  | _ n ih =>
  intro t  hn ht
  have hmu := mst_sum (ct := ct) (od := od) (rv := bf) (n := nn) (pr := pr) t
  have hml := (mst_le (ct := ct) (od := od) (rv := bf) (n := nn) (pr := pr) t).1
  have hmr := (mst_le (ct := ct) (od := od) (rv := bf) (n := nn) (pr := pr) t).2 (by omega)
  refine g_iload C d_M_pack_25 4 rfl ?_
  refine g_iload_n C d_M_pack_27 2 rfl rfl ?_
  refine n_icmp_lt C 37 d_M_pack_28 (by decide) (by omega) (by omega) (fun h28 => ?_) (fun h28 => ?_)
  · refine g_iload C d_M_pack_37 5 rfl ?_
    refine g_iload_n C d_M_pack_39 3 rfl rfl ?_
    refine n_icmp_ge C 67 d_M_pack_40 (by decide) (by omega) (by omega) (fun h40 => ?_) (fun h40 => ?_)
    · refine g_lconst C (v := lN 0) d_M_pack_67 rfl ?_
      refine g_lstore C (lv' := [(6, .long (lN (0))), (0, .ref w), (1, .int (nI (kk))), (2, .int (nI (nn))), (3, .int (nI (pr))), (4, .int (nI ((mst ct od bf nn pr t).1))), (5, .int (nI ((mst ct od bf nn pr t).2)))]) d_M_pack_68 (by decide) rfl ?_
      refine g_iload C d_M_pack_70 5 rfl ?_
      refine g_iload_n C d_M_pack_72 3 rfl rfl ?_
      refine n_icmp_ge C 104 d_M_pack_73 (by decide) (by omega) (by omega) (fun h73 => ?_) (fun h73 => ?_)
      · exfalso; omega
      · refine g_iload C d_M_pack_76 6 rfl ?_
        refine g_iload_n C d_M_pack_78 4 rfl rfl ?_
        refine n_icmp_eq C 100 d_M_pack_79 (by decide) (by omega) (by omega) (fun h79 => ?_) (fun h79 => ?_)
        · refine g_iconst C (v := nI 1) d_M_pack_100 rfl ?_
          refine g_goto C 105 d_M_pack_101 (by decide) ?_
          refine g_istore C (lv' := [(8, .int (nI (1))), (6, .long (lN (0))), (0, .ref w), (1, .int (nI (kk))), (2, .int (nI (nn))), (3, .int (nI (pr))), (4, .int (nI ((mst ct od bf nn pr t).1))), (5, .int (nI ((mst ct od bf nn pr t).2)))]) d_M_pack_105 (by decide) rfl ?_
          refine g_aload_n C d_M_pack_107 2 rfl rfl ?_
          refine g_get C (T := FM) (N := 17) 0 14 inM rfl rfl (by decide) tw_450 rfl rfl d_M_pack_108 ?_
          refine g_iload C d_M_pack_111 6 rfl ?_
          refine g_iload C d_M_pack_113 7 rfl ?_
          refine g_iadd C (v := nI (t)) d_M_pack_115 ((nI_add _ _).trans (congrArg nI hmu)) ?_
          refine g_iload C d_M_pack_116 0 rfl ?_
          refine n_if_eq C 136 d_M_pack_118 (by decide) (by omega) (fun h => absurd h (by omega)) (fun _ => ?_)
          refine g_aload_n C d_M_pack_121 2 rfl rfl ?_
          refine g_get C (T := FM) (N := 17) 0 2 inM rfl rfl (by decide) tw_438 rfl rfl d_M_pack_122 ?_
          refine g_aload_n C d_M_pack_125 2 rfl rfl ?_
          refine g_get C (T := FM) (N := 17) 0 11 inM rfl rfl (by decide) tw_447 rfl rfl d_M_pack_126 ?_
          refine g_iload C d_M_pack_129 6 rfl ?_
          refine g_iald C 2 rfl (by omega) (by decide) d_M_pack_131 ?_
          refine g_lald C 1 rfl (hod _ (by omega)) (by decide) d_M_pack_132 ?_
          refine g_goto C 138 d_M_pack_133 (by decide) ?_
          refine n_last C (ws' := [(w, .inr (4, [.int (nI (0)), .int (nI (ru)), .ref w1, .ref w2, .ref w3, .ref w4, .ref w5, .ref w6, .int (nI (wt)), .int (nI (rd)), .long (va), .ref w7, .ref w8, .ref w9, .ref wa, .ref wb, .ref wd])), (w1, .inl (cs.2.1, 48, .inr (.inl (fun j => lN (ct j))))), (w7, .inl (cs.1, 48, .inl (fun j => nI (od j)))), (w8, .inl (cs.1, 1536, .inl ((rwm ct od bf nn pr kk rw (t))))), (w9, .inl (cs.1, 16, .inl (fun j => nI (sz j)))), (wa, .inl (cs.2.1, 96, .inr (.inl (fun j => lN ((updN ((rwp ct od bf nn pr sm (t))) (t) (ct (od ((mst ct od bf nn pr t).1)))) j))))), (wb, .inl (cs.2.1, 96, .inr (.inl (fun j => lN (bf j)))))]) 5 rfl (by omega) (by decide) rfl d_M_pack_138 ?_
          refine g_aload_n C d_M_pack_139 2 rfl rfl ?_
          refine g_get C (T := FM) (N := 17) 0 12 inM rfl rfl (by decide) tw_448 rfl rfl d_M_pack_140 ?_
          refine g_bipush C (v := nI 96) d_M_pack_143 rfl ?_
          refine g_iload_n C d_M_pack_145 3 rfl rfl ?_
          refine g_imul C (v := nI ((96) * (kk))) d_M_pack_146 (pk_mul _ _) ?_
          refine g_iload C d_M_pack_147 6 rfl ?_
          refine g_iadd C (v := nI ((96) * (kk) + ((mst ct od bf nn pr t).1))) d_M_pack_149 (nI_add _ _) ?_
          refine g_iload C d_M_pack_150 7 rfl ?_
          refine g_iadd C (v := nI (96 * kk + t)) d_M_pack_152 ((nI_add _ _).trans (congrArg nI (by omega))) ?_
          refine g_iload C d_M_pack_153 0 rfl ?_
          refine n_if_eq C 168 d_M_pack_155 (by decide) (by omega) (fun h => absurd h (by omega)) (fun _ => ?_)
          refine g_aload_n C d_M_pack_158 2 rfl rfl ?_
          refine g_get C (T := FM) (N := 17) 0 11 inM rfl rfl (by decide) tw_447 rfl rfl d_M_pack_159 ?_
          refine g_iload C d_M_pack_162 6 rfl ?_
          refine g_iald C 2 rfl (by omega) (by decide) d_M_pack_164 ?_
          refine g_goto C 169 d_M_pack_165 (by decide) ?_
          refine g_iast C (ws' := [(w, .inr (4, [.int (nI (0)), .int (nI (ru)), .ref w1, .ref w2, .ref w3, .ref w4, .ref w5, .ref w6, .int (nI (wt)), .int (nI (rd)), .long (va), .ref w7, .ref w8, .ref w9, .ref wa, .ref wb, .ref wd])), (w1, .inl (cs.2.1, 48, .inr (.inl (fun j => lN (ct j))))), (w7, .inl (cs.1, 48, .inl (fun j => nI (od j)))), (w8, .inl (cs.1, 1536, .inl (upd ((rwm ct od bf nn pr kk rw (t))) (96 * kk + t) (nI (od ((mst ct od bf nn pr t).1)))))), (w9, .inl (cs.1, 16, .inl (fun j => nI (sz j)))), (wa, .inl (cs.2.1, 96, .inr (.inl (fun j => lN ((updN ((rwp ct od bf nn pr sm (t))) (t) (ct (od ((mst ct od bf nn pr t).1)))) j))))), (wb, .inl (cs.2.1, 96, .inr (.inl (fun j => lN (bf j)))))]) 3 rfl (by omega) (by decide) rfl d_M_pack_169 ?_
          refine g_iload C d_M_pack_170 6 rfl ?_
          refine g_iload C d_M_pack_172 0 rfl ?_
          refine n_if_eq C 181 d_M_pack_174 (by decide) (by omega) (fun h => absurd h (by omega)) (fun _ => ?_)
          refine g_iconst C (v := nI 1) d_M_pack_177 rfl ?_
          refine g_goto C 182 d_M_pack_178 (by decide) ?_
          refine g_iadd C (v := nI ((mst ct od bf nn pr t).1 + 1)) d_M_pack_182 (nI_add _ _) ?_
          refine g_istore C (lv' := [(4, .int (nI ((mst ct od bf nn pr t).1 + 1))), (8, .int (nI (1))), (6, .long (lN (0))), (0, .ref w), (1, .int (nI (kk))), (2, .int (nI (nn))), (3, .int (nI (pr))), (5, .int (nI ((mst ct od bf nn pr t).2)))]) d_M_pack_183 (by decide) rfl ?_
          refine g_iload C d_M_pack_185 7 rfl ?_
          refine g_iload C d_M_pack_187 1 rfl ?_
          refine n_if_eq C 196 d_M_pack_189 (by decide) (by omega) (fun h => absurd h (by omega)) (fun _ => ?_)
          refine g_iconst C (v := nI 0) d_M_pack_192 rfl ?_
          refine g_goto C 197 d_M_pack_193 (by decide) ?_
          refine g_iadd C (v := nI ((mst ct od bf nn pr t).2 + 0)) d_M_pack_197 (nI_add _ _) ?_
          refine g_istore C (lv' := [(5, .int (nI ((mst ct od bf nn pr t).2 + 0))), (4, .int (nI ((mst ct od bf nn pr t).1 + 1))), (8, .int (nI (1))), (6, .long (lN (0))), (0, .ref w), (1, .int (nI (kk))), (2, .int (nI (nn))), (3, .int (nI (pr)))]) d_M_pack_198 (by decide) rfl ?_
          refine g_goto C 25 d_M_pack_200 (by decide) ?_
          refine g_lv (lv' := [(0, .ref w), (1, .int (nI (kk))), (2, .int (nI (nn))), (3, .int (nI (pr))), (4, .int (nI ((mst ct od bf nn pr t).1 + 1))), (5, .int (nI ((mst ct od bf nn pr t).2 + 0)))]) [4, 5, 6, 7, 1, 0] rfl ?_
          have hsy : sym ct od bf nn pr (mst ct od bf nn pr t) = true := decide_eq_true ⟨by omega, fun q9 => by omega⟩
          have hg := ih (96 - (t + 1)) (by omega) (t + 1) rfl (by omega)
          rw [mst_s hsy, rwp_s hsy, rwm_s hsy] at hg
          exact hg
        · refine g_aload_n C d_M_pack_82 1 rfl rfl ?_
          refine g_get C (T := FM) (N := 17) 0 2 inM rfl rfl (by decide) tw_438 rfl rfl d_M_pack_83 ?_
          refine g_aload_n C d_M_pack_86 1 rfl rfl ?_
          refine g_get C (T := FM) (N := 17) 0 11 inM rfl rfl (by decide) tw_447 rfl rfl d_M_pack_87 ?_
          refine g_iload C d_M_pack_90 5 rfl ?_
          refine g_iald C 2 rfl (by omega) (by decide) d_M_pack_92 ?_
          refine g_lald C 1 rfl (hod _ (by omega)) (by decide) d_M_pack_93 ?_
          refine g_lload C d_M_pack_94 0 rfl ?_
          refine n_lcmp_gt C 104 d_M_pack_96 d_M_pack_97 (by decide) (by have := hct _ (hod (mst ct od bf nn pr t).1 (by omega)); omega) (by omega) (fun h96 => ?_) (fun h96 => ?_)
          · exfalso; omega
          · refine g_iconst C (v := nI 1) d_M_pack_100 rfl ?_
            refine g_goto C 105 d_M_pack_101 (by decide) ?_
            refine g_istore C (lv' := [(8, .int (nI (1))), (6, .long (lN (0))), (0, .ref w), (1, .int (nI (kk))), (2, .int (nI (nn))), (3, .int (nI (pr))), (4, .int (nI ((mst ct od bf nn pr t).1))), (5, .int (nI ((mst ct od bf nn pr t).2)))]) d_M_pack_105 (by decide) rfl ?_
            refine g_aload_n C d_M_pack_107 2 rfl rfl ?_
            refine g_get C (T := FM) (N := 17) 0 14 inM rfl rfl (by decide) tw_450 rfl rfl d_M_pack_108 ?_
            refine g_iload C d_M_pack_111 6 rfl ?_
            refine g_iload C d_M_pack_113 7 rfl ?_
            refine g_iadd C (v := nI (t)) d_M_pack_115 ((nI_add _ _).trans (congrArg nI hmu)) ?_
            refine g_iload C d_M_pack_116 0 rfl ?_
            refine n_if_eq C 136 d_M_pack_118 (by decide) (by omega) (fun h => absurd h (by omega)) (fun _ => ?_)
            refine g_aload_n C d_M_pack_121 2 rfl rfl ?_
            refine g_get C (T := FM) (N := 17) 0 2 inM rfl rfl (by decide) tw_438 rfl rfl d_M_pack_122 ?_
            refine g_aload_n C d_M_pack_125 2 rfl rfl ?_
            refine g_get C (T := FM) (N := 17) 0 11 inM rfl rfl (by decide) tw_447 rfl rfl d_M_pack_126 ?_
            refine g_iload C d_M_pack_129 6 rfl ?_
            refine g_iald C 2 rfl (by omega) (by decide) d_M_pack_131 ?_
            refine g_lald C 1 rfl (hod _ (by omega)) (by decide) d_M_pack_132 ?_
            refine g_goto C 138 d_M_pack_133 (by decide) ?_
            refine n_last C (ws' := [(w, .inr (4, [.int (nI (0)), .int (nI (ru)), .ref w1, .ref w2, .ref w3, .ref w4, .ref w5, .ref w6, .int (nI (wt)), .int (nI (rd)), .long (va), .ref w7, .ref w8, .ref w9, .ref wa, .ref wb, .ref wd])), (w1, .inl (cs.2.1, 48, .inr (.inl (fun j => lN (ct j))))), (w7, .inl (cs.1, 48, .inl (fun j => nI (od j)))), (w8, .inl (cs.1, 1536, .inl ((rwm ct od bf nn pr kk rw (t))))), (w9, .inl (cs.1, 16, .inl (fun j => nI (sz j)))), (wa, .inl (cs.2.1, 96, .inr (.inl (fun j => lN ((updN ((rwp ct od bf nn pr sm (t))) (t) (ct (od ((mst ct od bf nn pr t).1)))) j))))), (wb, .inl (cs.2.1, 96, .inr (.inl (fun j => lN (bf j)))))]) 5 rfl (by omega) (by decide) rfl d_M_pack_138 ?_
            refine g_aload_n C d_M_pack_139 2 rfl rfl ?_
            refine g_get C (T := FM) (N := 17) 0 12 inM rfl rfl (by decide) tw_448 rfl rfl d_M_pack_140 ?_
            refine g_bipush C (v := nI 96) d_M_pack_143 rfl ?_
            refine g_iload_n C d_M_pack_145 3 rfl rfl ?_
            refine g_imul C (v := nI ((96) * (kk))) d_M_pack_146 (pk_mul _ _) ?_
            refine g_iload C d_M_pack_147 6 rfl ?_
            refine g_iadd C (v := nI ((96) * (kk) + ((mst ct od bf nn pr t).1))) d_M_pack_149 (nI_add _ _) ?_
            refine g_iload C d_M_pack_150 7 rfl ?_
            refine g_iadd C (v := nI (96 * kk + t)) d_M_pack_152 ((nI_add _ _).trans (congrArg nI (by omega))) ?_
            refine g_iload C d_M_pack_153 0 rfl ?_
            refine n_if_eq C 168 d_M_pack_155 (by decide) (by omega) (fun h => absurd h (by omega)) (fun _ => ?_)
            refine g_aload_n C d_M_pack_158 2 rfl rfl ?_
            refine g_get C (T := FM) (N := 17) 0 11 inM rfl rfl (by decide) tw_447 rfl rfl d_M_pack_159 ?_
            refine g_iload C d_M_pack_162 6 rfl ?_
            refine g_iald C 2 rfl (by omega) (by decide) d_M_pack_164 ?_
            refine g_goto C 169 d_M_pack_165 (by decide) ?_
            refine g_iast C (ws' := [(w, .inr (4, [.int (nI (0)), .int (nI (ru)), .ref w1, .ref w2, .ref w3, .ref w4, .ref w5, .ref w6, .int (nI (wt)), .int (nI (rd)), .long (va), .ref w7, .ref w8, .ref w9, .ref wa, .ref wb, .ref wd])), (w1, .inl (cs.2.1, 48, .inr (.inl (fun j => lN (ct j))))), (w7, .inl (cs.1, 48, .inl (fun j => nI (od j)))), (w8, .inl (cs.1, 1536, .inl (upd ((rwm ct od bf nn pr kk rw (t))) (96 * kk + t) (nI (od ((mst ct od bf nn pr t).1)))))), (w9, .inl (cs.1, 16, .inl (fun j => nI (sz j)))), (wa, .inl (cs.2.1, 96, .inr (.inl (fun j => lN ((updN ((rwp ct od bf nn pr sm (t))) (t) (ct (od ((mst ct od bf nn pr t).1)))) j))))), (wb, .inl (cs.2.1, 96, .inr (.inl (fun j => lN (bf j)))))]) 3 rfl (by omega) (by decide) rfl d_M_pack_169 ?_
            refine g_iload C d_M_pack_170 6 rfl ?_
            refine g_iload C d_M_pack_172 0 rfl ?_
            refine n_if_eq C 181 d_M_pack_174 (by decide) (by omega) (fun h => absurd h (by omega)) (fun _ => ?_)
            refine g_iconst C (v := nI 1) d_M_pack_177 rfl ?_
            refine g_goto C 182 d_M_pack_178 (by decide) ?_
            refine g_iadd C (v := nI ((mst ct od bf nn pr t).1 + 1)) d_M_pack_182 (nI_add _ _) ?_
            refine g_istore C (lv' := [(4, .int (nI ((mst ct od bf nn pr t).1 + 1))), (8, .int (nI (1))), (6, .long (lN (0))), (0, .ref w), (1, .int (nI (kk))), (2, .int (nI (nn))), (3, .int (nI (pr))), (5, .int (nI ((mst ct od bf nn pr t).2)))]) d_M_pack_183 (by decide) rfl ?_
            refine g_iload C d_M_pack_185 7 rfl ?_
            refine g_iload C d_M_pack_187 1 rfl ?_
            refine n_if_eq C 196 d_M_pack_189 (by decide) (by omega) (fun h => absurd h (by omega)) (fun _ => ?_)
            refine g_iconst C (v := nI 0) d_M_pack_192 rfl ?_
            refine g_goto C 197 d_M_pack_193 (by decide) ?_
            refine g_iadd C (v := nI ((mst ct od bf nn pr t).2 + 0)) d_M_pack_197 (nI_add _ _) ?_
            refine g_istore C (lv' := [(5, .int (nI ((mst ct od bf nn pr t).2 + 0))), (4, .int (nI ((mst ct od bf nn pr t).1 + 1))), (8, .int (nI (1))), (6, .long (lN (0))), (0, .ref w), (1, .int (nI (kk))), (2, .int (nI (nn))), (3, .int (nI (pr)))]) d_M_pack_198 (by decide) rfl ?_
            refine g_goto C 25 d_M_pack_200 (by decide) ?_
            refine g_lv (lv' := [(0, .ref w), (1, .int (nI (kk))), (2, .int (nI (nn))), (3, .int (nI (pr))), (4, .int (nI ((mst ct od bf nn pr t).1 + 1))), (5, .int (nI ((mst ct od bf nn pr t).2 + 0)))]) [4, 5, 6, 7, 1, 0] rfl ?_
            have hsy : sym ct od bf nn pr (mst ct od bf nn pr t) = true := decide_eq_true ⟨by omega, fun q9 => by omega⟩
            have hg := ih (96 - (t + 1)) (by omega) (t + 1) rfl (by omega)
            rw [mst_s hsy, rwp_s hsy, rwm_s hsy] at hg
            exact hg
    · refine g_aload_n C d_M_pack_43 0 rfl rfl ?_
      refine g_get C (T := FM) (N := 17) 0 15 inM rfl rfl (by decide) tw_451 rfl rfl d_M_pack_44 ?_
      refine g_iconst C (v := nI 2) d_M_pack_47 rfl ?_
      refine g_iload C d_M_pack_48 5 rfl ?_
      refine g_imul C (v := nI ((2) * ((mst ct od bf nn pr t).2))) d_M_pack_50 (pk_mul _ _) ?_
      refine g_lald C 6 rfl (by omega) (by decide) d_M_pack_51 ?_
      refine g_aload_n C d_M_pack_52 0 rfl rfl ?_
      refine g_get C (T := FM) (N := 17) 0 15 inM rfl rfl (by decide) tw_451 rfl rfl d_M_pack_53 ?_
      refine g_iconst C (v := nI 2) d_M_pack_56 rfl ?_
      refine g_iload C d_M_pack_57 5 rfl ?_
      refine g_imul C (v := nI ((2) * ((mst ct od bf nn pr t).2))) d_M_pack_59 (pk_mul _ _) ?_
      refine g_iconst C (v := nI 1) d_M_pack_60 rfl ?_
      refine g_iadd C (v := nI ((2) * ((mst ct od bf nn pr t).2) + 1)) d_M_pack_61 (nI_add _ _) ?_
      refine g_lald C 6 rfl (by omega) (by decide) d_M_pack_62 ?_
      refine g_ladd C (v := lN (bf ((2) * ((mst ct od bf nn pr t).2)) + (bf ((2) * ((mst ct od bf nn pr t).2) + 1)))) d_M_pack_63 (lN_add _ _) ?_
      refine g_goto C 68 d_M_pack_64 (by decide) ?_
      refine g_lstore C (lv' := [(6, .long (lN (bf ((2) * ((mst ct od bf nn pr t).2)) + (bf ((2) * ((mst ct od bf nn pr t).2) + 1))))), (0, .ref w), (1, .int (nI (kk))), (2, .int (nI (nn))), (3, .int (nI (pr))), (4, .int (nI ((mst ct od bf nn pr t).1))), (5, .int (nI ((mst ct od bf nn pr t).2)))]) d_M_pack_68 (by decide) rfl ?_
      refine g_iload C d_M_pack_70 5 rfl ?_
      refine g_iload_n C d_M_pack_72 3 rfl rfl ?_
      refine n_icmp_ge C 104 d_M_pack_73 (by decide) (by omega) (by omega) (fun h73 => ?_) (fun h73 => ?_)
      · refine g_iconst C (v := nI 0) d_M_pack_104 rfl ?_
        refine g_istore C (lv' := [(8, .int (nI (0))), (6, .long (lN (bf ((2) * ((mst ct od bf nn pr t).2)) + (bf ((2) * ((mst ct od bf nn pr t).2) + 1))))), (0, .ref w), (1, .int (nI (kk))), (2, .int (nI (nn))), (3, .int (nI (pr))), (4, .int (nI ((mst ct od bf nn pr t).1))), (5, .int (nI ((mst ct od bf nn pr t).2)))]) d_M_pack_105 (by decide) rfl ?_
        refine g_aload_n C d_M_pack_107 2 rfl rfl ?_
        refine g_get C (T := FM) (N := 17) 0 14 inM rfl rfl (by decide) tw_450 rfl rfl d_M_pack_108 ?_
        refine g_iload C d_M_pack_111 6 rfl ?_
        refine g_iload C d_M_pack_113 7 rfl ?_
        refine g_iadd C (v := nI (t)) d_M_pack_115 ((nI_add _ _).trans (congrArg nI hmu)) ?_
        refine g_iload C d_M_pack_116 0 rfl ?_
        refine n_if_eq C 136 d_M_pack_118 (by decide) (by omega) (fun _ => ?_) (fun h => absurd h (by omega))
        refine g_lload C d_M_pack_136 1 rfl ?_
        refine n_last C (ws' := [(w, .inr (4, [.int (nI (0)), .int (nI (ru)), .ref w1, .ref w2, .ref w3, .ref w4, .ref w5, .ref w6, .int (nI (wt)), .int (nI (rd)), .long (va), .ref w7, .ref w8, .ref w9, .ref wa, .ref wb, .ref wd])), (w1, .inl (cs.2.1, 48, .inr (.inl (fun j => lN (ct j))))), (w7, .inl (cs.1, 48, .inl (fun j => nI (od j)))), (w8, .inl (cs.1, 1536, .inl ((rwm ct od bf nn pr kk rw (t))))), (w9, .inl (cs.1, 16, .inl (fun j => nI (sz j)))), (wa, .inl (cs.2.1, 96, .inr (.inl (fun j => lN ((updN ((rwp ct od bf nn pr sm (t))) (t) (bf ((2) * ((mst ct od bf nn pr t).2)) + (bf ((2) * ((mst ct od bf nn pr t).2) + 1)))) j))))), (wb, .inl (cs.2.1, 96, .inr (.inl (fun j => lN (bf j)))))]) 5 rfl (by omega) (by decide) rfl d_M_pack_138 ?_
        refine g_aload_n C d_M_pack_139 2 rfl rfl ?_
        refine g_get C (T := FM) (N := 17) 0 12 inM rfl rfl (by decide) tw_448 rfl rfl d_M_pack_140 ?_
        refine g_bipush C (v := nI 96) d_M_pack_143 rfl ?_
        refine g_iload_n C d_M_pack_145 3 rfl rfl ?_
        refine g_imul C (v := nI ((96) * (kk))) d_M_pack_146 (pk_mul _ _) ?_
        refine g_iload C d_M_pack_147 6 rfl ?_
        refine g_iadd C (v := nI ((96) * (kk) + ((mst ct od bf nn pr t).1))) d_M_pack_149 (nI_add _ _) ?_
        refine g_iload C d_M_pack_150 7 rfl ?_
        refine g_iadd C (v := nI (96 * kk + t)) d_M_pack_152 ((nI_add _ _).trans (congrArg nI (by omega))) ?_
        refine g_iload C d_M_pack_153 0 rfl ?_
        refine n_if_eq C 168 d_M_pack_155 (by decide) (by omega) (fun _ => ?_) (fun h => absurd h (by omega))
        refine g_iconst C (v := (-1)) d_M_pack_168 rfl ?_
        refine g_iast C (ws' := [(w, .inr (4, [.int (nI (0)), .int (nI (ru)), .ref w1, .ref w2, .ref w3, .ref w4, .ref w5, .ref w6, .int (nI (wt)), .int (nI (rd)), .long (va), .ref w7, .ref w8, .ref w9, .ref wa, .ref wb, .ref wd])), (w1, .inl (cs.2.1, 48, .inr (.inl (fun j => lN (ct j))))), (w7, .inl (cs.1, 48, .inl (fun j => nI (od j)))), (w8, .inl (cs.1, 1536, .inl (upd ((rwm ct od bf nn pr kk rw (t))) (96 * kk + t) ((-1))))), (w9, .inl (cs.1, 16, .inl (fun j => nI (sz j)))), (wa, .inl (cs.2.1, 96, .inr (.inl (fun j => lN ((updN ((rwp ct od bf nn pr sm (t))) (t) (bf ((2) * ((mst ct od bf nn pr t).2)) + (bf ((2) * ((mst ct od bf nn pr t).2) + 1)))) j))))), (wb, .inl (cs.2.1, 96, .inr (.inl (fun j => lN (bf j)))))]) 3 rfl (by omega) (by decide) rfl d_M_pack_169 ?_
        refine g_iload C d_M_pack_170 6 rfl ?_
        refine g_iload C d_M_pack_172 0 rfl ?_
        refine n_if_eq C 181 d_M_pack_174 (by decide) (by omega) (fun _ => ?_) (fun h => absurd h (by omega))
        refine g_iconst C (v := nI 0) d_M_pack_181 rfl ?_
        refine g_iadd C (v := nI ((mst ct od bf nn pr t).1 + 0)) d_M_pack_182 (nI_add _ _) ?_
        refine g_istore C (lv' := [(4, .int (nI ((mst ct od bf nn pr t).1 + 0))), (8, .int (nI (0))), (6, .long (lN (bf ((2) * ((mst ct od bf nn pr t).2)) + (bf ((2) * ((mst ct od bf nn pr t).2) + 1))))), (0, .ref w), (1, .int (nI (kk))), (2, .int (nI (nn))), (3, .int (nI (pr))), (5, .int (nI ((mst ct od bf nn pr t).2)))]) d_M_pack_183 (by decide) rfl ?_
        refine g_iload C d_M_pack_185 7 rfl ?_
        refine g_iload C d_M_pack_187 1 rfl ?_
        refine n_if_eq C 196 d_M_pack_189 (by decide) (by omega) (fun _ => ?_) (fun h => absurd h (by omega))
        refine g_iconst C (v := nI 1) d_M_pack_196 rfl ?_
        refine g_iadd C (v := nI ((mst ct od bf nn pr t).2 + 1)) d_M_pack_197 (nI_add _ _) ?_
        refine g_istore C (lv' := [(5, .int (nI ((mst ct od bf nn pr t).2 + 1))), (4, .int (nI ((mst ct od bf nn pr t).1 + 0))), (8, .int (nI (0))), (6, .long (lN (bf ((2) * ((mst ct od bf nn pr t).2)) + (bf ((2) * ((mst ct od bf nn pr t).2) + 1))))), (0, .ref w), (1, .int (nI (kk))), (2, .int (nI (nn))), (3, .int (nI (pr)))]) d_M_pack_198 (by decide) rfl ?_
        refine g_goto C 25 d_M_pack_200 (by decide) ?_
        refine g_lv (lv' := [(0, .ref w), (1, .int (nI (kk))), (2, .int (nI (nn))), (3, .int (nI (pr))), (4, .int (nI ((mst ct od bf nn pr t).1 + 0))), (5, .int (nI ((mst ct od bf nn pr t).2 + 1)))]) [4, 5, 6, 7, 1, 0] rfl ?_
        have hsy : ¬ sym ct od bf nn pr (mst ct od bf nn pr t) = true := fun q8 => by have q9 := of_decide_eq_true q8; omega
        have hg := ih (96 - (t + 1)) (by omega) (t + 1) rfl (by omega)
        rw [mst_p hsy, rwp_p hsy, rwm_p hsy] at hg
        exact hg
      · refine g_iload C d_M_pack_76 6 rfl ?_
        refine g_iload_n C d_M_pack_78 4 rfl rfl ?_
        refine n_icmp_eq C 100 d_M_pack_79 (by decide) (by omega) (by omega) (fun h79 => ?_) (fun h79 => ?_)
        · refine g_iconst C (v := nI 1) d_M_pack_100 rfl ?_
          refine g_goto C 105 d_M_pack_101 (by decide) ?_
          refine g_istore C (lv' := [(8, .int (nI (1))), (6, .long (lN (bf ((2) * ((mst ct od bf nn pr t).2)) + (bf ((2) * ((mst ct od bf nn pr t).2) + 1))))), (0, .ref w), (1, .int (nI (kk))), (2, .int (nI (nn))), (3, .int (nI (pr))), (4, .int (nI ((mst ct od bf nn pr t).1))), (5, .int (nI ((mst ct od bf nn pr t).2)))]) d_M_pack_105 (by decide) rfl ?_
          refine g_aload_n C d_M_pack_107 2 rfl rfl ?_
          refine g_get C (T := FM) (N := 17) 0 14 inM rfl rfl (by decide) tw_450 rfl rfl d_M_pack_108 ?_
          refine g_iload C d_M_pack_111 6 rfl ?_
          refine g_iload C d_M_pack_113 7 rfl ?_
          refine g_iadd C (v := nI (t)) d_M_pack_115 ((nI_add _ _).trans (congrArg nI hmu)) ?_
          refine g_iload C d_M_pack_116 0 rfl ?_
          refine n_if_eq C 136 d_M_pack_118 (by decide) (by omega) (fun h => absurd h (by omega)) (fun _ => ?_)
          refine g_aload_n C d_M_pack_121 2 rfl rfl ?_
          refine g_get C (T := FM) (N := 17) 0 2 inM rfl rfl (by decide) tw_438 rfl rfl d_M_pack_122 ?_
          refine g_aload_n C d_M_pack_125 2 rfl rfl ?_
          refine g_get C (T := FM) (N := 17) 0 11 inM rfl rfl (by decide) tw_447 rfl rfl d_M_pack_126 ?_
          refine g_iload C d_M_pack_129 6 rfl ?_
          refine g_iald C 2 rfl (by omega) (by decide) d_M_pack_131 ?_
          refine g_lald C 1 rfl (hod _ (by omega)) (by decide) d_M_pack_132 ?_
          refine g_goto C 138 d_M_pack_133 (by decide) ?_
          refine n_last C (ws' := [(w, .inr (4, [.int (nI (0)), .int (nI (ru)), .ref w1, .ref w2, .ref w3, .ref w4, .ref w5, .ref w6, .int (nI (wt)), .int (nI (rd)), .long (va), .ref w7, .ref w8, .ref w9, .ref wa, .ref wb, .ref wd])), (w1, .inl (cs.2.1, 48, .inr (.inl (fun j => lN (ct j))))), (w7, .inl (cs.1, 48, .inl (fun j => nI (od j)))), (w8, .inl (cs.1, 1536, .inl ((rwm ct od bf nn pr kk rw (t))))), (w9, .inl (cs.1, 16, .inl (fun j => nI (sz j)))), (wa, .inl (cs.2.1, 96, .inr (.inl (fun j => lN ((updN ((rwp ct od bf nn pr sm (t))) (t) (ct (od ((mst ct od bf nn pr t).1)))) j))))), (wb, .inl (cs.2.1, 96, .inr (.inl (fun j => lN (bf j)))))]) 5 rfl (by omega) (by decide) rfl d_M_pack_138 ?_
          refine g_aload_n C d_M_pack_139 2 rfl rfl ?_
          refine g_get C (T := FM) (N := 17) 0 12 inM rfl rfl (by decide) tw_448 rfl rfl d_M_pack_140 ?_
          refine g_bipush C (v := nI 96) d_M_pack_143 rfl ?_
          refine g_iload_n C d_M_pack_145 3 rfl rfl ?_
          refine g_imul C (v := nI ((96) * (kk))) d_M_pack_146 (pk_mul _ _) ?_
          refine g_iload C d_M_pack_147 6 rfl ?_
          refine g_iadd C (v := nI ((96) * (kk) + ((mst ct od bf nn pr t).1))) d_M_pack_149 (nI_add _ _) ?_
          refine g_iload C d_M_pack_150 7 rfl ?_
          refine g_iadd C (v := nI (96 * kk + t)) d_M_pack_152 ((nI_add _ _).trans (congrArg nI (by omega))) ?_
          refine g_iload C d_M_pack_153 0 rfl ?_
          refine n_if_eq C 168 d_M_pack_155 (by decide) (by omega) (fun h => absurd h (by omega)) (fun _ => ?_)
          refine g_aload_n C d_M_pack_158 2 rfl rfl ?_
          refine g_get C (T := FM) (N := 17) 0 11 inM rfl rfl (by decide) tw_447 rfl rfl d_M_pack_159 ?_
          refine g_iload C d_M_pack_162 6 rfl ?_
          refine g_iald C 2 rfl (by omega) (by decide) d_M_pack_164 ?_
          refine g_goto C 169 d_M_pack_165 (by decide) ?_
          refine g_iast C (ws' := [(w, .inr (4, [.int (nI (0)), .int (nI (ru)), .ref w1, .ref w2, .ref w3, .ref w4, .ref w5, .ref w6, .int (nI (wt)), .int (nI (rd)), .long (va), .ref w7, .ref w8, .ref w9, .ref wa, .ref wb, .ref wd])), (w1, .inl (cs.2.1, 48, .inr (.inl (fun j => lN (ct j))))), (w7, .inl (cs.1, 48, .inl (fun j => nI (od j)))), (w8, .inl (cs.1, 1536, .inl (upd ((rwm ct od bf nn pr kk rw (t))) (96 * kk + t) (nI (od ((mst ct od bf nn pr t).1)))))), (w9, .inl (cs.1, 16, .inl (fun j => nI (sz j)))), (wa, .inl (cs.2.1, 96, .inr (.inl (fun j => lN ((updN ((rwp ct od bf nn pr sm (t))) (t) (ct (od ((mst ct od bf nn pr t).1)))) j))))), (wb, .inl (cs.2.1, 96, .inr (.inl (fun j => lN (bf j)))))]) 3 rfl (by omega) (by decide) rfl d_M_pack_169 ?_
          refine g_iload C d_M_pack_170 6 rfl ?_
          refine g_iload C d_M_pack_172 0 rfl ?_
          refine n_if_eq C 181 d_M_pack_174 (by decide) (by omega) (fun h => absurd h (by omega)) (fun _ => ?_)
          refine g_iconst C (v := nI 1) d_M_pack_177 rfl ?_
          refine g_goto C 182 d_M_pack_178 (by decide) ?_
          refine g_iadd C (v := nI ((mst ct od bf nn pr t).1 + 1)) d_M_pack_182 (nI_add _ _) ?_
          refine g_istore C (lv' := [(4, .int (nI ((mst ct od bf nn pr t).1 + 1))), (8, .int (nI (1))), (6, .long (lN (bf ((2) * ((mst ct od bf nn pr t).2)) + (bf ((2) * ((mst ct od bf nn pr t).2) + 1))))), (0, .ref w), (1, .int (nI (kk))), (2, .int (nI (nn))), (3, .int (nI (pr))), (5, .int (nI ((mst ct od bf nn pr t).2)))]) d_M_pack_183 (by decide) rfl ?_
          refine g_iload C d_M_pack_185 7 rfl ?_
          refine g_iload C d_M_pack_187 1 rfl ?_
          refine n_if_eq C 196 d_M_pack_189 (by decide) (by omega) (fun h => absurd h (by omega)) (fun _ => ?_)
          refine g_iconst C (v := nI 0) d_M_pack_192 rfl ?_
          refine g_goto C 197 d_M_pack_193 (by decide) ?_
          refine g_iadd C (v := nI ((mst ct od bf nn pr t).2 + 0)) d_M_pack_197 (nI_add _ _) ?_
          refine g_istore C (lv' := [(5, .int (nI ((mst ct od bf nn pr t).2 + 0))), (4, .int (nI ((mst ct od bf nn pr t).1 + 1))), (8, .int (nI (1))), (6, .long (lN (bf ((2) * ((mst ct od bf nn pr t).2)) + (bf ((2) * ((mst ct od bf nn pr t).2) + 1))))), (0, .ref w), (1, .int (nI (kk))), (2, .int (nI (nn))), (3, .int (nI (pr)))]) d_M_pack_198 (by decide) rfl ?_
          refine g_goto C 25 d_M_pack_200 (by decide) ?_
          refine g_lv (lv' := [(0, .ref w), (1, .int (nI (kk))), (2, .int (nI (nn))), (3, .int (nI (pr))), (4, .int (nI ((mst ct od bf nn pr t).1 + 1))), (5, .int (nI ((mst ct od bf nn pr t).2 + 0)))]) [4, 5, 6, 7, 1, 0] rfl ?_
          have hsy : sym ct od bf nn pr (mst ct od bf nn pr t) = true := decide_eq_true ⟨by omega, fun q9 => by omega⟩
          have hg := ih (96 - (t + 1)) (by omega) (t + 1) rfl (by omega)
          rw [mst_s hsy, rwp_s hsy, rwm_s hsy] at hg
          exact hg
        · refine g_aload_n C d_M_pack_82 1 rfl rfl ?_
          refine g_get C (T := FM) (N := 17) 0 2 inM rfl rfl (by decide) tw_438 rfl rfl d_M_pack_83 ?_
          refine g_aload_n C d_M_pack_86 1 rfl rfl ?_
          refine g_get C (T := FM) (N := 17) 0 11 inM rfl rfl (by decide) tw_447 rfl rfl d_M_pack_87 ?_
          refine g_iload C d_M_pack_90 5 rfl ?_
          refine g_iald C 2 rfl (by omega) (by decide) d_M_pack_92 ?_
          refine g_lald C 1 rfl (hod _ (by omega)) (by decide) d_M_pack_93 ?_
          refine g_lload C d_M_pack_94 0 rfl ?_
          refine n_lcmp_gt C 104 d_M_pack_96 d_M_pack_97 (by decide) (by have := hct _ (hod (mst ct od bf nn pr t).1 (by omega)); omega) (by have h7 := hbf (2 * (mst ct od bf nn pr t).2) (by omega); have h8 := hbf (2 * (mst ct od bf nn pr t).2 + 1) (by omega); omega) (fun h96 => ?_) (fun h96 => ?_)
          · refine g_iconst C (v := nI 0) d_M_pack_104 rfl ?_
            refine g_istore C (lv' := [(8, .int (nI (0))), (6, .long (lN (bf ((2) * ((mst ct od bf nn pr t).2)) + (bf ((2) * ((mst ct od bf nn pr t).2) + 1))))), (0, .ref w), (1, .int (nI (kk))), (2, .int (nI (nn))), (3, .int (nI (pr))), (4, .int (nI ((mst ct od bf nn pr t).1))), (5, .int (nI ((mst ct od bf nn pr t).2)))]) d_M_pack_105 (by decide) rfl ?_
            refine g_aload_n C d_M_pack_107 2 rfl rfl ?_
            refine g_get C (T := FM) (N := 17) 0 14 inM rfl rfl (by decide) tw_450 rfl rfl d_M_pack_108 ?_
            refine g_iload C d_M_pack_111 6 rfl ?_
            refine g_iload C d_M_pack_113 7 rfl ?_
            refine g_iadd C (v := nI (t)) d_M_pack_115 ((nI_add _ _).trans (congrArg nI hmu)) ?_
            refine g_iload C d_M_pack_116 0 rfl ?_
            refine n_if_eq C 136 d_M_pack_118 (by decide) (by omega) (fun _ => ?_) (fun h => absurd h (by omega))
            refine g_lload C d_M_pack_136 1 rfl ?_
            refine n_last C (ws' := [(w, .inr (4, [.int (nI (0)), .int (nI (ru)), .ref w1, .ref w2, .ref w3, .ref w4, .ref w5, .ref w6, .int (nI (wt)), .int (nI (rd)), .long (va), .ref w7, .ref w8, .ref w9, .ref wa, .ref wb, .ref wd])), (w1, .inl (cs.2.1, 48, .inr (.inl (fun j => lN (ct j))))), (w7, .inl (cs.1, 48, .inl (fun j => nI (od j)))), (w8, .inl (cs.1, 1536, .inl ((rwm ct od bf nn pr kk rw (t))))), (w9, .inl (cs.1, 16, .inl (fun j => nI (sz j)))), (wa, .inl (cs.2.1, 96, .inr (.inl (fun j => lN ((updN ((rwp ct od bf nn pr sm (t))) (t) (bf ((2) * ((mst ct od bf nn pr t).2)) + (bf ((2) * ((mst ct od bf nn pr t).2) + 1)))) j))))), (wb, .inl (cs.2.1, 96, .inr (.inl (fun j => lN (bf j)))))]) 5 rfl (by omega) (by decide) rfl d_M_pack_138 ?_
            refine g_aload_n C d_M_pack_139 2 rfl rfl ?_
            refine g_get C (T := FM) (N := 17) 0 12 inM rfl rfl (by decide) tw_448 rfl rfl d_M_pack_140 ?_
            refine g_bipush C (v := nI 96) d_M_pack_143 rfl ?_
            refine g_iload_n C d_M_pack_145 3 rfl rfl ?_
            refine g_imul C (v := nI ((96) * (kk))) d_M_pack_146 (pk_mul _ _) ?_
            refine g_iload C d_M_pack_147 6 rfl ?_
            refine g_iadd C (v := nI ((96) * (kk) + ((mst ct od bf nn pr t).1))) d_M_pack_149 (nI_add _ _) ?_
            refine g_iload C d_M_pack_150 7 rfl ?_
            refine g_iadd C (v := nI (96 * kk + t)) d_M_pack_152 ((nI_add _ _).trans (congrArg nI (by omega))) ?_
            refine g_iload C d_M_pack_153 0 rfl ?_
            refine n_if_eq C 168 d_M_pack_155 (by decide) (by omega) (fun _ => ?_) (fun h => absurd h (by omega))
            refine g_iconst C (v := (-1)) d_M_pack_168 rfl ?_
            refine g_iast C (ws' := [(w, .inr (4, [.int (nI (0)), .int (nI (ru)), .ref w1, .ref w2, .ref w3, .ref w4, .ref w5, .ref w6, .int (nI (wt)), .int (nI (rd)), .long (va), .ref w7, .ref w8, .ref w9, .ref wa, .ref wb, .ref wd])), (w1, .inl (cs.2.1, 48, .inr (.inl (fun j => lN (ct j))))), (w7, .inl (cs.1, 48, .inl (fun j => nI (od j)))), (w8, .inl (cs.1, 1536, .inl (upd ((rwm ct od bf nn pr kk rw (t))) (96 * kk + t) ((-1))))), (w9, .inl (cs.1, 16, .inl (fun j => nI (sz j)))), (wa, .inl (cs.2.1, 96, .inr (.inl (fun j => lN ((updN ((rwp ct od bf nn pr sm (t))) (t) (bf ((2) * ((mst ct od bf nn pr t).2)) + (bf ((2) * ((mst ct od bf nn pr t).2) + 1)))) j))))), (wb, .inl (cs.2.1, 96, .inr (.inl (fun j => lN (bf j)))))]) 3 rfl (by omega) (by decide) rfl d_M_pack_169 ?_
            refine g_iload C d_M_pack_170 6 rfl ?_
            refine g_iload C d_M_pack_172 0 rfl ?_
            refine n_if_eq C 181 d_M_pack_174 (by decide) (by omega) (fun _ => ?_) (fun h => absurd h (by omega))
            refine g_iconst C (v := nI 0) d_M_pack_181 rfl ?_
            refine g_iadd C (v := nI ((mst ct od bf nn pr t).1 + 0)) d_M_pack_182 (nI_add _ _) ?_
            refine g_istore C (lv' := [(4, .int (nI ((mst ct od bf nn pr t).1 + 0))), (8, .int (nI (0))), (6, .long (lN (bf ((2) * ((mst ct od bf nn pr t).2)) + (bf ((2) * ((mst ct od bf nn pr t).2) + 1))))), (0, .ref w), (1, .int (nI (kk))), (2, .int (nI (nn))), (3, .int (nI (pr))), (5, .int (nI ((mst ct od bf nn pr t).2)))]) d_M_pack_183 (by decide) rfl ?_
            refine g_iload C d_M_pack_185 7 rfl ?_
            refine g_iload C d_M_pack_187 1 rfl ?_
            refine n_if_eq C 196 d_M_pack_189 (by decide) (by omega) (fun _ => ?_) (fun h => absurd h (by omega))
            refine g_iconst C (v := nI 1) d_M_pack_196 rfl ?_
            refine g_iadd C (v := nI ((mst ct od bf nn pr t).2 + 1)) d_M_pack_197 (nI_add _ _) ?_
            refine g_istore C (lv' := [(5, .int (nI ((mst ct od bf nn pr t).2 + 1))), (4, .int (nI ((mst ct od bf nn pr t).1 + 0))), (8, .int (nI (0))), (6, .long (lN (bf ((2) * ((mst ct od bf nn pr t).2)) + (bf ((2) * ((mst ct od bf nn pr t).2) + 1))))), (0, .ref w), (1, .int (nI (kk))), (2, .int (nI (nn))), (3, .int (nI (pr)))]) d_M_pack_198 (by decide) rfl ?_
            refine g_goto C 25 d_M_pack_200 (by decide) ?_
            refine g_lv (lv' := [(0, .ref w), (1, .int (nI (kk))), (2, .int (nI (nn))), (3, .int (nI (pr))), (4, .int (nI ((mst ct od bf nn pr t).1 + 0))), (5, .int (nI ((mst ct od bf nn pr t).2 + 1)))]) [4, 5, 6, 7, 1, 0] rfl ?_
            have hsy : ¬ sym ct od bf nn pr (mst ct od bf nn pr t) = true := fun q8 => by have q9 := of_decide_eq_true q8; omega
            have hg := ih (96 - (t + 1)) (by omega) (t + 1) rfl (by omega)
            rw [mst_p hsy, rwp_p hsy, rwm_p hsy] at hg
            exact hg
          · refine g_iconst C (v := nI 1) d_M_pack_100 rfl ?_
            refine g_goto C 105 d_M_pack_101 (by decide) ?_
            refine g_istore C (lv' := [(8, .int (nI (1))), (6, .long (lN (bf ((2) * ((mst ct od bf nn pr t).2)) + (bf ((2) * ((mst ct od bf nn pr t).2) + 1))))), (0, .ref w), (1, .int (nI (kk))), (2, .int (nI (nn))), (3, .int (nI (pr))), (4, .int (nI ((mst ct od bf nn pr t).1))), (5, .int (nI ((mst ct od bf nn pr t).2)))]) d_M_pack_105 (by decide) rfl ?_
            refine g_aload_n C d_M_pack_107 2 rfl rfl ?_
            refine g_get C (T := FM) (N := 17) 0 14 inM rfl rfl (by decide) tw_450 rfl rfl d_M_pack_108 ?_
            refine g_iload C d_M_pack_111 6 rfl ?_
            refine g_iload C d_M_pack_113 7 rfl ?_
            refine g_iadd C (v := nI (t)) d_M_pack_115 ((nI_add _ _).trans (congrArg nI hmu)) ?_
            refine g_iload C d_M_pack_116 0 rfl ?_
            refine n_if_eq C 136 d_M_pack_118 (by decide) (by omega) (fun h => absurd h (by omega)) (fun _ => ?_)
            refine g_aload_n C d_M_pack_121 2 rfl rfl ?_
            refine g_get C (T := FM) (N := 17) 0 2 inM rfl rfl (by decide) tw_438 rfl rfl d_M_pack_122 ?_
            refine g_aload_n C d_M_pack_125 2 rfl rfl ?_
            refine g_get C (T := FM) (N := 17) 0 11 inM rfl rfl (by decide) tw_447 rfl rfl d_M_pack_126 ?_
            refine g_iload C d_M_pack_129 6 rfl ?_
            refine g_iald C 2 rfl (by omega) (by decide) d_M_pack_131 ?_
            refine g_lald C 1 rfl (hod _ (by omega)) (by decide) d_M_pack_132 ?_
            refine g_goto C 138 d_M_pack_133 (by decide) ?_
            refine n_last C (ws' := [(w, .inr (4, [.int (nI (0)), .int (nI (ru)), .ref w1, .ref w2, .ref w3, .ref w4, .ref w5, .ref w6, .int (nI (wt)), .int (nI (rd)), .long (va), .ref w7, .ref w8, .ref w9, .ref wa, .ref wb, .ref wd])), (w1, .inl (cs.2.1, 48, .inr (.inl (fun j => lN (ct j))))), (w7, .inl (cs.1, 48, .inl (fun j => nI (od j)))), (w8, .inl (cs.1, 1536, .inl ((rwm ct od bf nn pr kk rw (t))))), (w9, .inl (cs.1, 16, .inl (fun j => nI (sz j)))), (wa, .inl (cs.2.1, 96, .inr (.inl (fun j => lN ((updN ((rwp ct od bf nn pr sm (t))) (t) (ct (od ((mst ct od bf nn pr t).1)))) j))))), (wb, .inl (cs.2.1, 96, .inr (.inl (fun j => lN (bf j)))))]) 5 rfl (by omega) (by decide) rfl d_M_pack_138 ?_
            refine g_aload_n C d_M_pack_139 2 rfl rfl ?_
            refine g_get C (T := FM) (N := 17) 0 12 inM rfl rfl (by decide) tw_448 rfl rfl d_M_pack_140 ?_
            refine g_bipush C (v := nI 96) d_M_pack_143 rfl ?_
            refine g_iload_n C d_M_pack_145 3 rfl rfl ?_
            refine g_imul C (v := nI ((96) * (kk))) d_M_pack_146 (pk_mul _ _) ?_
            refine g_iload C d_M_pack_147 6 rfl ?_
            refine g_iadd C (v := nI ((96) * (kk) + ((mst ct od bf nn pr t).1))) d_M_pack_149 (nI_add _ _) ?_
            refine g_iload C d_M_pack_150 7 rfl ?_
            refine g_iadd C (v := nI (96 * kk + t)) d_M_pack_152 ((nI_add _ _).trans (congrArg nI (by omega))) ?_
            refine g_iload C d_M_pack_153 0 rfl ?_
            refine n_if_eq C 168 d_M_pack_155 (by decide) (by omega) (fun h => absurd h (by omega)) (fun _ => ?_)
            refine g_aload_n C d_M_pack_158 2 rfl rfl ?_
            refine g_get C (T := FM) (N := 17) 0 11 inM rfl rfl (by decide) tw_447 rfl rfl d_M_pack_159 ?_
            refine g_iload C d_M_pack_162 6 rfl ?_
            refine g_iald C 2 rfl (by omega) (by decide) d_M_pack_164 ?_
            refine g_goto C 169 d_M_pack_165 (by decide) ?_
            refine g_iast C (ws' := [(w, .inr (4, [.int (nI (0)), .int (nI (ru)), .ref w1, .ref w2, .ref w3, .ref w4, .ref w5, .ref w6, .int (nI (wt)), .int (nI (rd)), .long (va), .ref w7, .ref w8, .ref w9, .ref wa, .ref wb, .ref wd])), (w1, .inl (cs.2.1, 48, .inr (.inl (fun j => lN (ct j))))), (w7, .inl (cs.1, 48, .inl (fun j => nI (od j)))), (w8, .inl (cs.1, 1536, .inl (upd ((rwm ct od bf nn pr kk rw (t))) (96 * kk + t) (nI (od ((mst ct od bf nn pr t).1)))))), (w9, .inl (cs.1, 16, .inl (fun j => nI (sz j)))), (wa, .inl (cs.2.1, 96, .inr (.inl (fun j => lN ((updN ((rwp ct od bf nn pr sm (t))) (t) (ct (od ((mst ct od bf nn pr t).1)))) j))))), (wb, .inl (cs.2.1, 96, .inr (.inl (fun j => lN (bf j)))))]) 3 rfl (by omega) (by decide) rfl d_M_pack_169 ?_
            refine g_iload C d_M_pack_170 6 rfl ?_
            refine g_iload C d_M_pack_172 0 rfl ?_
            refine n_if_eq C 181 d_M_pack_174 (by decide) (by omega) (fun h => absurd h (by omega)) (fun _ => ?_)
            refine g_iconst C (v := nI 1) d_M_pack_177 rfl ?_
            refine g_goto C 182 d_M_pack_178 (by decide) ?_
            refine g_iadd C (v := nI ((mst ct od bf nn pr t).1 + 1)) d_M_pack_182 (nI_add _ _) ?_
            refine g_istore C (lv' := [(4, .int (nI ((mst ct od bf nn pr t).1 + 1))), (8, .int (nI (1))), (6, .long (lN (bf ((2) * ((mst ct od bf nn pr t).2)) + (bf ((2) * ((mst ct od bf nn pr t).2) + 1))))), (0, .ref w), (1, .int (nI (kk))), (2, .int (nI (nn))), (3, .int (nI (pr))), (5, .int (nI ((mst ct od bf nn pr t).2)))]) d_M_pack_183 (by decide) rfl ?_
            refine g_iload C d_M_pack_185 7 rfl ?_
            refine g_iload C d_M_pack_187 1 rfl ?_
            refine n_if_eq C 196 d_M_pack_189 (by decide) (by omega) (fun h => absurd h (by omega)) (fun _ => ?_)
            refine g_iconst C (v := nI 0) d_M_pack_192 rfl ?_
            refine g_goto C 197 d_M_pack_193 (by decide) ?_
            refine g_iadd C (v := nI ((mst ct od bf nn pr t).2 + 0)) d_M_pack_197 (nI_add _ _) ?_
            refine g_istore C (lv' := [(5, .int (nI ((mst ct od bf nn pr t).2 + 0))), (4, .int (nI ((mst ct od bf nn pr t).1 + 1))), (8, .int (nI (1))), (6, .long (lN (bf ((2) * ((mst ct od bf nn pr t).2)) + (bf ((2) * ((mst ct od bf nn pr t).2) + 1))))), (0, .ref w), (1, .int (nI (kk))), (2, .int (nI (nn))), (3, .int (nI (pr)))]) d_M_pack_198 (by decide) rfl ?_
            refine g_goto C 25 d_M_pack_200 (by decide) ?_
            refine g_lv (lv' := [(0, .ref w), (1, .int (nI (kk))), (2, .int (nI (nn))), (3, .int (nI (pr))), (4, .int (nI ((mst ct od bf nn pr t).1 + 1))), (5, .int (nI ((mst ct od bf nn pr t).2 + 0)))]) [4, 5, 6, 7, 1, 0] rfl ?_
            have hsy : sym ct od bf nn pr (mst ct od bf nn pr t) = true := decide_eq_true ⟨by omega, fun q9 => by omega⟩
            have hg := ih (96 - (t + 1)) (by omega) (t + 1) rfl (by omega)
            rw [mst_s hsy, rwp_s hsy, rwm_s hsy] at hg
            exact hg
  · refine g_iload C d_M_pack_31 5 rfl ?_
    refine g_iload_n C d_M_pack_33 3 rfl rfl ?_
    refine n_icmp_ge C 203 d_M_pack_34 (by decide) (by omega) (by omega) (fun h34 => ?_) (fun h34 => ?_)
    · refine g_lv (lv' := [(0, .ref w), (1, .int (nI (kk))), (2, .int (nI (nn))), (3, .int (nI (pr)))]) [0, 1, 2, 3] rfl ?_
      have e9 : t = nn + pr := by omega
      subst e9
      exact K
    · refine g_iload C d_M_pack_37 5 rfl ?_
      refine g_iload_n C d_M_pack_39 3 rfl rfl ?_
      refine n_icmp_ge C 67 d_M_pack_40 (by decide) (by omega) (by omega) (fun h40 => ?_) (fun h40 => ?_)
      · refine g_lconst C (v := lN 0) d_M_pack_67 rfl ?_
        refine g_lstore C (lv' := [(6, .long (lN (0))), (0, .ref w), (1, .int (nI (kk))), (2, .int (nI (nn))), (3, .int (nI (pr))), (4, .int (nI ((mst ct od bf nn pr t).1))), (5, .int (nI ((mst ct od bf nn pr t).2)))]) d_M_pack_68 (by decide) rfl ?_
        refine g_iload C d_M_pack_70 5 rfl ?_
        refine g_iload_n C d_M_pack_72 3 rfl rfl ?_
        refine n_icmp_ge C 104 d_M_pack_73 (by decide) (by omega) (by omega) (fun h73 => ?_) (fun h73 => ?_)
        · exfalso; omega
        · refine g_iload C d_M_pack_76 6 rfl ?_
          refine g_iload_n C d_M_pack_78 4 rfl rfl ?_
          refine n_icmp_eq C 100 d_M_pack_79 (by decide) (by omega) (by omega) (fun h79 => ?_) (fun h79 => ?_)
          · refine g_iconst C (v := nI 1) d_M_pack_100 rfl ?_
            refine g_goto C 105 d_M_pack_101 (by decide) ?_
            refine g_istore C (lv' := [(8, .int (nI (1))), (6, .long (lN (0))), (0, .ref w), (1, .int (nI (kk))), (2, .int (nI (nn))), (3, .int (nI (pr))), (4, .int (nI ((mst ct od bf nn pr t).1))), (5, .int (nI ((mst ct od bf nn pr t).2)))]) d_M_pack_105 (by decide) rfl ?_
            refine g_aload_n C d_M_pack_107 2 rfl rfl ?_
            refine g_get C (T := FM) (N := 17) 0 14 inM rfl rfl (by decide) tw_450 rfl rfl d_M_pack_108 ?_
            refine g_iload C d_M_pack_111 6 rfl ?_
            refine g_iload C d_M_pack_113 7 rfl ?_
            refine g_iadd C (v := nI (t)) d_M_pack_115 ((nI_add _ _).trans (congrArg nI hmu)) ?_
            refine g_iload C d_M_pack_116 0 rfl ?_
            refine n_if_eq C 136 d_M_pack_118 (by decide) (by omega) (fun h => absurd h (by omega)) (fun _ => ?_)
            refine g_aload_n C d_M_pack_121 2 rfl rfl ?_
            refine g_get C (T := FM) (N := 17) 0 2 inM rfl rfl (by decide) tw_438 rfl rfl d_M_pack_122 ?_
            refine g_aload_n C d_M_pack_125 2 rfl rfl ?_
            refine g_get C (T := FM) (N := 17) 0 11 inM rfl rfl (by decide) tw_447 rfl rfl d_M_pack_126 ?_
            refine g_iload C d_M_pack_129 6 rfl ?_
            refine g_iald C 2 rfl (by omega) (by decide) d_M_pack_131 ?_
            refine g_lald C 1 rfl (hod _ (by omega)) (by decide) d_M_pack_132 ?_
            refine g_goto C 138 d_M_pack_133 (by decide) ?_
            refine n_last C (ws' := [(w, .inr (4, [.int (nI (0)), .int (nI (ru)), .ref w1, .ref w2, .ref w3, .ref w4, .ref w5, .ref w6, .int (nI (wt)), .int (nI (rd)), .long (va), .ref w7, .ref w8, .ref w9, .ref wa, .ref wb, .ref wd])), (w1, .inl (cs.2.1, 48, .inr (.inl (fun j => lN (ct j))))), (w7, .inl (cs.1, 48, .inl (fun j => nI (od j)))), (w8, .inl (cs.1, 1536, .inl ((rwm ct od bf nn pr kk rw (t))))), (w9, .inl (cs.1, 16, .inl (fun j => nI (sz j)))), (wa, .inl (cs.2.1, 96, .inr (.inl (fun j => lN ((updN ((rwp ct od bf nn pr sm (t))) (t) (ct (od ((mst ct od bf nn pr t).1)))) j))))), (wb, .inl (cs.2.1, 96, .inr (.inl (fun j => lN (bf j)))))]) 5 rfl (by omega) (by decide) rfl d_M_pack_138 ?_
            refine g_aload_n C d_M_pack_139 2 rfl rfl ?_
            refine g_get C (T := FM) (N := 17) 0 12 inM rfl rfl (by decide) tw_448 rfl rfl d_M_pack_140 ?_
            refine g_bipush C (v := nI 96) d_M_pack_143 rfl ?_
            refine g_iload_n C d_M_pack_145 3 rfl rfl ?_
            refine g_imul C (v := nI ((96) * (kk))) d_M_pack_146 (pk_mul _ _) ?_
            refine g_iload C d_M_pack_147 6 rfl ?_
            refine g_iadd C (v := nI ((96) * (kk) + ((mst ct od bf nn pr t).1))) d_M_pack_149 (nI_add _ _) ?_
            refine g_iload C d_M_pack_150 7 rfl ?_
            refine g_iadd C (v := nI (96 * kk + t)) d_M_pack_152 ((nI_add _ _).trans (congrArg nI (by omega))) ?_
            refine g_iload C d_M_pack_153 0 rfl ?_
            refine n_if_eq C 168 d_M_pack_155 (by decide) (by omega) (fun h => absurd h (by omega)) (fun _ => ?_)
            refine g_aload_n C d_M_pack_158 2 rfl rfl ?_
            refine g_get C (T := FM) (N := 17) 0 11 inM rfl rfl (by decide) tw_447 rfl rfl d_M_pack_159 ?_
            refine g_iload C d_M_pack_162 6 rfl ?_
            refine g_iald C 2 rfl (by omega) (by decide) d_M_pack_164 ?_
            refine g_goto C 169 d_M_pack_165 (by decide) ?_
            refine g_iast C (ws' := [(w, .inr (4, [.int (nI (0)), .int (nI (ru)), .ref w1, .ref w2, .ref w3, .ref w4, .ref w5, .ref w6, .int (nI (wt)), .int (nI (rd)), .long (va), .ref w7, .ref w8, .ref w9, .ref wa, .ref wb, .ref wd])), (w1, .inl (cs.2.1, 48, .inr (.inl (fun j => lN (ct j))))), (w7, .inl (cs.1, 48, .inl (fun j => nI (od j)))), (w8, .inl (cs.1, 1536, .inl (upd ((rwm ct od bf nn pr kk rw (t))) (96 * kk + t) (nI (od ((mst ct od bf nn pr t).1)))))), (w9, .inl (cs.1, 16, .inl (fun j => nI (sz j)))), (wa, .inl (cs.2.1, 96, .inr (.inl (fun j => lN ((updN ((rwp ct od bf nn pr sm (t))) (t) (ct (od ((mst ct od bf nn pr t).1)))) j))))), (wb, .inl (cs.2.1, 96, .inr (.inl (fun j => lN (bf j)))))]) 3 rfl (by omega) (by decide) rfl d_M_pack_169 ?_
            refine g_iload C d_M_pack_170 6 rfl ?_
            refine g_iload C d_M_pack_172 0 rfl ?_
            refine n_if_eq C 181 d_M_pack_174 (by decide) (by omega) (fun h => absurd h (by omega)) (fun _ => ?_)
            refine g_iconst C (v := nI 1) d_M_pack_177 rfl ?_
            refine g_goto C 182 d_M_pack_178 (by decide) ?_
            refine g_iadd C (v := nI ((mst ct od bf nn pr t).1 + 1)) d_M_pack_182 (nI_add _ _) ?_
            refine g_istore C (lv' := [(4, .int (nI ((mst ct od bf nn pr t).1 + 1))), (8, .int (nI (1))), (6, .long (lN (0))), (0, .ref w), (1, .int (nI (kk))), (2, .int (nI (nn))), (3, .int (nI (pr))), (5, .int (nI ((mst ct od bf nn pr t).2)))]) d_M_pack_183 (by decide) rfl ?_
            refine g_iload C d_M_pack_185 7 rfl ?_
            refine g_iload C d_M_pack_187 1 rfl ?_
            refine n_if_eq C 196 d_M_pack_189 (by decide) (by omega) (fun h => absurd h (by omega)) (fun _ => ?_)
            refine g_iconst C (v := nI 0) d_M_pack_192 rfl ?_
            refine g_goto C 197 d_M_pack_193 (by decide) ?_
            refine g_iadd C (v := nI ((mst ct od bf nn pr t).2 + 0)) d_M_pack_197 (nI_add _ _) ?_
            refine g_istore C (lv' := [(5, .int (nI ((mst ct od bf nn pr t).2 + 0))), (4, .int (nI ((mst ct od bf nn pr t).1 + 1))), (8, .int (nI (1))), (6, .long (lN (0))), (0, .ref w), (1, .int (nI (kk))), (2, .int (nI (nn))), (3, .int (nI (pr)))]) d_M_pack_198 (by decide) rfl ?_
            refine g_goto C 25 d_M_pack_200 (by decide) ?_
            refine g_lv (lv' := [(0, .ref w), (1, .int (nI (kk))), (2, .int (nI (nn))), (3, .int (nI (pr))), (4, .int (nI ((mst ct od bf nn pr t).1 + 1))), (5, .int (nI ((mst ct od bf nn pr t).2 + 0)))]) [4, 5, 6, 7, 1, 0] rfl ?_
            have hsy : sym ct od bf nn pr (mst ct od bf nn pr t) = true := decide_eq_true ⟨by omega, fun q9 => by omega⟩
            have hg := ih (96 - (t + 1)) (by omega) (t + 1) rfl (by omega)
            rw [mst_s hsy, rwp_s hsy, rwm_s hsy] at hg
            exact hg
          · refine g_aload_n C d_M_pack_82 1 rfl rfl ?_
            refine g_get C (T := FM) (N := 17) 0 2 inM rfl rfl (by decide) tw_438 rfl rfl d_M_pack_83 ?_
            refine g_aload_n C d_M_pack_86 1 rfl rfl ?_
            refine g_get C (T := FM) (N := 17) 0 11 inM rfl rfl (by decide) tw_447 rfl rfl d_M_pack_87 ?_
            refine g_iload C d_M_pack_90 5 rfl ?_
            refine g_iald C 2 rfl (by omega) (by decide) d_M_pack_92 ?_
            refine g_lald C 1 rfl (hod _ (by omega)) (by decide) d_M_pack_93 ?_
            refine g_lload C d_M_pack_94 0 rfl ?_
            refine n_lcmp_gt C 104 d_M_pack_96 d_M_pack_97 (by decide) (by have := hct _ (hod (mst ct od bf nn pr t).1 (by omega)); omega) (by omega) (fun h96 => ?_) (fun h96 => ?_)
            · exfalso; omega
            · refine g_iconst C (v := nI 1) d_M_pack_100 rfl ?_
              refine g_goto C 105 d_M_pack_101 (by decide) ?_
              refine g_istore C (lv' := [(8, .int (nI (1))), (6, .long (lN (0))), (0, .ref w), (1, .int (nI (kk))), (2, .int (nI (nn))), (3, .int (nI (pr))), (4, .int (nI ((mst ct od bf nn pr t).1))), (5, .int (nI ((mst ct od bf nn pr t).2)))]) d_M_pack_105 (by decide) rfl ?_
              refine g_aload_n C d_M_pack_107 2 rfl rfl ?_
              refine g_get C (T := FM) (N := 17) 0 14 inM rfl rfl (by decide) tw_450 rfl rfl d_M_pack_108 ?_
              refine g_iload C d_M_pack_111 6 rfl ?_
              refine g_iload C d_M_pack_113 7 rfl ?_
              refine g_iadd C (v := nI (t)) d_M_pack_115 ((nI_add _ _).trans (congrArg nI hmu)) ?_
              refine g_iload C d_M_pack_116 0 rfl ?_
              refine n_if_eq C 136 d_M_pack_118 (by decide) (by omega) (fun h => absurd h (by omega)) (fun _ => ?_)
              refine g_aload_n C d_M_pack_121 2 rfl rfl ?_
              refine g_get C (T := FM) (N := 17) 0 2 inM rfl rfl (by decide) tw_438 rfl rfl d_M_pack_122 ?_
              refine g_aload_n C d_M_pack_125 2 rfl rfl ?_
              refine g_get C (T := FM) (N := 17) 0 11 inM rfl rfl (by decide) tw_447 rfl rfl d_M_pack_126 ?_
              refine g_iload C d_M_pack_129 6 rfl ?_
              refine g_iald C 2 rfl (by omega) (by decide) d_M_pack_131 ?_
              refine g_lald C 1 rfl (hod _ (by omega)) (by decide) d_M_pack_132 ?_
              refine g_goto C 138 d_M_pack_133 (by decide) ?_
              refine n_last C (ws' := [(w, .inr (4, [.int (nI (0)), .int (nI (ru)), .ref w1, .ref w2, .ref w3, .ref w4, .ref w5, .ref w6, .int (nI (wt)), .int (nI (rd)), .long (va), .ref w7, .ref w8, .ref w9, .ref wa, .ref wb, .ref wd])), (w1, .inl (cs.2.1, 48, .inr (.inl (fun j => lN (ct j))))), (w7, .inl (cs.1, 48, .inl (fun j => nI (od j)))), (w8, .inl (cs.1, 1536, .inl ((rwm ct od bf nn pr kk rw (t))))), (w9, .inl (cs.1, 16, .inl (fun j => nI (sz j)))), (wa, .inl (cs.2.1, 96, .inr (.inl (fun j => lN ((updN ((rwp ct od bf nn pr sm (t))) (t) (ct (od ((mst ct od bf nn pr t).1)))) j))))), (wb, .inl (cs.2.1, 96, .inr (.inl (fun j => lN (bf j)))))]) 5 rfl (by omega) (by decide) rfl d_M_pack_138 ?_
              refine g_aload_n C d_M_pack_139 2 rfl rfl ?_
              refine g_get C (T := FM) (N := 17) 0 12 inM rfl rfl (by decide) tw_448 rfl rfl d_M_pack_140 ?_
              refine g_bipush C (v := nI 96) d_M_pack_143 rfl ?_
              refine g_iload_n C d_M_pack_145 3 rfl rfl ?_
              refine g_imul C (v := nI ((96) * (kk))) d_M_pack_146 (pk_mul _ _) ?_
              refine g_iload C d_M_pack_147 6 rfl ?_
              refine g_iadd C (v := nI ((96) * (kk) + ((mst ct od bf nn pr t).1))) d_M_pack_149 (nI_add _ _) ?_
              refine g_iload C d_M_pack_150 7 rfl ?_
              refine g_iadd C (v := nI (96 * kk + t)) d_M_pack_152 ((nI_add _ _).trans (congrArg nI (by omega))) ?_
              refine g_iload C d_M_pack_153 0 rfl ?_
              refine n_if_eq C 168 d_M_pack_155 (by decide) (by omega) (fun h => absurd h (by omega)) (fun _ => ?_)
              refine g_aload_n C d_M_pack_158 2 rfl rfl ?_
              refine g_get C (T := FM) (N := 17) 0 11 inM rfl rfl (by decide) tw_447 rfl rfl d_M_pack_159 ?_
              refine g_iload C d_M_pack_162 6 rfl ?_
              refine g_iald C 2 rfl (by omega) (by decide) d_M_pack_164 ?_
              refine g_goto C 169 d_M_pack_165 (by decide) ?_
              refine g_iast C (ws' := [(w, .inr (4, [.int (nI (0)), .int (nI (ru)), .ref w1, .ref w2, .ref w3, .ref w4, .ref w5, .ref w6, .int (nI (wt)), .int (nI (rd)), .long (va), .ref w7, .ref w8, .ref w9, .ref wa, .ref wb, .ref wd])), (w1, .inl (cs.2.1, 48, .inr (.inl (fun j => lN (ct j))))), (w7, .inl (cs.1, 48, .inl (fun j => nI (od j)))), (w8, .inl (cs.1, 1536, .inl (upd ((rwm ct od bf nn pr kk rw (t))) (96 * kk + t) (nI (od ((mst ct od bf nn pr t).1)))))), (w9, .inl (cs.1, 16, .inl (fun j => nI (sz j)))), (wa, .inl (cs.2.1, 96, .inr (.inl (fun j => lN ((updN ((rwp ct od bf nn pr sm (t))) (t) (ct (od ((mst ct od bf nn pr t).1)))) j))))), (wb, .inl (cs.2.1, 96, .inr (.inl (fun j => lN (bf j)))))]) 3 rfl (by omega) (by decide) rfl d_M_pack_169 ?_
              refine g_iload C d_M_pack_170 6 rfl ?_
              refine g_iload C d_M_pack_172 0 rfl ?_
              refine n_if_eq C 181 d_M_pack_174 (by decide) (by omega) (fun h => absurd h (by omega)) (fun _ => ?_)
              refine g_iconst C (v := nI 1) d_M_pack_177 rfl ?_
              refine g_goto C 182 d_M_pack_178 (by decide) ?_
              refine g_iadd C (v := nI ((mst ct od bf nn pr t).1 + 1)) d_M_pack_182 (nI_add _ _) ?_
              refine g_istore C (lv' := [(4, .int (nI ((mst ct od bf nn pr t).1 + 1))), (8, .int (nI (1))), (6, .long (lN (0))), (0, .ref w), (1, .int (nI (kk))), (2, .int (nI (nn))), (3, .int (nI (pr))), (5, .int (nI ((mst ct od bf nn pr t).2)))]) d_M_pack_183 (by decide) rfl ?_
              refine g_iload C d_M_pack_185 7 rfl ?_
              refine g_iload C d_M_pack_187 1 rfl ?_
              refine n_if_eq C 196 d_M_pack_189 (by decide) (by omega) (fun h => absurd h (by omega)) (fun _ => ?_)
              refine g_iconst C (v := nI 0) d_M_pack_192 rfl ?_
              refine g_goto C 197 d_M_pack_193 (by decide) ?_
              refine g_iadd C (v := nI ((mst ct od bf nn pr t).2 + 0)) d_M_pack_197 (nI_add _ _) ?_
              refine g_istore C (lv' := [(5, .int (nI ((mst ct od bf nn pr t).2 + 0))), (4, .int (nI ((mst ct od bf nn pr t).1 + 1))), (8, .int (nI (1))), (6, .long (lN (0))), (0, .ref w), (1, .int (nI (kk))), (2, .int (nI (nn))), (3, .int (nI (pr)))]) d_M_pack_198 (by decide) rfl ?_
              refine g_goto C 25 d_M_pack_200 (by decide) ?_
              refine g_lv (lv' := [(0, .ref w), (1, .int (nI (kk))), (2, .int (nI (nn))), (3, .int (nI (pr))), (4, .int (nI ((mst ct od bf nn pr t).1 + 1))), (5, .int (nI ((mst ct od bf nn pr t).2 + 0)))]) [4, 5, 6, 7, 1, 0] rfl ?_
              have hsy : sym ct od bf nn pr (mst ct od bf nn pr t) = true := decide_eq_true ⟨by omega, fun q9 => by omega⟩
              have hg := ih (96 - (t + 1)) (by omega) (t + 1) rfl (by omega)
              rw [mst_s hsy, rwp_s hsy, rwm_s hsy] at hg
              exact hg
      · refine g_aload_n C d_M_pack_43 0 rfl rfl ?_
        refine g_get C (T := FM) (N := 17) 0 15 inM rfl rfl (by decide) tw_451 rfl rfl d_M_pack_44 ?_
        refine g_iconst C (v := nI 2) d_M_pack_47 rfl ?_
        refine g_iload C d_M_pack_48 5 rfl ?_
        refine g_imul C (v := nI ((2) * ((mst ct od bf nn pr t).2))) d_M_pack_50 (pk_mul _ _) ?_
        refine g_lald C 6 rfl (by omega) (by decide) d_M_pack_51 ?_
        refine g_aload_n C d_M_pack_52 0 rfl rfl ?_
        refine g_get C (T := FM) (N := 17) 0 15 inM rfl rfl (by decide) tw_451 rfl rfl d_M_pack_53 ?_
        refine g_iconst C (v := nI 2) d_M_pack_56 rfl ?_
        refine g_iload C d_M_pack_57 5 rfl ?_
        refine g_imul C (v := nI ((2) * ((mst ct od bf nn pr t).2))) d_M_pack_59 (pk_mul _ _) ?_
        refine g_iconst C (v := nI 1) d_M_pack_60 rfl ?_
        refine g_iadd C (v := nI ((2) * ((mst ct od bf nn pr t).2) + 1)) d_M_pack_61 (nI_add _ _) ?_
        refine g_lald C 6 rfl (by omega) (by decide) d_M_pack_62 ?_
        refine g_ladd C (v := lN (bf ((2) * ((mst ct od bf nn pr t).2)) + (bf ((2) * ((mst ct od bf nn pr t).2) + 1)))) d_M_pack_63 (lN_add _ _) ?_
        refine g_goto C 68 d_M_pack_64 (by decide) ?_
        refine g_lstore C (lv' := [(6, .long (lN (bf ((2) * ((mst ct od bf nn pr t).2)) + (bf ((2) * ((mst ct od bf nn pr t).2) + 1))))), (0, .ref w), (1, .int (nI (kk))), (2, .int (nI (nn))), (3, .int (nI (pr))), (4, .int (nI ((mst ct od bf nn pr t).1))), (5, .int (nI ((mst ct od bf nn pr t).2)))]) d_M_pack_68 (by decide) rfl ?_
        refine g_iload C d_M_pack_70 5 rfl ?_
        refine g_iload_n C d_M_pack_72 3 rfl rfl ?_
        refine n_icmp_ge C 104 d_M_pack_73 (by decide) (by omega) (by omega) (fun h73 => ?_) (fun h73 => ?_)
        · refine g_iconst C (v := nI 0) d_M_pack_104 rfl ?_
          refine g_istore C (lv' := [(8, .int (nI (0))), (6, .long (lN (bf ((2) * ((mst ct od bf nn pr t).2)) + (bf ((2) * ((mst ct od bf nn pr t).2) + 1))))), (0, .ref w), (1, .int (nI (kk))), (2, .int (nI (nn))), (3, .int (nI (pr))), (4, .int (nI ((mst ct od bf nn pr t).1))), (5, .int (nI ((mst ct od bf nn pr t).2)))]) d_M_pack_105 (by decide) rfl ?_
          refine g_aload_n C d_M_pack_107 2 rfl rfl ?_
          refine g_get C (T := FM) (N := 17) 0 14 inM rfl rfl (by decide) tw_450 rfl rfl d_M_pack_108 ?_
          refine g_iload C d_M_pack_111 6 rfl ?_
          refine g_iload C d_M_pack_113 7 rfl ?_
          refine g_iadd C (v := nI (t)) d_M_pack_115 ((nI_add _ _).trans (congrArg nI hmu)) ?_
          refine g_iload C d_M_pack_116 0 rfl ?_
          refine n_if_eq C 136 d_M_pack_118 (by decide) (by omega) (fun _ => ?_) (fun h => absurd h (by omega))
          refine g_lload C d_M_pack_136 1 rfl ?_
          refine n_last C (ws' := [(w, .inr (4, [.int (nI (0)), .int (nI (ru)), .ref w1, .ref w2, .ref w3, .ref w4, .ref w5, .ref w6, .int (nI (wt)), .int (nI (rd)), .long (va), .ref w7, .ref w8, .ref w9, .ref wa, .ref wb, .ref wd])), (w1, .inl (cs.2.1, 48, .inr (.inl (fun j => lN (ct j))))), (w7, .inl (cs.1, 48, .inl (fun j => nI (od j)))), (w8, .inl (cs.1, 1536, .inl ((rwm ct od bf nn pr kk rw (t))))), (w9, .inl (cs.1, 16, .inl (fun j => nI (sz j)))), (wa, .inl (cs.2.1, 96, .inr (.inl (fun j => lN ((updN ((rwp ct od bf nn pr sm (t))) (t) (bf ((2) * ((mst ct od bf nn pr t).2)) + (bf ((2) * ((mst ct od bf nn pr t).2) + 1)))) j))))), (wb, .inl (cs.2.1, 96, .inr (.inl (fun j => lN (bf j)))))]) 5 rfl (by omega) (by decide) rfl d_M_pack_138 ?_
          refine g_aload_n C d_M_pack_139 2 rfl rfl ?_
          refine g_get C (T := FM) (N := 17) 0 12 inM rfl rfl (by decide) tw_448 rfl rfl d_M_pack_140 ?_
          refine g_bipush C (v := nI 96) d_M_pack_143 rfl ?_
          refine g_iload_n C d_M_pack_145 3 rfl rfl ?_
          refine g_imul C (v := nI ((96) * (kk))) d_M_pack_146 (pk_mul _ _) ?_
          refine g_iload C d_M_pack_147 6 rfl ?_
          refine g_iadd C (v := nI ((96) * (kk) + ((mst ct od bf nn pr t).1))) d_M_pack_149 (nI_add _ _) ?_
          refine g_iload C d_M_pack_150 7 rfl ?_
          refine g_iadd C (v := nI (96 * kk + t)) d_M_pack_152 ((nI_add _ _).trans (congrArg nI (by omega))) ?_
          refine g_iload C d_M_pack_153 0 rfl ?_
          refine n_if_eq C 168 d_M_pack_155 (by decide) (by omega) (fun _ => ?_) (fun h => absurd h (by omega))
          refine g_iconst C (v := (-1)) d_M_pack_168 rfl ?_
          refine g_iast C (ws' := [(w, .inr (4, [.int (nI (0)), .int (nI (ru)), .ref w1, .ref w2, .ref w3, .ref w4, .ref w5, .ref w6, .int (nI (wt)), .int (nI (rd)), .long (va), .ref w7, .ref w8, .ref w9, .ref wa, .ref wb, .ref wd])), (w1, .inl (cs.2.1, 48, .inr (.inl (fun j => lN (ct j))))), (w7, .inl (cs.1, 48, .inl (fun j => nI (od j)))), (w8, .inl (cs.1, 1536, .inl (upd ((rwm ct od bf nn pr kk rw (t))) (96 * kk + t) ((-1))))), (w9, .inl (cs.1, 16, .inl (fun j => nI (sz j)))), (wa, .inl (cs.2.1, 96, .inr (.inl (fun j => lN ((updN ((rwp ct od bf nn pr sm (t))) (t) (bf ((2) * ((mst ct od bf nn pr t).2)) + (bf ((2) * ((mst ct od bf nn pr t).2) + 1)))) j))))), (wb, .inl (cs.2.1, 96, .inr (.inl (fun j => lN (bf j)))))]) 3 rfl (by omega) (by decide) rfl d_M_pack_169 ?_
          refine g_iload C d_M_pack_170 6 rfl ?_
          refine g_iload C d_M_pack_172 0 rfl ?_
          refine n_if_eq C 181 d_M_pack_174 (by decide) (by omega) (fun _ => ?_) (fun h => absurd h (by omega))
          refine g_iconst C (v := nI 0) d_M_pack_181 rfl ?_
          refine g_iadd C (v := nI ((mst ct od bf nn pr t).1 + 0)) d_M_pack_182 (nI_add _ _) ?_
          refine g_istore C (lv' := [(4, .int (nI ((mst ct od bf nn pr t).1 + 0))), (8, .int (nI (0))), (6, .long (lN (bf ((2) * ((mst ct od bf nn pr t).2)) + (bf ((2) * ((mst ct od bf nn pr t).2) + 1))))), (0, .ref w), (1, .int (nI (kk))), (2, .int (nI (nn))), (3, .int (nI (pr))), (5, .int (nI ((mst ct od bf nn pr t).2)))]) d_M_pack_183 (by decide) rfl ?_
          refine g_iload C d_M_pack_185 7 rfl ?_
          refine g_iload C d_M_pack_187 1 rfl ?_
          refine n_if_eq C 196 d_M_pack_189 (by decide) (by omega) (fun _ => ?_) (fun h => absurd h (by omega))
          refine g_iconst C (v := nI 1) d_M_pack_196 rfl ?_
          refine g_iadd C (v := nI ((mst ct od bf nn pr t).2 + 1)) d_M_pack_197 (nI_add _ _) ?_
          refine g_istore C (lv' := [(5, .int (nI ((mst ct od bf nn pr t).2 + 1))), (4, .int (nI ((mst ct od bf nn pr t).1 + 0))), (8, .int (nI (0))), (6, .long (lN (bf ((2) * ((mst ct od bf nn pr t).2)) + (bf ((2) * ((mst ct od bf nn pr t).2) + 1))))), (0, .ref w), (1, .int (nI (kk))), (2, .int (nI (nn))), (3, .int (nI (pr)))]) d_M_pack_198 (by decide) rfl ?_
          refine g_goto C 25 d_M_pack_200 (by decide) ?_
          refine g_lv (lv' := [(0, .ref w), (1, .int (nI (kk))), (2, .int (nI (nn))), (3, .int (nI (pr))), (4, .int (nI ((mst ct od bf nn pr t).1 + 0))), (5, .int (nI ((mst ct od bf nn pr t).2 + 1)))]) [4, 5, 6, 7, 1, 0] rfl ?_
          have hsy : ¬ sym ct od bf nn pr (mst ct od bf nn pr t) = true := fun q8 => by have q9 := of_decide_eq_true q8; omega
          have hg := ih (96 - (t + 1)) (by omega) (t + 1) rfl (by omega)
          rw [mst_p hsy, rwp_p hsy, rwm_p hsy] at hg
          exact hg
        · refine g_iload C d_M_pack_76 6 rfl ?_
          refine g_iload_n C d_M_pack_78 4 rfl rfl ?_
          refine n_icmp_eq C 100 d_M_pack_79 (by decide) (by omega) (by omega) (fun h79 => ?_) (fun h79 => ?_)
          · refine g_iconst C (v := nI 1) d_M_pack_100 rfl ?_
            refine g_goto C 105 d_M_pack_101 (by decide) ?_
            refine g_istore C (lv' := [(8, .int (nI (1))), (6, .long (lN (bf ((2) * ((mst ct od bf nn pr t).2)) + (bf ((2) * ((mst ct od bf nn pr t).2) + 1))))), (0, .ref w), (1, .int (nI (kk))), (2, .int (nI (nn))), (3, .int (nI (pr))), (4, .int (nI ((mst ct od bf nn pr t).1))), (5, .int (nI ((mst ct od bf nn pr t).2)))]) d_M_pack_105 (by decide) rfl ?_
            refine g_aload_n C d_M_pack_107 2 rfl rfl ?_
            refine g_get C (T := FM) (N := 17) 0 14 inM rfl rfl (by decide) tw_450 rfl rfl d_M_pack_108 ?_
            refine g_iload C d_M_pack_111 6 rfl ?_
            refine g_iload C d_M_pack_113 7 rfl ?_
            refine g_iadd C (v := nI (t)) d_M_pack_115 ((nI_add _ _).trans (congrArg nI hmu)) ?_
            refine g_iload C d_M_pack_116 0 rfl ?_
            refine n_if_eq C 136 d_M_pack_118 (by decide) (by omega) (fun h => absurd h (by omega)) (fun _ => ?_)
            refine g_aload_n C d_M_pack_121 2 rfl rfl ?_
            refine g_get C (T := FM) (N := 17) 0 2 inM rfl rfl (by decide) tw_438 rfl rfl d_M_pack_122 ?_
            refine g_aload_n C d_M_pack_125 2 rfl rfl ?_
            refine g_get C (T := FM) (N := 17) 0 11 inM rfl rfl (by decide) tw_447 rfl rfl d_M_pack_126 ?_
            refine g_iload C d_M_pack_129 6 rfl ?_
            refine g_iald C 2 rfl (by omega) (by decide) d_M_pack_131 ?_
            refine g_lald C 1 rfl (hod _ (by omega)) (by decide) d_M_pack_132 ?_
            refine g_goto C 138 d_M_pack_133 (by decide) ?_
            refine n_last C (ws' := [(w, .inr (4, [.int (nI (0)), .int (nI (ru)), .ref w1, .ref w2, .ref w3, .ref w4, .ref w5, .ref w6, .int (nI (wt)), .int (nI (rd)), .long (va), .ref w7, .ref w8, .ref w9, .ref wa, .ref wb, .ref wd])), (w1, .inl (cs.2.1, 48, .inr (.inl (fun j => lN (ct j))))), (w7, .inl (cs.1, 48, .inl (fun j => nI (od j)))), (w8, .inl (cs.1, 1536, .inl ((rwm ct od bf nn pr kk rw (t))))), (w9, .inl (cs.1, 16, .inl (fun j => nI (sz j)))), (wa, .inl (cs.2.1, 96, .inr (.inl (fun j => lN ((updN ((rwp ct od bf nn pr sm (t))) (t) (ct (od ((mst ct od bf nn pr t).1)))) j))))), (wb, .inl (cs.2.1, 96, .inr (.inl (fun j => lN (bf j)))))]) 5 rfl (by omega) (by decide) rfl d_M_pack_138 ?_
            refine g_aload_n C d_M_pack_139 2 rfl rfl ?_
            refine g_get C (T := FM) (N := 17) 0 12 inM rfl rfl (by decide) tw_448 rfl rfl d_M_pack_140 ?_
            refine g_bipush C (v := nI 96) d_M_pack_143 rfl ?_
            refine g_iload_n C d_M_pack_145 3 rfl rfl ?_
            refine g_imul C (v := nI ((96) * (kk))) d_M_pack_146 (pk_mul _ _) ?_
            refine g_iload C d_M_pack_147 6 rfl ?_
            refine g_iadd C (v := nI ((96) * (kk) + ((mst ct od bf nn pr t).1))) d_M_pack_149 (nI_add _ _) ?_
            refine g_iload C d_M_pack_150 7 rfl ?_
            refine g_iadd C (v := nI (96 * kk + t)) d_M_pack_152 ((nI_add _ _).trans (congrArg nI (by omega))) ?_
            refine g_iload C d_M_pack_153 0 rfl ?_
            refine n_if_eq C 168 d_M_pack_155 (by decide) (by omega) (fun h => absurd h (by omega)) (fun _ => ?_)
            refine g_aload_n C d_M_pack_158 2 rfl rfl ?_
            refine g_get C (T := FM) (N := 17) 0 11 inM rfl rfl (by decide) tw_447 rfl rfl d_M_pack_159 ?_
            refine g_iload C d_M_pack_162 6 rfl ?_
            refine g_iald C 2 rfl (by omega) (by decide) d_M_pack_164 ?_
            refine g_goto C 169 d_M_pack_165 (by decide) ?_
            refine g_iast C (ws' := [(w, .inr (4, [.int (nI (0)), .int (nI (ru)), .ref w1, .ref w2, .ref w3, .ref w4, .ref w5, .ref w6, .int (nI (wt)), .int (nI (rd)), .long (va), .ref w7, .ref w8, .ref w9, .ref wa, .ref wb, .ref wd])), (w1, .inl (cs.2.1, 48, .inr (.inl (fun j => lN (ct j))))), (w7, .inl (cs.1, 48, .inl (fun j => nI (od j)))), (w8, .inl (cs.1, 1536, .inl (upd ((rwm ct od bf nn pr kk rw (t))) (96 * kk + t) (nI (od ((mst ct od bf nn pr t).1)))))), (w9, .inl (cs.1, 16, .inl (fun j => nI (sz j)))), (wa, .inl (cs.2.1, 96, .inr (.inl (fun j => lN ((updN ((rwp ct od bf nn pr sm (t))) (t) (ct (od ((mst ct od bf nn pr t).1)))) j))))), (wb, .inl (cs.2.1, 96, .inr (.inl (fun j => lN (bf j)))))]) 3 rfl (by omega) (by decide) rfl d_M_pack_169 ?_
            refine g_iload C d_M_pack_170 6 rfl ?_
            refine g_iload C d_M_pack_172 0 rfl ?_
            refine n_if_eq C 181 d_M_pack_174 (by decide) (by omega) (fun h => absurd h (by omega)) (fun _ => ?_)
            refine g_iconst C (v := nI 1) d_M_pack_177 rfl ?_
            refine g_goto C 182 d_M_pack_178 (by decide) ?_
            refine g_iadd C (v := nI ((mst ct od bf nn pr t).1 + 1)) d_M_pack_182 (nI_add _ _) ?_
            refine g_istore C (lv' := [(4, .int (nI ((mst ct od bf nn pr t).1 + 1))), (8, .int (nI (1))), (6, .long (lN (bf ((2) * ((mst ct od bf nn pr t).2)) + (bf ((2) * ((mst ct od bf nn pr t).2) + 1))))), (0, .ref w), (1, .int (nI (kk))), (2, .int (nI (nn))), (3, .int (nI (pr))), (5, .int (nI ((mst ct od bf nn pr t).2)))]) d_M_pack_183 (by decide) rfl ?_
            refine g_iload C d_M_pack_185 7 rfl ?_
            refine g_iload C d_M_pack_187 1 rfl ?_
            refine n_if_eq C 196 d_M_pack_189 (by decide) (by omega) (fun h => absurd h (by omega)) (fun _ => ?_)
            refine g_iconst C (v := nI 0) d_M_pack_192 rfl ?_
            refine g_goto C 197 d_M_pack_193 (by decide) ?_
            refine g_iadd C (v := nI ((mst ct od bf nn pr t).2 + 0)) d_M_pack_197 (nI_add _ _) ?_
            refine g_istore C (lv' := [(5, .int (nI ((mst ct od bf nn pr t).2 + 0))), (4, .int (nI ((mst ct od bf nn pr t).1 + 1))), (8, .int (nI (1))), (6, .long (lN (bf ((2) * ((mst ct od bf nn pr t).2)) + (bf ((2) * ((mst ct od bf nn pr t).2) + 1))))), (0, .ref w), (1, .int (nI (kk))), (2, .int (nI (nn))), (3, .int (nI (pr)))]) d_M_pack_198 (by decide) rfl ?_
            refine g_goto C 25 d_M_pack_200 (by decide) ?_
            refine g_lv (lv' := [(0, .ref w), (1, .int (nI (kk))), (2, .int (nI (nn))), (3, .int (nI (pr))), (4, .int (nI ((mst ct od bf nn pr t).1 + 1))), (5, .int (nI ((mst ct od bf nn pr t).2 + 0)))]) [4, 5, 6, 7, 1, 0] rfl ?_
            have hsy : sym ct od bf nn pr (mst ct od bf nn pr t) = true := decide_eq_true ⟨by omega, fun q9 => by omega⟩
            have hg := ih (96 - (t + 1)) (by omega) (t + 1) rfl (by omega)
            rw [mst_s hsy, rwp_s hsy, rwm_s hsy] at hg
            exact hg
          · refine g_aload_n C d_M_pack_82 1 rfl rfl ?_
            refine g_get C (T := FM) (N := 17) 0 2 inM rfl rfl (by decide) tw_438 rfl rfl d_M_pack_83 ?_
            refine g_aload_n C d_M_pack_86 1 rfl rfl ?_
            refine g_get C (T := FM) (N := 17) 0 11 inM rfl rfl (by decide) tw_447 rfl rfl d_M_pack_87 ?_
            refine g_iload C d_M_pack_90 5 rfl ?_
            refine g_iald C 2 rfl (by omega) (by decide) d_M_pack_92 ?_
            refine g_lald C 1 rfl (hod _ (by omega)) (by decide) d_M_pack_93 ?_
            refine g_lload C d_M_pack_94 0 rfl ?_
            refine n_lcmp_gt C 104 d_M_pack_96 d_M_pack_97 (by decide) (by have := hct _ (hod (mst ct od bf nn pr t).1 (by omega)); omega) (by have h7 := hbf (2 * (mst ct od bf nn pr t).2) (by omega); have h8 := hbf (2 * (mst ct od bf nn pr t).2 + 1) (by omega); omega) (fun h96 => ?_) (fun h96 => ?_)
            · refine g_iconst C (v := nI 0) d_M_pack_104 rfl ?_
              refine g_istore C (lv' := [(8, .int (nI (0))), (6, .long (lN (bf ((2) * ((mst ct od bf nn pr t).2)) + (bf ((2) * ((mst ct od bf nn pr t).2) + 1))))), (0, .ref w), (1, .int (nI (kk))), (2, .int (nI (nn))), (3, .int (nI (pr))), (4, .int (nI ((mst ct od bf nn pr t).1))), (5, .int (nI ((mst ct od bf nn pr t).2)))]) d_M_pack_105 (by decide) rfl ?_
              refine g_aload_n C d_M_pack_107 2 rfl rfl ?_
              refine g_get C (T := FM) (N := 17) 0 14 inM rfl rfl (by decide) tw_450 rfl rfl d_M_pack_108 ?_
              refine g_iload C d_M_pack_111 6 rfl ?_
              refine g_iload C d_M_pack_113 7 rfl ?_
              refine g_iadd C (v := nI (t)) d_M_pack_115 ((nI_add _ _).trans (congrArg nI hmu)) ?_
              refine g_iload C d_M_pack_116 0 rfl ?_
              refine n_if_eq C 136 d_M_pack_118 (by decide) (by omega) (fun _ => ?_) (fun h => absurd h (by omega))
              refine g_lload C d_M_pack_136 1 rfl ?_
              refine n_last C (ws' := [(w, .inr (4, [.int (nI (0)), .int (nI (ru)), .ref w1, .ref w2, .ref w3, .ref w4, .ref w5, .ref w6, .int (nI (wt)), .int (nI (rd)), .long (va), .ref w7, .ref w8, .ref w9, .ref wa, .ref wb, .ref wd])), (w1, .inl (cs.2.1, 48, .inr (.inl (fun j => lN (ct j))))), (w7, .inl (cs.1, 48, .inl (fun j => nI (od j)))), (w8, .inl (cs.1, 1536, .inl ((rwm ct od bf nn pr kk rw (t))))), (w9, .inl (cs.1, 16, .inl (fun j => nI (sz j)))), (wa, .inl (cs.2.1, 96, .inr (.inl (fun j => lN ((updN ((rwp ct od bf nn pr sm (t))) (t) (bf ((2) * ((mst ct od bf nn pr t).2)) + (bf ((2) * ((mst ct od bf nn pr t).2) + 1)))) j))))), (wb, .inl (cs.2.1, 96, .inr (.inl (fun j => lN (bf j)))))]) 5 rfl (by omega) (by decide) rfl d_M_pack_138 ?_
              refine g_aload_n C d_M_pack_139 2 rfl rfl ?_
              refine g_get C (T := FM) (N := 17) 0 12 inM rfl rfl (by decide) tw_448 rfl rfl d_M_pack_140 ?_
              refine g_bipush C (v := nI 96) d_M_pack_143 rfl ?_
              refine g_iload_n C d_M_pack_145 3 rfl rfl ?_
              refine g_imul C (v := nI ((96) * (kk))) d_M_pack_146 (pk_mul _ _) ?_
              refine g_iload C d_M_pack_147 6 rfl ?_
              refine g_iadd C (v := nI ((96) * (kk) + ((mst ct od bf nn pr t).1))) d_M_pack_149 (nI_add _ _) ?_
              refine g_iload C d_M_pack_150 7 rfl ?_
              refine g_iadd C (v := nI (96 * kk + t)) d_M_pack_152 ((nI_add _ _).trans (congrArg nI (by omega))) ?_
              refine g_iload C d_M_pack_153 0 rfl ?_
              refine n_if_eq C 168 d_M_pack_155 (by decide) (by omega) (fun _ => ?_) (fun h => absurd h (by omega))
              refine g_iconst C (v := (-1)) d_M_pack_168 rfl ?_
              refine g_iast C (ws' := [(w, .inr (4, [.int (nI (0)), .int (nI (ru)), .ref w1, .ref w2, .ref w3, .ref w4, .ref w5, .ref w6, .int (nI (wt)), .int (nI (rd)), .long (va), .ref w7, .ref w8, .ref w9, .ref wa, .ref wb, .ref wd])), (w1, .inl (cs.2.1, 48, .inr (.inl (fun j => lN (ct j))))), (w7, .inl (cs.1, 48, .inl (fun j => nI (od j)))), (w8, .inl (cs.1, 1536, .inl (upd ((rwm ct od bf nn pr kk rw (t))) (96 * kk + t) ((-1))))), (w9, .inl (cs.1, 16, .inl (fun j => nI (sz j)))), (wa, .inl (cs.2.1, 96, .inr (.inl (fun j => lN ((updN ((rwp ct od bf nn pr sm (t))) (t) (bf ((2) * ((mst ct od bf nn pr t).2)) + (bf ((2) * ((mst ct od bf nn pr t).2) + 1)))) j))))), (wb, .inl (cs.2.1, 96, .inr (.inl (fun j => lN (bf j)))))]) 3 rfl (by omega) (by decide) rfl d_M_pack_169 ?_
              refine g_iload C d_M_pack_170 6 rfl ?_
              refine g_iload C d_M_pack_172 0 rfl ?_
              refine n_if_eq C 181 d_M_pack_174 (by decide) (by omega) (fun _ => ?_) (fun h => absurd h (by omega))
              refine g_iconst C (v := nI 0) d_M_pack_181 rfl ?_
              refine g_iadd C (v := nI ((mst ct od bf nn pr t).1 + 0)) d_M_pack_182 (nI_add _ _) ?_
              refine g_istore C (lv' := [(4, .int (nI ((mst ct od bf nn pr t).1 + 0))), (8, .int (nI (0))), (6, .long (lN (bf ((2) * ((mst ct od bf nn pr t).2)) + (bf ((2) * ((mst ct od bf nn pr t).2) + 1))))), (0, .ref w), (1, .int (nI (kk))), (2, .int (nI (nn))), (3, .int (nI (pr))), (5, .int (nI ((mst ct od bf nn pr t).2)))]) d_M_pack_183 (by decide) rfl ?_
              refine g_iload C d_M_pack_185 7 rfl ?_
              refine g_iload C d_M_pack_187 1 rfl ?_
              refine n_if_eq C 196 d_M_pack_189 (by decide) (by omega) (fun _ => ?_) (fun h => absurd h (by omega))
              refine g_iconst C (v := nI 1) d_M_pack_196 rfl ?_
              refine g_iadd C (v := nI ((mst ct od bf nn pr t).2 + 1)) d_M_pack_197 (nI_add _ _) ?_
              refine g_istore C (lv' := [(5, .int (nI ((mst ct od bf nn pr t).2 + 1))), (4, .int (nI ((mst ct od bf nn pr t).1 + 0))), (8, .int (nI (0))), (6, .long (lN (bf ((2) * ((mst ct od bf nn pr t).2)) + (bf ((2) * ((mst ct od bf nn pr t).2) + 1))))), (0, .ref w), (1, .int (nI (kk))), (2, .int (nI (nn))), (3, .int (nI (pr)))]) d_M_pack_198 (by decide) rfl ?_
              refine g_goto C 25 d_M_pack_200 (by decide) ?_
              refine g_lv (lv' := [(0, .ref w), (1, .int (nI (kk))), (2, .int (nI (nn))), (3, .int (nI (pr))), (4, .int (nI ((mst ct od bf nn pr t).1 + 0))), (5, .int (nI ((mst ct od bf nn pr t).2 + 1)))]) [4, 5, 6, 7, 1, 0] rfl ?_
              have hsy : ¬ sym ct od bf nn pr (mst ct od bf nn pr t) = true := fun q8 => by have q9 := of_decide_eq_true q8; omega
              have hg := ih (96 - (t + 1)) (by omega) (t + 1) rfl (by omega)
              rw [mst_p hsy, rwp_p hsy, rwm_p hsy] at hg
              exact hg
            · refine g_iconst C (v := nI 1) d_M_pack_100 rfl ?_
              refine g_goto C 105 d_M_pack_101 (by decide) ?_
              refine g_istore C (lv' := [(8, .int (nI (1))), (6, .long (lN (bf ((2) * ((mst ct od bf nn pr t).2)) + (bf ((2) * ((mst ct od bf nn pr t).2) + 1))))), (0, .ref w), (1, .int (nI (kk))), (2, .int (nI (nn))), (3, .int (nI (pr))), (4, .int (nI ((mst ct od bf nn pr t).1))), (5, .int (nI ((mst ct od bf nn pr t).2)))]) d_M_pack_105 (by decide) rfl ?_
              refine g_aload_n C d_M_pack_107 2 rfl rfl ?_
              refine g_get C (T := FM) (N := 17) 0 14 inM rfl rfl (by decide) tw_450 rfl rfl d_M_pack_108 ?_
              refine g_iload C d_M_pack_111 6 rfl ?_
              refine g_iload C d_M_pack_113 7 rfl ?_
              refine g_iadd C (v := nI (t)) d_M_pack_115 ((nI_add _ _).trans (congrArg nI hmu)) ?_
              refine g_iload C d_M_pack_116 0 rfl ?_
              refine n_if_eq C 136 d_M_pack_118 (by decide) (by omega) (fun h => absurd h (by omega)) (fun _ => ?_)
              refine g_aload_n C d_M_pack_121 2 rfl rfl ?_
              refine g_get C (T := FM) (N := 17) 0 2 inM rfl rfl (by decide) tw_438 rfl rfl d_M_pack_122 ?_
              refine g_aload_n C d_M_pack_125 2 rfl rfl ?_
              refine g_get C (T := FM) (N := 17) 0 11 inM rfl rfl (by decide) tw_447 rfl rfl d_M_pack_126 ?_
              refine g_iload C d_M_pack_129 6 rfl ?_
              refine g_iald C 2 rfl (by omega) (by decide) d_M_pack_131 ?_
              refine g_lald C 1 rfl (hod _ (by omega)) (by decide) d_M_pack_132 ?_
              refine g_goto C 138 d_M_pack_133 (by decide) ?_
              refine n_last C (ws' := [(w, .inr (4, [.int (nI (0)), .int (nI (ru)), .ref w1, .ref w2, .ref w3, .ref w4, .ref w5, .ref w6, .int (nI (wt)), .int (nI (rd)), .long (va), .ref w7, .ref w8, .ref w9, .ref wa, .ref wb, .ref wd])), (w1, .inl (cs.2.1, 48, .inr (.inl (fun j => lN (ct j))))), (w7, .inl (cs.1, 48, .inl (fun j => nI (od j)))), (w8, .inl (cs.1, 1536, .inl ((rwm ct od bf nn pr kk rw (t))))), (w9, .inl (cs.1, 16, .inl (fun j => nI (sz j)))), (wa, .inl (cs.2.1, 96, .inr (.inl (fun j => lN ((updN ((rwp ct od bf nn pr sm (t))) (t) (ct (od ((mst ct od bf nn pr t).1)))) j))))), (wb, .inl (cs.2.1, 96, .inr (.inl (fun j => lN (bf j)))))]) 5 rfl (by omega) (by decide) rfl d_M_pack_138 ?_
              refine g_aload_n C d_M_pack_139 2 rfl rfl ?_
              refine g_get C (T := FM) (N := 17) 0 12 inM rfl rfl (by decide) tw_448 rfl rfl d_M_pack_140 ?_
              refine g_bipush C (v := nI 96) d_M_pack_143 rfl ?_
              refine g_iload_n C d_M_pack_145 3 rfl rfl ?_
              refine g_imul C (v := nI ((96) * (kk))) d_M_pack_146 (pk_mul _ _) ?_
              refine g_iload C d_M_pack_147 6 rfl ?_
              refine g_iadd C (v := nI ((96) * (kk) + ((mst ct od bf nn pr t).1))) d_M_pack_149 (nI_add _ _) ?_
              refine g_iload C d_M_pack_150 7 rfl ?_
              refine g_iadd C (v := nI (96 * kk + t)) d_M_pack_152 ((nI_add _ _).trans (congrArg nI (by omega))) ?_
              refine g_iload C d_M_pack_153 0 rfl ?_
              refine n_if_eq C 168 d_M_pack_155 (by decide) (by omega) (fun h => absurd h (by omega)) (fun _ => ?_)
              refine g_aload_n C d_M_pack_158 2 rfl rfl ?_
              refine g_get C (T := FM) (N := 17) 0 11 inM rfl rfl (by decide) tw_447 rfl rfl d_M_pack_159 ?_
              refine g_iload C d_M_pack_162 6 rfl ?_
              refine g_iald C 2 rfl (by omega) (by decide) d_M_pack_164 ?_
              refine g_goto C 169 d_M_pack_165 (by decide) ?_
              refine g_iast C (ws' := [(w, .inr (4, [.int (nI (0)), .int (nI (ru)), .ref w1, .ref w2, .ref w3, .ref w4, .ref w5, .ref w6, .int (nI (wt)), .int (nI (rd)), .long (va), .ref w7, .ref w8, .ref w9, .ref wa, .ref wb, .ref wd])), (w1, .inl (cs.2.1, 48, .inr (.inl (fun j => lN (ct j))))), (w7, .inl (cs.1, 48, .inl (fun j => nI (od j)))), (w8, .inl (cs.1, 1536, .inl (upd ((rwm ct od bf nn pr kk rw (t))) (96 * kk + t) (nI (od ((mst ct od bf nn pr t).1)))))), (w9, .inl (cs.1, 16, .inl (fun j => nI (sz j)))), (wa, .inl (cs.2.1, 96, .inr (.inl (fun j => lN ((updN ((rwp ct od bf nn pr sm (t))) (t) (ct (od ((mst ct od bf nn pr t).1)))) j))))), (wb, .inl (cs.2.1, 96, .inr (.inl (fun j => lN (bf j)))))]) 3 rfl (by omega) (by decide) rfl d_M_pack_169 ?_
              refine g_iload C d_M_pack_170 6 rfl ?_
              refine g_iload C d_M_pack_172 0 rfl ?_
              refine n_if_eq C 181 d_M_pack_174 (by decide) (by omega) (fun h => absurd h (by omega)) (fun _ => ?_)
              refine g_iconst C (v := nI 1) d_M_pack_177 rfl ?_
              refine g_goto C 182 d_M_pack_178 (by decide) ?_
              refine g_iadd C (v := nI ((mst ct od bf nn pr t).1 + 1)) d_M_pack_182 (nI_add _ _) ?_
              refine g_istore C (lv' := [(4, .int (nI ((mst ct od bf nn pr t).1 + 1))), (8, .int (nI (1))), (6, .long (lN (bf ((2) * ((mst ct od bf nn pr t).2)) + (bf ((2) * ((mst ct od bf nn pr t).2) + 1))))), (0, .ref w), (1, .int (nI (kk))), (2, .int (nI (nn))), (3, .int (nI (pr))), (5, .int (nI ((mst ct od bf nn pr t).2)))]) d_M_pack_183 (by decide) rfl ?_
              refine g_iload C d_M_pack_185 7 rfl ?_
              refine g_iload C d_M_pack_187 1 rfl ?_
              refine n_if_eq C 196 d_M_pack_189 (by decide) (by omega) (fun h => absurd h (by omega)) (fun _ => ?_)
              refine g_iconst C (v := nI 0) d_M_pack_192 rfl ?_
              refine g_goto C 197 d_M_pack_193 (by decide) ?_
              refine g_iadd C (v := nI ((mst ct od bf nn pr t).2 + 0)) d_M_pack_197 (nI_add _ _) ?_
              refine g_istore C (lv' := [(5, .int (nI ((mst ct od bf nn pr t).2 + 0))), (4, .int (nI ((mst ct od bf nn pr t).1 + 1))), (8, .int (nI (1))), (6, .long (lN (bf ((2) * ((mst ct od bf nn pr t).2)) + (bf ((2) * ((mst ct od bf nn pr t).2) + 1))))), (0, .ref w), (1, .int (nI (kk))), (2, .int (nI (nn))), (3, .int (nI (pr)))]) d_M_pack_198 (by decide) rfl ?_
              refine g_goto C 25 d_M_pack_200 (by decide) ?_
              refine g_lv (lv' := [(0, .ref w), (1, .int (nI (kk))), (2, .int (nI (nn))), (3, .int (nI (pr))), (4, .int (nI ((mst ct od bf nn pr t).1 + 1))), (5, .int (nI ((mst ct od bf nn pr t).2 + 0)))]) [4, 5, 6, 7, 1, 0] rfl ?_
              have hsy : sym ct od bf nn pr (mst ct od bf nn pr t) = true := decide_eq_true ⟨by omega, fun q9 => by omega⟩
              have hg := ih (96 - (t + 1)) (by omega) (t + 1) rfl (by omega)
              rw [mst_s hsy, rwp_s hsy, rwm_s hsy] at hg
              exact hg
set_option maxHeartbeats 4000000 in
set_option maxRecDepth 100000 in
theorem l_M_cp {p : Program} {l : Launch} {e : Env} {s : State} {m : MethodId} {args : Array Value} {below : List Frame} {meth : Method} {c : Code} {Q : State → Prop} {A : Nat → Prop} {D : va_G} {cs : ClassId × ClassId × ClassId × ClassId} (C : CX p s m args c c_M_pack 9 RM D cs A) (w w1 w2 w3 w4 w5 w6 w7 w8 w9 wa wb wd : Nat) (cd ru wt rd : Nat) (va : Int64) (ct : Nat → Nat) (od : Nat → Nat) (rw : Nat → Int32) (sz : Nat → Nat) (sm : Nat → Nat) (bf : Nat → Nat) (kk nn pr z9 : Nat) (hkk : kk < 16) (hz9 : z9 ≤ 96) (hsz : sz kk = z9)
    (K : GO p l e { frames := 0, cells := 0, slots := 0, locals := 0 } s m args below meth c 0 0 Q A D 9 246 [(0, .ref w)] [] [(w, .inr (4, [.int (nI (0)), .int (nI (ru)), .ref w1, .ref w2, .ref w3, .ref w4, .ref w5, .ref w6, .int (nI (wt)), .int (nI (rd)), .long (va), .ref w7, .ref w8, .ref w9, .ref wa, .ref wb, .ref wd])), (w1, .inl (cs.2.1, 48, .inr (.inl (fun j => lN (ct j))))), (w7, .inl (cs.1, 48, .inl (fun j => nI (od j)))), (w8, .inl (cs.1, 1536, .inl (rw))), (w9, .inl (cs.1, 16, .inl (fun j => nI (sz j)))), (wa, .inl (cs.2.1, 96, .inr (.inl (fun j => lN (sm j))))), (wb, .inl (cs.2.1, 96, .inr (.inl (fun j => lN ((cpb bf sm z9) j)))))])
    : ∀ (n : Nat) (i : Nat), 96 - i = n → (i ≤ z9) → GO p l e { frames := 0, cells := 0, slots := 0, locals := 0 } s m args below meth c 0 0 Q A D 9 215 [(0, .ref w), (1, .int (nI (kk))), (2, .int (nI (nn))), (3, .int (nI (pr))), (6, .int (nI (i)))] [] [(w, .inr (4, [.int (nI (0)), .int (nI (ru)), .ref w1, .ref w2, .ref w3, .ref w4, .ref w5, .ref w6, .int (nI (wt)), .int (nI (rd)), .long (va), .ref w7, .ref w8, .ref w9, .ref wa, .ref wb, .ref wd])), (w1, .inl (cs.2.1, 48, .inr (.inl (fun j => lN (ct j))))), (w7, .inl (cs.1, 48, .inl (fun j => nI (od j)))), (w8, .inl (cs.1, 1536, .inl (rw))), (w9, .inl (cs.1, 16, .inl (fun j => nI (sz j)))), (wa, .inl (cs.2.1, 96, .inr (.inl (fun j => lN (sm j))))), (wb, .inl (cs.2.1, 96, .inr (.inl (fun j => lN ((cpb bf sm i) j)))))] := by
  intro n
  induction n using Nat.strongRecOn with
  | _ n ih =>
  intro i  hn hi
  refine g_iload C d_M_pack_215 4 rfl ?_
  refine g_aload_n C d_M_pack_217 0 rfl rfl ?_
  refine g_get C (T := FM) (N := 17) 0 13 inM rfl rfl (by decide) tw_449 rfl rfl d_M_pack_218 ?_
  refine g_iload_n C d_M_pack_221 1 rfl rfl ?_
  refine g_iald C 4 rfl (by omega) (by decide) d_M_pack_222 ?_
  refine n_icmp_ge C 246 d_M_pack_223 (by decide) (by omega) (by omega) (fun h223 => ?_) (fun h223 => ?_)
  · refine g_lv (lv' := [(0, .ref w)]) [0] rfl ?_
    have e9 : i = z9 := by omega
    subst e9
    exact K
  · refine g_aload_n C d_M_pack_226 0 rfl rfl ?_
    refine g_get C (T := FM) (N := 17) 0 15 inM rfl rfl (by decide) tw_451 rfl rfl d_M_pack_227 ?_
    refine g_iload C d_M_pack_230 4 rfl ?_
    refine g_aload_n C d_M_pack_232 0 rfl rfl ?_
    refine g_get C (T := FM) (N := 17) 0 14 inM rfl rfl (by decide) tw_450 rfl rfl d_M_pack_233 ?_
    refine g_iload C d_M_pack_236 4 rfl ?_
    refine g_lald C 5 rfl (by omega) (by decide) d_M_pack_238 ?_
    refine n_last C (ws' := [(w, .inr (4, [.int (nI (0)), .int (nI (ru)), .ref w1, .ref w2, .ref w3, .ref w4, .ref w5, .ref w6, .int (nI (wt)), .int (nI (rd)), .long (va), .ref w7, .ref w8, .ref w9, .ref wa, .ref wb, .ref wd])), (w1, .inl (cs.2.1, 48, .inr (.inl (fun j => lN (ct j))))), (w7, .inl (cs.1, 48, .inl (fun j => nI (od j)))), (w8, .inl (cs.1, 1536, .inl (rw))), (w9, .inl (cs.1, 16, .inl (fun j => nI (sz j)))), (wa, .inl (cs.2.1, 96, .inr (.inl (fun j => lN (sm j))))), (wb, .inl (cs.2.1, 96, .inr (.inl (fun j => lN ((updN ((cpb bf sm i)) (i) (sm (i))) j)))))]) 6 rfl (by omega) (by decide) rfl d_M_pack_239 ?_
    refine g_iinc C (lv' := [(6, .int (nI (i + 1))), (0, .ref w), (1, .int (nI (kk))), (2, .int (nI (nn))), (3, .int (nI (pr)))]) (k := 4) d_M_pack_240 rfl (nI_1 _) (by decide) rfl ?_
    refine g_goto C 215 d_M_pack_243 (by decide) ?_
    refine g_ws (ws' := [(w, .inr (4, [.int (nI (0)), .int (nI (ru)), .ref w1, .ref w2, .ref w3, .ref w4, .ref w5, .ref w6, .int (nI (wt)), .int (nI (rd)), .long (va), .ref w7, .ref w8, .ref w9, .ref wa, .ref wb, .ref wd])), (w1, .inl (cs.2.1, 48, .inr (.inl (fun j => lN (ct j))))), (w7, .inl (cs.1, 48, .inl (fun j => nI (od j)))), (w8, .inl (cs.1, 1536, .inl (rw))), (w9, .inl (cs.1, 16, .inl (fun j => nI (sz j)))), (wa, .inl (cs.2.1, 96, .inr (.inl (fun j => lN (sm j))))), (wb, .inl (cs.2.1, 96, .inr (.inl (fun j => lN ((cpb bf sm (i + 1)) j)))))]) (by rw [cpb_up]) ?_
    refine g_lv (lv' := [(0, .ref w), (1, .int (nI (kk))), (2, .int (nI (nn))), (3, .int (nI (pr))), (6, .int (nI (i + 1)))]) [1, 2, 3, 4, 0] rfl ?_
    exact ih (96 - (i + 1)) (by omega) (i + 1) rfl (by omega)
set_option maxHeartbeats 4000000 in
set_option maxRecDepth 100000 in
theorem m_M_pack (l : Launch) (D : va_G) (cs : ClassId × ClassId × ClassId × ClassId) (w w1 w2 w3 w4 w5 w6 w7 w8 w9 wa wb wd : Nat) (cd ru wt rd : Nat) (va : Int64) (ct : Nat → Nat) (od : Nat → Nat) (rw : Nat → Int32) (sz : Nat → Nat) (sm : Nat → Nat) (bf : Nat → Nat) (kk nn pr : Nat) (hpe : pr = (if kk = 0 then 0 else sz (kk - 1) / 2)) (hsz : kk ≠ 0 → sz (kk - 1) ≤ 96) (hnn : nn ≤ 48) (hpr : pr ≤ 48) (hkk : kk < 16) (hct : ∀ j, j < 48 → ct j ≤ 1000000000) (hod : ∀ j, j < nn → od j < 48) (hbf : ∀ j, j < 2 * pr → bf j < 2 ^ 60) : MG l y_M_pack k_M_pack { frames := 0, cells := 0, slots := 0, locals := 0 } D cs [.ref w, .int (nI (kk)), .int (nI (nn))] [(w, .inr (4, [.int (nI (0)), .int (nI (ru)), .ref w1, .ref w2, .ref w3, .ref w4, .ref w5, .ref w6, .int (nI (wt)), .int (nI (rd)), .long (va), .ref w7, .ref w8, .ref w9, .ref wa, .ref wb, .ref wd])), (w1, .inl (cs.2.1, 48, .inr (.inl (fun j => lN (ct j))))), (w7, .inl (cs.1, 48, .inl (fun j => nI (od j)))), (w8, .inl (cs.1, 1536, .inl (rw))), (w9, .inl (cs.1, 16, .inl (fun j => nI (sz j)))), (wa, .inl (cs.2.1, 96, .inr (.inl (fun j => lN (sm j))))), (wb, .inl (cs.2.1, 96, .inr (.inl (fun j => lN (bf j)))))] (QV D [(w, .inr (4, [.int (nI (0)), .int (nI (ru)), .ref w1, .ref w2, .ref w3, .ref w4, .ref w5, .ref w6, .int (nI (wt)), .int (nI (rd)), .long (va), .ref w7, .ref w8, .ref w9, .ref wa, .ref wb, .ref wd])), (w1, .inl (cs.2.1, 48, .inr (.inl (fun j => lN (ct j))))), (w7, .inl (cs.1, 48, .inl (fun j => nI (od j)))), (w8, .inl (cs.1, 1536, .inl ((rwm ct od bf nn pr kk rw (nn + pr))))), (w9, .inl (cs.1, 16, .inl (fun j => nI ((updN (sz) (kk) (nn + pr)) j)))), (wa, .inl (cs.2.1, 96, .inr (.inl (fun j => lN ((rwp ct od bf nn pr sm (nn + pr)) j))))), (wb, .inl (cs.2.1, 96, .inr (.inl (fun j => lN ((cpb bf (rwp ct od bf nn pr sm (nn + pr)) (nn + pr)) j)))))]) := by
  refine MG.mk (own := RM) (by decide) rfl (Nat.le_of_ble_eq_true rfl) ?_
  intro p e s m below meth c A C hr hlk
  refine g_lv (lv' := [(0, .ref w), (1, .int (nI (kk))), (2, .int (nI (nn)))]) [0, 1, 2] rfl ?_
  refine g_iload_n C d_M_pack_0 1 rfl rfl ?_
  refine n_if_ne C 8 d_M_pack_1 (by decide) (by omega) (fun h1 => ?_) (fun h1 => ?_)
  · refine g_aload_n C d_M_pack_8 0 rfl rfl ?_
    refine g_get C (T := FM) (N := 17) 0 13 inM rfl rfl (by decide) tw_449 rfl rfl d_M_pack_9 ?_
    refine g_iload_n C d_M_pack_12 1 rfl rfl ?_
    refine g_iconst C (v := nI 1) d_M_pack_13 rfl ?_
    refine g_isub C (v := nI (kk - 1)) d_M_pack_14 (pk_sub (by omega)) ?_
    refine g_iald C 4 rfl (by omega) (by decide) d_M_pack_15 ?_
    refine g_iconst C (v := nI 2) d_M_pack_16 rfl ?_
    refine g_idiv C (v := nI (sz (kk - 1) / 2)) d_M_pack_17 (nI_ne0 (n := 2) (by omega) (by omega)) (pk_div (d := 2) (by have := hsz (by omega); omega) (by omega) (by omega)) ?_
    refine g_toi (v := nI (pr)) (congrArg nI (by rw [hpe]; first | rw [if_pos (by assumption)] | rw [if_neg (by omega)])) ?_
    refine g_istore_n C (lv' := [(3, .int (nI (pr))), (0, .ref w), (1, .int (nI (kk))), (2, .int (nI (nn)))]) d_M_pack_18 rfl (by decide) rfl ?_
    refine g_iconst C (v := nI 0) d_M_pack_19 rfl ?_
    refine g_istore C (lv' := [(4, .int (nI (0))), (3, .int (nI (pr))), (0, .ref w), (1, .int (nI (kk))), (2, .int (nI (nn)))]) d_M_pack_20 (by decide) rfl ?_
    refine g_iconst C (v := nI 0) d_M_pack_22 rfl ?_
    refine g_istore C (lv' := [(5, .int (nI (0))), (4, .int (nI (0))), (3, .int (nI (pr))), (0, .ref w), (1, .int (nI (kk))), (2, .int (nI (nn)))]) d_M_pack_23 (by decide) rfl ?_
    refine g_lv (lv' := [(0, .ref w), (1, .int (nI (kk))), (2, .int (nI (nn))), (3, .int (nI (pr))), (4, .int (nI (0))), (5, .int (nI (0)))]) [3, 4, 5, 2, 1, 0] rfl ?_
    refine l_M_pk C w w1 w2 w3 w4 w5 w6 w7 w8 w9 wa wb wd 0 ru wt rd va ct od rw sz sm bf kk nn pr hnn hpr hkk hct hod hbf ?_ _ 0 rfl (by omega)
    refine g_aload_n C d_M_pack_203 0 rfl rfl ?_
    refine g_get C (T := FM) (N := 17) 0 13 inM rfl rfl (by decide) tw_449 rfl rfl d_M_pack_204 ?_
    refine g_iload_n C d_M_pack_207 1 rfl rfl ?_
    refine g_iload_n C d_M_pack_208 2 rfl rfl ?_
    refine g_iload_n C d_M_pack_209 3 rfl rfl ?_
    refine g_iadd C (v := nI (nn + pr)) d_M_pack_210 (nI_add _ _) ?_
    refine n_iast C (ws' := [(w, .inr (4, [.int (nI (0)), .int (nI (ru)), .ref w1, .ref w2, .ref w3, .ref w4, .ref w5, .ref w6, .int (nI (wt)), .int (nI (rd)), .long (va), .ref w7, .ref w8, .ref w9, .ref wa, .ref wb, .ref wd])), (w1, .inl (cs.2.1, 48, .inr (.inl (fun j => lN (ct j))))), (w7, .inl (cs.1, 48, .inl (fun j => nI (od j)))), (w8, .inl (cs.1, 1536, .inl ((rwm ct od bf nn pr kk rw (nn + pr))))), (w9, .inl (cs.1, 16, .inl (fun j => nI ((updN (sz) (kk) (nn + pr)) j)))), (wa, .inl (cs.2.1, 96, .inr (.inl (fun j => lN ((rwp ct od bf nn pr sm (nn + pr)) j))))), (wb, .inl (cs.2.1, 96, .inr (.inl (fun j => lN (bf j)))))]) 4 rfl (by omega) (by decide) rfl d_M_pack_211 ?_
    refine g_iconst C (v := nI 0) d_M_pack_212 rfl ?_
    refine g_istore C (lv' := [(6, .int (nI (0))), (0, .ref w), (1, .int (nI (kk))), (2, .int (nI (nn))), (3, .int (nI (pr)))]) d_M_pack_213 (by decide) rfl ?_
    refine g_ws (ws' := [(w, .inr (4, [.int (nI (0)), .int (nI (ru)), .ref w1, .ref w2, .ref w3, .ref w4, .ref w5, .ref w6, .int (nI (wt)), .int (nI (rd)), .long (va), .ref w7, .ref w8, .ref w9, .ref wa, .ref wb, .ref wd])), (w1, .inl (cs.2.1, 48, .inr (.inl (fun j => lN (ct j))))), (w7, .inl (cs.1, 48, .inl (fun j => nI (od j)))), (w8, .inl (cs.1, 1536, .inl ((rwm ct od bf nn pr kk rw (nn + pr))))), (w9, .inl (cs.1, 16, .inl (fun j => nI ((updN (sz) (kk) (nn + pr)) j)))), (wa, .inl (cs.2.1, 96, .inr (.inl (fun j => lN ((rwp ct od bf nn pr sm (nn + pr)) j))))), (wb, .inl (cs.2.1, 96, .inr (.inl (fun j => lN ((cpb bf (rwp ct od bf nn pr sm (nn + pr)) 0) j)))))]) (by rw [cpb_0]) ?_
    refine g_lv (lv' := [(0, .ref w), (1, .int (nI (kk))), (2, .int (nI (nn))), (3, .int (nI (pr))), (6, .int (nI (0)))]) [1, 2, 3, 4, 0] rfl ?_
    refine l_M_cp C w w1 w2 w3 w4 w5 w6 w7 w8 w9 wa wb wd 0 ru wt rd va  (ct) (od) ((rwm ct od bf nn pr kk rw (nn + pr))) ((updN (sz) (kk) (nn + pr))) ((rwp ct od bf nn pr sm (nn + pr))) (bf) kk nn pr (nn + pr) hkk (by omega) (updN_s) ?_ _ 0 rfl (by omega)
    exact g_vret C hr hlk rfl d_M_pack_246
  · refine g_iconst C (v := nI 0) d_M_pack_4 rfl ?_
    refine g_goto C 18 d_M_pack_5 (by decide) ?_
    refine g_toi (v := nI (pr)) (congrArg nI (by rw [hpe]; first | rw [if_pos (by assumption)] | rw [if_neg (by omega)])) ?_
    refine g_istore_n C (lv' := [(3, .int (nI (pr))), (0, .ref w), (1, .int (nI (kk))), (2, .int (nI (nn)))]) d_M_pack_18 rfl (by decide) rfl ?_
    refine g_iconst C (v := nI 0) d_M_pack_19 rfl ?_
    refine g_istore C (lv' := [(4, .int (nI (0))), (3, .int (nI (pr))), (0, .ref w), (1, .int (nI (kk))), (2, .int (nI (nn)))]) d_M_pack_20 (by decide) rfl ?_
    refine g_iconst C (v := nI 0) d_M_pack_22 rfl ?_
    refine g_istore C (lv' := [(5, .int (nI (0))), (4, .int (nI (0))), (3, .int (nI (pr))), (0, .ref w), (1, .int (nI (kk))), (2, .int (nI (nn)))]) d_M_pack_23 (by decide) rfl ?_
    refine g_lv (lv' := [(0, .ref w), (1, .int (nI (kk))), (2, .int (nI (nn))), (3, .int (nI (pr))), (4, .int (nI (0))), (5, .int (nI (0)))]) [3, 4, 5, 2, 1, 0] rfl ?_
    refine l_M_pk C w w1 w2 w3 w4 w5 w6 w7 w8 w9 wa wb wd 0 ru wt rd va ct od rw sz sm bf kk nn pr hnn hpr hkk hct hod hbf ?_ _ 0 rfl (by omega)
    refine g_aload_n C d_M_pack_203 0 rfl rfl ?_
    refine g_get C (T := FM) (N := 17) 0 13 inM rfl rfl (by decide) tw_449 rfl rfl d_M_pack_204 ?_
    refine g_iload_n C d_M_pack_207 1 rfl rfl ?_
    refine g_iload_n C d_M_pack_208 2 rfl rfl ?_
    refine g_iload_n C d_M_pack_209 3 rfl rfl ?_
    refine g_iadd C (v := nI (nn + pr)) d_M_pack_210 (nI_add _ _) ?_
    refine n_iast C (ws' := [(w, .inr (4, [.int (nI (0)), .int (nI (ru)), .ref w1, .ref w2, .ref w3, .ref w4, .ref w5, .ref w6, .int (nI (wt)), .int (nI (rd)), .long (va), .ref w7, .ref w8, .ref w9, .ref wa, .ref wb, .ref wd])), (w1, .inl (cs.2.1, 48, .inr (.inl (fun j => lN (ct j))))), (w7, .inl (cs.1, 48, .inl (fun j => nI (od j)))), (w8, .inl (cs.1, 1536, .inl ((rwm ct od bf nn pr kk rw (nn + pr))))), (w9, .inl (cs.1, 16, .inl (fun j => nI ((updN (sz) (kk) (nn + pr)) j)))), (wa, .inl (cs.2.1, 96, .inr (.inl (fun j => lN ((rwp ct od bf nn pr sm (nn + pr)) j))))), (wb, .inl (cs.2.1, 96, .inr (.inl (fun j => lN (bf j)))))]) 4 rfl (by omega) (by decide) rfl d_M_pack_211 ?_
    refine g_iconst C (v := nI 0) d_M_pack_212 rfl ?_
    refine g_istore C (lv' := [(6, .int (nI (0))), (0, .ref w), (1, .int (nI (kk))), (2, .int (nI (nn))), (3, .int (nI (pr)))]) d_M_pack_213 (by decide) rfl ?_
    refine g_ws (ws' := [(w, .inr (4, [.int (nI (0)), .int (nI (ru)), .ref w1, .ref w2, .ref w3, .ref w4, .ref w5, .ref w6, .int (nI (wt)), .int (nI (rd)), .long (va), .ref w7, .ref w8, .ref w9, .ref wa, .ref wb, .ref wd])), (w1, .inl (cs.2.1, 48, .inr (.inl (fun j => lN (ct j))))), (w7, .inl (cs.1, 48, .inl (fun j => nI (od j)))), (w8, .inl (cs.1, 1536, .inl ((rwm ct od bf nn pr kk rw (nn + pr))))), (w9, .inl (cs.1, 16, .inl (fun j => nI ((updN (sz) (kk) (nn + pr)) j)))), (wa, .inl (cs.2.1, 96, .inr (.inl (fun j => lN ((rwp ct od bf nn pr sm (nn + pr)) j))))), (wb, .inl (cs.2.1, 96, .inr (.inl (fun j => lN ((cpb bf (rwp ct od bf nn pr sm (nn + pr)) 0) j)))))]) (by rw [cpb_0]) ?_
    refine g_lv (lv' := [(0, .ref w), (1, .int (nI (kk))), (2, .int (nI (nn))), (3, .int (nI (pr))), (6, .int (nI (0)))]) [1, 2, 3, 4, 0] rfl ?_
    refine l_M_cp C w w1 w2 w3 w4 w5 w6 w7 w8 w9 wa wb wd 0 ru wt rd va  (ct) (od) ((rwm ct od bf nn pr kk rw (nn + pr))) ((updN (sz) (kk) (nn + pr))) ((rwp ct od bf nn pr sm (nn + pr))) (bf) kk nn pr (nn + pr) hkk (by omega) (updN_s) ?_ _ 0 rfl (by omega)
    exact g_vret C hr hlk rfl d_M_pack_246
