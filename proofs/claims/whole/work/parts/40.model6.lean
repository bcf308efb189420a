/-- the next code of a length, as symbol sq is come to -/
def cx (ru : Nat) (ln : Nat → Nat) (lq sq : Nat) : Nat := stc ru (shr ln 48) lq + shr ln sq lq
/-- divided by 2 ^ d, rounded up -/
def cl (x d : Nat) : Nat := (x + (2 ^ d - 1)) / 2 ^ d
theorem cl_eq (x d : Nat) : x / 2 ^ d + (if 0 < x % 2 ^ d then 1 else 0) = cl x d := by
  unfold cl
  have hD := Nat.two_pow_pos d
  generalize 2 ^ d = D at hD ⊢
  have e := Nat.div_add_mod x D
  have hr := Nat.mod_lt x hD
  split
  · have : x + (D - 1) = (x % D - 1) + D * (x / D + 1) := by rw [Nat.mul_add, Nat.mul_one]; omega
    rw [this, Nat.add_mul_div_left _ _ hD, Nat.div_eq_of_lt (show x % D - 1 < D by omega)]; omega
  · have : x + (D - 1) = (D - 1) + D * (x / D) := by omega
    rw [this, Nat.add_mul_div_left _ _ hD, Nat.div_eq_of_lt (show D - 1 < D by omega)]; omega
theorem cl_half (x d : Nat) : (cl x d + 1) / 2 = cl x (d + 1) := by
  unfold cl
  have hD := Nat.two_pow_pos d
  rw [Nat.pow_succ]
  generalize 2 ^ d = D at hD ⊢
  rw [← Nat.add_div_right _ hD, Nat.div_div_eq_div_mul]
  congr 1; omega
theorem cl_0 (x : Nat) : cl x 0 = x := by unfold cl; simp
/-- what holds between codes: none was given, or the last one, nx, of length la -/
def cinv (ru : Nat) (ln : Nat → Nat) (lq sq la nx : Nat) : Prop :=
  (la = 0 ∧ cx ru ln lq sq = 0) ∨ (0 < la ∧ la ≤ 16 ∧ nx < 70000 ∧ (ru ≠ 2 → la ≤ lq ∧ (nx + 1) * 2 ^ (lq - la) = cx ru ln lq sq) ∧ (ru = 2 → lq ≤ la ∧ cl (nx + 1) (la - lq) = cx ru ln lq sq))
theorem cx_s {ru : Nat} {ln : Nat → Nat} {lq sq : Nat} (h : ln sq = lq) : cx ru ln lq (sq + 1) = cx ru ln lq sq + 1 := by
  unfold cx; rw [shr, if_pos h]; omega
theorem cx_n {ru : Nat} {ln : Nat → Nat} {lq sq : Nat} (h : ln sq ≠ lq) : cx ru ln lq (sq + 1) = cx ru ln lq sq := by
  unfold cx; rw [shr, if_neg h]; omega
theorem cx_S {ru : Nat} {ln : Nat → Nat} {k : Nat} (hr : ru ≠ 2) (hk : 1 ≤ k) : cx ru ln (k + 1) 0 = 2 * cx ru ln k 48 := by
  unfold cx stc
  rw [if_neg hr, if_neg hr, Nat.add_sub_cancel]
  obtain ⟨j, rfl⟩ : ∃ j, k = j + 1 := ⟨k - 1, by omega⟩
  rw [Nat.add_sub_cancel, cbS]
  show 2 * _ + 0 = _
  omega
theorem cx_L {ru : Nat} {ln : Nat → Nat} {k : Nat} (hr : ru = 2) (hk : 1 ≤ k) (hk2 : k ≤ 15) : cx ru ln k 0 = (cx ru ln (k + 1) 48 + 1) / 2 := by
  unfold cx stc
  rw [if_pos hr, if_pos hr]
  show _ + 0 = _
  rw [show 16 - k = (16 - (k + 1)) + 1 by omega, cbL, show 16 - (16 - (k + 1)) = k + 1 by omega]
  omega
theorem cx_bS {ru : Nat} {ln : Nat → Nat} (hf : fll ln ≤ 65536) (hr : ru ≠ 2) {lq sq : Nat} (h1 : 1 ≤ lq) (h2 : lq ≤ 16) (hs : sq ≤ 48) : cx ru ln lq sq ≤ 2 ^ lq := by
  have h3 := kraftS (sn := shr ln 48) hf h2
  have h4 := shr_mono ln lq hs
  unfold cx stc
  rw [if_neg hr]
  obtain ⟨j, rfl⟩ : ∃ j, lq = j + 1 := ⟨lq - 1, by omega⟩
  rw [cbS] at h3
  rw [Nat.add_sub_cancel]; omega
theorem cx_b {ru : Nat} {ln : Nat → Nat} (hf : fll ln ≤ 65536) {lq sq : Nat} (h1 : 1 ≤ lq) (h2 : lq ≤ 16) (hs : sq ≤ 48) : cx ru ln lq sq ≤ 65536 := by
  by_cases hr : ru = 2
  · have h3 := cbL_le (sn := shr ln 48) (fun j => shr_le ln j 48) (16 - lq)
    have h4 := shr_le ln lq sq
    unfold cx stc; rw [if_pos hr]; omega
  · have h3 := cx_bS hf hr h1 h2 hs
    have h4 : 2 ^ lq ≤ 2 ^ 16 := Nat.pow_le_pow_right (by omega) h2
    omega
def lk (ru k : Nat) : Nat := if ru = 2 then 17 - k else k
theorem lk_r {ru k : Nat} (h : 1 ≤ k) (h2 : k ≤ 16) : 1 ≤ lk ru k ∧ lk ru k ≤ 16 := by unfold lk; split <;> omega
theorem cinv_k {ru : Nat} {ln : Nat → Nat} {k la nx : Nat} (h1 : 1 ≤ k) (h2 : k ≤ 15) (h : cinv ru ln (lk ru k) 48 la nx) : cinv ru ln (lk ru (k + 1)) 0 la nx := by
  unfold lk at *
  rcases h with ⟨a, b⟩ | ⟨a, b, b2, c, d⟩
  · refine Or.inl ⟨a, ?_⟩
    by_cases hr : ru = 2
    · rw [if_pos hr] at b ⊢
      rw [show 17 - k = 17 - (k + 1) + 1 by omega] at b
      rw [cx_L hr (by omega) (by omega), b]
    · rw [if_neg hr] at b ⊢
      rw [cx_S hr h1, b]
  · refine Or.inr ⟨a, b, b2, fun hr => ?_, fun hr => ?_⟩
    · rw [if_neg hr] at c ⊢
      have := c hr
      refine ⟨by omega, ?_⟩
      rw [cx_S hr h1, ← this.2, show k + 1 - la = (k - la) + 1 by omega, Nat.pow_succ, ← Nat.mul_assoc, Nat.mul_comm]
    · rw [if_pos hr] at d ⊢
      have := d hr
      refine ⟨by omega, ?_⟩
      rw [cx_L hr (by omega) (by omega), show 17 - (k + 1) + 1 = 17 - k by omega, ← this.2, cl_half]
      congr 1; omega
theorem cinv_n {ru : Nat} {ln : Nat → Nat} {lq sq la nx : Nat} (hn : ln sq ≠ lq) (h : cinv ru ln lq sq la nx) : cinv ru ln lq (sq + 1) la nx := by
  unfold cinv at *; rw [cx_n hn]; exact h
theorem cinv_s {ru : Nat} {ln : Nat → Nat} {lq sq : Nat} (h1 : 1 ≤ lq) (h2 : lq ≤ 16) (hn : ln sq = lq) (hb : cx ru ln lq sq < 70000) : cinv ru ln lq (sq + 1) lq (cx ru ln lq sq) := by
  refine Or.inr ⟨h1, h2, hb, fun _ => ⟨Nat.le_refl _, ?_⟩, fun _ => ⟨Nat.le_refl _, ?_⟩⟩
  · rw [Nat.sub_self, Nat.pow_zero, Nat.mul_one, cx_s hn]
  · rw [Nat.sub_self, cl_0, cx_s hn]
theorem cinv_0 {ru : Nat} {ln : Nat → Nat} : cinv ru ln (lk ru 1) 0 0 0 := by
  refine Or.inl ⟨rfl, ?_⟩
  unfold lk cx stc
  by_cases hr : ru = 2
  · rw [if_pos hr, if_pos hr]; show (0 + 1) / 2 + 0 = 0; rfl
  · rw [if_neg hr, if_neg hr]; show 2 * 0 + 0 = 0; rfl
/-- the code of a symbol -/
def cdX (ru : Nat) (ln : Nat → Nat) (j : Nat) : Nat := if ru = 1 then 2 ^ (ln j) - 1 - cx ru ln (ln j) j else cx ru ln (ln j) j
/-- codes as far as length number k and symbol sq -/
def cdP (ru : Nat) (ln co : Nat → Nat) (k sq : Nat) : Nat → Nat := fun j => if j < 48 ∧ 0 < ln j ∧ (lk ru (ln j) < k ∨ (lk ru (ln j) = k ∧ j < sq)) then cdX ru ln j else co j
theorem lk_lk {ru a k : Nat} (h : a ≤ 16) (hk : k ≤ 16) : lk ru a = k ↔ a = lk ru k := by unfold lk; (repeat' split) <;> omega
theorem cdP_s {ru : Nat} {ln co : Nat → Nat} {k sq : Nat} (hk : k ≤ 16) (hk0 : 1 ≤ k) (hs : sq < 48) (h : ln sq = lk ru k) : updN (cdP ru ln co k sq) sq (cdX ru ln sq) = cdP ru ln co k (sq + 1) := by
  have h2 := lk_r (ru := ru) hk0 hk
  funext j
  unfold updN cdP
  by_cases e : j = sq
  · subst e
    have := (lk_lk (ru := ru) (a := ln j) (k := k) (by omega) hk).mpr h
    rw [if_pos rfl, if_pos ⟨hs, by omega, Or.inr ⟨this, by omega⟩⟩]
  · simp only [e, if_false]
    have : (lk ru (ln j) = k ∧ j < sq) ↔ (lk ru (ln j) = k ∧ j < sq + 1) := by omega
    simp only [this]
theorem cdP_n {ru : Nat} {ln co : Nat → Nat} {k sq : Nat} (hk : k ≤ 16) (hl : ∀ j, j < 48 → ln j ≤ 16) (hs : sq < 48) (h : ln sq ≠ lk ru k) : cdP ru ln co k sq = cdP ru ln co k (sq + 1) := by
  funext j
  unfold cdP
  have : (lk ru (ln j) = k ∧ j < sq) ↔ (lk ru (ln j) = k ∧ j < sq + 1) := by
    constructor
    · intro q; omega
    · intro q
      refine ⟨q.1, ?_⟩
      rcases Nat.lt_or_ge j sq with q2 | q2
      · exact q2
      · have e : j = sq := by omega
        subst e
        exact absurd ((lk_lk (hl j hs) hk).mp q.1) h
  simp only [this]
theorem cdP_k {ru : Nat} {ln co : Nat → Nat} {k : Nat} : cdP ru ln co k 48 = cdP ru ln co (k + 1) 0 := by
  funext j
  unfold cdP
  have : (j < 48 ∧ 0 < ln j ∧ (lk ru (ln j) < k ∨ (lk ru (ln j) = k ∧ j < 48))) ↔ (j < 48 ∧ 0 < ln j ∧ (lk ru (ln j) < k + 1 ∨ (lk ru (ln j) = k + 1 ∧ j < 0))) := by omega
  simp only [this]
theorem cdP_1 {ru : Nat} {ln co : Nat → Nat} (hl : ∀ j, j < 48 → ln j ≤ 16) : cdP ru ln co 1 0 = co := by
  funext j
  unfold cdP
  rw [if_neg]
  intro q
  have := lk_r (ru := ru) q.2.1 (hl j q.1)
  omega
theorem cdP_17 {ru : Nat} {ln co : Nat → Nat} (hl : ∀ j, j < 48 → ln j ≤ 16) : cdP ru ln co 17 0 = cdG (stc ru (shr ln 48)) ln co ru 48 := by
  funext j
  unfold cdP cdG cdX cx
  by_cases q : j < 48 ∧ 0 < ln j
  · have := lk_r (ru := ru) q.2 (hl j q.1)
    rw [if_pos q, if_pos ⟨q.1, q.2, Or.inl (by omega)⟩]
  · rw [if_neg q, if_neg (fun q2 => q ⟨q2.1, q2.2.1⟩)]
theorem n_inv {a d : Nat} (hd : d ≤ 16) (h : a < 2 ^ d) : (nI a ^^^ (-1)) &&& nI (2 ^ d - 1) = nI (2 ^ d - 1 - a) := by
  have hp : 2 ^ d ≤ 2 ^ 16 := Nat.pow_le_pow_right (by omega) hd
  rw [pk_and _ d (n_m d (by omega))]
  congr 1
  have e1 : (nI a ^^^ (-1)).toBitVec.toNat = 2 ^ 32 - 1 - a := by
    have : (nI a ^^^ (-1)).toBitVec = ~~~ (BitVec.ofNat 32 a) := by
      show (BitVec.ofNat 32 a) ^^^ (BitVec.allOnes 32) = _
      rw [BitVec.xor_allOnes]
    rw [this, BitVec.toNat_not, BitVec.toNat_ofNat, Nat.mod_eq_of_lt (by omega)]
  rw [e1]
  have hq : 2 ^ 32 = 2 ^ d * 2 ^ (32 - d) := by rw [← Nat.pow_add]; congr 1; omega
  have h3 := Nat.two_pow_pos (32 - d)
  have : 2 ^ 32 - 1 - a = (2 ^ d - 1 - a) + 2 ^ d * (2 ^ (32 - d) - 1) := by
    rw [Nat.mul_sub, ← hq, Nat.mul_one]
    have : 2 ^ d ≤ 2 ^ 32 := Nat.pow_le_pow_right (by omega) (by omega)
    omega
  rw [this, Nat.add_mul_mod_self_left, Nat.mod_eq_of_lt (by omega)]

set_option maxHeartbeats 4000000 in
set_option maxRecDepth 100000 in
theorem l_M_ci {p : Program} {l : Launch} {e : Env} {s : State} {m : MethodId} {args : Array Value} {below : List Frame} {meth : Method} {c : Code} {Q : State → Prop} {A : Nat → Prop} {D : va_G} {cs : ClassId × ClassId × ClassId × ClassId} (C : CX p s m args c c_M_makeCodes 7 RM D cs A) (w w1 w2 w3 w4 w5 w6 w7 w8 w9 wa wb wd : Nat) (cd ru wt rd : Nat) (va : Int64) (ln : Nat → Nat) (co : Nat → Nat) (kq lq : Nat) (hl : ∀ j, j < 48 → ln j ≤ 16) (hf : fll ln ≤ 65536) (hru : ru < 3) (h1k : 1 ≤ kq) (hkq : kq ≤ 16) (hlk9 : lq = lk ru kq) (h1l : 1 ≤ lq) (h2l : lq ≤ 16)
    (K : ∀ la nx : Nat, cinv ru ln lq 48 la nx → GO p l e { frames := 0, cells := 0, slots := 0, locals := 0 } s m args below meth c 0 0 Q A D 7 152 [(0, .ref w), (1, .int (nI (la))), (2, .int (nI (nx))), (3, .int (nI (kq)))] [] [(w, .inr (4, [.int (nI (cd)), .int (nI (ru)), .ref w1, .ref w2, .ref w3, .ref w4, .ref w5, .ref w6, .int (nI (wt)), .int (nI (rd)), .long (va), .ref w7, .ref w8, .ref w9, .ref wa, .ref wb, .ref wd])), (w2, .inl (cs.1, 48, .inl (fun j => nI (ln j)))), (wd, .inl (cs.1, 48, .inl (fun j => nI ((cdP ru ln co kq 48) j))))])
    : ∀ (n : Nat) (sq la nx : Nat), 48 - sq = n → (sq ≤ 48) → (cinv ru ln lq sq la nx) → GO p l e { frames := 0, cells := 0, slots := 0, locals := 0 } s m args below meth c 0 0 Q A D 7 33 [(0, .ref w), (1, .int (nI (la))), (2, .int (nI (nx))), (3, .int (nI (kq))), (4, .int (nI (lq))), (5, .int (nI (sq)))] [] [(w, .inr (4, [.int (nI (cd)), .int (nI (ru)), .ref w1, .ref w2, .ref w3, .ref w4, .ref w5, .ref w6, .int (nI (wt)), .int (nI (rd)), .long (va), .ref w7, .ref w8, .ref w9, .ref wa, .ref wb, .ref wd])), (w2, .inl (cs.1, 48, .inl (fun j => nI (ln j)))), (wd, .inl (cs.1, 48, .inl (fun j => nI ((cdP ru ln co kq sq) j))))] := by
  intro n
  induction n using Nat.strongRecOn with
  | _ n ih =>
  intro sq la nx  hn hi hv
  refine g_iload C d_M_makeCodes_33 5 rfl ?_
  refine g_bipush C (v := nI 48) d_M_makeCodes_35 rfl ?_
  refine n_icmp_ge C 152 d_M_makeCodes_37 (by decide) (by omega) (by omega) (fun h37 => ?_) (fun h37 => ?_)
  · refine g_lv (lv' := [(0, .ref w), (1, .int (nI (la))), (2, .int (nI (nx))), (3, .int (nI (kq)))]) [0, 1, 2, 3] rfl ?_
    have e9 : sq = 48 := by omega
    subst e9
    exact K la nx hv
  · refine g_aload_n C d_M_makeCodes_40 0 rfl rfl ?_
    refine g_get C (T := FM) (N := 17) 0 3 inM rfl rfl (by decide) tw_439 rfl rfl d_M_makeCodes_41 ?_
    refine g_iload C d_M_makeCodes_44 5 rfl ?_
    refine g_iald C 1 rfl (by omega) (by decide) d_M_makeCodes_46 ?_
    refine g_iload C d_M_makeCodes_47 4 rfl ?_
    refine n_icmp_ne C 146 d_M_makeCodes_49 (by decide) (by have := hl sq (by omega); omega) (by omega) (fun h49 => ?_) (fun h49 => ?_)
    · refine g_iinc C (lv' := [(5, .int (nI (sq + 1))), (0, .ref w), (1, .int (nI (la))), (2, .int (nI (nx))), (3, .int (nI (kq))), (4, .int (nI (lq)))]) (k := 5) d_M_makeCodes_146 rfl (nI_1 _) (by decide) rfl ?_
      refine g_goto C 33 d_M_makeCodes_149 (by decide) ?_
      refine g_ws (ws' := [(w, .inr (4, [.int (nI (cd)), .int (nI (ru)), .ref w1, .ref w2, .ref w3, .ref w4, .ref w5, .ref w6, .int (nI (wt)), .int (nI (rd)), .long (va), .ref w7, .ref w8, .ref w9, .ref wa, .ref wb, .ref wd])), (w2, .inl (cs.1, 48, .inl (fun j => nI (ln j)))), (wd, .inl (cs.1, 48, .inl (fun j => nI ((cdP ru ln co kq (sq + 1)) j))))]) (by rw [cdP_n hkq hl (by omega) (by rw [← hlk9]; omega)]) ?_
      refine g_lv (lv' := [(0, .ref w), (1, .int (nI (la))), (2, .int (nI (nx))), (3, .int (nI (kq))), (4, .int (nI (lq))), (5, .int (nI (sq + 1)))]) [1, 2, 3, 4, 5, 0] rfl ?_
      exact ih (48 - (sq + 1)) (by omega) (sq + 1) la nx rfl (by omega) (cinv_n (by omega) hv)
    · refine g_iload_n C d_M_makeCodes_52 1 rfl rfl ?_
      refine n_if_ne C 61 d_M_makeCodes_53 (by decide) (by rcases hv with hv | hv <;> omega) (fun h53 => ?_) (fun h53 => ?_)
      · refine g_aload_n C d_M_makeCodes_61 0 rfl rfl ?_
        refine g_get C (T := FM) (N := 17) 0 1 inM rfl rfl (by decide) tw_437 rfl rfl d_M_makeCodes_62 ?_
        refine g_iconst C (v := nI 2) d_M_makeCodes_65 rfl ?_
        refine n_icmp_ge C 81 d_M_makeCodes_66 (by decide) (by omega) (by omega) (fun h66 => ?_) (fun h66 => ?_)
        · refine g_iinc C (lv' := [(2, .int (nI (nx + 1))), (0, .ref w), (1, .int (nI (la))), (3, .int (nI (kq))), (4, .int (nI (lq))), (5, .int (nI (sq)))]) (k := 2) d_M_makeCodes_81 rfl (nI_1 _) (by decide) rfl ?_
          refine g_iload_n C d_M_makeCodes_84 0 rfl rfl ?_
          refine g_iconst C (v := nI 1) d_M_makeCodes_85 rfl ?_
          refine g_iload_n C d_M_makeCodes_86 2 rfl rfl ?_
          refine g_iload C d_M_makeCodes_87 4 rfl ?_
          refine g_isub C (v := nI (la - lq)) d_M_makeCodes_89 (pk_sub (by rcases hv with hv | hv; omega; exact (hv.2.2.2.2 (by omega)).1)) ?_
          refine g_ishl C (v := nI (2 ^ (la - lq))) d_M_makeCodes_90 ((n_shl ⟨by rcases hv with hv | hv <;> omega, by rcases hv with hv | hv; omega; have : 2 ^ (la - lq) ≤ 2 ^ 16 := Nat.pow_le_pow_right (by omega) (by omega); omega⟩).trans (by rw [Nat.one_mul])) ?_
          refine g_iconst C (v := nI 1) d_M_makeCodes_91 rfl ?_
          refine g_isub C (v := nI (2 ^ (la - lq) - 1)) d_M_makeCodes_92 (pk_sub (Nat.two_pow_pos _)) ?_
          refine g_iand C (v := nI ((nx + 1) % 2 ^ (la - lq))) d_M_makeCodes_93 (pk_andN (by rcases hv with hv | hv <;> omega) _ (n_m _ (by rcases hv with hv | hv <;> omega))) ?_
          refine g_istore C (lv' := [(6, .int (nI ((nx + 1) % 2 ^ (la - lq)))), (2, .int (nI (nx + 1))), (0, .ref w), (1, .int (nI (la))), (3, .int (nI (kq))), (4, .int (nI (lq))), (5, .int (nI (sq)))]) d_M_makeCodes_94 (by decide) rfl ?_
          refine g_iload_n C d_M_makeCodes_96 1 rfl rfl ?_
          refine g_iload_n C d_M_makeCodes_97 3 rfl rfl ?_
          refine g_iload C d_M_makeCodes_98 5 rfl ?_
          refine g_isub C (v := nI (la - lq)) d_M_makeCodes_100 (pk_sub (by rcases hv with hv | hv; omega; exact (hv.2.2.2.2 (by omega)).1)) ?_
          refine g_ishr C (v := nI ((nx + 1) / 2 ^ (la - lq))) d_M_makeCodes_101 (n_shr (by rcases hv with hv | hv <;> omega) (by rcases hv with hv | hv <;> omega)) ?_
          refine g_iload C d_M_makeCodes_102 0 rfl ?_
          refine n_if_le C 111 d_M_makeCodes_104 (by decide) (by have h8 := Nat.mod_le (nx + 1) (2 ^ (la - lq)); rcases hv with hv | hv <;> omega) (fun h104 => ?_) (fun h104 => ?_)
          · refine g_iconst C (v := nI 0) d_M_makeCodes_111 rfl ?_
            refine g_iadd C (v := nI ((nx + 1) / 2 ^ (la - lq) + 0)) d_M_makeCodes_112 (nI_add _ _) ?_
            refine g_istore_n C (lv' := [(2, .int (nI ((nx + 1) / 2 ^ (la - lq) + 0))), (6, .int (nI ((nx + 1) % 2 ^ (la - lq)))), (0, .ref w), (1, .int (nI (la))), (3, .int (nI (kq))), (4, .int (nI (lq))), (5, .int (nI (sq)))]) d_M_makeCodes_113 rfl (by decide) rfl ?_
            have e9 : cx ru ln lq sq = (nx + 1) / 2 ^ (la - lq) + 0 := by rcases hv with hv | hv; omega; rw [← (hv.2.2.2.2 (by omega)).2, ← cl_eq]; first | rw [if_pos (by assumption)] | rw [if_neg (by omega)]
            refine g_lv (lv' := [(0, .ref w), (2, .int (nI (cx ru ln lq sq))), (3, .int (nI (kq))), (4, .int (nI (lq))), (5, .int (nI (sq)))]) [2, 0, 4, 5, 6] (by rw [e9]; rfl) ?_
            have hcb := cx_b (ru := ru) hf (lq := lq) (sq := sq) h1l h2l (by omega)
            refine g_iload C d_M_makeCodes_114 3 rfl ?_
            refine g_istore_n C (lv' := [(1, .int (nI (lq))), (0, .ref w), (2, .int (nI (cx ru ln lq sq))), (3, .int (nI (kq))), (4, .int (nI (lq))), (5, .int (nI (sq)))]) d_M_makeCodes_116 rfl (by decide) rfl ?_
            refine g_aload_n C d_M_makeCodes_117 1 rfl rfl ?_
            refine g_get C (T := FM) (N := 17) 0 16 inM rfl rfl (by decide) tw_452 rfl rfl d_M_makeCodes_118 ?_
            refine g_iload C d_M_makeCodes_121 5 rfl ?_
            refine g_aload_n C d_M_makeCodes_123 1 rfl rfl ?_
            refine g_get C (T := FM) (N := 17) 0 1 inM rfl rfl (by decide) tw_437 rfl rfl d_M_makeCodes_124 ?_
            refine g_iconst C (v := nI 1) d_M_makeCodes_127 rfl ?_
            refine n_icmp_ne C 144 d_M_makeCodes_128 (by decide) (by omega) (by omega) (fun h128 => ?_) (fun h128 => ?_)
            · refine g_iload_n C d_M_makeCodes_144 2 rfl rfl ?_
              refine n_iast C (ws' := [(w, .inr (4, [.int (nI (cd)), .int (nI (ru)), .ref w1, .ref w2, .ref w3, .ref w4, .ref w5, .ref w6, .int (nI (wt)), .int (nI (rd)), .long (va), .ref w7, .ref w8, .ref w9, .ref wa, .ref wb, .ref wd])), (w2, .inl (cs.1, 48, .inl (fun j => nI (ln j)))), (wd, .inl (cs.1, 48, .inl (fun j => nI ((updN ((cdP ru ln co kq sq)) (sq) (cx ru ln lq sq)) j))))]) 2 rfl (by omega) (by decide) rfl d_M_makeCodes_145 ?_
              refine g_iinc C (lv' := [(5, .int (nI (sq + 1))), (1, .int (nI (lq))), (0, .ref w), (2, .int (nI (cx ru ln lq sq))), (3, .int (nI (kq))), (4, .int (nI (lq)))]) (k := 5) d_M_makeCodes_146 rfl (nI_1 _) (by decide) rfl ?_
              refine g_goto C 33 d_M_makeCodes_149 (by decide) ?_
              refine g_ws (ws' := [(w, .inr (4, [.int (nI (cd)), .int (nI (ru)), .ref w1, .ref w2, .ref w3, .ref w4, .ref w5, .ref w6, .int (nI (wt)), .int (nI (rd)), .long (va), .ref w7, .ref w8, .ref w9, .ref wa, .ref wb, .ref wd])), (w2, .inl (cs.1, 48, .inl (fun j => nI (ln j)))), (wd, .inl (cs.1, 48, .inl (fun j => nI ((cdP ru ln co kq (sq + 1)) j))))]) (by rw [← cdP_s hkq h1k (show sq < 48 by omega) (by rw [← hlk9]; omega)]; unfold cdX; rw [show ln sq = lq by omega]; first | rw [if_pos (by assumption)] | rw [if_neg (by assumption)]) ?_
              refine g_lv (lv' := [(0, .ref w), (1, .int (nI (lq))), (2, .int (nI (cx ru ln lq sq))), (3, .int (nI (kq))), (4, .int (nI (lq))), (5, .int (nI (sq + 1)))]) [2, 1, 3, 4, 5, 0] rfl ?_
              exact ih (48 - (sq + 1)) (by omega) (sq + 1) lq (cx ru ln lq sq) rfl (by omega) (cinv_s h1l h2l (by omega) (by omega))
            · refine g_iload_n C d_M_makeCodes_131 2 rfl rfl ?_
              refine g_iconst C (v := (-1)) d_M_makeCodes_132 rfl ?_
              refine g_ixor C (v := (nI (cx ru ln lq sq)) ^^^ ((-1))) d_M_makeCodes_133 rfl ?_
              refine g_iconst C (v := nI 1) d_M_makeCodes_134 rfl ?_
              refine g_iload C d_M_makeCodes_135 4 rfl ?_
              refine g_ishl C (v := nI (2 ^ lq)) d_M_makeCodes_137 ((n_shl ⟨by omega, (by have h8 : 2 ^ lq ≤ 2 ^ 16 := Nat.pow_le_pow_right (by omega) h2l; omega)⟩).trans (by rw [Nat.one_mul])) ?_
              refine g_iconst C (v := nI 1) d_M_makeCodes_138 rfl ?_
              refine g_isub C (v := nI (2 ^ lq - 1)) d_M_makeCodes_139 (pk_sub (Nat.two_pow_pos _)) ?_
              refine g_iand C (v := nI (2 ^ lq - 1 - cx ru ln lq sq)) d_M_makeCodes_140 (n_inv h2l (by have h8 := shr_lt ln (j := sq) (by omega); have h9 := cx_bS (ru := ru) hf (by omega) h1l h2l (sq := 48) (Nat.le_refl _); unfold cx at h9 ⊢; rw [show ln sq = lq by omega] at h8; omega)) ?_
              refine g_goto C 145 d_M_makeCodes_141 (by decide) ?_
              refine n_iast C (ws' := [(w, .inr (4, [.int (nI (cd)), .int (nI (ru)), .ref w1, .ref w2, .ref w3, .ref w4, .ref w5, .ref w6, .int (nI (wt)), .int (nI (rd)), .long (va), .ref w7, .ref w8, .ref w9, .ref wa, .ref wb, .ref wd])), (w2, .inl (cs.1, 48, .inl (fun j => nI (ln j)))), (wd, .inl (cs.1, 48, .inl (fun j => nI ((updN ((cdP ru ln co kq sq)) (sq) (2 ^ lq - 1 - cx ru ln lq sq)) j))))]) 2 rfl (by omega) (by decide) rfl d_M_makeCodes_145 ?_
              refine g_iinc C (lv' := [(5, .int (nI (sq + 1))), (1, .int (nI (lq))), (0, .ref w), (2, .int (nI (cx ru ln lq sq))), (3, .int (nI (kq))), (4, .int (nI (lq)))]) (k := 5) d_M_makeCodes_146 rfl (nI_1 _) (by decide) rfl ?_
              refine g_goto C 33 d_M_makeCodes_149 (by decide) ?_
              refine g_ws (ws' := [(w, .inr (4, [.int (nI (cd)), .int (nI (ru)), .ref w1, .ref w2, .ref w3, .ref w4, .ref w5, .ref w6, .int (nI (wt)), .int (nI (rd)), .long (va), .ref w7, .ref w8, .ref w9, .ref wa, .ref wb, .ref wd])), (w2, .inl (cs.1, 48, .inl (fun j => nI (ln j)))), (wd, .inl (cs.1, 48, .inl (fun j => nI ((cdP ru ln co kq (sq + 1)) j))))]) (by rw [← cdP_s hkq h1k (show sq < 48 by omega) (by rw [← hlk9]; omega)]; unfold cdX; rw [show ln sq = lq by omega]; first | rw [if_pos (by assumption)] | rw [if_neg (by assumption)]) ?_
              refine g_lv (lv' := [(0, .ref w), (1, .int (nI (lq))), (2, .int (nI (cx ru ln lq sq))), (3, .int (nI (kq))), (4, .int (nI (lq))), (5, .int (nI (sq + 1)))]) [2, 1, 3, 4, 5, 0] rfl ?_
              exact ih (48 - (sq + 1)) (by omega) (sq + 1) lq (cx ru ln lq sq) rfl (by omega) (cinv_s h1l h2l (by omega) (by omega))
          · refine g_iconst C (v := nI 1) d_M_makeCodes_107 rfl ?_
            refine g_goto C 112 d_M_makeCodes_108 (by decide) ?_
            refine g_iadd C (v := nI ((nx + 1) / 2 ^ (la - lq) + 1)) d_M_makeCodes_112 (nI_add _ _) ?_
            refine g_istore_n C (lv' := [(2, .int (nI ((nx + 1) / 2 ^ (la - lq) + 1))), (6, .int (nI ((nx + 1) % 2 ^ (la - lq)))), (0, .ref w), (1, .int (nI (la))), (3, .int (nI (kq))), (4, .int (nI (lq))), (5, .int (nI (sq)))]) d_M_makeCodes_113 rfl (by decide) rfl ?_
            have e9 : cx ru ln lq sq = (nx + 1) / 2 ^ (la - lq) + 1 := by rcases hv with hv | hv; omega; rw [← (hv.2.2.2.2 (by omega)).2, ← cl_eq]; first | rw [if_pos (by assumption)] | rw [if_neg (by omega)]
            refine g_lv (lv' := [(0, .ref w), (2, .int (nI (cx ru ln lq sq))), (3, .int (nI (kq))), (4, .int (nI (lq))), (5, .int (nI (sq)))]) [2, 0, 4, 5, 6] (by rw [e9]; rfl) ?_
            have hcb := cx_b (ru := ru) hf (lq := lq) (sq := sq) h1l h2l (by omega)
            refine g_iload C d_M_makeCodes_114 3 rfl ?_
            refine g_istore_n C (lv' := [(1, .int (nI (lq))), (0, .ref w), (2, .int (nI (cx ru ln lq sq))), (3, .int (nI (kq))), (4, .int (nI (lq))), (5, .int (nI (sq)))]) d_M_makeCodes_116 rfl (by decide) rfl ?_
            refine g_aload_n C d_M_makeCodes_117 1 rfl rfl ?_
            refine g_get C (T := FM) (N := 17) 0 16 inM rfl rfl (by decide) tw_452 rfl rfl d_M_makeCodes_118 ?_
            refine g_iload C d_M_makeCodes_121 5 rfl ?_
            refine g_aload_n C d_M_makeCodes_123 1 rfl rfl ?_
            refine g_get C (T := FM) (N := 17) 0 1 inM rfl rfl (by decide) tw_437 rfl rfl d_M_makeCodes_124 ?_
            refine g_iconst C (v := nI 1) d_M_makeCodes_127 rfl ?_
            refine n_icmp_ne C 144 d_M_makeCodes_128 (by decide) (by omega) (by omega) (fun h128 => ?_) (fun h128 => ?_)
            · refine g_iload_n C d_M_makeCodes_144 2 rfl rfl ?_
              refine n_iast C (ws' := [(w, .inr (4, [.int (nI (cd)), .int (nI (ru)), .ref w1, .ref w2, .ref w3, .ref w4, .ref w5, .ref w6, .int (nI (wt)), .int (nI (rd)), .long (va), .ref w7, .ref w8, .ref w9, .ref wa, .ref wb, .ref wd])), (w2, .inl (cs.1, 48, .inl (fun j => nI (ln j)))), (wd, .inl (cs.1, 48, .inl (fun j => nI ((updN ((cdP ru ln co kq sq)) (sq) (cx ru ln lq sq)) j))))]) 2 rfl (by omega) (by decide) rfl d_M_makeCodes_145 ?_
              refine g_iinc C (lv' := [(5, .int (nI (sq + 1))), (1, .int (nI (lq))), (0, .ref w), (2, .int (nI (cx ru ln lq sq))), (3, .int (nI (kq))), (4, .int (nI (lq)))]) (k := 5) d_M_makeCodes_146 rfl (nI_1 _) (by decide) rfl ?_
              refine g_goto C 33 d_M_makeCodes_149 (by decide) ?_
              refine g_ws (ws' := [(w, .inr (4, [.int (nI (cd)), .int (nI (ru)), .ref w1, .ref w2, .ref w3, .ref w4, .ref w5, .ref w6, .int (nI (wt)), .int (nI (rd)), .long (va), .ref w7, .ref w8, .ref w9, .ref wa, .ref wb, .ref wd])), (w2, .inl (cs.1, 48, .inl (fun j => nI (ln j)))), (wd, .inl (cs.1, 48, .inl (fun j => nI ((cdP ru ln co kq (sq + 1)) j))))]) (by rw [← cdP_s hkq h1k (show sq < 48 by omega) (by rw [← hlk9]; omega)]; unfold cdX; rw [show ln sq = lq by omega]; first | rw [if_pos (by assumption)] | rw [if_neg (by assumption)]) ?_
              refine g_lv (lv' := [(0, .ref w), (1, .int (nI (lq))), (2, .int (nI (cx ru ln lq sq))), (3, .int (nI (kq))), (4, .int (nI (lq))), (5, .int (nI (sq + 1)))]) [2, 1, 3, 4, 5, 0] rfl ?_
              exact ih (48 - (sq + 1)) (by omega) (sq + 1) lq (cx ru ln lq sq) rfl (by omega) (cinv_s h1l h2l (by omega) (by omega))
            · refine g_iload_n C d_M_makeCodes_131 2 rfl rfl ?_
              refine g_iconst C (v := (-1)) d_M_makeCodes_132 rfl ?_
              refine g_ixor C (v := (nI (cx ru ln lq sq)) ^^^ ((-1))) d_M_makeCodes_133 rfl ?_
              refine g_iconst C (v := nI 1) d_M_makeCodes_134 rfl ?_
              refine g_iload C d_M_makeCodes_135 4 rfl ?_
              refine g_ishl C (v := nI (2 ^ lq)) d_M_makeCodes_137 ((n_shl ⟨by omega, (by have h8 : 2 ^ lq ≤ 2 ^ 16 := Nat.pow_le_pow_right (by omega) h2l; omega)⟩).trans (by rw [Nat.one_mul])) ?_
              refine g_iconst C (v := nI 1) d_M_makeCodes_138 rfl ?_
              refine g_isub C (v := nI (2 ^ lq - 1)) d_M_makeCodes_139 (pk_sub (Nat.two_pow_pos _)) ?_
              refine g_iand C (v := nI (2 ^ lq - 1 - cx ru ln lq sq)) d_M_makeCodes_140 (n_inv h2l (by have h8 := shr_lt ln (j := sq) (by omega); have h9 := cx_bS (ru := ru) hf (by omega) h1l h2l (sq := 48) (Nat.le_refl _); unfold cx at h9 ⊢; rw [show ln sq = lq by omega] at h8; omega)) ?_
              refine g_goto C 145 d_M_makeCodes_141 (by decide) ?_
              refine n_iast C (ws' := [(w, .inr (4, [.int (nI (cd)), .int (nI (ru)), .ref w1, .ref w2, .ref w3, .ref w4, .ref w5, .ref w6, .int (nI (wt)), .int (nI (rd)), .long (va), .ref w7, .ref w8, .ref w9, .ref wa, .ref wb, .ref wd])), (w2, .inl (cs.1, 48, .inl (fun j => nI (ln j)))), (wd, .inl (cs.1, 48, .inl (fun j => nI ((updN ((cdP ru ln co kq sq)) (sq) (2 ^ lq - 1 - cx ru ln lq sq)) j))))]) 2 rfl (by omega) (by decide) rfl d_M_makeCodes_145 ?_
              refine g_iinc C (lv' := [(5, .int (nI (sq + 1))), (1, .int (nI (lq))), (0, .ref w), (2, .int (nI (cx ru ln lq sq))), (3, .int (nI (kq))), (4, .int (nI (lq)))]) (k := 5) d_M_makeCodes_146 rfl (nI_1 _) (by decide) rfl ?_
              refine g_goto C 33 d_M_makeCodes_149 (by decide) ?_
              refine g_ws (ws' := [(w, .inr (4, [.int (nI (cd)), .int (nI (ru)), .ref w1, .ref w2, .ref w3, .ref w4, .ref w5, .ref w6, .int (nI (wt)), .int (nI (rd)), .long (va), .ref w7, .ref w8, .ref w9, .ref wa, .ref wb, .ref wd])), (w2, .inl (cs.1, 48, .inl (fun j => nI (ln j)))), (wd, .inl (cs.1, 48, .inl (fun j => nI ((cdP ru ln co kq (sq + 1)) j))))]) (by rw [← cdP_s hkq h1k (show sq < 48 by omega) (by rw [← hlk9]; omega)]; unfold cdX; rw [show ln sq = lq by omega]; first | rw [if_pos (by assumption)] | rw [if_neg (by assumption)]) ?_
              refine g_lv (lv' := [(0, .ref w), (1, .int (nI (lq))), (2, .int (nI (cx ru ln lq sq))), (3, .int (nI (kq))), (4, .int (nI (lq))), (5, .int (nI (sq + 1)))]) [2, 1, 3, 4, 5, 0] rfl ?_
              exact ih (48 - (sq + 1)) (by omega) (sq + 1) lq (cx ru ln lq sq) rfl (by omega) (cinv_s h1l h2l (by omega) (by omega))
        · refine g_iload_n C d_M_makeCodes_69 2 rfl rfl ?_
          refine g_iconst C (v := nI 1) d_M_makeCodes_70 rfl ?_
          refine g_iadd C (v := nI (nx + 1)) d_M_makeCodes_71 (nI_add _ _) ?_
          refine g_iload C d_M_makeCodes_72 4 rfl ?_
          refine g_iload_n C d_M_makeCodes_74 1 rfl rfl ?_
          refine g_isub C (v := nI (lq - la)) d_M_makeCodes_75 (pk_sub (by rcases hv with hv | hv; omega; exact (hv.2.2.2.1 (by omega)).1)) ?_
          refine g_ishl C (v := nI ((nx + 1) * 2 ^ (lq - la))) d_M_makeCodes_76 (n_shl ⟨by omega, by rcases hv with hv | hv; omega; rw [(hv.2.2.2.1 (by omega)).2]; have := cx_b (ru := ru) hf (lq := lq) (sq := sq) h1l h2l (by omega); omega⟩) ?_
          refine g_istore_n C (lv' := [(2, .int (nI ((nx + 1) * 2 ^ (lq - la)))), (0, .ref w), (1, .int (nI (la))), (3, .int (nI (kq))), (4, .int (nI (lq))), (5, .int (nI (sq)))]) d_M_makeCodes_77 rfl (by decide) rfl ?_
          refine g_goto C 114 d_M_makeCodes_78 (by decide) ?_
          have e9 : cx ru ln lq sq = (nx + 1) * 2 ^ (lq - la) := by rcases hv with hv | hv; omega; exact (hv.2.2.2.1 (by omega)).2.symm
          refine g_lv (lv' := [(0, .ref w), (2, .int (nI (cx ru ln lq sq))), (3, .int (nI (kq))), (4, .int (nI (lq))), (5, .int (nI (sq)))]) [1, 0, 3, 4, 5] (by rw [e9]; rfl) ?_
          have hcb := cx_b (ru := ru) hf (lq := lq) (sq := sq) h1l h2l (by omega)
          refine g_iload C d_M_makeCodes_114 3 rfl ?_
          refine g_istore_n C (lv' := [(1, .int (nI (lq))), (0, .ref w), (2, .int (nI (cx ru ln lq sq))), (3, .int (nI (kq))), (4, .int (nI (lq))), (5, .int (nI (sq)))]) d_M_makeCodes_116 rfl (by decide) rfl ?_
          refine g_aload_n C d_M_makeCodes_117 1 rfl rfl ?_
          refine g_get C (T := FM) (N := 17) 0 16 inM rfl rfl (by decide) tw_452 rfl rfl d_M_makeCodes_118 ?_
          refine g_iload C d_M_makeCodes_121 5 rfl ?_
          refine g_aload_n C d_M_makeCodes_123 1 rfl rfl ?_
          refine g_get C (T := FM) (N := 17) 0 1 inM rfl rfl (by decide) tw_437 rfl rfl d_M_makeCodes_124 ?_
          refine g_iconst C (v := nI 1) d_M_makeCodes_127 rfl ?_
          refine n_icmp_ne C 144 d_M_makeCodes_128 (by decide) (by omega) (by omega) (fun h128 => ?_) (fun h128 => ?_)
          · refine g_iload_n C d_M_makeCodes_144 2 rfl rfl ?_
            refine n_iast C (ws' := [(w, .inr (4, [.int (nI (cd)), .int (nI (ru)), .ref w1, .ref w2, .ref w3, .ref w4, .ref w5, .ref w6, .int (nI (wt)), .int (nI (rd)), .long (va), .ref w7, .ref w8, .ref w9, .ref wa, .ref wb, .ref wd])), (w2, .inl (cs.1, 48, .inl (fun j => nI (ln j)))), (wd, .inl (cs.1, 48, .inl (fun j => nI ((updN ((cdP ru ln co kq sq)) (sq) (cx ru ln lq sq)) j))))]) 2 rfl (by omega) (by decide) rfl d_M_makeCodes_145 ?_
            refine g_iinc C (lv' := [(5, .int (nI (sq + 1))), (1, .int (nI (lq))), (0, .ref w), (2, .int (nI (cx ru ln lq sq))), (3, .int (nI (kq))), (4, .int (nI (lq)))]) (k := 5) d_M_makeCodes_146 rfl (nI_1 _) (by decide) rfl ?_
            refine g_goto C 33 d_M_makeCodes_149 (by decide) ?_
            refine g_ws (ws' := [(w, .inr (4, [.int (nI (cd)), .int (nI (ru)), .ref w1, .ref w2, .ref w3, .ref w4, .ref w5, .ref w6, .int (nI (wt)), .int (nI (rd)), .long (va), .ref w7, .ref w8, .ref w9, .ref wa, .ref wb, .ref wd])), (w2, .inl (cs.1, 48, .inl (fun j => nI (ln j)))), (wd, .inl (cs.1, 48, .inl (fun j => nI ((cdP ru ln co kq (sq + 1)) j))))]) (by rw [← cdP_s hkq h1k (show sq < 48 by omega) (by rw [← hlk9]; omega)]; unfold cdX; rw [show ln sq = lq by omega]; first | rw [if_pos (by assumption)] | rw [if_neg (by assumption)]) ?_
            refine g_lv (lv' := [(0, .ref w), (1, .int (nI (lq))), (2, .int (nI (cx ru ln lq sq))), (3, .int (nI (kq))), (4, .int (nI (lq))), (5, .int (nI (sq + 1)))]) [2, 1, 3, 4, 5, 0] rfl ?_
            exact ih (48 - (sq + 1)) (by omega) (sq + 1) lq (cx ru ln lq sq) rfl (by omega) (cinv_s h1l h2l (by omega) (by omega))
          · refine g_iload_n C d_M_makeCodes_131 2 rfl rfl ?_
            refine g_iconst C (v := (-1)) d_M_makeCodes_132 rfl ?_
            refine g_ixor C (v := (nI (cx ru ln lq sq)) ^^^ ((-1))) d_M_makeCodes_133 rfl ?_
            refine g_iconst C (v := nI 1) d_M_makeCodes_134 rfl ?_
            refine g_iload C d_M_makeCodes_135 4 rfl ?_
            refine g_ishl C (v := nI (2 ^ lq)) d_M_makeCodes_137 ((n_shl ⟨by omega, (by have h8 : 2 ^ lq ≤ 2 ^ 16 := Nat.pow_le_pow_right (by omega) h2l; omega)⟩).trans (by rw [Nat.one_mul])) ?_
            refine g_iconst C (v := nI 1) d_M_makeCodes_138 rfl ?_
            refine g_isub C (v := nI (2 ^ lq - 1)) d_M_makeCodes_139 (pk_sub (Nat.two_pow_pos _)) ?_
            refine g_iand C (v := nI (2 ^ lq - 1 - cx ru ln lq sq)) d_M_makeCodes_140 (n_inv h2l (by have h8 := shr_lt ln (j := sq) (by omega); have h9 := cx_bS (ru := ru) hf (by omega) h1l h2l (sq := 48) (Nat.le_refl _); unfold cx at h9 ⊢; rw [show ln sq = lq by omega] at h8; omega)) ?_
            refine g_goto C 145 d_M_makeCodes_141 (by decide) ?_
            refine n_iast C (ws' := [(w, .inr (4, [.int (nI (cd)), .int (nI (ru)), .ref w1, .ref w2, .ref w3, .ref w4, .ref w5, .ref w6, .int (nI (wt)), .int (nI (rd)), .long (va), .ref w7, .ref w8, .ref w9, .ref wa, .ref wb, .ref wd])), (w2, .inl (cs.1, 48, .inl (fun j => nI (ln j)))), (wd, .inl (cs.1, 48, .inl (fun j => nI ((updN ((cdP ru ln co kq sq)) (sq) (2 ^ lq - 1 - cx ru ln lq sq)) j))))]) 2 rfl (by omega) (by decide) rfl d_M_makeCodes_145 ?_
            refine g_iinc C (lv' := [(5, .int (nI (sq + 1))), (1, .int (nI (lq))), (0, .ref w), (2, .int (nI (cx ru ln lq sq))), (3, .int (nI (kq))), (4, .int (nI (lq)))]) (k := 5) d_M_makeCodes_146 rfl (nI_1 _) (by decide) rfl ?_
            refine g_goto C 33 d_M_makeCodes_149 (by decide) ?_
            refine g_ws (ws' := [(w, .inr (4, [.int (nI (cd)), .int (nI (ru)), .ref w1, .ref w2, .ref w3, .ref w4, .ref w5, .ref w6, .int (nI (wt)), .int (nI (rd)), .long (va), .ref w7, .ref w8, .ref w9, .ref wa, .ref wb, .ref wd])), (w2, .inl (cs.1, 48, .inl (fun j => nI (ln j)))), (wd, .inl (cs.1, 48, .inl (fun j => nI ((cdP ru ln co kq (sq + 1)) j))))]) (by rw [← cdP_s hkq h1k (show sq < 48 by omega) (by rw [← hlk9]; omega)]; unfold cdX; rw [show ln sq = lq by omega]; first | rw [if_pos (by assumption)] | rw [if_neg (by assumption)]) ?_
            refine g_lv (lv' := [(0, .ref w), (1, .int (nI (lq))), (2, .int (nI (cx ru ln lq sq))), (3, .int (nI (kq))), (4, .int (nI (lq))), (5, .int (nI (sq + 1)))]) [2, 1, 3, 4, 5, 0] rfl ?_
            exact ih (48 - (sq + 1)) (by omega) (sq + 1) lq (cx ru ln lq sq) rfl (by omega) (cinv_s h1l h2l (by omega) (by omega))
      · refine g_iconst C (v := nI 0) d_M_makeCodes_56 rfl ?_
        refine g_istore_n C (lv' := [(2, .int (nI (0))), (0, .ref w), (1, .int (nI (la))), (3, .int (nI (kq))), (4, .int (nI (lq))), (5, .int (nI (sq)))]) d_M_makeCodes_57 rfl (by decide) rfl ?_
        refine g_goto C 114 d_M_makeCodes_58 (by decide) ?_
        have e9 : cx ru ln lq sq = 0 := by rcases hv with hv | hv <;> omega
        refine g_lv (lv' := [(0, .ref w), (2, .int (nI (cx ru ln lq sq))), (3, .int (nI (kq))), (4, .int (nI (lq))), (5, .int (nI (sq)))]) [1, 0, 3, 4, 5] (by rw [e9]; rfl) ?_
        have hcb := cx_b (ru := ru) hf (lq := lq) (sq := sq) h1l h2l (by omega)
        refine g_iload C d_M_makeCodes_114 3 rfl ?_
        refine g_istore_n C (lv' := [(1, .int (nI (lq))), (0, .ref w), (2, .int (nI (cx ru ln lq sq))), (3, .int (nI (kq))), (4, .int (nI (lq))), (5, .int (nI (sq)))]) d_M_makeCodes_116 rfl (by decide) rfl ?_
        refine g_aload_n C d_M_makeCodes_117 1 rfl rfl ?_
        refine g_get C (T := FM) (N := 17) 0 16 inM rfl rfl (by decide) tw_452 rfl rfl d_M_makeCodes_118 ?_
        refine g_iload C d_M_makeCodes_121 5 rfl ?_
        refine g_aload_n C d_M_makeCodes_123 1 rfl rfl ?_
        refine g_get C (T := FM) (N := 17) 0 1 inM rfl rfl (by decide) tw_437 rfl rfl d_M_makeCodes_124 ?_
        refine g_iconst C (v := nI 1) d_M_makeCodes_127 rfl ?_
        refine n_icmp_ne C 144 d_M_makeCodes_128 (by decide) (by omega) (by omega) (fun h128 => ?_) (fun h128 => ?_)
        · refine g_iload_n C d_M_makeCodes_144 2 rfl rfl ?_
          refine n_iast C (ws' := [(w, .inr (4, [.int (nI (cd)), .int (nI (ru)), .ref w1, .ref w2, .ref w3, .ref w4, .ref w5, .ref w6, .int (nI (wt)), .int (nI (rd)), .long (va), .ref w7, .ref w8, .ref w9, .ref wa, .ref wb, .ref wd])), (w2, .inl (cs.1, 48, .inl (fun j => nI (ln j)))), (wd, .inl (cs.1, 48, .inl (fun j => nI ((updN ((cdP ru ln co kq sq)) (sq) (cx ru ln lq sq)) j))))]) 2 rfl (by omega) (by decide) rfl d_M_makeCodes_145 ?_
          refine g_iinc C (lv' := [(5, .int (nI (sq + 1))), (1, .int (nI (lq))), (0, .ref w), (2, .int (nI (cx ru ln lq sq))), (3, .int (nI (kq))), (4, .int (nI (lq)))]) (k := 5) d_M_makeCodes_146 rfl (nI_1 _) (by decide) rfl ?_
          refine g_goto C 33 d_M_makeCodes_149 (by decide) ?_
          refine g_ws (ws' := [(w, .inr (4, [.int (nI (cd)), .int (nI (ru)), .ref w1, .ref w2, .ref w3, .ref w4, .ref w5, .ref w6, .int (nI (wt)), .int (nI (rd)), .long (va), .ref w7, .ref w8, .ref w9, .ref wa, .ref wb, .ref wd])), (w2, .inl (cs.1, 48, .inl (fun j => nI (ln j)))), (wd, .inl (cs.1, 48, .inl (fun j => nI ((cdP ru ln co kq (sq + 1)) j))))]) (by rw [← cdP_s hkq h1k (show sq < 48 by omega) (by rw [← hlk9]; omega)]; unfold cdX; rw [show ln sq = lq by omega]; first | rw [if_pos (by assumption)] | rw [if_neg (by assumption)]) ?_
          refine g_lv (lv' := [(0, .ref w), (1, .int (nI (lq))), (2, .int (nI (cx ru ln lq sq))), (3, .int (nI (kq))), (4, .int (nI (lq))), (5, .int (nI (sq + 1)))]) [2, 1, 3, 4, 5, 0] rfl ?_
          exact ih (48 - (sq + 1)) (by omega) (sq + 1) lq (cx ru ln lq sq) rfl (by omega) (cinv_s h1l h2l (by omega) (by omega))
        · refine g_iload_n C d_M_makeCodes_131 2 rfl rfl ?_
          refine g_iconst C (v := (-1)) d_M_makeCodes_132 rfl ?_
          refine g_ixor C (v := (nI (cx ru ln lq sq)) ^^^ ((-1))) d_M_makeCodes_133 rfl ?_
          refine g_iconst C (v := nI 1) d_M_makeCodes_134 rfl ?_
          refine g_iload C d_M_makeCodes_135 4 rfl ?_
          refine g_ishl C (v := nI (2 ^ lq)) d_M_makeCodes_137 ((n_shl ⟨by omega, (by have h8 : 2 ^ lq ≤ 2 ^ 16 := Nat.pow_le_pow_right (by omega) h2l; omega)⟩).trans (by rw [Nat.one_mul])) ?_
          refine g_iconst C (v := nI 1) d_M_makeCodes_138 rfl ?_
          refine g_isub C (v := nI (2 ^ lq - 1)) d_M_makeCodes_139 (pk_sub (Nat.two_pow_pos _)) ?_
          refine g_iand C (v := nI (2 ^ lq - 1 - cx ru ln lq sq)) d_M_makeCodes_140 (n_inv h2l (by have h8 := shr_lt ln (j := sq) (by omega); have h9 := cx_bS (ru := ru) hf (by omega) h1l h2l (sq := 48) (Nat.le_refl _); unfold cx at h9 ⊢; rw [show ln sq = lq by omega] at h8; omega)) ?_
          refine g_goto C 145 d_M_makeCodes_141 (by decide) ?_
          refine n_iast C (ws' := [(w, .inr (4, [.int (nI (cd)), .int (nI (ru)), .ref w1, .ref w2, .ref w3, .ref w4, .ref w5, .ref w6, .int (nI (wt)), .int (nI (rd)), .long (va), .ref w7, .ref w8, .ref w9, .ref wa, .ref wb, .ref wd])), (w2, .inl (cs.1, 48, .inl (fun j => nI (ln j)))), (wd, .inl (cs.1, 48, .inl (fun j => nI ((updN ((cdP ru ln co kq sq)) (sq) (2 ^ lq - 1 - cx ru ln lq sq)) j))))]) 2 rfl (by omega) (by decide) rfl d_M_makeCodes_145 ?_
          refine g_iinc C (lv' := [(5, .int (nI (sq + 1))), (1, .int (nI (lq))), (0, .ref w), (2, .int (nI (cx ru ln lq sq))), (3, .int (nI (kq))), (4, .int (nI (lq)))]) (k := 5) d_M_makeCodes_146 rfl (nI_1 _) (by decide) rfl ?_
          refine g_goto C 33 d_M_makeCodes_149 (by decide) ?_
          refine g_ws (ws' := [(w, .inr (4, [.int (nI (cd)), .int (nI (ru)), .ref w1, .ref w2, .ref w3, .ref w4, .ref w5, .ref w6, .int (nI (wt)), .int (nI (rd)), .long (va), .ref w7, .ref w8, .ref w9, .ref wa, .ref wb, .ref wd])), (w2, .inl (cs.1, 48, .inl (fun j => nI (ln j)))), (wd, .inl (cs.1, 48, .inl (fun j => nI ((cdP ru ln co kq (sq + 1)) j))))]) (by rw [← cdP_s hkq h1k (show sq < 48 by omega) (by rw [← hlk9]; omega)]; unfold cdX; rw [show ln sq = lq by omega]; first | rw [if_pos (by assumption)] | rw [if_neg (by assumption)]) ?_
          refine g_lv (lv' := [(0, .ref w), (1, .int (nI (lq))), (2, .int (nI (cx ru ln lq sq))), (3, .int (nI (kq))), (4, .int (nI (lq))), (5, .int (nI (sq + 1)))]) [2, 1, 3, 4, 5, 0] rfl ?_
          exact ih (48 - (sq + 1)) (by omega) (sq + 1) lq (cx ru ln lq sq) rfl (by omega) (cinv_s h1l h2l (by omega) (by omega))
set_option maxHeartbeats 4000000 in
set_option maxRecDepth 100000 in
theorem l_M_co {p : Program} {l : Launch} {e : Env} {s : State} {m : MethodId} {args : Array Value} {below : List Frame} {meth : Method} {c : Code} {Q : State → Prop} {A : Nat → Prop} {D : va_G} {cs : ClassId × ClassId × ClassId × ClassId} (C : CX p s m args c c_M_makeCodes 7 RM D cs A) (w w1 w2 w3 w4 w5 w6 w7 w8 w9 wa wb wd : Nat) (cd ru wt rd : Nat) (va : Int64) (ln : Nat → Nat) (co : Nat → Nat) (hl : ∀ j, j < 48 → ln j ≤ 16) (hf : fll ln ≤ 65536) (hru : ru < 3)
    (K : GO p l e { frames := 0, cells := 0, slots := 0, locals := 0 } s m args below meth c 0 0 Q A D 7 158 [(0, .ref w)] [] [(w, .inr (4, [.int (nI (cd)), .int (nI (ru)), .ref w1, .ref w2, .ref w3, .ref w4, .ref w5, .ref w6, .int (nI (wt)), .int (nI (rd)), .long (va), .ref w7, .ref w8, .ref w9, .ref wa, .ref wb, .ref wd])), (w2, .inl (cs.1, 48, .inl (fun j => nI (ln j)))), (wd, .inl (cs.1, 48, .inl (fun j => nI ((cdG (stc ru (shr ln 48)) ln co ru 48) j))))])
    : ∀ (n : Nat) (kq la nx : Nat), 17 - kq = n → (1 ≤ kq) → (kq ≤ 17) → (kq ≤ 16 → cinv ru ln (lk ru kq) 0 la nx) → GO p l e { frames := 0, cells := 0, slots := 0, locals := 0 } s m args below meth c 0 0 Q A D 7 6 [(0, .ref w), (1, .int (nI (la))), (2, .int (nI (nx))), (3, .int (nI (kq)))] [] [(w, .inr (4, [.int (nI (cd)), .int (nI (ru)), .ref w1, .ref w2, .ref w3, .ref w4, .ref w5, .ref w6, .int (nI (wt)), .int (nI (rd)), .long (va), .ref w7, .ref w8, .ref w9, .ref wa, .ref wb, .ref wd])), (w2, .inl (cs.1, 48, .inl (fun j => nI (ln j)))), (wd, .inl (cs.1, 48, .inl (fun j => nI ((cdP ru ln co kq 0) j))))] := by
  intro n
  induction n using Nat.strongRecOn with
  | _ n ih =>
  intro kq la nx  hn h1k hk hv
  refine g_iload_n C d_M_makeCodes_6 3 rfl rfl ?_
  refine g_bipush C (v := nI 17) d_M_makeCodes_7 rfl ?_
  refine n_icmp_ge C 158 d_M_makeCodes_9 (by decide) (by omega) (by omega) (fun h9 => ?_) (fun h9 => ?_)
  · refine g_lv (lv' := [(0, .ref w)]) [0] rfl ?_
    have e9 : kq = 17 := by omega
    subst e9
    rw [cdP_17 hl]
    exact K
  · refine g_aload_n C d_M_makeCodes_12 0 rfl rfl ?_
    refine g_get C (T := FM) (N := 17) 0 1 inM rfl rfl (by decide) tw_437 rfl rfl d_M_makeCodes_13 ?_
    refine g_iconst C (v := nI 2) d_M_makeCodes_16 rfl ?_
    refine n_icmp_ne C 27 d_M_makeCodes_17 (by decide) (by omega) (by omega) (fun h17 => ?_) (fun h17 => ?_)
    · refine g_iload_n C d_M_makeCodes_27 3 rfl rfl ?_
      refine g_toi (v := nI (lk ru kq)) (congrArg nI (by unfold lk; first | rw [if_pos (by assumption)] | rw [if_neg (by omega)])) ?_
      refine g_istore C (lv' := [(4, .int (nI (lk ru kq))), (0, .ref w), (1, .int (nI (la))), (2, .int (nI (nx))), (3, .int (nI (kq)))]) d_M_makeCodes_28 (by decide) rfl ?_
      refine g_iconst C (v := nI 0) d_M_makeCodes_30 rfl ?_
      refine g_istore C (lv' := [(5, .int (nI (0))), (4, .int (nI (lk ru kq))), (0, .ref w), (1, .int (nI (la))), (2, .int (nI (nx))), (3, .int (nI (kq)))]) d_M_makeCodes_31 (by decide) rfl ?_
      refine g_lv (lv' := [(0, .ref w), (1, .int (nI (la))), (2, .int (nI (nx))), (3, .int (nI (kq))), (4, .int (nI (lk ru kq))), (5, .int (nI (0)))]) [2, 3, 4, 5, 1, 0] rfl ?_
      refine l_M_ci C w w1 w2 w3 w4 w5 w6 w7 w8 w9 wa wb wd cd ru wt rd va ln co kq (lk ru kq) hl hf hru h1k (by omega) rfl (lk_r h1k (by omega)).1 (lk_r h1k (by omega)).2 ?_ _ 0 la nx rfl (by omega) (hv (by omega))
      intro la2 nx2 hv2
      refine g_iinc C (lv' := [(3, .int (nI (kq + 1))), (0, .ref w), (1, .int (nI (la2))), (2, .int (nI (nx2)))]) (k := 3) d_M_makeCodes_152 rfl (nI_1 _) (by decide) rfl ?_
      refine g_goto C 6 d_M_makeCodes_155 (by decide) ?_
      refine g_ws (ws' := [(w, .inr (4, [.int (nI (cd)), .int (nI (ru)), .ref w1, .ref w2, .ref w3, .ref w4, .ref w5, .ref w6, .int (nI (wt)), .int (nI (rd)), .long (va), .ref w7, .ref w8, .ref w9, .ref wa, .ref wb, .ref wd])), (w2, .inl (cs.1, 48, .inl (fun j => nI (ln j)))), (wd, .inl (cs.1, 48, .inl (fun j => nI ((cdP ru ln co (kq + 1) 0) j))))]) (by rw [cdP_k]) ?_
      refine g_lv (lv' := [(0, .ref w), (1, .int (nI (la2))), (2, .int (nI (nx2))), (3, .int (nI (kq + 1)))]) [1, 2, 3, 0] rfl ?_
      exact ih (17 - (kq + 1)) (by omega) (kq + 1) la2 nx2 rfl (by omega) (by omega) (fun h9 => cinv_k h1k (by omega) hv2)
    · refine g_bipush C (v := nI 17) d_M_makeCodes_20 rfl ?_
      refine g_iload_n C d_M_makeCodes_22 3 rfl rfl ?_
      refine g_isub C (v := nI (17 - kq)) d_M_makeCodes_23 (pk_sub (by omega)) ?_
      refine g_goto C 28 d_M_makeCodes_24 (by decide) ?_
      refine g_toi (v := nI (lk ru kq)) (congrArg nI (by unfold lk; first | rw [if_pos (by assumption)] | rw [if_neg (by omega)])) ?_
      refine g_istore C (lv' := [(4, .int (nI (lk ru kq))), (0, .ref w), (1, .int (nI (la))), (2, .int (nI (nx))), (3, .int (nI (kq)))]) d_M_makeCodes_28 (by decide) rfl ?_
      refine g_iconst C (v := nI 0) d_M_makeCodes_30 rfl ?_
      refine g_istore C (lv' := [(5, .int (nI (0))), (4, .int (nI (lk ru kq))), (0, .ref w), (1, .int (nI (la))), (2, .int (nI (nx))), (3, .int (nI (kq)))]) d_M_makeCodes_31 (by decide) rfl ?_
      refine g_lv (lv' := [(0, .ref w), (1, .int (nI (la))), (2, .int (nI (nx))), (3, .int (nI (kq))), (4, .int (nI (lk ru kq))), (5, .int (nI (0)))]) [2, 3, 4, 5, 1, 0] rfl ?_
      refine l_M_ci C w w1 w2 w3 w4 w5 w6 w7 w8 w9 wa wb wd cd ru wt rd va ln co kq (lk ru kq) hl hf hru h1k (by omega) rfl (lk_r h1k (by omega)).1 (lk_r h1k (by omega)).2 ?_ _ 0 la nx rfl (by omega) (hv (by omega))
      intro la2 nx2 hv2
      refine g_iinc C (lv' := [(3, .int (nI (kq + 1))), (0, .ref w), (1, .int (nI (la2))), (2, .int (nI (nx2)))]) (k := 3) d_M_makeCodes_152 rfl (nI_1 _) (by decide) rfl ?_
      refine g_goto C 6 d_M_makeCodes_155 (by decide) ?_
      refine g_ws (ws' := [(w, .inr (4, [.int (nI (cd)), .int (nI (ru)), .ref w1, .ref w2, .ref w3, .ref w4, .ref w5, .ref w6, .int (nI (wt)), .int (nI (rd)), .long (va), .ref w7, .ref w8, .ref w9, .ref wa, .ref wb, .ref wd])), (w2, .inl (cs.1, 48, .inl (fun j => nI (ln j)))), (wd, .inl (cs.1, 48, .inl (fun j => nI ((cdP ru ln co (kq + 1) 0) j))))]) (by rw [cdP_k]) ?_
      refine g_lv (lv' := [(0, .ref w), (1, .int (nI (la2))), (2, .int (nI (nx2))), (3, .int (nI (kq + 1)))]) [1, 2, 3, 0] rfl ?_
      exact ih (17 - (kq + 1)) (by omega) (kq + 1) la2 nx2 rfl (by omega) (by omega) (fun h9 => cinv_k h1k (by omega) hv2)
set_option maxHeartbeats 4000000 in
set_option maxRecDepth 100000 in
theorem m_M_makeCodes (l : Launch) (D : va_G) (cs : ClassId × ClassId × ClassId × ClassId) (w w1 w2 w3 w4 w5 w6 w7 w8 w9 wa wb wd : Nat) (cd ru wt rd : Nat) (va : Int64) (ln : Nat → Nat) (co : Nat → Nat) (hl : ∀ j, j < 48 → ln j ≤ 16) (hf : fll ln ≤ 65536) (hru : ru < 3) : MG l y_M_makeCodes k_M_makeCodes { frames := 0, cells := 0, slots := 0, locals := 0 } D cs [.ref w] [(w, .inr (4, [.int (nI (cd)), .int (nI (ru)), .ref w1, .ref w2, .ref w3, .ref w4, .ref w5, .ref w6, .int (nI (wt)), .int (nI (rd)), .long (va), .ref w7, .ref w8, .ref w9, .ref wa, .ref wb, .ref wd])), (w2, .inl (cs.1, 48, .inl (fun j => nI (ln j)))), (wd, .inl (cs.1, 48, .inl (fun j => nI (co j))))] (QV D [(w, .inr (4, [.int (nI (cd)), .int (nI (ru)), .ref w1, .ref w2, .ref w3, .ref w4, .ref w5, .ref w6, .int (nI (wt)), .int (nI (rd)), .long (va), .ref w7, .ref w8, .ref w9, .ref wa, .ref wb, .ref wd])), (w2, .inl (cs.1, 48, .inl (fun j => nI (ln j)))), (wd, .inl (cs.1, 48, .inl (fun j => nI ((cdG (stc ru (shr ln 48)) ln co ru 48) j))))]) := by
  refine MG.mk (own := RM) (by decide) rfl (Nat.le_of_ble_eq_true rfl) ?_
  intro p e s m below meth c A C hr hlk
  refine g_lv (lv' := [(0, .ref w)]) [0] rfl ?_
  refine g_iconst C (v := nI 0) d_M_makeCodes_0 rfl ?_
  refine g_istore_n C (lv' := [(1, .int (nI (0))), (0, .ref w)]) d_M_makeCodes_1 rfl (by decide) rfl ?_
  refine g_iconst C (v := nI 0) d_M_makeCodes_2 rfl ?_
  refine g_istore_n C (lv' := [(2, .int (nI (0))), (1, .int (nI (0))), (0, .ref w)]) d_M_makeCodes_3 rfl (by decide) rfl ?_
  refine g_iconst C (v := nI 1) d_M_makeCodes_4 rfl ?_
  refine g_istore_n C (lv' := [(3, .int (nI (1))), (2, .int (nI (0))), (1, .int (nI (0))), (0, .ref w)]) d_M_makeCodes_5 rfl (by decide) rfl ?_
  refine g_ws (ws' := [(w, .inr (4, [.int (nI (cd)), .int (nI (ru)), .ref w1, .ref w2, .ref w3, .ref w4, .ref w5, .ref w6, .int (nI (wt)), .int (nI (rd)), .long (va), .ref w7, .ref w8, .ref w9, .ref wa, .ref wb, .ref wd])), (w2, .inl (cs.1, 48, .inl (fun j => nI (ln j)))), (wd, .inl (cs.1, 48, .inl (fun j => nI ((cdP ru ln co 1 0) j))))]) (by rw [cdP_1 hl]) ?_
  refine g_lv (lv' := [(0, .ref w), (1, .int (nI (0))), (2, .int (nI (0))), (3, .int (nI (1)))]) [3, 2, 1, 0] rfl ?_
  refine l_M_co C w w1 w2 w3 w4 w5 w6 w7 w8 w9 wa wb wd cd ru wt rd va ln co hl hf hru ?_ _ 1 0 0 rfl (by omega) (by omega) (fun _ => cinv_0)
  exact g_vret C hr hlk rfl d_M_makeCodes_158
