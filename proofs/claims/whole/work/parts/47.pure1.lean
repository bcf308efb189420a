/-- the number of the first n bits of a code -/
theorem bgL_iff {ln co bt : Nat → Nat} {y : Nat} (hX : co y < 2 ^ ln y) (hb : ∀ j, j < ln y → bt j < 2) : ∀ n, n ≤ ln y → (bgL ln co bt y n = 1 ↔ co y / 2 ^ (ln y - n) = nmm bt 0 n)
  | 0, _ => by
    show (1 = 1 ↔ co y / 2 ^ (ln y - 0) = 0)
    rw [Nat.sub_zero, Nat.div_eq_of_lt hX]; simp
  | n + 1, h => by
    have ih := bgL_iff hX hb n (by omega)
    have e : co y / 2 ^ (ln y - n) = co y / 2 ^ (ln y - (n + 1)) / 2 := by
      rw [Nat.div_div_eq_div_mul, ← Nat.pow_succ]; congr 2; omega
    have e2 : ln y - 1 - n = ln y - (n + 1) := by omega
    have hb' := hb n (by omega)
    show ((if bgL ln co bt y n = 1 ∧ co y / 2 ^ (ln y - 1 - n) % 2 = bt n then 1 else 0) = 1 ↔ co y / 2 ^ (ln y - (n + 1)) = 2 * nmm bt 0 n + bt (0 + n))
    rw [e2, Nat.zero_add]
    rw [e] at ih
    generalize co y / 2 ^ (ln y - (n + 1)) = X at ih ⊢
    constructor
    · intro q
      split at q
      · next h9 => have := ih.mp h9.1; omega
      · omega
    · intro q
      rw [if_pos ⟨ih.mpr (by omega), by omega⟩]
theorem bgn_iff {ln co bt : Nat → Nat} {y n : Nat} (hX : 0 < ln y → co y < 2 ^ ln y) (hb : ∀ j, j < ln y → bt j < 2) (h1 : 1 ≤ n) : bgn ln co bt y n = 1 ↔ (n ≤ ln y ∧ co y / 2 ^ (ln y - n) = nmm bt 0 n) := by
  unfold bgn
  by_cases h : ln y < n ∨ ln y = 0
  · rw [if_pos h]; constructor
    · intro q; omega
    · intro q; omega
  · rw [if_neg h, bgL_iff (hX (by omega)) hb n (by omega)]
    constructor
    · intro q; exact ⟨by omega, q⟩
    · intro q; exact q.2
theorem nmb_nmm {rb bt : Nat → Nat} {st sz : Nat} (h : ∀ j, j < sz → bt j = rb ((st + j) % 400)) (bh : Nat) : ∀ n, bh + n ≤ sz → nmb rb st bh n = nmm bt bh n
  | 0, _ => rfl
  | n + 1, hn => by
    show 2 * nmb rb st bh n + rb ((st + (bh + n)) % 400) = 2 * nmm bt bh n + bt (bh + n)
    rw [nmb_nmm h bh n (by omega), h (bh + n) (by omega)]
/-- shortest first, codes don't begin one another -/
theorem shr_inj (ln : Nat → Nat) {a b : Nat} (h : a < b) : shr ln a (ln a) < shr ln b (ln a) := by
  have h1 : shr ln (a + 1) (ln a) = shr ln a (ln a) + 1 := by simp [shr]
  have h2 := shr_mono ln (ln a) (a := a + 1) (b := b) (by omega)
  omega
theorem cbS_up (sn : Nat → Nat) (a : Nat) : ∀ d, cbS sn a * 2 ^ d ≤ cbS sn (a + d)
  | 0 => by simp
  | d + 1 => by
    have ih := cbS_up sn a d
    show cbS sn a * 2 ^ (d + 1) ≤ 2 * cbS sn (a + d) + sn (a + d + 1)
    rw [Nat.pow_succ, ← Nat.mul_assoc]; omega
/-- the number behind the codes of a length -/
def cxe (ru : Nat) (ln : Nat → Nat) (lq : Nat) : Nat := cx ru ln lq 48
theorem cx_lt_e {ru : Nat} {ln : Nat → Nat} {j : Nat} (hj : j < 48) : cx ru ln (ln j) j < cxe ru ln (ln j) := by
  have := shr_lt ln hj
  unfold cxe cx; omega
theorem pfS {ru : Nat} {ln : Nat → Nat} (hr : ru ≠ 2) {j y : Nat} (hj : j < 48) (h0 : 0 < ln j) (h : ln j < ln y) : cx ru ln (ln j) j < cx ru ln (ln y) y / 2 ^ (ln y - ln j) := by
  have h1 := cx_lt_e (ru := ru) (ln := ln) hj
  refine Nat.lt_of_lt_of_le h1 ?_
  rw [Nat.le_div_iff_mul_le (Nat.two_pow_pos _)]
  have e1 : cxe ru ln (ln j) = cbS (shr ln 48) (ln j) := by
    unfold cxe cx stc; rw [if_neg hr]
    obtain ⟨k, hk⟩ : ∃ k, ln j = k + 1 := ⟨ln j - 1, by omega⟩
    rw [hk, cbS, Nat.add_sub_cancel]
  have e2 : 2 * cbS (shr ln 48) (ln y - 1) ≤ cx ru ln (ln y) y := by
    unfold cx stc; rw [if_neg hr]; omega
  rw [e1]
  refine Nat.le_trans ?_ e2
  have h2 := cbS_up (shr ln 48) (ln j) (ln y - 1 - ln j)
  rw [show ln j + (ln y - 1 - ln j) = ln y - 1 by omega] at h2
  rw [show ln y - ln j = (ln y - 1 - ln j) + 1 by omega, Nat.pow_succ, ← Nat.mul_assoc]
  omega
/-- longest first -/
theorem cbL_up {ru : Nat} {ln : Nat → Nat} (hr : ru = 2) (lq : Nat) (h1 : 1 ≤ lq) : ∀ d, 1 ≤ d → lq + d ≤ 16 → cxe ru ln (lq + d) ≤ cx ru ln lq 0 * 2 ^ d
  | 0, h, _ => absurd h (by omega)
  | d + 1, _, h => by
    by_cases e : d = 0
    · subst e
      rw [cx_L hr h1 (by omega)]
      unfold cxe
      show cx ru ln (lq + 1) 48 ≤ _ * 2
      omega
    · have ih := cbL_up (ln := ln) hr lq h1 d (by omega) (by omega)
      have h3 := cx_L (ln := ln) hr (show 1 ≤ lq + d by omega) (show lq + d ≤ 15 by omega)
      have h4 : cx ru ln (lq + d) 0 ≤ cxe ru ln (lq + d) := by unfold cxe cx; show _ + 0 ≤ _; omega
      rw [Nat.pow_succ, ← Nat.mul_assoc]
      show cx ru ln (lq + d + 1) 48 ≤ _
      omega
theorem pfL {ru : Nat} {ln : Nat → Nat} (hr : ru = 2) {j y : Nat} (hy : y < 48) (h0 : 0 < ln j) (h : ln j < ln y) (h16 : ln y ≤ 16) : cx ru ln (ln y) y / 2 ^ (ln y - ln j) < cx ru ln (ln j) j := by
  rw [Nat.div_lt_iff_lt_mul (Nat.two_pow_pos _)]
  have h1 := cx_lt_e (ru := ru) (ln := ln) hy
  have h2 := cbL_up (ln := ln) hr (ln j) h0 (ln y - ln j) (by omega) (by omega)
  rw [show ln j + (ln y - ln j) = ln y by omega] at h2
  have h3 : cx ru ln (ln j) 0 ≤ cx ru ln (ln j) j := by unfold cx; show _ + 0 ≤ _; omega
  have h4 := Nat.mul_le_mul_right (2 ^ (ln y - ln j)) h3
  omega
/-- .. and they fit -/
def flq (sn : Nat → Nat) : Nat → Nat
  | 0 => 0
  | k + 1 => flq sn k + sn (16 - k) * 2 ^ k
theorem flq_flp (sn : Nat → Nat) : ∀ k, k ≤ 16 → flq sn k + flp sn (16 - k) = flp sn 16
  | 0, _ => by show 0 + flp sn 16 = _; omega
  | k + 1, h => by
    have ih := flq_flp sn k (by omega)
    rw [← ih, show 16 - k = (16 - (k + 1)) + 1 by omega]
    show flq sn k + sn (16 - k) * 2 ^ k + _ = flq sn k + (flp sn (16 - (k + 1)) + sn (16 - (k + 1) + 1) * (65536 / 2 ^ (16 - (k + 1) + 1)))
    rw [pw16 (by omega), show 16 - (16 - (k + 1) + 1) = k by omega, show 16 - (k + 1) + 1 = 16 - k by omega]
    omega
theorem cbL_q (sn : Nat → Nat) : ∀ k, 0 < k → cbL sn k * 2 ^ (k - 1) < flq sn k + 2 ^ (k - 1)
  | 0, h => absurd h (by omega)
  | k + 1, _ => by
    show ((cbL sn k + 1) / 2 + sn (16 - k)) * 2 ^ k < flq sn k + sn (16 - k) * 2 ^ k + 2 ^ k
    rw [Nat.add_mul]
    by_cases e : k = 0
    · subst e
      show (0 + 1) / 2 * 1 + _ < 0 + _ + 1
      omega
    · have ih := cbL_q sn k (by omega)
      have e2 : 2 ^ k = 2 * 2 ^ (k - 1) := by rw [← Nat.pow_succ']; congr 1; omega
      have : (cbL sn k + 1) / 2 * 2 ^ k ≤ (cbL sn k + 1) * 2 ^ (k - 1) := by
        rw [e2, ← Nat.mul_assoc]
        exact Nat.mul_le_mul_right _ (by omega)
      rw [Nat.add_mul, Nat.one_mul] at this
      omega
theorem kraftL {ln : Nat → Nat} (h : fll ln ≤ 65536) {lq : Nat} (h1 : 1 ≤ lq) (h2 : lq ≤ 16) : cxe 2 ln lq ≤ 2 ^ lq := by
  have e : cxe 2 ln lq = cbL (shr ln 48) (17 - lq) := by
    unfold cxe cx stc
    rw [if_pos rfl, show 17 - lq = (16 - lq) + 1 by omega, cbL, show 16 - (16 - lq) = lq by omega]
  have h3 := cbL_q (shr ln 48) (17 - lq) (by omega)
  have h4 := flq_flp (shr ln 48) (17 - lq) (by omega)
  rw [e]
  rw [show 17 - lq - 1 = 16 - lq by omega] at h3
  have h5 : flp (shr ln 48) 16 ≤ 65536 := h
  have h6 : cbL (shr ln 48) (17 - lq) * 2 ^ (16 - lq) < (2 ^ lq + 1) * 2 ^ (16 - lq) := by
    rw [Nat.add_mul, ← Nat.pow_add, show lq + (16 - lq) = 16 by omega]; omega
  have := Nat.lt_of_mul_lt_mul_right h6
  omega
theorem cx_fit {ru : Nat} {ln : Nat → Nat} (hf : fll ln ≤ 65536) {j : Nat} (hj : j < 48) (h1 : 0 < ln j) (h2 : ln j ≤ 16) : cx ru ln (ln j) j < 2 ^ ln j := by
  refine Nat.lt_of_lt_of_le (cx_lt_e hj) ?_
  by_cases hr : ru = 2
  · subst hr; exact kraftL hf h1 h2
  · exact cx_bS hf hr h1 h2 (Nat.le_refl _)
theorem cdX_fit {ru : Nat} {ln : Nat → Nat} (hf : fll ln ≤ 65536) {j : Nat} (hj : j < 48) (h1 : 0 < ln j) (h2 : ln j ≤ 16) : cdX ru ln j < 2 ^ ln j := by
  have := cx_fit (ru := ru) hf hj h1 h2
  unfold cdX; split <;> omega
theorem inv_div {X a d : Nat} (h : X < 2 ^ (a + d)) : (2 ^ (a + d) - 1 - X) / 2 ^ d = 2 ^ a - 1 - X / 2 ^ d := by
  have hD := Nat.two_pow_pos d
  rw [Nat.pow_add] at h ⊢
  have hq : X / 2 ^ d < 2 ^ a := by rw [Nat.div_lt_iff_lt_mul hD]; exact h
  generalize 2 ^ a = A at *
  generalize 2 ^ d = D at *
  have e := Nat.div_add_mod X D
  have hr := Nat.mod_lt X hD
  have : A * D - 1 - X = (D - 1 - X % D) + D * (A - 1 - X / D) := by
    rw [Nat.mul_sub, Nat.mul_sub, Nat.mul_one, Nat.mul_comm D A]
    have h3 : D * (X / D) + D ≤ A * D := by
      have : D * (X / D + 1) ≤ D * A := Nat.mul_le_mul_left D hq
      rw [Nat.mul_add, Nat.mul_one, Nat.mul_comm D A] at this; exact this
    omega
  rw [this, Nat.add_mul_div_left _ _ hD, Nat.div_eq_of_lt (by omega), Nat.zero_add]
/-- no code begins another one -/
theorem pfree {ru : Nat} {ln : Nat → Nat} (hf : fll ln ≤ 65536) (hl : ∀ j, j < 48 → ln j ≤ 16) {j y : Nat} (hj : j < 48) (hy : y < 48) (h0 : 0 < ln j) (h : ln j ≤ ln y) (he : cdX ru ln y / 2 ^ (ln y - ln j) = cdX ru ln j) : ln y = ln j := by
  rcases Nat.lt_or_ge (ln j) (ln y) with q | q
  · exfalso
    have f1 := cx_fit (ru := ru) hf hj h0 (hl j hj)
    have f2 := cx_fit (ru := ru) hf hy (by omega) (hl y hy)
    have key : cx ru ln (ln y) y / 2 ^ (ln y - ln j) ≠ cx ru ln (ln j) j := by
      by_cases hr : ru = 2
      · exact Nat.ne_of_lt (pfL hr hy h0 q (hl y hy))
      · exact Nat.ne_of_gt (pfS hr hj h0 q)
    apply key
    unfold cdX at he
    by_cases hr : ru = 1
    · rw [if_pos hr, if_pos hr] at he
      have e : ln y = ln j + (ln y - ln j) := by omega
      rw [e] at f2
      have h9 := inv_div f2
      rw [← e] at h9 f2
      have h8 : cx ru ln (ln y) y / 2 ^ (ln y - ln j) < 2 ^ ln j := by
        rw [Nat.div_lt_iff_lt_mul (Nat.two_pow_pos _), ← Nat.pow_add, ← e]; exact f2
      rw [h9] at he
      omega
    · rw [if_neg hr, if_neg hr] at he; exact he
  · omega
theorem bgP_iff {ln cn : Nat → Nat} {fi nn s : Nat} : bgP ln cn fi nn s = true ↔ (nn ≤ ln s ∧ cn s / 2 ^ (ln s - nn) = fi) := by
  unfold bgP; simp only [Bool.and_eq_true, decide_eq_true_eq]
/-- what reading comes to, as the model sees it -/
theorem rd_all {ru : Nat} {ln cn co rb bt : Nat → Nat} {st sz : Nat} (hf : fll ln ≤ 65536) (hl : ∀ j, j < 48 → ln j ≤ 16)
    (hcn : ∀ j, j < 48 → 0 < ln j → cn j = cdX ru ln j) (hco : ∀ j, j < 48 → 0 < ln j → co j = cdX ru ln j)
    (hbt : ∀ j, j < sz → bt j = rb ((st + j) % 400)) (hb : ∀ j, j < 400 → bt j < 2) :
    ∀ f k, k + f = 17 → 1 ≤ k → k ≤ 16 → (∀ i, 1 ≤ i → i < k → stp ln co bt i) →
      (rdL ln cn rb st sz (17 - k) k = (0, 0) ∧ ∀ n, 1 ≤ n → n ≤ sz → stp ln co bt n)
      ∨ (∃ kk, rdL ln cn rb st sz (17 - k) k = (1, kk) ∧ 1 ≤ kk ∧ kk ≤ sz ∧ (∀ i, 1 ≤ i → i < kk → stp ln co bt i) ∧ ∀ j, j < 48 → bgn ln co bt j kk = 0)
      ∨ (∃ y, rdL ln cn rb st sz (17 - k) k = (2, y) ∧ y < 48 ∧ 1 ≤ ln y ∧ ln y ≤ sz ∧ (∀ i, 1 ≤ i → i < ln y → stp ln co bt i) ∧ bgn ln co bt y (ln y) = 1 ∧ ∀ j, j < y → ¬ (bgn ln co bt j (ln y) = 1 ∧ ln j = ln y))
  | 0, k, hk, h1, h16, _ => absurd hk (by omega)
  | f + 1, k, hk, h1, h16, hst => by
    have hbg : ∀ j, j < 48 → k ≤ sz → (bgn ln co bt j k = 1 ↔ bgP ln cn (nmb rb st 0 k) k j = true) := fun j hj hs => by
      rw [bgP_iff, bgn_iff (fun h0 => by rw [hco j hj h0]; exact cdX_fit hf hj h0 (hl j hj)) (fun i hi => hb i (by have := hl j hj; omega)) h1, nmb_nmm hbt 0 k (by omega)]
      constructor
      · intro q; exact ⟨q.1, by rw [hcn j hj (by omega), ← hco j hj (by omega)]; exact q.2⟩
      · intro q; exact ⟨q.1, by rw [hco j hj (by omega), ← hcn j hj (by omega)]; exact q.2⟩
    rcases Nat.lt_or_ge sz k with hs | hs
    · exact Or.inl ⟨rdL_sz hs, fun n a b => hst n a (by omega)⟩
    · cases hsb : sbb ln cn (nmb rb st 0 k) k with
      | none =>
        refine Or.inr (Or.inl ⟨k, rdL_none h16 hs hsb, h1, hs, hst, fun j hj => ?_⟩)
        have h2 := bgn_01 ln co bt j k
        have h3 : ¬ bgn ln co bt j k = 1 := fun q => by
          have h4 := (hbg j hj hs).mp q
          unfold sbb at hsb
          exact List.find?_eq_none.mp hsb j (List.mem_range.mpr hj) h4
        omega
      | some y =>
        obtain ⟨hy, hy1, hy2⟩ := sbb_some hsb
        have hby : bgn ln co bt y k = 1 := (hbg y hy hs).mpr (bgP_iff.mpr ⟨hy1, hy2⟩)
        by_cases e : ln y = k
        · refine Or.inr (Or.inr ⟨y, rdL_hit h16 hs hsb e, hy, by omega, by omega, fun i a b => hst i a (by omega), by rw [e]; exact hby, fun j hj q => ?_⟩)
          rw [e] at q
          have h4 := (hbg j (by omega) hs).mp q.1
          unfold sbb at hsb
          rw [List.find?_range_eq_some] at hsb
          exact absurd h4 (by have := hsb.2.2 j hj; simpa using this)
        · have hk1 : k + 1 ≤ 16 := by have := hl y hy; omega
          rw [rdL_next h16 hs hsb e]
          refine rd_all hf hl hcn hco hbt hb f (k + 1) (by omega) (by omega) hk1 (fun i a b => ?_)
          by_cases e2 : i = k
          · subst e2
            refine ⟨⟨y, hy, hby⟩, fun j hj q => ?_⟩
            have h5 := bgP_iff.mp ((hbg j hj hs).mp q.1)
            apply e
            have h6 : ln y = ln j := by
              refine pfree (ru := ru) hf hl hj hy (by omega) (by omega) ?_
              rw [← hcn y hy (by omega), ← hcn j hj (by omega), q.2, hy2, ← h5.2, q.2, Nat.sub_self, Nat.pow_zero, Nat.div_one]
            omega
          · exact hst i a (by omega)
/-- the rows of the class are the model's -/
theorem rwst_rVS {ct od : Nat → Nat} {n : Nat} {rv sv : Nat → Nat} : ∀ i, (rwst ct od n rv sv i).2.2 = (rVS ct od n i).2 ∧ ∀ j, j < (rVS ct od n i).2 → (rwst ct od n rv sv i).1 j = (rVS ct od n i).1 j
  | 0 => ⟨rfl, fun j h => absurd h (by show ¬ j < 0; omega)⟩
  | i + 1 => by
    obtain ⟨h1, h2⟩ := rwst_rVS (ct := ct) (od := od) (n := n) (rv := rv) (sv := sv) i
    refine ⟨by show n + _ / 2 = n + _ / 2; rw [h1], fun j hj => ?_⟩
    have hj : j < n + (rVS ct od n i).2 / 2 := hj
    show rwp ct od (rwst ct od n rv sv i).1 n ((rwst ct od n rv sv i).2.2 / 2) (rwst ct od n rv sv i).2.1 (n + (rwst ct od n rv sv i).2.2 / 2) j = mvl ct od (rVS ct od n i).1 n ((rVS ct od n i).2 / 2) j
    rw [h1, rwp_at _ _ hj]
    exact mvl_cong (fun j9 h9 => h2 j9 (by omega)) hj
theorem mst_mono {ct od rv : Nat → Nat} {n pr a : Nat} : ∀ d, (mst ct od rv n pr a).1 ≤ (mst ct od rv n pr (a + d)).1
  | 0 => Nat.le_refl _
  | d + 1 => by
    have ih := mst_mono (ct := ct) (od := od) (rv := rv) (n := n) (pr := pr) (a := a) d
    show _ ≤ (mst ct od rv n pr (a + d + 1)).1
    by_cases h : sym ct od rv n pr (mst ct od rv n pr (a + d)) = true
    · rw [mst_s h]; show _ ≤ _ + 1; omega
    · rw [mst_p h]; exact ih
theorem plp_keep {ct od rv p0 : Nat → Nat} {n pr t a : Nat} (h : a < (mst ct od rv n pr t).1) : ∀ d, plp ct od rv n pr p0 (t + d) a = plp ct od rv n pr p0 t a
  | 0 => rfl
  | d + 1 => by
    have ih := plp_keep (p0 := p0) h d
    have hm := mst_mono (ct := ct) (od := od) (rv := rv) (n := n) (pr := pr) (a := t) d
    show plp ct od rv n pr p0 (t + d + 1) a = _
    by_cases hs : sym ct od rv n pr (mst ct od rv n pr (t + d)) = true
    · rw [plp_s hs, updN_n (by omega)]; exact ih
    · rw [plp_p hs]; exact ih
theorem plp_late {ct od rv p0 : Nat → Nat} {n pr t a : Nat} (h : (mst ct od rv n pr t).1 ≤ a) : ∀ d, a < (mst ct od rv n pr (t + d)).1 → t ≤ plp ct od rv n pr p0 (t + d) a
  | 0, h2 => absurd h2 (by show ¬ a < (mst ct od rv n pr t).1; omega)
  | d + 1, h2 => by
    have ih := plp_late (p0 := p0) h d
    have h2 : a < (mst ct od rv n pr (t + d + 1)).1 := h2
    show t ≤ plp ct od rv n pr p0 (t + d + 1) a
    by_cases hs : sym ct od rv n pr (mst ct od rv n pr (t + d)) = true
    · rw [plp_s hs]
      rw [mst_s hs] at h2
      have h2 : a < (mst ct od rv n pr (t + d)).1 + 1 := h2
      by_cases e : a = (mst ct od rv n pr (t + d)).1
      · rw [e, updN_s]; omega
      · rw [updN_n e]; exact ih (by omega)
    · rw [plp_p hs]
      rw [mst_p hs] at h2
      exact ih h2
theorem tks_cnt {p : Nat → Nat} {tk n k : Nat} (hk : k ≤ n) (h1 : ∀ a, a < k → p a < tk) (h2 : ∀ a, k ≤ a → a < n → tk ≤ p a) : ∀ f q, q + f = n → q ≤ k → tks p tk f q = k
  | 0, q, h, hq => by show q = k; omega
  | f + 1, q, h, hq => by
    unfold tks
    by_cases e : q = k
    · rw [if_neg (by have := h2 q (by omega) (by omega); omega)]; exact e
    · rw [if_pos (h1 q (by omega))]; exact tks_cnt hk h1 h2 f (q + 1) (by omega) (by omega)
theorem tks_mst {ct od rv p0 : Nat → Nat} {n pr tk : Nat} (h : tk ≤ n + pr) : tks (plp ct od rv n pr p0 (n + pr)) tk n 0 = (mst ct od rv n pr tk).1 := by
  obtain ⟨d, hd⟩ : ∃ d, n + pr = tk + d := ⟨n + pr - tk, by omega⟩
  refine tks_cnt (mst_le tk).1 (fun a ha => ?_) (fun a h1 h2 => ?_) n 0 (by omega) (Nat.zero_le _)
  · rw [hd, plp_keep ha]; exact (plp_at tk a ha).2
  · rw [hd]; exact plp_late h1 d (by rw [← hd, mst_full]; exact h2)
theorem plst_row {ct od : Nat → Nat} {n : Nat} {rv sv : Nat → Nat} {pl : Nat → Nat → Nat} : ∀ m k, k < m → ∃ p0, plst ct od n rv sv pl m k = plp ct od (rwst ct od n rv sv k).1 n ((rwst ct od n rv sv k).2.2 / 2) p0 (n + (rwst ct od n rv sv k).2.2 / 2)
  | 0, k, h => absurd h (by omega)
  | m + 1, k, h => by
    rw [plst]; unfold plg
    by_cases e : k = m
    · subst e; rw [if_pos rfl]; exact ⟨_, rfl⟩
    · rw [if_neg e]; exact plst_row m k (by omega)
/-- the class's lengths are the model's -/
theorem ctk_ctm {ct od : Nat → Nat} {n : Nat} {rv sv : Nat → Nat} {pl : Nat → Nat → Nat} {mo : Nat} : ∀ k (ln : Nat → Nat) (tk : Nat), k ≤ mo → tk ≤ (rVS ct od n k).2 → ctk (plst ct od n rv sv pl mo) od n k ln tk = ctm ct od n k ln tk
  | 0, ln, tk, _, _ => rfl
  | k + 1, ln, tk, hk, htk => by
    rw [ctk, ctm]
    obtain ⟨p0, hp⟩ := plst_row (ct := ct) (od := od) (n := n) (rv := rv) (sv := sv) (pl := pl) mo k (by omega)
    obtain ⟨h1, h2⟩ := rwst_rVS (ct := ct) (od := od) (n := n) (rv := rv) (sv := sv) k
    have htk2 : tk ≤ n + (rVS ct od n k).2 / 2 := htk
    have e : tks (plst ct od n rv sv pl mo k) tk n 0 = (Mk ct od n k tk).1 := by
      rw [hp, h1, tks_mst htk2]
      unfold Mk
      rw [mst_cong (fun j hj => h2 j (by omega))]
    have e2 : tk - (Mk ct od n k tk).1 = (Mk ct od n k tk).2 := by
      have := mst_sum (ct := ct) (od := od) (rv := (rVS ct od n k).1) (n := n) (pr := (rVS ct od n k).2 / 2) tk
      unfold Mk; omega
    rw [e, e2]
    exact ctk_ctm k _ _ (by omega) (ctm_tk htk)
theorem ctm_0 {ct od : Nat → Nat} : ∀ k (ln : Nat → Nat), ctm ct od 0 k ln 0 = ln
  | 0, ln => rfl
  | k + 1, ln => by
    rw [ctm]
    show ctm ct od 0 k (inc ln od 0) (2 * 0) = ln
    exact ctm_0 k ln
