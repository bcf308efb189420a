/-- what holds between the class and the model, call by call -/
def Inv9 (rl wr : Nat) (ct : Nat → Nat) (lo ex : Nat → Int32) (fl : Nat) (ln cn : Nat → Nat) (st sz : Nat) (rb rg : Nat → Nat) (ml mx : Nat → Int32) (bt co : Nat → Nat) : Prop :=
  (wr < 2 ∧ st < 400 ∧ sz ≤ 400 ∧ fl = fll ln) ∧ (∀ j, j < 48 → ct j ≤ 1000000000) ∧ (∀ j, j < 48 → ln j ≤ 16) ∧ (fll ln ≤ 65536 → ∀ j, j < 48 → 0 < ln j → cn j = cdX rl ln j) ∧ (∀ j, j < 48 → cn j < 2 ^ 31) ∧ (∀ j, j < 48 → co j < 2 ^ 31)
  ∧ ((∀ j, j < 48 → lo j = if rg j = 0 then nI j else ml j) ∧ (∀ j, j < 48 → ex j = if rg j = 0 then nI 0 else mx j) ∧ (∀ j, j < 48 → -32 ≤ (mx j).toInt ∧ (mx j).toInt ≤ 32) ∧ ∀ j, j < 48 → rg j < 2)
  ∧ ((∀ j, j < sz → bt j = rb ((st + j) % 400)) ∧ (∀ j, j < 400 → bt j < 2) ∧ ∀ j, j < 400 → rb j < 2)
theorem cN_at {rl : Nat} {ln cn : Nat → Nat} (hf : fll ln ≤ 65536) {j : Nat} (hj : j < 48) (h0 : 0 < ln j) : cN rl ln cn j = cdX rl ln j := by
  unfold cN; rw [if_pos hf]; unfold cdG cdX cx; rw [if_pos ⟨hj, h0⟩]
theorem cN_b {rl : Nat} {ln cn : Nat → Nat} (hl : ∀ j, j < 48 → ln j ≤ 16) (hc : ∀ j, j < 48 → cn j < 2 ^ 31) (j : Nat) (hj : j < 48) : cN rl ln cn j < 2 ^ 31 := by
  by_cases hf : fll ln ≤ 65536
  · unfold cN; rw [if_pos hf]; exact cdG_b hl hf hc hj
  · unfold cN; rw [if_neg hf]; exact hc j hj
section IV
variable {rl wr : Nat} {ct : Nat → Nat} {lo ex : Nat → Int32} {fl : Nat} {ln cn : Nat → Nat} {st sz : Nat} {rb rg : Nat → Nat} {ml mx : Nat → Int32} {bt co : Nat → Nat}
theorem I9_lens (I : Inv9 rl wr ct lo ex fl ln cn st sz rb rg ml mx bt co) {ln2 rg2 : Nat → Nat} {lo2 ex2 ml2 mx2 : Nat → Int32} (hl : ∀ j, j < 48 → ln2 j ≤ 16)
    (G : (∀ j, j < 48 → lo2 j = if rg2 j = 0 then nI j else ml2 j) ∧ (∀ j, j < 48 → ex2 j = if rg2 j = 0 then nI 0 else mx2 j) ∧ (∀ j, j < 48 → -32 ≤ (mx2 j).toInt ∧ (mx2 j).toInt ≤ 32) ∧ ∀ j, j < 48 → rg2 j < 2) :
    Inv9 rl wr ct lo2 ex2 (fll ln2) ln2 (cN rl ln2 cn) st sz rb rg2 ml2 mx2 bt co := by
  obtain ⟨⟨a1, a2, a3, a4⟩, b, c, d, e, f, g, h⟩ := I
  exact ⟨⟨a1, a2, a3, rfl⟩, b, hl, fun hf j hj h0 => cN_at hf hj h0, fun j hj => cN_b hl e j hj, f, G, h⟩
theorem I9_given (I : Inv9 rl wr ct lo ex fl ln cn st sz rb rg ml mx bt co) {y L9 : Nat} (hL9 : L9 ≤ 16) :
    Inv9 rl wr ct (upd lo y (nI y)) (upd ex y (nI 0)) (fll (updN ln y L9)) (updN ln y L9) (cN rl (updN ln y L9) cn) st sz rb (updN rg y 0) ml mx bt co := by
  obtain ⟨g1, g2, g3, g4⟩ := I.2.2.2.2.2.2.1
  have hl := I.2.2.1
  refine I9_lens I (fun j hj => ?_) ⟨fun j hj => ?_, fun j hj => ?_, g3, fun j hj => ?_⟩
  · unfold updN; split
    · exact hL9
    · exact hl j hj
  · by_cases e : j = y
    · subst e; rw [pk_us, updN_s, if_pos rfl]
    · rw [pk_un e, updN_n e]; exact g1 j hj
  · by_cases e : j = y
    · subst e; rw [pk_us, updN_s, if_pos rfl]
    · rw [pk_un e, updN_n e]; exact g2 j hj
  · unfold updN; split
    · decide
    · exact g4 j hj
theorem e9b {e9 : Int32} (he : ¬ e9 < (-32)) (he2 : e9 ≤ nI 32) : -32 ≤ e9.toInt ∧ e9.toInt ≤ 32 := by
  have h1 : (-32 : Int32).toInt = -32 := by decide
  have h2 : (nI 32).toInt = 32 := by decide
  rw [Int32.lt_iff_toInt_lt, h1] at he
  rw [Int32.le_iff_toInt_le, h2] at he2
  omega
theorem I9_range (I : Inv9 rl wr ct lo ex fl ln cn st sz rb rg ml mx bt co) {y L9 : Nat} {lw e9 : Int32} (hL9 : L9 ≤ 16) (he : ¬ e9 < (-32)) (he2 : e9 ≤ nI 32) :
    Inv9 rl wr ct (upd lo y lw) (upd ex y e9) (fll (updN ln y L9)) (updN ln y L9) (cN rl (updN ln y L9) cn) st sz rb (updN rg y 1) (upd ml y lw) (upd mx y e9) bt co := by
  obtain ⟨g1, g2, g3, g4⟩ := I.2.2.2.2.2.2.1
  have hl := I.2.2.1
  refine I9_lens I (fun j hj => ?_) ⟨fun j hj => ?_, fun j hj => ?_, fun j hj => ?_, fun j hj => ?_⟩
  · unfold updN; split
    · exact hL9
    · exact hl j hj
  · by_cases e : j = y
    · subst e; rw [pk_us, updN_s, pk_us, if_neg (by decide)]
    · rw [pk_un e, updN_n e, pk_un e]; exact g1 j hj
  · by_cases e : j = y
    · subst e; rw [pk_us, updN_s, pk_us, if_neg (by decide)]
    · rw [pk_un e, updN_n e, pk_un e]; exact g2 j hj
  · by_cases e : j = y
    · subst e; rw [pk_us]; exact e9b he he2
    · rw [pk_un e]; exact g3 j hj
  · unfold updN; split
    · decide
    · exact g4 j hj
theorem I9_all (I : Inv9 rl wr ct lo ex fl ln cn st sz rb rg ml mx bt co) {ln2 : Nat → Nat} (hl : ∀ j, j < 48 → ln2 j ≤ 16) :
    Inv9 rl wr ct (fun j => nI j) (fun _ => nI 0) (fll ln2) ln2 (cN rl ln2 cn) st sz rb (fun _ => 0) ml mx bt co :=
  I9_lens I hl ⟨fun j hj => by rw [if_pos rfl], fun j hj => by rw [if_pos rfl], I.2.2.2.2.2.2.1.2.2.1, fun j hj => by decide⟩
theorem I9_count (I : Inv9 rl wr ct lo ex fl ln cn st sz rb rg ml mx bt co) {y n9 : Nat} (hn : n9 ≤ 1000000000) : Inv9 rl wr (updN ct y n9) lo ex fl ln cn st sz rb rg ml mx bt co := by
  obtain ⟨a, b, c⟩ := I
  exact ⟨a, fun j hj => by unfold updN; split; exact hn; exact b j hj, c⟩
theorem I9_feed (I : Inv9 rl wr ct lo ex fl ln cn st sz rb rg ml mx bt co) {bb : Nat} (hbb : bb < 2) :
    Inv9 rl wr ct lo ex fl ln cn st (if sz < 400 then sz + 1 else sz) (if sz < 400 then updN rb ((st + sz) % 400) bb else rb) rg ml mx (if sz < 400 then updN bt sz bb else bt) co := by
  by_cases h : sz < 400
  · simp only [if_pos h]
    obtain ⟨⟨a1, a2, a3, a4⟩, b, c, d, e, f, g, h1, h2, h3⟩ := I
    refine ⟨⟨a1, a2, by omega, a4⟩, b, c, d, e, f, g, fun j hj => ?_, fun j hj => ?_, fun j hj => ?_⟩
    · by_cases q : j = sz
      · subst q; rw [updN_s, updN_s]
      · rw [updN_n q, updN_n (by omega)]; exact h1 j (by omega)
    · unfold updN; split
      · exact hbb
      · exact h2 j hj
    · unfold updN; split
      · exact hbb
      · exact h3 j hj
  · simp only [if_neg h]; exact I
theorem I9_drop (I : Inv9 rl wr ct lo ex fl ln cn st sz rb rg ml mx bt co) {n : Nat} (hn : n ≤ sz) : Inv9 rl wr ct lo ex fl ln cn ((st + n) % 400) (sz - n) rb rg ml mx (drp bt n sz) co := by
  obtain ⟨⟨a1, a2, a3, a4⟩, b, c, d, e, f, g, h1, h2, h3⟩ := I
  refine ⟨⟨a1, by omega, by omega, a4⟩, b, c, d, e, f, g, fun j hj => ?_, fun j hj => ?_, h3⟩
  · unfold drp; rw [if_pos (by omega), h1 (j + n) (by omega)]
    congr 1; omega
  · unfold drp; split
    · exact h2 (j + n) (by omega)
    · exact h2 j hj
theorem I9_code (I : Inv9 rl wr ct lo ex fl ln cn st sz rb rg ml mx bt co) (hf : fll ln ≤ 65536) : Inv9 rl wr ct lo ex fl ln cn st sz rb rg ml mx bt (cdG (stc rl (shr ln 48)) ln co rl 48) := by
  obtain ⟨a, b, c, d, e, f, g⟩ := I
  exact ⟨a, b, c, d, e, fun j hj => cdG_b c hf f hj, g⟩
theorem I9_read (I : Inv9 rl wr ct lo ex fl ln cn st sz rb rg ml mx bt co) {w : Nat} (hw : w < 2) : Inv9 rl w ct lo ex fl ln cn st sz rb rg ml mx bt co := by
  obtain ⟨⟨a1, a2⟩, b⟩ := I
  exact ⟨⟨hw, a2⟩, b⟩
theorem I9_clear (I : Inv9 rl wr ct lo ex fl ln cn st sz rb rg ml mx bt co) :
    Inv9 rl 0 (fun _ => 0) (fun j => nI j) (fun _ => nI 0) (fll (fun _ => 0)) (fun _ => 0) (cN rl (fun _ => 0) cn) ((st + sz) % 400) 0 rb (fun _ => 0) ml mx bt co := by
  obtain ⟨⟨a1, a2, a3, a4⟩, b, c, d, e, f, g, h1, h2, h3⟩ := I9_all I (ln2 := fun _ => 0) (fun j hj => Nat.zero_le _)
  exact ⟨⟨by decide, by omega, by omega, rfl⟩, fun j hj => Nat.zero_le _, c, d, e, f, g, fun j hj => absurd hj (by omega), h2, h3⟩
theorem I9_exb (I : Inv9 rl wr ct lo ex fl ln cn st sz rb rg ml mx bt co) (j : Nat) (hj : j < 48) : -32 ≤ (ex j).toInt ∧ (ex j).toInt ≤ 32 := by
  obtain ⟨g1, g2, g3, g4⟩ := I.2.2.2.2.2.2.1
  rw [g2 j hj]
  have h0 : (nI 0).toInt = 0 := by decide
  split
  · rw [h0]; omega
  · exact g3 j hj
theorem I9_mrm (I : Inv9 rl wr ct lo ex fl ln cn st sz rb rg ml mx bt co) {y : Nat} (hy : y < 48) : mrm rg mx y = (ex y).toInt.natAbs := by
  obtain ⟨g1, g2, g3, g4⟩ := I.2.2.2.2.2.2.1
  rw [g2 y hy]
  unfold mrm
  by_cases h : rg y = 0
  · rw [if_pos h, if_pos h]; decide
  · rw [if_neg h, if_neg h]
theorem lN_0 (v : Int64) : v + lN 0 = v := Int64.add_zero v
theorem I9_vlm (I : Inv9 rl wr ct lo ex fl ln cn st sz rb rg ml mx bt co) {y : Nat} (hy : y < 48) (hw : ln y + (ex y).toInt.natAbs ≤ sz) :
    vlm rg ml mx y (nmm bt (ln y) (mrm rg mx y)) = (if (ex y) < 0 then (lo y).toInt64 - lN (nmb rb st (ln y) (ex y).toInt.natAbs) else (lo y).toInt64 + lN (nmb rb st (ln y) (ex y).toInt.natAbs)) := by
  obtain ⟨g1, g2, g3, g4⟩ := I.2.2.2.2.2.2.1
  rw [I9_mrm I hy, nmb_nmm I.2.2.2.2.2.2.2.1 (ln y) _ hw]
  unfold vlm
  have e1 := g1 y hy
  have e2 := g2 y hy
  by_cases h : rg y = 0
  · rw [if_pos h] at e1 e2 ⊢
    rw [e1, e2, show (nI 0).toInt.natAbs = 0 by decide, if_neg (by decide)]
    show lN y = (nI y).toInt64 + lN 0
    rw [lN_0, nI_l (by omega)]
  · rw [if_neg h] at e1 e2 ⊢
    rw [e1, e2]
end IV
/-- make, class and model -/
theorem mk0 {ct od : Nat → Nat} {mo : Nat} (hn : (srt ct 48 od 0).2 = 0) : ctm ct (srt ct 48 od 0).1 (srt ct 48 od 0).2 mo (fun _ => 0) (if (srt ct 48 od 0).2 = 0 then 0 else 2 * (srt ct 48 od 0).2 - 2) = (fun _ => 0) := by
  rw [hn, if_pos rfl]; exact ctm_0 mo _
theorem mk2 {ct od rv sv : Nat → Nat} {pl : Nat → Nat → Nat} {mo : Nat} (h1 : 1 ≤ mo) (h2 : 2 ≤ (srt ct 48 od 0).2) (hn : (srt ct 48 od 0).2 ≤ 2 ^ mo) :
    ctm ct (srt ct 48 od 0).1 (srt ct 48 od 0).2 mo (fun _ => 0) (if (srt ct 48 od 0).2 = 0 then 0 else 2 * (srt ct 48 od 0).2 - 2) = ctk (plst ct (srt ct 48 od 0).1 (srt ct 48 od 0).2 rv sv pl mo) (srt ct 48 od 0).1 (srt ct 48 od 0).2 mo (fun _ => 0) (2 * (srt ct 48 od 0).2 - 2) := by
  rw [if_neg (by omega)]
  exact (ctk_ctm mo _ _ (Nat.le_refl _) (rVS_last h1 hn)).symm
theorem mk2_le {ct od rv sv : Nat → Nat} {pl : Nat → Nat → Nat} {mo : Nat} (hmo : mo ≤ 16) (j : Nat) (_ : j < 48) : ctk (plst ct (srt ct 48 od 0).1 (srt ct 48 od 0).2 rv sv pl mo) (srt ct 48 od 0).1 (srt ct 48 od 0).2 mo (fun _ => 0) (2 * (srt ct 48 od 0).2 - 2) j ≤ 16 :=
  Nat.le_trans (ctk_le (srt_48i ct od) mo (fun _ => 0) _ j) (by omega)
/-- numbers out of the script -/
theorem inN {x : Int32} {k : Nat} (hk : k < 2 ^ 31) (h : ¬ (x < 0 ∨ ¬ x < nI k)) : ∃ y, y < k ∧ x = nI y := by
  have h1 : ¬ x < 0 := fun q => h (Or.inl q)
  have h2 : x < nI k := Classical.byContradiction fun q => h (Or.inr q)
  rw [Int32.lt_iff_toInt_lt] at h1 h2
  have e : (0 : Int32).toInt = 0 := by decide
  rw [e] at h1
  rw [nI_toInt hk] at h2
  refine ⟨x.toInt.toNat, by omega, Int32.toInt_inj.mp ?_⟩
  rw [nI_toInt (by omega)]; omega
theorem inN2 {x : Int32} {a k : Nat} (hk : k < 2 ^ 31) (h : ¬ (x < nI a ∨ ¬ x ≤ nI k)) (ha : a < 2 ^ 31) : ∃ y, a ≤ y ∧ y ≤ k ∧ x = nI y := by
  have h1 : ¬ x < nI a := fun q => h (Or.inl q)
  have h2 : x ≤ nI k := Classical.byContradiction fun q => h (Or.inr q)
  rw [Int32.lt_iff_toInt_lt, nI_toInt ha] at h1
  rw [Int32.le_iff_toInt_le, nI_toInt hk] at h2
  refine ⟨x.toInt.toNat, by omega, by omega, Int32.toInt_inj.mp ?_⟩
  rw [nI_toInt (by omega)]; omega
theorem inL {x : Int64} (h : ¬ (x < lN 0 ∨ lN 1000000000 < x)) : ∃ n, n ≤ 1000000000 ∧ x = lN n := by
  have h1 : ¬ x < lN 0 := fun q => h (Or.inl q)
  have h2 : ¬ lN 1000000000 < x := fun q => h (Or.inr q)
  rw [Int64.lt_iff_toInt_lt] at h1 h2
  have e : (lN 0).toInt = 0 := by decide
  have e2 : (lN 1000000000).toInt = 1000000000 := by decide +kernel
  rw [e] at h1
  rw [e2] at h2
  refine ⟨x.toInt.toNat, by omega, Int64.toInt_inj.mp ?_⟩
  show x.toInt = (Int64.ofNat x.toInt.toNat).toInt
  rw [Int64.toInt_ofNat_of_lt (by omega)]
  omega
theorem inN0 {x : Int32} {k : Nat} (hk : k < 2 ^ 31) (h : ¬ (x < 0 ∨ ¬ x ≤ nI k)) : ∃ y, y ≤ k ∧ x = nI y := by
  have h1 : ¬ x < 0 := fun q => h (Or.inl q)
  have h2 : x ≤ nI k := Classical.byContradiction fun q => h (Or.inr q)
  rw [Int32.lt_iff_toInt_lt] at h1
  have e : (0 : Int32).toInt = 0 := by decide
  rw [e] at h1
  rw [Int32.le_iff_toInt_le, nI_toInt hk] at h2
  refine ⟨x.toInt.toNat, by omega, Int32.toInt_inj.mp ?_⟩
  rw [nI_toInt (by omega)]; omega
theorem cdG_X {rl : Nat} {ln co : Nat → Nat} (j : Nat) (hj : j < 48) (h0 : 0 < ln j) : cdG (stc rl (shr ln 48)) ln co rl 48 j = cdX rl ln j := by
  unfold cdG cdX cx; rw [if_pos ⟨hj, h0⟩]
theorem codev {rl : Nat} {ln cn co : Nat → Nat} {y : Nat} (hy : y < 48) (hd : ∀ j, j < 48 → 0 < ln j → cn j = cdX rl ln j) : (if ln y = 0 then (-1 : Int64) else lN (cn y)) = (if ln y = 0 then (-1) else lN ((cdG (stc rl (shr ln 48)) ln co rl 48) y)) := by
  by_cases h : ln y = 0
  · rw [if_pos h, if_pos h]
  · rw [if_neg h, if_neg h, hd y hy (by omega), cdG_X y hy (by omega)]
theorem le5 {L i : Nat} (hL : L ≤ 2561) (hi : i ≤ 2561) (h : ¬ (nI L - nI 5 < nI i)) : i + 5 ≤ L := by
  rw [Int32.lt_iff_toInt_lt, Int32.toInt_sub, nI_toInt (by omega), nI_toInt (by omega), nI_toInt (by omega)] at h
  rw [Int.bmod_eq_of_le (by omega) (by omega)] at h
  omega
