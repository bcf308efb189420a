def fm (x : Int32) : Nat := (x.toInt % 3).toNat
theorem fm_lt (x : Int32) : fm x < 3 := by unfold fm; omega
theorem i32_eq {a b : Int32} (h : a.toInt = b.toInt) : a = b := Int32.toInt_inj.mp h
theorem rem3 (x : Int32) : (x - x / nI 3 * nI 3 = -2 ∧ fm x = 1 ∧ x.toInt < 0) ∨ (x - x / nI 3 * nI 3 = -1 ∧ fm x = 2 ∧ x.toInt < 0) ∨ (x - x / nI 3 * nI 3 = nI 0 ∧ fm x = 0 ∧ True) ∨ (x - x / nI 3 * nI 3 = nI 1 ∧ fm x = 1 ∧ 0 ≤ x.toInt) ∨ (x - x / nI 3 * nI 3 = nI 2 ∧ fm x = 2 ∧ 0 ≤ x.toInt) := by
  have h3 : (nI 3).toInt = 3 := by decide
  have hl := Int32.le_toInt x
  have hu := Int32.toInt_lt x
  have hq : (0 ≤ x.toInt ∧ x.toInt.tdiv 3 = x.toInt / 3) ∨ (x.toInt < 0 ∧ x.toInt.tdiv 3 = -((-x.toInt) / 3)) := by
    rcases Int.lt_or_le x.toInt 0 with k | k
    · refine Or.inr ⟨k, ?_⟩
      have : x.toInt.tdiv 3 = -((-x.toInt).tdiv 3) := by rw [Int.neg_tdiv, Int.neg_neg]
      rw [this, Int.tdiv_eq_ediv_of_nonneg (by omega)]
    · exact Or.inl ⟨k, Int.tdiv_eq_ediv_of_nonneg k⟩
  have hd : (x / nI 3).toInt = x.toInt.tdiv 3 := by
    rw [Int32.toInt_div, h3]
    apply Int.bmod_eq_of_le <;> omega
  have hm : (x / nI 3 * nI 3).toInt = x.toInt.tdiv 3 * 3 := by
    rw [Int32.toInt_mul, hd, h3]
    apply Int.bmod_eq_of_le <;> omega
  have hs : (x - x / nI 3 * nI 3).toInt = x.toInt - x.toInt.tdiv 3 * 3 := by
    rw [Int32.toInt_sub, hm]
    apply Int.bmod_eq_of_le <;> omega
  have c : ∀ (y : Int32), (x - x / nI 3 * nI 3).toInt = y.toInt → x - x / nI 3 * nI 3 = y := fun y h => Int32.toInt_inj.mp h
  have e2 : (-2 : Int32).toInt = -2 := by decide
  have e1 : (-1 : Int32).toInt = -1 := by decide
  have f0 : (nI 0).toInt = 0 := by decide
  have f1 : (nI 1).toInt = 1 := by decide
  have f2 : (nI 2).toInt = 2 := by decide
  unfold fm
  have key : x.toInt - x.toInt.tdiv 3 * 3 = -2 ∨ x.toInt - x.toInt.tdiv 3 * 3 = -1 ∨ x.toInt - x.toInt.tdiv 3 * 3 = 0 ∨ x.toInt - x.toInt.tdiv 3 * 3 = 1 ∨ x.toInt - x.toInt.tdiv 3 * 3 = 2 := by omega
  rcases key with k | k | k | k | k
  · exact Or.inl ⟨c _ (by rw [hs, k, e2]), by omega, by omega⟩
  · exact Or.inr (Or.inl ⟨c _ (by rw [hs, k, e1]), by omega, by omega⟩)
  · exact Or.inr (Or.inr (Or.inl ⟨c _ (by rw [hs, k, f0]), by omega, trivial⟩))
  · exact Or.inr (Or.inr (Or.inr (Or.inl ⟨c _ (by rw [hs, k, f1]), by omega, by omega⟩)))
  · exact Or.inr (Or.inr (Or.inr (Or.inr ⟨c _ (by rw [hs, k, f2]), by omega, by omega⟩)))
theorem rem33 (x : Int32) : (x - x / nI 3 * nI 3 + nI 3) - (x - x / nI 3 * nI 3 + nI 3) / nI 3 * nI 3 = nI (fm x) := by
  rcases rem3 x with ⟨h, k, -⟩ | ⟨h, k, -⟩ | ⟨h, k, -⟩ | ⟨h, k, -⟩ | ⟨h, k, -⟩ <;> rw [h, k] <;> decide +kernel
theorem msb3 (x : Int32) : (x ^^^ nI 3).toInt < 0 ↔ x.toInt < 0 := by
  have h : ∀ y : Int32, (y.toInt < 0 ↔ y.toBitVec.msb = true) := fun y => by
    rw [BitVec.msb_eq_toInt, decide_eq_true_iff]
    exact Iff.rfl
  rw [h, h, Int32.toBitVec_xor, BitVec.msb_xor, show (nI 3).toBitVec.msb = false by decide, Bool.xor_false]
theorem xor3n {x : Int32} (hx : x.toInt < 0) : ¬ 0 ≤ x ^^^ nI 3 := fun q => by
  have h1 := Int32.le_iff_toInt_le.mp q
  have h2 := (msb3 x).mpr hx
  have e : (0 : Int32).toInt = 0 := by decide
  omega
theorem xor3p {x : Int32} (hx : 0 ≤ x.toInt) : 0 ≤ x ^^^ nI 3 := Int32.le_iff_toInt_le.mpr (by
  have h2 := msb3 x
  have e : (0 : Int32).toInt = 0 := by decide
  omega)

