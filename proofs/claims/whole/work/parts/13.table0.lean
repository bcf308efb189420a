/-- how many of the first n symbols have the length j -/
def shr (ln : Nat → Nat) : Nat → Nat → Nat
  | 0, _ => 0
  | n + 1, j => shr ln n j + if ln n = j then 1 else 0
theorem shr_le (ln : Nat → Nat) (j : Nat) : ∀ n, shr ln n j ≤ n
  | 0 => Nat.le_refl _
  | n + 1 => by have := shr_le ln j n; unfold shr; split <;> omega
theorem shr_upd (ln : Nat → Nat) (n : Nat) : updN (shr ln n) (ln n) (shr ln n (ln n) + 1) = shr ln (n + 1) := by
  funext j
  by_cases h : j = ln n
  · subst h; rw [updN_s]; simp [shr]
  · rw [updN_n h]; simp [shr, Ne.symm h]
theorem shr_mono (ln : Nat → Nat) (j : Nat) : ∀ {a b : Nat}, a ≤ b → shr ln a j ≤ shr ln b j
  | a, 0, h => by have : a = 0 := by omega
                  subst this; exact Nat.le_refl _
  | a, b + 1, h => by
    by_cases e : a = b + 1
    · subst e; exact Nat.le_refl _
    · have := shr_mono ln j (a := a) (b := b) (by omega)
      show _ ≤ shr ln b j + _
      omega
theorem shr_lt (ln : Nat → Nat) {j : Nat} (h : j < 48) : shr ln j (ln j) < shr ln 48 (ln j) := by
  have h1 : shr ln (j + 1) (ln j) = shr ln j (ln j) + 1 := by simp [shr]
  have h2 := shr_mono ln (ln j) (a := j + 1) (b := 48) (by omega)
  omega
/-- complete 0, incomplete 1, over-full 2 -/
def stt (fl : Nat) : Nat := if 65536 < fl then 2 else if fl = 65536 then 0 else 1
/-- shortest first: the number behind the codes of length k -/
def cbS (sn : Nat → Nat) : Nat → Nat
  | 0 => 0
  | k + 1 => 2 * cbS sn k + sn (k + 1)
/-- longest first: the number behind the codes of length 17 - k -/
def cbL (sn : Nat → Nat) : Nat → Nat
  | 0 => 0
  | k + 1 => (cbL sn k + 1) / 2 + sn (16 - k)
theorem cbL_le {sn : Nat → Nat} (h : ∀ j, sn j ≤ 48) : ∀ k, cbL sn k ≤ 100
  | 0 => Nat.zero_le _
  | k + 1 => by have := cbL_le h k; have := h (16 - k); show (cbL sn k + 1) / 2 + sn (16 - k) ≤ 100; omega
/-- the first code of a length -/
def stc (rl : Nat) (sn : Nat → Nat) (j : Nat) : Nat := if rl = 2 then (cbL sn (16 - j) + 1) / 2 else 2 * cbS sn (j - 1)
/-- the fill, in parts of 65536, of the lengths 1 .. k -/
def flp (sn : Nat → Nat) : Nat → Nat
  | 0 => 0
  | k + 1 => flp sn k + sn (k + 1) * (65536 / 2 ^ (k + 1))
/-- the code of a symbol with a length -/
def cdv (rl : Nat) (ln : Nat → Nat) (j : Nat) : Nat :=
  if rl = 1 then 2 ^ (ln j) - 1 - (stc rl (shr ln 48) (ln j) + shr ln j (ln j)) else stc rl (shr ln 48) (ln j) + shr ln j (ln j)
/-- the fill of a table -/
def fll (ln : Nat → Nat) : Nat := flp (shr ln 48) 16
theorem flp_le {sn : Nat → Nat} (h : ∀ j, sn j ≤ 48) : ∀ k, flp sn k ≤ k * 3145728
  | 0 => Nat.zero_le _
  | k + 1 => by
    have h1 := flp_le h k
    have h2 := h (k + 1)
    have h3 : 65536 / 2 ^ (k + 1) ≤ 65536 := Nat.div_le_self _ _
    have h4 : sn (k + 1) * (65536 / 2 ^ (k + 1)) ≤ 48 * 65536 := Nat.mul_le_mul h2 h3
    show flp sn k + sn (k + 1) * (65536 / 2 ^ (k + 1)) ≤ _
    omega
theorem fll_lt (ln : Nat → Nat) : fll ln < 2 ^ 31 := by
  have := flp_le (sn := shr ln 48) (fun j => shr_le ln j 48) 16
  unfold fll; omega
theorem cbS_flp (sn : Nat → Nat) : ∀ k, k ≤ 16 → cbS sn k * 2 ^ (16 - k) = flp sn k
  | 0, _ => by simp [cbS, flp]
  | k + 1, h => by
    have ih := cbS_flp sn k (by omega)
    have e1 : 2 ^ (16 - k) = 2 * 2 ^ (16 - (k + 1)) := by
      rw [← Nat.pow_succ']; congr 1; omega
    have e2 : 65536 / 2 ^ (k + 1) = 2 ^ (16 - (k + 1)) := by
      have : 65536 = 2 ^ (16 - (k + 1)) * 2 ^ (k + 1) := by rw [← Nat.pow_add]; rw [show 16 - (k + 1) + (k + 1) = 16 by omega]
      rw [this, Nat.mul_div_cancel _ (Nat.two_pow_pos _)]
    show (2 * cbS sn k + sn (k + 1)) * 2 ^ (16 - (k + 1)) = flp sn k + sn (k + 1) * (65536 / 2 ^ (k + 1))
    rw [e2, ← ih, e1, Nat.add_mul]
    congr 1
    rw [Nat.mul_assoc, Nat.mul_left_comm]
theorem flp_mono (sn : Nat → Nat) : ∀ {a b : Nat}, a ≤ b → flp sn a ≤ flp sn b
  | a, 0, h => by have : a = 0 := by omega
                  subst this; exact Nat.le_refl _
  | a, b + 1, h => by
    by_cases e : a = b + 1
    · subst e; exact Nat.le_refl _
    · have := flp_mono sn (a := a) (b := b) (by omega)
      show _ ≤ flp sn b + _
      omega
/-- a table that isn't over-full: codes of a length fit, shortest first -/
theorem kraftS {sn : Nat → Nat} (h : flp sn 16 ≤ 65536) {k : Nat} (hk : k ≤ 16) : cbS sn k ≤ 2 ^ k := by
  have h1 := cbS_flp sn k hk
  have h2 := flp_mono sn hk
  have e1 : 65536 = 2 ^ k * 2 ^ (16 - k) := by rw [← Nat.pow_add]; rw [show k + (16 - k) = 16 by omega]
  have h3 : cbS sn k * 2 ^ (16 - k) ≤ 2 ^ k * 2 ^ (16 - k) := by omega
  exact Nat.le_of_mul_le_mul_right h3 (Nat.two_pow_pos _)
theorem cdv_inv {rl : Nat} {ln : Nat → Nat} (hr : rl = 1) (h : fll ln ≤ 65536) {j : Nat} (hj : j < 48) (h0 : 0 < ln j) (h16 : ln j ≤ 16) : stc rl (shr ln 48) (ln j) + shr ln j (ln j) < 2 ^ (ln j) := by
  have h1 := shr_lt ln hj
  have h2 := kraftS (sn := shr ln 48) h h16
  obtain ⟨k, hk⟩ : ∃ k, ln j = k + 1 := ⟨ln j - 1, by omega⟩
  rw [hk] at h1 h2 ⊢
  subst hr
  simp only [stc, cbS] at h2 ⊢
  simp
  omega
/-- the next codes while lengths are gone through, shortest first -/
def nxS (sn xn : Nat → Nat) (k : Nat) : Nat → Nat := fun j => if 1 ≤ j ∧ j < k then 2 * cbS sn (j - 1) else xn j
theorem nxS_up (sn xn : Nat → Nat) (k : Nat) : updN (nxS sn xn (k + 1)) (k + 1) (2 * cbS sn k) = nxS sn xn (k + 2) := by
  funext j
  unfold updN nxS
  by_cases h : j = k + 1
  · subst h; simp
  · simp only [h, if_false]
    have : (1 ≤ j ∧ j < k + 1) ↔ (1 ≤ j ∧ j < k + 2) := by omega
    simp only [this]
/-- .. longest first -/
def nxL (sn xn : Nat → Nat) (k : Nat) : Nat → Nat := fun j => if k < j ∧ j ≤ 16 then (cbL sn (16 - j) + 1) / 2 else xn j
theorem nxL_up (sn xn : Nat → Nat) {k : Nat} (h0 : 0 < k) (hk : k ≤ 16) : updN (nxL sn xn k) k ((cbL sn (16 - k) + 1) / 2) = nxL sn xn (k - 1) := by
  funext j
  unfold updN nxL
  by_cases h : j = k
  · subst h; simp; omega
  · simp only [h, if_false]
    have : (k < j ∧ j ≤ 16) ↔ (k - 1 < j ∧ j ≤ 16) := by omega
    simp only [this]
theorem nxS_0 (sn xn : Nat → Nat) : nxS sn xn (0 + 1) = xn := by funext j; unfold nxS; rw [if_neg (by omega)]
theorem nxL_16 (sn xn : Nat → Nat) : nxL sn xn 16 = xn := by funext j; unfold nxL; rw [if_neg (by omega)]
/-- next codes and codes while symbols get theirs -/
def nxG (x0 ln : Nat → Nat) (s : Nat) : Nat → Nat := fun j => if j = 0 then x0 0 else x0 j + shr ln s j
def cdG (x0 ln cn : Nat → Nat) (rl s : Nat) : Nat → Nat := fun j => if j < s ∧ 0 < ln j then (if rl = 1 then 2 ^ (ln j) - 1 - (x0 (ln j) + shr ln j (ln j)) else x0 (ln j) + shr ln j (ln j)) else cn j
theorem nxG_up (x0 ln : Nat → Nat) (s : Nat) (h : 0 < ln s) : updN (nxG x0 ln s) (ln s) (nxG x0 ln s (ln s) + 1) = nxG x0 ln (s + 1) := by
  funext j
  unfold updN nxG
  by_cases e : j = ln s
  · subst e
    have : ln s ≠ 0 := by omega
    simp [this, shr]; omega
  · simp only [e, if_false, shr, Ne.symm e]
    simp
theorem nxG_keep (x0 ln : Nat → Nat) (s : Nat) (h : ln s = 0) : nxG x0 ln s = nxG x0 ln (s + 1) := by
  funext j
  unfold nxG
  by_cases e : j = 0
  · simp [e]
  · have : ¬ 0 = j := fun q => e q.symm
    simp [e, shr, h, this]
theorem cdG_keep (x0 ln cn : Nat → Nat) (rl s : Nat) (h : ln s = 0) : cdG x0 ln cn rl s = cdG x0 ln cn rl (s + 1) := by
  funext j
  unfold cdG
  have : (j < s ∧ 0 < ln j) ↔ (j < s + 1 ∧ 0 < ln j) := by
    constructor
    · intro q; exact ⟨by omega, q.2⟩
    · intro q
      have : j ≠ s := fun e => by rw [e, h] at q; exact absurd q.2 (by omega)
      exact ⟨by omega, q.2⟩
  simp only [this]
theorem cdG_up (x0 ln cn : Nat → Nat) (rl s : Nat) (h : 0 < ln s) : updN (cdG x0 ln cn rl s) s (if rl = 1 then 2 ^ (ln s) - 1 - nxG x0 ln s (ln s) else nxG x0 ln s (ln s)) = cdG x0 ln cn rl (s + 1) := by
  have hne : ln s ≠ 0 := by omega
  funext j
  unfold updN cdG nxG
  by_cases e : j = s
  · subst e; simp [h, hne]
  · simp only [e, if_false]
    have : (j < s ∧ 0 < ln j) ↔ (j < s + 1 ∧ 0 < ln j) := by omega
    simp only [this]
/-- what renew leaves -/
def cN (rl : Nat) (ln cn : Nat → Nat) : Nat → Nat := if fll ln ≤ 65536 then cdG (stc rl (shr ln 48)) ln cn rl 48 else cn
def xN (rl : Nat) (ln xn : Nat → Nat) : Nat → Nat := if fll ln ≤ 65536 then nxG (if rl = 2 then nxL (shr ln 48) xn 0 else nxS (shr ln 48) xn 17) ln 48 else xn
def oI (o : Option Nat) : Int32 := match o with
  | some s => nI s
  | none => -1
/-- the symbol's code has these first bits -/
def bgP (ln cn : Nat → Nat) (fi nn s : Nat) : Bool := decide (nn ≤ ln s) && decide (cn s / 2 ^ (ln s - nn) = fi)
def sbb (ln cn : Nat → Nat) (fi nn : Nat) : Option Nat := (List.range 48).find? (bgP ln cn fi nn)
/-- one more than the last of the first k symbols that has a length -/
def eol (ln : Nat → Nat) : Nat → Nat
  | 0 => 0
  | k + 1 => if ln k = 0 then eol ln k else k + 1
/-- how many from 'at' on, of n, have the length L -/
def rnf (ln : Nat → Nat) (L : Nat) : Nat → Nat → Nat
  | 0, _ => 0
  | n + 1, at9 => if ln at9 = L then rnf ln L n (at9 + 1) + 1 else 0
theorem rnf_step (ln : Nat → Nat) (L : Nat) {en at9 : Nat} (h : at9 < en) (e : ln at9 = L) : rnf ln L (en - at9) at9 = rnf ln L (en - (at9 + 1)) (at9 + 1) + 1 := by
  obtain ⟨k, hk⟩ : ∃ k, en - at9 = k + 1 := ⟨en - at9 - 1, by omega⟩
  rw [hk, show en - (at9 + 1) = k by omega]
  simp [rnf, e]
theorem rnf_stop (ln : Nat → Nat) (L : Nat) {en at9 : Nat} (h : at9 < en) (e : ln at9 ≠ L) : rnf ln L (en - at9) at9 = 0 := by
  obtain ⟨k, hk⟩ : ∃ k, en - at9 = k + 1 := ⟨en - at9 - 1, by omega⟩
  rw [hk]
  simp [rnf, e]
