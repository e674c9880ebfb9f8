/-! which exception a call on a fresh object throws: its number, 0 for none -/
def kcLet (x y : Int32) : Nat := if (0 ≤ x.toInt ∧ x.toInt ≤ 11) ∧ (0 ≤ y.toInt ∧ y.toInt ≤ 2) then 0 else 1
def kcAli (x y : Int32) : Nat := if (0 ≤ x.toInt ∧ x.toInt ≤ 11) ∧ (0 ≤ y.toInt ∧ y.toInt ≤ 11) then 0 else 1
def kcKno (x y : Int32) : Nat := if (0 ≤ x.toInt ∧ x.toInt ≤ 99) ∧ (0 ≤ y.toInt ∧ y.toInt ≤ 99) then 0 else 1
def kcFee (x y z : Int32) : Nat := if (1 ≤ x.toInt ∧ x.toInt ≤ 4) ∧ (1 ≤ y.toInt ∧ y.toInt ≤ 4) ∧ x.toInt ≠ y.toInt ∧ (0 ≤ z.toInt ∧ z.toInt ≤ 9) then 0 else 1
def kcCos (x y : Int32) : Nat := if (1 ≤ x.toInt ∧ x.toInt ≤ 9) ∧ (1 ≤ y.toInt ∧ y.toInt ≤ 9) then 0 else 1
def kcTri (x : Int32) : Nat := if x.toInt = 0 then 0 else 1
def kcCou (x : Int32) : Nat := if 0 ≤ x.toInt ∧ x.toInt ≤ 6 then 0 else 1
/-- the digits of a number are 1 to 4 -/
def okD (n : Nat) : Prop := ∀ k, n / 10 ^ k ≠ 0 → 1 ≤ n / 10 ^ k % 10 ∧ n / 10 ^ k % 10 ≤ 4
theorem okD_0 : okD 0 := fun k h => absurd (Nat.zero_div _) h
theorem okD_step {n : Nat} (h0 : n ≠ 0) : okD n ↔ (1 ≤ n % 10 ∧ n % 10 ≤ 4) ∧ okD (n / 10) := by
  have e : ∀ k, n / 10 / 10 ^ k = n / 10 ^ (k + 1) := fun k => by rw [Nat.div_div_eq_div_mul, Nat.pow_succ, Nat.mul_comm]
  constructor
  · intro h
    refine ⟨?_, fun k hk => ?_⟩
    · have := h 0 (by simpa using h0)
      simpa using this
    · rw [e] at hk ⊢
      exact h (k + 1) hk
  · rintro ⟨h1, h2⟩ k hk
    cases k with
    | zero => simpa using h1
    | succ k =>
      have := h2 k
      rw [e] at this
      exact this hk
theorem okD_le {n : Nat} (hn : n < 10000) (h : okD n) : n ≤ 4444 := by
  have a0 := h 0
  have a1 := h 1
  have a2 := h 2
  have a3 := h 3
  simp only [Nat.reducePow] at a0 a1 a2 a3
  omega
theorem okD_1 : okD 1 := (okD_step (by decide)).mpr ⟨by decide, okD_0⟩
/-- a row of a letter: 0, or 1 to 4 digits from 1 to 4 -/
def rowP (x : Int32) : Prop := 0 ≤ x.toInt ∧ x.toInt < 10000 ∧ okD x.toInt.toNat
noncomputable def kcSet (x y : Int32) : Nat := by
  classical exact if 0 ≤ x.toInt ∧ x.toInt ≤ 11 then (if rowP y then 0 else 2) else 1
def dgf : Nat → Int64
  | 0 => lN 571
  | k + 1 => dgf k * lN 31 + (nI 0).toInt64
def feelv (k : Nat) : Nat := if k / 5 = k % 5 then 0 else 3
theorem feel_ab {F : Nat → Nat} (h : ∀ k, k < 25 → F k = feelv k) {a b : Nat} (ha : 1 ≤ a ∧ a < 5) (hb : 1 ≤ b ∧ b < 5) (hab : a ≠ b) : F (5 * a + b) = 3 := by
  rw [h _ (by omega)]
  unfold feelv
  rw [if_neg (by omega)]
