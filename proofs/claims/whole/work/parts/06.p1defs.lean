/-! which exception a call on a fresh object throws: its number, 0 for none -/
def kcLet (x y : Int32) : Nat := if (0 ≤ x.toInt ∧ x.toInt ≤ 11) ∧ (0 ≤ y.toInt ∧ y.toInt ≤ 2) then 0 else 1
def kcAli (x y : Int32) : Nat := if (0 ≤ x.toInt ∧ x.toInt ≤ 11) ∧ (0 ≤ y.toInt ∧ y.toInt ≤ 11) then 0 else 1
def kcKno (x y : Int32) : Nat := if (0 ≤ x.toInt ∧ x.toInt ≤ 99) ∧ (0 ≤ y.toInt ∧ y.toInt ≤ 99) then 0 else 1
def kcFee (x y z : Int32) : Nat := if (1 ≤ x.toInt ∧ x.toInt ≤ 4) ∧ (1 ≤ y.toInt ∧ y.toInt ≤ 4) ∧ x.toInt ≠ y.toInt ∧ (0 ≤ z.toInt ∧ z.toInt ≤ 9) then 0 else 1
def kcCos (x y : Int32) : Nat := if (1 ≤ x.toInt ∧ x.toInt ≤ 9) ∧ (1 ≤ y.toInt ∧ y.toInt ≤ 9) then 0 else 1
def kcTri (x : Int32) : Nat := if x.toInt = 0 then 0 else 1
def kcCou (x : Int32) : Nat := if 0 ≤ x.toInt ∧ x.toInt ≤ 6 then 0 else 1
