/-! unpacking in the model -/
theorem z_pow_le {a b : Nat} (h : a ≤ b) : (2 : Int) ^ a ≤ 2 ^ b := by exact_mod_cast Nat.pow_le_pow_right (n := 2) (by decide) h
/-- how often l stands among the first n -/
def cnI (f : Nat → Int32) (l : Int) : Nat → Nat
  | 0 => 0
  | n + 1 => cnI f l n + if (f n).toInt = l then 1 else 0
/-- g counts the lengths of the first n of f -/
def cM (g f : Nat → Int32) (n : Nat) : Prop := (g 0).toInt = 0 ∧ ∀ l : Nat, 1 ≤ l → l < 17 → (g l).toInt = cnI f l n
def cB (c l : Int32) : Prop := 0 ≤ c.toInt ∧ c.toInt < 2 ^ (l.toInt.toNat - 1)
/-! PRINTED by wip/p17/con9.py: contracts of the model, what reads bits -/
