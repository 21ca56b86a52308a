/-! finding the parts in the model -/
/-- the code of a length or a distance: the last base that is not above it -/
def lcF (f : Nat → Int32) (n : Int) : Nat → Nat
  | 0 => 0
  | k + 1 => if (f (k + 1)).toInt > n then lcF f n k else k + 1
/-! PRINTED by wip/p17/con11.py: contracts of the model, the parts -/
