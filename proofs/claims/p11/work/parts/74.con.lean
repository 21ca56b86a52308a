/-! PRINTED by wip/p17/con2.py: contracts of the class, first part -/
/-- an array's kind and length, in every heap of the shape -/
def zA (w n : Nat) : Prop := ∀ h, zSh h → ez_t h w = 1000 ∧ ez_l h w = n
