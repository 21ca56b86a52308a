theorem z_th {X : ez_X} {E : Nat → Nat × (Nat → Int32)} {ml : Nat → Nat} {hn : Nat → Nat → Option (Nat × Nat)} {mi d pc a b k : Nat} {v : Int32} {cs : List ez_C} {ls : List (Option Value)} {h : ez_H} {Q : ez_Q} (hM : ez_n h + 1 ≤ ez_MC ∧ ez_u h + 6 ≤ ez_MS) (H : Q (.inr a) (ez_bump h)) : ez_gw X E ml hn mi d ((pc, .athrow, a, b, k, v) :: cs) 0 ls [] h Q := ⟨hM, H⟩
abbrev zMem (h : ez_H) : Prop := ez_n h + 1 ≤ ez_MC ∧ ez_u h + 6 ≤ ez_MS
/-! PRINTED by wip/p17/con6.py: contracts of the class, fifth part: Unpacker -/
