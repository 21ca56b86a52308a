/-! THE PURE MACHINE AND THE MACHINE: values and locals -/
/-- an own cell stands B beyond its number; an outer array where ea says -/
def ez_tr (B : Nat) (ea : Nat → Nat) (v : Value) : Value := match v with
  | .ref p => .ref (B + p)
  | .retAddr j => .ref (ea j)
  | v => v
def ez_lv (B : Nat) (ea : Nat → Nat) (ls : List (Option Value)) : List (Nat × Value) := (List.range ls.length).filterMap (fun i => (ls.getD i none).map (fun v => (i, ez_tr B ea v)))
theorem ez_lv_mem {B : Nat} {ea : Nat → Nat} {ls : List (Option Value)} {q : Nat × Value} : q ∈ ez_lv B ea ls ↔ ∃ v, ls.getD q.1 none = some v ∧ q.2 = ez_tr B ea v := by
  constructor
  · intro h
    obtain ⟨i, -, hi⟩ := List.mem_filterMap.mp h
    cases hv : ls.getD i none with
    | none => rw [hv] at hi; cases hi
    | some v =>
      rw [hv] at hi
      cases hi
      exact ⟨v, hv, rfl⟩
  · rintro ⟨v, h1, h2⟩
    refine List.mem_filterMap.mpr ⟨q.1, List.mem_range.mpr ?_, ?_⟩
    · rcases Nat.lt_or_ge q.1 ls.length with z | z
      · exact z
      · rw [List.getD_eq_getElem?_getD, List.getElem?_eq_none z] at h1
        cases h1
    · rw [h1]
      show some (q.1, ez_tr B ea v) = some q
      rw [← h2]
theorem ez_lv_at {B : Nat} {ea : Nat → Nat} {lsM : Array Slot} {nL : Nat} {ls : List (Option Value)} (h : lv_has lsM nL (ez_lv B ea ls)) {i : Nat} {v : Value} (hv : ls.getD i none = some v) : lsM[i]? = some (.val (ez_tr B ea v)) :=
  h.2.2 (i, ez_tr B ea v) (ez_lv_mem.mpr ⟨v, hv, rfl⟩)
theorem ez_lv_sub {B : Nat} {ea : Nat → Nat} {lsM : Array Slot} {nL : Nat} {ls : List (Option Value)} {l : List (Nat × Value)} (h : lv_has lsM nL l) (hs : ∀ q ∈ ez_lv B ea ls, q ∈ l) : lv_has lsM nL (ez_lv B ea ls) := ⟨h.1, h.2.1, fun q hq => h.2.2 q (hs q hq)⟩
theorem ez_getD_set {ls : List (Option Value)} {k j : Nat} {w : Option Value} {v : Value} (h : (ls.set k w).getD j none = some v) : (j = k ∧ w = some v) ∨ (j ≠ k ∧ ls.getD j none = some v) := by
  by_cases hj : j = k
  · subst hj
    left
    refine ⟨rfl, ?_⟩
    rw [List.getD_eq_getElem?_getD] at h
    by_cases hl : j < ls.length
    · rw [List.getElem?_set_self hl] at h
      exact h
    · rw [List.getElem?_eq_none (by rw [List.length_set]; omega)] at h
      cases h
  · right
    refine ⟨hj, ?_⟩
    rw [List.getD_eq_getElem?_getD, List.getElem?_set_ne (Ne.symm hj)] at h
    rw [List.getD_eq_getElem?_getD]
    exact h
theorem ez_tr_cat (B : Nat) (ea : Nat → Nat) (v : Value) : (ez_tr B ea v).category = v.category := by cases v <;> rfl
/-- what is left of the locals where one is set: none of its own, no long ahead of it -/
theorem ez_cut_get {ls : List (Option Value)} {k j : Nat} {v : Value} (h : (ez_cut ls k).getD j none = some v) : ls.getD j none = some v ∧ ¬ (j + 1 = k ∧ v.category = 2) := by
  unfold ez_cut at h
  cases k with
  | zero => exact ⟨h, fun q => by omega⟩
  | succ i =>
    simp only at h
    split at h
    · rcases ez_getD_set h with ⟨-, h2⟩ | ⟨h1, h2⟩
      · cases h2
      · exact ⟨h2, fun q => by omega⟩
    · rcases ez_getD_set h with ⟨-, h2⟩ | ⟨h1, h2⟩
      · cases h2
      · exact ⟨h2, fun q => by omega⟩
    · rename_i hx hy
      refine ⟨h, fun q => ?_⟩
      obtain ⟨q1, q2⟩ := q
      have : j = i := by omega
      subst this
      cases v with
      | long x => exact hx x h
      | double x => exact hy x h
      | _ => cases q2
/-- the locals where one of one place is set, as the machine has them -/
theorem ez_lv_set {B : Nat} {ea : Nat → Nat} {lsM : Array Slot} {nL k : Nat} {ls : List (Option Value)} {v : Value} (h : lv_has lsM nL ((k, ez_tr B ea v) :: (ez_lv B ea ls).filter (fun q => !(q.1 == k) && !(q.1 + 1 == k && q.2.category == 2)))) : lv_has lsM nL (ez_lv B ea ((ez_cut ls k).set k (some v))) := by
  refine ez_lv_sub h fun q hq => ?_
  obtain ⟨w, h1, h2⟩ := ez_lv_mem.mp hq
  rcases ez_getD_set h1 with ⟨e1, e2⟩ | ⟨e1, e2⟩
  · cases e2
    refine List.mem_cons.mpr (Or.inl ?_)
    obtain ⟨q1, q2⟩ := q
    simp only at e1 h2
    rw [e1, h2]
  · obtain ⟨f1, f2⟩ := ez_cut_get e2
    refine List.mem_cons.mpr (Or.inr (List.mem_filter.mpr ⟨ez_lv_mem.mpr ⟨w, f1, h2⟩, ?_⟩))
    simp only [Bool.and_eq_true, Bool.not_eq_true', beq_eq_false_iff_ne, ne_eq, Bool.and_eq_false_iff]
    refine ⟨e1, ?_⟩
    by_cases z : q.1 + 1 = k
    · right
      intro y
      rw [h2, ez_tr_cat] at y
      exact f2 ⟨z, y⟩
    · exact Or.inl z
/-- .. and one of two places -/
theorem ez_lv_set2 {B : Nat} {ea : Nat → Nat} {lsM : Array Slot} {nL k : Nat} {ls : List (Option Value)} {v : Value} (h : lv_has lsM nL ((k, ez_tr B ea v) :: (ez_lv B ea ls).filter (fun q => !(q.1 == k) && (!(q.1 == k + 1) && !(q.1 + 1 == k && q.2.category == 2))))) : lv_has lsM nL (ez_lv B ea (((ez_cut ls k).set k (some v)).set (k + 1) none)) := by
  refine ez_lv_sub h fun q hq => ?_
  obtain ⟨w, h1, h2⟩ := ez_lv_mem.mp hq
  rcases ez_getD_set h1 with ⟨e1, e2⟩ | ⟨e0, e2⟩
  · cases e2
  · rcases ez_getD_set e2 with ⟨e1, e2⟩ | ⟨e1, e2⟩
    · cases e2
      refine List.mem_cons.mpr (Or.inl ?_)
      obtain ⟨q1, q2⟩ := q
      simp only at e1 h2
      rw [e1, h2]
    · obtain ⟨f1, f2⟩ := ez_cut_get e2
      refine List.mem_cons.mpr (Or.inr (List.mem_filter.mpr ⟨ez_lv_mem.mpr ⟨w, f1, h2⟩, ?_⟩))
      simp only [Bool.and_eq_true, Bool.not_eq_true', beq_eq_false_iff_ne, ne_eq, Bool.and_eq_false_iff]
      refine ⟨e1, e0, ?_⟩
      by_cases z : q.1 + 1 = k
      · right
        intro y
        rw [h2, ez_tr_cat] at y
        exact f2 ⟨z, y⟩
      · exact Or.inl z
/-- a local is forgotten -/
theorem ez_lv_none {B : Nat} {ea : Nat → Nat} {lsM : Array Slot} {nL k : Nat} {ls : List (Option Value)} {v : Value} (h : lv_has lsM nL ((k, v) :: (ez_lv B ea ls).filter (fun q => !(q.1 == k) && !(q.1 + 1 == k && q.2.category == 2)))) : lv_has lsM nL (ez_lv B ea ((ez_cut ls k).set k none)) := by
  refine ez_lv_sub h fun q hq => ?_
  obtain ⟨w, h1, h2⟩ := ez_lv_mem.mp hq
  rcases ez_getD_set h1 with ⟨e1, e2⟩ | ⟨e1, e2⟩
  · cases e2
  · obtain ⟨f1, f2⟩ := ez_cut_get e2
    refine List.mem_cons.mpr (Or.inr (List.mem_filter.mpr ⟨ez_lv_mem.mpr ⟨w, f1, h2⟩, ?_⟩))
    simp only [Bool.and_eq_true, Bool.not_eq_true', beq_eq_false_iff_ne, ne_eq, Bool.and_eq_false_iff]
    refine ⟨e1, ?_⟩
    by_cases z : q.1 + 1 = k
    · right
      intro y
      rw [h2, ez_tr_cat] at y
      exact f2 ⟨z, y⟩
    · exact Or.inl z
