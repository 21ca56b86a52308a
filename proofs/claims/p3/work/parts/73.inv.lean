/-! THE CLASS'S OWN CELLS: what always holds of them -/
def zX (q : Nat) : Prop := q ≤ 70 ∧ q ≠ 7 ∧ q ≠ 8
def xI (h : ez_H) : Prop := zSh h ∧ (0 ≤ (ez_I h 2 1).toInt ∧ (ez_I h 2 1).toInt ≤ 6100) ∧ (0 ≤ (ez_I h 4 1).toInt ∧ (ez_I h 4 1).toInt ≤ 6100) ∧ (0 ≤ (ez_I h 50 1).toInt ∧ (ez_I h 50 1).toInt ≤ 6100) ∧ (0 ≤ (ez_I h 53 1).toInt ∧ (ez_I h 53 1).toInt ≤ 6000) ∧ (0 ≤ (ez_I h 55 2).toInt ∧ (ez_I h 55 2).toInt ≤ 10) ∧ (0 ≤ (ez_I h 61 5).toInt ∧ (ez_I h 61 5).toInt ≤ 316)
/-- a write that keeps it -/
def xW (p k : Nat) (v : Int32) : Prop := (p = 2 ∧ k = 1 → 0 ≤ v.toInt ∧ v.toInt ≤ 6100) ∧ (p = 4 ∧ k = 1 → 0 ≤ v.toInt ∧ v.toInt ≤ 6100) ∧ (p = 50 ∧ k = 1 → 0 ≤ v.toInt ∧ v.toInt ≤ 6100) ∧ (p = 53 ∧ k = 1 → 0 ≤ v.toInt ∧ v.toInt ≤ 6000) ∧ (p = 55 ∧ k = 2 → 0 ≤ v.toInt ∧ v.toInt ≤ 10) ∧ (p = 61 ∧ k = 5 → 0 ≤ v.toInt ∧ v.toInt ≤ 316)
theorem xI_at {h : ez_H} {p k q j : Nat} {v : Int32} {c : Int} (H : 0 ≤ (ez_I h q j).toInt ∧ (ez_I h q j).toInt ≤ c) (W : p = q ∧ k = j → 0 ≤ v.toInt ∧ v.toInt ≤ c) : 0 ≤ (ez_I (ez_setI h p k v) q j).toInt ∧ (ez_I (ez_setI h p k v) q j).toInt ≤ c := by
  by_cases e : q = p ∧ j = k
  · obtain ⟨rfl, rfl⟩ := e
    rw [ez_I_set_eq]
    exact W ⟨rfl, rfl⟩
  · rw [ez_I_set_ne e]
    exact H
theorem xI_set {h h2 : ez_H} {p k : Nat} {v : Int32} (X : xI h) (e : h2 = ez_setI h p k v) (W : xW p k v) : xI h2 := by
  subst e
  obtain ⟨x0, x1, x2, x3, x4, x5, x6⟩ := X
  obtain ⟨w1, w2, w3, w4, w5, w6⟩ := W
  exact ⟨x0, xI_at x1 w1, xI_at x2 w2, xI_at x3 w3, xI_at x4 w4, xI_at x5 w5, xI_at x6 w6⟩
theorem xI_L {h h2 : ez_H} {p k : Nat} {v : Int64} (X : xI h) (e : h2 = ez_setL h p k v) : xI h2 := by subst e; exact X
theorem xW_of {p k : Nat} {v : Int32} (h : p ≠ 2 ∧ p ≠ 4 ∧ p ≠ 50 ∧ p ≠ 53 ∧ p ≠ 55 ∧ p ≠ 61) : xW p k v := ⟨fun c => absurd c.1 h.1, fun c => absurd c.1 h.2.1, fun c => absurd c.1 h.2.2.1, fun c => absurd c.1 h.2.2.2.1, fun c => absurd c.1 h.2.2.2.2.1, fun c => absurd c.1 h.2.2.2.2.2⟩
theorem xI_row {h h2 : ez_H} {p : Nat} {g : Nat → Int32} (X : xI h) (e : h2 = ez_rowI h p g) (hp : p ≠ 2 ∧ p ≠ 4 ∧ p ≠ 50 ∧ p ≠ 53 ∧ p ≠ 55 ∧ p ≠ 61) : xI h2 := by
  subst e
  obtain ⟨x0, x1, x2, x3, x4, x5, x6⟩ := X
  have f : ∀ q j, q ≠ p → ez_I (ez_rowI h p g) q j = ez_I h q j := fun q j hq => by
    show ez_row (ez_I h) p g q j = _
    unfold ez_row
    simp only [hq, ↓reduceIte]
  refine ⟨x0, ?_, ?_, ?_, ?_, ?_, ?_⟩
  · rw [f 2 1 (fun c => hp.1 c.symm)]; exact x1
  · rw [f 4 1 (fun c => hp.2.1 c.symm)]; exact x2
  · rw [f 50 1 (fun c => hp.2.2.1 c.symm)]; exact x3
  · rw [f 53 1 (fun c => hp.2.2.2.1 c.symm)]; exact x4
  · rw [f 55 2 (fun c => hp.2.2.2.2.1 c.symm)]; exact x5
  · rw [f 61 5 (fun c => hp.2.2.2.2.2 c.symm)]; exact x6
theorem zF_L {P : Nat → Prop} {h h1 h2 : ez_H} {p k : Nat} {v : Int64} (A : zF P h h1) (e : h2 = ez_setL h1 p k v) (hp : P p) : zF P h h2 := by
  subst e
  refine zF_tr A ⟨rfl, rfl, rfl, rfl, rfl, fun q hq => ⟨rfl, ?_⟩⟩
  funext j
  show ez_up2 (ez_L h1) p k v q j = _
  unfold ez_up2
  have : ¬ q = p := fun c => hq (c ▸ hp)
  simp only [this, ↓reduceIte]
abbrev zE (E : Nat → Nat × (Nat → Int32)) : Prop := ∀ j, E (j + 1) = ((tz_ar (j + 1)).length, fun i => (tz_ar (j + 1)).getD i 0)
theorem zRow {h : ez_H} {p : Nat} (S : zSh h) (hp : p = 2 ∨ p = 4 ∨ p = 50) : ez_t h p = 12 ∧ ez_R h p 0 = p + 1 ∧ ez_t h (p + 1) = 1000 ∧ ez_l h (p + 1) = 6100 := by
  rcases hp with rfl | rfl | rfl <;> exact ⟨zT S (by decide) rfl, zRf S (by decide) (by decide) rfl, zT S (by decide) rfl, zN S (by decide) rfl⟩
theorem zCode {h : ez_H} {p : Nat} (S : zSh h) (hp : p = 15 ∨ p = 22 ∨ p = 29 ∨ p = 36 ∨ p = 43) : ez_t h p = 5 ∧ (ez_R h p 0 = p + 1 ∧ ez_R h p 1 = p + 2 ∧ ez_R h p 2 = p + 3 ∧ ez_R h p 3 = p + 4 ∧ ez_R h p 5 = p + 5 ∧ ez_R h p 6 = p + 6) ∧ (ez_t h (p + 1) = 1000 ∧ ez_t h (p + 2) = 1000 ∧ ez_t h (p + 3) = 1000 ∧ ez_t h (p + 4) = 1000 ∧ ez_t h (p + 5) = 1000 ∧ ez_t h (p + 6) = 1000) ∧ (ez_l h (p + 1) = 288 ∧ ez_l h (p + 2) = 288 ∧ ez_l h (p + 3) = 16 ∧ ez_l h (p + 4) = 288 ∧ ez_l h (p + 5) = 16 ∧ ez_l h (p + 6) = 16) := by
  rcases hp with rfl | rfl | rfl | rfl | rfl <;> exact ⟨zT S (by decide) rfl, ⟨zRf S (by decide) (by decide) rfl, zRf S (by decide) (by decide) rfl, zRf S (by decide) (by decide) rfl, zRf S (by decide) (by decide) rfl, zRf S (by decide) (by decide) rfl, zRf S (by decide) (by decide) rfl⟩, ⟨zT S (by decide) rfl, zT S (by decide) rfl, zT S (by decide) rfl, zT S (by decide) rfl, zT S (by decide) rfl, zT S (by decide) rfl⟩, zN S (by decide) rfl, zN S (by decide) rfl, zN S (by decide) rfl, zN S (by decide) rfl, zN S (by decide) rfl, zN S (by decide) rfl⟩
