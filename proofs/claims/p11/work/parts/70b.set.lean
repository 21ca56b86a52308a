theorem ez_I_set_ne {h : ez_H} {p k q j : Nat} {v : Int32} (hn : ¬ (q = p ∧ j = k)) : ez_I (ez_setI h p k v) q j = ez_I h q j := by
  show ez_up2 (ez_I h) p k v q j = _
  unfold ez_up2
  by_cases hq : q = p
  · have : ¬ j = k := fun e => hn ⟨hq, e⟩
    simp only [hq, this, ↓reduceIte]
  · simp only [hq, ↓reduceIte]
theorem ez_I_set_eq {h : ez_H} {p k : Nat} {v : Int32} : ez_I (ez_setI h p k v) p k = v := by
  show ez_up2 (ez_I h) p k v p k = _
  unfold ez_up2
  simp only [↓reduceIte]
