/-! the model's findParts on an empty tape -/
section FP
variable {E : Nat → Nat × (Nat → Int32)} {d : Nat}
theorem wp_fp_loop {h : ez_H} {p q : Nat} {Q : ez_Q} (ht : ez_t h p = 2) (hq : ez_R h p 13 = q) (hq0 : q ≠ 0) (tq : ez_t h q = 1000) (lq : ez_l h q = 65536) (h6 : ez_I h p 6 = 0) (hpq : p ≠ q) (hQ : Q (.inl none) (ez_setI (ez_rowI h q (pf_fill (ez_I h q) 65536 (-1))) p 14 0)) :
    ∀ (n i : Nat), i + n = 65536 → pw E d 32 2 [some (.ref p), some (.int (nI i)), none, none] [] (ez_rowI h q (pf_fill (ez_I h q) i (-1))) Q := by
  intro n
  induction n with
  | zero =>
    intro i hi
    have : i = 65536 := by omega
    subst this
    have e6 : ez_I (ez_rowI h q (pf_fill (ez_I h q) 65536 (-1))) p 6 = 0 := by
      show ez_row (ez_I h) q (pf_fill (ez_I h q) 65536 (-1)) p 6 = 0
      unfold ez_row
      simp only [hpq, ↓reduceIte]
      exact h6
    apply ez_Wp_in
    show ez_gw _ _ _ _ _ _ cz_32 _ _ _ _ _
    refine ⟨fun c => ?_, fun c => ?_⟩
    · refine ⟨ht, fun c => ?_, fun c => ?_⟩
      · refine ⟨ht, fun c => ?_, fun c => ?_⟩
        · refine ⟨ht, ht, fun c => ⟨trivial, hQ⟩, fun c => ?_⟩
          exact absurd (show (0 : Int32) ≥ ez_I (ez_setI (ez_rowI h q (pf_fill (ez_I h q) 65536 (-1))) p 14 0) p 6 by
            show ez_up2 (ez_I (ez_rowI h q (pf_fill (ez_I h q) 65536 (-1)))) p 14 0 p 6 ≤ 0
            unfold ez_up2
            simp only [↓reduceIte]
            rw [if_neg (by decide), e6]
            decide) c
        · exact absurd (show ez_I (ez_rowI h q (pf_fill (ez_I h q) 65536 (-1))) p 6 ≤ 0 by rw [e6]; decide) c
      · exact absurd (show (0 : Int32) + 1 ≥ ez_I (ez_rowI h q (pf_fill (ez_I h q) 65536 (-1))) p 6 by rw [e6]; decide) c
    · exact absurd (by decide) c
  | succ n ih =>
    intro i hi
    apply ez_Wp_in
    show ez_gw _ _ _ _ _ _ cz_32 _ _ _ _ _
    refine ⟨fun c => ?_, fun c => ?_⟩
    · exact absurd c (nI_ge (b := 65536) (by omega) (by omega))
    · refine ⟨⟨ht, by show ez_R h p 13 ≠ 0; rw [hq]; exact hq0⟩, ?_⟩
      rw [show ez_R (ez_rowI h q (pf_fill (ez_I h q) i (-1))) p 13 = q from hq]
      refine ⟨⟨tq, vp_in_nI (by show i < ez_l h q; omega) (by show ez_l h q < 2147483648; omega)⟩, ?_⟩
      have e1 : (nI i).toNatClampNeg = i := nI_clamp (by omega)
      have := ih (i + 1) (by omega)
      rw [← pf_fill_step, nI_succ] at this
      show pw E d 32 2 [some (.ref p), some (.int (nI i + 1)), none, none] [] (ez_setI (ez_rowI h q (pf_fill (ez_I h q) i (-1))) q (nI i).toNatClampNeg (-1)) Q
      rw [e1]
      exact this
theorem pf_fill_0 {h : ez_H} {p : Nat} {v : Int32} : ez_rowI h p (pf_fill (ez_I h p) 0 v) = h := by
  obtain ⟨a1, a2, a3, a4, a5, a6, a7⟩ := h
  unfold ez_rowI ez_row pf_fill
  simp only [ez_n, ez_u, ez_t, ez_l, ez_I, ez_L, ez_R, Nat.not_lt_zero, ↓reduceIte]
  congr 5
  funext q
  by_cases hq : q = p <;> simp [hq]
end FP
