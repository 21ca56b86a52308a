/-! PURE WALKS -/
section PW
variable {E : Nat → Nat × (Nat → Int32)} {d : Nat}
abbrev pw (E : Nat → Nat × (Nat → Int32)) : ez_X := ez_Wp E tz_ml tz_hn tz_co
/-- Arrays.fill: every place -/
def pf_fill (f : Nat → Int32) (n : Nat) (v : Int32) : Nat → Int32 := fun j => if j < n then v else f j
theorem pf_fill_step {h : ez_H} {p i : Nat} {v : Int32} : ez_setI (ez_rowI h p (pf_fill (ez_I h p) i v)) p i v = ez_rowI h p (pf_fill (ez_I h p) (i + 1) v) := by
  unfold ez_setI ez_rowI
  simp only [ez_n, ez_u, ez_t, ez_l, ez_I, ez_L, ez_R]
  congr 5
  funext q j
  unfold ez_up2 ez_row pf_fill
  by_cases hq : q = p
  · subst hq
    by_cases hj : j = i
    · subst hj; simp
    · have : (j < i + 1) = (j < i) := by simp; omega
      simp [hj, this]
  · simp [hq]
theorem wp_fill_loop {h : ez_H} {p : Nat} {v : Int32} {Q : ez_Q} (ht : ez_t h p = 1000) (hl : ez_l h p ≤ 200000) (hQ : Q (.inl none) (ez_rowI h p (pf_fill (ez_I h p) (ez_l h p) v))) :
    ∀ (n i : Nat), i + n = ez_l h p → pw E d 148 5 [some (.ref p), some (.int v), some (.int (nI i)), some (.int (nI (ez_l h p)))] [] (ez_rowI h p (pf_fill (ez_I h p) i v)) Q := by
  intro n
  induction n with
  | zero =>
    intro i hi
    have : i = ez_l h p := by omega
    subst this
    apply ez_Wp_in
    show ez_gw _ _ _ _ _ _ cz_148 _ _ _ _ _
    refine ⟨fun c => ?_, fun c => ?_⟩
    · exact ⟨trivial, hQ⟩
    · exact absurd (nI_le (Nat.le_refl _) (by omega)) c
  | succ n ih =>
    intro i hi
    apply ez_Wp_in
    show ez_gw _ _ _ _ _ _ cz_148 _ _ _ _ _
    refine ⟨fun c => ?_, fun c => ?_⟩
    · exact absurd c (nI_ge (by omega) (by omega))
    · refine ⟨⟨ht, vp_in_nI (by show i < ez_l h p; omega) (by show ez_l h p < 2147483648; omega)⟩, ?_⟩
      have e1 : (nI i).toNatClampNeg = i := nI_clamp (by omega)
      have := ih (i + 1) (by omega)
      rw [← pf_fill_step, nI_succ] at this
      show pw E d 148 5 [some (.ref p), some (.int v), some (.int (nI i + 1)), some (.int (nI (ez_l h p)))] [] (ez_setI (ez_rowI h p (pf_fill (ez_I h p) i v)) p (nI i).toNatClampNeg v) Q
      rw [e1]
      exact this
end PW
