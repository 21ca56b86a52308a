/-! the law up to its loop -/
theorem ev_rel0 : ev_rel (0, 0, .num 0) ez_h0 := ⟨rfl, rfl, fun p _ => trivial⟩
theorem ev_scr0 (L : Nat) (xs : Nat → Int32) : ev_scr [] (tz_E L xs) := ⟨fun h => absurd h (by decide), fun n h => absurd h (Nat.not_lt_zero n), fun j => rfl⟩
/-- what must hold at the loop's head -/
def lw_head (L : Nat) (xs : Nat → Int32) (h : ez_H) : Prop := ez_gw (ez_Wp (tz_E L xs) tz_ml tz_hn tz_co) (tz_E L xs) tz_ml (tz_hn 149) 149 10 cz_149 24 [some (.retAddr 0), some (.ref 1), some (.ref 71), some (.ref 126), some (.int 0), none, none] [] h (fun o _ => o = .inl (some (.int 1)))
theorem ev_void {o : ez_O} (h : ev_go (.inl none) o) : o = .inl none := by
  rcases o with o | o
  · rcases o with _ | o
    · rfl
    · exact absurd h id
  · exact absurd h id
set_option maxRecDepth 20000 in
theorem lw_upto {L : Nat} {xs : Nat → Int32} (H : ∀ h, ev_rel gS3 h → lw_head L xs h) : ez_Wp (tz_E L xs) tz_ml tz_hn tz_co 10 149 0 (ez_args 7 [.retAddr 0]) [] ez_h0 (fun o _ => o = .inl (some (.int 1))) := by
  apply ez_Wp_in
  show ez_gw _ _ _ _ _ _ cz_149 _ _ _ _ _
  obtain ⟨m1, S1, H1, r1⟩ := ev_nw_ok (h := ez_h0) ev_rel0 (ev_vb_eq run_1)
  refine ⟨m1, ?_⟩
  refine ⟨⟨rfl, rfl, rfl, rfl⟩, ?_⟩
  refine ev_use (ev_scr0 L xs) H1 (ls' := [some (.ref 1), none, none, none]) ⟨⟨_, rfl, rfl⟩, trivial, trivial, trivial, trivial⟩ r1 (fun o h1 ho hr1 => ?_)
  have ho := ev_void ho
  subst ho
  obtain ⟨m2, S2, H2, r2⟩ := ev_nw_ok (h := h1) hr1 (ev_vb_eq run_2)
  have e1 : ez_n h1 = 70 := hr1.1
  rw [e1] at H2
  refine ⟨m2, ?_⟩
  have e2 : ez_t (ez_new h1 2 0 70) (ez_n h1 + 1) = 2 := by
    show ez_up (ez_t h1) (ez_n h1 + 1) 2 (ez_n h1 + 1) = 2
    unfold ez_up
    simp only [↓reduceIte]
  refine ⟨⟨rfl, rfl, rfl, e2⟩, ?_⟩
  rw [e1]
  refine ev_use (ev_scr0 L xs) H2 (ls' := ez_args (tz_ml 24) [.ref 71]) ?_ r2 (fun o h2 ho hr2 => ?_)
  · exact ⟨⟨_, rfl, rfl⟩, ev_gl_rep _⟩
  have ho := ev_void ho
  subst ho
  obtain ⟨m3, S3, H3, r3⟩ := ev_nw_ok (h := h2) hr2 (ev_vb_eq run_3)
  have e3 : ez_n h2 = 125 := hr2.1
  refine ⟨⟨by decide, by decide, m3.1, m3.2⟩, ?_⟩
  have H3 : some (Sum.inl none, S3) = some (Sum.inl none, gS3) := H3
  cases H3
  have K := H _ r3
  show ez_gw _ _ _ _ _ _ _ 0 [some (.retAddr 0), some (.ref 1), some (.ref 71), some (.ref (ez_n h2 + 1)), some (.int 0), none, none] [] _ _
  rw [e3]
  exact K
