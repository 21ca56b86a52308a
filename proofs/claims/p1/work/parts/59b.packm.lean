/-! pack on the new objects: the model's -/
noncomputable def ev_M1 : ev_M := fun d' a as S c e => cond (Nat.beq a 38) (match as with
  | .var p :: .var q :: .num n :: .var t :: [] => cond (and (Nat.beq d' 7) (and (Nat.beq p 71) (and (Nat.beq q 106) (and (Nat.beq n 288) (and (Nat.beq t 107) (and (Nat.beq S.1 gS5.1) (and (Nat.beq S.2.1 gS5.2.1) (ev_xb S.2.2 gS5.2.2)))))))) (c gS6) e
  | _ => e) e
theorem ev_M1_ok {xs : Nat → Int32} : ev_MK ev_M1 (tz_E 6 xs) := by
  intro d' a as S c e r H
  unfold ev_M1 at H
  cases hb : Nat.beq a 38 with
  | false => rw [hb] at H; exact .inl H
  | true =>
    rw [hb] at H
    have ea := Nat.eq_of_beq_eq_true hb
    subst ea
    dsimp only [cond_true] at H
    split at H
    · rename_i p q n t
      cases hc : (and (Nat.beq d' 7) (and (Nat.beq p 71) (and (Nat.beq q 106) (and (Nat.beq n 288) (and (Nat.beq t 107) (and (Nat.beq S.1 gS5.1) (and (Nat.beq S.2.1 gS5.2.1) (ev_xb S.2.2 gS5.2.2)))))))) with
      | false => rw [hc] at H; exact .inl H
      | true =>
        rw [hc] at H
        obtain ⟨h1, hc⟩ := ev_and hc
        obtain ⟨h2, hc⟩ := ev_and hc
        obtain ⟨h3, hc⟩ := ev_and hc
        obtain ⟨h4, hc⟩ := ev_and hc
        obtain ⟨h5, hc⟩ := ev_and hc
        obtain ⟨h6, hc⟩ := ev_and hc
        obtain ⟨h7, h8⟩ := ev_and hc
        have e1 := Nat.eq_of_beq_eq_true h1
        have e2 := Nat.eq_of_beq_eq_true h2
        have e3 := Nat.eq_of_beq_eq_true h3
        have e4 := Nat.eq_of_beq_eq_true h4
        have e5 := Nat.eq_of_beq_eq_true h5
        have eS : S = gS5 := by
          obtain ⟨s1, s2, s3⟩ := S
          rw [show s1 = gS5.1 from Nat.eq_of_beq_eq_true h6, show s2 = gS5.2.1 from Nat.eq_of_beq_eq_true h7, show s3 = gS5.2.2 from ev_xb_eq _ _ h8]
        subst e1 e2 e3 e4 e5
        rw [eS]
        refine .inr ⟨gS6, H, fun as' h Q ha hr hQ => ?_⟩
        refine ev_use (ev_scr0 6 xs) (ev_vb_eq q_codes) ?_ hr (fun o h' ho hr' => ?_)
        · obtain ⟨w1, r1, rfl, g1, ha1⟩ := ev_gs_cons ha
          obtain ⟨w2, r2, rfl, g2, ha2⟩ := ev_gs_cons ha1
          obtain ⟨w3, r3, rfl, ⟨y, rfl, g3⟩, ha3⟩ := ev_gs_cons ha2
          obtain ⟨w4, r4, rfl, g4, ha4⟩ := ev_gs_cons ha3
          have e := ev_gs_nil ha4
          subst e
          cases g1
          cases g2
          cases g4
          exact ⟨⟨_, rfl, rfl⟩, ⟨_, rfl, rfl⟩, ⟨_, rfl, ⟨y, rfl, g3⟩⟩, ⟨_, rfl, rfl⟩, ev_gl_rep _⟩
        · rw [ev_void ho]; exact hQ h' hr'
    · exact .inl H
theorem p_m : ev_is1 (ev_run kz ev_M1 1000000 10 150 (kz 150).1 ((ev_skip 363 cz_150).map ev_tr) (lw_sc ev_top ev_top) lw_ls [.num 2] gS4) = true := by decide +kernel
