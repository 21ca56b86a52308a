/-! closed runs: both constructors -/
noncomputable def ev_xb (a : ev_X) : ev_X → Bool := Nat.Internal.SOM.Expr.rec (motive := fun _ => ev_X → Bool) (fun n b => match b with
  | .num m => Nat.beq n m
  | _ => false) (fun n b => match b with
  | .var m => Nat.beq n m
  | _ => false) (fun _ _ il ir b => match b with
  | .add c d => and (il c) (ir d)
  | _ => false) (fun _ _ il ir b => match b with
  | .mul c d => and (il c) (ir d)
  | _ => false) a
theorem ev_xb_eq : ∀ (a b : ev_X), ev_xb a b = true → a = b := by
  intro a
  induction a with
  | num n => intro b h; cases b <;> first | (cases h; done) | exact congrArg _ (Nat.eq_of_beq_eq_true h)
  | var n => intro b h; cases b <;> first | (cases h; done) | exact congrArg _ (Nat.eq_of_beq_eq_true h)
  | add l r il ir => intro b h; cases b <;> first | (cases h; done) | (obtain ⟨h1, h2⟩ := ev_and h; rw [il _ h1, ir _ h2])
  | mul l r il ir => intro b h; cases b <;> first | (cases h; done) | (obtain ⟨h1, h2⟩ := ev_and h; rw [il _ h1, ir _ h2])
/-- a run ends with nothing, in this heap -/
noncomputable def ev_vb (r : ev_R) (S : ev_S) : Bool := match r with
  | some (.inl none, (n, u, t)) => and (Nat.beq n S.1) (and (Nat.beq u S.2.1) (ev_xb t S.2.2))
  | _ => false
theorem ev_vb_eq {r : ev_R} {S : ev_S} (h : ev_vb r S = true) : r = some (.inl none, S) := by
  unfold ev_vb at h
  split at h
  · obtain ⟨h1, h2⟩ := ev_and h
    obtain ⟨h2, h3⟩ := ev_and h2
    obtain ⟨n, u, t⟩ := S
    rw [Nat.eq_of_beq_eq_true h1, Nat.eq_of_beq_eq_true h2, ev_xb_eq _ _ h3]
  · cases h
noncomputable abbrev ev_rn (sc : List ev_X) (n d mi : Nat) : ev_N := ev_run kz ev_M0 n d mi (kz mi).1 (kz mi).2 sc
noncomputable def ev_nwS (tag len sl : Nat) (S : ev_S) : ev_S := (Nat.succ S.1, Nat.add S.2.1 sl, ev_ps 7 S.2.2 (Nat.succ S.1) (.mul (.add (.num tag) (.num len)) (.add (.num 0) (.add (.num 0) (.num 0)))))
theorem ev_use {sc : List ev_X} {E : Nat → Nat × (Nat → Int32)} (hsc : ev_scr sc E) {n d mi : Nat} {ls : ev_L} {S : ev_S} {r : (Option ev_X ⊕ Nat) × ev_S} (H : ev_rn sc n d mi ls [] S = some r) {ls' : List (Option Value)} {h : ez_H} {Q : ez_Q} (hl : ev_gl ls ls') (hr : ev_rel S h) (hQ : ∀ o h', ev_go r.1 o → ev_rel r.2 h' → Q o h') : ez_Wp E tz_ml tz_hn tz_co d mi 0 ls' [] h Q := by
  have H : ev_run kz ev_M0 n d mi (kz mi).1 (kz mi).2 sc ls [] S = some r := H
  rw [(kz_ko mi).1] at H
  have body := ev_sound (ev_M0_ok _) hsc kz_ko n d mi (tz_co mi) ⟨[], rfl⟩ ls [] S r ls' [] h Q H hl trivial hr hQ
  apply ez_Wp_in
  cases hco : tz_co mi with
  | nil => rw [hco] at body; exact body
  | cons e0 r0 =>
    have := (kz_ko mi).2.2.2 _ _ hco
    rw [hco] at body
    refine gw_skip _ ?_
    unfold ev_skip
    simp only [this, ↓reduceIte]
    exact body
