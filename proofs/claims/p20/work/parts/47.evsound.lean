section
/-! THE EVALUATOR IS RIGHT -/
noncomputable def ev_skip (t : Nat) : List ez_C → List ez_C
  | [] => []
  | e :: r => if e.1 = t then e :: r else ev_skip t r
theorem ev_past_ne {t pc : Nat} (h : ¬ pc = t) : ez_past (t + 1) pc = true := by
  unfold ez_past
  rw [ev_beq, ev_beq]
  have : ¬ t = pc := fun e => h e.symm
  simp [this]
theorem ev_past_eq {t : Nat} : ez_past (t + 1) t = false := by
  unfold ez_past
  rw [ev_beq, ev_beq]
  simp
theorem gw_skip {X : ez_X} {E : Nat → Nat × (Nat → Int32)} {ml : Nat → Nat} {hn : Nat → Nat → Option (Nat × Nat)} {mi d t : Nat} {ls : List (Option Value)} {st : List Value} {h : ez_H} {Q : ez_Q} : ∀ cs : List ez_C, ez_gw X E ml hn mi d (ev_skip t cs) 0 ls st h Q → ez_gw X E ml hn mi d cs (t + 1) ls st h Q := by
  intro cs
  induction cs with
  | nil => exact id
  | cons e r ih =>
    intro H
    obtain ⟨pc, i, a, b, k, v⟩ := e
    unfold ev_skip at H
    by_cases he : pc = t
    · subst he
      simp only [↓reduceIte] at H
      unfold ez_gw at H ⊢
      simp only [show ez_past 0 pc = false from rfl] at H
      simp only [ev_past_eq]
      exact H
    · simp only [he, ↓reduceIte] at H
      unfold ez_gw
      simp only [ev_past_ne he]
      exact ih H
/-- places rise -/
noncomputable def ev_srt : List ez_C → Bool
  | [] => true
  | e :: r => (match r with
    | [] => true
    | e' :: _ => Nat.blt e.1 e'.1) && ev_srt r
theorem ev_srt_lt : ∀ {cs : List ez_C} {e : ez_C}, ev_srt (e :: cs) = true → ∀ q ∈ cs, e.1 < q.1
  | [], _, _, q, hq => absurd hq List.not_mem_nil
  | e' :: r, e, h, q, hq => by
    unfold ev_srt at h
    obtain ⟨h1, h2⟩ := ev_and h
    have h1 := Nat.blt_eq.mp h1
    rcases List.mem_cons.mp hq with rfl | hq
    · exact h1
    · exact Nat.lt_trans h1 (ev_srt_lt h2 q hq)
theorem ev_srt_tl {cs : List ez_C} {e : ez_C} (h : ev_srt (e :: cs) = true) : ev_srt cs = true := by
  unfold ev_srt at h
  exact (ev_and h).2
theorem ev_skip_suf : ∀ (pre : List ez_C) {e : ez_C} {cs : List ez_C} {t : Nat}, ev_srt (pre ++ e :: cs) = true → e.1 < t → ev_skip t (pre ++ e :: cs) = ev_skip t cs
  | [], e, cs, t, _, ht => by
    show (if e.1 = t then _ else _) = _
    have : ¬ e.1 = t := by omega
    simp only [this, ↓reduceIte]
  | p :: pre, e, cs, t, h, ht => by
    show (if p.1 = t then _ else ev_skip t (pre ++ e :: cs)) = _
    have := ev_srt_lt h e (List.mem_append_right _ List.mem_cons_self)
    have : ¬ p.1 = t := by omega
    simp only [this, ↓reduceIte]
    exact ev_skip_suf pre (ev_srt_tl h) ht
theorem ev_skip_is : ∀ (cs : List ez_C) (t : Nat), ∃ pre, cs = pre ++ ev_skip t cs
  | [], _ => ⟨[], rfl⟩
  | e :: r, t => by
    unfold ev_skip
    by_cases h : e.1 = t
    · simp only [h, ↓reduceIte]; exact ⟨[], rfl⟩
    · simp only [h, ↓reduceIte]
      obtain ⟨pre, hp⟩ := ev_skip_is r t
      exact ⟨e :: pre, by rw [List.cons_append, ← hp]⟩
/-- the evaluator's tables are the program's -/
def ev_KO (CO : Nat → ev_U × List ev_K) : Prop := ∀ mi, (CO mi).2 = (tz_co mi).map ev_tr ∧ (∀ t, ev_lk t (CO mi).1 = [] ∨ ev_lk t (CO mi).1 = (ev_skip t (tz_co mi)).map ev_tr) ∧ ev_srt (tz_co mi) = true ∧ (∀ e r, tz_co mi = e :: r → e.1 = 0)
def ev_Snd (CO : Nat → ev_U × List ev_K) (sc : List ev_X) (E : Nat → Nat × (Nat → Int32)) (ih : ev_G) : Prop := ∀ (d mi : Nat) (cs : List ez_C), (∃ pre, tz_co mi = pre ++ cs) → ev_NX (fun ls st h Q => ez_gw (ez_Wp E tz_ml tz_hn tz_co) E tz_ml (tz_hn mi) mi d cs 0 ls st h Q) (ih d mi (CO mi).1 (cs.map ev_tr) sc)
section SND
variable {CO : Nat → ev_U × List ev_K} {sc : List ev_X} {E : Nat → Nat × (Nat → Int32)} {ih : ev_G}
/-- a jump -/
theorem ev_to_ok (hK : ev_KO CO) (hI : ev_Snd CO sc E ih) {d mi : Nat} (t : Nat) : ev_NX (fun ls st h Q => ez_gw (ez_Wp E tz_ml tz_hn tz_co) E tz_ml (tz_hn mi) mi d (tz_co mi) (t + 1) ls st h Q ∧ ez_gw (ez_Wp E tz_ml tz_hn tz_co) E tz_ml (tz_hn mi) mi d (ev_skip t (tz_co mi)) 0 ls st h Q) (fun ls st S => ih d mi (CO mi).1 (ev_lk t (CO mi).1) sc ls st S) := by
  intro ls st S r ls' st' h Q H hl hs hr hQ
  rcases (hK mi).2.1 t with e | e
  · rw [e] at H
    exact absurd (hI d mi [] ⟨tz_co mi, (List.append_nil _).symm⟩ ls st S r ls' st' h Q H hl hs hr hQ) id
  · rw [e] at H
    have := hI d mi (ev_skip t (tz_co mi)) (ev_skip_is _ _) ls st S r ls' st' h Q H hl hs hr hQ
    exact ⟨gw_skip _ this, this⟩
theorem ev_fl_eq {α β : Type} : ∀ (l : List α) (c : List α → β), ev_fl l c = c l
  | [], _ => rfl
  | x :: l, c => ev_fl_eq l (fun r => c (x :: r))
theorem ev_gs_take : ∀ (n : Nat) {st : List ev_X} {st' : List Value}, ev_gs st st' → ev_gs (st.take n) (st'.take n)
  | 0, _, _, _ => trivial
  | n + 1, [], [], _ => trivial
  | n + 1, x :: r, v :: r', h => ⟨h.1, ev_gs_take n h.2⟩
  | n + 1, [], _ :: _, h => absurd h id
  | n + 1, _ :: _, [], h => absurd h id
theorem ev_gs_drop : ∀ (n : Nat) {st : List ev_X} {st' : List Value}, ev_gs st st' → ev_gs (st.drop n) (st'.drop n)
  | 0, _, _, h => h
  | n + 1, [], [], _ => trivial
  | n + 1, x :: r, v :: r', h => ev_gs_drop n h.2
  | n + 1, [], _ :: _, h => absurd h id
  | n + 1, _ :: _, [], h => absurd h id
theorem ev_gs_app : ∀ {st : List ev_X} {st' : List Value} {t : List ev_X} {t' : List Value}, ev_gs st st' → ev_gs t t' → ev_gs (st ++ t) (st' ++ t')
  | [], [], _, _, _, h => h
  | x :: r, v :: r', _, _, h, h' => ⟨h.1, ev_gs_app h.2 h'⟩
  | [], _ :: _, _, _, h, _ => absurd h id
  | _ :: _, [], _, _, h, _ => absurd h id
theorem ev_gs_rev : ∀ {st : List ev_X} {st' : List Value}, ev_gs st st' → ev_gs st.reverse st'.reverse
  | [], [], _ => trivial
  | x :: r, v :: r', h => by
    rw [List.reverse_cons, List.reverse_cons]
    exact ev_gs_app (ev_gs_rev h.2) ⟨h.1, trivial⟩
  | [], _ :: _, h => absurd h id
  | _ :: _, [], h => absurd h id
theorem ev_gs_len : ∀ {st : List ev_X} {st' : List Value}, ev_gs st st' → st'.length = st.length
  | [], [], _ => rfl
  | x :: r, v :: r', h => congrArg (· + 1) (ev_gs_len h.2)
  | [], _ :: _, h => absurd h id
  | _ :: _, [], h => absurd h id
theorem ev_gl_len : ∀ {ls : ev_L} {ls' : List (Option Value)}, ev_gl ls ls' → ls'.length = ls.length
  | [], [], _ => rfl
  | x :: r, v :: r', h => congrArg (· + 1) (ev_gl_len h.2)
  | [], _ :: _, h => absurd h id
  | _ :: _, [], h => absurd h id
theorem ev_gl_app : ∀ {st : ev_L} {st' : List (Option Value)} {t : ev_L} {t' : List (Option Value)}, ev_gl st st' → ev_gl t t' → ev_gl (st ++ t) (st' ++ t')
  | [], [], _, _, _, h => h
  | x :: r, v :: r', _, _, h, h' => ⟨h.1, ev_gl_app h.2 h'⟩
  | [], _ :: _, _, _, h, _ => absurd h id
  | _ :: _, [], _, _, h, _ => absurd h id
theorem ev_gl_rep : ∀ (n : Nat), ev_gl (List.replicate n none) (List.replicate n none)
  | 0 => trivial
  | n + 1 => ⟨trivial, ev_gl_rep n⟩
theorem ev_gl_lay : ∀ {st : List ev_X} {st' : List Value}, ev_gs st st' → ev_gl (ev_lay st) (ez_lay st')
  | [], [], _ => trivial
  | x :: r, v :: r', h => by
    have ih := ev_gl_lay h.2
    have hx := h.1
    cases x with
    | num n => obtain ⟨y, rfl, -⟩ := id hx; exact ⟨⟨_, rfl, hx⟩, ih⟩
    | add a b => obtain ⟨y, rfl, -⟩ := id hx; exact ⟨⟨_, rfl, hx⟩, ih⟩
    | var p => cases hx; exact ⟨⟨_, rfl, rfl⟩, ih⟩
    | mul a b =>
      cases a with
      | num j => cases hx; exact ⟨⟨_, rfl, rfl⟩, ih⟩
      | var n => obtain ⟨y, rfl, -⟩ := id hx; exact ⟨⟨_, rfl, hx⟩, trivial, ih⟩
      | add _ _ => exact absurd hx id
      | mul _ _ => exact absurd hx id
  | [], _ :: _, h => absurd h id
  | _ :: _, [], h => absurd h id
theorem ev_rcv_ok {S : ev_S} {h : ez_H} {k : Nat} {as : List ev_X} {as' : List Value} (hr : ev_rel S h) (hs : ev_gs as as') (H : ev_rcv S k as = true) : ez_rcv h k as' := by
  cases k with
  | zero => trivial
  | succ k =>
    unfold ev_rcv at H
    dsimp only at H
    split at H
    · obtain ⟨w, r', rfl, hx, -⟩ := ev_gs_cons hs
      have e : w = .ref _ := hx
      subst e
      split at H
      · rename_i hq
        obtain ⟨tag, len, ai, al, ar, -, H2, hc⟩ := ev_cl_ok hq hr
        obtain ⟨h1, -⟩ := ev_cond H2
        show ez_t h _ = k + 1
        rw [hc.1]
        exact Nat.eq_of_beq_eq_true h1
      · cases H
    · cases H
theorem ez_Wp_out {E : Nat → Nat × (Nat → Int32)} {ml : Nat → Nat} {hn : Nat → Nat → Nat → Option (Nat × Nat)} {code : Nat → List ez_C} {d mi pc : Nat} {ls : List (Option Value)} {st : List Value} {h : ez_H} {Q : ez_Q} (H : ez_Wp E ml hn code d mi pc ls st h Q) : ez_gw (ez_Wp E ml hn code) E ml (hn mi) mi d (code mi) (pc + 1) ls st h Q :=
  H (fun d mi pc ls st h Q => ez_gw (ez_Wp E ml hn code) E ml (hn mi) mi d (code mi) (pc + 1) ls st h Q)
    (fun d mi pc ls st h Q Q' hQ H => ez_gw_mono (fun _ _ _ _ _ _ _ q => q) (ez_Wp_mono E ml hn code) _ _ _ _ _ _ _ hQ H)
    (fun d mi pc ls st h Q H => ez_gw_mono (fun _ _ _ _ _ _ _ q => ez_Wp_in E ml hn code q) (ez_Wp_mono E ml hn code) _ _ _ _ _ _ _ (fun _ _ q => q) H)
/-- Arrays.fill, called -/
theorem wp_fill {E : Nat → Nat × (Nat → Int32)} {d p : Nat} {v : Int32} {h : ez_H} {Q : ez_Q} (ht : ez_t h p = 1000) (hl : ez_l h p ≤ 200000) (hQ : Q (.inl none) (ez_rowI h p (pf_fill (ez_I h p) (ez_l h p) v))) : ez_Wp E tz_ml tz_hn tz_co d 148 0 (ez_args (tz_ml 148) [.ref p, .int v]) [] h Q := by
  have L := ez_Wp_out (wp_fill_loop (E := E) (d := d) ht hl hQ (ez_l h p) 0 (by omega))
  have e : ez_rowI h p (pf_fill (ez_I h p) 0 v) = h := by
    obtain ⟨a1, a2, a3, a4, a5, a6, a7⟩ := h
    unfold ez_rowI ez_row pf_fill
    simp only [ez_n, ez_u, ez_t, ez_l, ez_I, ez_L, ez_R, Nat.not_lt_zero, ↓reduceIte]
    congr 5
    funext q
    by_cases hq : q = p <;> simp [hq]
  rw [e] at L
  apply ez_Wp_in
  exact ⟨.inl ht, L⟩
theorem ev_fi_ok {as : List ev_X} {as' : List Value} {S : ev_S} {c : ev_S → ev_R} {r : (Option ev_X ⊕ Nat) × ev_S} {h : ez_H} (H : ev_fi as S c = some r) (hr : ev_rel S h) (ha : ev_gs as as') : ∃ p y, as' = [.ref p, .int y] ∧ ez_t h p = 1000 ∧ ez_l h p ≤ 200000 ∧ ∃ S', c S' = some r ∧ ev_rel S' (ez_rowI h p (pf_fill (ez_I h p) (ez_l h p) y)) := by
  unfold ev_fi at H
  split at H
  · rename_i p0 n0
    obtain ⟨w, r', rfl, hx, hs1⟩ := ev_gs_cons ha
    have e : w = .ref p0 := hx
    subst e
    obtain ⟨w, r', rfl, ⟨y, rfl, hy⟩, hs2⟩ := ev_gs_cons hs1
    have e := ev_gs_nil hs2
    subst e
    obtain ⟨tag, len, ai, al, ar, hp, H, hc⟩ := ev_cl_ok H hr
    obtain ⟨h5, H2⟩ := ev_cond H
    obtain ⟨h5, h6⟩ := ev_and h5
    have e := Nat.eq_of_beq_eq_true h5
    subst e
    have h6 := Nat.ble_eq.mp h6
    obtain ⟨S', e', hS⟩ := ev_pc_ok (S := S) (c := c) (tag := 1000) (len := len) (ai := Nat.Internal.SOM.Expr.num n0) (al := al) (ar := ar) (h' := ez_rowI h p0 (pf_fill (ez_I h p0) (ez_l h p0) y)) hr hp rfl rfl (fun q hq => ⟨rfl, rfl, by
      show ez_row (ez_I h) p0 _ q = _
      unfold ez_row
      simp only [hq, ↓reduceIte], rfl, rfl⟩) ⟨hc.1, hc.2.1, fun j hj => by
      obtain ⟨b1, b2, b3⟩ := hc.2.2 j hj
      refine ⟨?_, b2, b3⟩
      have hj : j < len := hj
      show ev_gi n0 (ez_row (ez_I h) p0 (pf_fill (ez_I h p0) (ez_l h p0) y) p0 j)
      unfold ez_row pf_fill
      rw [hc.2.1]
      simp only [hj, ↓reduceIte]
      exact fun _ => hy⟩
    rw [e'] at H2
    exact ⟨p0, y, rfl, hc.1, by rw [hc.2.1]; exact h6, S', H2, hS⟩
  · cases H
theorem wp_fp {E : Nat → Nat × (Nat → Int32)} {d p q : Nat} {h : ez_H} {Q : ez_Q} (ht : ez_t h p = 2) (hq : ez_R h p 13 = q) (hq0 : q ≠ 0) (tq : ez_t h q = 1000) (lq : ez_l h q = 65536) (h6 : ez_I h p 6 = 0) (hpq : p ≠ q) (hQ : Q (.inl none) (ez_setI (ez_rowI h q (pf_fill (ez_I h q) 65536 (-1))) p 14 0)) : ez_Wp E tz_ml tz_hn tz_co d 32 0 (ez_args (tz_ml 32) [.ref p]) [] h Q := by
  have L := ez_Wp_out (wp_fp_loop (E := E) (d := d) ht hq hq0 tq lq h6 hpq hQ 65536 0 (by omega))
  rw [pf_fill_0] at L
  apply ez_Wp_in
  exact L
theorem ev_fp_ok {as : List ev_X} {as' : List Value} {S : ev_S} {c : ev_S → ev_R} {r : (Option ev_X ⊕ Nat) × ev_S} {h : ez_H} (H : ev_fp as S c = some r) (hr : ev_rel S h) (ha : ev_gs as as') : ∃ p q, as' = [.ref p] ∧ ez_t h p = 2 ∧ ez_R h p 13 = q ∧ q ≠ 0 ∧ ez_t h q = 1000 ∧ ez_l h q = 65536 ∧ ez_I h p 6 = 0 ∧ p ≠ q ∧ ∃ S', c S' = some r ∧ ev_rel S' (ez_setI (ez_rowI h q (pf_fill (ez_I h q) 65536 (-1))) p 14 0) := by
  unfold ev_fp at H
  split at H
  · rename_i p
    obtain ⟨w, r', rfl, hx, hs1⟩ := ev_gs_cons ha
    have e : w = .ref p := hx
    subst e
    have e := ev_gs_nil hs1
    subst e
    obtain ⟨len, ai, al, ar, hp, H, hc, e7, hb⟩ := ev_ob_ok H hr
    obtain ⟨h1, H⟩ := ev_cond H
    have h1 := Nat.eq_of_beq_eq_true h1
    rw [ev_f_eq] at H
    obtain ⟨h2, H⟩ := ev_cond H
    obtain ⟨h2, h3⟩ := ev_and h2
    have h2 := Nat.blt_eq.mp h2
    obtain ⟨tag, len', ai', al', ar', hp', H, hc'⟩ := ev_cl_ok H hr
    obtain ⟨h4, H⟩ := ev_cond H
    obtain ⟨h4, h5⟩ := ev_and h4
    have e := Nat.eq_of_beq_eq_true h4
    subst e
    have e5 := Nat.eq_of_beq_eq_true h5
    subst e5
    have hsz : ∀ k, k < 128 → k < ev_sz 2 len := fun k hk => ev_sz_obj (by decide) hk
    have eq13 := (hc.2.2 13 (hsz 13 (by decide))).2.2
    have e6 : ez_I h p 6 = 0 := ev_u_inj (by
      have := (hc.2.2 6 hb).1
      rw [h1] at this
      exact this (by decide))
    generalize ev_g ar 13 = q at *
    have hne : p ≠ q := by
      have : Nat.beq p q = false := by
        cases hb2 : Nat.beq p q with
        | false => rfl
        | true => rw [hb2] at h3; cases h3
      exact Nat.ne_of_beq_eq_false this
    obtain ⟨S1, e1, hS1⟩ := ev_pc_ok (S := S) (c := fun S => ev_s 7 ai 14 (.num 0) (fun ai => ev_pc S p 2 len ai al ar c)) (tag := 1000) (len := 65536) (ai := Nat.Internal.SOM.Expr.num 4294967295) (al := al') (ar := ar') (h' := ez_rowI h q (pf_fill (ez_I h q) 65536 (-1))) hr hp' rfl rfl (fun x hx => ⟨rfl, rfl, by
      show ez_row (ez_I h) q _ x = _
      unfold ez_row
      simp only [hx, ↓reduceIte], rfl, rfl⟩) ⟨hc'.1, hc'.2.1, fun j hj => by
      obtain ⟨b1, b2, b3⟩ := hc'.2.2 j hj
      refine ⟨?_, b2, b3⟩
      have hj : j < 65536 := hj
      show ev_gi 4294967295 (ez_row (ez_I h) q (pf_fill (ez_I h q) 65536 (-1)) q j)
      unfold ez_row pf_fill
      simp only [hj, ↓reduceIte]
      exact fun _ => rfl⟩
    have H : ev_pc S q 1000 65536 (.num 4294967295) al' ar' (fun S => ev_s 7 ai 14 (.num 0) (fun ai => ev_pc S p 2 len ai al ar c)) = some r := by assumption
    rw [e1] at H
    have eI : ez_I (ez_rowI h q (pf_fill (ez_I h q) 65536 (-1))) p = ez_I h p := by
      show ez_row (ez_I h) q _ p = _
      unfold ez_row
      simp only [hne, ↓reduceIte]
    have hc1 : ev_ce 2 len ai al ar (ez_rowI h q (pf_fill (ez_I h q) 65536 (-1))) p := ⟨hc.1, hc.2.1, fun j hj => by
      rw [eI]
      exact hc.2.2 j hj⟩
    rw [← e7] at H
    obtain ⟨S', H, hS⟩ := ev_setI_ok (x := 0) hS1 hp hc1 (hsz 14 (by decide)) (fun _ => rfl) H
    exact ⟨p, q, rfl, hc.1, eq13, by omega, hc'.1, hc'.2.1, e6, hne, S', H, hS⟩
  · cases H
/-- what is known of calls is right -/
def ev_MK (M : ev_M) (E : Nat → Nat × (Nat → Int32)) : Prop := ∀ (d' a : Nat) (as : List ev_X) (S : ev_S) (c : ev_S → ev_R) (e : ev_R) (r : (Option ev_X ⊕ Nat) × ev_S), M d' a as S c e = some r → e = some r ∨ ∃ S', c S' = some r ∧ ∀ (as' : List Value) (h : ez_H) (Q : ez_Q), ev_gs as as' → ev_rel S h → (∀ h', ev_rel S' h' → Q (.inl none) h') → ez_Wp E tz_ml tz_hn tz_co d' a 0 (ez_args (tz_ml a) as') [] h Q
theorem ev_M0_ok (E : Nat → Nat × (Nat → Int32)) : ev_MK ev_M0 E := fun _ _ _ _ _ _ _ H => .inl H
theorem ev_call_ok {M : ev_M} (hM : ev_MK M E) (hK : ev_KO CO) (hI : ev_Snd CO sc E ih) {d mi : Nat} {cs pre : List ez_C} {e : ez_C} (hp : tz_co mi = pre ++ e :: cs) (a b k : Nat) : ev_NX (ev_Cp (ez_Wp E tz_ml tz_hn tz_co) E tz_ml (tz_hn mi) mi d cs e.1 a b k) (ev_call CO M ih d mi (CO mi).1 (cs.map ev_tr) sc e.1 a b k) := by
  intro ls st S r ls' st' h Q H hl hs hr hQ
  have hsuf : ∃ pre, tz_co mi = pre ++ cs := ⟨pre ++ [e], by rw [hp, List.append_assoc]; rfl⟩
  unfold ev_call at H
  unfold ev_Cp
  cases d with
  | zero => cases H
  | succ d' =>
    dsimp only at H ⊢
    rw [ev_fl_eq, ev_fl_eq] at H
    have ha := ev_gs_rev (ev_gs_take b hs)
    have hd := ev_gs_drop b hs
    generalize (st.take b).reverse = as at H ha
    generalize st.drop b = sd at H hd
    generalize (st'.take b).reverse = as' at ha ⊢
    generalize st'.drop b = sd' at hd ⊢
    unfold ev_iv at H
    obtain ⟨h1, H⟩ := ev_cond H
    obtain ⟨h1, h2⟩ := ev_and h1
    obtain ⟨h2, h3⟩ := ev_and h2
    obtain ⟨h3, h4⟩ := ev_and h3
    have hla := ev_gl_lay ha
    refine ⟨⟨ev_few_ok hd h1, by rw [ev_gl_len hla]; exact h2, by rw [ev_gs_len ha]; exact h3, ev_rcv_ok hr ha h4⟩, ?_⟩
    cases hb : Nat.beq a 148 with
    | true =>
      rw [hb] at H
      have ea := Nat.eq_of_beq_eq_true hb
      subst ea
      have H : ev_fi as S (fun S => ih (Nat.succ d') mi (CO mi).1 (cs.map ev_tr) sc ls sd S) = some r := H
      obtain ⟨p0, y, rfl, g1, g2, S', H2, hS⟩ := ev_fi_ok H hr ha
      exact wp_fill g1 g2 (hI (d' + 1) mi cs hsuf _ _ _ _ _ _ _ _ H2 hl hd hS hQ)
    | false =>
      rw [hb] at H
      cases hb3 : Nat.beq a 32 with
      | true =>
        rw [hb3] at H
        have ea := Nat.eq_of_beq_eq_true hb3
        subst ea
        have H : ev_fp as S (fun S => ih (Nat.succ d') mi (CO mi).1 (cs.map ev_tr) sc ls sd S) = some r := H
        obtain ⟨p0, q0, rfl, g1, g2, g3, g4, g5, g6, g7, S', H2, hS⟩ := ev_fp_ok H hr ha
        exact wp_fp g1 g2 g3 g4 g5 g6 g7 (hI (d' + 1) mi cs hsuf _ _ _ _ _ _ _ _ H2 hl hd hS hQ)
      | false =>
      rw [hb3] at H
      rcases hM _ _ _ _ _ _ _ H with H | ⟨S', H2, hS⟩
      rotate_left
      · exact hS as' h _ ha hr (fun h' hr' => hI (d' + 1) mi cs hsuf _ _ _ _ _ _ _ _ H2 hl hd hr' hQ)
      have H : ev_fl (ev_lay as ++ List.replicate (tz_ml a - (ev_lay as).length) none) (fun l => match CO a with
        | (fu', co') => ev_bk ih (Nat.succ d') mi (CO mi).1 (cs.map ev_tr) sc e.1 ls sd (ih d' a fu' co' sc l [] S)) = some r := H
      rw [ev_fl_eq] at H
      have H : ev_bk ih (Nat.succ d') mi (CO mi).1 (cs.map ev_tr) sc e.1 ls sd (ih d' a (CO a).1 (CO a).2 sc (ev_lay as ++ List.replicate (tz_ml a - (ev_lay as).length) none) [] S) = some r := H
      rw [(hK a).1] at H
      have hl' : ev_gl (ev_lay as ++ List.replicate (tz_ml a - (ev_lay as).length) none) (ez_args (tz_ml a) as') := by
        unfold ez_args
        rw [ev_gl_len hla]
        exact ev_gl_app hla (ev_gl_rep _)
      cases hi : ih d' a (CO a).1 ((tz_co a).map ev_tr) sc (ev_lay as ++ List.replicate (tz_ml a - (ev_lay as).length) none) [] S with
      | none => rw [hi] at H; cases H
      | some r0 =>
        rw [hi] at H
        obtain ⟨o0, S0⟩ := r0
        apply ez_Wp_in
        have body := hI d' a (tz_co a) ⟨[], rfl⟩ _ _ _ _ (ez_args (tz_ml a) as') [] h (fun o h' => match o with
          | .inl none => ez_gw (ez_Wp E tz_ml tz_hn tz_co) E tz_ml (tz_hn mi) mi (d' + 1) cs 0 ls' sd' h' Q
          | .inl (some w) => ez_gw (ez_Wp E tz_ml tz_hn tz_co) E tz_ml (tz_hn mi) mi (d' + 1) cs 0 ls' (w :: sd') h' Q
          | .inr x => match tz_hn mi e.1 x with
            | none => Q (.inr x) h'
            | some (t, j) => (match t with
              | 0 => False
              | t' + 1 => ez_gw (ez_Wp E tz_ml tz_hn tz_co) E tz_ml (tz_hn mi) mi (d' + 1) cs (t' + 2) ((ez_cut ls' j).set j none) [] h' Q)) hi hl' trivial hr (fun o h' ho hr' => by
          unfold ev_bk at H
          rcases o0 with o0 | x
          · rcases o0 with _ | w
            · rcases o with o | o
              · rcases o with _ | o
                · exact hI (d' + 1) mi cs hsuf _ _ _ _ _ _ _ _ H hl hd hr' hQ
                · exact absurd ho id
              · exact absurd ho id
            · rcases o with o | o
              · rcases o with _ | o
                · exact absurd ho id
                · exact hI (d' + 1) mi cs hsuf _ _ _ _ _ _ _ _ H hl ⟨ho, hd⟩ hr' hQ
              · exact absurd ho id
          · rcases o with o | o
            · rcases o with _ | o
              · exact absurd ho id
              · exact absurd ho id
            · have ho : x = o := ho
              subst ho
              dsimp only at H ⊢
              cases hh : tz_hn mi e.1 x with
              | none =>
                rw [hh] at H
                cases H
                exact hQ _ _ rfl hr'
              | some z =>
                obtain ⟨t, j⟩ := z
                rw [hh] at H
                dsimp only at H ⊢
                cases t with
                | zero => cases H
                | succ t' =>
                  dsimp only at H ⊢
                  obtain ⟨h5, H⟩ := ev_cond H
                  have h5 := Nat.blt_eq.mp h5
                  obtain ⟨l, H, hcl⟩ := ev_cut_ok H hl
                  rw [ev_lset_eq] at H
                  have := (ev_to_ok hK hI (Nat.succ t') _ _ _ _ _ [] _ _ H (ev_gl_set (v := none) j hcl trivial) trivial hr' hQ).2
                  rw [hp, ev_skip_suf pre (by rw [← hp]; exact (hK mi).2.2.1) h5] at this
                  exact gw_skip _ this)
        have h0 := (hK a).2.2.2
        cases hco : tz_co a with
        | nil => rw [hco] at body; exact body
        | cons e0 r0 =>
          have := h0 _ _ hco
          rw [hco] at body
          refine gw_skip _ ?_
          unfold ev_skip
          simp only [this, ↓reduceIte]
          exact body
theorem ev_Snd_body {M : ev_M} (hM : ev_MK M E) (hsc : ev_scr sc E) (hK : ev_KO CO) (hI : ev_Snd CO sc E ih) : ev_Snd CO sc E (ev_body CO M ih) := by
  intro d mi cs hsuf
  cases cs with
  | nil => intro ls st S r ls' st' h Q H; cases H
  | cons e cs =>
    obtain ⟨pre, hp⟩ := hsuf
    have hsuf : ∃ pre, tz_co mi = pre ++ cs := ⟨pre ++ [e], by rw [hp, List.append_assoc]; rfl⟩
    refine ev_ok e (ez_Wp E tz_ml tz_hn tz_co) E tz_ml (tz_hn mi) mi d cs sc (ih d mi (CO mi).1 (cs.map ev_tr) sc) (ev_to ih d mi (CO mi).1 sc) (ev_call CO M ih d mi (CO mi).1 (cs.map ev_tr) sc) hsc (hI d mi cs hsuf) (fun t => ?_) (fun a b k => ev_call_ok hM hK hI hp a b k)
    intro ls st S r ls' st' h Q H hl hs hr hQ
    obtain ⟨g1, g2⟩ := ev_to_ok hK hI t ls st S r ls' st' h Q H hl hs hr hQ
    unfold ev_Jp
    cases hb : Nat.blt e.1 t with
    | true =>
      rw [hp, ev_skip_suf pre (by rw [← hp]; exact (hK mi).2.2.1) (Nat.blt_eq.mp hb)] at g2
      exact gw_skip _ g2
    | false => exact ez_Wp_in _ _ _ _ g1
/-- THE EVALUATOR IS RIGHT -/
theorem ev_sound {M : ev_M} (hM : ev_MK M E) (hsc : ev_scr sc E) (hK : ev_KO CO) : ∀ n, ev_Snd CO sc E (ev_run CO M n)
  | 0 => fun d mi cs _ ls st S r ls' st' h Q H => by cases H
  | n + 1 => ev_Snd_body hM hsc hK (ev_sound hM hsc hK n)
end SND
end
section
/-! PRINTED by wip/tools/mkko.py: the evaluator's tables are the program's -/
noncomputable def ev_mku (ts : List Nat) (cs : List ez_C) : ev_U := ts.map (fun t => (t, (ev_skip t cs).map ev_tr))
theorem ev_mku_ok {cs : List ez_C} (t : Nat) : ∀ ts : List Nat, ev_lk t (ev_mku ts cs) = [] ∨ ev_lk t (ev_mku ts cs) = (ev_skip t cs).map ev_tr
  | [] => .inl rfl
  | q :: ts => by
    show cond (Nat.beq q t) ((ev_skip q cs).map ev_tr) (ev_lk t (ev_mku ts cs)) = [] ∨ cond (Nat.beq q t) ((ev_skip q cs).map ev_tr) (ev_lk t (ev_mku ts cs)) = _
    cases hb : Nat.beq q t with
    | true =>
      have e := Nat.eq_of_beq_eq_true hb
      subst e
      exact .inr rfl
    | false => exact ev_mku_ok t ts
noncomputable def ev_hd0 (cs : List ez_C) : Bool := match cs with
  | [] => true
  | e :: _ => Nat.beq e.1 0
theorem ev_ko1 {CO : Nat → ev_U × List ev_K} {n : Nat} {ts : List Nat} {fu : ev_U} {co : List ev_K} {cs : List ez_C} (e : CO n = (fu, co)) (ec : tz_co n = cs) (h1 : co = cs.map ev_tr) (h2 : fu = ev_mku ts cs) (h3 : (ev_srt cs && ev_hd0 cs) = true) : (CO n).2 = (tz_co n).map ev_tr ∧ (∀ t, ev_lk t (CO n).1 = [] ∨ ev_lk t (CO n).1 = (ev_skip t (tz_co n)).map ev_tr) ∧ ev_srt (tz_co n) = true ∧ (∀ e r, tz_co n = e :: r → e.1 = 0) := by
  obtain ⟨g1, g2⟩ := ev_and h3
  rw [e, ec]
  refine ⟨h1, fun t => ?_, g1, fun e r he => ?_⟩
  · rw [h2]; exact ev_mku_ok t ts
  · rw [he] at g2; exact Nat.eq_of_beq_eq_true g2
set_option maxRecDepth 20000 in
theorem kq_0 : kz_0_0 = cz_0.map ev_tr := rfl
set_option maxRecDepth 20000 in
theorem kv_0 : ku_0 = ev_mku [] cz_0 := rfl
set_option maxRecDepth 20000 in
theorem kq_1 : kz_1_0 = cz_1.map ev_tr := rfl
set_option maxRecDepth 20000 in
theorem kv_1 : ku_1 = ev_mku [] cz_1 := rfl
set_option maxRecDepth 20000 in
theorem kq_2 : kz_2_0 = cz_2.map ev_tr := rfl
set_option maxRecDepth 20000 in
theorem kv_2 : ku_2 = ev_mku [] cz_2 := rfl
set_option maxRecDepth 20000 in
theorem kq_3 : kz_3_0 = cz_3.map ev_tr := rfl
set_option maxRecDepth 20000 in
theorem kv_3 : ku_3 = ev_mku [] cz_3 := rfl
set_option maxRecDepth 20000 in
theorem kq_4 : kz_4_0 = cz_4.map ev_tr := rfl
set_option maxRecDepth 20000 in
theorem kv_4 : ku_4 = ev_mku [] cz_4 := rfl
set_option maxRecDepth 20000 in
theorem kq_5 : kz_5_0 = cz_5.map ev_tr := rfl
set_option maxRecDepth 20000 in
theorem kv_5 : ku_5 = ev_mku [] cz_5 := rfl
set_option maxRecDepth 20000 in
theorem kq_6 : kz_6_0 = cz_6.map ev_tr := rfl
set_option maxRecDepth 20000 in
theorem kv_6 : ku_6 = ev_mku [] cz_6 := rfl
set_option maxRecDepth 20000 in
theorem kq_7 : kz_7_0 = cz_7.map ev_tr := rfl
set_option maxRecDepth 20000 in
theorem kv_7 : ku_7 = ev_mku [] cz_7 := rfl
set_option maxRecDepth 20000 in
theorem kq_8 : kz_8_0 = cz_8.map ev_tr := rfl
set_option maxRecDepth 20000 in
theorem kv_8 : ku_8 = ev_mku [] cz_8 := rfl
set_option maxRecDepth 20000 in
theorem kq_9 : kz_9_0 = cz_9.map ev_tr := rfl
set_option maxRecDepth 20000 in
theorem kv_9 : ku_9 = ev_mku [] cz_9 := rfl
set_option maxRecDepth 20000 in
theorem kq_10 : kz_10_0 = cz_10.map ev_tr := rfl
set_option maxRecDepth 20000 in
theorem kv_10 : ku_10 = ev_mku [] cz_10 := rfl
set_option maxRecDepth 20000 in
theorem kq_11 : kz_11_0 = cz_11.map ev_tr := rfl
set_option maxRecDepth 20000 in
theorem kv_11 : ku_11 = ev_mku [] cz_11 := rfl
set_option maxRecDepth 20000 in
theorem kq_12 : kz_12_0 = cz_12.map ev_tr := rfl
set_option maxRecDepth 20000 in
theorem kv_12 : ku_12 = ev_mku [] cz_12 := rfl
set_option maxRecDepth 20000 in
theorem kq_13 : kz_13_0 = cz_13.map ev_tr := rfl
set_option maxRecDepth 20000 in
theorem kv_13 : ku_13 = ev_mku [] cz_13 := rfl
set_option maxRecDepth 20000 in
theorem kq_14 : kz_14_0 = cz_14.map ev_tr := rfl
set_option maxRecDepth 20000 in
theorem kv_14 : ku_14 = ev_mku [] cz_14 := rfl
set_option maxRecDepth 20000 in
theorem kq_15 : kz_15_0 = cz_15.map ev_tr := rfl
set_option maxRecDepth 20000 in
theorem kv_15 : ku_15 = ev_mku [] cz_15 := rfl
set_option maxRecDepth 20000 in
theorem kq_16 : kz_16_0 = cz_16.map ev_tr := rfl
set_option maxRecDepth 20000 in
theorem kv_16 : ku_16 = ev_mku [] cz_16 := rfl
set_option maxRecDepth 20000 in
theorem kq_17 : kz_17_0 = cz_17.map ev_tr := rfl
set_option maxRecDepth 20000 in
theorem kv_17 : ku_17 = ev_mku [] cz_17 := rfl
set_option maxRecDepth 20000 in
theorem kq_18 : kz_18_0 = cz_18.map ev_tr := rfl
set_option maxRecDepth 20000 in
theorem kv_18 : ku_18 = ev_mku [] cz_18 := rfl
set_option maxRecDepth 20000 in
theorem kq_19 : kz_19_0 = cz_19.map ev_tr := rfl
set_option maxRecDepth 20000 in
theorem kv_19 : ku_19 = ev_mku [] cz_19 := rfl
set_option maxRecDepth 20000 in
theorem kq_20 : kz_20_0 = cz_20.map ev_tr := rfl
set_option maxRecDepth 20000 in
theorem kv_20 : ku_20 = ev_mku [] cz_20 := rfl
set_option maxRecDepth 20000 in
theorem kq_21 : kz_21_0 = cz_21.map ev_tr := rfl
set_option maxRecDepth 20000 in
theorem kv_21 : ku_21 = ev_mku [] cz_21 := rfl
set_option maxRecDepth 20000 in
theorem kq_22 : kz_22_0 = cz_22.map ev_tr := rfl
set_option maxRecDepth 20000 in
theorem kv_22 : ku_22 = ev_mku [] cz_22 := rfl
set_option maxRecDepth 20000 in
theorem kq_23 : kz_23_0 = cz_23.map ev_tr := rfl
set_option maxRecDepth 20000 in
theorem kv_23 : ku_23 = ev_mku [] cz_23 := rfl
set_option maxRecDepth 20000 in
theorem kq_24 : kz_24_0 = cz_24.map ev_tr := rfl
set_option maxRecDepth 20000 in
theorem kv_24 : ku_24 = ev_mku [] cz_24 := rfl
set_option maxRecDepth 20000 in
theorem kq_25 : kz_25_0 = cz_25.map ev_tr := rfl
set_option maxRecDepth 20000 in
theorem kv_25 : ku_25 = ev_mku [] cz_25 := rfl
set_option maxRecDepth 20000 in
theorem kq_26 : kz_26_0 = cz_26.map ev_tr := rfl
set_option maxRecDepth 20000 in
theorem kv_26 : ku_26 = ev_mku [] cz_26 := rfl
set_option maxRecDepth 20000 in
theorem kq_27 : kz_27_0 = cz_27.map ev_tr := rfl
set_option maxRecDepth 20000 in
theorem kv_27 : ku_27 = ev_mku [] cz_27 := rfl
set_option maxRecDepth 20000 in
theorem kq_28 : kz_28_0 = cz_28.map ev_tr := rfl
set_option maxRecDepth 20000 in
theorem kv_28 : ku_28 = ev_mku [] cz_28 := rfl
set_option maxRecDepth 20000 in
theorem kq_29 : kz_29_0 = cz_29.map ev_tr := rfl
set_option maxRecDepth 20000 in
theorem kv_29 : ku_29 = ev_mku [] cz_29 := rfl
set_option maxRecDepth 20000 in
theorem kq_30 : kz_30_0 = cz_30.map ev_tr := rfl
set_option maxRecDepth 20000 in
theorem kv_30 : ku_30 = ev_mku [] cz_30 := rfl
set_option maxRecDepth 20000 in
theorem kq_31 : kz_31_0 = cz_31.map ev_tr := rfl
set_option maxRecDepth 20000 in
theorem kv_31 : ku_31 = ev_mku [] cz_31 := rfl
set_option maxRecDepth 20000 in
theorem kq_32 : kz_32_0 = cz_32.map ev_tr := rfl
set_option maxRecDepth 20000 in
theorem kv_32 : ku_32 = ev_mku [] cz_32 := rfl
set_option maxRecDepth 20000 in
theorem kq_33 : kz_33_0 = cz_33.map ev_tr := rfl
set_option maxRecDepth 20000 in
theorem kv_33 : ku_33 = ev_mku [] cz_33 := rfl
set_option maxRecDepth 20000 in
theorem kq_34 : kz_34_0 = cz_34.map ev_tr := rfl
set_option maxRecDepth 20000 in
theorem kv_34 : ku_34 = ev_mku [] cz_34 := rfl
set_option maxRecDepth 20000 in
theorem kq_35 : kz_35_0 = cz_35.map ev_tr := rfl
set_option maxRecDepth 20000 in
theorem kv_35 : ku_35 = ev_mku [] cz_35 := rfl
set_option maxRecDepth 20000 in
theorem kq_36 : kz_36_0 = cz_36.map ev_tr := rfl
set_option maxRecDepth 20000 in
theorem kv_36 : ku_36 = ev_mku [] cz_36 := rfl
set_option maxRecDepth 20000 in
theorem kq_37 : kz_37_0 = cz_37.map ev_tr := rfl
set_option maxRecDepth 20000 in
theorem kv_37 : ku_37 = ev_mku [] cz_37 := rfl
set_option maxRecDepth 20000 in
theorem kq_38 : kz_38_0 = cz_38.map ev_tr := rfl
set_option maxRecDepth 20000 in
theorem kv_38 : ku_38 = ev_mku [] cz_38 := rfl
set_option maxRecDepth 20000 in
theorem kq_39 : kz_39_0 = cz_39.map ev_tr := rfl
set_option maxRecDepth 20000 in
theorem kv_39 : ku_39 = ev_mku [] cz_39 := rfl
set_option maxRecDepth 20000 in
theorem kq_40 : kz_40_0 = cz_40.map ev_tr := rfl
set_option maxRecDepth 20000 in
theorem kv_40 : ku_40 = ev_mku [] cz_40 := rfl
set_option maxRecDepth 20000 in
theorem kq_41 : kz_41_0 = cz_41.map ev_tr := rfl
set_option maxRecDepth 20000 in
theorem kv_41 : ku_41 = ev_mku [] cz_41 := rfl
set_option maxRecDepth 20000 in
theorem kq_42 : kz_42_0 = cz_42.map ev_tr := rfl
set_option maxRecDepth 20000 in
theorem kv_42 : ku_42 = ev_mku [] cz_42 := rfl
set_option maxRecDepth 20000 in
theorem kq_43 : kz_43_0 = cz_43.map ev_tr := rfl
set_option maxRecDepth 20000 in
theorem kv_43 : ku_43 = ev_mku [] cz_43 := rfl
set_option maxRecDepth 20000 in
theorem kq_44 : kz_44_0 = cz_44.map ev_tr := rfl
set_option maxRecDepth 20000 in
theorem kv_44 : ku_44 = ev_mku [] cz_44 := rfl
set_option maxRecDepth 20000 in
theorem kq_45 : kz_45_0 = cz_45.map ev_tr := rfl
set_option maxRecDepth 20000 in
theorem kv_45 : ku_45 = ev_mku [] cz_45 := rfl
set_option maxRecDepth 20000 in
theorem kq_46 : kz_46_0 = cz_46.map ev_tr := rfl
set_option maxRecDepth 20000 in
theorem kv_46 : ku_46 = ev_mku [] cz_46 := rfl
set_option maxRecDepth 20000 in
theorem kq_47 : kz_47_0 = cz_47.map ev_tr := rfl
set_option maxRecDepth 20000 in
theorem kv_47 : ku_47 = ev_mku [] cz_47 := rfl
set_option maxRecDepth 20000 in
theorem kq_48 : kz_48_0 = cz_48.map ev_tr := rfl
set_option maxRecDepth 20000 in
theorem kv_48 : ku_48 = ev_mku [] cz_48 := rfl
set_option maxRecDepth 20000 in
theorem kq_49 : kz_49_0 = cz_49.map ev_tr := rfl
set_option maxRecDepth 20000 in
theorem kv_49 : ku_49 = ev_mku [] cz_49 := rfl
set_option maxRecDepth 20000 in
theorem kq_50 : kz_50_0 = cz_50.map ev_tr := rfl
set_option maxRecDepth 20000 in
theorem kv_50 : ku_50 = ev_mku [] cz_50 := rfl
set_option maxRecDepth 20000 in
theorem kq_51 : kz_51_0 = cz_51.map ev_tr := rfl
set_option maxRecDepth 20000 in
theorem kv_51 : ku_51 = ev_mku [] cz_51 := rfl
set_option maxRecDepth 20000 in
theorem kq_52 : kz_52_0 = cz_52.map ev_tr := rfl
set_option maxRecDepth 20000 in
theorem kv_52 : ku_52 = ev_mku [] cz_52 := rfl
set_option maxRecDepth 20000 in
theorem kq_53 : kz_53_0 = cz_53.map ev_tr := rfl
set_option maxRecDepth 20000 in
theorem kv_53 : ku_53 = ev_mku [] cz_53 := rfl
set_option maxRecDepth 20000 in
theorem kq_54 : kz_54_0 = cz_54.map ev_tr := rfl
set_option maxRecDepth 20000 in
theorem kv_54 : ku_54 = ev_mku [] cz_54 := rfl
set_option maxRecDepth 20000 in
theorem kq_55 : kz_55_0 = cz_55.map ev_tr := rfl
set_option maxRecDepth 20000 in
theorem kv_55 : ku_55 = ev_mku [] cz_55 := rfl
set_option maxRecDepth 20000 in
theorem kq_56 : kz_56_0 = cz_56.map ev_tr := rfl
set_option maxRecDepth 20000 in
theorem kv_56 : ku_56 = ev_mku [] cz_56 := rfl
set_option maxRecDepth 20000 in
theorem kq_57 : kz_57_0 = cz_57.map ev_tr := rfl
set_option maxRecDepth 20000 in
theorem kv_57 : ku_57 = ev_mku [] cz_57 := rfl
set_option maxRecDepth 20000 in
theorem kq_58 : kz_58_0 = cz_58.map ev_tr := rfl
set_option maxRecDepth 20000 in
theorem kv_58 : ku_58 = ev_mku [] cz_58 := rfl
set_option maxRecDepth 20000 in
theorem kq_59 : kz_59_0 = cz_59.map ev_tr := rfl
set_option maxRecDepth 20000 in
theorem kv_59 : ku_59 = ev_mku [] cz_59 := rfl
set_option maxRecDepth 20000 in
theorem kq_60 : kz_60_0 = cz_60.map ev_tr := rfl
set_option maxRecDepth 20000 in
theorem kv_60 : ku_60 = ev_mku [] cz_60 := rfl
set_option maxRecDepth 20000 in
theorem kq_61 : kz_61_0 = cz_61.map ev_tr := rfl
set_option maxRecDepth 20000 in
theorem kv_61 : ku_61 = ev_mku [] cz_61 := rfl
set_option maxRecDepth 20000 in
theorem kq_62 : kz_62_0 = cz_62.map ev_tr := rfl
set_option maxRecDepth 20000 in
theorem kv_62 : ku_62 = ev_mku [] cz_62 := rfl
set_option maxRecDepth 20000 in
theorem kq_63 : kz_63_0 = cz_63.map ev_tr := rfl
set_option maxRecDepth 20000 in
theorem kv_63 : ku_63 = ev_mku [] cz_63 := rfl
set_option maxRecDepth 20000 in
theorem kq_64 : kz_64_0 = cz_64.map ev_tr := rfl
set_option maxRecDepth 20000 in
theorem kv_64 : ku_64 = ev_mku [] cz_64 := rfl
set_option maxRecDepth 20000 in
theorem kq_65 : kz_65_0 = cz_65.map ev_tr := rfl
set_option maxRecDepth 20000 in
theorem kv_65 : ku_65 = ev_mku [] cz_65 := rfl
set_option maxRecDepth 20000 in
theorem kq_66 : kz_66_0 = cz_66.map ev_tr := rfl
set_option maxRecDepth 20000 in
theorem kv_66 : ku_66 = ev_mku [] cz_66 := rfl
set_option maxRecDepth 20000 in
theorem kq_67 : kz_67_0 = cz_67.map ev_tr := rfl
set_option maxRecDepth 20000 in
theorem kv_67 : ku_67 = ev_mku [] cz_67 := rfl
set_option maxRecDepth 20000 in
theorem kq_68 : kz_68_0 = cz_68.map ev_tr := rfl
set_option maxRecDepth 20000 in
theorem kv_68 : ku_68 = ev_mku [] cz_68 := rfl
set_option maxRecDepth 20000 in
theorem kq_69 : kz_69_0 = cz_69.map ev_tr := rfl
set_option maxRecDepth 20000 in
theorem kv_69 : ku_69 = ev_mku [] cz_69 := rfl
set_option maxRecDepth 20000 in
theorem kq_70 : kz_70_0 = cz_70.map ev_tr := rfl
set_option maxRecDepth 20000 in
theorem kv_70 : ku_70 = ev_mku [] cz_70 := rfl
set_option maxRecDepth 20000 in
theorem kq_71 : kz_71_0 = cz_71.map ev_tr := rfl
set_option maxRecDepth 20000 in
theorem kv_71 : ku_71 = ev_mku [] cz_71 := rfl
set_option maxRecDepth 20000 in
theorem kq_72 : kz_72_0 = cz_72.map ev_tr := rfl
set_option maxRecDepth 20000 in
theorem kv_72 : ku_72 = ev_mku [] cz_72 := rfl
set_option maxRecDepth 20000 in
theorem kq_73 : kz_73_0 = cz_73.map ev_tr := rfl
set_option maxRecDepth 20000 in
theorem kv_73 : ku_73 = ev_mku [] cz_73 := rfl
set_option maxRecDepth 20000 in
theorem kq_74 : kz_74_0 = cz_74.map ev_tr := rfl
set_option maxRecDepth 20000 in
theorem kv_74 : ku_74 = ev_mku [] cz_74 := rfl
set_option maxRecDepth 20000 in
theorem kq_75 : kz_75_0 = cz_75.map ev_tr := rfl
set_option maxRecDepth 20000 in
theorem kv_75 : ku_75 = ev_mku [] cz_75 := rfl
set_option maxRecDepth 20000 in
theorem kq_76 : kz_76_0 = cz_76.map ev_tr := rfl
set_option maxRecDepth 20000 in
theorem kv_76 : ku_76 = ev_mku [] cz_76 := rfl
set_option maxRecDepth 20000 in
theorem kq_77 : kz_77_0 = cz_77.map ev_tr := rfl
set_option maxRecDepth 20000 in
theorem kv_77 : ku_77 = ev_mku [] cz_77 := rfl
set_option maxRecDepth 20000 in
theorem kq_78 : kz_78_0 = cz_78.map ev_tr := rfl
set_option maxRecDepth 20000 in
theorem kv_78 : ku_78 = ev_mku [] cz_78 := rfl
set_option maxRecDepth 20000 in
theorem kq_79 : kz_79_0 = cz_79.map ev_tr := rfl
set_option maxRecDepth 20000 in
theorem kv_79 : ku_79 = ev_mku [] cz_79 := rfl
set_option maxRecDepth 20000 in
theorem kq_80 : kz_80_0 = cz_80.map ev_tr := rfl
set_option maxRecDepth 20000 in
theorem kv_80 : ku_80 = ev_mku [] cz_80 := rfl
set_option maxRecDepth 20000 in
theorem kq_81 : kz_81_0 = cz_81.map ev_tr := rfl
set_option maxRecDepth 20000 in
theorem kv_81 : ku_81 = ev_mku [] cz_81 := rfl
set_option maxRecDepth 20000 in
theorem kq_82 : kz_82_0 = cz_82.map ev_tr := rfl
set_option maxRecDepth 20000 in
theorem kv_82 : ku_82 = ev_mku [10, 42, 48, 54, 102, 109, 137, 143] cz_82 := rfl
set_option maxRecDepth 20000 in
theorem kq_83 : kz_83_0 = cz_83.map ev_tr := rfl
set_option maxRecDepth 20000 in
theorem kv_83 : ku_83 = ev_mku [] cz_83 := rfl
set_option maxRecDepth 20000 in
theorem kq_84 : kz_84_0 = cz_84.map ev_tr := rfl
set_option maxRecDepth 20000 in
theorem kv_84 : ku_84 = ev_mku [] cz_84 := rfl
set_option maxRecDepth 20000 in
theorem kq_85 : kz_85_0 = cz_85.map ev_tr := rfl
set_option maxRecDepth 20000 in
theorem kv_85 : ku_85 = ev_mku [24, 25] cz_85 := rfl
set_option maxRecDepth 20000 in
theorem kq_86 : kz_86_0 = cz_86.map ev_tr := rfl
set_option maxRecDepth 20000 in
theorem kv_86 : ku_86 = ev_mku [63] cz_86 := rfl
set_option maxRecDepth 20000 in
theorem kq_87 : kz_87_0 = cz_87.map ev_tr := rfl
set_option maxRecDepth 20000 in
theorem kv_87 : ku_87 = ev_mku [4, 25] cz_87 := rfl
set_option maxRecDepth 20000 in
theorem kq_88 : kz_88_0 = cz_88.map ev_tr := rfl
set_option maxRecDepth 20000 in
theorem kv_88 : ku_88 = ev_mku [] cz_88 := rfl
set_option maxRecDepth 20000 in
theorem kq_89 : kz_89_0 = cz_89.map ev_tr := rfl
set_option maxRecDepth 20000 in
theorem kv_89 : ku_89 = ev_mku [] cz_89 := rfl
set_option maxRecDepth 20000 in
theorem kq_90 : kz_90_0 = cz_90.map ev_tr := rfl
set_option maxRecDepth 20000 in
theorem kv_90 : ku_90 = ev_mku [] cz_90 := rfl
set_option maxRecDepth 20000 in
theorem kq_91 : kz_91_0 = cz_91.map ev_tr := rfl
set_option maxRecDepth 20000 in
theorem kv_91 : ku_91 = ev_mku [] cz_91 := rfl
set_option maxRecDepth 20000 in
theorem kq_92 : kz_92_0 = cz_92.map ev_tr := rfl
set_option maxRecDepth 20000 in
theorem kv_92 : ku_92 = ev_mku [] cz_92 := rfl
set_option maxRecDepth 20000 in
theorem kq_93 : kz_93_0 = cz_93.map ev_tr := rfl
set_option maxRecDepth 20000 in
theorem kv_93 : ku_93 = ev_mku [] cz_93 := rfl
set_option maxRecDepth 20000 in
theorem kq_94 : kz_94_0 = cz_94.map ev_tr := rfl
set_option maxRecDepth 20000 in
theorem kv_94 : ku_94 = ev_mku [] cz_94 := rfl
set_option maxRecDepth 20000 in
theorem kq_95 : kz_95_0 = cz_95.map ev_tr := rfl
set_option maxRecDepth 20000 in
theorem kv_95 : ku_95 = ev_mku [] cz_95 := rfl
set_option maxRecDepth 20000 in
theorem kq_96 : kz_96_0 = cz_96.map ev_tr := rfl
set_option maxRecDepth 20000 in
theorem kv_96 : ku_96 = ev_mku [] cz_96 := rfl
set_option maxRecDepth 20000 in
theorem kq_97 : kz_97_0 = cz_97.map ev_tr := rfl
set_option maxRecDepth 20000 in
theorem kv_97 : ku_97 = ev_mku [] cz_97 := rfl
set_option maxRecDepth 20000 in
theorem kq_98 : kz_98_0 = cz_98.map ev_tr := rfl
set_option maxRecDepth 20000 in
theorem kv_98 : ku_98 = ev_mku [] cz_98 := rfl
set_option maxRecDepth 20000 in
theorem kq_99 : kz_99_0 = cz_99.map ev_tr := rfl
set_option maxRecDepth 20000 in
theorem kv_99 : ku_99 = ev_mku [75, 99, 103, 127, 136, 158] cz_99 := rfl
set_option maxRecDepth 20000 in
theorem kq_100 : kz_100_0 = cz_100.map ev_tr := rfl
set_option maxRecDepth 20000 in
theorem kv_100 : ku_100 = ev_mku [] cz_100 := rfl
set_option maxRecDepth 20000 in
theorem kq_101 : kz_101_0 = cz_101.map ev_tr := rfl
set_option maxRecDepth 20000 in
theorem kv_101 : ku_101 = ev_mku [] cz_101 := rfl
set_option maxRecDepth 20000 in
theorem kq_102 : kz_102_0 = cz_102.map ev_tr := rfl
set_option maxRecDepth 20000 in
theorem kv_102 : ku_102 = ev_mku [] cz_102 := rfl
set_option maxRecDepth 20000 in
theorem kq_103 : kz_103_0 = cz_103.map ev_tr := rfl
set_option maxRecDepth 20000 in
theorem kv_103 : ku_103 = ev_mku [] cz_103 := rfl
set_option maxRecDepth 20000 in
theorem kq_104 : kz_104_0 = cz_104.map ev_tr := rfl
set_option maxRecDepth 20000 in
theorem kv_104 : ku_104 = ev_mku [] cz_104 := rfl
set_option maxRecDepth 20000 in
theorem kq_105 : kz_105_0 = cz_105.map ev_tr := rfl
set_option maxRecDepth 20000 in
theorem kv_105 : ku_105 = ev_mku [] cz_105 := rfl
set_option maxRecDepth 20000 in
theorem kq_106 : kz_106_0 = cz_106.map ev_tr := rfl
set_option maxRecDepth 20000 in
theorem kv_106 : ku_106 = ev_mku [] cz_106 := rfl
set_option maxRecDepth 20000 in
theorem kq_107 : kz_107_0 = cz_107.map ev_tr := rfl
set_option maxRecDepth 20000 in
theorem kv_107 : ku_107 = ev_mku [] cz_107 := rfl
set_option maxRecDepth 20000 in
theorem kq_108 : kz_108_0 = cz_108.map ev_tr := rfl
set_option maxRecDepth 20000 in
theorem kv_108 : ku_108 = ev_mku [] cz_108 := rfl
set_option maxRecDepth 20000 in
theorem kq_109 : kz_109_0 = cz_109.map ev_tr := rfl
set_option maxRecDepth 20000 in
theorem kv_109 : ku_109 = ev_mku [] cz_109 := rfl
set_option maxRecDepth 20000 in
theorem kq_110 : kz_110_0 = cz_110.map ev_tr := rfl
set_option maxRecDepth 20000 in
theorem kv_110 : ku_110 = ev_mku [] cz_110 := rfl
set_option maxRecDepth 20000 in
theorem kq_111 : kz_111_0 = cz_111.map ev_tr := rfl
set_option maxRecDepth 20000 in
theorem kv_111 : ku_111 = ev_mku [] cz_111 := rfl
set_option maxRecDepth 20000 in
theorem kq_112 : kz_112_0 = cz_112.map ev_tr := rfl
set_option maxRecDepth 20000 in
theorem kv_112 : ku_112 = ev_mku [] cz_112 := rfl
set_option maxRecDepth 20000 in
theorem kq_113 : kz_113_0 = cz_113.map ev_tr := rfl
set_option maxRecDepth 20000 in
theorem kv_113 : ku_113 = ev_mku [] cz_113 := rfl
set_option maxRecDepth 20000 in
theorem kq_114 : kz_114_0 = cz_114.map ev_tr := rfl
set_option maxRecDepth 20000 in
theorem kv_114 : ku_114 = ev_mku [] cz_114 := rfl
set_option maxRecDepth 20000 in
theorem kq_115 : kz_115_0 = cz_115.map ev_tr := rfl
set_option maxRecDepth 20000 in
theorem kv_115 : ku_115 = ev_mku [] cz_115 := rfl
set_option maxRecDepth 20000 in
theorem kq_116 : kz_116_0 = cz_116.map ev_tr := rfl
set_option maxRecDepth 20000 in
theorem kv_116 : ku_116 = ev_mku [] cz_116 := rfl
set_option maxRecDepth 20000 in
theorem kq_117 : kz_117_0 = cz_117.map ev_tr := rfl
set_option maxRecDepth 20000 in
theorem kv_117 : ku_117 = ev_mku [] cz_117 := rfl
set_option maxRecDepth 20000 in
theorem kq_118 : kz_118_0 = cz_118.map ev_tr := rfl
set_option maxRecDepth 20000 in
theorem kv_118 : ku_118 = ev_mku [] cz_118 := rfl
set_option maxRecDepth 20000 in
theorem kq_119 : kz_119_0 = cz_119.map ev_tr := rfl
set_option maxRecDepth 20000 in
theorem kv_119 : ku_119 = ev_mku [] cz_119 := rfl
set_option maxRecDepth 20000 in
theorem kq_120 : kz_120_0 = cz_120.map ev_tr := rfl
set_option maxRecDepth 20000 in
theorem kv_120 : ku_120 = ev_mku [] cz_120 := rfl
set_option maxRecDepth 20000 in
theorem kq_121 : kz_121_0 = cz_121.map ev_tr := rfl
set_option maxRecDepth 20000 in
theorem kv_121 : ku_121 = ev_mku [] cz_121 := rfl
set_option maxRecDepth 20000 in
theorem kq_122 : kz_122_0 = cz_122.map ev_tr := rfl
set_option maxRecDepth 20000 in
theorem kv_122 : ku_122 = ev_mku [] cz_122 := rfl
set_option maxRecDepth 20000 in
theorem kq_123 : kz_123_0 = cz_123.map ev_tr := rfl
set_option maxRecDepth 20000 in
theorem kv_123 : ku_123 = ev_mku [] cz_123 := rfl
set_option maxRecDepth 20000 in
theorem kq_124 : kz_124_0 = cz_124.map ev_tr := rfl
set_option maxRecDepth 20000 in
theorem kv_124 : ku_124 = ev_mku [] cz_124 := rfl
set_option maxRecDepth 20000 in
theorem kq_125 : kz_125_0 = cz_125.map ev_tr := rfl
set_option maxRecDepth 20000 in
theorem kv_125 : ku_125 = ev_mku [] cz_125 := rfl
set_option maxRecDepth 20000 in
theorem kq_126 : kz_126_0 = cz_126.map ev_tr := rfl
set_option maxRecDepth 20000 in
theorem kv_126 : ku_126 = ev_mku [] cz_126 := rfl
set_option maxRecDepth 20000 in
theorem kq_127 : kz_127_0 = cz_127.map ev_tr := rfl
set_option maxRecDepth 20000 in
theorem kv_127 : ku_127 = ev_mku [] cz_127 := rfl
set_option maxRecDepth 20000 in
theorem kq_128 : kz_128_0 = cz_128.map ev_tr := rfl
set_option maxRecDepth 20000 in
theorem kv_128 : ku_128 = ev_mku [] cz_128 := rfl
set_option maxRecDepth 20000 in
theorem kq_129 : kz_129_0 = cz_129.map ev_tr := rfl
set_option maxRecDepth 20000 in
theorem kv_129 : ku_129 = ev_mku [] cz_129 := rfl
set_option maxRecDepth 20000 in
theorem kq_130 : kz_130_0 = cz_130.map ev_tr := rfl
set_option maxRecDepth 20000 in
theorem kv_130 : ku_130 = ev_mku [] cz_130 := rfl
set_option maxRecDepth 20000 in
theorem kq_131 : kz_131_0 = cz_131.map ev_tr := rfl
set_option maxRecDepth 20000 in
theorem kv_131 : ku_131 = ev_mku [] cz_131 := rfl
set_option maxRecDepth 20000 in
theorem kq_132 : kz_132_0 = cz_132.map ev_tr := rfl
set_option maxRecDepth 20000 in
theorem kv_132 : ku_132 = ev_mku [] cz_132 := rfl
set_option maxRecDepth 20000 in
theorem kq_133 : kz_133_0 = cz_133.map ev_tr := rfl
set_option maxRecDepth 20000 in
theorem kv_133 : ku_133 = ev_mku [] cz_133 := rfl
set_option maxRecDepth 20000 in
theorem kq_134 : kz_134_0 = cz_134.map ev_tr := rfl
set_option maxRecDepth 20000 in
theorem kv_134 : ku_134 = ev_mku [] cz_134 := rfl
set_option maxRecDepth 20000 in
theorem kq_135 : kz_135_0 = cz_135.map ev_tr := rfl
set_option maxRecDepth 20000 in
theorem kv_135 : ku_135 = ev_mku [] cz_135 := rfl
set_option maxRecDepth 20000 in
theorem kq_136 : kz_136_0 = cz_136.map ev_tr := rfl
set_option maxRecDepth 20000 in
theorem kv_136 : ku_136 = ev_mku [] cz_136 := rfl
set_option maxRecDepth 20000 in
theorem kq_137 : kz_137_0 = cz_137.map ev_tr := rfl
set_option maxRecDepth 20000 in
theorem kv_137 : ku_137 = ev_mku [] cz_137 := rfl
set_option maxRecDepth 20000 in
theorem kq_138 : kz_138_0 = cz_138.map ev_tr := rfl
set_option maxRecDepth 20000 in
theorem kv_138 : ku_138 = ev_mku [] cz_138 := rfl
set_option maxRecDepth 20000 in
theorem kq_139 : kz_139_0 = cz_139.map ev_tr := rfl
set_option maxRecDepth 20000 in
theorem kv_139 : ku_139 = ev_mku [] cz_139 := rfl
set_option maxRecDepth 20000 in
theorem kq_140 : kz_140_0 = cz_140.map ev_tr := rfl
set_option maxRecDepth 20000 in
theorem kv_140 : ku_140 = ev_mku [] cz_140 := rfl
set_option maxRecDepth 20000 in
theorem kq_141 : kz_141_0 = cz_141.map ev_tr := rfl
set_option maxRecDepth 20000 in
theorem kv_141 : ku_141 = ev_mku [] cz_141 := rfl
set_option maxRecDepth 20000 in
theorem kq_142 : kz_142_0 = cz_142.map ev_tr := rfl
set_option maxRecDepth 20000 in
theorem kv_142 : ku_142 = ev_mku [] cz_142 := rfl
set_option maxRecDepth 20000 in
theorem kq_143 : kz_143_0 = cz_143.map ev_tr := rfl
set_option maxRecDepth 20000 in
theorem kv_143 : ku_143 = ev_mku [] cz_143 := rfl
set_option maxRecDepth 20000 in
theorem kq_144 : kz_144_0 = cz_144.map ev_tr := rfl
set_option maxRecDepth 20000 in
theorem kv_144 : ku_144 = ev_mku [] cz_144 := rfl
set_option maxRecDepth 20000 in
theorem kq_145 : kz_145_0 = cz_145.map ev_tr := rfl
set_option maxRecDepth 20000 in
theorem kv_145 : ku_145 = ev_mku [] cz_145 := rfl
set_option maxRecDepth 20000 in
theorem kq_146 : kz_146_0 = cz_146.map ev_tr := rfl
set_option maxRecDepth 20000 in
theorem kv_146 : ku_146 = ev_mku [] cz_146 := rfl
set_option maxRecDepth 20000 in
theorem kq_147 : kz_147_0 = cz_147.map ev_tr := rfl
set_option maxRecDepth 20000 in
theorem kv_147 : ku_147 = ev_mku [] cz_147 := rfl
set_option maxRecDepth 20000 in
theorem kq_148 : kz_148_0 = cz_148.map ev_tr := rfl
set_option maxRecDepth 20000 in
theorem kv_148 : ku_148 = ev_mku [5, 20] cz_148 := rfl
set_option maxRecDepth 20000 in
theorem kq_149 : kz_149_0 = cz_149.map ev_tr := rfl
set_option maxRecDepth 20000 in
theorem kv_149 : ku_149 = ev_mku [] cz_149 := rfl
theorem kz_ko : ev_KO kz
  | 0 => ev_ko1 rfl rfl kq_0 kv_0 (by decide +kernel)
  | 1 => ev_ko1 rfl rfl kq_1 kv_1 (by decide +kernel)
  | 2 => ev_ko1 rfl rfl kq_2 kv_2 (by decide +kernel)
  | 3 => ev_ko1 rfl rfl kq_3 kv_3 (by decide +kernel)
  | 4 => ev_ko1 rfl rfl kq_4 kv_4 (by decide +kernel)
  | 5 => ev_ko1 rfl rfl kq_5 kv_5 (by decide +kernel)
  | 6 => ev_ko1 rfl rfl kq_6 kv_6 (by decide +kernel)
  | 7 => ev_ko1 rfl rfl kq_7 kv_7 (by decide +kernel)
  | 8 => ev_ko1 rfl rfl kq_8 kv_8 (by decide +kernel)
  | 9 => ev_ko1 rfl rfl kq_9 kv_9 (by decide +kernel)
  | 10 => ev_ko1 rfl rfl kq_10 kv_10 (by decide +kernel)
  | 11 => ev_ko1 rfl rfl kq_11 kv_11 (by decide +kernel)
  | 12 => ev_ko1 rfl rfl kq_12 kv_12 (by decide +kernel)
  | 13 => ev_ko1 rfl rfl kq_13 kv_13 (by decide +kernel)
  | 14 => ev_ko1 rfl rfl kq_14 kv_14 (by decide +kernel)
  | 15 => ev_ko1 rfl rfl kq_15 kv_15 (by decide +kernel)
  | 16 => ev_ko1 rfl rfl kq_16 kv_16 (by decide +kernel)
  | 17 => ev_ko1 rfl rfl kq_17 kv_17 (by decide +kernel)
  | 18 => ev_ko1 rfl rfl kq_18 kv_18 (by decide +kernel)
  | 19 => ev_ko1 rfl rfl kq_19 kv_19 (by decide +kernel)
  | 20 => ev_ko1 rfl rfl kq_20 kv_20 (by decide +kernel)
  | 21 => ev_ko1 rfl rfl kq_21 kv_21 (by decide +kernel)
  | 22 => ev_ko1 rfl rfl kq_22 kv_22 (by decide +kernel)
  | 23 => ev_ko1 rfl rfl kq_23 kv_23 (by decide +kernel)
  | 24 => ev_ko1 rfl rfl kq_24 kv_24 (by decide +kernel)
  | 25 => ev_ko1 rfl rfl kq_25 kv_25 (by decide +kernel)
  | 26 => ev_ko1 rfl rfl kq_26 kv_26 (by decide +kernel)
  | 27 => ev_ko1 rfl rfl kq_27 kv_27 (by decide +kernel)
  | 28 => ev_ko1 rfl rfl kq_28 kv_28 (by decide +kernel)
  | 29 => ev_ko1 rfl rfl kq_29 kv_29 (by decide +kernel)
  | 30 => ev_ko1 rfl rfl kq_30 kv_30 (by decide +kernel)
  | 31 => ev_ko1 rfl rfl kq_31 kv_31 (by decide +kernel)
  | 32 => ev_ko1 rfl rfl kq_32 kv_32 (by decide +kernel)
  | 33 => ev_ko1 rfl rfl kq_33 kv_33 (by decide +kernel)
  | 34 => ev_ko1 rfl rfl kq_34 kv_34 (by decide +kernel)
  | 35 => ev_ko1 rfl rfl kq_35 kv_35 (by decide +kernel)
  | 36 => ev_ko1 rfl rfl kq_36 kv_36 (by decide +kernel)
  | 37 => ev_ko1 rfl rfl kq_37 kv_37 (by decide +kernel)
  | 38 => ev_ko1 rfl rfl kq_38 kv_38 (by decide +kernel)
  | 39 => ev_ko1 rfl rfl kq_39 kv_39 (by decide +kernel)
  | 40 => ev_ko1 rfl rfl kq_40 kv_40 (by decide +kernel)
  | 41 => ev_ko1 rfl rfl kq_41 kv_41 (by decide +kernel)
  | 42 => ev_ko1 rfl rfl kq_42 kv_42 (by decide +kernel)
  | 43 => ev_ko1 rfl rfl kq_43 kv_43 (by decide +kernel)
  | 44 => ev_ko1 rfl rfl kq_44 kv_44 (by decide +kernel)
  | 45 => ev_ko1 rfl rfl kq_45 kv_45 (by decide +kernel)
  | 46 => ev_ko1 rfl rfl kq_46 kv_46 (by decide +kernel)
  | 47 => ev_ko1 rfl rfl kq_47 kv_47 (by decide +kernel)
  | 48 => ev_ko1 rfl rfl kq_48 kv_48 (by decide +kernel)
  | 49 => ev_ko1 rfl rfl kq_49 kv_49 (by decide +kernel)
  | 50 => ev_ko1 rfl rfl kq_50 kv_50 (by decide +kernel)
  | 51 => ev_ko1 rfl rfl kq_51 kv_51 (by decide +kernel)
  | 52 => ev_ko1 rfl rfl kq_52 kv_52 (by decide +kernel)
  | 53 => ev_ko1 rfl rfl kq_53 kv_53 (by decide +kernel)
  | 54 => ev_ko1 rfl rfl kq_54 kv_54 (by decide +kernel)
  | 55 => ev_ko1 rfl rfl kq_55 kv_55 (by decide +kernel)
  | 56 => ev_ko1 rfl rfl kq_56 kv_56 (by decide +kernel)
  | 57 => ev_ko1 rfl rfl kq_57 kv_57 (by decide +kernel)
  | 58 => ev_ko1 rfl rfl kq_58 kv_58 (by decide +kernel)
  | 59 => ev_ko1 rfl rfl kq_59 kv_59 (by decide +kernel)
  | 60 => ev_ko1 rfl rfl kq_60 kv_60 (by decide +kernel)
  | 61 => ev_ko1 rfl rfl kq_61 kv_61 (by decide +kernel)
  | 62 => ev_ko1 rfl rfl kq_62 kv_62 (by decide +kernel)
  | 63 => ev_ko1 rfl rfl kq_63 kv_63 (by decide +kernel)
  | 64 => ev_ko1 rfl rfl kq_64 kv_64 (by decide +kernel)
  | 65 => ev_ko1 rfl rfl kq_65 kv_65 (by decide +kernel)
  | 66 => ev_ko1 rfl rfl kq_66 kv_66 (by decide +kernel)
  | 67 => ev_ko1 rfl rfl kq_67 kv_67 (by decide +kernel)
  | 68 => ev_ko1 rfl rfl kq_68 kv_68 (by decide +kernel)
  | 69 => ev_ko1 rfl rfl kq_69 kv_69 (by decide +kernel)
  | 70 => ev_ko1 rfl rfl kq_70 kv_70 (by decide +kernel)
  | 71 => ev_ko1 rfl rfl kq_71 kv_71 (by decide +kernel)
  | 72 => ev_ko1 rfl rfl kq_72 kv_72 (by decide +kernel)
  | 73 => ev_ko1 rfl rfl kq_73 kv_73 (by decide +kernel)
  | 74 => ev_ko1 rfl rfl kq_74 kv_74 (by decide +kernel)
  | 75 => ev_ko1 rfl rfl kq_75 kv_75 (by decide +kernel)
  | 76 => ev_ko1 rfl rfl kq_76 kv_76 (by decide +kernel)
  | 77 => ev_ko1 rfl rfl kq_77 kv_77 (by decide +kernel)
  | 78 => ev_ko1 rfl rfl kq_78 kv_78 (by decide +kernel)
  | 79 => ev_ko1 rfl rfl kq_79 kv_79 (by decide +kernel)
  | 80 => ev_ko1 rfl rfl kq_80 kv_80 (by decide +kernel)
  | 81 => ev_ko1 rfl rfl kq_81 kv_81 (by decide +kernel)
  | 82 => ev_ko1 rfl rfl kq_82 kv_82 (by decide +kernel)
  | 83 => ev_ko1 rfl rfl kq_83 kv_83 (by decide +kernel)
  | 84 => ev_ko1 rfl rfl kq_84 kv_84 (by decide +kernel)
  | 85 => ev_ko1 rfl rfl kq_85 kv_85 (by decide +kernel)
  | 86 => ev_ko1 rfl rfl kq_86 kv_86 (by decide +kernel)
  | 87 => ev_ko1 rfl rfl kq_87 kv_87 (by decide +kernel)
  | 88 => ev_ko1 rfl rfl kq_88 kv_88 (by decide +kernel)
  | 89 => ev_ko1 rfl rfl kq_89 kv_89 (by decide +kernel)
  | 90 => ev_ko1 rfl rfl kq_90 kv_90 (by decide +kernel)
  | 91 => ev_ko1 rfl rfl kq_91 kv_91 (by decide +kernel)
  | 92 => ev_ko1 rfl rfl kq_92 kv_92 (by decide +kernel)
  | 93 => ev_ko1 rfl rfl kq_93 kv_93 (by decide +kernel)
  | 94 => ev_ko1 rfl rfl kq_94 kv_94 (by decide +kernel)
  | 95 => ev_ko1 rfl rfl kq_95 kv_95 (by decide +kernel)
  | 96 => ev_ko1 rfl rfl kq_96 kv_96 (by decide +kernel)
  | 97 => ev_ko1 rfl rfl kq_97 kv_97 (by decide +kernel)
  | 98 => ev_ko1 rfl rfl kq_98 kv_98 (by decide +kernel)
  | 99 => ev_ko1 rfl rfl kq_99 kv_99 (by decide +kernel)
  | 100 => ev_ko1 rfl rfl kq_100 kv_100 (by decide +kernel)
  | 101 => ev_ko1 rfl rfl kq_101 kv_101 (by decide +kernel)
  | 102 => ev_ko1 rfl rfl kq_102 kv_102 (by decide +kernel)
  | 103 => ev_ko1 rfl rfl kq_103 kv_103 (by decide +kernel)
  | 104 => ev_ko1 rfl rfl kq_104 kv_104 (by decide +kernel)
  | 105 => ev_ko1 rfl rfl kq_105 kv_105 (by decide +kernel)
  | 106 => ev_ko1 rfl rfl kq_106 kv_106 (by decide +kernel)
  | 107 => ev_ko1 rfl rfl kq_107 kv_107 (by decide +kernel)
  | 108 => ev_ko1 rfl rfl kq_108 kv_108 (by decide +kernel)
  | 109 => ev_ko1 rfl rfl kq_109 kv_109 (by decide +kernel)
  | 110 => ev_ko1 rfl rfl kq_110 kv_110 (by decide +kernel)
  | 111 => ev_ko1 rfl rfl kq_111 kv_111 (by decide +kernel)
  | 112 => ev_ko1 rfl rfl kq_112 kv_112 (by decide +kernel)
  | 113 => ev_ko1 rfl rfl kq_113 kv_113 (by decide +kernel)
  | 114 => ev_ko1 rfl rfl kq_114 kv_114 (by decide +kernel)
  | 115 => ev_ko1 rfl rfl kq_115 kv_115 (by decide +kernel)
  | 116 => ev_ko1 rfl rfl kq_116 kv_116 (by decide +kernel)
  | 117 => ev_ko1 rfl rfl kq_117 kv_117 (by decide +kernel)
  | 118 => ev_ko1 rfl rfl kq_118 kv_118 (by decide +kernel)
  | 119 => ev_ko1 rfl rfl kq_119 kv_119 (by decide +kernel)
  | 120 => ev_ko1 rfl rfl kq_120 kv_120 (by decide +kernel)
  | 121 => ev_ko1 rfl rfl kq_121 kv_121 (by decide +kernel)
  | 122 => ev_ko1 rfl rfl kq_122 kv_122 (by decide +kernel)
  | 123 => ev_ko1 rfl rfl kq_123 kv_123 (by decide +kernel)
  | 124 => ev_ko1 rfl rfl kq_124 kv_124 (by decide +kernel)
  | 125 => ev_ko1 rfl rfl kq_125 kv_125 (by decide +kernel)
  | 126 => ev_ko1 rfl rfl kq_126 kv_126 (by decide +kernel)
  | 127 => ev_ko1 rfl rfl kq_127 kv_127 (by decide +kernel)
  | 128 => ev_ko1 rfl rfl kq_128 kv_128 (by decide +kernel)
  | 129 => ev_ko1 rfl rfl kq_129 kv_129 (by decide +kernel)
  | 130 => ev_ko1 rfl rfl kq_130 kv_130 (by decide +kernel)
  | 131 => ev_ko1 rfl rfl kq_131 kv_131 (by decide +kernel)
  | 132 => ev_ko1 rfl rfl kq_132 kv_132 (by decide +kernel)
  | 133 => ev_ko1 rfl rfl kq_133 kv_133 (by decide +kernel)
  | 134 => ev_ko1 rfl rfl kq_134 kv_134 (by decide +kernel)
  | 135 => ev_ko1 rfl rfl kq_135 kv_135 (by decide +kernel)
  | 136 => ev_ko1 rfl rfl kq_136 kv_136 (by decide +kernel)
  | 137 => ev_ko1 rfl rfl kq_137 kv_137 (by decide +kernel)
  | 138 => ev_ko1 rfl rfl kq_138 kv_138 (by decide +kernel)
  | 139 => ev_ko1 rfl rfl kq_139 kv_139 (by decide +kernel)
  | 140 => ev_ko1 rfl rfl kq_140 kv_140 (by decide +kernel)
  | 141 => ev_ko1 rfl rfl kq_141 kv_141 (by decide +kernel)
  | 142 => ev_ko1 rfl rfl kq_142 kv_142 (by decide +kernel)
  | 143 => ev_ko1 rfl rfl kq_143 kv_143 (by decide +kernel)
  | 144 => ev_ko1 rfl rfl kq_144 kv_144 (by decide +kernel)
  | 145 => ev_ko1 rfl rfl kq_145 kv_145 (by decide +kernel)
  | 146 => ev_ko1 rfl rfl kq_146 kv_146 (by decide +kernel)
  | 147 => ev_ko1 rfl rfl kq_147 kv_147 (by decide +kernel)
  | 148 => ev_ko1 rfl rfl kq_148 kv_148 (by decide +kernel)
  | 149 => ev_ko1 rfl rfl kq_149 kv_149 (by decide +kernel)
  | n + 150 => ev_ko1 (ts := []) (cs := []) (fu := []) (co := []) (by
    unfold kz
    have : Nat.blt (n + 150) 150 = false := by
      cases hb : Nat.blt (n + 150) 150 with
      | false => rfl
      | true => have := Nat.blt_eq.mp hb; omega
    rw [this]; rfl) (by
    have : tz_coL.length ≤ n + 150 := by
      have e : tz_coL.length = 150 := rfl
      omega
    simp [tz_co, List.getD, List.getElem?_eq_none this]) rfl rfl rfl
end
section
/-! PRINTED: the evaluator's heaps behind the constructors: PackDesk (1), PackDeskModel (71), the law's row (126) -/
set_option maxRecDepth 20000 in
noncomputable def gS1 : ev_S := (70, 45937, (.add (.add (.add (.add (.add (.add (.add (.num 0) (.mul (.add (.num 1000) (.num 316)) (.add (.num 0) (.add (.num 0) (.num 0))))) (.add (.mul (.add (.num 1000) (.num 16)) (.add (.num 0) (.add (.num 0) (.num 0)))) (.num 0))) (.add (.add (.mul (.add (.num 1000) (.num 288)) (.add (.add (.add (.add (.add (.add (.add (.add (.add (.add (.num 8) (.num 7)) (.num 8)) (.add (.num 8) (.add (.num 9) (.num 8)))) (.add (.add (.num 8) (.add (.num 9) (.num 8))) (.add (.num 8) (.add (.num 9) (.num 8))))) (.add (.add (.add (.add (.num 8) (.num 7)) (.add (.num 9) (.num 8))) (.add (.num 8) (.add (.num 9) (.num 8)))) (.add (.add (.num 8) (.add (.num 9) (.num 8))) (.add (.num 8) (.add (.num 9) (.num 8)))))) (.add (.add (.add (.add (.add (.num 8) (.num 7)) (.num 8)) (.add (.num 8) (.add (.num 9) (.num 8)))) (.add (.add (.num 8) (.add (.num 9) (.num 8))) (.add (.num 8) (.add (.num 9) (.num 8))))) (.add (.add (.add (.num 8) (.add (.num 9) (.num 8))) (.add (.num 8) (.add (.num 9) (.num 8)))) (.add (.add (.num 8) (.add (.num 9) (.num 8))) (.add (.num 8) (.add (.num 9) (.num 8))))))) (.add (.add (.add (.add (.add (.add (.num 8) (.num 7)) (.num 8)) (.add (.num 8) (.add (.num 9) (.num 8)))) (.add (.add (.num 8) (.add (.num 9) (.num 8))) (.add (.num 8) (.add (.num 9) (.num 8))))) (.add (.add (.add (.add (.num 8) (.num 7)) (.add (.num 9) (.num 8))) (.add (.num 8) (.add (.num 9) (.num 8)))) (.add (.add (.num 8) (.add (.num 9) (.num 8))) (.add (.num 8) (.add (.num 9) (.num 8)))))) (.add (.add (.add (.add (.add (.num 8) (.num 7)) (.num 8)) (.add (.num 8) (.add (.num 9) (.num 8)))) (.add (.add (.num 8) (.add (.num 9) (.num 8))) (.add (.num 8) (.add (.num 9) (.num 8))))) (.add (.add (.add (.num 8) (.add (.num 9) (.num 8))) (.add (.num 8) (.add (.num 9) (.num 8)))) (.add (.add (.num 8) (.add (.num 9) (.num 8))) (.add (.num 8) (.add (.num 9) (.num 8)))))))) (.add (.add (.add (.add (.add (.add (.add (.num 8) (.num 7)) (.num 8)) (.add (.num 8) (.add (.num 9) (.num 8)))) (.add (.add (.num 8) (.add (.num 9) (.num 8))) (.add (.num 8) (.add (.num 9) (.num 8))))) (.add (.add (.add (.add (.num 8) (.num 7)) (.add (.num 9) (.num 8))) (.add (.num 8) (.add (.num 9) (.num 8)))) (.add (.add (.num 8) (.add (.num 9) (.num 8))) (.add (.num 8) (.add (.num 9) (.num 8)))))) (.add (.add (.add (.add (.add (.num 8) (.num 7)) (.num 8)) (.add (.num 8) (.add (.num 9) (.num 8)))) (.add (.add (.num 8) (.add (.num 9) (.num 8))) (.add (.num 8) (.add (.num 9) (.num 8))))) (.add (.add (.add (.num 8) (.add (.num 9) (.num 8))) (.add (.num 8) (.add (.num 9) (.num 8)))) (.add (.add (.num 8) (.add (.num 9) (.num 8))) (.add (.num 8) (.add (.num 9) (.num 8))))))) (.add (.add (.add (.add (.add (.add (.num 8) (.num 7)) (.num 8)) (.add (.num 8) (.add (.num 9) (.num 8)))) (.add (.add (.num 8) (.add (.num 9) (.num 8))) (.add (.num 8) (.add (.num 9) (.num 8))))) (.add (.add (.add (.add (.num 8) (.num 7)) (.add (.num 9) (.num 8))) (.add (.num 8) (.add (.num 9) (.num 8)))) (.add (.add (.num 8) (.add (.num 9) (.num 8))) (.add (.num 8) (.add (.num 9) (.num 8)))))) (.add (.add (.add (.add (.add (.num 8) (.num 7)) (.num 8)) (.add (.num 8) (.add (.num 9) (.num 8)))) (.add (.add (.num 8) (.add (.num 9) (.num 8))) (.add (.num 8) (.add (.num 9) (.num 8))))) (.add (.add (.add (.num 8) (.add (.num 9) (.num 8))) (.add (.num 8) (.add (.num 9) (.num 8)))) (.add (.add (.num 8) (.add (.num 9) (.num 8))) (.add (.num 8) (.add (.num 9) (.num 8))))))))) (.add (.add (.add (.add (.add (.add (.add (.add (.num 8) (.num 7)) (.num 8)) (.add (.num 8) (.add (.num 9) (.num 8)))) (.add (.add (.num 8) (.add (.num 9) (.num 8))) (.add (.num 8) (.add (.num 9) (.num 8))))) (.add (.add (.add (.add (.num 8) (.num 7)) (.add (.num 9) (.num 8))) (.add (.num 8) (.add (.num 9) (.num 8)))) (.add (.add (.num 8) (.add (.num 9) (.num 8))) (.add (.num 8) (.add (.num 9) (.num 8)))))) (.add (.add (.add (.add (.add (.num 8) (.num 7)) (.num 8)) (.add (.num 8) (.add (.num 9) (.num 8)))) (.add (.add (.num 8) (.add (.num 9) (.num 8))) (.add (.num 8) (.add (.num 9) (.num 8))))) (.add (.add (.add (.num 8) (.add (.num 9) (.num 8))) (.add (.num 8) (.add (.num 9) (.num 8)))) (.add (.add (.num 8) (.add (.num 9) (.num 8))) (.add (.num 8) (.add (.num 9) (.num 8))))))) (.add (.add (.add (.add (.add (.add (.num 8) (.num 7)) (.num 8)) (.add (.num 8) (.add (.num 9) (.num 8)))) (.add (.add (.num 8) (.add (.num 9) (.num 8))) (.add (.num 8) (.add (.num 9) (.num 8))))) (.add (.add (.add (.add (.num 8) (.num 7)) (.add (.num 9) (.num 8))) (.add (.num 8) (.add (.num 9) (.num 8)))) (.add (.add (.num 8) (.add (.num 9) (.num 8))) (.add (.num 8) (.add (.num 9) (.num 8)))))) (.add (.add (.add (.add (.add (.num 8) (.num 7)) (.num 8)) (.add (.num 8) (.add (.num 9) (.num 8)))) (.add (.add (.num 8) (.add (.num 9) (.num 8))) (.add (.num 8) (.add (.num 9) (.num 8))))) (.add (.add (.add (.num 8) (.add (.num 9) (.num 8))) (.add (.num 8) (.add (.num 9) (.num 8)))) (.add (.add (.num 8) (.add (.num 9) (.num 8))) (.add (.num 8) (.add (.num 9) (.num 8)))))))) (.add (.add (.add (.add (.add (.add (.add (.num 8) (.num 7)) (.num 8)) (.add (.num 8) (.add (.num 9) (.num 8)))) (.add (.add (.num 8) (.add (.num 9) (.num 8))) (.add (.num 8) (.add (.num 9) (.num 8))))) (.add (.add (.add (.add (.num 8) (.num 7)) (.add (.num 9) (.num 8))) (.add (.num 8) (.add (.num 9) (.num 8)))) (.add (.add (.num 8) (.add (.num 9) (.num 8))) (.add (.num 8) (.add (.num 9) (.num 8)))))) (.add (.add (.add (.add (.add (.num 8) (.num 7)) (.num 8)) (.add (.num 8) (.add (.num 9) (.num 8)))) (.add (.add (.num 8) (.add (.num 9) (.num 8))) (.add (.num 8) (.add (.num 9) (.num 8))))) (.add (.add (.add (.num 8) (.add (.num 9) (.num 8))) (.add (.num 8) (.add (.num 9) (.num 8)))) (.add (.add (.num 8) (.add (.num 9) (.num 8))) (.add (.num 8) (.add (.num 9) (.num 8))))))) (.add (.add (.add (.add (.add (.add (.num 8) (.num 7)) (.num 8)) (.add (.num 8) (.add (.num 9) (.num 8)))) (.add (.add (.num 8) (.add (.num 9) (.num 8))) (.add (.num 8) (.add (.num 9) (.num 8))))) (.add (.add (.add (.add (.num 8) (.num 7)) (.add (.num 9) (.num 8))) (.add (.num 8) (.add (.num 9) (.num 8)))) (.add (.add (.num 8) (.add (.num 9) (.num 8))) (.add (.num 8) (.add (.num 9) (.num 8)))))) (.add (.add (.add (.add (.add (.num 8) (.num 7)) (.num 8)) (.add (.num 8) (.add (.num 9) (.num 8)))) (.add (.add (.num 8) (.add (.num 9) (.num 8))) (.add (.num 8) (.add (.num 9) (.num 8))))) (.add (.add (.add (.num 8) (.add (.num 9) (.num 8))) (.add (.num 8) (.add (.num 9) (.num 8)))) (.add (.add (.num 8) (.add (.num 9) (.num 8))) (.add (.num 8) (.add (.num 9) (.num 8)))))))))) (.add (.num 0) (.num 0)))) (.num 0)) (.add (.mul (.add (.num 1000) (.num 16)) (.add (.num 0) (.add (.num 0) (.num 0)))) (.num 0)))) (.add (.add (.add (.mul (.add (.num 1000) (.num 64)) (.add (.num 0) (.add (.num 0) (.num 0)))) (.num 0)) (.add (.mul (.add (.num 1000) (.num 288)) (.add (.num 0) (.add (.num 0) (.num 0)))) (.num 0))) (.add (.add (.mul (.add (.num 1000) (.num 288)) (.add (.add (.add (.add (.add (.add (.add (.add (.add (.add (.num 0) (.num 0)) (.num 0)) (.num 0)) (.num 0)) (.add (.add (.add (.add (.num 1) (.num 0)) (.num 0)) (.num 0)) (.num 0))) (.add (.add (.add (.add (.add (.num 2) (.num 0)) (.num 0)) (.num 0)) (.num 0)) (.add (.add (.add (.add (.num 3) (.num 0)) (.num 0)) (.num 0)) (.num 0)))) (.add (.add (.add (.add (.add (.add (.num 4) (.num 0)) (.num 0)) (.num 0)) (.num 0)) (.add (.add (.add (.add (.num 5) (.num 0)) (.num 0)) (.num 0)) (.num 0))) (.add (.add (.add (.add (.add (.num 6) (.num 0)) (.num 0)) (.num 0)) (.num 0)) (.add (.add (.add (.add (.num 7) (.num 0)) (.num 0)) (.num 0)) (.num 0))))) (.add (.add (.add (.add (.add (.add (.add (.num 8) (.num 0)) (.num 0)) (.num 0)) (.num 0)) (.add (.add (.add (.add (.num 9) (.num 0)) (.num 0)) (.num 0)) (.num 0))) (.add (.add (.add (.add (.add (.num 10) (.num 0)) (.num 0)) (.num 0)) (.num 0)) (.add (.add (.add (.add (.num 11) (.num 0)) (.num 0)) (.num 0)) (.num 0)))) (.add (.add (.add (.add (.add (.add (.num 12) (.num 0)) (.num 0)) (.num 0)) (.num 0)) (.add (.add (.add (.add (.num 13) (.num 0)) (.num 0)) (.num 0)) (.num 0))) (.add (.add (.add (.add (.add (.num 14) (.num 0)) (.num 0)) (.num 0)) (.num 0)) (.add (.add (.add (.add (.num 15) (.num 0)) (.num 0)) (.num 0)) (.num 0)))))) (.add (.add (.add (.add (.add (.add (.add (.add (.num 16) (.num 0)) (.num 0)) (.num 0)) (.num 0)) (.add (.add (.add (.add (.num 17) (.num 0)) (.num 0)) (.num 0)) (.num 0))) (.add (.add (.add (.add (.add (.num 18) (.num 0)) (.num 0)) (.num 0)) (.num 0)) (.add (.add (.add (.add (.num 19) (.num 0)) (.num 0)) (.num 0)) (.num 0)))) (.add (.add (.add (.add (.add (.add (.num 20) (.num 0)) (.num 0)) (.num 0)) (.num 0)) (.add (.add (.add (.add (.num 21) (.num 0)) (.num 0)) (.num 0)) (.num 0))) (.add (.add (.add (.add (.add (.num 22) (.num 0)) (.num 0)) (.num 0)) (.num 0)) (.add (.add (.add (.add (.num 23) (.num 0)) (.num 0)) (.num 0)) (.num 0))))) (.add (.add (.add (.add (.add (.add (.add (.num 24) (.num 0)) (.num 0)) (.num 0)) (.num 0)) (.add (.add (.add (.add (.num 25) (.num 0)) (.num 0)) (.num 0)) (.num 0))) (.add (.add (.add (.add (.add (.num 26) (.num 0)) (.num 0)) (.num 0)) (.num 0)) (.add (.add (.add (.add (.num 27) (.num 0)) (.num 0)) (.num 0)) (.num 0)))) (.add (.add (.add (.add (.add (.add (.num 28) (.num 0)) (.num 0)) (.num 0)) (.num 0)) (.add (.add (.add (.add (.num 29) (.num 0)) (.num 0)) (.num 0)) (.num 0))) (.add (.add (.add (.add (.add (.num 30) (.num 0)) (.num 0)) (.num 0)) (.num 0)) (.add (.add (.add (.add (.num 31) (.num 0)) (.num 0)) (.num 0)) (.num 0))))))) (.add (.num 0) (.num 0)))) (.num 0)) (.add (.mul (.add (.num 1000) (.num 60)) (.add (.num 0) (.add (.num 0) (.num 0)))) (.num 0))))) (.add (.add (.add (.add (.mul (.add (.num 12) (.num 0)) (.add (.num 0) (.add (.num 0) (.add (.add (.add (.add (.add (.add (.add (.num 5) (.num 0)) (.num 0)) (.num 0)) (.num 0)) (.num 0)) (.num 0)) (.num 0))))) (.mul (.add (.num 3) (.num 0)) (.add (.num 0) (.add (.num 0) (.add (.add (.add (.add (.add (.add (.add (.num 50) (.num 0)) (.num 0)) (.num 0)) (.num 0)) (.num 0)) (.num 0)) (.num 0)))))) (.add (.mul (.add (.num 5) (.num 0)) (.add (.num 0) (.add (.num 0) (.add (.add (.add (.add (.add (.add (.add (.num 37) (.num 0)) (.num 0)) (.num 0)) (.num 0)) (.num 0)) (.add (.add (.add (.add (.add (.num 39) (.num 0)) (.num 0)) (.num 0)) (.num 0)) (.add (.add (.add (.add (.num 42) (.num 0)) (.num 0)) (.num 0)) (.num 0)))) (.add (.add (.add (.add (.add (.add (.num 38) (.num 0)) (.num 0)) (.num 0)) (.num 0)) (.add (.add (.add (.add (.num 41) (.num 0)) (.num 0)) (.num 0)) (.num 0))) (.add (.add (.add (.add (.add (.num 40) (.num 0)) (.num 0)) (.num 0)) (.num 0)) (.num 0))))))) (.num 0))) (.add (.add (.mul (.add (.num 1000) (.num 16)) (.add (.add (.add (.add (.add (.num 0) (.add (.num 200) (.num 0))) (.add (.add (.num 0) (.num 0)) (.add (.num 4096) (.num 0)))) (.add (.add (.add (.num 0) (.num 0)) (.add (.num 1024) (.num 0))) (.add (.add (.num 0) (.num 0)) (.add (.num 16384) (.num 0))))) (.add (.add (.add (.add (.num 0) (.num 0)) (.add (.num 512) (.num 0))) (.add (.add (.num 0) (.num 0)) (.add (.num 8192) (.num 0)))) (.add (.add (.add (.num 0) (.num 0)) (.add (.num 2048) (.num 0))) (.add (.add (.num 24) (.num 0)) (.add (.num 32768) (.num 0)))))) (.add (.num 0) (.num 0)))) (.num 0)) (.add (.mul (.add (.num 10) (.num 0)) (.add (.num 0) (.add (.num 0) (.add (.add (.add (.add (.add (.add (.add (.num 50) (.num 0)) (.num 0)) (.num 0)) (.add (.add (.add (.num 66) (.num 0)) (.num 0)) (.num 0))) (.add (.add (.add (.add (.num 9) (.num 0)) (.num 0)) (.num 0)) (.num 0))) (.add (.add (.add (.add (.add (.num 55) (.num 0)) (.num 0)) (.num 0)) (.num 0)) (.add (.add (.add (.add (.num 58) (.num 0)) (.num 0)) (.num 0)) (.num 0)))) (.add (.add (.add (.add (.add (.add (.num 53) (.num 0)) (.num 0)) (.num 0)) (.add (.add (.add (.num 67) (.num 0)) (.num 0)) (.num 0))) (.add (.add (.add (.add (.num 68) (.num 0)) (.num 0)) (.num 0)) (.num 0))) (.add (.add (.add (.add (.add (.num 14) (.num 0)) (.num 0)) (.num 0)) (.num 0)) (.add (.add (.add (.add (.num 61) (.num 0)) (.num 0)) (.num 0)) (.num 0)))))))) (.num 0)))) (.add (.add (.add (.mul (.add (.num 1002) (.num 288)) (.add (.num 0) (.add (.num 0) (.num 0)))) (.num 0)) (.add (.mul (.add (.num 1000) (.num 288)) (.add (.num 0) (.add (.num 0) (.num 0)))) (.num 0))) (.add (.add (.mul (.add (.num 1000) (.num 16)) (.add (.add (.add (.add (.add (.num 0) (.add (.num 32) (.num 0))) (.add (.add (.num 0) (.num 0)) (.add (.num 32) (.num 0)))) (.add (.add (.add (.num 0) (.num 0)) (.add (.num 32) (.num 0))) (.add (.add (.num 32) (.num 0)) (.add (.num 32) (.num 0))))) (.add (.add (.add (.add (.num 0) (.num 0)) (.add (.num 32) (.num 0))) (.add (.add (.num 32) (.num 0)) (.add (.num 32) (.num 0)))) (.add (.add (.add (.num 0) (.num 0)) (.add (.num 32) (.num 0))) (.add (.add (.num 32) (.num 0)) (.add (.num 32) (.num 0)))))) (.add (.num 0) (.num 0)))) (.num 0)) (.add (.mul (.add (.num 1000) (.num 6000)) (.add (.num 0) (.add (.num 0) (.num 0)))) (.num 0)))))) (.add (.add (.add (.add (.add (.mul (.add (.num 12) (.num 0)) (.add (.num 0) (.add (.num 0) (.add (.add (.add (.add (.add (.add (.add (.num 3) (.num 0)) (.num 0)) (.num 0)) (.num 0)) (.num 0)) (.num 0)) (.num 0))))) (.mul (.add (.num 1000) (.num 286)) (.add (.num 0) (.add (.num 0) (.num 0))))) (.add (.mul (.add (.num 1000) (.num 16)) (.add (.num 0) (.add (.num 0) (.num 0)))) (.num 0))) (.add (.add (.mul (.add (.num 1000) (.num 16)) (.add (.add (.add (.add (.add (.num 0) (.add (.num 152) (.num 0))) (.num 0)) (.num 0)) (.add (.add (.add (.num 0) (.add (.num 112) (.num 0))) (.num 0)) (.add (.num 0) (.add (.add (.num 24) (.num 0)) (.num 0))))) (.add (.num 0) (.num 0)))) (.num 0)) (.add (.mul (.add (.num 12) (.num 0)) (.add (.num 0) (.add (.num 0) (.add (.add (.add (.add (.add (.add (.add (.num 51) (.num 0)) (.num 0)) (.num 0)) (.num 0)) (.num 0)) (.num 0)) (.num 0))))) (.num 0)))) (.add (.add (.add (.mul (.add (.num 1000) (.num 288)) (.add (.num 0) (.add (.num 0) (.num 0)))) (.num 0)) (.add (.mul (.add (.num 1000) (.num 16)) (.add (.num 0) (.add (.num 0) (.num 0)))) (.num 0))) (.add (.add (.mul (.add (.num 1000) (.num 288)) (.add (.add (.add (.add (.add (.add (.add (.add (.add (.add (.num 0) (.num 0)) (.num 0)) (.num 0)) (.num 0)) (.add (.add (.add (.add (.num 16) (.num 0)) (.num 0)) (.num 0)) (.num 0))) (.add (.add (.add (.add (.add (.num 8) (.num 0)) (.num 0)) (.num 0)) (.num 0)) (.add (.add (.add (.add (.num 24) (.num 0)) (.num 0)) (.num 0)) (.num 0)))) (.add (.add (.add (.add (.add (.add (.num 4) (.num 0)) (.num 0)) (.num 0)) (.num 0)) (.add (.add (.add (.add (.num 20) (.num 0)) (.num 0)) (.num 0)) (.num 0))) (.add (.add (.add (.add (.add (.num 12) (.num 0)) (.num 0)) (.num 0)) (.num 0)) (.add (.add (.add (.add (.num 28) (.num 0)) (.num 0)) (.num 0)) (.num 0))))) (.add (.add (.add (.add (.add (.add (.add (.num 2) (.num 0)) (.num 0)) (.num 0)) (.num 0)) (.add (.add (.add (.add (.num 18) (.num 0)) (.num 0)) (.num 0)) (.num 0))) (.add (.add (.add (.add (.add (.num 10) (.num 0)) (.num 0)) (.num 0)) (.num 0)) (.add (.add (.add (.add (.num 26) (.num 0)) (.num 0)) (.num 0)) (.num 0)))) (.add (.add (.add (.add (.add (.add (.num 6) (.num 0)) (.num 0)) (.num 0)) (.num 0)) (.add (.add (.add (.add (.num 22) (.num 0)) (.num 0)) (.num 0)) (.num 0))) (.add (.add (.add (.add (.add (.num 14) (.num 0)) (.num 0)) (.num 0)) (.num 0)) (.add (.add (.add (.add (.num 30) (.num 0)) (.num 0)) (.num 0)) (.num 0)))))) (.add (.add (.add (.add (.add (.add (.add (.add (.num 1) (.num 0)) (.num 0)) (.num 0)) (.num 0)) (.add (.add (.add (.add (.num 17) (.num 0)) (.num 0)) (.num 0)) (.num 0))) (.add (.add (.add (.add (.add (.num 9) (.num 0)) (.num 0)) (.num 0)) (.num 0)) (.add (.add (.add (.add (.num 25) (.num 0)) (.num 0)) (.num 0)) (.num 0)))) (.add (.add (.add (.add (.add (.add (.num 5) (.num 0)) (.num 0)) (.num 0)) (.num 0)) (.add (.add (.add (.add (.num 21) (.num 0)) (.num 0)) (.num 0)) (.num 0))) (.add (.add (.add (.add (.add (.num 13) (.num 0)) (.num 0)) (.num 0)) (.num 0)) (.add (.add (.add (.add (.num 29) (.num 0)) (.num 0)) (.num 0)) (.num 0))))) (.add (.add (.add (.add (.add (.add (.add (.num 3) (.num 0)) (.num 0)) (.num 0)) (.num 0)) (.add (.add (.add (.add (.num 19) (.num 0)) (.num 0)) (.num 0)) (.num 0))) (.add (.add (.add (.add (.add (.num 11) (.num 0)) (.num 0)) (.num 0)) (.num 0)) (.add (.add (.add (.add (.num 27) (.num 0)) (.num 0)) (.num 0)) (.num 0)))) (.add (.add (.add (.add (.add (.add (.num 7) (.num 0)) (.num 0)) (.num 0)) (.num 0)) (.add (.add (.add (.add (.num 23) (.num 0)) (.num 0)) (.num 0)) (.num 0))) (.add (.add (.add (.add (.add (.num 15) (.num 0)) (.num 0)) (.num 0)) (.num 0)) (.add (.add (.add (.add (.num 31) (.num 0)) (.num 0)) (.num 0)) (.num 0))))))) (.add (.num 0) (.num 0)))) (.num 0)) (.add (.mul (.add (.num 9) (.num 0)) (.add (.num 0) (.add (.num 0) (.add (.add (.add (.add (.add (.add (.add (.num 59) (.num 0)) (.num 0)) (.num 0)) (.num 0)) (.num 0)) (.num 0)) (.add (.add (.add (.add (.add (.add (.num 60) (.num 0)) (.num 0)) (.num 0)) (.num 0)) (.num 0)) (.num 0)))))) (.num 0))))) (.add (.add (.add (.add (.mul (.add (.num 1000) (.num 20)) (.add (.num 0) (.add (.num 0) (.num 0)))) (.mul (.add (.num 1000) (.num 316)) (.add (.num 0) (.add (.num 0) (.num 0))))) (.add (.mul (.add (.num 1000) (.num 288)) (.add (.num 0) (.add (.num 0) (.num 0)))) (.num 0))) (.add (.add (.mul (.add (.num 5) (.num 0)) (.add (.add (.add (.add (.num 0) (.add (.add (.add (.add (.num 32) (.num 0)) (.num 0)) (.num 0)) (.num 0))) (.num 0)) (.num 0)) (.add (.num 0) (.add (.add (.add (.add (.add (.add (.add (.num 23) (.num 0)) (.num 0)) (.num 0)) (.num 0)) (.num 0)) (.add (.add (.add (.add (.add (.num 25) (.num 0)) (.num 0)) (.num 0)) (.num 0)) (.add (.add (.add (.add (.num 28) (.num 0)) (.num 0)) (.num 0)) (.num 0)))) (.add (.add (.add (.add (.add (.add (.num 24) (.num 0)) (.num 0)) (.num 0)) (.num 0)) (.add (.add (.add (.add (.num 27) (.num 0)) (.num 0)) (.num 0)) (.num 0))) (.add (.add (.add (.add (.add (.num 26) (.num 0)) (.num 0)) (.num 0)) (.num 0)) (.num 0))))))) (.num 0)) (.add (.mul (.add (.num 1000) (.num 6000)) (.add (.num 0) (.add (.num 0) (.num 0)))) (.num 0)))) (.add (.add (.add (.mul (.add (.num 7) (.num 0)) (.add (.num 0) (.add (.num 0) (.add (.add (.add (.add (.add (.add (.add (.num 15) (.num 0)) (.num 0)) (.num 0)) (.num 0)) (.add (.add (.add (.add (.num 43) (.num 0)) (.num 0)) (.num 0)) (.num 0))) (.add (.add (.add (.add (.add (.num 29) (.num 0)) (.num 0)) (.num 0)) (.num 0)) (.num 0))) (.add (.add (.add (.add (.add (.add (.num 22) (.num 0)) (.num 0)) (.num 0)) (.num 0)) (.num 0)) (.add (.add (.add (.add (.add (.num 36) (.num 0)) (.num 0)) (.num 0)) (.num 0)) (.num 0))))))) (.num 0)) (.add (.mul (.add (.num 1000) (.num 16)) (.add (.num 0) (.add (.num 0) (.num 0)))) (.num 0))) (.add (.add (.mul (.add (.num 1000) (.num 288)) (.add (.num 0) (.add (.num 0) (.num 0)))) (.num 0)) (.add (.mul (.add (.num 1000) (.num 316)) (.add (.num 0) (.add (.num 0) (.num 0)))) (.num 0))))))) (.add (.add (.add (.add (.add (.add (.mul (.add (.num 1) (.num 0)) (.add (.num 0) (.add (.num 0) (.add (.add (.add (.add (.add (.add (.add (.num 2) (.num 0)) (.num 0)) (.num 0)) (.num 0)) (.add (.add (.add (.add (.num 8) (.num 0)) (.num 0)) (.num 0)) (.num 0))) (.add (.add (.add (.add (.add (.num 6) (.num 0)) (.num 0)) (.num 0)) (.num 0)) (.add (.add (.add (.add (.num 52) (.num 0)) (.num 0)) (.num 0)) (.num 0)))) (.add (.add (.add (.add (.add (.add (.num 4) (.num 0)) (.num 0)) (.num 0)) (.num 0)) (.add (.add (.add (.add (.num 9) (.num 0)) (.num 0)) (.num 0)) (.num 0))) (.add (.add (.add (.add (.add (.num 7) (.num 0)) (.num 0)) (.num 0)) (.num 0)) (.add (.add (.add (.add (.num 69) (.num 0)) (.num 0)) (.num 0)) (.num 0)))))))) (.mul (.add (.num 1000) (.num 19)) (.add (.num 0) (.add (.num 0) (.num 0))))) (.add (.mul (.add (.num 1000) (.num 288)) (.add (.num 0) (.add (.num 0) (.num 0)))) (.num 0))) (.add (.add (.mul (.add (.num 1000) (.num 288)) (.add (.add (.add (.add (.add (.add (.add (.add (.add (.add (.num 12) (.num 0)) (.add (.num 13) (.num 0))) (.add (.add (.num 14) (.num 0)) (.add (.num 7) (.num 0)))) (.add (.add (.add (.num 10) (.num 0)) (.add (.num 11) (.num 0))) (.add (.add (.num 9) (.num 0)) (.add (.num 15) (.num 0))))) (.add (.add (.add (.add (.num 2) (.num 4)) (.add (.num 19) (.num 0))) (.add (.add (.num 1) (.num 0)) (.add (.num 23) (.num 0)))) (.add (.add (.add (.num 6) (.num 0)) (.add (.num 27) (.num 0))) (.add (.add (.num 5) (.num 0)) (.add (.num 31) (.num 0)))))) (.add (.add (.add (.add (.add (.num 28) (.num 8)) (.add (.num 29) (.num 0))) (.add (.add (.num 30) (.num 0)) (.add (.num 39) (.num 0)))) (.add (.add (.add (.num 26) (.num 0)) (.add (.num 43) (.num 0))) (.add (.add (.num 25) (.num 0)) (.add (.num 47) (.num 0))))) (.add (.add (.add (.add (.num 18) (.num 3)) (.add (.num 51) (.num 0))) (.add (.add (.num 17) (.num 0)) (.add (.num 55) (.num 0)))) (.add (.add (.add (.num 22) (.num 0)) (.add (.num 59) (.num 0))) (.add (.add (.num 21) (.num 0)) (.add (.num 63) (.num 0))))))) (.add (.add (.add (.add (.add (.add (.num 44) (.num 16)) (.add (.num 45) (.num 0))) (.add (.add (.num 46) (.num 0)) (.add (.num 71) (.num 0)))) (.add (.add (.add (.num 42) (.num 0)) (.add (.num 75) (.num 0))) (.add (.add (.num 41) (.num 0)) (.add (.num 79) (.num 0))))) (.add (.add (.add (.add (.num 34) (.num 20)) (.add (.num 83) (.num 0))) (.add (.add (.num 33) (.num 0)) (.add (.num 87) (.num 0)))) (.add (.add (.add (.num 38) (.num 0)) (.add (.num 91) (.num 0))) (.add (.add (.num 37) (.num 0)) (.add (.num 95) (.num 0)))))) (.add (.add (.add (.add (.add (.num 60) (.num 24)) (.add (.num 61) (.num 0))) (.add (.add (.num 62) (.num 0)) (.add (.num 103) (.num 0)))) (.add (.add (.add (.num 58) (.num 0)) (.add (.num 107) (.num 0))) (.add (.add (.num 57) (.num 0)) (.add (.num 111) (.num 0))))) (.add (.add (.add (.add (.num 50) (.num 35)) (.add (.num 115) (.num 0))) (.add (.add (.num 49) (.num 0)) (.add (.num 119) (.num 0)))) (.add (.add (.add (.num 54) (.num 0)) (.add (.num 123) (.num 0))) (.add (.add (.num 53) (.num 0)) (.add (.num 127) (.num 0)))))))) (.add (.add (.add (.add (.add (.add (.add (.num 76) (.num 32)) (.add (.num 77) (.num 0))) (.add (.add (.num 78) (.num 0)) (.add (.num 135) (.num 0)))) (.add (.add (.add (.num 74) (.num 0)) (.add (.num 139) (.num 0))) (.add (.add (.num 73) (.num 0)) (.add (.num 143) (.num 0))))) (.add (.add (.add (.add (.num 66) (.num 36)) (.add (.num 147) (.num 0))) (.add (.add (.num 65) (.num 0)) (.add (.num 151) (.num 0)))) (.add (.add (.add (.num 70) (.num 0)) (.add (.num 155) (.num 0))) (.add (.add (.num 69) (.num 0)) (.add (.num 159) (.num 0)))))) (.add (.add (.add (.add (.add (.num 92) (.num 40)) (.add (.num 93) (.num 0))) (.add (.add (.num 94) (.num 0)) (.add (.num 167) (.num 0)))) (.add (.add (.add (.num 90) (.num 0)) (.add (.num 171) (.num 0))) (.add (.add (.num 89) (.num 0)) (.add (.num 175) (.num 0))))) (.add (.add (.add (.add (.num 82) (.num 67)) (.add (.num 179) (.num 0))) (.add (.add (.num 81) (.num 0)) (.add (.num 183) (.num 0)))) (.add (.add (.add (.num 86) (.num 0)) (.add (.num 187) (.num 0))) (.add (.add (.num 85) (.num 0)) (.add (.num 191) (.num 0))))))) (.add (.add (.add (.add (.add (.add (.num 108) (.num 48)) (.add (.num 109) (.num 0))) (.add (.add (.num 110) (.num 0)) (.add (.num 199) (.num 0)))) (.add (.add (.add (.num 106) (.num 0)) (.add (.num 203) (.num 0))) (.add (.add (.num 105) (.num 0)) (.add (.num 207) (.num 0))))) (.add (.add (.add (.add (.num 98) (.num 52)) (.add (.num 211) (.num 0))) (.add (.add (.num 97) (.num 0)) (.add (.num 215) (.num 0)))) (.add (.add (.add (.num 102) (.num 0)) (.add (.num 219) (.num 0))) (.add (.add (.num 101) (.num 0)) (.add (.num 223) (.num 0)))))) (.add (.add (.add (.add (.add (.num 124) (.num 56)) (.add (.num 125) (.num 0))) (.add (.add (.num 126) (.num 0)) (.add (.num 231) (.num 0)))) (.add (.add (.add (.num 122) (.num 0)) (.add (.num 235) (.num 0))) (.add (.add (.num 121) (.num 0)) (.add (.num 239) (.num 0))))) (.add (.add (.add (.add (.num 114) (.num 99)) (.add (.num 243) (.num 0))) (.add (.add (.num 113) (.num 0)) (.add (.num 247) (.num 0)))) (.add (.add (.add (.num 118) (.num 0)) (.add (.num 251) (.num 0))) (.add (.add (.num 117) (.num 0)) (.add (.num 255) (.num 0))))))))) (.add (.add (.add (.add (.add (.add (.add (.add (.num 140) (.num 64)) (.add (.num 141) (.num 0))) (.add (.add (.num 142) (.num 0)) (.add (.num 263) (.num 0)))) (.add (.add (.add (.num 138) (.num 0)) (.add (.num 267) (.num 0))) (.add (.add (.num 137) (.num 0)) (.add (.num 271) (.num 0))))) (.add (.add (.add (.add (.num 130) (.num 68)) (.add (.num 275) (.num 0))) (.add (.add (.num 129) (.num 0)) (.add (.num 279) (.num 0)))) (.add (.add (.add (.num 134) (.num 0)) (.add (.num 283) (.num 0))) (.add (.add (.num 133) (.num 0)) (.add (.num 287) (.num 0)))))) (.add (.add (.add (.add (.add (.num 156) (.num 72)) (.add (.num 157) (.num 0))) (.add (.add (.num 158) (.num 0)) (.add (.num 295) (.num 0)))) (.add (.add (.add (.num 154) (.num 0)) (.add (.num 299) (.num 0))) (.add (.add (.num 153) (.num 0)) (.add (.num 303) (.num 0))))) (.add (.add (.add (.add (.num 146) (.num 131)) (.add (.num 307) (.num 0))) (.add (.add (.num 145) (.num 0)) (.add (.num 311) (.num 0)))) (.add (.add (.add (.num 150) (.num 0)) (.add (.num 315) (.num 0))) (.add (.add (.num 149) (.num 0)) (.add (.num 319) (.num 0))))))) (.add (.add (.add (.add (.add (.add (.num 172) (.num 80)) (.add (.num 173) (.num 0))) (.add (.add (.num 174) (.num 0)) (.add (.num 327) (.num 0)))) (.add (.add (.add (.num 170) (.num 0)) (.add (.num 331) (.num 0))) (.add (.add (.num 169) (.num 0)) (.add (.num 335) (.num 0))))) (.add (.add (.add (.add (.num 162) (.num 84)) (.add (.num 339) (.num 0))) (.add (.add (.num 161) (.num 0)) (.add (.num 343) (.num 0)))) (.add (.add (.add (.num 166) (.num 0)) (.add (.num 347) (.num 0))) (.add (.add (.num 165) (.num 0)) (.add (.num 351) (.num 0)))))) (.add (.add (.add (.add (.add (.num 188) (.num 88)) (.add (.num 189) (.num 0))) (.add (.add (.num 190) (.num 0)) (.add (.num 359) (.num 0)))) (.add (.add (.add (.num 186) (.num 0)) (.add (.num 363) (.num 0))) (.add (.add (.num 185) (.num 0)) (.add (.num 367) (.num 0))))) (.add (.add (.add (.add (.num 178) (.num 163)) (.add (.num 371) (.num 0))) (.add (.add (.num 177) (.num 0)) (.add (.num 375) (.num 0)))) (.add (.add (.add (.num 182) (.num 0)) (.add (.num 379) (.num 0))) (.add (.add (.num 181) (.num 0)) (.add (.num 383) (.num 0)))))))) (.add (.add (.add (.add (.add (.add (.add (.num 204) (.num 96)) (.add (.num 205) (.num 0))) (.add (.add (.num 206) (.num 0)) (.add (.num 391) (.num 0)))) (.add (.add (.add (.num 202) (.num 0)) (.add (.num 395) (.num 0))) (.add (.add (.num 201) (.num 0)) (.add (.num 399) (.num 0))))) (.add (.add (.add (.add (.num 194) (.num 100)) (.add (.num 403) (.num 0))) (.add (.add (.num 193) (.num 0)) (.add (.num 407) (.num 0)))) (.add (.add (.add (.num 198) (.num 0)) (.add (.num 411) (.num 0))) (.add (.add (.num 197) (.num 0)) (.add (.num 415) (.num 0)))))) (.add (.add (.add (.add (.add (.num 220) (.num 104)) (.add (.num 221) (.num 0))) (.add (.add (.num 222) (.num 0)) (.add (.num 423) (.num 0)))) (.add (.add (.add (.num 218) (.num 0)) (.add (.num 427) (.num 0))) (.add (.add (.num 217) (.num 0)) (.add (.num 431) (.num 0))))) (.add (.add (.add (.add (.num 210) (.num 195)) (.add (.num 435) (.num 0))) (.add (.add (.num 209) (.num 0)) (.add (.num 439) (.num 0)))) (.add (.add (.add (.num 214) (.num 0)) (.add (.num 443) (.num 0))) (.add (.add (.num 213) (.num 0)) (.add (.num 447) (.num 0))))))) (.add (.add (.add (.add (.add (.add (.num 236) (.num 112)) (.add (.num 237) (.num 0))) (.add (.add (.num 238) (.num 0)) (.add (.num 455) (.num 0)))) (.add (.add (.add (.num 234) (.num 0)) (.add (.num 459) (.num 0))) (.add (.add (.num 233) (.num 0)) (.add (.num 463) (.num 0))))) (.add (.add (.add (.add (.num 226) (.num 116)) (.add (.num 467) (.num 0))) (.add (.add (.num 225) (.num 0)) (.add (.num 471) (.num 0)))) (.add (.add (.add (.num 230) (.num 0)) (.add (.num 475) (.num 0))) (.add (.add (.num 229) (.num 0)) (.add (.num 479) (.num 0)))))) (.add (.add (.add (.add (.add (.num 252) (.num 120)) (.add (.num 253) (.num 0))) (.add (.add (.num 254) (.num 0)) (.add (.num 487) (.num 0)))) (.add (.add (.add (.num 250) (.num 0)) (.add (.num 491) (.num 0))) (.add (.add (.num 249) (.num 0)) (.add (.num 495) (.num 0))))) (.add (.add (.add (.add (.num 242) (.num 227)) (.add (.num 499) (.num 0))) (.add (.add (.num 241) (.num 0)) (.add (.num 503) (.num 0)))) (.add (.add (.add (.num 246) (.num 0)) (.add (.num 507) (.num 0))) (.add (.add (.num 245) (.num 0)) (.add (.num 511) (.num 0)))))))))) (.add (.num 0) (.num 0)))) (.num 0)) (.add (.mul (.add (.num 1000) (.num 16)) (.add (.num 0) (.add (.num 0) (.num 0)))) (.num 0)))) (.add (.add (.add (.mul (.add (.num 8) (.num 0)) (.add (.num 0) (.add (.num 0) (.add (.add (.add (.add (.add (.add (.add (.num 10) (.num 0)) (.num 0)) (.num 0)) (.num 0)) (.num 0)) (.add (.add (.add (.add (.add (.num 12) (.num 0)) (.num 0)) (.num 0)) (.num 0)) (.num 0))) (.add (.add (.add (.add (.add (.add (.num 11) (.num 0)) (.num 0)) (.num 0)) (.num 0)) (.num 0)) (.add (.add (.add (.add (.add (.num 13) (.num 0)) (.num 0)) (.num 0)) (.num 0)) (.num 0))))))) (.num 0)) (.add (.mul (.add (.num 1000) (.num 16)) (.add (.num 0) (.add (.num 0) (.num 0)))) (.num 0))) (.add (.add (.mul (.add (.num 1000) (.num 16)) (.add (.add (.num 0) (.add (.add (.num 0) (.add (.add (.num 32) (.num 0)) (.num 0))) (.num 0))) (.add (.num 0) (.num 0)))) (.num 0)) (.add (.mul (.add (.num 1000) (.num 3350)) (.add (.num 0) (.add (.num 0) (.num 0)))) (.num 0))))) (.add (.add (.add (.add (.mul (.add (.num 1000) (.num 6100)) (.add (.num 0) (.add (.num 0) (.num 0)))) (.mul (.add (.num 13) (.num 0)) (.add (.add (.num 0) (.add (.num 0) (.add (.add (.add (.add (.add (.num 4294967295) (.num 0)) (.num 0)) (.num 0)) (.num 0)) (.num 0)))) (.add (.num 0) (.add (.add (.add (.add (.add (.add (.add (.num 50) (.num 0)) (.num 0)) (.num 0)) (.num 0)) (.add (.add (.add (.add (.num 14) (.num 0)) (.num 0)) (.num 0)) (.num 0))) (.num 0)) (.add (.add (.num 0) (.add (.add (.add (.add (.num 70) (.num 0)) (.num 0)) (.num 0)) (.num 0))) (.num 0))))))) (.add (.mul (.add (.num 1000) (.num 288)) (.add (.num 0) (.add (.num 0) (.num 0)))) (.num 0))) (.add (.add (.mul (.add (.num 1000) (.num 16)) (.add (.add (.add (.add (.add (.num 0) (.add (.num 176) (.num 0))) (.add (.add (.num 0) (.num 0)) (.add (.num 288) (.num 0)))) (.add (.add (.add (.num 0) (.num 0)) (.add (.num 288) (.num 0))) (.add (.add (.num 0) (.num 0)) (.add (.num 288) (.num 0))))) (.add (.add (.add (.add (.num 0) (.num 0)) (.add (.num 288) (.num 0))) (.add (.add (.num 0) (.num 0)) (.add (.num 288) (.num 0)))) (.add (.add (.add (.num 0) (.num 0)) (.add (.num 288) (.num 0))) (.add (.add (.num 24) (.num 0)) (.add (.num 288) (.num 0)))))) (.add (.num 0) (.num 0)))) (.num 0)) (.add (.mul (.add (.num 11) (.num 0)) (.add (.num 0) (.add (.num 0) (.add (.add (.add (.add (.add (.add (.add (.num 54) (.num 0)) (.num 0)) (.num 0)) (.num 0)) (.num 0)) (.num 0)) (.num 0))))) (.num 0)))) (.add (.add (.add (.mul (.add (.num 1000) (.num 576)) (.add (.num 0) (.add (.num 0) (.num 0)))) (.num 0)) (.add (.mul (.add (.num 1000) (.num 288)) (.add (.num 0) (.add (.num 0) (.num 0)))) (.num 0))) (.add (.add (.mul (.add (.num 5) (.num 0)) (.add (.num 0) (.add (.num 0) (.add (.add (.add (.add (.add (.add (.add (.num 30) (.num 0)) (.num 0)) (.num 0)) (.num 0)) (.num 0)) (.add (.add (.add (.add (.add (.num 32) (.num 0)) (.num 0)) (.num 0)) (.num 0)) (.add (.add (.add (.add (.num 35) (.num 0)) (.num 0)) (.num 0)) (.num 0)))) (.add (.add (.add (.add (.add (.add (.num 31) (.num 0)) (.num 0)) (.num 0)) (.num 0)) (.add (.add (.add (.add (.num 34) (.num 0)) (.num 0)) (.num 0)) (.num 0))) (.add (.add (.add (.add (.add (.num 33) (.num 0)) (.num 0)) (.num 0)) (.num 0)) (.num 0))))))) (.num 0)) (.add (.mul (.add (.num 6) (.num 0)) (.add (.num 0) (.add (.num 0) (.add (.add (.add (.add (.add (.add (.add (.num 62) (.num 0)) (.num 0)) (.num 0)) (.num 0)) (.add (.add (.add (.add (.num 64) (.num 0)) (.num 0)) (.num 0)) (.num 0))) (.add (.num 0) (.add (.add (.add (.add (.num 65) (.num 0)) (.num 0)) (.num 0)) (.num 0)))) (.add (.num 0) (.add (.add (.add (.add (.add (.num 63) (.num 0)) (.num 0)) (.num 0)) (.num 0)) (.num 0))))))) (.num 0)))))) (.add (.add (.add (.add (.add (.mul (.add (.num 1000) (.num 6100)) (.add (.num 0) (.add (.num 0) (.num 0)))) (.mul (.add (.num 1000) (.num 30)) (.add (.num 0) (.add (.num 0) (.num 0))))) (.add (.mul (.add (.num 1000) (.num 16)) (.add (.num 0) (.add (.num 0) (.num 0)))) (.num 0))) (.add (.add (.mul (.add (.num 1000) (.num 288)) (.add (.add (.add (.add (.add (.add (.add (.add (.add (.add (.num 256) (.num 224)) (.add (.num 104) (.num 0))) (.add (.add (.num 40) (.num 0)) (.add (.num 160) (.num 0)))) (.add (.add (.add (.num 8) (.num 0)) (.add (.num 136) (.num 0))) (.add (.add (.num 72) (.num 0)) (.add (.num 192) (.num 0))))) (.add (.add (.add (.add (.num 272) (.num 240)) (.add (.num 120) (.num 0))) (.add (.add (.num 56) (.num 0)) (.add (.num 176) (.num 0)))) (.add (.add (.add (.num 24) (.num 0)) (.add (.num 144) (.num 0))) (.add (.add (.num 88) (.num 0)) (.add (.num 208) (.num 0)))))) (.add (.add (.add (.add (.add (.num 264) (.num 232)) (.add (.num 112) (.num 0))) (.add (.add (.num 48) (.num 0)) (.add (.num 168) (.num 0)))) (.add (.add (.add (.num 16) (.num 0)) (.add (.num 280) (.num 0))) (.add (.add (.num 80) (.num 0)) (.add (.num 200) (.num 0))))) (.add (.add (.add (.add (.num 0) (.num 248)) (.add (.num 128) (.num 0))) (.add (.add (.num 64) (.num 0)) (.add (.num 184) (.num 0)))) (.add (.add (.add (.num 32) (.num 0)) (.add (.num 152) (.num 0))) (.add (.add (.num 96) (.num 0)) (.add (.num 216) (.num 0))))))) (.add (.add (.add (.add (.add (.add (.num 260) (.num 228)) (.add (.num 108) (.num 0))) (.add (.add (.num 44) (.num 0)) (.add (.num 164) (.num 0)))) (.add (.add (.add (.num 12) (.num 0)) (.add (.num 140) (.num 0))) (.add (.add (.num 76) (.num 0)) (.add (.num 196) (.num 0))))) (.add (.add (.add (.add (.num 276) (.num 244)) (.add (.num 124) (.num 0))) (.add (.add (.num 60) (.num 0)) (.add (.num 180) (.num 0)))) (.add (.add (.add (.num 28) (.num 0)) (.add (.num 148) (.num 0))) (.add (.add (.num 92) (.num 0)) (.add (.num 212) (.num 0)))))) (.add (.add (.add (.add (.add (.num 268) (.num 236)) (.add (.num 116) (.num 0))) (.add (.add (.num 52) (.num 0)) (.add (.num 172) (.num 0)))) (.add (.add (.add (.num 20) (.num 0)) (.add (.num 284) (.num 0))) (.add (.add (.num 84) (.num 0)) (.add (.num 204) (.num 0))))) (.add (.add (.add (.add (.num 4) (.num 252)) (.add (.num 132) (.num 0))) (.add (.add (.num 68) (.num 0)) (.add (.num 188) (.num 0)))) (.add (.add (.add (.num 36) (.num 0)) (.add (.num 156) (.num 0))) (.add (.add (.num 100) (.num 0)) (.add (.num 220) (.num 0)))))))) (.add (.add (.add (.add (.add (.add (.add (.num 258) (.num 226)) (.add (.num 106) (.num 0))) (.add (.add (.num 42) (.num 0)) (.add (.num 162) (.num 0)))) (.add (.add (.add (.num 10) (.num 0)) (.add (.num 138) (.num 0))) (.add (.add (.num 74) (.num 0)) (.add (.num 194) (.num 0))))) (.add (.add (.add (.add (.num 274) (.num 242)) (.add (.num 122) (.num 0))) (.add (.add (.num 58) (.num 0)) (.add (.num 178) (.num 0)))) (.add (.add (.add (.num 26) (.num 0)) (.add (.num 146) (.num 0))) (.add (.add (.num 90) (.num 0)) (.add (.num 210) (.num 0)))))) (.add (.add (.add (.add (.add (.num 266) (.num 234)) (.add (.num 114) (.num 0))) (.add (.add (.num 50) (.num 0)) (.add (.num 170) (.num 0)))) (.add (.add (.add (.num 18) (.num 0)) (.add (.num 282) (.num 0))) (.add (.add (.num 82) (.num 0)) (.add (.num 202) (.num 0))))) (.add (.add (.add (.add (.num 2) (.num 250)) (.add (.num 130) (.num 0))) (.add (.add (.num 66) (.num 0)) (.add (.num 186) (.num 0)))) (.add (.add (.add (.num 34) (.num 0)) (.add (.num 154) (.num 0))) (.add (.add (.num 98) (.num 0)) (.add (.num 218) (.num 0))))))) (.add (.add (.add (.add (.add (.add (.num 262) (.num 230)) (.add (.num 110) (.num 0))) (.add (.add (.num 46) (.num 0)) (.add (.num 166) (.num 0)))) (.add (.add (.add (.num 14) (.num 0)) (.add (.num 142) (.num 0))) (.add (.add (.num 78) (.num 0)) (.add (.num 198) (.num 0))))) (.add (.add (.add (.add (.num 278) (.num 246)) (.add (.num 126) (.num 0))) (.add (.add (.num 62) (.num 0)) (.add (.num 182) (.num 0)))) (.add (.add (.add (.num 30) (.num 0)) (.add (.num 150) (.num 0))) (.add (.add (.num 94) (.num 0)) (.add (.num 214) (.num 0)))))) (.add (.add (.add (.add (.add (.num 270) (.num 238)) (.add (.num 118) (.num 0))) (.add (.add (.num 54) (.num 0)) (.add (.num 174) (.num 0)))) (.add (.add (.add (.num 22) (.num 0)) (.add (.num 286) (.num 0))) (.add (.add (.num 86) (.num 0)) (.add (.num 206) (.num 0))))) (.add (.add (.add (.add (.num 6) (.num 254)) (.add (.num 134) (.num 0))) (.add (.add (.num 70) (.num 0)) (.add (.num 190) (.num 0)))) (.add (.add (.add (.num 38) (.num 0)) (.add (.num 158) (.num 0))) (.add (.add (.num 102) (.num 0)) (.add (.num 222) (.num 0))))))))) (.add (.add (.add (.add (.add (.add (.add (.add (.num 257) (.num 225)) (.add (.num 105) (.num 0))) (.add (.add (.num 41) (.num 0)) (.add (.num 161) (.num 0)))) (.add (.add (.add (.num 9) (.num 0)) (.add (.num 137) (.num 0))) (.add (.add (.num 73) (.num 0)) (.add (.num 193) (.num 0))))) (.add (.add (.add (.add (.num 273) (.num 241)) (.add (.num 121) (.num 0))) (.add (.add (.num 57) (.num 0)) (.add (.num 177) (.num 0)))) (.add (.add (.add (.num 25) (.num 0)) (.add (.num 145) (.num 0))) (.add (.add (.num 89) (.num 0)) (.add (.num 209) (.num 0)))))) (.add (.add (.add (.add (.add (.num 265) (.num 233)) (.add (.num 113) (.num 0))) (.add (.add (.num 49) (.num 0)) (.add (.num 169) (.num 0)))) (.add (.add (.add (.num 17) (.num 0)) (.add (.num 281) (.num 0))) (.add (.add (.num 81) (.num 0)) (.add (.num 201) (.num 0))))) (.add (.add (.add (.add (.num 1) (.num 249)) (.add (.num 129) (.num 0))) (.add (.add (.num 65) (.num 0)) (.add (.num 185) (.num 0)))) (.add (.add (.add (.num 33) (.num 0)) (.add (.num 153) (.num 0))) (.add (.add (.num 97) (.num 0)) (.add (.num 217) (.num 0))))))) (.add (.add (.add (.add (.add (.add (.num 261) (.num 229)) (.add (.num 109) (.num 0))) (.add (.add (.num 45) (.num 0)) (.add (.num 165) (.num 0)))) (.add (.add (.add (.num 13) (.num 0)) (.add (.num 141) (.num 0))) (.add (.add (.num 77) (.num 0)) (.add (.num 197) (.num 0))))) (.add (.add (.add (.add (.num 277) (.num 245)) (.add (.num 125) (.num 0))) (.add (.add (.num 61) (.num 0)) (.add (.num 181) (.num 0)))) (.add (.add (.add (.num 29) (.num 0)) (.add (.num 149) (.num 0))) (.add (.add (.num 93) (.num 0)) (.add (.num 213) (.num 0)))))) (.add (.add (.add (.add (.add (.num 269) (.num 237)) (.add (.num 117) (.num 0))) (.add (.add (.num 53) (.num 0)) (.add (.num 173) (.num 0)))) (.add (.add (.add (.num 21) (.num 0)) (.add (.num 285) (.num 0))) (.add (.add (.num 85) (.num 0)) (.add (.num 205) (.num 0))))) (.add (.add (.add (.add (.num 5) (.num 253)) (.add (.num 133) (.num 0))) (.add (.add (.num 69) (.num 0)) (.add (.num 189) (.num 0)))) (.add (.add (.add (.num 37) (.num 0)) (.add (.num 157) (.num 0))) (.add (.add (.num 101) (.num 0)) (.add (.num 221) (.num 0)))))))) (.add (.add (.add (.add (.add (.add (.add (.num 259) (.num 227)) (.add (.num 107) (.num 0))) (.add (.add (.num 43) (.num 0)) (.add (.num 163) (.num 0)))) (.add (.add (.add (.num 11) (.num 0)) (.add (.num 139) (.num 0))) (.add (.add (.num 75) (.num 0)) (.add (.num 195) (.num 0))))) (.add (.add (.add (.add (.num 275) (.num 243)) (.add (.num 123) (.num 0))) (.add (.add (.num 59) (.num 0)) (.add (.num 179) (.num 0)))) (.add (.add (.add (.num 27) (.num 0)) (.add (.num 147) (.num 0))) (.add (.add (.num 91) (.num 0)) (.add (.num 211) (.num 0)))))) (.add (.add (.add (.add (.add (.num 267) (.num 235)) (.add (.num 115) (.num 0))) (.add (.add (.num 51) (.num 0)) (.add (.num 171) (.num 0)))) (.add (.add (.add (.num 19) (.num 0)) (.add (.num 283) (.num 0))) (.add (.add (.num 83) (.num 0)) (.add (.num 203) (.num 0))))) (.add (.add (.add (.add (.num 3) (.num 251)) (.add (.num 131) (.num 0))) (.add (.add (.num 67) (.num 0)) (.add (.num 187) (.num 0)))) (.add (.add (.add (.num 35) (.num 0)) (.add (.num 155) (.num 0))) (.add (.add (.num 99) (.num 0)) (.add (.num 219) (.num 0))))))) (.add (.add (.add (.add (.add (.add (.num 263) (.num 231)) (.add (.num 111) (.num 0))) (.add (.add (.num 47) (.num 0)) (.add (.num 167) (.num 0)))) (.add (.add (.add (.num 15) (.num 0)) (.add (.num 143) (.num 0))) (.add (.add (.num 79) (.num 0)) (.add (.num 199) (.num 0))))) (.add (.add (.add (.add (.num 279) (.num 247)) (.add (.num 127) (.num 0))) (.add (.add (.num 63) (.num 0)) (.add (.num 183) (.num 0)))) (.add (.add (.add (.num 31) (.num 0)) (.add (.num 151) (.num 0))) (.add (.add (.num 95) (.num 0)) (.add (.num 215) (.num 0)))))) (.add (.add (.add (.add (.add (.num 271) (.num 239)) (.add (.num 119) (.num 0))) (.add (.add (.num 55) (.num 0)) (.add (.num 175) (.num 0)))) (.add (.add (.add (.num 23) (.num 0)) (.add (.num 287) (.num 0))) (.add (.add (.num 87) (.num 0)) (.add (.num 207) (.num 0))))) (.add (.add (.add (.add (.num 7) (.num 255)) (.add (.num 135) (.num 0))) (.add (.add (.num 71) (.num 0)) (.add (.num 191) (.num 0)))) (.add (.add (.add (.num 39) (.num 0)) (.add (.num 159) (.num 0))) (.add (.add (.num 103) (.num 0)) (.add (.num 223) (.num 0)))))))))) (.add (.num 0) (.num 0)))) (.num 0)) (.add (.mul (.add (.num 1000) (.num 6100)) (.add (.num 0) (.add (.num 0) (.num 0)))) (.num 0)))) (.add (.add (.add (.mul (.add (.num 1002) (.num 576)) (.add (.num 0) (.add (.num 0) (.num 0)))) (.num 0)) (.add (.mul (.add (.num 5) (.num 0)) (.add (.num 0) (.add (.num 0) (.add (.add (.add (.add (.add (.add (.add (.num 44) (.num 0)) (.num 0)) (.num 0)) (.num 0)) (.num 0)) (.add (.add (.add (.add (.add (.num 46) (.num 0)) (.num 0)) (.num 0)) (.num 0)) (.add (.add (.add (.add (.num 49) (.num 0)) (.num 0)) (.num 0)) (.num 0)))) (.add (.add (.add (.add (.add (.add (.num 45) (.num 0)) (.num 0)) (.num 0)) (.num 0)) (.add (.add (.add (.add (.num 48) (.num 0)) (.num 0)) (.num 0)) (.num 0))) (.add (.add (.add (.add (.add (.num 47) (.num 0)) (.num 0)) (.num 0)) (.num 0)) (.num 0))))))) (.num 0))) (.add (.add (.mul (.add (.num 1000) (.num 16)) (.add (.add (.add (.add (.add (.num 0) (.add (.num 256) (.num 0))) (.add (.add (.num 0) (.num 0)) (.add (.num 4096) (.num 0)))) (.add (.add (.add (.num 0) (.num 0)) (.add (.num 1024) (.num 0))) (.add (.add (.num 64) (.num 0)) (.add (.num 16384) (.num 0))))) (.add (.add (.add (.add (.num 0) (.num 0)) (.add (.num 512) (.num 0))) (.add (.add (.num 32) (.num 0)) (.add (.num 8192) (.num 0)))) (.add (.add (.add (.num 0) (.num 0)) (.add (.num 2048) (.num 0))) (.add (.add (.num 128) (.num 0)) (.add (.num 32768) (.num 0)))))) (.add (.num 0) (.num 0)))) (.num 0)) (.add (.mul (.add (.num 1000) (.num 4096)) (.add (.num 0) (.add (.num 0) (.num 0)))) (.num 0))))) (.add (.add (.add (.add (.mul (.add (.num 1000) (.num 64)) (.add (.num 0) (.add (.num 0) (.num 0)))) (.num 0)) (.add (.mul (.add (.num 1000) (.num 16)) (.add (.num 0) (.add (.num 0) (.num 0)))) (.num 0))) (.add (.add (.mul (.add (.num 1000) (.num 288)) (.add (.add (.add (.add (.add (.add (.add (.add (.add (.add (.num 5) (.num 0)) (.num 0)) (.num 0)) (.num 0)) (.add (.add (.add (.add (.num 5) (.num 0)) (.num 0)) (.num 0)) (.num 0))) (.add (.add (.add (.add (.add (.num 5) (.num 0)) (.num 0)) (.num 0)) (.num 0)) (.add (.add (.add (.add (.num 5) (.num 0)) (.num 0)) (.num 0)) (.num 0)))) (.add (.add (.add (.add (.add (.add (.num 5) (.num 0)) (.num 0)) (.num 0)) (.num 0)) (.add (.add (.add (.add (.num 5) (.num 0)) (.num 0)) (.num 0)) (.num 0))) (.add (.add (.add (.add (.add (.num 5) (.num 0)) (.num 0)) (.num 0)) (.num 0)) (.add (.add (.add (.add (.num 5) (.num 0)) (.num 0)) (.num 0)) (.num 0))))) (.add (.add (.add (.add (.add (.add (.add (.num 5) (.num 0)) (.num 0)) (.num 0)) (.num 0)) (.add (.add (.add (.add (.num 5) (.num 0)) (.num 0)) (.num 0)) (.num 0))) (.add (.add (.add (.add (.add (.num 5) (.num 0)) (.num 0)) (.num 0)) (.num 0)) (.add (.add (.add (.add (.num 5) (.num 0)) (.num 0)) (.num 0)) (.num 0)))) (.add (.add (.add (.add (.add (.add (.num 5) (.num 0)) (.num 0)) (.num 0)) (.num 0)) (.add (.add (.add (.add (.num 5) (.num 0)) (.num 0)) (.num 0)) (.num 0))) (.add (.add (.add (.add (.add (.num 5) (.num 0)) (.num 0)) (.num 0)) (.num 0)) (.add (.add (.add (.add (.num 5) (.num 0)) (.num 0)) (.num 0)) (.num 0)))))) (.add (.add (.add (.add (.add (.add (.add (.add (.num 5) (.num 0)) (.num 0)) (.num 0)) (.num 0)) (.add (.add (.add (.add (.num 5) (.num 0)) (.num 0)) (.num 0)) (.num 0))) (.add (.add (.add (.add (.add (.num 5) (.num 0)) (.num 0)) (.num 0)) (.num 0)) (.add (.add (.add (.add (.num 5) (.num 0)) (.num 0)) (.num 0)) (.num 0)))) (.add (.add (.add (.add (.add (.add (.num 5) (.num 0)) (.num 0)) (.num 0)) (.num 0)) (.add (.add (.add (.add (.num 5) (.num 0)) (.num 0)) (.num 0)) (.num 0))) (.add (.add (.add (.add (.add (.num 5) (.num 0)) (.num 0)) (.num 0)) (.num 0)) (.add (.add (.add (.add (.num 5) (.num 0)) (.num 0)) (.num 0)) (.num 0))))) (.add (.add (.add (.add (.add (.add (.add (.num 5) (.num 0)) (.num 0)) (.num 0)) (.num 0)) (.add (.add (.add (.add (.num 5) (.num 0)) (.num 0)) (.num 0)) (.num 0))) (.add (.add (.add (.add (.add (.num 5) (.num 0)) (.num 0)) (.num 0)) (.num 0)) (.add (.add (.add (.add (.num 5) (.num 0)) (.num 0)) (.num 0)) (.num 0)))) (.add (.add (.add (.add (.add (.add (.num 5) (.num 0)) (.num 0)) (.num 0)) (.num 0)) (.add (.add (.add (.add (.num 5) (.num 0)) (.num 0)) (.num 0)) (.num 0))) (.add (.add (.add (.add (.add (.num 5) (.num 0)) (.num 0)) (.num 0)) (.num 0)) (.add (.add (.add (.add (.num 5) (.num 0)) (.num 0)) (.num 0)) (.num 0))))))) (.add (.num 0) (.num 0)))) (.num 0)) (.add (.mul (.add (.num 4) (.num 0)) (.add (.num 0) (.add (.num 0) (.add (.add (.add (.add (.add (.add (.add (.num 56) (.num 0)) (.num 0)) (.num 0)) (.num 0)) (.num 0)) (.num 0)) (.add (.add (.add (.add (.add (.add (.num 57) (.num 0)) (.num 0)) (.num 0)) (.num 0)) (.num 0)) (.num 0)))))) (.num 0)))) (.add (.add (.add (.mul (.add (.num 5) (.num 0)) (.add (.add (.add (.add (.num 0) (.add (.add (.add (.add (.num 288) (.num 0)) (.num 0)) (.num 0)) (.num 0))) (.num 0)) (.num 0)) (.add (.num 0) (.add (.add (.add (.add (.add (.add (.add (.num 16) (.num 0)) (.num 0)) (.num 0)) (.num 0)) (.num 0)) (.add (.add (.add (.add (.add (.num 18) (.num 0)) (.num 0)) (.num 0)) (.num 0)) (.add (.add (.add (.add (.num 21) (.num 0)) (.num 0)) (.num 0)) (.num 0)))) (.add (.add (.add (.add (.add (.add (.num 17) (.num 0)) (.num 0)) (.num 0)) (.num 0)) (.add (.add (.add (.add (.num 20) (.num 0)) (.num 0)) (.num 0)) (.num 0))) (.add (.add (.add (.add (.add (.num 19) (.num 0)) (.num 0)) (.num 0)) (.num 0)) (.num 0))))))) (.num 0)) (.add (.mul (.add (.num 1000) (.num 288)) (.add (.num 0) (.add (.num 0) (.num 0)))) (.num 0))) (.add (.add (.mul (.add (.num 1000) (.num 288)) (.add (.num 0) (.add (.num 0) (.num 0)))) (.num 0)) (.add (.mul (.add (.num 1000) (.num 316)) (.add (.num 0) (.add (.num 0) (.num 0)))) (.num 0)))))))))
set_option maxRecDepth 20000 in
noncomputable def gS2 : ev_S := (125, 522572, (.add (.add (.add (.add (.add (.add (.add (.num 0) (.mul (.add (.num 1000) (.num 316)) (.add (.num 0) (.add (.num 0) (.num 0))))) (.add (.mul (.add (.num 1000) (.num 16)) (.add (.num 0) (.add (.num 0) (.num 0)))) (.mul (.add (.num 1000) (.num 19)) (.add (.add (.add (.add (.add (.add (.num 16) (.num 14)) (.add (.num 10) (.num 0))) (.add (.add (.num 8) (.num 0)) (.add (.num 12) (.num 0)))) (.add (.add (.add (.num 18) (.num 15)) (.add (.num 11) (.num 0))) (.add (.add (.num 9) (.num 0)) (.add (.num 13) (.num 0))))) (.add (.add (.add (.add (.num 17) (.num 1)) (.add (.num 5) (.num 0))) (.add (.add (.num 7) (.num 0)) (.add (.num 3) (.num 0)))) (.add (.add (.add (.num 0) (.num 0)) (.add (.num 4) (.num 0))) (.add (.add (.num 6) (.num 0)) (.add (.num 2) (.num 0)))))) (.add (.num 0) (.num 0)))))) (.add (.add (.mul (.add (.num 1000) (.num 288)) (.add (.add (.add (.add (.add (.add (.add (.add (.add (.add (.num 8) (.num 7)) (.num 8)) (.add (.num 8) (.add (.num 9) (.num 8)))) (.add (.add (.num 8) (.add (.num 9) (.num 8))) (.add (.num 8) (.add (.num 9) (.num 8))))) (.add (.add (.add (.add (.num 8) (.num 7)) (.add (.num 9) (.num 8))) (.add (.num 8) (.add (.num 9) (.num 8)))) (.add (.add (.num 8) (.add (.num 9) (.num 8))) (.add (.num 8) (.add (.num 9) (.num 8)))))) (.add (.add (.add (.add (.add (.num 8) (.num 7)) (.num 8)) (.add (.num 8) (.add (.num 9) (.num 8)))) (.add (.add (.num 8) (.add (.num 9) (.num 8))) (.add (.num 8) (.add (.num 9) (.num 8))))) (.add (.add (.add (.num 8) (.add (.num 9) (.num 8))) (.add (.num 8) (.add (.num 9) (.num 8)))) (.add (.add (.num 8) (.add (.num 9) (.num 8))) (.add (.num 8) (.add (.num 9) (.num 8))))))) (.add (.add (.add (.add (.add (.add (.num 8) (.num 7)) (.num 8)) (.add (.num 8) (.add (.num 9) (.num 8)))) (.add (.add (.num 8) (.add (.num 9) (.num 8))) (.add (.num 8) (.add (.num 9) (.num 8))))) (.add (.add (.add (.add (.num 8) (.num 7)) (.add (.num 9) (.num 8))) (.add (.num 8) (.add (.num 9) (.num 8)))) (.add (.add (.num 8) (.add (.num 9) (.num 8))) (.add (.num 8) (.add (.num 9) (.num 8)))))) (.add (.add (.add (.add (.add (.num 8) (.num 7)) (.num 8)) (.add (.num 8) (.add (.num 9) (.num 8)))) (.add (.add (.num 8) (.add (.num 9) (.num 8))) (.add (.num 8) (.add (.num 9) (.num 8))))) (.add (.add (.add (.num 8) (.add (.num 9) (.num 8))) (.add (.num 8) (.add (.num 9) (.num 8)))) (.add (.add (.num 8) (.add (.num 9) (.num 8))) (.add (.num 8) (.add (.num 9) (.num 8)))))))) (.add (.add (.add (.add (.add (.add (.add (.num 8) (.num 7)) (.num 8)) (.add (.num 8) (.add (.num 9) (.num 8)))) (.add (.add (.num 8) (.add (.num 9) (.num 8))) (.add (.num 8) (.add (.num 9) (.num 8))))) (.add (.add (.add (.add (.num 8) (.num 7)) (.add (.num 9) (.num 8))) (.add (.num 8) (.add (.num 9) (.num 8)))) (.add (.add (.num 8) (.add (.num 9) (.num 8))) (.add (.num 8) (.add (.num 9) (.num 8)))))) (.add (.add (.add (.add (.add (.num 8) (.num 7)) (.num 8)) (.add (.num 8) (.add (.num 9) (.num 8)))) (.add (.add (.num 8) (.add (.num 9) (.num 8))) (.add (.num 8) (.add (.num 9) (.num 8))))) (.add (.add (.add (.num 8) (.add (.num 9) (.num 8))) (.add (.num 8) (.add (.num 9) (.num 8)))) (.add (.add (.num 8) (.add (.num 9) (.num 8))) (.add (.num 8) (.add (.num 9) (.num 8))))))) (.add (.add (.add (.add (.add (.add (.num 8) (.num 7)) (.num 8)) (.add (.num 8) (.add (.num 9) (.num 8)))) (.add (.add (.num 8) (.add (.num 9) (.num 8))) (.add (.num 8) (.add (.num 9) (.num 8))))) (.add (.add (.add (.add (.num 8) (.num 7)) (.add (.num 9) (.num 8))) (.add (.num 8) (.add (.num 9) (.num 8)))) (.add (.add (.num 8) (.add (.num 9) (.num 8))) (.add (.num 8) (.add (.num 9) (.num 8)))))) (.add (.add (.add (.add (.add (.num 8) (.num 7)) (.num 8)) (.add (.num 8) (.add (.num 9) (.num 8)))) (.add (.add (.num 8) (.add (.num 9) (.num 8))) (.add (.num 8) (.add (.num 9) (.num 8))))) (.add (.add (.add (.num 8) (.add (.num 9) (.num 8))) (.add (.num 8) (.add (.num 9) (.num 8)))) (.add (.add (.num 8) (.add (.num 9) (.num 8))) (.add (.num 8) (.add (.num 9) (.num 8))))))))) (.add (.add (.add (.add (.add (.add (.add (.add (.num 8) (.num 7)) (.num 8)) (.add (.num 8) (.add (.num 9) (.num 8)))) (.add (.add (.num 8) (.add (.num 9) (.num 8))) (.add (.num 8) (.add (.num 9) (.num 8))))) (.add (.add (.add (.add (.num 8) (.num 7)) (.add (.num 9) (.num 8))) (.add (.num 8) (.add (.num 9) (.num 8)))) (.add (.add (.num 8) (.add (.num 9) (.num 8))) (.add (.num 8) (.add (.num 9) (.num 8)))))) (.add (.add (.add (.add (.add (.num 8) (.num 7)) (.num 8)) (.add (.num 8) (.add (.num 9) (.num 8)))) (.add (.add (.num 8) (.add (.num 9) (.num 8))) (.add (.num 8) (.add (.num 9) (.num 8))))) (.add (.add (.add (.num 8) (.add (.num 9) (.num 8))) (.add (.num 8) (.add (.num 9) (.num 8)))) (.add (.add (.num 8) (.add (.num 9) (.num 8))) (.add (.num 8) (.add (.num 9) (.num 8))))))) (.add (.add (.add (.add (.add (.add (.num 8) (.num 7)) (.num 8)) (.add (.num 8) (.add (.num 9) (.num 8)))) (.add (.add (.num 8) (.add (.num 9) (.num 8))) (.add (.num 8) (.add (.num 9) (.num 8))))) (.add (.add (.add (.add (.num 8) (.num 7)) (.add (.num 9) (.num 8))) (.add (.num 8) (.add (.num 9) (.num 8)))) (.add (.add (.num 8) (.add (.num 9) (.num 8))) (.add (.num 8) (.add (.num 9) (.num 8)))))) (.add (.add (.add (.add (.add (.num 8) (.num 7)) (.num 8)) (.add (.num 8) (.add (.num 9) (.num 8)))) (.add (.add (.num 8) (.add (.num 9) (.num 8))) (.add (.num 8) (.add (.num 9) (.num 8))))) (.add (.add (.add (.num 8) (.add (.num 9) (.num 8))) (.add (.num 8) (.add (.num 9) (.num 8)))) (.add (.add (.num 8) (.add (.num 9) (.num 8))) (.add (.num 8) (.add (.num 9) (.num 8)))))))) (.add (.add (.add (.add (.add (.add (.add (.num 8) (.num 7)) (.num 8)) (.add (.num 8) (.add (.num 9) (.num 8)))) (.add (.add (.num 8) (.add (.num 9) (.num 8))) (.add (.num 8) (.add (.num 9) (.num 8))))) (.add (.add (.add (.add (.num 8) (.num 7)) (.add (.num 9) (.num 8))) (.add (.num 8) (.add (.num 9) (.num 8)))) (.add (.add (.num 8) (.add (.num 9) (.num 8))) (.add (.num 8) (.add (.num 9) (.num 8)))))) (.add (.add (.add (.add (.add (.num 8) (.num 7)) (.num 8)) (.add (.num 8) (.add (.num 9) (.num 8)))) (.add (.add (.num 8) (.add (.num 9) (.num 8))) (.add (.num 8) (.add (.num 9) (.num 8))))) (.add (.add (.add (.num 8) (.add (.num 9) (.num 8))) (.add (.num 8) (.add (.num 9) (.num 8)))) (.add (.add (.num 8) (.add (.num 9) (.num 8))) (.add (.num 8) (.add (.num 9) (.num 8))))))) (.add (.add (.add (.add (.add (.add (.num 8) (.num 7)) (.num 8)) (.add (.num 8) (.add (.num 9) (.num 8)))) (.add (.add (.num 8) (.add (.num 9) (.num 8))) (.add (.num 8) (.add (.num 9) (.num 8))))) (.add (.add (.add (.add (.num 8) (.num 7)) (.add (.num 9) (.num 8))) (.add (.num 8) (.add (.num 9) (.num 8)))) (.add (.add (.num 8) (.add (.num 9) (.num 8))) (.add (.num 8) (.add (.num 9) (.num 8)))))) (.add (.add (.add (.add (.add (.num 8) (.num 7)) (.num 8)) (.add (.num 8) (.add (.num 9) (.num 8)))) (.add (.add (.num 8) (.add (.num 9) (.num 8))) (.add (.num 8) (.add (.num 9) (.num 8))))) (.add (.add (.add (.num 8) (.add (.num 9) (.num 8))) (.add (.num 8) (.add (.num 9) (.num 8)))) (.add (.add (.num 8) (.add (.num 9) (.num 8))) (.add (.num 8) (.add (.num 9) (.num 8)))))))))) (.add (.num 0) (.num 0)))) (.mul (.add (.num 1000) (.num 6000)) (.add (.num 0) (.add (.num 0) (.num 0))))) (.add (.mul (.add (.num 1000) (.num 16)) (.add (.num 0) (.add (.num 0) (.num 0)))) (.mul (.add (.num 1000) (.num 600)) (.add (.num 0) (.add (.num 0) (.num 0))))))) (.add (.add (.add (.mul (.add (.num 1000) (.num 64)) (.add (.num 0) (.add (.num 0) (.num 0)))) (.mul (.add (.num 1003) (.num 6000)) (.add (.num 0) (.add (.num 0) (.num 0))))) (.add (.mul (.add (.num 1000) (.num 288)) (.add (.num 0) (.add (.num 0) (.num 0)))) (.mul (.add (.num 1000) (.num 30)) (.add (.num 0) (.add (.num 0) (.num 0)))))) (.add (.add (.mul (.add (.num 1000) (.num 288)) (.add (.add (.add (.add (.add (.add (.add (.add (.add (.add (.num 0) (.num 0)) (.num 0)) (.num 0)) (.num 0)) (.add (.add (.add (.add (.num 1) (.num 0)) (.num 0)) (.num 0)) (.num 0))) (.add (.add (.add (.add (.add (.num 2) (.num 0)) (.num 0)) (.num 0)) (.num 0)) (.add (.add (.add (.add (.num 3) (.num 0)) (.num 0)) (.num 0)) (.num 0)))) (.add (.add (.add (.add (.add (.add (.num 4) (.num 0)) (.num 0)) (.num 0)) (.num 0)) (.add (.add (.add (.add (.num 5) (.num 0)) (.num 0)) (.num 0)) (.num 0))) (.add (.add (.add (.add (.add (.num 6) (.num 0)) (.num 0)) (.num 0)) (.num 0)) (.add (.add (.add (.add (.num 7) (.num 0)) (.num 0)) (.num 0)) (.num 0))))) (.add (.add (.add (.add (.add (.add (.add (.num 8) (.num 0)) (.num 0)) (.num 0)) (.num 0)) (.add (.add (.add (.add (.num 9) (.num 0)) (.num 0)) (.num 0)) (.num 0))) (.add (.add (.add (.add (.add (.num 10) (.num 0)) (.num 0)) (.num 0)) (.num 0)) (.add (.add (.add (.add (.num 11) (.num 0)) (.num 0)) (.num 0)) (.num 0)))) (.add (.add (.add (.add (.add (.add (.num 12) (.num 0)) (.num 0)) (.num 0)) (.num 0)) (.add (.add (.add (.add (.num 13) (.num 0)) (.num 0)) (.num 0)) (.num 0))) (.add (.add (.add (.add (.add (.num 14) (.num 0)) (.num 0)) (.num 0)) (.num 0)) (.add (.add (.add (.add (.num 15) (.num 0)) (.num 0)) (.num 0)) (.num 0)))))) (.add (.add (.add (.add (.add (.add (.add (.add (.num 16) (.num 0)) (.num 0)) (.num 0)) (.num 0)) (.add (.add (.add (.add (.num 17) (.num 0)) (.num 0)) (.num 0)) (.num 0))) (.add (.add (.add (.add (.add (.num 18) (.num 0)) (.num 0)) (.num 0)) (.num 0)) (.add (.add (.add (.add (.num 19) (.num 0)) (.num 0)) (.num 0)) (.num 0)))) (.add (.add (.add (.add (.add (.add (.num 20) (.num 0)) (.num 0)) (.num 0)) (.num 0)) (.add (.add (.add (.add (.num 21) (.num 0)) (.num 0)) (.num 0)) (.num 0))) (.add (.add (.add (.add (.add (.num 22) (.num 0)) (.num 0)) (.num 0)) (.num 0)) (.add (.add (.add (.add (.num 23) (.num 0)) (.num 0)) (.num 0)) (.num 0))))) (.add (.add (.add (.add (.add (.add (.add (.num 24) (.num 0)) (.num 0)) (.num 0)) (.num 0)) (.add (.add (.add (.add (.num 25) (.num 0)) (.num 0)) (.num 0)) (.num 0))) (.add (.add (.add (.add (.add (.num 26) (.num 0)) (.num 0)) (.num 0)) (.num 0)) (.add (.add (.add (.add (.num 27) (.num 0)) (.num 0)) (.num 0)) (.num 0)))) (.add (.add (.add (.add (.add (.add (.num 28) (.num 0)) (.num 0)) (.num 0)) (.num 0)) (.add (.add (.add (.add (.num 29) (.num 0)) (.num 0)) (.num 0)) (.num 0))) (.add (.add (.add (.add (.add (.num 30) (.num 0)) (.num 0)) (.num 0)) (.num 0)) (.add (.add (.add (.add (.num 31) (.num 0)) (.num 0)) (.num 0)) (.num 0))))))) (.add (.num 0) (.num 0)))) (.mul (.add (.num 1000) (.num 12)) (.add (.num 0) (.add (.num 0) (.num 0))))) (.add (.mul (.add (.num 1000) (.num 60)) (.add (.num 0) (.add (.num 0) (.num 0)))) (.mul (.add (.num 1000) (.num 288)) (.add (.num 0) (.add (.num 0) (.num 0)))))))) (.add (.add (.add (.add (.mul (.add (.num 12) (.num 0)) (.add (.num 0) (.add (.num 0) (.add (.add (.add (.add (.add (.add (.add (.num 5) (.num 0)) (.num 0)) (.num 0)) (.num 0)) (.num 0)) (.num 0)) (.num 0))))) (.mul (.add (.num 3) (.num 0)) (.add (.num 0) (.add (.num 0) (.add (.add (.add (.add (.add (.add (.add (.num 50) (.num 0)) (.num 0)) (.num 0)) (.num 0)) (.num 0)) (.num 0)) (.num 0)))))) (.add (.mul (.add (.num 5) (.num 0)) (.add (.num 0) (.add (.num 0) (.add (.add (.add (.add (.add (.add (.add (.num 37) (.num 0)) (.num 0)) (.num 0)) (.num 0)) (.num 0)) (.add (.add (.add (.add (.add (.num 39) (.num 0)) (.num 0)) (.num 0)) (.num 0)) (.add (.add (.add (.add (.num 42) (.num 0)) (.num 0)) (.num 0)) (.num 0)))) (.add (.add (.add (.add (.add (.add (.num 38) (.num 0)) (.num 0)) (.num 0)) (.num 0)) (.add (.add (.add (.add (.num 41) (.num 0)) (.num 0)) (.num 0)) (.num 0))) (.add (.add (.add (.add (.add (.num 40) (.num 0)) (.num 0)) (.num 0)) (.num 0)) (.num 0))))))) (.mul (.add (.num 1000) (.num 288)) (.add (.num 0) (.add (.num 0) (.num 0)))))) (.add (.add (.mul (.add (.num 1000) (.num 16)) (.add (.add (.add (.add (.add (.num 0) (.add (.num 200) (.num 0))) (.add (.add (.num 0) (.num 0)) (.add (.num 4096) (.num 0)))) (.add (.add (.add (.num 0) (.num 0)) (.add (.num 1024) (.num 0))) (.add (.add (.num 0) (.num 0)) (.add (.num 16384) (.num 0))))) (.add (.add (.add (.add (.num 0) (.num 0)) (.add (.num 512) (.num 0))) (.add (.add (.num 0) (.num 0)) (.add (.num 8192) (.num 0)))) (.add (.add (.add (.num 0) (.num 0)) (.add (.num 2048) (.num 0))) (.add (.add (.num 24) (.num 0)) (.add (.num 32768) (.num 0)))))) (.add (.num 0) (.num 0)))) (.mul (.add (.num 1000) (.num 12)) (.add (.num 0) (.add (.num 0) (.num 0))))) (.add (.mul (.add (.num 10) (.num 0)) (.add (.num 0) (.add (.num 0) (.add (.add (.add (.add (.add (.add (.add (.num 50) (.num 0)) (.num 0)) (.num 0)) (.add (.add (.add (.num 66) (.num 0)) (.num 0)) (.num 0))) (.add (.add (.add (.add (.num 9) (.num 0)) (.num 0)) (.num 0)) (.num 0))) (.add (.add (.add (.add (.add (.num 55) (.num 0)) (.num 0)) (.num 0)) (.num 0)) (.add (.add (.add (.add (.num 58) (.num 0)) (.num 0)) (.num 0)) (.num 0)))) (.add (.add (.add (.add (.add (.add (.num 53) (.num 0)) (.num 0)) (.num 0)) (.add (.add (.add (.num 67) (.num 0)) (.num 0)) (.num 0))) (.add (.add (.add (.add (.num 68) (.num 0)) (.num 0)) (.num 0)) (.num 0))) (.add (.add (.add (.add (.add (.num 14) (.num 0)) (.num 0)) (.num 0)) (.num 0)) (.add (.add (.add (.add (.num 61) (.num 0)) (.num 0)) (.num 0)) (.num 0)))))))) (.mul (.add (.num 1000) (.num 17)) (.add (.num 0) (.add (.num 0) (.num 0))))))) (.add (.add (.add (.mul (.add (.num 1002) (.num 288)) (.add (.num 0) (.add (.num 0) (.num 0)))) (.mul (.add (.num 1003) (.num 6000)) (.add (.num 0) (.add (.num 0) (.num 0))))) (.add (.mul (.add (.num 1000) (.num 288)) (.add (.num 0) (.add (.num 0) (.num 0)))) (.mul (.add (.num 1000) (.num 30)) (.add (.num 0) (.add (.num 0) (.num 0)))))) (.add (.add (.mul (.add (.num 1000) (.num 16)) (.add (.add (.add (.add (.add (.num 0) (.add (.num 32) (.num 0))) (.add (.add (.num 0) (.num 0)) (.add (.num 32) (.num 0)))) (.add (.add (.add (.num 0) (.num 0)) (.add (.num 32) (.num 0))) (.add (.add (.num 32) (.num 0)) (.add (.num 32) (.num 0))))) (.add (.add (.add (.add (.num 0) (.num 0)) (.add (.num 32) (.num 0))) (.add (.add (.num 32) (.num 0)) (.add (.num 32) (.num 0)))) (.add (.add (.add (.num 0) (.num 0)) (.add (.num 32) (.num 0))) (.add (.add (.num 32) (.num 0)) (.add (.num 32) (.num 0)))))) (.add (.num 0) (.num 0)))) (.mul (.add (.num 1000) (.num 29)) (.add (.add (.add (.add (.add (.add (.num 3) (.num 35)) (.add (.num 11) (.num 131))) (.add (.add (.num 7) (.num 67)) (.add (.num 19) (.num 258)))) (.add (.add (.add (.num 5) (.num 51)) (.add (.num 15) (.num 195))) (.add (.add (.num 9) (.num 99)) (.add (.num 27) (.num 0))))) (.add (.add (.add (.add (.num 4) (.num 43)) (.add (.num 13) (.num 163))) (.add (.add (.num 8) (.num 83)) (.add (.num 23) (.num 0)))) (.add (.add (.add (.num 6) (.num 59)) (.add (.num 17) (.num 227))) (.add (.add (.num 10) (.num 115)) (.add (.num 31) (.num 0)))))) (.add (.num 0) (.num 0))))) (.add (.mul (.add (.num 1000) (.num 6000)) (.add (.num 0) (.add (.num 0) (.num 0)))) (.mul (.add (.num 1000) (.num 64)) (.add (.num 0) (.add (.num 0) (.num 0))))))))) (.add (.add (.add (.add (.add (.mul (.add (.num 12) (.num 0)) (.add (.num 0) (.add (.num 0) (.add (.add (.add (.add (.add (.add (.add (.num 3) (.num 0)) (.num 0)) (.num 0)) (.num 0)) (.num 0)) (.num 0)) (.num 0))))) (.mul (.add (.num 1000) (.num 286)) (.add (.num 0) (.add (.num 0) (.num 0))))) (.add (.mul (.add (.num 1000) (.num 16)) (.add (.num 0) (.add (.num 0) (.num 0)))) (.mul (.add (.num 1000) (.num 30)) (.add (.num 0) (.add (.num 0) (.num 0)))))) (.add (.add (.mul (.add (.num 1000) (.num 16)) (.add (.add (.add (.add (.add (.num 0) (.add (.num 152) (.num 0))) (.num 0)) (.num 0)) (.add (.add (.add (.num 0) (.add (.num 112) (.num 0))) (.num 0)) (.add (.num 0) (.add (.add (.num 24) (.num 0)) (.num 0))))) (.add (.num 0) (.num 0)))) (.mul (.add (.num 1000) (.num 65536)) (.add (.num 0) (.add (.num 0) (.num 0))))) (.add (.mul (.add (.num 12) (.num 0)) (.add (.num 0) (.add (.num 0) (.add (.add (.add (.add (.add (.add (.add (.num 51) (.num 0)) (.num 0)) (.num 0)) (.num 0)) (.num 0)) (.num 0)) (.num 0))))) (.mul (.add (.num 1000) (.num 172800)) (.add (.num 0) (.add (.num 0) (.num 0))))))) (.add (.add (.add (.mul (.add (.num 1000) (.num 288)) (.add (.num 0) (.add (.num 0) (.num 0)))) (.mul (.add (.num 1003) (.num 20)) (.add (.num 0) (.add (.num 0) (.num 0))))) (.add (.mul (.add (.num 1000) (.num 16)) (.add (.num 0) (.add (.num 0) (.num 0)))) (.mul (.add (.num 1000) (.num 288)) (.add (.num 0) (.add (.num 0) (.num 0)))))) (.add (.add (.mul (.add (.num 1000) (.num 288)) (.add (.add (.add (.add (.add (.add (.add (.add (.add (.add (.num 0) (.num 0)) (.num 0)) (.num 0)) (.num 0)) (.add (.add (.add (.add (.num 16) (.num 0)) (.num 0)) (.num 0)) (.num 0))) (.add (.add (.add (.add (.add (.num 8) (.num 0)) (.num 0)) (.num 0)) (.num 0)) (.add (.add (.add (.add (.num 24) (.num 0)) (.num 0)) (.num 0)) (.num 0)))) (.add (.add (.add (.add (.add (.add (.num 4) (.num 0)) (.num 0)) (.num 0)) (.num 0)) (.add (.add (.add (.add (.num 20) (.num 0)) (.num 0)) (.num 0)) (.num 0))) (.add (.add (.add (.add (.add (.num 12) (.num 0)) (.num 0)) (.num 0)) (.num 0)) (.add (.add (.add (.add (.num 28) (.num 0)) (.num 0)) (.num 0)) (.num 0))))) (.add (.add (.add (.add (.add (.add (.add (.num 2) (.num 0)) (.num 0)) (.num 0)) (.num 0)) (.add (.add (.add (.add (.num 18) (.num 0)) (.num 0)) (.num 0)) (.num 0))) (.add (.add (.add (.add (.add (.num 10) (.num 0)) (.num 0)) (.num 0)) (.num 0)) (.add (.add (.add (.add (.num 26) (.num 0)) (.num 0)) (.num 0)) (.num 0)))) (.add (.add (.add (.add (.add (.add (.num 6) (.num 0)) (.num 0)) (.num 0)) (.num 0)) (.add (.add (.add (.add (.num 22) (.num 0)) (.num 0)) (.num 0)) (.num 0))) (.add (.add (.add (.add (.add (.num 14) (.num 0)) (.num 0)) (.num 0)) (.num 0)) (.add (.add (.add (.add (.num 30) (.num 0)) (.num 0)) (.num 0)) (.num 0)))))) (.add (.add (.add (.add (.add (.add (.add (.add (.num 1) (.num 0)) (.num 0)) (.num 0)) (.num 0)) (.add (.add (.add (.add (.num 17) (.num 0)) (.num 0)) (.num 0)) (.num 0))) (.add (.add (.add (.add (.add (.num 9) (.num 0)) (.num 0)) (.num 0)) (.num 0)) (.add (.add (.add (.add (.num 25) (.num 0)) (.num 0)) (.num 0)) (.num 0)))) (.add (.add (.add (.add (.add (.add (.num 5) (.num 0)) (.num 0)) (.num 0)) (.num 0)) (.add (.add (.add (.add (.num 21) (.num 0)) (.num 0)) (.num 0)) (.num 0))) (.add (.add (.add (.add (.add (.num 13) (.num 0)) (.num 0)) (.num 0)) (.num 0)) (.add (.add (.add (.add (.num 29) (.num 0)) (.num 0)) (.num 0)) (.num 0))))) (.add (.add (.add (.add (.add (.add (.add (.num 3) (.num 0)) (.num 0)) (.num 0)) (.num 0)) (.add (.add (.add (.add (.num 19) (.num 0)) (.num 0)) (.num 0)) (.num 0))) (.add (.add (.add (.add (.add (.num 11) (.num 0)) (.num 0)) (.num 0)) (.num 0)) (.add (.add (.add (.add (.num 27) (.num 0)) (.num 0)) (.num 0)) (.num 0)))) (.add (.add (.add (.add (.add (.add (.num 7) (.num 0)) (.num 0)) (.num 0)) (.num 0)) (.add (.add (.add (.add (.num 23) (.num 0)) (.num 0)) (.num 0)) (.num 0))) (.add (.add (.add (.add (.add (.num 15) (.num 0)) (.num 0)) (.num 0)) (.num 0)) (.add (.add (.add (.add (.num 31) (.num 0)) (.num 0)) (.num 0)) (.num 0))))))) (.add (.num 0) (.num 0)))) (.mul (.add (.num 1000) (.num 360)) (.add (.num 0) (.add (.num 0) (.num 0))))) (.add (.mul (.add (.num 9) (.num 0)) (.add (.num 0) (.add (.num 0) (.add (.add (.add (.add (.add (.add (.add (.num 59) (.num 0)) (.num 0)) (.num 0)) (.num 0)) (.num 0)) (.num 0)) (.add (.add (.add (.add (.add (.add (.num 60) (.num 0)) (.num 0)) (.num 0)) (.num 0)) (.num 0)) (.num 0)))))) (.mul (.add (.num 1000) (.num 19)) (.add (.num 0) (.add (.num 0) (.num 0)))))))) (.add (.add (.add (.add (.mul (.add (.num 1000) (.num 20)) (.add (.num 0) (.add (.num 0) (.num 0)))) (.mul (.add (.num 1000) (.num 316)) (.add (.num 0) (.add (.num 0) (.num 0))))) (.add (.mul (.add (.num 1000) (.num 288)) (.add (.num 0) (.add (.num 0) (.num 0)))) (.mul (.add (.num 1000) (.num 19)) (.add (.num 0) (.add (.num 0) (.num 0)))))) (.add (.add (.mul (.add (.num 5) (.num 0)) (.add (.add (.add (.add (.num 0) (.add (.add (.add (.add (.num 32) (.num 0)) (.num 0)) (.num 0)) (.num 0))) (.num 0)) (.num 0)) (.add (.num 0) (.add (.add (.add (.add (.add (.add (.add (.num 23) (.num 0)) (.num 0)) (.num 0)) (.num 0)) (.num 0)) (.add (.add (.add (.add (.add (.num 25) (.num 0)) (.num 0)) (.num 0)) (.num 0)) (.add (.add (.add (.add (.num 28) (.num 0)) (.num 0)) (.num 0)) (.num 0)))) (.add (.add (.add (.add (.add (.add (.num 24) (.num 0)) (.num 0)) (.num 0)) (.num 0)) (.add (.add (.add (.add (.num 27) (.num 0)) (.num 0)) (.num 0)) (.num 0))) (.add (.add (.add (.add (.add (.num 26) (.num 0)) (.num 0)) (.num 0)) (.num 0)) (.num 0))))))) (.mul (.add (.num 1000) (.num 12)) (.add (.num 0) (.add (.num 0) (.num 0))))) (.add (.mul (.add (.num 1000) (.num 6000)) (.add (.num 0) (.add (.num 0) (.num 0)))) (.mul (.add (.num 1000) (.num 330)) (.add (.num 0) (.add (.num 0) (.num 0))))))) (.add (.add (.add (.mul (.add (.num 7) (.num 0)) (.add (.num 0) (.add (.num 0) (.add (.add (.add (.add (.add (.add (.add (.num 15) (.num 0)) (.num 0)) (.num 0)) (.num 0)) (.add (.add (.add (.add (.num 43) (.num 0)) (.num 0)) (.num 0)) (.num 0))) (.add (.add (.add (.add (.add (.num 29) (.num 0)) (.num 0)) (.num 0)) (.num 0)) (.num 0))) (.add (.add (.add (.add (.add (.add (.num 22) (.num 0)) (.num 0)) (.num 0)) (.num 0)) (.num 0)) (.add (.add (.add (.add (.add (.num 36) (.num 0)) (.num 0)) (.num 0)) (.num 0)) (.num 0))))))) (.mul (.add (.num 1000) (.num 6000)) (.add (.num 0) (.add (.num 0) (.num 0))))) (.add (.mul (.add (.num 1000) (.num 16)) (.add (.num 0) (.add (.num 0) (.num 0)))) (.mul (.add (.num 1000) (.num 288)) (.add (.num 0) (.add (.num 0) (.num 0)))))) (.add (.add (.mul (.add (.num 1000) (.num 288)) (.add (.num 0) (.add (.num 0) (.num 0)))) (.mul (.add (.num 1000) (.num 30)) (.add (.add (.add (.add (.add (.add (.num 1) (.num 257)) (.add (.num 17) (.num 4097))) (.add (.add (.num 5) (.num 1025)) (.add (.num 65) (.num 16385)))) (.add (.add (.add (.num 3) (.num 513)) (.add (.num 33) (.num 8193))) (.add (.add (.num 9) (.num 2049)) (.add (.num 129) (.num 0))))) (.add (.add (.add (.add (.num 2) (.num 385)) (.add (.num 25) (.num 6145))) (.add (.add (.num 7) (.num 1537)) (.add (.num 97) (.num 24577)))) (.add (.add (.add (.num 4) (.num 769)) (.add (.num 49) (.num 12289))) (.add (.add (.num 13) (.num 3073)) (.add (.num 193) (.num 0)))))) (.add (.num 0) (.num 0))))) (.add (.mul (.add (.num 1000) (.num 316)) (.add (.num 0) (.add (.num 0) (.num 0)))) (.num 0))))))) (.add (.add (.add (.add (.add (.add (.mul (.add (.num 1) (.num 0)) (.add (.num 0) (.add (.num 0) (.add (.add (.add (.add (.add (.add (.add (.num 2) (.num 0)) (.num 0)) (.num 0)) (.num 0)) (.add (.add (.add (.add (.num 8) (.num 0)) (.num 0)) (.num 0)) (.num 0))) (.add (.add (.add (.add (.add (.num 6) (.num 0)) (.num 0)) (.num 0)) (.num 0)) (.add (.add (.add (.add (.num 52) (.num 0)) (.num 0)) (.num 0)) (.num 0)))) (.add (.add (.add (.add (.add (.add (.num 4) (.num 0)) (.num 0)) (.num 0)) (.num 0)) (.add (.add (.add (.add (.num 9) (.num 0)) (.num 0)) (.num 0)) (.num 0))) (.add (.add (.add (.add (.add (.num 7) (.num 0)) (.num 0)) (.num 0)) (.num 0)) (.add (.add (.add (.add (.num 69) (.num 0)) (.num 0)) (.num 0)) (.num 0)))))))) (.mul (.add (.num 1000) (.num 19)) (.add (.num 0) (.add (.num 0) (.num 0))))) (.add (.mul (.add (.num 1000) (.num 288)) (.add (.num 0) (.add (.num 0) (.num 0)))) (.mul (.add (.num 1000) (.num 288)) (.add (.num 0) (.add (.num 0) (.num 0)))))) (.add (.add (.mul (.add (.num 1000) (.num 288)) (.add (.add (.add (.add (.add (.add (.add (.add (.add (.add (.num 12) (.num 0)) (.add (.num 13) (.num 0))) (.add (.add (.num 14) (.num 0)) (.add (.num 7) (.num 0)))) (.add (.add (.add (.num 10) (.num 0)) (.add (.num 11) (.num 0))) (.add (.add (.num 9) (.num 0)) (.add (.num 15) (.num 0))))) (.add (.add (.add (.add (.num 2) (.num 4)) (.add (.num 19) (.num 0))) (.add (.add (.num 1) (.num 0)) (.add (.num 23) (.num 0)))) (.add (.add (.add (.num 6) (.num 0)) (.add (.num 27) (.num 0))) (.add (.add (.num 5) (.num 0)) (.add (.num 31) (.num 0)))))) (.add (.add (.add (.add (.add (.num 28) (.num 8)) (.add (.num 29) (.num 0))) (.add (.add (.num 30) (.num 0)) (.add (.num 39) (.num 0)))) (.add (.add (.add (.num 26) (.num 0)) (.add (.num 43) (.num 0))) (.add (.add (.num 25) (.num 0)) (.add (.num 47) (.num 0))))) (.add (.add (.add (.add (.num 18) (.num 3)) (.add (.num 51) (.num 0))) (.add (.add (.num 17) (.num 0)) (.add (.num 55) (.num 0)))) (.add (.add (.add (.num 22) (.num 0)) (.add (.num 59) (.num 0))) (.add (.add (.num 21) (.num 0)) (.add (.num 63) (.num 0))))))) (.add (.add (.add (.add (.add (.add (.num 44) (.num 16)) (.add (.num 45) (.num 0))) (.add (.add (.num 46) (.num 0)) (.add (.num 71) (.num 0)))) (.add (.add (.add (.num 42) (.num 0)) (.add (.num 75) (.num 0))) (.add (.add (.num 41) (.num 0)) (.add (.num 79) (.num 0))))) (.add (.add (.add (.add (.num 34) (.num 20)) (.add (.num 83) (.num 0))) (.add (.add (.num 33) (.num 0)) (.add (.num 87) (.num 0)))) (.add (.add (.add (.num 38) (.num 0)) (.add (.num 91) (.num 0))) (.add (.add (.num 37) (.num 0)) (.add (.num 95) (.num 0)))))) (.add (.add (.add (.add (.add (.num 60) (.num 24)) (.add (.num 61) (.num 0))) (.add (.add (.num 62) (.num 0)) (.add (.num 103) (.num 0)))) (.add (.add (.add (.num 58) (.num 0)) (.add (.num 107) (.num 0))) (.add (.add (.num 57) (.num 0)) (.add (.num 111) (.num 0))))) (.add (.add (.add (.add (.num 50) (.num 35)) (.add (.num 115) (.num 0))) (.add (.add (.num 49) (.num 0)) (.add (.num 119) (.num 0)))) (.add (.add (.add (.num 54) (.num 0)) (.add (.num 123) (.num 0))) (.add (.add (.num 53) (.num 0)) (.add (.num 127) (.num 0)))))))) (.add (.add (.add (.add (.add (.add (.add (.num 76) (.num 32)) (.add (.num 77) (.num 0))) (.add (.add (.num 78) (.num 0)) (.add (.num 135) (.num 0)))) (.add (.add (.add (.num 74) (.num 0)) (.add (.num 139) (.num 0))) (.add (.add (.num 73) (.num 0)) (.add (.num 143) (.num 0))))) (.add (.add (.add (.add (.num 66) (.num 36)) (.add (.num 147) (.num 0))) (.add (.add (.num 65) (.num 0)) (.add (.num 151) (.num 0)))) (.add (.add (.add (.num 70) (.num 0)) (.add (.num 155) (.num 0))) (.add (.add (.num 69) (.num 0)) (.add (.num 159) (.num 0)))))) (.add (.add (.add (.add (.add (.num 92) (.num 40)) (.add (.num 93) (.num 0))) (.add (.add (.num 94) (.num 0)) (.add (.num 167) (.num 0)))) (.add (.add (.add (.num 90) (.num 0)) (.add (.num 171) (.num 0))) (.add (.add (.num 89) (.num 0)) (.add (.num 175) (.num 0))))) (.add (.add (.add (.add (.num 82) (.num 67)) (.add (.num 179) (.num 0))) (.add (.add (.num 81) (.num 0)) (.add (.num 183) (.num 0)))) (.add (.add (.add (.num 86) (.num 0)) (.add (.num 187) (.num 0))) (.add (.add (.num 85) (.num 0)) (.add (.num 191) (.num 0))))))) (.add (.add (.add (.add (.add (.add (.num 108) (.num 48)) (.add (.num 109) (.num 0))) (.add (.add (.num 110) (.num 0)) (.add (.num 199) (.num 0)))) (.add (.add (.add (.num 106) (.num 0)) (.add (.num 203) (.num 0))) (.add (.add (.num 105) (.num 0)) (.add (.num 207) (.num 0))))) (.add (.add (.add (.add (.num 98) (.num 52)) (.add (.num 211) (.num 0))) (.add (.add (.num 97) (.num 0)) (.add (.num 215) (.num 0)))) (.add (.add (.add (.num 102) (.num 0)) (.add (.num 219) (.num 0))) (.add (.add (.num 101) (.num 0)) (.add (.num 223) (.num 0)))))) (.add (.add (.add (.add (.add (.num 124) (.num 56)) (.add (.num 125) (.num 0))) (.add (.add (.num 126) (.num 0)) (.add (.num 231) (.num 0)))) (.add (.add (.add (.num 122) (.num 0)) (.add (.num 235) (.num 0))) (.add (.add (.num 121) (.num 0)) (.add (.num 239) (.num 0))))) (.add (.add (.add (.add (.num 114) (.num 99)) (.add (.num 243) (.num 0))) (.add (.add (.num 113) (.num 0)) (.add (.num 247) (.num 0)))) (.add (.add (.add (.num 118) (.num 0)) (.add (.num 251) (.num 0))) (.add (.add (.num 117) (.num 0)) (.add (.num 255) (.num 0))))))))) (.add (.add (.add (.add (.add (.add (.add (.add (.num 140) (.num 64)) (.add (.num 141) (.num 0))) (.add (.add (.num 142) (.num 0)) (.add (.num 263) (.num 0)))) (.add (.add (.add (.num 138) (.num 0)) (.add (.num 267) (.num 0))) (.add (.add (.num 137) (.num 0)) (.add (.num 271) (.num 0))))) (.add (.add (.add (.add (.num 130) (.num 68)) (.add (.num 275) (.num 0))) (.add (.add (.num 129) (.num 0)) (.add (.num 279) (.num 0)))) (.add (.add (.add (.num 134) (.num 0)) (.add (.num 283) (.num 0))) (.add (.add (.num 133) (.num 0)) (.add (.num 287) (.num 0)))))) (.add (.add (.add (.add (.add (.num 156) (.num 72)) (.add (.num 157) (.num 0))) (.add (.add (.num 158) (.num 0)) (.add (.num 295) (.num 0)))) (.add (.add (.add (.num 154) (.num 0)) (.add (.num 299) (.num 0))) (.add (.add (.num 153) (.num 0)) (.add (.num 303) (.num 0))))) (.add (.add (.add (.add (.num 146) (.num 131)) (.add (.num 307) (.num 0))) (.add (.add (.num 145) (.num 0)) (.add (.num 311) (.num 0)))) (.add (.add (.add (.num 150) (.num 0)) (.add (.num 315) (.num 0))) (.add (.add (.num 149) (.num 0)) (.add (.num 319) (.num 0))))))) (.add (.add (.add (.add (.add (.add (.num 172) (.num 80)) (.add (.num 173) (.num 0))) (.add (.add (.num 174) (.num 0)) (.add (.num 327) (.num 0)))) (.add (.add (.add (.num 170) (.num 0)) (.add (.num 331) (.num 0))) (.add (.add (.num 169) (.num 0)) (.add (.num 335) (.num 0))))) (.add (.add (.add (.add (.num 162) (.num 84)) (.add (.num 339) (.num 0))) (.add (.add (.num 161) (.num 0)) (.add (.num 343) (.num 0)))) (.add (.add (.add (.num 166) (.num 0)) (.add (.num 347) (.num 0))) (.add (.add (.num 165) (.num 0)) (.add (.num 351) (.num 0)))))) (.add (.add (.add (.add (.add (.num 188) (.num 88)) (.add (.num 189) (.num 0))) (.add (.add (.num 190) (.num 0)) (.add (.num 359) (.num 0)))) (.add (.add (.add (.num 186) (.num 0)) (.add (.num 363) (.num 0))) (.add (.add (.num 185) (.num 0)) (.add (.num 367) (.num 0))))) (.add (.add (.add (.add (.num 178) (.num 163)) (.add (.num 371) (.num 0))) (.add (.add (.num 177) (.num 0)) (.add (.num 375) (.num 0)))) (.add (.add (.add (.num 182) (.num 0)) (.add (.num 379) (.num 0))) (.add (.add (.num 181) (.num 0)) (.add (.num 383) (.num 0)))))))) (.add (.add (.add (.add (.add (.add (.add (.num 204) (.num 96)) (.add (.num 205) (.num 0))) (.add (.add (.num 206) (.num 0)) (.add (.num 391) (.num 0)))) (.add (.add (.add (.num 202) (.num 0)) (.add (.num 395) (.num 0))) (.add (.add (.num 201) (.num 0)) (.add (.num 399) (.num 0))))) (.add (.add (.add (.add (.num 194) (.num 100)) (.add (.num 403) (.num 0))) (.add (.add (.num 193) (.num 0)) (.add (.num 407) (.num 0)))) (.add (.add (.add (.num 198) (.num 0)) (.add (.num 411) (.num 0))) (.add (.add (.num 197) (.num 0)) (.add (.num 415) (.num 0)))))) (.add (.add (.add (.add (.add (.num 220) (.num 104)) (.add (.num 221) (.num 0))) (.add (.add (.num 222) (.num 0)) (.add (.num 423) (.num 0)))) (.add (.add (.add (.num 218) (.num 0)) (.add (.num 427) (.num 0))) (.add (.add (.num 217) (.num 0)) (.add (.num 431) (.num 0))))) (.add (.add (.add (.add (.num 210) (.num 195)) (.add (.num 435) (.num 0))) (.add (.add (.num 209) (.num 0)) (.add (.num 439) (.num 0)))) (.add (.add (.add (.num 214) (.num 0)) (.add (.num 443) (.num 0))) (.add (.add (.num 213) (.num 0)) (.add (.num 447) (.num 0))))))) (.add (.add (.add (.add (.add (.add (.num 236) (.num 112)) (.add (.num 237) (.num 0))) (.add (.add (.num 238) (.num 0)) (.add (.num 455) (.num 0)))) (.add (.add (.add (.num 234) (.num 0)) (.add (.num 459) (.num 0))) (.add (.add (.num 233) (.num 0)) (.add (.num 463) (.num 0))))) (.add (.add (.add (.add (.num 226) (.num 116)) (.add (.num 467) (.num 0))) (.add (.add (.num 225) (.num 0)) (.add (.num 471) (.num 0)))) (.add (.add (.add (.num 230) (.num 0)) (.add (.num 475) (.num 0))) (.add (.add (.num 229) (.num 0)) (.add (.num 479) (.num 0)))))) (.add (.add (.add (.add (.add (.num 252) (.num 120)) (.add (.num 253) (.num 0))) (.add (.add (.num 254) (.num 0)) (.add (.num 487) (.num 0)))) (.add (.add (.add (.num 250) (.num 0)) (.add (.num 491) (.num 0))) (.add (.add (.num 249) (.num 0)) (.add (.num 495) (.num 0))))) (.add (.add (.add (.add (.num 242) (.num 227)) (.add (.num 499) (.num 0))) (.add (.add (.num 241) (.num 0)) (.add (.num 503) (.num 0)))) (.add (.add (.add (.num 246) (.num 0)) (.add (.num 507) (.num 0))) (.add (.add (.num 245) (.num 0)) (.add (.num 511) (.num 0)))))))))) (.add (.num 0) (.num 0)))) (.mul (.add (.num 1000) (.num 6000)) (.add (.num 0) (.add (.num 0) (.num 0))))) (.add (.mul (.add (.num 1000) (.num 16)) (.add (.num 0) (.add (.num 0) (.num 0)))) (.mul (.add (.num 1000) (.num 172800)) (.add (.num 0) (.add (.num 0) (.num 0))))))) (.add (.add (.add (.mul (.add (.num 8) (.num 0)) (.add (.num 0) (.add (.num 0) (.add (.add (.add (.add (.add (.add (.add (.num 10) (.num 0)) (.num 0)) (.num 0)) (.num 0)) (.num 0)) (.add (.add (.add (.add (.add (.num 12) (.num 0)) (.num 0)) (.num 0)) (.num 0)) (.num 0))) (.add (.add (.add (.add (.add (.add (.num 11) (.num 0)) (.num 0)) (.num 0)) (.num 0)) (.num 0)) (.add (.add (.add (.add (.add (.num 13) (.num 0)) (.num 0)) (.num 0)) (.num 0)) (.num 0))))))) (.mul (.add (.num 1003) (.num 6200)) (.add (.num 0) (.add (.num 0) (.num 0))))) (.add (.mul (.add (.num 1000) (.num 16)) (.add (.num 0) (.add (.num 0) (.num 0)))) (.mul (.add (.num 1000) (.num 19)) (.add (.num 0) (.add (.num 0) (.num 0)))))) (.add (.add (.mul (.add (.num 1000) (.num 16)) (.add (.add (.num 0) (.add (.add (.num 0) (.add (.add (.num 32) (.num 0)) (.num 0))) (.num 0))) (.add (.num 0) (.num 0)))) (.mul (.add (.num 1000) (.num 3456)) (.add (.num 0) (.add (.num 0) (.num 0))))) (.add (.mul (.add (.num 1000) (.num 3350)) (.add (.num 0) (.add (.num 0) (.num 0)))) (.mul (.add (.num 1000) (.num 32)) (.add (.num 0) (.add (.num 0) (.num 0)))))))) (.add (.add (.add (.add (.mul (.add (.num 1000) (.num 6100)) (.add (.num 0) (.add (.num 0) (.num 0)))) (.mul (.add (.num 13) (.num 0)) (.add (.add (.num 0) (.add (.num 0) (.add (.add (.add (.add (.add (.num 4294967295) (.num 0)) (.num 0)) (.num 0)) (.num 0)) (.num 0)))) (.add (.num 0) (.add (.add (.add (.add (.add (.add (.add (.num 50) (.num 0)) (.num 0)) (.num 0)) (.num 0)) (.add (.add (.add (.add (.num 14) (.num 0)) (.num 0)) (.num 0)) (.num 0))) (.num 0)) (.add (.add (.num 0) (.add (.add (.add (.add (.num 70) (.num 0)) (.num 0)) (.num 0)) (.num 0))) (.num 0))))))) (.add (.mul (.add (.num 1000) (.num 288)) (.add (.num 0) (.add (.num 0) (.num 0)))) (.mul (.add (.num 1000) (.num 30)) (.add (.num 0) (.add (.num 0) (.num 0)))))) (.add (.add (.mul (.add (.num 1000) (.num 16)) (.add (.add (.add (.add (.add (.num 0) (.add (.num 176) (.num 0))) (.add (.add (.num 0) (.num 0)) (.add (.num 288) (.num 0)))) (.add (.add (.add (.num 0) (.num 0)) (.add (.num 288) (.num 0))) (.add (.add (.num 0) (.num 0)) (.add (.num 288) (.num 0))))) (.add (.add (.add (.add (.num 0) (.num 0)) (.add (.num 288) (.num 0))) (.add (.add (.num 0) (.num 0)) (.add (.num 288) (.num 0)))) (.add (.add (.add (.num 0) (.num 0)) (.add (.num 288) (.num 0))) (.add (.add (.num 24) (.num 0)) (.add (.num 288) (.num 0)))))) (.add (.num 0) (.num 0)))) (.mul (.add (.num 1000) (.num 12)) (.add (.num 0) (.add (.num 0) (.num 0))))) (.add (.mul (.add (.num 11) (.num 0)) (.add (.num 0) (.add (.num 0) (.add (.add (.add (.add (.add (.add (.add (.num 54) (.num 0)) (.num 0)) (.num 0)) (.num 0)) (.num 0)) (.num 0)) (.num 0))))) (.mul (.add (.num 1000) (.num 330)) (.add (.num 0) (.add (.num 0) (.num 0))))))) (.add (.add (.add (.mul (.add (.num 1000) (.num 576)) (.add (.num 0) (.add (.num 0) (.num 0)))) (.mul (.add (.num 1000) (.num 6000)) (.add (.num 0) (.add (.num 0) (.num 0))))) (.add (.mul (.add (.num 1000) (.num 288)) (.add (.num 0) (.add (.num 0) (.num 0)))) (.mul (.add (.num 1000) (.num 30)) (.add (.num 0) (.add (.num 0) (.num 0)))))) (.add (.add (.mul (.add (.num 5) (.num 0)) (.add (.num 0) (.add (.num 0) (.add (.add (.add (.add (.add (.add (.add (.num 30) (.num 0)) (.num 0)) (.num 0)) (.num 0)) (.num 0)) (.add (.add (.add (.add (.add (.num 32) (.num 0)) (.num 0)) (.num 0)) (.num 0)) (.add (.add (.add (.add (.num 35) (.num 0)) (.num 0)) (.num 0)) (.num 0)))) (.add (.add (.add (.add (.add (.add (.num 31) (.num 0)) (.num 0)) (.num 0)) (.num 0)) (.add (.add (.add (.add (.num 34) (.num 0)) (.num 0)) (.num 0)) (.num 0))) (.add (.add (.add (.add (.add (.num 33) (.num 0)) (.num 0)) (.num 0)) (.num 0)) (.num 0))))))) (.mul (.add (.num 1000) (.num 29)) (.add (.add (.add (.add (.add (.add (.num 0) (.num 3)) (.add (.num 1) (.num 5))) (.add (.add (.num 0) (.num 4)) (.add (.num 2) (.num 0)))) (.add (.add (.add (.num 0) (.num 3)) (.add (.num 1) (.num 5))) (.add (.add (.num 0) (.num 4)) (.add (.num 2) (.num 0))))) (.add (.add (.add (.add (.num 0) (.num 3)) (.add (.num 1) (.num 5))) (.add (.add (.num 0) (.num 4)) (.add (.num 2) (.num 0)))) (.add (.add (.add (.num 0) (.num 3)) (.add (.num 1) (.num 5))) (.add (.add (.num 0) (.num 4)) (.add (.num 2) (.num 0)))))) (.add (.num 0) (.num 0))))) (.add (.mul (.add (.num 6) (.num 0)) (.add (.num 0) (.add (.num 0) (.add (.add (.add (.add (.add (.add (.add (.num 62) (.num 0)) (.num 0)) (.num 0)) (.num 0)) (.add (.add (.add (.add (.num 64) (.num 0)) (.num 0)) (.num 0)) (.num 0))) (.add (.num 0) (.add (.add (.add (.add (.num 65) (.num 0)) (.num 0)) (.num 0)) (.num 0)))) (.add (.num 0) (.add (.add (.add (.add (.add (.num 63) (.num 0)) (.num 0)) (.num 0)) (.num 0)) (.num 0))))))) (.mul (.add (.num 1000) (.num 64)) (.add (.num 0) (.add (.num 0) (.num 0))))))))) (.add (.add (.add (.add (.add (.mul (.add (.num 1000) (.num 6100)) (.add (.num 0) (.add (.num 0) (.num 0)))) (.mul (.add (.num 1000) (.num 30)) (.add (.num 0) (.add (.num 0) (.num 0))))) (.add (.mul (.add (.num 1000) (.num 16)) (.add (.num 0) (.add (.num 0) (.num 0)))) (.mul (.add (.num 1000) (.num 19)) (.add (.num 0) (.add (.num 0) (.num 0)))))) (.add (.add (.mul (.add (.num 1000) (.num 288)) (.add (.add (.add (.add (.add (.add (.add (.add (.add (.add (.num 256) (.num 224)) (.add (.num 104) (.num 0))) (.add (.add (.num 40) (.num 0)) (.add (.num 160) (.num 0)))) (.add (.add (.add (.num 8) (.num 0)) (.add (.num 136) (.num 0))) (.add (.add (.num 72) (.num 0)) (.add (.num 192) (.num 0))))) (.add (.add (.add (.add (.num 272) (.num 240)) (.add (.num 120) (.num 0))) (.add (.add (.num 56) (.num 0)) (.add (.num 176) (.num 0)))) (.add (.add (.add (.num 24) (.num 0)) (.add (.num 144) (.num 0))) (.add (.add (.num 88) (.num 0)) (.add (.num 208) (.num 0)))))) (.add (.add (.add (.add (.add (.num 264) (.num 232)) (.add (.num 112) (.num 0))) (.add (.add (.num 48) (.num 0)) (.add (.num 168) (.num 0)))) (.add (.add (.add (.num 16) (.num 0)) (.add (.num 280) (.num 0))) (.add (.add (.num 80) (.num 0)) (.add (.num 200) (.num 0))))) (.add (.add (.add (.add (.num 0) (.num 248)) (.add (.num 128) (.num 0))) (.add (.add (.num 64) (.num 0)) (.add (.num 184) (.num 0)))) (.add (.add (.add (.num 32) (.num 0)) (.add (.num 152) (.num 0))) (.add (.add (.num 96) (.num 0)) (.add (.num 216) (.num 0))))))) (.add (.add (.add (.add (.add (.add (.num 260) (.num 228)) (.add (.num 108) (.num 0))) (.add (.add (.num 44) (.num 0)) (.add (.num 164) (.num 0)))) (.add (.add (.add (.num 12) (.num 0)) (.add (.num 140) (.num 0))) (.add (.add (.num 76) (.num 0)) (.add (.num 196) (.num 0))))) (.add (.add (.add (.add (.num 276) (.num 244)) (.add (.num 124) (.num 0))) (.add (.add (.num 60) (.num 0)) (.add (.num 180) (.num 0)))) (.add (.add (.add (.num 28) (.num 0)) (.add (.num 148) (.num 0))) (.add (.add (.num 92) (.num 0)) (.add (.num 212) (.num 0)))))) (.add (.add (.add (.add (.add (.num 268) (.num 236)) (.add (.num 116) (.num 0))) (.add (.add (.num 52) (.num 0)) (.add (.num 172) (.num 0)))) (.add (.add (.add (.num 20) (.num 0)) (.add (.num 284) (.num 0))) (.add (.add (.num 84) (.num 0)) (.add (.num 204) (.num 0))))) (.add (.add (.add (.add (.num 4) (.num 252)) (.add (.num 132) (.num 0))) (.add (.add (.num 68) (.num 0)) (.add (.num 188) (.num 0)))) (.add (.add (.add (.num 36) (.num 0)) (.add (.num 156) (.num 0))) (.add (.add (.num 100) (.num 0)) (.add (.num 220) (.num 0)))))))) (.add (.add (.add (.add (.add (.add (.add (.num 258) (.num 226)) (.add (.num 106) (.num 0))) (.add (.add (.num 42) (.num 0)) (.add (.num 162) (.num 0)))) (.add (.add (.add (.num 10) (.num 0)) (.add (.num 138) (.num 0))) (.add (.add (.num 74) (.num 0)) (.add (.num 194) (.num 0))))) (.add (.add (.add (.add (.num 274) (.num 242)) (.add (.num 122) (.num 0))) (.add (.add (.num 58) (.num 0)) (.add (.num 178) (.num 0)))) (.add (.add (.add (.num 26) (.num 0)) (.add (.num 146) (.num 0))) (.add (.add (.num 90) (.num 0)) (.add (.num 210) (.num 0)))))) (.add (.add (.add (.add (.add (.num 266) (.num 234)) (.add (.num 114) (.num 0))) (.add (.add (.num 50) (.num 0)) (.add (.num 170) (.num 0)))) (.add (.add (.add (.num 18) (.num 0)) (.add (.num 282) (.num 0))) (.add (.add (.num 82) (.num 0)) (.add (.num 202) (.num 0))))) (.add (.add (.add (.add (.num 2) (.num 250)) (.add (.num 130) (.num 0))) (.add (.add (.num 66) (.num 0)) (.add (.num 186) (.num 0)))) (.add (.add (.add (.num 34) (.num 0)) (.add (.num 154) (.num 0))) (.add (.add (.num 98) (.num 0)) (.add (.num 218) (.num 0))))))) (.add (.add (.add (.add (.add (.add (.num 262) (.num 230)) (.add (.num 110) (.num 0))) (.add (.add (.num 46) (.num 0)) (.add (.num 166) (.num 0)))) (.add (.add (.add (.num 14) (.num 0)) (.add (.num 142) (.num 0))) (.add (.add (.num 78) (.num 0)) (.add (.num 198) (.num 0))))) (.add (.add (.add (.add (.num 278) (.num 246)) (.add (.num 126) (.num 0))) (.add (.add (.num 62) (.num 0)) (.add (.num 182) (.num 0)))) (.add (.add (.add (.num 30) (.num 0)) (.add (.num 150) (.num 0))) (.add (.add (.num 94) (.num 0)) (.add (.num 214) (.num 0)))))) (.add (.add (.add (.add (.add (.num 270) (.num 238)) (.add (.num 118) (.num 0))) (.add (.add (.num 54) (.num 0)) (.add (.num 174) (.num 0)))) (.add (.add (.add (.num 22) (.num 0)) (.add (.num 286) (.num 0))) (.add (.add (.num 86) (.num 0)) (.add (.num 206) (.num 0))))) (.add (.add (.add (.add (.num 6) (.num 254)) (.add (.num 134) (.num 0))) (.add (.add (.num 70) (.num 0)) (.add (.num 190) (.num 0)))) (.add (.add (.add (.num 38) (.num 0)) (.add (.num 158) (.num 0))) (.add (.add (.num 102) (.num 0)) (.add (.num 222) (.num 0))))))))) (.add (.add (.add (.add (.add (.add (.add (.add (.num 257) (.num 225)) (.add (.num 105) (.num 0))) (.add (.add (.num 41) (.num 0)) (.add (.num 161) (.num 0)))) (.add (.add (.add (.num 9) (.num 0)) (.add (.num 137) (.num 0))) (.add (.add (.num 73) (.num 0)) (.add (.num 193) (.num 0))))) (.add (.add (.add (.add (.num 273) (.num 241)) (.add (.num 121) (.num 0))) (.add (.add (.num 57) (.num 0)) (.add (.num 177) (.num 0)))) (.add (.add (.add (.num 25) (.num 0)) (.add (.num 145) (.num 0))) (.add (.add (.num 89) (.num 0)) (.add (.num 209) (.num 0)))))) (.add (.add (.add (.add (.add (.num 265) (.num 233)) (.add (.num 113) (.num 0))) (.add (.add (.num 49) (.num 0)) (.add (.num 169) (.num 0)))) (.add (.add (.add (.num 17) (.num 0)) (.add (.num 281) (.num 0))) (.add (.add (.num 81) (.num 0)) (.add (.num 201) (.num 0))))) (.add (.add (.add (.add (.num 1) (.num 249)) (.add (.num 129) (.num 0))) (.add (.add (.num 65) (.num 0)) (.add (.num 185) (.num 0)))) (.add (.add (.add (.num 33) (.num 0)) (.add (.num 153) (.num 0))) (.add (.add (.num 97) (.num 0)) (.add (.num 217) (.num 0))))))) (.add (.add (.add (.add (.add (.add (.num 261) (.num 229)) (.add (.num 109) (.num 0))) (.add (.add (.num 45) (.num 0)) (.add (.num 165) (.num 0)))) (.add (.add (.add (.num 13) (.num 0)) (.add (.num 141) (.num 0))) (.add (.add (.num 77) (.num 0)) (.add (.num 197) (.num 0))))) (.add (.add (.add (.add (.num 277) (.num 245)) (.add (.num 125) (.num 0))) (.add (.add (.num 61) (.num 0)) (.add (.num 181) (.num 0)))) (.add (.add (.add (.num 29) (.num 0)) (.add (.num 149) (.num 0))) (.add (.add (.num 93) (.num 0)) (.add (.num 213) (.num 0)))))) (.add (.add (.add (.add (.add (.num 269) (.num 237)) (.add (.num 117) (.num 0))) (.add (.add (.num 53) (.num 0)) (.add (.num 173) (.num 0)))) (.add (.add (.add (.num 21) (.num 0)) (.add (.num 285) (.num 0))) (.add (.add (.num 85) (.num 0)) (.add (.num 205) (.num 0))))) (.add (.add (.add (.add (.num 5) (.num 253)) (.add (.num 133) (.num 0))) (.add (.add (.num 69) (.num 0)) (.add (.num 189) (.num 0)))) (.add (.add (.add (.num 37) (.num 0)) (.add (.num 157) (.num 0))) (.add (.add (.num 101) (.num 0)) (.add (.num 221) (.num 0)))))))) (.add (.add (.add (.add (.add (.add (.add (.num 259) (.num 227)) (.add (.num 107) (.num 0))) (.add (.add (.num 43) (.num 0)) (.add (.num 163) (.num 0)))) (.add (.add (.add (.num 11) (.num 0)) (.add (.num 139) (.num 0))) (.add (.add (.num 75) (.num 0)) (.add (.num 195) (.num 0))))) (.add (.add (.add (.add (.num 275) (.num 243)) (.add (.num 123) (.num 0))) (.add (.add (.num 59) (.num 0)) (.add (.num 179) (.num 0)))) (.add (.add (.add (.num 27) (.num 0)) (.add (.num 147) (.num 0))) (.add (.add (.num 91) (.num 0)) (.add (.num 211) (.num 0)))))) (.add (.add (.add (.add (.add (.num 267) (.num 235)) (.add (.num 115) (.num 0))) (.add (.add (.num 51) (.num 0)) (.add (.num 171) (.num 0)))) (.add (.add (.add (.num 19) (.num 0)) (.add (.num 283) (.num 0))) (.add (.add (.num 83) (.num 0)) (.add (.num 203) (.num 0))))) (.add (.add (.add (.add (.num 3) (.num 251)) (.add (.num 131) (.num 0))) (.add (.add (.num 67) (.num 0)) (.add (.num 187) (.num 0)))) (.add (.add (.add (.num 35) (.num 0)) (.add (.num 155) (.num 0))) (.add (.add (.num 99) (.num 0)) (.add (.num 219) (.num 0))))))) (.add (.add (.add (.add (.add (.add (.num 263) (.num 231)) (.add (.num 111) (.num 0))) (.add (.add (.num 47) (.num 0)) (.add (.num 167) (.num 0)))) (.add (.add (.add (.num 15) (.num 0)) (.add (.num 143) (.num 0))) (.add (.add (.num 79) (.num 0)) (.add (.num 199) (.num 0))))) (.add (.add (.add (.add (.num 279) (.num 247)) (.add (.num 127) (.num 0))) (.add (.add (.num 63) (.num 0)) (.add (.num 183) (.num 0)))) (.add (.add (.add (.num 31) (.num 0)) (.add (.num 151) (.num 0))) (.add (.add (.num 95) (.num 0)) (.add (.num 215) (.num 0)))))) (.add (.add (.add (.add (.add (.num 271) (.num 239)) (.add (.num 119) (.num 0))) (.add (.add (.num 55) (.num 0)) (.add (.num 175) (.num 0)))) (.add (.add (.add (.num 23) (.num 0)) (.add (.num 287) (.num 0))) (.add (.add (.num 87) (.num 0)) (.add (.num 207) (.num 0))))) (.add (.add (.add (.add (.num 7) (.num 255)) (.add (.num 135) (.num 0))) (.add (.add (.num 71) (.num 0)) (.add (.num 191) (.num 0)))) (.add (.add (.add (.num 39) (.num 0)) (.add (.num 159) (.num 0))) (.add (.add (.num 103) (.num 0)) (.add (.num 223) (.num 0)))))))))) (.add (.num 0) (.num 0)))) (.mul (.add (.num 1000) (.num 12)) (.add (.num 0) (.add (.num 0) (.num 0))))) (.add (.mul (.add (.num 1000) (.num 6100)) (.add (.num 0) (.add (.num 0) (.num 0)))) (.mul (.add (.num 1000) (.num 17)) (.add (.num 0) (.add (.num 0) (.num 0))))))) (.add (.add (.add (.mul (.add (.num 1002) (.num 576)) (.add (.num 0) (.add (.num 0) (.num 0)))) (.mul (.add (.num 1003) (.num 8000)) (.add (.num 0) (.add (.num 0) (.num 0))))) (.add (.mul (.add (.num 5) (.num 0)) (.add (.num 0) (.add (.num 0) (.add (.add (.add (.add (.add (.add (.add (.num 44) (.num 0)) (.num 0)) (.num 0)) (.num 0)) (.num 0)) (.add (.add (.add (.add (.add (.num 46) (.num 0)) (.num 0)) (.num 0)) (.num 0)) (.add (.add (.add (.add (.num 49) (.num 0)) (.num 0)) (.num 0)) (.num 0)))) (.add (.add (.add (.add (.add (.add (.num 45) (.num 0)) (.num 0)) (.num 0)) (.num 0)) (.add (.add (.add (.add (.num 48) (.num 0)) (.num 0)) (.num 0)) (.num 0))) (.add (.add (.add (.add (.add (.num 47) (.num 0)) (.num 0)) (.num 0)) (.num 0)) (.num 0))))))) (.mul (.add (.num 1000) (.num 288)) (.add (.num 0) (.add (.num 0) (.num 0)))))) (.add (.add (.mul (.add (.num 1000) (.num 16)) (.add (.add (.add (.add (.add (.num 0) (.add (.num 256) (.num 0))) (.add (.add (.num 0) (.num 0)) (.add (.num 4096) (.num 0)))) (.add (.add (.add (.num 0) (.num 0)) (.add (.num 1024) (.num 0))) (.add (.add (.num 64) (.num 0)) (.add (.num 16384) (.num 0))))) (.add (.add (.add (.add (.num 0) (.num 0)) (.add (.num 512) (.num 0))) (.add (.add (.num 32) (.num 0)) (.add (.num 8192) (.num 0)))) (.add (.add (.add (.num 0) (.num 0)) (.add (.num 2048) (.num 0))) (.add (.add (.num 128) (.num 0)) (.add (.num 32768) (.num 0)))))) (.add (.num 0) (.num 0)))) (.mul (.add (.num 1000) (.num 228)) (.add (.num 0) (.add (.num 0) (.num 0))))) (.add (.mul (.add (.num 1000) (.num 4096)) (.add (.num 0) (.add (.num 0) (.num 0)))) (.mul (.add (.num 1000) (.num 330)) (.add (.num 0) (.add (.num 0) (.num 0)))))))) (.add (.add (.add (.add (.mul (.add (.num 1000) (.num 64)) (.add (.num 0) (.add (.num 0) (.num 0)))) (.mul (.add (.num 2) (.num 0)) (.add (.add (.num 0) (.add (.num 0) (.add (.num 0) (.add (.num 0) (.add (.num 0) (.add (.num 0) (.add (.num 4294967295) (.num 0)))))))) (.add (.num 0) (.add (.add (.add (.add (.add (.add (.add (.num 0) (.num 120)) (.add (.num 96) (.num 0))) (.add (.num 0) (.add (.num 112) (.num 0)))) (.add (.add (.add (.num 77) (.num 0)) (.add (.num 104) (.num 0))) (.add (.add (.num 88) (.num 0)) (.num 0)))) (.add (.add (.add (.add (.num 75) (.num 124)) (.add (.num 100) (.num 0))) (.add (.add (.num 84) (.num 0)) (.add (.num 116) (.num 0)))) (.add (.add (.add (.num 81) (.num 0)) (.add (.num 108) (.num 0))) (.add (.add (.num 92) (.num 0)) (.num 0))))) (.add (.add (.add (.add (.add (.num 73) (.num 122)) (.add (.num 98) (.num 0))) (.add (.num 0) (.add (.num 114) (.num 0)))) (.add (.add (.add (.num 79) (.num 0)) (.add (.num 106) (.num 0))) (.add (.add (.num 90) (.num 0)) (.num 0)))) (.add (.add (.add (.num 0) (.add (.num 102) (.num 0))) (.add (.add (.num 86) (.num 0)) (.add (.num 118) (.num 0)))) (.add (.add (.num 0) (.add (.num 110) (.num 0))) (.add (.add (.num 94) (.num 0)) (.num 0)))))) (.add (.add (.add (.add (.add (.add (.num 72) (.num 121)) (.add (.num 97) (.num 0))) (.add (.num 0) (.add (.num 113) (.num 0)))) (.add (.add (.add (.num 78) (.num 0)) (.add (.num 105) (.num 0))) (.add (.add (.num 89) (.num 0)) (.num 0)))) (.add (.add (.add (.add (.num 76) (.num 125)) (.add (.num 101) (.num 0))) (.add (.add (.num 85) (.num 0)) (.add (.num 117) (.num 0)))) (.add (.add (.add (.num 82) (.num 0)) (.add (.num 109) (.num 0))) (.add (.add (.num 93) (.num 0)) (.num 0))))) (.add (.add (.add (.add (.add (.num 74) (.num 123)) (.add (.num 99) (.num 0))) (.add (.add (.num 83) (.num 0)) (.add (.num 115) (.num 0)))) (.add (.add (.add (.num 80) (.num 0)) (.add (.num 107) (.num 0))) (.add (.add (.num 91) (.num 0)) (.num 0)))) (.add (.add (.add (.num 0) (.add (.num 103) (.num 0))) (.add (.add (.num 87) (.num 0)) (.add (.num 119) (.num 0)))) (.add (.add (.num 0) (.add (.num 111) (.num 0))) (.add (.add (.num 95) (.num 0)) (.num 0))))))))))) (.add (.mul (.add (.num 1000) (.num 16)) (.add (.num 0) (.add (.num 0) (.num 0)))) (.mul (.add (.num 1000) (.num 288)) (.add (.num 0) (.add (.num 0) (.num 0)))))) (.add (.add (.mul (.add (.num 1000) (.num 288)) (.add (.add (.add (.add (.add (.add (.add (.add (.add (.add (.num 5) (.num 0)) (.num 0)) (.num 0)) (.num 0)) (.add (.add (.add (.add (.num 5) (.num 0)) (.num 0)) (.num 0)) (.num 0))) (.add (.add (.add (.add (.add (.num 5) (.num 0)) (.num 0)) (.num 0)) (.num 0)) (.add (.add (.add (.add (.num 5) (.num 0)) (.num 0)) (.num 0)) (.num 0)))) (.add (.add (.add (.add (.add (.add (.num 5) (.num 0)) (.num 0)) (.num 0)) (.num 0)) (.add (.add (.add (.add (.num 5) (.num 0)) (.num 0)) (.num 0)) (.num 0))) (.add (.add (.add (.add (.add (.num 5) (.num 0)) (.num 0)) (.num 0)) (.num 0)) (.add (.add (.add (.add (.num 5) (.num 0)) (.num 0)) (.num 0)) (.num 0))))) (.add (.add (.add (.add (.add (.add (.add (.num 5) (.num 0)) (.num 0)) (.num 0)) (.num 0)) (.add (.add (.add (.add (.num 5) (.num 0)) (.num 0)) (.num 0)) (.num 0))) (.add (.add (.add (.add (.add (.num 5) (.num 0)) (.num 0)) (.num 0)) (.num 0)) (.add (.add (.add (.add (.num 5) (.num 0)) (.num 0)) (.num 0)) (.num 0)))) (.add (.add (.add (.add (.add (.add (.num 5) (.num 0)) (.num 0)) (.num 0)) (.num 0)) (.add (.add (.add (.add (.num 5) (.num 0)) (.num 0)) (.num 0)) (.num 0))) (.add (.add (.add (.add (.add (.num 5) (.num 0)) (.num 0)) (.num 0)) (.num 0)) (.add (.add (.add (.add (.num 5) (.num 0)) (.num 0)) (.num 0)) (.num 0)))))) (.add (.add (.add (.add (.add (.add (.add (.add (.num 5) (.num 0)) (.num 0)) (.num 0)) (.num 0)) (.add (.add (.add (.add (.num 5) (.num 0)) (.num 0)) (.num 0)) (.num 0))) (.add (.add (.add (.add (.add (.num 5) (.num 0)) (.num 0)) (.num 0)) (.num 0)) (.add (.add (.add (.add (.num 5) (.num 0)) (.num 0)) (.num 0)) (.num 0)))) (.add (.add (.add (.add (.add (.add (.num 5) (.num 0)) (.num 0)) (.num 0)) (.num 0)) (.add (.add (.add (.add (.num 5) (.num 0)) (.num 0)) (.num 0)) (.num 0))) (.add (.add (.add (.add (.add (.num 5) (.num 0)) (.num 0)) (.num 0)) (.num 0)) (.add (.add (.add (.add (.num 5) (.num 0)) (.num 0)) (.num 0)) (.num 0))))) (.add (.add (.add (.add (.add (.add (.add (.num 5) (.num 0)) (.num 0)) (.num 0)) (.num 0)) (.add (.add (.add (.add (.num 5) (.num 0)) (.num 0)) (.num 0)) (.num 0))) (.add (.add (.add (.add (.add (.num 5) (.num 0)) (.num 0)) (.num 0)) (.num 0)) (.add (.add (.add (.add (.num 5) (.num 0)) (.num 0)) (.num 0)) (.num 0)))) (.add (.add (.add (.add (.add (.add (.num 5) (.num 0)) (.num 0)) (.num 0)) (.num 0)) (.add (.add (.add (.add (.num 5) (.num 0)) (.num 0)) (.num 0)) (.num 0))) (.add (.add (.add (.add (.add (.num 5) (.num 0)) (.num 0)) (.num 0)) (.num 0)) (.add (.add (.add (.add (.num 5) (.num 0)) (.num 0)) (.num 0)) (.num 0))))))) (.add (.num 0) (.num 0)))) (.mul (.add (.num 1000) (.num 12)) (.add (.num 0) (.add (.num 0) (.num 0))))) (.add (.mul (.add (.num 4) (.num 0)) (.add (.num 0) (.add (.num 0) (.add (.add (.add (.add (.add (.add (.add (.num 56) (.num 0)) (.num 0)) (.num 0)) (.num 0)) (.num 0)) (.num 0)) (.add (.add (.add (.add (.add (.add (.num 57) (.num 0)) (.num 0)) (.num 0)) (.num 0)) (.num 0)) (.num 0)))))) (.mul (.add (.num 1000) (.num 330)) (.add (.num 0) (.add (.num 0) (.num 0))))))) (.add (.add (.add (.mul (.add (.num 5) (.num 0)) (.add (.add (.add (.add (.num 0) (.add (.add (.add (.add (.num 288) (.num 0)) (.num 0)) (.num 0)) (.num 0))) (.num 0)) (.num 0)) (.add (.num 0) (.add (.add (.add (.add (.add (.add (.add (.num 16) (.num 0)) (.num 0)) (.num 0)) (.num 0)) (.num 0)) (.add (.add (.add (.add (.add (.num 18) (.num 0)) (.num 0)) (.num 0)) (.num 0)) (.add (.add (.add (.add (.num 21) (.num 0)) (.num 0)) (.num 0)) (.num 0)))) (.add (.add (.add (.add (.add (.add (.num 17) (.num 0)) (.num 0)) (.num 0)) (.num 0)) (.add (.add (.add (.add (.num 20) (.num 0)) (.num 0)) (.num 0)) (.num 0))) (.add (.add (.add (.add (.add (.num 19) (.num 0)) (.num 0)) (.num 0)) (.num 0)) (.num 0))))))) (.mul (.add (.num 1000) (.num 6000)) (.add (.num 0) (.add (.num 0) (.num 0))))) (.add (.mul (.add (.num 1000) (.num 288)) (.add (.num 0) (.add (.num 0) (.num 0)))) (.mul (.add (.num 1000) (.num 600)) (.add (.num 0) (.add (.num 0) (.num 0)))))) (.add (.add (.mul (.add (.num 1000) (.num 288)) (.add (.num 0) (.add (.num 0) (.num 0)))) (.mul (.add (.num 1000) (.num 30)) (.add (.add (.add (.add (.add (.add (.num 0) (.num 7)) (.add (.num 3) (.num 11))) (.add (.add (.num 1) (.num 9)) (.add (.num 5) (.num 13)))) (.add (.add (.add (.num 0) (.num 8)) (.add (.num 4) (.num 12))) (.add (.add (.num 2) (.num 10)) (.add (.num 6) (.num 0))))) (.add (.add (.add (.add (.num 0) (.num 7)) (.add (.num 3) (.num 11))) (.add (.add (.num 1) (.num 9)) (.add (.num 5) (.num 13)))) (.add (.add (.add (.num 0) (.num 8)) (.add (.num 4) (.num 12))) (.add (.add (.num 2) (.num 10)) (.add (.num 6) (.num 0)))))) (.add (.num 0) (.num 0))))) (.add (.mul (.add (.num 1000) (.num 316)) (.add (.num 0) (.add (.num 0) (.num 0)))) (.num 0)))))))))
set_option maxRecDepth 20000 in
noncomputable def gS3 : ev_S := (126, 522573, (.add (.add (.add (.add (.add (.add (.add (.num 0) (.mul (.add (.num 1000) (.num 316)) (.add (.num 0) (.add (.num 0) (.num 0))))) (.add (.mul (.add (.num 1000) (.num 16)) (.add (.num 0) (.add (.num 0) (.num 0)))) (.mul (.add (.num 1000) (.num 19)) (.add (.add (.add (.add (.add (.add (.num 16) (.num 14)) (.add (.num 10) (.num 0))) (.add (.add (.num 8) (.num 0)) (.add (.num 12) (.num 0)))) (.add (.add (.add (.num 18) (.num 15)) (.add (.num 11) (.num 0))) (.add (.add (.num 9) (.num 0)) (.add (.num 13) (.num 0))))) (.add (.add (.add (.add (.num 17) (.num 1)) (.add (.num 5) (.num 0))) (.add (.add (.num 7) (.num 0)) (.add (.num 3) (.num 0)))) (.add (.add (.add (.num 0) (.num 0)) (.add (.num 4) (.num 0))) (.add (.add (.num 6) (.num 0)) (.add (.num 2) (.num 0)))))) (.add (.num 0) (.num 0)))))) (.add (.add (.mul (.add (.num 1000) (.num 288)) (.add (.add (.add (.add (.add (.add (.add (.add (.add (.add (.num 8) (.num 7)) (.num 8)) (.add (.num 8) (.add (.num 9) (.num 8)))) (.add (.add (.num 8) (.add (.num 9) (.num 8))) (.add (.num 8) (.add (.num 9) (.num 8))))) (.add (.add (.add (.add (.num 8) (.num 7)) (.add (.num 9) (.num 8))) (.add (.num 8) (.add (.num 9) (.num 8)))) (.add (.add (.num 8) (.add (.num 9) (.num 8))) (.add (.num 8) (.add (.num 9) (.num 8)))))) (.add (.add (.add (.add (.add (.num 8) (.num 7)) (.num 8)) (.add (.num 8) (.add (.num 9) (.num 8)))) (.add (.add (.num 8) (.add (.num 9) (.num 8))) (.add (.num 8) (.add (.num 9) (.num 8))))) (.add (.add (.add (.num 8) (.add (.num 9) (.num 8))) (.add (.num 8) (.add (.num 9) (.num 8)))) (.add (.add (.num 8) (.add (.num 9) (.num 8))) (.add (.num 8) (.add (.num 9) (.num 8))))))) (.add (.add (.add (.add (.add (.add (.num 8) (.num 7)) (.num 8)) (.add (.num 8) (.add (.num 9) (.num 8)))) (.add (.add (.num 8) (.add (.num 9) (.num 8))) (.add (.num 8) (.add (.num 9) (.num 8))))) (.add (.add (.add (.add (.num 8) (.num 7)) (.add (.num 9) (.num 8))) (.add (.num 8) (.add (.num 9) (.num 8)))) (.add (.add (.num 8) (.add (.num 9) (.num 8))) (.add (.num 8) (.add (.num 9) (.num 8)))))) (.add (.add (.add (.add (.add (.num 8) (.num 7)) (.num 8)) (.add (.num 8) (.add (.num 9) (.num 8)))) (.add (.add (.num 8) (.add (.num 9) (.num 8))) (.add (.num 8) (.add (.num 9) (.num 8))))) (.add (.add (.add (.num 8) (.add (.num 9) (.num 8))) (.add (.num 8) (.add (.num 9) (.num 8)))) (.add (.add (.num 8) (.add (.num 9) (.num 8))) (.add (.num 8) (.add (.num 9) (.num 8)))))))) (.add (.add (.add (.add (.add (.add (.add (.num 8) (.num 7)) (.num 8)) (.add (.num 8) (.add (.num 9) (.num 8)))) (.add (.add (.num 8) (.add (.num 9) (.num 8))) (.add (.num 8) (.add (.num 9) (.num 8))))) (.add (.add (.add (.add (.num 8) (.num 7)) (.add (.num 9) (.num 8))) (.add (.num 8) (.add (.num 9) (.num 8)))) (.add (.add (.num 8) (.add (.num 9) (.num 8))) (.add (.num 8) (.add (.num 9) (.num 8)))))) (.add (.add (.add (.add (.add (.num 8) (.num 7)) (.num 8)) (.add (.num 8) (.add (.num 9) (.num 8)))) (.add (.add (.num 8) (.add (.num 9) (.num 8))) (.add (.num 8) (.add (.num 9) (.num 8))))) (.add (.add (.add (.num 8) (.add (.num 9) (.num 8))) (.add (.num 8) (.add (.num 9) (.num 8)))) (.add (.add (.num 8) (.add (.num 9) (.num 8))) (.add (.num 8) (.add (.num 9) (.num 8))))))) (.add (.add (.add (.add (.add (.add (.num 8) (.num 7)) (.num 8)) (.add (.num 8) (.add (.num 9) (.num 8)))) (.add (.add (.num 8) (.add (.num 9) (.num 8))) (.add (.num 8) (.add (.num 9) (.num 8))))) (.add (.add (.add (.add (.num 8) (.num 7)) (.add (.num 9) (.num 8))) (.add (.num 8) (.add (.num 9) (.num 8)))) (.add (.add (.num 8) (.add (.num 9) (.num 8))) (.add (.num 8) (.add (.num 9) (.num 8)))))) (.add (.add (.add (.add (.add (.num 8) (.num 7)) (.num 8)) (.add (.num 8) (.add (.num 9) (.num 8)))) (.add (.add (.num 8) (.add (.num 9) (.num 8))) (.add (.num 8) (.add (.num 9) (.num 8))))) (.add (.add (.add (.num 8) (.add (.num 9) (.num 8))) (.add (.num 8) (.add (.num 9) (.num 8)))) (.add (.add (.num 8) (.add (.num 9) (.num 8))) (.add (.num 8) (.add (.num 9) (.num 8))))))))) (.add (.add (.add (.add (.add (.add (.add (.add (.num 8) (.num 7)) (.num 8)) (.add (.num 8) (.add (.num 9) (.num 8)))) (.add (.add (.num 8) (.add (.num 9) (.num 8))) (.add (.num 8) (.add (.num 9) (.num 8))))) (.add (.add (.add (.add (.num 8) (.num 7)) (.add (.num 9) (.num 8))) (.add (.num 8) (.add (.num 9) (.num 8)))) (.add (.add (.num 8) (.add (.num 9) (.num 8))) (.add (.num 8) (.add (.num 9) (.num 8)))))) (.add (.add (.add (.add (.add (.num 8) (.num 7)) (.num 8)) (.add (.num 8) (.add (.num 9) (.num 8)))) (.add (.add (.num 8) (.add (.num 9) (.num 8))) (.add (.num 8) (.add (.num 9) (.num 8))))) (.add (.add (.add (.num 8) (.add (.num 9) (.num 8))) (.add (.num 8) (.add (.num 9) (.num 8)))) (.add (.add (.num 8) (.add (.num 9) (.num 8))) (.add (.num 8) (.add (.num 9) (.num 8))))))) (.add (.add (.add (.add (.add (.add (.num 8) (.num 7)) (.num 8)) (.add (.num 8) (.add (.num 9) (.num 8)))) (.add (.add (.num 8) (.add (.num 9) (.num 8))) (.add (.num 8) (.add (.num 9) (.num 8))))) (.add (.add (.add (.add (.num 8) (.num 7)) (.add (.num 9) (.num 8))) (.add (.num 8) (.add (.num 9) (.num 8)))) (.add (.add (.num 8) (.add (.num 9) (.num 8))) (.add (.num 8) (.add (.num 9) (.num 8)))))) (.add (.add (.add (.add (.add (.num 8) (.num 7)) (.num 8)) (.add (.num 8) (.add (.num 9) (.num 8)))) (.add (.add (.num 8) (.add (.num 9) (.num 8))) (.add (.num 8) (.add (.num 9) (.num 8))))) (.add (.add (.add (.num 8) (.add (.num 9) (.num 8))) (.add (.num 8) (.add (.num 9) (.num 8)))) (.add (.add (.num 8) (.add (.num 9) (.num 8))) (.add (.num 8) (.add (.num 9) (.num 8)))))))) (.add (.add (.add (.add (.add (.add (.add (.num 8) (.num 7)) (.num 8)) (.add (.num 8) (.add (.num 9) (.num 8)))) (.add (.add (.num 8) (.add (.num 9) (.num 8))) (.add (.num 8) (.add (.num 9) (.num 8))))) (.add (.add (.add (.add (.num 8) (.num 7)) (.add (.num 9) (.num 8))) (.add (.num 8) (.add (.num 9) (.num 8)))) (.add (.add (.num 8) (.add (.num 9) (.num 8))) (.add (.num 8) (.add (.num 9) (.num 8)))))) (.add (.add (.add (.add (.add (.num 8) (.num 7)) (.num 8)) (.add (.num 8) (.add (.num 9) (.num 8)))) (.add (.add (.num 8) (.add (.num 9) (.num 8))) (.add (.num 8) (.add (.num 9) (.num 8))))) (.add (.add (.add (.num 8) (.add (.num 9) (.num 8))) (.add (.num 8) (.add (.num 9) (.num 8)))) (.add (.add (.num 8) (.add (.num 9) (.num 8))) (.add (.num 8) (.add (.num 9) (.num 8))))))) (.add (.add (.add (.add (.add (.add (.num 8) (.num 7)) (.num 8)) (.add (.num 8) (.add (.num 9) (.num 8)))) (.add (.add (.num 8) (.add (.num 9) (.num 8))) (.add (.num 8) (.add (.num 9) (.num 8))))) (.add (.add (.add (.add (.num 8) (.num 7)) (.add (.num 9) (.num 8))) (.add (.num 8) (.add (.num 9) (.num 8)))) (.add (.add (.num 8) (.add (.num 9) (.num 8))) (.add (.num 8) (.add (.num 9) (.num 8)))))) (.add (.add (.add (.add (.add (.num 8) (.num 7)) (.num 8)) (.add (.num 8) (.add (.num 9) (.num 8)))) (.add (.add (.num 8) (.add (.num 9) (.num 8))) (.add (.num 8) (.add (.num 9) (.num 8))))) (.add (.add (.add (.num 8) (.add (.num 9) (.num 8))) (.add (.num 8) (.add (.num 9) (.num 8)))) (.add (.add (.num 8) (.add (.num 9) (.num 8))) (.add (.num 8) (.add (.num 9) (.num 8)))))))))) (.add (.num 0) (.num 0)))) (.mul (.add (.num 1000) (.num 6000)) (.add (.num 0) (.add (.num 0) (.num 0))))) (.add (.mul (.add (.num 1000) (.num 16)) (.add (.num 0) (.add (.num 0) (.num 0)))) (.mul (.add (.num 1000) (.num 600)) (.add (.num 0) (.add (.num 0) (.num 0))))))) (.add (.add (.add (.mul (.add (.num 1000) (.num 64)) (.add (.num 0) (.add (.num 0) (.num 0)))) (.mul (.add (.num 1003) (.num 6000)) (.add (.num 0) (.add (.num 0) (.num 0))))) (.add (.mul (.add (.num 1000) (.num 288)) (.add (.num 0) (.add (.num 0) (.num 0)))) (.mul (.add (.num 1000) (.num 30)) (.add (.num 0) (.add (.num 0) (.num 0)))))) (.add (.add (.mul (.add (.num 1000) (.num 288)) (.add (.add (.add (.add (.add (.add (.add (.add (.add (.add (.num 0) (.num 0)) (.num 0)) (.num 0)) (.num 0)) (.add (.add (.add (.add (.num 1) (.num 0)) (.num 0)) (.num 0)) (.num 0))) (.add (.add (.add (.add (.add (.num 2) (.num 0)) (.num 0)) (.num 0)) (.num 0)) (.add (.add (.add (.add (.num 3) (.num 0)) (.num 0)) (.num 0)) (.num 0)))) (.add (.add (.add (.add (.add (.add (.num 4) (.num 0)) (.num 0)) (.num 0)) (.num 0)) (.add (.add (.add (.add (.num 5) (.num 0)) (.num 0)) (.num 0)) (.num 0))) (.add (.add (.add (.add (.add (.num 6) (.num 0)) (.num 0)) (.num 0)) (.num 0)) (.add (.add (.add (.add (.num 7) (.num 0)) (.num 0)) (.num 0)) (.num 0))))) (.add (.add (.add (.add (.add (.add (.add (.num 8) (.num 0)) (.num 0)) (.num 0)) (.num 0)) (.add (.add (.add (.add (.num 9) (.num 0)) (.num 0)) (.num 0)) (.num 0))) (.add (.add (.add (.add (.add (.num 10) (.num 0)) (.num 0)) (.num 0)) (.num 0)) (.add (.add (.add (.add (.num 11) (.num 0)) (.num 0)) (.num 0)) (.num 0)))) (.add (.add (.add (.add (.add (.add (.num 12) (.num 0)) (.num 0)) (.num 0)) (.num 0)) (.add (.add (.add (.add (.num 13) (.num 0)) (.num 0)) (.num 0)) (.num 0))) (.add (.add (.add (.add (.add (.num 14) (.num 0)) (.num 0)) (.num 0)) (.num 0)) (.add (.add (.add (.add (.num 15) (.num 0)) (.num 0)) (.num 0)) (.num 0)))))) (.add (.add (.add (.add (.add (.add (.add (.add (.num 16) (.num 0)) (.num 0)) (.num 0)) (.num 0)) (.add (.add (.add (.add (.num 17) (.num 0)) (.num 0)) (.num 0)) (.num 0))) (.add (.add (.add (.add (.add (.num 18) (.num 0)) (.num 0)) (.num 0)) (.num 0)) (.add (.add (.add (.add (.num 19) (.num 0)) (.num 0)) (.num 0)) (.num 0)))) (.add (.add (.add (.add (.add (.add (.num 20) (.num 0)) (.num 0)) (.num 0)) (.num 0)) (.add (.add (.add (.add (.num 21) (.num 0)) (.num 0)) (.num 0)) (.num 0))) (.add (.add (.add (.add (.add (.num 22) (.num 0)) (.num 0)) (.num 0)) (.num 0)) (.add (.add (.add (.add (.num 23) (.num 0)) (.num 0)) (.num 0)) (.num 0))))) (.add (.add (.add (.add (.add (.add (.add (.num 24) (.num 0)) (.num 0)) (.num 0)) (.num 0)) (.add (.add (.add (.add (.num 25) (.num 0)) (.num 0)) (.num 0)) (.num 0))) (.add (.add (.add (.add (.add (.num 26) (.num 0)) (.num 0)) (.num 0)) (.num 0)) (.add (.add (.add (.add (.num 27) (.num 0)) (.num 0)) (.num 0)) (.num 0)))) (.add (.add (.add (.add (.add (.add (.num 28) (.num 0)) (.num 0)) (.num 0)) (.num 0)) (.add (.add (.add (.add (.num 29) (.num 0)) (.num 0)) (.num 0)) (.num 0))) (.add (.add (.add (.add (.add (.num 30) (.num 0)) (.num 0)) (.num 0)) (.num 0)) (.add (.add (.add (.add (.num 31) (.num 0)) (.num 0)) (.num 0)) (.num 0))))))) (.add (.num 0) (.num 0)))) (.mul (.add (.num 1000) (.num 12)) (.add (.num 0) (.add (.num 0) (.num 0))))) (.add (.mul (.add (.num 1000) (.num 60)) (.add (.num 0) (.add (.num 0) (.num 0)))) (.mul (.add (.num 1000) (.num 288)) (.add (.num 0) (.add (.num 0) (.num 0)))))))) (.add (.add (.add (.add (.mul (.add (.num 12) (.num 0)) (.add (.num 0) (.add (.num 0) (.add (.add (.add (.add (.add (.add (.add (.num 5) (.num 0)) (.num 0)) (.num 0)) (.num 0)) (.num 0)) (.num 0)) (.num 0))))) (.mul (.add (.num 3) (.num 0)) (.add (.num 0) (.add (.num 0) (.add (.add (.add (.add (.add (.add (.add (.num 50) (.num 0)) (.num 0)) (.num 0)) (.num 0)) (.num 0)) (.num 0)) (.num 0)))))) (.add (.mul (.add (.num 5) (.num 0)) (.add (.num 0) (.add (.num 0) (.add (.add (.add (.add (.add (.add (.add (.num 37) (.num 0)) (.num 0)) (.num 0)) (.num 0)) (.num 0)) (.add (.add (.add (.add (.add (.num 39) (.num 0)) (.num 0)) (.num 0)) (.num 0)) (.add (.add (.add (.add (.num 42) (.num 0)) (.num 0)) (.num 0)) (.num 0)))) (.add (.add (.add (.add (.add (.add (.num 38) (.num 0)) (.num 0)) (.num 0)) (.num 0)) (.add (.add (.add (.add (.num 41) (.num 0)) (.num 0)) (.num 0)) (.num 0))) (.add (.add (.add (.add (.add (.num 40) (.num 0)) (.num 0)) (.num 0)) (.num 0)) (.num 0))))))) (.mul (.add (.num 1000) (.num 288)) (.add (.num 0) (.add (.num 0) (.num 0)))))) (.add (.add (.mul (.add (.num 1000) (.num 16)) (.add (.add (.add (.add (.add (.num 0) (.add (.num 200) (.num 0))) (.add (.add (.num 0) (.num 0)) (.add (.num 4096) (.num 0)))) (.add (.add (.add (.num 0) (.num 0)) (.add (.num 1024) (.num 0))) (.add (.add (.num 0) (.num 0)) (.add (.num 16384) (.num 0))))) (.add (.add (.add (.add (.num 0) (.num 0)) (.add (.num 512) (.num 0))) (.add (.add (.num 0) (.num 0)) (.add (.num 8192) (.num 0)))) (.add (.add (.add (.num 0) (.num 0)) (.add (.num 2048) (.num 0))) (.add (.add (.num 24) (.num 0)) (.add (.num 32768) (.num 0)))))) (.add (.num 0) (.num 0)))) (.mul (.add (.num 1000) (.num 12)) (.add (.num 0) (.add (.num 0) (.num 0))))) (.add (.mul (.add (.num 10) (.num 0)) (.add (.num 0) (.add (.num 0) (.add (.add (.add (.add (.add (.add (.add (.num 50) (.num 0)) (.num 0)) (.num 0)) (.add (.add (.add (.num 66) (.num 0)) (.num 0)) (.num 0))) (.add (.add (.add (.add (.num 9) (.num 0)) (.num 0)) (.num 0)) (.num 0))) (.add (.add (.add (.add (.add (.num 55) (.num 0)) (.num 0)) (.num 0)) (.num 0)) (.add (.add (.add (.add (.num 58) (.num 0)) (.num 0)) (.num 0)) (.num 0)))) (.add (.add (.add (.add (.add (.add (.num 53) (.num 0)) (.num 0)) (.num 0)) (.add (.add (.add (.num 67) (.num 0)) (.num 0)) (.num 0))) (.add (.add (.add (.add (.num 68) (.num 0)) (.num 0)) (.num 0)) (.num 0))) (.add (.add (.add (.add (.add (.num 14) (.num 0)) (.num 0)) (.num 0)) (.num 0)) (.add (.add (.add (.add (.num 61) (.num 0)) (.num 0)) (.num 0)) (.num 0)))))))) (.mul (.add (.num 1000) (.num 17)) (.add (.num 0) (.add (.num 0) (.num 0))))))) (.add (.add (.add (.mul (.add (.num 1002) (.num 288)) (.add (.num 0) (.add (.num 0) (.num 0)))) (.mul (.add (.num 1003) (.num 6000)) (.add (.num 0) (.add (.num 0) (.num 0))))) (.add (.mul (.add (.num 1000) (.num 288)) (.add (.num 0) (.add (.num 0) (.num 0)))) (.mul (.add (.num 1000) (.num 30)) (.add (.num 0) (.add (.num 0) (.num 0)))))) (.add (.add (.mul (.add (.num 1000) (.num 16)) (.add (.add (.add (.add (.add (.num 0) (.add (.num 32) (.num 0))) (.add (.add (.num 0) (.num 0)) (.add (.num 32) (.num 0)))) (.add (.add (.add (.num 0) (.num 0)) (.add (.num 32) (.num 0))) (.add (.add (.num 32) (.num 0)) (.add (.num 32) (.num 0))))) (.add (.add (.add (.add (.num 0) (.num 0)) (.add (.num 32) (.num 0))) (.add (.add (.num 32) (.num 0)) (.add (.num 32) (.num 0)))) (.add (.add (.add (.num 0) (.num 0)) (.add (.num 32) (.num 0))) (.add (.add (.num 32) (.num 0)) (.add (.num 32) (.num 0)))))) (.add (.num 0) (.num 0)))) (.mul (.add (.num 1000) (.num 29)) (.add (.add (.add (.add (.add (.add (.num 3) (.num 35)) (.add (.num 11) (.num 131))) (.add (.add (.num 7) (.num 67)) (.add (.num 19) (.num 258)))) (.add (.add (.add (.num 5) (.num 51)) (.add (.num 15) (.num 195))) (.add (.add (.num 9) (.num 99)) (.add (.num 27) (.num 0))))) (.add (.add (.add (.add (.num 4) (.num 43)) (.add (.num 13) (.num 163))) (.add (.add (.num 8) (.num 83)) (.add (.num 23) (.num 0)))) (.add (.add (.add (.num 6) (.num 59)) (.add (.num 17) (.num 227))) (.add (.add (.num 10) (.num 115)) (.add (.num 31) (.num 0)))))) (.add (.num 0) (.num 0))))) (.add (.mul (.add (.num 1000) (.num 6000)) (.add (.num 0) (.add (.num 0) (.num 0)))) (.mul (.add (.num 1000) (.num 64)) (.add (.num 0) (.add (.num 0) (.num 0))))))))) (.add (.add (.add (.add (.add (.mul (.add (.num 12) (.num 0)) (.add (.num 0) (.add (.num 0) (.add (.add (.add (.add (.add (.add (.add (.num 3) (.num 0)) (.num 0)) (.num 0)) (.num 0)) (.num 0)) (.num 0)) (.num 0))))) (.mul (.add (.num 1000) (.num 286)) (.add (.num 0) (.add (.num 0) (.num 0))))) (.add (.mul (.add (.num 1000) (.num 16)) (.add (.num 0) (.add (.num 0) (.num 0)))) (.mul (.add (.num 1000) (.num 30)) (.add (.num 0) (.add (.num 0) (.num 0)))))) (.add (.add (.mul (.add (.num 1000) (.num 16)) (.add (.add (.add (.add (.add (.num 0) (.add (.num 152) (.num 0))) (.num 0)) (.num 0)) (.add (.add (.add (.num 0) (.add (.num 112) (.num 0))) (.num 0)) (.add (.num 0) (.add (.add (.num 24) (.num 0)) (.num 0))))) (.add (.num 0) (.num 0)))) (.mul (.add (.num 1000) (.num 65536)) (.add (.num 0) (.add (.num 0) (.num 0))))) (.add (.mul (.add (.num 12) (.num 0)) (.add (.num 0) (.add (.num 0) (.add (.add (.add (.add (.add (.add (.add (.num 51) (.num 0)) (.num 0)) (.num 0)) (.num 0)) (.num 0)) (.num 0)) (.num 0))))) (.mul (.add (.num 1000) (.num 172800)) (.add (.num 0) (.add (.num 0) (.num 0))))))) (.add (.add (.add (.mul (.add (.num 1000) (.num 288)) (.add (.num 0) (.add (.num 0) (.num 0)))) (.mul (.add (.num 1003) (.num 20)) (.add (.num 0) (.add (.num 0) (.num 0))))) (.add (.mul (.add (.num 1000) (.num 16)) (.add (.num 0) (.add (.num 0) (.num 0)))) (.mul (.add (.num 1000) (.num 288)) (.add (.num 0) (.add (.num 0) (.num 0)))))) (.add (.add (.mul (.add (.num 1000) (.num 288)) (.add (.add (.add (.add (.add (.add (.add (.add (.add (.add (.num 0) (.num 0)) (.num 0)) (.num 0)) (.num 0)) (.add (.add (.add (.add (.num 16) (.num 0)) (.num 0)) (.num 0)) (.num 0))) (.add (.add (.add (.add (.add (.num 8) (.num 0)) (.num 0)) (.num 0)) (.num 0)) (.add (.add (.add (.add (.num 24) (.num 0)) (.num 0)) (.num 0)) (.num 0)))) (.add (.add (.add (.add (.add (.add (.num 4) (.num 0)) (.num 0)) (.num 0)) (.num 0)) (.add (.add (.add (.add (.num 20) (.num 0)) (.num 0)) (.num 0)) (.num 0))) (.add (.add (.add (.add (.add (.num 12) (.num 0)) (.num 0)) (.num 0)) (.num 0)) (.add (.add (.add (.add (.num 28) (.num 0)) (.num 0)) (.num 0)) (.num 0))))) (.add (.add (.add (.add (.add (.add (.add (.num 2) (.num 0)) (.num 0)) (.num 0)) (.num 0)) (.add (.add (.add (.add (.num 18) (.num 0)) (.num 0)) (.num 0)) (.num 0))) (.add (.add (.add (.add (.add (.num 10) (.num 0)) (.num 0)) (.num 0)) (.num 0)) (.add (.add (.add (.add (.num 26) (.num 0)) (.num 0)) (.num 0)) (.num 0)))) (.add (.add (.add (.add (.add (.add (.num 6) (.num 0)) (.num 0)) (.num 0)) (.num 0)) (.add (.add (.add (.add (.num 22) (.num 0)) (.num 0)) (.num 0)) (.num 0))) (.add (.add (.add (.add (.add (.num 14) (.num 0)) (.num 0)) (.num 0)) (.num 0)) (.add (.add (.add (.add (.num 30) (.num 0)) (.num 0)) (.num 0)) (.num 0)))))) (.add (.add (.add (.add (.add (.add (.add (.add (.num 1) (.num 0)) (.num 0)) (.num 0)) (.num 0)) (.add (.add (.add (.add (.num 17) (.num 0)) (.num 0)) (.num 0)) (.num 0))) (.add (.add (.add (.add (.add (.num 9) (.num 0)) (.num 0)) (.num 0)) (.num 0)) (.add (.add (.add (.add (.num 25) (.num 0)) (.num 0)) (.num 0)) (.num 0)))) (.add (.add (.add (.add (.add (.add (.num 5) (.num 0)) (.num 0)) (.num 0)) (.num 0)) (.add (.add (.add (.add (.num 21) (.num 0)) (.num 0)) (.num 0)) (.num 0))) (.add (.add (.add (.add (.add (.num 13) (.num 0)) (.num 0)) (.num 0)) (.num 0)) (.add (.add (.add (.add (.num 29) (.num 0)) (.num 0)) (.num 0)) (.num 0))))) (.add (.add (.add (.add (.add (.add (.add (.num 3) (.num 0)) (.num 0)) (.num 0)) (.num 0)) (.add (.add (.add (.add (.num 19) (.num 0)) (.num 0)) (.num 0)) (.num 0))) (.add (.add (.add (.add (.add (.num 11) (.num 0)) (.num 0)) (.num 0)) (.num 0)) (.add (.add (.add (.add (.num 27) (.num 0)) (.num 0)) (.num 0)) (.num 0)))) (.add (.add (.add (.add (.add (.add (.num 7) (.num 0)) (.num 0)) (.num 0)) (.num 0)) (.add (.add (.add (.add (.num 23) (.num 0)) (.num 0)) (.num 0)) (.num 0))) (.add (.add (.add (.add (.add (.num 15) (.num 0)) (.num 0)) (.num 0)) (.num 0)) (.add (.add (.add (.add (.num 31) (.num 0)) (.num 0)) (.num 0)) (.num 0))))))) (.add (.num 0) (.num 0)))) (.mul (.add (.num 1000) (.num 360)) (.add (.num 0) (.add (.num 0) (.num 0))))) (.add (.mul (.add (.num 9) (.num 0)) (.add (.num 0) (.add (.num 0) (.add (.add (.add (.add (.add (.add (.add (.num 59) (.num 0)) (.num 0)) (.num 0)) (.num 0)) (.num 0)) (.num 0)) (.add (.add (.add (.add (.add (.add (.num 60) (.num 0)) (.num 0)) (.num 0)) (.num 0)) (.num 0)) (.num 0)))))) (.mul (.add (.num 1000) (.num 19)) (.add (.num 0) (.add (.num 0) (.num 0)))))))) (.add (.add (.add (.add (.mul (.add (.num 1000) (.num 20)) (.add (.num 0) (.add (.num 0) (.num 0)))) (.mul (.add (.num 1000) (.num 316)) (.add (.num 0) (.add (.num 0) (.num 0))))) (.add (.mul (.add (.num 1000) (.num 288)) (.add (.num 0) (.add (.num 0) (.num 0)))) (.mul (.add (.num 1000) (.num 19)) (.add (.num 0) (.add (.num 0) (.num 0)))))) (.add (.add (.mul (.add (.num 5) (.num 0)) (.add (.add (.add (.add (.num 0) (.add (.add (.add (.add (.num 32) (.num 0)) (.num 0)) (.num 0)) (.num 0))) (.num 0)) (.num 0)) (.add (.num 0) (.add (.add (.add (.add (.add (.add (.add (.num 23) (.num 0)) (.num 0)) (.num 0)) (.num 0)) (.num 0)) (.add (.add (.add (.add (.add (.num 25) (.num 0)) (.num 0)) (.num 0)) (.num 0)) (.add (.add (.add (.add (.num 28) (.num 0)) (.num 0)) (.num 0)) (.num 0)))) (.add (.add (.add (.add (.add (.add (.num 24) (.num 0)) (.num 0)) (.num 0)) (.num 0)) (.add (.add (.add (.add (.num 27) (.num 0)) (.num 0)) (.num 0)) (.num 0))) (.add (.add (.add (.add (.add (.num 26) (.num 0)) (.num 0)) (.num 0)) (.num 0)) (.num 0))))))) (.mul (.add (.num 1000) (.num 12)) (.add (.num 0) (.add (.num 0) (.num 0))))) (.add (.mul (.add (.num 1000) (.num 6000)) (.add (.num 0) (.add (.num 0) (.num 0)))) (.mul (.add (.num 1000) (.num 330)) (.add (.num 0) (.add (.num 0) (.num 0))))))) (.add (.add (.add (.mul (.add (.num 7) (.num 0)) (.add (.num 0) (.add (.num 0) (.add (.add (.add (.add (.add (.add (.add (.num 15) (.num 0)) (.num 0)) (.num 0)) (.num 0)) (.add (.add (.add (.add (.num 43) (.num 0)) (.num 0)) (.num 0)) (.num 0))) (.add (.add (.add (.add (.add (.num 29) (.num 0)) (.num 0)) (.num 0)) (.num 0)) (.num 0))) (.add (.add (.add (.add (.add (.add (.num 22) (.num 0)) (.num 0)) (.num 0)) (.num 0)) (.num 0)) (.add (.add (.add (.add (.add (.num 36) (.num 0)) (.num 0)) (.num 0)) (.num 0)) (.num 0))))))) (.mul (.add (.num 1000) (.num 6000)) (.add (.num 0) (.add (.num 0) (.num 0))))) (.add (.mul (.add (.num 1000) (.num 16)) (.add (.num 0) (.add (.num 0) (.num 0)))) (.mul (.add (.num 1000) (.num 288)) (.add (.num 0) (.add (.num 0) (.num 0)))))) (.add (.add (.mul (.add (.num 1000) (.num 288)) (.add (.num 0) (.add (.num 0) (.num 0)))) (.mul (.add (.num 1000) (.num 30)) (.add (.add (.add (.add (.add (.add (.num 1) (.num 257)) (.add (.num 17) (.num 4097))) (.add (.add (.num 5) (.num 1025)) (.add (.num 65) (.num 16385)))) (.add (.add (.add (.num 3) (.num 513)) (.add (.num 33) (.num 8193))) (.add (.add (.num 9) (.num 2049)) (.add (.num 129) (.num 0))))) (.add (.add (.add (.add (.num 2) (.num 385)) (.add (.num 25) (.num 6145))) (.add (.add (.num 7) (.num 1537)) (.add (.num 97) (.num 24577)))) (.add (.add (.add (.num 4) (.num 769)) (.add (.num 49) (.num 12289))) (.add (.add (.num 13) (.num 3073)) (.add (.num 193) (.num 0)))))) (.add (.num 0) (.num 0))))) (.add (.mul (.add (.num 1000) (.num 316)) (.add (.num 0) (.add (.num 0) (.num 0)))) (.mul (.add (.num 1002) (.num 1)) (.add (.num 0) (.add (.num 0) (.num 0)))))))))) (.add (.add (.add (.add (.add (.add (.mul (.add (.num 1) (.num 0)) (.add (.num 0) (.add (.num 0) (.add (.add (.add (.add (.add (.add (.add (.num 2) (.num 0)) (.num 0)) (.num 0)) (.num 0)) (.add (.add (.add (.add (.num 8) (.num 0)) (.num 0)) (.num 0)) (.num 0))) (.add (.add (.add (.add (.add (.num 6) (.num 0)) (.num 0)) (.num 0)) (.num 0)) (.add (.add (.add (.add (.num 52) (.num 0)) (.num 0)) (.num 0)) (.num 0)))) (.add (.add (.add (.add (.add (.add (.num 4) (.num 0)) (.num 0)) (.num 0)) (.num 0)) (.add (.add (.add (.add (.num 9) (.num 0)) (.num 0)) (.num 0)) (.num 0))) (.add (.add (.add (.add (.add (.num 7) (.num 0)) (.num 0)) (.num 0)) (.num 0)) (.add (.add (.add (.add (.num 69) (.num 0)) (.num 0)) (.num 0)) (.num 0)))))))) (.mul (.add (.num 1000) (.num 19)) (.add (.num 0) (.add (.num 0) (.num 0))))) (.add (.mul (.add (.num 1000) (.num 288)) (.add (.num 0) (.add (.num 0) (.num 0)))) (.mul (.add (.num 1000) (.num 288)) (.add (.num 0) (.add (.num 0) (.num 0)))))) (.add (.add (.mul (.add (.num 1000) (.num 288)) (.add (.add (.add (.add (.add (.add (.add (.add (.add (.add (.num 12) (.num 0)) (.add (.num 13) (.num 0))) (.add (.add (.num 14) (.num 0)) (.add (.num 7) (.num 0)))) (.add (.add (.add (.num 10) (.num 0)) (.add (.num 11) (.num 0))) (.add (.add (.num 9) (.num 0)) (.add (.num 15) (.num 0))))) (.add (.add (.add (.add (.num 2) (.num 4)) (.add (.num 19) (.num 0))) (.add (.add (.num 1) (.num 0)) (.add (.num 23) (.num 0)))) (.add (.add (.add (.num 6) (.num 0)) (.add (.num 27) (.num 0))) (.add (.add (.num 5) (.num 0)) (.add (.num 31) (.num 0)))))) (.add (.add (.add (.add (.add (.num 28) (.num 8)) (.add (.num 29) (.num 0))) (.add (.add (.num 30) (.num 0)) (.add (.num 39) (.num 0)))) (.add (.add (.add (.num 26) (.num 0)) (.add (.num 43) (.num 0))) (.add (.add (.num 25) (.num 0)) (.add (.num 47) (.num 0))))) (.add (.add (.add (.add (.num 18) (.num 3)) (.add (.num 51) (.num 0))) (.add (.add (.num 17) (.num 0)) (.add (.num 55) (.num 0)))) (.add (.add (.add (.num 22) (.num 0)) (.add (.num 59) (.num 0))) (.add (.add (.num 21) (.num 0)) (.add (.num 63) (.num 0))))))) (.add (.add (.add (.add (.add (.add (.num 44) (.num 16)) (.add (.num 45) (.num 0))) (.add (.add (.num 46) (.num 0)) (.add (.num 71) (.num 0)))) (.add (.add (.add (.num 42) (.num 0)) (.add (.num 75) (.num 0))) (.add (.add (.num 41) (.num 0)) (.add (.num 79) (.num 0))))) (.add (.add (.add (.add (.num 34) (.num 20)) (.add (.num 83) (.num 0))) (.add (.add (.num 33) (.num 0)) (.add (.num 87) (.num 0)))) (.add (.add (.add (.num 38) (.num 0)) (.add (.num 91) (.num 0))) (.add (.add (.num 37) (.num 0)) (.add (.num 95) (.num 0)))))) (.add (.add (.add (.add (.add (.num 60) (.num 24)) (.add (.num 61) (.num 0))) (.add (.add (.num 62) (.num 0)) (.add (.num 103) (.num 0)))) (.add (.add (.add (.num 58) (.num 0)) (.add (.num 107) (.num 0))) (.add (.add (.num 57) (.num 0)) (.add (.num 111) (.num 0))))) (.add (.add (.add (.add (.num 50) (.num 35)) (.add (.num 115) (.num 0))) (.add (.add (.num 49) (.num 0)) (.add (.num 119) (.num 0)))) (.add (.add (.add (.num 54) (.num 0)) (.add (.num 123) (.num 0))) (.add (.add (.num 53) (.num 0)) (.add (.num 127) (.num 0)))))))) (.add (.add (.add (.add (.add (.add (.add (.num 76) (.num 32)) (.add (.num 77) (.num 0))) (.add (.add (.num 78) (.num 0)) (.add (.num 135) (.num 0)))) (.add (.add (.add (.num 74) (.num 0)) (.add (.num 139) (.num 0))) (.add (.add (.num 73) (.num 0)) (.add (.num 143) (.num 0))))) (.add (.add (.add (.add (.num 66) (.num 36)) (.add (.num 147) (.num 0))) (.add (.add (.num 65) (.num 0)) (.add (.num 151) (.num 0)))) (.add (.add (.add (.num 70) (.num 0)) (.add (.num 155) (.num 0))) (.add (.add (.num 69) (.num 0)) (.add (.num 159) (.num 0)))))) (.add (.add (.add (.add (.add (.num 92) (.num 40)) (.add (.num 93) (.num 0))) (.add (.add (.num 94) (.num 0)) (.add (.num 167) (.num 0)))) (.add (.add (.add (.num 90) (.num 0)) (.add (.num 171) (.num 0))) (.add (.add (.num 89) (.num 0)) (.add (.num 175) (.num 0))))) (.add (.add (.add (.add (.num 82) (.num 67)) (.add (.num 179) (.num 0))) (.add (.add (.num 81) (.num 0)) (.add (.num 183) (.num 0)))) (.add (.add (.add (.num 86) (.num 0)) (.add (.num 187) (.num 0))) (.add (.add (.num 85) (.num 0)) (.add (.num 191) (.num 0))))))) (.add (.add (.add (.add (.add (.add (.num 108) (.num 48)) (.add (.num 109) (.num 0))) (.add (.add (.num 110) (.num 0)) (.add (.num 199) (.num 0)))) (.add (.add (.add (.num 106) (.num 0)) (.add (.num 203) (.num 0))) (.add (.add (.num 105) (.num 0)) (.add (.num 207) (.num 0))))) (.add (.add (.add (.add (.num 98) (.num 52)) (.add (.num 211) (.num 0))) (.add (.add (.num 97) (.num 0)) (.add (.num 215) (.num 0)))) (.add (.add (.add (.num 102) (.num 0)) (.add (.num 219) (.num 0))) (.add (.add (.num 101) (.num 0)) (.add (.num 223) (.num 0)))))) (.add (.add (.add (.add (.add (.num 124) (.num 56)) (.add (.num 125) (.num 0))) (.add (.add (.num 126) (.num 0)) (.add (.num 231) (.num 0)))) (.add (.add (.add (.num 122) (.num 0)) (.add (.num 235) (.num 0))) (.add (.add (.num 121) (.num 0)) (.add (.num 239) (.num 0))))) (.add (.add (.add (.add (.num 114) (.num 99)) (.add (.num 243) (.num 0))) (.add (.add (.num 113) (.num 0)) (.add (.num 247) (.num 0)))) (.add (.add (.add (.num 118) (.num 0)) (.add (.num 251) (.num 0))) (.add (.add (.num 117) (.num 0)) (.add (.num 255) (.num 0))))))))) (.add (.add (.add (.add (.add (.add (.add (.add (.num 140) (.num 64)) (.add (.num 141) (.num 0))) (.add (.add (.num 142) (.num 0)) (.add (.num 263) (.num 0)))) (.add (.add (.add (.num 138) (.num 0)) (.add (.num 267) (.num 0))) (.add (.add (.num 137) (.num 0)) (.add (.num 271) (.num 0))))) (.add (.add (.add (.add (.num 130) (.num 68)) (.add (.num 275) (.num 0))) (.add (.add (.num 129) (.num 0)) (.add (.num 279) (.num 0)))) (.add (.add (.add (.num 134) (.num 0)) (.add (.num 283) (.num 0))) (.add (.add (.num 133) (.num 0)) (.add (.num 287) (.num 0)))))) (.add (.add (.add (.add (.add (.num 156) (.num 72)) (.add (.num 157) (.num 0))) (.add (.add (.num 158) (.num 0)) (.add (.num 295) (.num 0)))) (.add (.add (.add (.num 154) (.num 0)) (.add (.num 299) (.num 0))) (.add (.add (.num 153) (.num 0)) (.add (.num 303) (.num 0))))) (.add (.add (.add (.add (.num 146) (.num 131)) (.add (.num 307) (.num 0))) (.add (.add (.num 145) (.num 0)) (.add (.num 311) (.num 0)))) (.add (.add (.add (.num 150) (.num 0)) (.add (.num 315) (.num 0))) (.add (.add (.num 149) (.num 0)) (.add (.num 319) (.num 0))))))) (.add (.add (.add (.add (.add (.add (.num 172) (.num 80)) (.add (.num 173) (.num 0))) (.add (.add (.num 174) (.num 0)) (.add (.num 327) (.num 0)))) (.add (.add (.add (.num 170) (.num 0)) (.add (.num 331) (.num 0))) (.add (.add (.num 169) (.num 0)) (.add (.num 335) (.num 0))))) (.add (.add (.add (.add (.num 162) (.num 84)) (.add (.num 339) (.num 0))) (.add (.add (.num 161) (.num 0)) (.add (.num 343) (.num 0)))) (.add (.add (.add (.num 166) (.num 0)) (.add (.num 347) (.num 0))) (.add (.add (.num 165) (.num 0)) (.add (.num 351) (.num 0)))))) (.add (.add (.add (.add (.add (.num 188) (.num 88)) (.add (.num 189) (.num 0))) (.add (.add (.num 190) (.num 0)) (.add (.num 359) (.num 0)))) (.add (.add (.add (.num 186) (.num 0)) (.add (.num 363) (.num 0))) (.add (.add (.num 185) (.num 0)) (.add (.num 367) (.num 0))))) (.add (.add (.add (.add (.num 178) (.num 163)) (.add (.num 371) (.num 0))) (.add (.add (.num 177) (.num 0)) (.add (.num 375) (.num 0)))) (.add (.add (.add (.num 182) (.num 0)) (.add (.num 379) (.num 0))) (.add (.add (.num 181) (.num 0)) (.add (.num 383) (.num 0)))))))) (.add (.add (.add (.add (.add (.add (.add (.num 204) (.num 96)) (.add (.num 205) (.num 0))) (.add (.add (.num 206) (.num 0)) (.add (.num 391) (.num 0)))) (.add (.add (.add (.num 202) (.num 0)) (.add (.num 395) (.num 0))) (.add (.add (.num 201) (.num 0)) (.add (.num 399) (.num 0))))) (.add (.add (.add (.add (.num 194) (.num 100)) (.add (.num 403) (.num 0))) (.add (.add (.num 193) (.num 0)) (.add (.num 407) (.num 0)))) (.add (.add (.add (.num 198) (.num 0)) (.add (.num 411) (.num 0))) (.add (.add (.num 197) (.num 0)) (.add (.num 415) (.num 0)))))) (.add (.add (.add (.add (.add (.num 220) (.num 104)) (.add (.num 221) (.num 0))) (.add (.add (.num 222) (.num 0)) (.add (.num 423) (.num 0)))) (.add (.add (.add (.num 218) (.num 0)) (.add (.num 427) (.num 0))) (.add (.add (.num 217) (.num 0)) (.add (.num 431) (.num 0))))) (.add (.add (.add (.add (.num 210) (.num 195)) (.add (.num 435) (.num 0))) (.add (.add (.num 209) (.num 0)) (.add (.num 439) (.num 0)))) (.add (.add (.add (.num 214) (.num 0)) (.add (.num 443) (.num 0))) (.add (.add (.num 213) (.num 0)) (.add (.num 447) (.num 0))))))) (.add (.add (.add (.add (.add (.add (.num 236) (.num 112)) (.add (.num 237) (.num 0))) (.add (.add (.num 238) (.num 0)) (.add (.num 455) (.num 0)))) (.add (.add (.add (.num 234) (.num 0)) (.add (.num 459) (.num 0))) (.add (.add (.num 233) (.num 0)) (.add (.num 463) (.num 0))))) (.add (.add (.add (.add (.num 226) (.num 116)) (.add (.num 467) (.num 0))) (.add (.add (.num 225) (.num 0)) (.add (.num 471) (.num 0)))) (.add (.add (.add (.num 230) (.num 0)) (.add (.num 475) (.num 0))) (.add (.add (.num 229) (.num 0)) (.add (.num 479) (.num 0)))))) (.add (.add (.add (.add (.add (.num 252) (.num 120)) (.add (.num 253) (.num 0))) (.add (.add (.num 254) (.num 0)) (.add (.num 487) (.num 0)))) (.add (.add (.add (.num 250) (.num 0)) (.add (.num 491) (.num 0))) (.add (.add (.num 249) (.num 0)) (.add (.num 495) (.num 0))))) (.add (.add (.add (.add (.num 242) (.num 227)) (.add (.num 499) (.num 0))) (.add (.add (.num 241) (.num 0)) (.add (.num 503) (.num 0)))) (.add (.add (.add (.num 246) (.num 0)) (.add (.num 507) (.num 0))) (.add (.add (.num 245) (.num 0)) (.add (.num 511) (.num 0)))))))))) (.add (.num 0) (.num 0)))) (.mul (.add (.num 1000) (.num 6000)) (.add (.num 0) (.add (.num 0) (.num 0))))) (.add (.mul (.add (.num 1000) (.num 16)) (.add (.num 0) (.add (.num 0) (.num 0)))) (.mul (.add (.num 1000) (.num 172800)) (.add (.num 0) (.add (.num 0) (.num 0))))))) (.add (.add (.add (.mul (.add (.num 8) (.num 0)) (.add (.num 0) (.add (.num 0) (.add (.add (.add (.add (.add (.add (.add (.num 10) (.num 0)) (.num 0)) (.num 0)) (.num 0)) (.num 0)) (.add (.add (.add (.add (.add (.num 12) (.num 0)) (.num 0)) (.num 0)) (.num 0)) (.num 0))) (.add (.add (.add (.add (.add (.add (.num 11) (.num 0)) (.num 0)) (.num 0)) (.num 0)) (.num 0)) (.add (.add (.add (.add (.add (.num 13) (.num 0)) (.num 0)) (.num 0)) (.num 0)) (.num 0))))))) (.mul (.add (.num 1003) (.num 6200)) (.add (.num 0) (.add (.num 0) (.num 0))))) (.add (.mul (.add (.num 1000) (.num 16)) (.add (.num 0) (.add (.num 0) (.num 0)))) (.mul (.add (.num 1000) (.num 19)) (.add (.num 0) (.add (.num 0) (.num 0)))))) (.add (.add (.mul (.add (.num 1000) (.num 16)) (.add (.add (.num 0) (.add (.add (.num 0) (.add (.add (.num 32) (.num 0)) (.num 0))) (.num 0))) (.add (.num 0) (.num 0)))) (.mul (.add (.num 1000) (.num 3456)) (.add (.num 0) (.add (.num 0) (.num 0))))) (.add (.mul (.add (.num 1000) (.num 3350)) (.add (.num 0) (.add (.num 0) (.num 0)))) (.mul (.add (.num 1000) (.num 32)) (.add (.num 0) (.add (.num 0) (.num 0)))))))) (.add (.add (.add (.add (.mul (.add (.num 1000) (.num 6100)) (.add (.num 0) (.add (.num 0) (.num 0)))) (.mul (.add (.num 13) (.num 0)) (.add (.add (.num 0) (.add (.num 0) (.add (.add (.add (.add (.add (.num 4294967295) (.num 0)) (.num 0)) (.num 0)) (.num 0)) (.num 0)))) (.add (.num 0) (.add (.add (.add (.add (.add (.add (.add (.num 50) (.num 0)) (.num 0)) (.num 0)) (.num 0)) (.add (.add (.add (.add (.num 14) (.num 0)) (.num 0)) (.num 0)) (.num 0))) (.num 0)) (.add (.add (.num 0) (.add (.add (.add (.add (.num 70) (.num 0)) (.num 0)) (.num 0)) (.num 0))) (.num 0))))))) (.add (.mul (.add (.num 1000) (.num 288)) (.add (.num 0) (.add (.num 0) (.num 0)))) (.mul (.add (.num 1000) (.num 30)) (.add (.num 0) (.add (.num 0) (.num 0)))))) (.add (.add (.mul (.add (.num 1000) (.num 16)) (.add (.add (.add (.add (.add (.num 0) (.add (.num 176) (.num 0))) (.add (.add (.num 0) (.num 0)) (.add (.num 288) (.num 0)))) (.add (.add (.add (.num 0) (.num 0)) (.add (.num 288) (.num 0))) (.add (.add (.num 0) (.num 0)) (.add (.num 288) (.num 0))))) (.add (.add (.add (.add (.num 0) (.num 0)) (.add (.num 288) (.num 0))) (.add (.add (.num 0) (.num 0)) (.add (.num 288) (.num 0)))) (.add (.add (.add (.num 0) (.num 0)) (.add (.num 288) (.num 0))) (.add (.add (.num 24) (.num 0)) (.add (.num 288) (.num 0)))))) (.add (.num 0) (.num 0)))) (.mul (.add (.num 1000) (.num 12)) (.add (.num 0) (.add (.num 0) (.num 0))))) (.add (.mul (.add (.num 11) (.num 0)) (.add (.num 0) (.add (.num 0) (.add (.add (.add (.add (.add (.add (.add (.num 54) (.num 0)) (.num 0)) (.num 0)) (.num 0)) (.num 0)) (.num 0)) (.num 0))))) (.mul (.add (.num 1000) (.num 330)) (.add (.num 0) (.add (.num 0) (.num 0))))))) (.add (.add (.add (.mul (.add (.num 1000) (.num 576)) (.add (.num 0) (.add (.num 0) (.num 0)))) (.mul (.add (.num 1000) (.num 6000)) (.add (.num 0) (.add (.num 0) (.num 0))))) (.add (.mul (.add (.num 1000) (.num 288)) (.add (.num 0) (.add (.num 0) (.num 0)))) (.mul (.add (.num 1000) (.num 30)) (.add (.num 0) (.add (.num 0) (.num 0)))))) (.add (.add (.mul (.add (.num 5) (.num 0)) (.add (.num 0) (.add (.num 0) (.add (.add (.add (.add (.add (.add (.add (.num 30) (.num 0)) (.num 0)) (.num 0)) (.num 0)) (.num 0)) (.add (.add (.add (.add (.add (.num 32) (.num 0)) (.num 0)) (.num 0)) (.num 0)) (.add (.add (.add (.add (.num 35) (.num 0)) (.num 0)) (.num 0)) (.num 0)))) (.add (.add (.add (.add (.add (.add (.num 31) (.num 0)) (.num 0)) (.num 0)) (.num 0)) (.add (.add (.add (.add (.num 34) (.num 0)) (.num 0)) (.num 0)) (.num 0))) (.add (.add (.add (.add (.add (.num 33) (.num 0)) (.num 0)) (.num 0)) (.num 0)) (.num 0))))))) (.mul (.add (.num 1000) (.num 29)) (.add (.add (.add (.add (.add (.add (.num 0) (.num 3)) (.add (.num 1) (.num 5))) (.add (.add (.num 0) (.num 4)) (.add (.num 2) (.num 0)))) (.add (.add (.add (.num 0) (.num 3)) (.add (.num 1) (.num 5))) (.add (.add (.num 0) (.num 4)) (.add (.num 2) (.num 0))))) (.add (.add (.add (.add (.num 0) (.num 3)) (.add (.num 1) (.num 5))) (.add (.add (.num 0) (.num 4)) (.add (.num 2) (.num 0)))) (.add (.add (.add (.num 0) (.num 3)) (.add (.num 1) (.num 5))) (.add (.add (.num 0) (.num 4)) (.add (.num 2) (.num 0)))))) (.add (.num 0) (.num 0))))) (.add (.mul (.add (.num 6) (.num 0)) (.add (.num 0) (.add (.num 0) (.add (.add (.add (.add (.add (.add (.add (.num 62) (.num 0)) (.num 0)) (.num 0)) (.num 0)) (.add (.add (.add (.add (.num 64) (.num 0)) (.num 0)) (.num 0)) (.num 0))) (.add (.num 0) (.add (.add (.add (.add (.num 65) (.num 0)) (.num 0)) (.num 0)) (.num 0)))) (.add (.num 0) (.add (.add (.add (.add (.add (.num 63) (.num 0)) (.num 0)) (.num 0)) (.num 0)) (.num 0))))))) (.mul (.add (.num 1000) (.num 64)) (.add (.num 0) (.add (.num 0) (.num 0))))))))) (.add (.add (.add (.add (.add (.mul (.add (.num 1000) (.num 6100)) (.add (.num 0) (.add (.num 0) (.num 0)))) (.mul (.add (.num 1000) (.num 30)) (.add (.num 0) (.add (.num 0) (.num 0))))) (.add (.mul (.add (.num 1000) (.num 16)) (.add (.num 0) (.add (.num 0) (.num 0)))) (.mul (.add (.num 1000) (.num 19)) (.add (.num 0) (.add (.num 0) (.num 0)))))) (.add (.add (.mul (.add (.num 1000) (.num 288)) (.add (.add (.add (.add (.add (.add (.add (.add (.add (.add (.num 256) (.num 224)) (.add (.num 104) (.num 0))) (.add (.add (.num 40) (.num 0)) (.add (.num 160) (.num 0)))) (.add (.add (.add (.num 8) (.num 0)) (.add (.num 136) (.num 0))) (.add (.add (.num 72) (.num 0)) (.add (.num 192) (.num 0))))) (.add (.add (.add (.add (.num 272) (.num 240)) (.add (.num 120) (.num 0))) (.add (.add (.num 56) (.num 0)) (.add (.num 176) (.num 0)))) (.add (.add (.add (.num 24) (.num 0)) (.add (.num 144) (.num 0))) (.add (.add (.num 88) (.num 0)) (.add (.num 208) (.num 0)))))) (.add (.add (.add (.add (.add (.num 264) (.num 232)) (.add (.num 112) (.num 0))) (.add (.add (.num 48) (.num 0)) (.add (.num 168) (.num 0)))) (.add (.add (.add (.num 16) (.num 0)) (.add (.num 280) (.num 0))) (.add (.add (.num 80) (.num 0)) (.add (.num 200) (.num 0))))) (.add (.add (.add (.add (.num 0) (.num 248)) (.add (.num 128) (.num 0))) (.add (.add (.num 64) (.num 0)) (.add (.num 184) (.num 0)))) (.add (.add (.add (.num 32) (.num 0)) (.add (.num 152) (.num 0))) (.add (.add (.num 96) (.num 0)) (.add (.num 216) (.num 0))))))) (.add (.add (.add (.add (.add (.add (.num 260) (.num 228)) (.add (.num 108) (.num 0))) (.add (.add (.num 44) (.num 0)) (.add (.num 164) (.num 0)))) (.add (.add (.add (.num 12) (.num 0)) (.add (.num 140) (.num 0))) (.add (.add (.num 76) (.num 0)) (.add (.num 196) (.num 0))))) (.add (.add (.add (.add (.num 276) (.num 244)) (.add (.num 124) (.num 0))) (.add (.add (.num 60) (.num 0)) (.add (.num 180) (.num 0)))) (.add (.add (.add (.num 28) (.num 0)) (.add (.num 148) (.num 0))) (.add (.add (.num 92) (.num 0)) (.add (.num 212) (.num 0)))))) (.add (.add (.add (.add (.add (.num 268) (.num 236)) (.add (.num 116) (.num 0))) (.add (.add (.num 52) (.num 0)) (.add (.num 172) (.num 0)))) (.add (.add (.add (.num 20) (.num 0)) (.add (.num 284) (.num 0))) (.add (.add (.num 84) (.num 0)) (.add (.num 204) (.num 0))))) (.add (.add (.add (.add (.num 4) (.num 252)) (.add (.num 132) (.num 0))) (.add (.add (.num 68) (.num 0)) (.add (.num 188) (.num 0)))) (.add (.add (.add (.num 36) (.num 0)) (.add (.num 156) (.num 0))) (.add (.add (.num 100) (.num 0)) (.add (.num 220) (.num 0)))))))) (.add (.add (.add (.add (.add (.add (.add (.num 258) (.num 226)) (.add (.num 106) (.num 0))) (.add (.add (.num 42) (.num 0)) (.add (.num 162) (.num 0)))) (.add (.add (.add (.num 10) (.num 0)) (.add (.num 138) (.num 0))) (.add (.add (.num 74) (.num 0)) (.add (.num 194) (.num 0))))) (.add (.add (.add (.add (.num 274) (.num 242)) (.add (.num 122) (.num 0))) (.add (.add (.num 58) (.num 0)) (.add (.num 178) (.num 0)))) (.add (.add (.add (.num 26) (.num 0)) (.add (.num 146) (.num 0))) (.add (.add (.num 90) (.num 0)) (.add (.num 210) (.num 0)))))) (.add (.add (.add (.add (.add (.num 266) (.num 234)) (.add (.num 114) (.num 0))) (.add (.add (.num 50) (.num 0)) (.add (.num 170) (.num 0)))) (.add (.add (.add (.num 18) (.num 0)) (.add (.num 282) (.num 0))) (.add (.add (.num 82) (.num 0)) (.add (.num 202) (.num 0))))) (.add (.add (.add (.add (.num 2) (.num 250)) (.add (.num 130) (.num 0))) (.add (.add (.num 66) (.num 0)) (.add (.num 186) (.num 0)))) (.add (.add (.add (.num 34) (.num 0)) (.add (.num 154) (.num 0))) (.add (.add (.num 98) (.num 0)) (.add (.num 218) (.num 0))))))) (.add (.add (.add (.add (.add (.add (.num 262) (.num 230)) (.add (.num 110) (.num 0))) (.add (.add (.num 46) (.num 0)) (.add (.num 166) (.num 0)))) (.add (.add (.add (.num 14) (.num 0)) (.add (.num 142) (.num 0))) (.add (.add (.num 78) (.num 0)) (.add (.num 198) (.num 0))))) (.add (.add (.add (.add (.num 278) (.num 246)) (.add (.num 126) (.num 0))) (.add (.add (.num 62) (.num 0)) (.add (.num 182) (.num 0)))) (.add (.add (.add (.num 30) (.num 0)) (.add (.num 150) (.num 0))) (.add (.add (.num 94) (.num 0)) (.add (.num 214) (.num 0)))))) (.add (.add (.add (.add (.add (.num 270) (.num 238)) (.add (.num 118) (.num 0))) (.add (.add (.num 54) (.num 0)) (.add (.num 174) (.num 0)))) (.add (.add (.add (.num 22) (.num 0)) (.add (.num 286) (.num 0))) (.add (.add (.num 86) (.num 0)) (.add (.num 206) (.num 0))))) (.add (.add (.add (.add (.num 6) (.num 254)) (.add (.num 134) (.num 0))) (.add (.add (.num 70) (.num 0)) (.add (.num 190) (.num 0)))) (.add (.add (.add (.num 38) (.num 0)) (.add (.num 158) (.num 0))) (.add (.add (.num 102) (.num 0)) (.add (.num 222) (.num 0))))))))) (.add (.add (.add (.add (.add (.add (.add (.add (.num 257) (.num 225)) (.add (.num 105) (.num 0))) (.add (.add (.num 41) (.num 0)) (.add (.num 161) (.num 0)))) (.add (.add (.add (.num 9) (.num 0)) (.add (.num 137) (.num 0))) (.add (.add (.num 73) (.num 0)) (.add (.num 193) (.num 0))))) (.add (.add (.add (.add (.num 273) (.num 241)) (.add (.num 121) (.num 0))) (.add (.add (.num 57) (.num 0)) (.add (.num 177) (.num 0)))) (.add (.add (.add (.num 25) (.num 0)) (.add (.num 145) (.num 0))) (.add (.add (.num 89) (.num 0)) (.add (.num 209) (.num 0)))))) (.add (.add (.add (.add (.add (.num 265) (.num 233)) (.add (.num 113) (.num 0))) (.add (.add (.num 49) (.num 0)) (.add (.num 169) (.num 0)))) (.add (.add (.add (.num 17) (.num 0)) (.add (.num 281) (.num 0))) (.add (.add (.num 81) (.num 0)) (.add (.num 201) (.num 0))))) (.add (.add (.add (.add (.num 1) (.num 249)) (.add (.num 129) (.num 0))) (.add (.add (.num 65) (.num 0)) (.add (.num 185) (.num 0)))) (.add (.add (.add (.num 33) (.num 0)) (.add (.num 153) (.num 0))) (.add (.add (.num 97) (.num 0)) (.add (.num 217) (.num 0))))))) (.add (.add (.add (.add (.add (.add (.num 261) (.num 229)) (.add (.num 109) (.num 0))) (.add (.add (.num 45) (.num 0)) (.add (.num 165) (.num 0)))) (.add (.add (.add (.num 13) (.num 0)) (.add (.num 141) (.num 0))) (.add (.add (.num 77) (.num 0)) (.add (.num 197) (.num 0))))) (.add (.add (.add (.add (.num 277) (.num 245)) (.add (.num 125) (.num 0))) (.add (.add (.num 61) (.num 0)) (.add (.num 181) (.num 0)))) (.add (.add (.add (.num 29) (.num 0)) (.add (.num 149) (.num 0))) (.add (.add (.num 93) (.num 0)) (.add (.num 213) (.num 0)))))) (.add (.add (.add (.add (.add (.num 269) (.num 237)) (.add (.num 117) (.num 0))) (.add (.add (.num 53) (.num 0)) (.add (.num 173) (.num 0)))) (.add (.add (.add (.num 21) (.num 0)) (.add (.num 285) (.num 0))) (.add (.add (.num 85) (.num 0)) (.add (.num 205) (.num 0))))) (.add (.add (.add (.add (.num 5) (.num 253)) (.add (.num 133) (.num 0))) (.add (.add (.num 69) (.num 0)) (.add (.num 189) (.num 0)))) (.add (.add (.add (.num 37) (.num 0)) (.add (.num 157) (.num 0))) (.add (.add (.num 101) (.num 0)) (.add (.num 221) (.num 0)))))))) (.add (.add (.add (.add (.add (.add (.add (.num 259) (.num 227)) (.add (.num 107) (.num 0))) (.add (.add (.num 43) (.num 0)) (.add (.num 163) (.num 0)))) (.add (.add (.add (.num 11) (.num 0)) (.add (.num 139) (.num 0))) (.add (.add (.num 75) (.num 0)) (.add (.num 195) (.num 0))))) (.add (.add (.add (.add (.num 275) (.num 243)) (.add (.num 123) (.num 0))) (.add (.add (.num 59) (.num 0)) (.add (.num 179) (.num 0)))) (.add (.add (.add (.num 27) (.num 0)) (.add (.num 147) (.num 0))) (.add (.add (.num 91) (.num 0)) (.add (.num 211) (.num 0)))))) (.add (.add (.add (.add (.add (.num 267) (.num 235)) (.add (.num 115) (.num 0))) (.add (.add (.num 51) (.num 0)) (.add (.num 171) (.num 0)))) (.add (.add (.add (.num 19) (.num 0)) (.add (.num 283) (.num 0))) (.add (.add (.num 83) (.num 0)) (.add (.num 203) (.num 0))))) (.add (.add (.add (.add (.num 3) (.num 251)) (.add (.num 131) (.num 0))) (.add (.add (.num 67) (.num 0)) (.add (.num 187) (.num 0)))) (.add (.add (.add (.num 35) (.num 0)) (.add (.num 155) (.num 0))) (.add (.add (.num 99) (.num 0)) (.add (.num 219) (.num 0))))))) (.add (.add (.add (.add (.add (.add (.num 263) (.num 231)) (.add (.num 111) (.num 0))) (.add (.add (.num 47) (.num 0)) (.add (.num 167) (.num 0)))) (.add (.add (.add (.num 15) (.num 0)) (.add (.num 143) (.num 0))) (.add (.add (.num 79) (.num 0)) (.add (.num 199) (.num 0))))) (.add (.add (.add (.add (.num 279) (.num 247)) (.add (.num 127) (.num 0))) (.add (.add (.num 63) (.num 0)) (.add (.num 183) (.num 0)))) (.add (.add (.add (.num 31) (.num 0)) (.add (.num 151) (.num 0))) (.add (.add (.num 95) (.num 0)) (.add (.num 215) (.num 0)))))) (.add (.add (.add (.add (.add (.num 271) (.num 239)) (.add (.num 119) (.num 0))) (.add (.add (.num 55) (.num 0)) (.add (.num 175) (.num 0)))) (.add (.add (.add (.num 23) (.num 0)) (.add (.num 287) (.num 0))) (.add (.add (.num 87) (.num 0)) (.add (.num 207) (.num 0))))) (.add (.add (.add (.add (.num 7) (.num 255)) (.add (.num 135) (.num 0))) (.add (.add (.num 71) (.num 0)) (.add (.num 191) (.num 0)))) (.add (.add (.add (.num 39) (.num 0)) (.add (.num 159) (.num 0))) (.add (.add (.num 103) (.num 0)) (.add (.num 223) (.num 0)))))))))) (.add (.num 0) (.num 0)))) (.mul (.add (.num 1000) (.num 12)) (.add (.num 0) (.add (.num 0) (.num 0))))) (.add (.mul (.add (.num 1000) (.num 6100)) (.add (.num 0) (.add (.num 0) (.num 0)))) (.mul (.add (.num 1000) (.num 17)) (.add (.num 0) (.add (.num 0) (.num 0))))))) (.add (.add (.add (.mul (.add (.num 1002) (.num 576)) (.add (.num 0) (.add (.num 0) (.num 0)))) (.mul (.add (.num 1003) (.num 8000)) (.add (.num 0) (.add (.num 0) (.num 0))))) (.add (.mul (.add (.num 5) (.num 0)) (.add (.num 0) (.add (.num 0) (.add (.add (.add (.add (.add (.add (.add (.num 44) (.num 0)) (.num 0)) (.num 0)) (.num 0)) (.num 0)) (.add (.add (.add (.add (.add (.num 46) (.num 0)) (.num 0)) (.num 0)) (.num 0)) (.add (.add (.add (.add (.num 49) (.num 0)) (.num 0)) (.num 0)) (.num 0)))) (.add (.add (.add (.add (.add (.add (.num 45) (.num 0)) (.num 0)) (.num 0)) (.num 0)) (.add (.add (.add (.add (.num 48) (.num 0)) (.num 0)) (.num 0)) (.num 0))) (.add (.add (.add (.add (.add (.num 47) (.num 0)) (.num 0)) (.num 0)) (.num 0)) (.num 0))))))) (.mul (.add (.num 1000) (.num 288)) (.add (.num 0) (.add (.num 0) (.num 0)))))) (.add (.add (.mul (.add (.num 1000) (.num 16)) (.add (.add (.add (.add (.add (.num 0) (.add (.num 256) (.num 0))) (.add (.add (.num 0) (.num 0)) (.add (.num 4096) (.num 0)))) (.add (.add (.add (.num 0) (.num 0)) (.add (.num 1024) (.num 0))) (.add (.add (.num 64) (.num 0)) (.add (.num 16384) (.num 0))))) (.add (.add (.add (.add (.num 0) (.num 0)) (.add (.num 512) (.num 0))) (.add (.add (.num 32) (.num 0)) (.add (.num 8192) (.num 0)))) (.add (.add (.add (.num 0) (.num 0)) (.add (.num 2048) (.num 0))) (.add (.add (.num 128) (.num 0)) (.add (.num 32768) (.num 0)))))) (.add (.num 0) (.num 0)))) (.mul (.add (.num 1000) (.num 228)) (.add (.num 0) (.add (.num 0) (.num 0))))) (.add (.mul (.add (.num 1000) (.num 4096)) (.add (.num 0) (.add (.num 0) (.num 0)))) (.mul (.add (.num 1000) (.num 330)) (.add (.num 0) (.add (.num 0) (.num 0)))))))) (.add (.add (.add (.add (.mul (.add (.num 1000) (.num 64)) (.add (.num 0) (.add (.num 0) (.num 0)))) (.mul (.add (.num 2) (.num 0)) (.add (.add (.num 0) (.add (.num 0) (.add (.num 0) (.add (.num 0) (.add (.num 0) (.add (.num 0) (.add (.num 4294967295) (.num 0)))))))) (.add (.num 0) (.add (.add (.add (.add (.add (.add (.add (.num 0) (.num 120)) (.add (.num 96) (.num 0))) (.add (.num 0) (.add (.num 112) (.num 0)))) (.add (.add (.add (.num 77) (.num 0)) (.add (.num 104) (.num 0))) (.add (.add (.num 88) (.num 0)) (.num 0)))) (.add (.add (.add (.add (.num 75) (.num 124)) (.add (.num 100) (.num 0))) (.add (.add (.num 84) (.num 0)) (.add (.num 116) (.num 0)))) (.add (.add (.add (.num 81) (.num 0)) (.add (.num 108) (.num 0))) (.add (.add (.num 92) (.num 0)) (.num 0))))) (.add (.add (.add (.add (.add (.num 73) (.num 122)) (.add (.num 98) (.num 0))) (.add (.num 0) (.add (.num 114) (.num 0)))) (.add (.add (.add (.num 79) (.num 0)) (.add (.num 106) (.num 0))) (.add (.add (.num 90) (.num 0)) (.num 0)))) (.add (.add (.add (.num 0) (.add (.num 102) (.num 0))) (.add (.add (.num 86) (.num 0)) (.add (.num 118) (.num 0)))) (.add (.add (.num 0) (.add (.num 110) (.num 0))) (.add (.add (.num 94) (.num 0)) (.num 0)))))) (.add (.add (.add (.add (.add (.add (.num 72) (.num 121)) (.add (.num 97) (.num 0))) (.add (.num 0) (.add (.num 113) (.num 0)))) (.add (.add (.add (.num 78) (.num 0)) (.add (.num 105) (.num 0))) (.add (.add (.num 89) (.num 0)) (.num 0)))) (.add (.add (.add (.add (.num 76) (.num 125)) (.add (.num 101) (.num 0))) (.add (.add (.num 85) (.num 0)) (.add (.num 117) (.num 0)))) (.add (.add (.add (.num 82) (.num 0)) (.add (.num 109) (.num 0))) (.add (.add (.num 93) (.num 0)) (.num 0))))) (.add (.add (.add (.add (.add (.num 74) (.num 123)) (.add (.num 99) (.num 0))) (.add (.add (.num 83) (.num 0)) (.add (.num 115) (.num 0)))) (.add (.add (.add (.num 80) (.num 0)) (.add (.num 107) (.num 0))) (.add (.add (.num 91) (.num 0)) (.num 0)))) (.add (.add (.add (.num 0) (.add (.num 103) (.num 0))) (.add (.add (.num 87) (.num 0)) (.add (.num 119) (.num 0)))) (.add (.add (.num 0) (.add (.num 111) (.num 0))) (.add (.add (.num 95) (.num 0)) (.num 0))))))))))) (.add (.mul (.add (.num 1000) (.num 16)) (.add (.num 0) (.add (.num 0) (.num 0)))) (.mul (.add (.num 1000) (.num 288)) (.add (.num 0) (.add (.num 0) (.num 0)))))) (.add (.add (.mul (.add (.num 1000) (.num 288)) (.add (.add (.add (.add (.add (.add (.add (.add (.add (.add (.num 5) (.num 0)) (.num 0)) (.num 0)) (.num 0)) (.add (.add (.add (.add (.num 5) (.num 0)) (.num 0)) (.num 0)) (.num 0))) (.add (.add (.add (.add (.add (.num 5) (.num 0)) (.num 0)) (.num 0)) (.num 0)) (.add (.add (.add (.add (.num 5) (.num 0)) (.num 0)) (.num 0)) (.num 0)))) (.add (.add (.add (.add (.add (.add (.num 5) (.num 0)) (.num 0)) (.num 0)) (.num 0)) (.add (.add (.add (.add (.num 5) (.num 0)) (.num 0)) (.num 0)) (.num 0))) (.add (.add (.add (.add (.add (.num 5) (.num 0)) (.num 0)) (.num 0)) (.num 0)) (.add (.add (.add (.add (.num 5) (.num 0)) (.num 0)) (.num 0)) (.num 0))))) (.add (.add (.add (.add (.add (.add (.add (.num 5) (.num 0)) (.num 0)) (.num 0)) (.num 0)) (.add (.add (.add (.add (.num 5) (.num 0)) (.num 0)) (.num 0)) (.num 0))) (.add (.add (.add (.add (.add (.num 5) (.num 0)) (.num 0)) (.num 0)) (.num 0)) (.add (.add (.add (.add (.num 5) (.num 0)) (.num 0)) (.num 0)) (.num 0)))) (.add (.add (.add (.add (.add (.add (.num 5) (.num 0)) (.num 0)) (.num 0)) (.num 0)) (.add (.add (.add (.add (.num 5) (.num 0)) (.num 0)) (.num 0)) (.num 0))) (.add (.add (.add (.add (.add (.num 5) (.num 0)) (.num 0)) (.num 0)) (.num 0)) (.add (.add (.add (.add (.num 5) (.num 0)) (.num 0)) (.num 0)) (.num 0)))))) (.add (.add (.add (.add (.add (.add (.add (.add (.num 5) (.num 0)) (.num 0)) (.num 0)) (.num 0)) (.add (.add (.add (.add (.num 5) (.num 0)) (.num 0)) (.num 0)) (.num 0))) (.add (.add (.add (.add (.add (.num 5) (.num 0)) (.num 0)) (.num 0)) (.num 0)) (.add (.add (.add (.add (.num 5) (.num 0)) (.num 0)) (.num 0)) (.num 0)))) (.add (.add (.add (.add (.add (.add (.num 5) (.num 0)) (.num 0)) (.num 0)) (.num 0)) (.add (.add (.add (.add (.num 5) (.num 0)) (.num 0)) (.num 0)) (.num 0))) (.add (.add (.add (.add (.add (.num 5) (.num 0)) (.num 0)) (.num 0)) (.num 0)) (.add (.add (.add (.add (.num 5) (.num 0)) (.num 0)) (.num 0)) (.num 0))))) (.add (.add (.add (.add (.add (.add (.add (.num 5) (.num 0)) (.num 0)) (.num 0)) (.num 0)) (.add (.add (.add (.add (.num 5) (.num 0)) (.num 0)) (.num 0)) (.num 0))) (.add (.add (.add (.add (.add (.num 5) (.num 0)) (.num 0)) (.num 0)) (.num 0)) (.add (.add (.add (.add (.num 5) (.num 0)) (.num 0)) (.num 0)) (.num 0)))) (.add (.add (.add (.add (.add (.add (.num 5) (.num 0)) (.num 0)) (.num 0)) (.num 0)) (.add (.add (.add (.add (.num 5) (.num 0)) (.num 0)) (.num 0)) (.num 0))) (.add (.add (.add (.add (.add (.num 5) (.num 0)) (.num 0)) (.num 0)) (.num 0)) (.add (.add (.add (.add (.num 5) (.num 0)) (.num 0)) (.num 0)) (.num 0))))))) (.add (.num 0) (.num 0)))) (.mul (.add (.num 1000) (.num 12)) (.add (.num 0) (.add (.num 0) (.num 0))))) (.add (.mul (.add (.num 4) (.num 0)) (.add (.num 0) (.add (.num 0) (.add (.add (.add (.add (.add (.add (.add (.num 56) (.num 0)) (.num 0)) (.num 0)) (.num 0)) (.num 0)) (.num 0)) (.add (.add (.add (.add (.add (.add (.num 57) (.num 0)) (.num 0)) (.num 0)) (.num 0)) (.num 0)) (.num 0)))))) (.mul (.add (.num 1000) (.num 330)) (.add (.num 0) (.add (.num 0) (.num 0))))))) (.add (.add (.add (.mul (.add (.num 5) (.num 0)) (.add (.add (.add (.add (.num 0) (.add (.add (.add (.add (.num 288) (.num 0)) (.num 0)) (.num 0)) (.num 0))) (.num 0)) (.num 0)) (.add (.num 0) (.add (.add (.add (.add (.add (.add (.add (.num 16) (.num 0)) (.num 0)) (.num 0)) (.num 0)) (.num 0)) (.add (.add (.add (.add (.add (.num 18) (.num 0)) (.num 0)) (.num 0)) (.num 0)) (.add (.add (.add (.add (.num 21) (.num 0)) (.num 0)) (.num 0)) (.num 0)))) (.add (.add (.add (.add (.add (.add (.num 17) (.num 0)) (.num 0)) (.num 0)) (.num 0)) (.add (.add (.add (.add (.num 20) (.num 0)) (.num 0)) (.num 0)) (.num 0))) (.add (.add (.add (.add (.add (.num 19) (.num 0)) (.num 0)) (.num 0)) (.num 0)) (.num 0))))))) (.mul (.add (.num 1000) (.num 6000)) (.add (.num 0) (.add (.num 0) (.num 0))))) (.add (.mul (.add (.num 1000) (.num 288)) (.add (.num 0) (.add (.num 0) (.num 0)))) (.mul (.add (.num 1000) (.num 600)) (.add (.num 0) (.add (.num 0) (.num 0)))))) (.add (.add (.mul (.add (.num 1000) (.num 288)) (.add (.num 0) (.add (.num 0) (.num 0)))) (.mul (.add (.num 1000) (.num 30)) (.add (.add (.add (.add (.add (.add (.num 0) (.num 7)) (.add (.num 3) (.num 11))) (.add (.add (.num 1) (.num 9)) (.add (.num 5) (.num 13)))) (.add (.add (.add (.num 0) (.num 8)) (.add (.num 4) (.num 12))) (.add (.add (.num 2) (.num 10)) (.add (.num 6) (.num 0))))) (.add (.add (.add (.add (.num 0) (.num 7)) (.add (.num 3) (.num 11))) (.add (.add (.num 1) (.num 9)) (.add (.num 5) (.num 13)))) (.add (.add (.add (.num 0) (.num 8)) (.add (.num 4) (.num 12))) (.add (.add (.num 2) (.num 10)) (.add (.num 6) (.num 0)))))) (.add (.num 0) (.num 0))))) (.add (.mul (.add (.num 1000) (.num 316)) (.add (.num 0) (.add (.num 0) (.num 0)))) (.num 0)))))))))
end
section
/-! closed runs: both constructors -/
noncomputable def ev_xb (a : ev_X) : ev_X → Bool := Nat.Internal.SOM.Expr.rec (motive := fun _ => ev_X → Bool) (fun n b => match b with
  | .num m => Nat.beq n m
  | _ => false) (fun n b => match b with
  | .var m => Nat.beq n m
  | _ => false) (fun _ _ il ir b => match b with
  | .add c d => and (il c) (ir d)
  | _ => false) (fun _ _ il ir b => match b with
  | .mul c d => and (il c) (ir d)
  | _ => false) a
theorem ev_xb_eq : ∀ (a b : ev_X), ev_xb a b = true → a = b := by
  intro a
  induction a with
  | num n => intro b h; cases b <;> first | (cases h; done) | exact congrArg _ (Nat.eq_of_beq_eq_true h)
  | var n => intro b h; cases b <;> first | (cases h; done) | exact congrArg _ (Nat.eq_of_beq_eq_true h)
  | add l r il ir => intro b h; cases b <;> first | (cases h; done) | (obtain ⟨h1, h2⟩ := ev_and h; rw [il _ h1, ir _ h2])
  | mul l r il ir => intro b h; cases b <;> first | (cases h; done) | (obtain ⟨h1, h2⟩ := ev_and h; rw [il _ h1, ir _ h2])
/-- a run ends with nothing, in this heap -/
noncomputable def ev_vb (r : ev_R) (S : ev_S) : Bool := match r with
  | some (.inl none, (n, u, t)) => and (Nat.beq n S.1) (and (Nat.beq u S.2.1) (ev_xb t S.2.2))
  | _ => false
theorem ev_vb_eq {r : ev_R} {S : ev_S} (h : ev_vb r S = true) : r = some (.inl none, S) := by
  unfold ev_vb at h
  split at h
  · obtain ⟨h1, h2⟩ := ev_and h
    obtain ⟨h2, h3⟩ := ev_and h2
    obtain ⟨n, u, t⟩ := S
    rw [Nat.eq_of_beq_eq_true h1, Nat.eq_of_beq_eq_true h2, ev_xb_eq _ _ h3]
  · cases h
noncomputable abbrev ev_rn (sc : List ev_X) (n d mi : Nat) : ev_N := ev_run kz ev_M0 n d mi (kz mi).1 (kz mi).2 sc
noncomputable def ev_nwS (tag len sl : Nat) (S : ev_S) : ev_S := (Nat.succ S.1, Nat.add S.2.1 sl, ev_ps 7 S.2.2 (Nat.succ S.1) (.mul (.add (.num tag) (.num len)) (.add (.num 0) (.add (.num 0) (.num 0)))))
theorem ev_use {sc : List ev_X} {E : Nat → Nat × (Nat → Int32)} (hsc : ev_scr sc E) {n d mi : Nat} {ls : ev_L} {S : ev_S} {r : (Option ev_X ⊕ Nat) × ev_S} (H : ev_rn sc n d mi ls [] S = some r) {ls' : List (Option Value)} {h : ez_H} {Q : ez_Q} (hl : ev_gl ls ls') (hr : ev_rel S h) (hQ : ∀ o h', ev_go r.1 o → ev_rel r.2 h' → Q o h') : ez_Wp E tz_ml tz_hn tz_co d mi 0 ls' [] h Q := by
  have H : ev_run kz ev_M0 n d mi (kz mi).1 (kz mi).2 sc ls [] S = some r := H
  rw [(kz_ko mi).1] at H
  have body := ev_sound (ev_M0_ok _) hsc kz_ko n d mi (tz_co mi) ⟨[], rfl⟩ ls [] S r ls' [] h Q H hl trivial hr hQ
  apply ez_Wp_in
  cases hco : tz_co mi with
  | nil => rw [hco] at body; exact body
  | cons e0 r0 =>
    have := (kz_ko mi).2.2.2 _ _ hco
    rw [hco] at body
    refine gw_skip _ ?_
    unfold ev_skip
    simp only [this, ↓reduceIte]
    exact body
end
