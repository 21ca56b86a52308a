/-! THE EVALUATOR IS RIGHT -/
def ev_skip (t : Nat) : List ez_C → List ez_C
  | [] => []
  | e :: r => if e.1 = t then e :: r else ev_skip t r
theorem ev_past_ne {t pc : Nat} (h : ¬ pc = t) : ez_past (t + 1) pc = true := by
  unfold ez_past
  rw [ev_beq, ev_beq]
  have : ¬ t = pc := fun e => h e.symm
  simp [this]
theorem ev_past_eq {t : Nat} : ez_past (t + 1) t = false := by
  unfold ez_past
  rw [ev_beq, ev_beq]
  simp
theorem gw_skip {X : ez_X} {E : Nat → Nat × (Nat → Int32)} {ml : Nat → Nat} {hn : Nat → Nat → Option (Nat × Nat)} {mi d t : Nat} {ls : List (Option Value)} {st : List Value} {h : ez_H} {Q : ez_Q} : ∀ cs : List ez_C, ez_gw X E ml hn mi d (ev_skip t cs) 0 ls st h Q → ez_gw X E ml hn mi d cs (t + 1) ls st h Q := by
  intro cs
  induction cs with
  | nil => exact id
  | cons e r ih =>
    intro H
    obtain ⟨pc, i, a, b, k, v⟩ := e
    unfold ev_skip at H
    by_cases he : pc = t
    · subst he
      simp only [↓reduceIte] at H
      unfold ez_gw at H ⊢
      simp only [show ez_past 0 pc = false from rfl] at H
      simp only [ev_past_eq]
      exact H
    · simp only [he, ↓reduceIte] at H
      unfold ez_gw
      simp only [ev_past_ne he]
      exact ih H
/-- places rise -/
def ev_srt : List ez_C → Bool
  | [] => true
  | e :: r => (match r with
    | [] => true
    | e' :: _ => Nat.blt e.1 e'.1) && ev_srt r
theorem ev_srt_lt : ∀ {cs : List ez_C} {e : ez_C}, ev_srt (e :: cs) = true → ∀ q ∈ cs, e.1 < q.1
  | [], _, _, q, hq => absurd hq List.not_mem_nil
  | e' :: r, e, h, q, hq => by
    unfold ev_srt at h
    obtain ⟨h1, h2⟩ := ev_and h
    have h1 := Nat.blt_eq.mp h1
    rcases List.mem_cons.mp hq with rfl | hq
    · exact h1
    · exact Nat.lt_trans h1 (ev_srt_lt h2 q hq)
theorem ev_srt_tl {cs : List ez_C} {e : ez_C} (h : ev_srt (e :: cs) = true) : ev_srt cs = true := by
  unfold ev_srt at h
  exact (ev_and h).2
theorem ev_skip_suf : ∀ (pre : List ez_C) {e : ez_C} {cs : List ez_C} {t : Nat}, ev_srt (pre ++ e :: cs) = true → e.1 < t → ev_skip t (pre ++ e :: cs) = ev_skip t cs
  | [], e, cs, t, _, ht => by
    show (if e.1 = t then _ else _) = _
    have : ¬ e.1 = t := by omega
    simp only [this, ↓reduceIte]
  | p :: pre, e, cs, t, h, ht => by
    show (if p.1 = t then _ else ev_skip t (pre ++ e :: cs)) = _
    have := ev_srt_lt h e (List.mem_append_right _ List.mem_cons_self)
    have : ¬ p.1 = t := by omega
    simp only [this, ↓reduceIte]
    exact ev_skip_suf pre (ev_srt_tl h) ht
theorem ev_skip_is : ∀ (cs : List ez_C) (t : Nat), ∃ pre, cs = pre ++ ev_skip t cs
  | [], _ => ⟨[], rfl⟩
  | e :: r, t => by
    unfold ev_skip
    by_cases h : e.1 = t
    · simp only [h, ↓reduceIte]; exact ⟨[], rfl⟩
    · simp only [h, ↓reduceIte]
      obtain ⟨pre, hp⟩ := ev_skip_is r t
      exact ⟨e :: pre, by rw [List.cons_append, ← hp]⟩
/-- the evaluator's tables are the program's -/
def ev_KO (CO : Nat → ev_U × List ev_K) : Prop := ∀ mi, (CO mi).2 = (tz_co mi).map ev_tr ∧ (∀ t, ev_lk t (CO mi).1 = [] ∨ ev_lk t (CO mi).1 = (ev_skip t (tz_co mi)).map ev_tr) ∧ ev_srt (tz_co mi) = true ∧ (∀ e r, tz_co mi = e :: r → e.1 = 0)
def ev_Snd (CO : Nat → ev_U × List ev_K) (sc : List ev_X) (E : Nat → Nat × (Nat → Int32)) (ih : ev_G) : Prop := ∀ (d mi : Nat) (cs : List ez_C), (∃ pre, tz_co mi = pre ++ cs) → ev_NX (fun ls st h Q => ez_gw (ez_Wp E tz_ml tz_hn tz_co) E tz_ml (tz_hn mi) mi d cs 0 ls st h Q) (ih d mi (CO mi).1 (cs.map ev_tr) sc)
section SND
variable {CO : Nat → ev_U × List ev_K} {sc : List ev_X} {E : Nat → Nat × (Nat → Int32)} {ih : ev_G}
/-- a jump -/
theorem ev_to_ok (hK : ev_KO CO) (hI : ev_Snd CO sc E ih) {d mi : Nat} (t : Nat) : ev_NX (fun ls st h Q => ez_gw (ez_Wp E tz_ml tz_hn tz_co) E tz_ml (tz_hn mi) mi d (tz_co mi) (t + 1) ls st h Q ∧ ez_gw (ez_Wp E tz_ml tz_hn tz_co) E tz_ml (tz_hn mi) mi d (ev_skip t (tz_co mi)) 0 ls st h Q) (fun ls st S => ih d mi (CO mi).1 (ev_lk t (CO mi).1) sc ls st S) := by
  intro ls st S r ls' st' h Q H hl hs hr hQ
  rcases (hK mi).2.1 t with e | e
  · rw [e] at H
    exact absurd (hI d mi [] ⟨tz_co mi, (List.append_nil _).symm⟩ ls st S r ls' st' h Q H hl hs hr hQ) id
  · rw [e] at H
    have := hI d mi (ev_skip t (tz_co mi)) (ev_skip_is _ _) ls st S r ls' st' h Q H hl hs hr hQ
    exact ⟨gw_skip _ this, this⟩
theorem ev_fl_eq {α β : Type} : ∀ (l : List α) (c : List α → β), ev_fl l c = c l
  | [], _ => rfl
  | x :: l, c => ev_fl_eq l (fun r => c (x :: r))
theorem ev_gs_take : ∀ (n : Nat) {st : List ev_X} {st' : List Value}, ev_gs st st' → ev_gs (st.take n) (st'.take n)
  | 0, _, _, _ => trivial
  | n + 1, [], [], _ => trivial
  | n + 1, x :: r, v :: r', h => ⟨h.1, ev_gs_take n h.2⟩
  | n + 1, [], _ :: _, h => absurd h id
  | n + 1, _ :: _, [], h => absurd h id
theorem ev_gs_drop : ∀ (n : Nat) {st : List ev_X} {st' : List Value}, ev_gs st st' → ev_gs (st.drop n) (st'.drop n)
  | 0, _, _, h => h
  | n + 1, [], [], _ => trivial
  | n + 1, x :: r, v :: r', h => ev_gs_drop n h.2
  | n + 1, [], _ :: _, h => absurd h id
  | n + 1, _ :: _, [], h => absurd h id
theorem ev_gs_app : ∀ {st : List ev_X} {st' : List Value} {t : List ev_X} {t' : List Value}, ev_gs st st' → ev_gs t t' → ev_gs (st ++ t) (st' ++ t')
  | [], [], _, _, _, h => h
  | x :: r, v :: r', _, _, h, h' => ⟨h.1, ev_gs_app h.2 h'⟩
  | [], _ :: _, _, _, h, _ => absurd h id
  | _ :: _, [], _, _, h, _ => absurd h id
theorem ev_gs_rev : ∀ {st : List ev_X} {st' : List Value}, ev_gs st st' → ev_gs st.reverse st'.reverse
  | [], [], _ => trivial
  | x :: r, v :: r', h => by
    rw [List.reverse_cons, List.reverse_cons]
    exact ev_gs_app (ev_gs_rev h.2) ⟨h.1, trivial⟩
  | [], _ :: _, h => absurd h id
  | _ :: _, [], h => absurd h id
theorem ev_gs_len : ∀ {st : List ev_X} {st' : List Value}, ev_gs st st' → st'.length = st.length
  | [], [], _ => rfl
  | x :: r, v :: r', h => congrArg (· + 1) (ev_gs_len h.2)
  | [], _ :: _, h => absurd h id
  | _ :: _, [], h => absurd h id
theorem ev_gl_len : ∀ {ls : ev_L} {ls' : List (Option Value)}, ev_gl ls ls' → ls'.length = ls.length
  | [], [], _ => rfl
  | x :: r, v :: r', h => congrArg (· + 1) (ev_gl_len h.2)
  | [], _ :: _, h => absurd h id
  | _ :: _, [], h => absurd h id
theorem ev_gl_app : ∀ {st : ev_L} {st' : List (Option Value)} {t : ev_L} {t' : List (Option Value)}, ev_gl st st' → ev_gl t t' → ev_gl (st ++ t) (st' ++ t')
  | [], [], _, _, _, h => h
  | x :: r, v :: r', _, _, h, h' => ⟨h.1, ev_gl_app h.2 h'⟩
  | [], _ :: _, _, _, h, _ => absurd h id
  | _ :: _, [], _, _, h, _ => absurd h id
theorem ev_gl_rep : ∀ (n : Nat), ev_gl (List.replicate n none) (List.replicate n none)
  | 0 => trivial
  | n + 1 => ⟨trivial, ev_gl_rep n⟩
theorem ev_gl_lay : ∀ {st : List ev_X} {st' : List Value}, ev_gs st st' → ev_gl (ev_lay st) (ez_lay st')
  | [], [], _ => trivial
  | x :: r, v :: r', h => by
    have ih := ev_gl_lay h.2
    have hx := h.1
    cases x with
    | num n => obtain ⟨y, rfl, -⟩ := id hx; exact ⟨⟨_, rfl, hx⟩, ih⟩
    | add a b => obtain ⟨y, rfl, -⟩ := id hx; exact ⟨⟨_, rfl, hx⟩, ih⟩
    | var p => cases hx; exact ⟨⟨_, rfl, rfl⟩, ih⟩
    | mul a b =>
      cases a with
      | num j => cases hx; exact ⟨⟨_, rfl, rfl⟩, ih⟩
      | var n => obtain ⟨y, rfl, -⟩ := id hx; exact ⟨⟨_, rfl, hx⟩, trivial, ih⟩
      | add _ _ => exact absurd hx id
      | mul _ _ => exact absurd hx id
  | [], _ :: _, h => absurd h id
  | _ :: _, [], h => absurd h id
theorem ev_rcv_ok {S : ev_S} {h : ez_H} {k : Nat} {as : List ev_X} {as' : List Value} (hr : ev_rel S h) (hs : ev_gs as as') (H : ev_rcv S k as = true) : ez_rcv h k as' := by
  cases k with
  | zero => trivial
  | succ k =>
    unfold ev_rcv at H
    dsimp only at H
    split at H
    · obtain ⟨w, r', rfl, hx, -⟩ := ev_gs_cons hs
      have e : w = .ref _ := hx
      subst e
      split at H
      · rename_i hq
        obtain ⟨tag, len, ai, al, ar, -, H2, hc⟩ := ev_cl_ok hq hr
        obtain ⟨h1, -⟩ := ev_cond H2
        show ez_t h _ = k + 1
        rw [hc.1]
        exact Nat.eq_of_beq_eq_true h1
      · cases H
    · cases H
theorem ez_Wp_out {E : Nat → Nat × (Nat → Int32)} {ml : Nat → Nat} {hn : Nat → Nat → Nat → Option (Nat × Nat)} {code : Nat → List ez_C} {d mi pc : Nat} {ls : List (Option Value)} {st : List Value} {h : ez_H} {Q : ez_Q} (H : ez_Wp E ml hn code d mi pc ls st h Q) : ez_gw (ez_Wp E ml hn code) E ml (hn mi) mi d (code mi) (pc + 1) ls st h Q :=
  H (fun d mi pc ls st h Q => ez_gw (ez_Wp E ml hn code) E ml (hn mi) mi d (code mi) (pc + 1) ls st h Q)
    (fun d mi pc ls st h Q Q' hQ H => ez_gw_mono (fun _ _ _ _ _ _ _ q => q) (ez_Wp_mono E ml hn code) _ _ _ _ _ _ _ hQ H)
    (fun d mi pc ls st h Q H => ez_gw_mono (fun _ _ _ _ _ _ _ q => ez_Wp_in E ml hn code q) (ez_Wp_mono E ml hn code) _ _ _ _ _ _ _ (fun _ _ q => q) H)
/-- Arrays.fill, called -/
theorem wp_fill {E : Nat → Nat × (Nat → Int32)} {d p : Nat} {v : Int32} {h : ez_H} {Q : ez_Q} (ht : ez_t h p = 1000) (hl : ez_l h p ≤ 200000) (hQ : Q (.inl none) (ez_rowI h p (pf_fill (ez_I h p) (ez_l h p) v))) : ez_Wp E tz_ml tz_hn tz_co d 148 0 (ez_args (tz_ml 148) [.ref p, .int v]) [] h Q := by
  have L := ez_Wp_out (wp_fill_loop (E := E) (d := d) ht hl hQ (ez_l h p) 0 (by omega))
  have e : ez_rowI h p (pf_fill (ez_I h p) 0 v) = h := by
    obtain ⟨a1, a2, a3, a4, a5, a6, a7⟩ := h
    unfold ez_rowI ez_row pf_fill
    simp only [ez_n, ez_u, ez_t, ez_l, ez_I, ez_L, ez_R, Nat.not_lt_zero, ↓reduceIte]
    congr 5
    funext q
    by_cases hq : q = p <;> simp [hq]
  rw [e] at L
  apply ez_Wp_in
  exact ⟨.inl ht, L⟩
theorem ev_fi_ok {as : List ev_X} {as' : List Value} {S : ev_S} {c : ev_S → ev_R} {r : (Option ev_X ⊕ Nat) × ev_S} {h : ez_H} (H : ev_fi as S c = some r) (hr : ev_rel S h) (ha : ev_gs as as') : ∃ p y, as' = [.ref p, .int y] ∧ ez_t h p = 1000 ∧ ez_l h p ≤ 200000 ∧ ∃ S', c S' = some r ∧ ev_rel S' (ez_rowI h p (pf_fill (ez_I h p) (ez_l h p) y)) := by
  unfold ev_fi at H
  split at H
  · rename_i p0 n0
    obtain ⟨w, r', rfl, hx, hs1⟩ := ev_gs_cons ha
    have e : w = .ref p0 := hx
    subst e
    obtain ⟨w, r', rfl, ⟨y, rfl, hy⟩, hs2⟩ := ev_gs_cons hs1
    have e := ev_gs_nil hs2
    subst e
    obtain ⟨tag, len, ai, al, ar, hp, H, hc⟩ := ev_cl_ok H hr
    obtain ⟨h5, H2⟩ := ev_cond H
    obtain ⟨h5, h6⟩ := ev_and h5
    have e := Nat.eq_of_beq_eq_true h5
    subst e
    have h6 := Nat.ble_eq.mp h6
    obtain ⟨S', e', hS⟩ := ev_pc_ok (S := S) (c := c) (tag := 1000) (len := len) (ai := Nat.Internal.SOM.Expr.num n0) (al := al) (ar := ar) (h' := ez_rowI h p0 (pf_fill (ez_I h p0) (ez_l h p0) y)) hr hp rfl rfl (fun q hq => ⟨rfl, rfl, by
      show ez_row (ez_I h) p0 _ q = _
      unfold ez_row
      simp only [hq, ↓reduceIte], rfl, rfl⟩) ⟨hc.1, hc.2.1, fun j hj => by
      obtain ⟨b1, b2, b3⟩ := hc.2.2 j hj
      refine ⟨?_, b2, b3⟩
      have hj : j < len := hj
      show ev_gi n0 (ez_row (ez_I h) p0 (pf_fill (ez_I h p0) (ez_l h p0) y) p0 j)
      unfold ez_row pf_fill
      rw [hc.2.1]
      simp only [hj, ↓reduceIte]
      exact fun _ => hy⟩
    rw [e'] at H2
    exact ⟨p0, y, rfl, hc.1, by rw [hc.2.1]; exact h6, S', H2, hS⟩
  · cases H
theorem wp_fp {E : Nat → Nat × (Nat → Int32)} {d p q : Nat} {h : ez_H} {Q : ez_Q} (ht : ez_t h p = 2) (hq : ez_R h p 13 = q) (hq0 : q ≠ 0) (tq : ez_t h q = 1000) (lq : ez_l h q = 65536) (h6 : ez_I h p 6 = 0) (hpq : p ≠ q) (hQ : Q (.inl none) (ez_setI (ez_rowI h q (pf_fill (ez_I h q) 65536 (-1))) p 14 0)) : ez_Wp E tz_ml tz_hn tz_co d 32 0 (ez_args (tz_ml 32) [.ref p]) [] h Q := by
  have L := ez_Wp_out (wp_fp_loop (E := E) (d := d) ht hq hq0 tq lq h6 hpq hQ 65536 0 (by omega))
  rw [pf_fill_0] at L
  apply ez_Wp_in
  exact L
theorem ev_fp_ok {as : List ev_X} {as' : List Value} {S : ev_S} {c : ev_S → ev_R} {r : (Option ev_X ⊕ Nat) × ev_S} {h : ez_H} (H : ev_fp as S c = some r) (hr : ev_rel S h) (ha : ev_gs as as') : ∃ p q, as' = [.ref p] ∧ ez_t h p = 2 ∧ ez_R h p 13 = q ∧ q ≠ 0 ∧ ez_t h q = 1000 ∧ ez_l h q = 65536 ∧ ez_I h p 6 = 0 ∧ p ≠ q ∧ ∃ S', c S' = some r ∧ ev_rel S' (ez_setI (ez_rowI h q (pf_fill (ez_I h q) 65536 (-1))) p 14 0) := by
  unfold ev_fp at H
  split at H
  · rename_i p
    obtain ⟨w, r', rfl, hx, hs1⟩ := ev_gs_cons ha
    have e : w = .ref p := hx
    subst e
    have e := ev_gs_nil hs1
    subst e
    obtain ⟨len, ai, al, ar, hp, H, hc, e7, hb⟩ := ev_ob_ok H hr
    obtain ⟨h1, H⟩ := ev_cond H
    have h1 := Nat.eq_of_beq_eq_true h1
    rw [ev_f_eq] at H
    obtain ⟨h2, H⟩ := ev_cond H
    obtain ⟨h2, h3⟩ := ev_and h2
    have h2 := Nat.blt_eq.mp h2
    obtain ⟨tag, len', ai', al', ar', hp', H, hc'⟩ := ev_cl_ok H hr
    obtain ⟨h4, H⟩ := ev_cond H
    obtain ⟨h4, h5⟩ := ev_and h4
    have e := Nat.eq_of_beq_eq_true h4
    subst e
    have e5 := Nat.eq_of_beq_eq_true h5
    subst e5
    have hsz : ∀ k, k < 128 → k < ev_sz 2 len := fun k hk => ev_sz_obj (by decide) hk
    have eq13 := (hc.2.2 13 (hsz 13 (by decide))).2.2
    have e6 : ez_I h p 6 = 0 := ev_u_inj (by
      have := (hc.2.2 6 hb).1
      rw [h1] at this
      exact this (by decide))
    generalize ev_g ar 13 = q at *
    have hne : p ≠ q := by
      have : Nat.beq p q = false := by
        cases hb2 : Nat.beq p q with
        | false => rfl
        | true => rw [hb2] at h3; cases h3
      exact Nat.ne_of_beq_eq_false this
    obtain ⟨S1, e1, hS1⟩ := ev_pc_ok (S := S) (c := fun S => ev_s 7 ai 14 (.num 0) (fun ai => ev_pc S p 2 len ai al ar c)) (tag := 1000) (len := 65536) (ai := Nat.Internal.SOM.Expr.num 4294967295) (al := al') (ar := ar') (h' := ez_rowI h q (pf_fill (ez_I h q) 65536 (-1))) hr hp' rfl rfl (fun x hx => ⟨rfl, rfl, by
      show ez_row (ez_I h) q _ x = _
      unfold ez_row
      simp only [hx, ↓reduceIte], rfl, rfl⟩) ⟨hc'.1, hc'.2.1, fun j hj => by
      obtain ⟨b1, b2, b3⟩ := hc'.2.2 j hj
      refine ⟨?_, b2, b3⟩
      have hj : j < 65536 := hj
      show ev_gi 4294967295 (ez_row (ez_I h) q (pf_fill (ez_I h q) 65536 (-1)) q j)
      unfold ez_row pf_fill
      simp only [hj, ↓reduceIte]
      exact fun _ => rfl⟩
    have H : ev_pc S q 1000 65536 (.num 4294967295) al' ar' (fun S => ev_s 7 ai 14 (.num 0) (fun ai => ev_pc S p 2 len ai al ar c)) = some r := by assumption
    rw [e1] at H
    have eI : ez_I (ez_rowI h q (pf_fill (ez_I h q) 65536 (-1))) p = ez_I h p := by
      show ez_row (ez_I h) q _ p = _
      unfold ez_row
      simp only [hne, ↓reduceIte]
    have hc1 : ev_ce 2 len ai al ar (ez_rowI h q (pf_fill (ez_I h q) 65536 (-1))) p := ⟨hc.1, hc.2.1, fun j hj => by
      rw [eI]
      exact hc.2.2 j hj⟩
    rw [← e7] at H
    obtain ⟨S', H, hS⟩ := ev_setI_ok (x := 0) hS1 hp hc1 (hsz 14 (by decide)) (fun _ => rfl) H
    exact ⟨p, q, rfl, hc.1, eq13, by omega, hc'.1, hc'.2.1, e6, hne, S', H, hS⟩
  · cases H
/-- what is known of calls is right -/
def ev_MK (M : ev_M) (E : Nat → Nat × (Nat → Int32)) : Prop := ∀ (d' a : Nat) (as : List ev_X) (S : ev_S) (c : ev_S → ev_R) (e : ev_R) (r : (Option ev_X ⊕ Nat) × ev_S), M d' a as S c e = some r → e = some r ∨ ∃ S', c S' = some r ∧ ∀ (as' : List Value) (h : ez_H) (Q : ez_Q), ev_gs as as' → ev_rel S h → (∀ h', ev_rel S' h' → Q (.inl none) h') → ez_Wp E tz_ml tz_hn tz_co d' a 0 (ez_args (tz_ml a) as') [] h Q
theorem ev_M0_ok (E : Nat → Nat × (Nat → Int32)) : ev_MK ev_M0 E := fun _ _ _ _ _ _ _ H => .inl H
theorem ev_call_ok {M : ev_M} (hM : ev_MK M E) (hK : ev_KO CO) (hI : ev_Snd CO sc E ih) {d mi : Nat} {cs pre : List ez_C} {e : ez_C} (hp : tz_co mi = pre ++ e :: cs) (a b k : Nat) : ev_NX (ev_Cp (ez_Wp E tz_ml tz_hn tz_co) E tz_ml (tz_hn mi) mi d cs e.1 a b k) (ev_call CO M ih d mi (CO mi).1 (cs.map ev_tr) sc e.1 a b k) := by
  intro ls st S r ls' st' h Q H hl hs hr hQ
  have hsuf : ∃ pre, tz_co mi = pre ++ cs := ⟨pre ++ [e], by rw [hp, List.append_assoc]; rfl⟩
  unfold ev_call at H
  unfold ev_Cp
  cases d with
  | zero => cases H
  | succ d' =>
    dsimp only at H ⊢
    rw [ev_fl_eq, ev_fl_eq] at H
    have ha := ev_gs_rev (ev_gs_take b hs)
    have hd := ev_gs_drop b hs
    generalize (st.take b).reverse = as at H ha
    generalize st.drop b = sd at H hd
    generalize (st'.take b).reverse = as' at ha ⊢
    generalize st'.drop b = sd' at hd ⊢
    unfold ev_iv at H
    obtain ⟨h1, H⟩ := ev_cond H
    obtain ⟨h1, h2⟩ := ev_and h1
    obtain ⟨h2, h3⟩ := ev_and h2
    obtain ⟨h3, h4⟩ := ev_and h3
    have hla := ev_gl_lay ha
    refine ⟨⟨ev_few_ok hd h1, by rw [ev_gl_len hla]; exact h2, by rw [ev_gs_len ha]; exact h3, ev_rcv_ok hr ha h4⟩, ?_⟩
    cases hb : Nat.beq a 148 with
    | true =>
      rw [hb] at H
      have ea := Nat.eq_of_beq_eq_true hb
      subst ea
      have H : ev_fi as S (fun S => ih (Nat.succ d') mi (CO mi).1 (cs.map ev_tr) sc ls sd S) = some r := H
      obtain ⟨p0, y, rfl, g1, g2, S', H2, hS⟩ := ev_fi_ok H hr ha
      exact wp_fill g1 g2 (hI (d' + 1) mi cs hsuf _ _ _ _ _ _ _ _ H2 hl hd hS hQ)
    | false =>
      rw [hb] at H
      cases hb3 : Nat.beq a 32 with
      | true =>
        rw [hb3] at H
        have ea := Nat.eq_of_beq_eq_true hb3
        subst ea
        have H : ev_fp as S (fun S => ih (Nat.succ d') mi (CO mi).1 (cs.map ev_tr) sc ls sd S) = some r := H
        obtain ⟨p0, q0, rfl, g1, g2, g3, g4, g5, g6, g7, S', H2, hS⟩ := ev_fp_ok H hr ha
        exact wp_fp g1 g2 g3 g4 g5 g6 g7 (hI (d' + 1) mi cs hsuf _ _ _ _ _ _ _ _ H2 hl hd hS hQ)
      | false =>
      rw [hb3] at H
      rcases hM _ _ _ _ _ _ _ H with H | ⟨S', H2, hS⟩
      rotate_left
      · exact hS as' h _ ha hr (fun h' hr' => hI (d' + 1) mi cs hsuf _ _ _ _ _ _ _ _ H2 hl hd hr' hQ)
      have H : ev_fl (ev_lay as ++ List.replicate (tz_ml a - (ev_lay as).length) none) (fun l => match CO a with
        | (fu', co') => ev_bk ih (Nat.succ d') mi (CO mi).1 (cs.map ev_tr) sc e.1 ls sd (ih d' a fu' co' sc l [] S)) = some r := H
      rw [ev_fl_eq] at H
      have H : ev_bk ih (Nat.succ d') mi (CO mi).1 (cs.map ev_tr) sc e.1 ls sd (ih d' a (CO a).1 (CO a).2 sc (ev_lay as ++ List.replicate (tz_ml a - (ev_lay as).length) none) [] S) = some r := H
      rw [(hK a).1] at H
      have hl' : ev_gl (ev_lay as ++ List.replicate (tz_ml a - (ev_lay as).length) none) (ez_args (tz_ml a) as') := by
        unfold ez_args
        rw [ev_gl_len hla]
        exact ev_gl_app hla (ev_gl_rep _)
      cases hi : ih d' a (CO a).1 ((tz_co a).map ev_tr) sc (ev_lay as ++ List.replicate (tz_ml a - (ev_lay as).length) none) [] S with
      | none => rw [hi] at H; cases H
      | some r0 =>
        rw [hi] at H
        obtain ⟨o0, S0⟩ := r0
        apply ez_Wp_in
        have body := hI d' a (tz_co a) ⟨[], rfl⟩ _ _ _ _ (ez_args (tz_ml a) as') [] h (fun o h' => match o with
          | .inl none => ez_gw (ez_Wp E tz_ml tz_hn tz_co) E tz_ml (tz_hn mi) mi (d' + 1) cs 0 ls' sd' h' Q
          | .inl (some w) => ez_gw (ez_Wp E tz_ml tz_hn tz_co) E tz_ml (tz_hn mi) mi (d' + 1) cs 0 ls' (w :: sd') h' Q
          | .inr x => match tz_hn mi e.1 x with
            | none => Q (.inr x) h'
            | some (t, j) => (match t with
              | 0 => False
              | t' + 1 => ez_gw (ez_Wp E tz_ml tz_hn tz_co) E tz_ml (tz_hn mi) mi (d' + 1) cs (t' + 2) ((ez_cut ls' j).set j none) [] h' Q)) hi hl' trivial hr (fun o h' ho hr' => by
          unfold ev_bk at H
          rcases o0 with o0 | x
          · rcases o0 with _ | w
            · rcases o with o | o
              · rcases o with _ | o
                · exact hI (d' + 1) mi cs hsuf _ _ _ _ _ _ _ _ H hl hd hr' hQ
                · exact absurd ho id
              · exact absurd ho id
            · rcases o with o | o
              · rcases o with _ | o
                · exact absurd ho id
                · exact hI (d' + 1) mi cs hsuf _ _ _ _ _ _ _ _ H hl ⟨ho, hd⟩ hr' hQ
              · exact absurd ho id
          · rcases o with o | o
            · rcases o with _ | o
              · exact absurd ho id
              · exact absurd ho id
            · have ho : x = o := ho
              subst ho
              dsimp only at H ⊢
              cases hh : tz_hn mi e.1 x with
              | none =>
                rw [hh] at H
                cases H
                exact hQ _ _ rfl hr'
              | some z =>
                obtain ⟨t, j⟩ := z
                rw [hh] at H
                dsimp only at H ⊢
                cases t with
                | zero => cases H
                | succ t' =>
                  dsimp only at H ⊢
                  obtain ⟨h5, H⟩ := ev_cond H
                  have h5 := Nat.blt_eq.mp h5
                  obtain ⟨l, H, hcl⟩ := ev_cut_ok H hl
                  rw [ev_lset_eq] at H
                  have := (ev_to_ok hK hI (Nat.succ t') _ _ _ _ _ [] _ _ H (ev_gl_set (v := none) j hcl trivial) trivial hr' hQ).2
                  rw [hp, ev_skip_suf pre (by rw [← hp]; exact (hK mi).2.2.1) h5] at this
                  exact gw_skip _ this)
        have h0 := (hK a).2.2.2
        cases hco : tz_co a with
        | nil => rw [hco] at body; exact body
        | cons e0 r0 =>
          have := h0 _ _ hco
          rw [hco] at body
          refine gw_skip _ ?_
          unfold ev_skip
          simp only [this, ↓reduceIte]
          exact body
theorem ev_Snd_body {M : ev_M} (hM : ev_MK M E) (hsc : ev_scr sc E) (hK : ev_KO CO) (hI : ev_Snd CO sc E ih) : ev_Snd CO sc E (ev_body CO M ih) := by
  intro d mi cs hsuf
  cases cs with
  | nil => intro ls st S r ls' st' h Q H; cases H
  | cons e cs =>
    obtain ⟨pre, hp⟩ := hsuf
    have hsuf : ∃ pre, tz_co mi = pre ++ cs := ⟨pre ++ [e], by rw [hp, List.append_assoc]; rfl⟩
    refine ev_ok e (ez_Wp E tz_ml tz_hn tz_co) E tz_ml (tz_hn mi) mi d cs sc (ih d mi (CO mi).1 (cs.map ev_tr) sc) (ev_to ih d mi (CO mi).1 sc) (ev_call CO M ih d mi (CO mi).1 (cs.map ev_tr) sc) hsc (hI d mi cs hsuf) (fun t => ?_) (fun a b k => ev_call_ok hM hK hI hp a b k)
    intro ls st S r ls' st' h Q H hl hs hr hQ
    obtain ⟨g1, g2⟩ := ev_to_ok hK hI t ls st S r ls' st' h Q H hl hs hr hQ
    unfold ev_Jp
    cases hb : Nat.blt e.1 t with
    | true =>
      rw [hp, ev_skip_suf pre (by rw [← hp]; exact (hK mi).2.2.1) (Nat.blt_eq.mp hb)] at g2
      exact gw_skip _ g2
    | false => exact ez_Wp_in _ _ _ _ g1
/-- THE EVALUATOR IS RIGHT -/
theorem ev_sound {M : ev_M} (hM : ev_MK M E) (hsc : ev_scr sc E) (hK : ev_KO CO) : ∀ n, ev_Snd CO sc E (ev_run CO M n)
  | 0 => fun d mi cs _ ls st S r ls' st' h Q H => by cases H
  | n + 1 => ev_Snd_body hM hsc hK (ev_sound hM hsc hK n)
end SND
