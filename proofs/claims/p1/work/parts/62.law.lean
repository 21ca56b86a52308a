/-! THE LAW on scripts of at most six ints -/
/-- what the evaluator's heap says of a cell, asked by itself -/
noncomputable def ev_tl (S : ev_S) (p tag len : Nat) : Bool := match ev_gc S.2.2 p with
  | .mul (.add (.num a) (.num b)) (.add _ (.add _ _)) => and (Nat.blt p 128) (and (Nat.beq a tag) (Nat.beq b len))
  | _ => false
noncomputable def ev_rf (S : ev_S) (p k q : Nat) : Bool := match ev_gc S.2.2 p with
  | .mul (.add (.num a) (.num b)) (.add _ (.add _ ar)) => and (Nat.blt p 128) (and (Nat.blt k (ev_sz a b)) (Nat.beq (ev_g ar k) q))
  | _ => false
noncomputable def ev_it (S : ev_S) (p k n : Nat) : Bool := match ev_gc S.2.2 p with
  | .mul (.add (.num a) (.num b)) (.add ai (.add _ _)) => and (Nat.blt p 128) (and (Nat.blt k (ev_sz a b)) (and (Nat.beq (ev_g ai k) n) (Nat.blt n 4294967296)))
  | _ => false
theorem ev_tl_ok {S : ev_S} {h : ez_H} {p tag len : Nat} (H : ev_tl S p tag len = true) (hr : ev_rel S h) : ez_t h p = tag ∧ ez_l h p = len := by
  unfold ev_tl at H
  split at H
  · rename_i e
    obtain ⟨h1, h2⟩ := ev_and H
    obtain ⟨h2, h3⟩ := ev_and h2
    have hc := hr.2.2 p (Nat.blt_eq.mp h1)
    rw [e] at hc
    rw [← Nat.eq_of_beq_eq_true h2, ← Nat.eq_of_beq_eq_true h3]
    exact ⟨hc.1, hc.2.1⟩
  · cases H
theorem ev_rf_ok {S : ev_S} {h : ez_H} {p k q : Nat} (H : ev_rf S p k q = true) (hr : ev_rel S h) : ez_R h p k = q := by
  unfold ev_rf at H
  split at H
  · rename_i e
    obtain ⟨h1, h2⟩ := ev_and H
    obtain ⟨h2, h3⟩ := ev_and h2
    have hc := hr.2.2 p (Nat.blt_eq.mp h1)
    rw [e] at hc
    rw [← Nat.eq_of_beq_eq_true h3]
    exact (hc.2.2 k (Nat.blt_eq.mp h2)).2.2
  · cases H
theorem ev_it_ok {S : ev_S} {h : ez_H} {p k n : Nat} (H : ev_it S p k n = true) (hr : ev_rel S h) : ev_u (ez_I h p k) = n := by
  unfold ev_it at H
  split at H
  · rename_i e
    obtain ⟨h1, h2⟩ := ev_and H
    obtain ⟨h2, h3⟩ := ev_and h2
    obtain ⟨h3, h4⟩ := ev_and h3
    have hc := hr.2.2 p (Nat.blt_eq.mp h1)
    rw [e] at hc
    have := (hc.2.2 k (Nat.blt_eq.mp h2)).1
    rw [Nat.eq_of_beq_eq_true h3] at this
    exact this (Nat.blt_eq.mp h4)
  · cases H
theorem g3_x {h : ez_H} (hr : ev_rel gS3 h) : en_X h := ⟨(ev_tl_ok (len := 0) (by decide +kernel) hr).1, ev_rf_ok (by decide +kernel) hr, ev_rf_ok (by decide +kernel) hr, (ev_tl_ok (len := 0) (by decide +kernel) hr).1, ev_rf_ok (by decide +kernel) hr, (ev_tl_ok (len := 6100) (by decide +kernel) hr).1, (ev_tl_ok (tag := 1000) (by decide +kernel) hr).2, (ev_tl_ok (len := 20) (by decide +kernel) hr).1, (ev_tl_ok (tag := 1000) (by decide +kernel) hr).2⟩
theorem g3_m {h : ez_H} (hr : ev_rel gS3 h) : em_X h := ⟨(ev_tl_ok (len := 0) (by decide +kernel) hr).1, ev_rf_ok (by decide +kernel) hr, ev_rf_ok (by decide +kernel) hr, (ev_tl_ok (len := 6000) (by decide +kernel) hr).1, (ev_tl_ok (tag := 1003) (by decide +kernel) hr).2, (ev_tl_ok (len := 20) (by decide +kernel) hr).1, (ev_tl_ok (tag := 1003) (by decide +kernel) hr).2⟩
theorem g3_x0 {h : ez_H} (hr : ev_rel gS3 h) : ez_I h 2 1 = 0 := ev_u_inj (ev_it_ok (n := 0) (by decide +kernel) hr)
theorem g3_m0 {h : ez_H} (hr : ev_rel gS3 h) : ez_I h 71 6 = 0 := ev_u_inj (ev_it_ok (n := 0) (by decide +kernel) hr)
set_option maxRecDepth 20000 in
theorem lw_exit {xs : Nat → Int32} (h : ez_H) : ez_gw (ez_Wp (tz_E 6 xs) tz_ml tz_hn tz_co) (tz_E 6 xs) tz_ml (tz_hn 150) 150 10 cz_150 770 lw_L [] h lw_Q1 := by
  show pw (tz_E 6 xs) 10 150 23 [some (.retAddr 0), some (.ref 1), some (.ref 71), some (.ref 126), some (.int (0 + 6)), none, none] [] h lw_Q1
  apply ez_Wp_in
  show ez_gw _ _ _ _ _ _ cz_150 _ _ _ _ _
  refine ⟨trivial, fun c => ?_, fun c => absurd (show nI 6 - 6 < 0 + 6 by decide) c⟩
  exact ⟨.inr rfl, rfl⟩
set_option maxRecDepth 20000 in
theorem lw_end {xs : Nat → Int32} {h : ez_H} {n times : Nat} (hr : ev_rel gS3 h) (e1 : xs 1 = nI n) (e2 : xs 2 = nI times) (hn : n ≤ 20) (ht1 : 1 ≤ times) (ht : times ≤ 100) : ez_gw (ez_Wp (tz_E 6 xs) tz_ml tz_hn tz_co) (tz_E 6 xs) tz_ml (tz_hn 150) 150 10 cz_150 204 lw_L [] h lw_Q1 := by
  have v1 : vp_in ((0 : Int32) + 1) 6 := by unfold vp_in; decide
  have v2 : vp_in ((0 : Int32) + 2) 6 := by unfold vp_in; decide
  have X := g3_x hr
  have Y := g3_m hr
  refine ⟨v1, v2, ⟨rfl, rfl, rfl, X.1⟩, ?_⟩
  show pw (tz_E 6 xs) 9 2 0 [some (.ref 1), some (.int (xs 1)), some (.int (xs 2)), none, none] [] h _
  rw [e1, e2]
  refine wp_end X (g3_x0 hr) hn ht1 ht (fun h' g => ?_)
  have Y' := em_X_of Y g
  have z' : ez_I h' 71 6 = 0 := by
    rw [g.2.2.2.2.2 71 (by decide)]
    exact g3_m0 hr
  refine ⟨v1, v2, ⟨rfl, rfl, rfl, Y'.1⟩, ?_⟩
  show pw (tz_E 6 xs) 9 27 0 [some (.ref 71), some (.int (xs 1)), some (.int (xs 2)), none, none] [] h' _
  rw [e1, e2]
  refine wp_mend Y' z' hn ht1 ht (fun h'' => ?_)
  exact ⟨fun _ => lw_exit h'', fun c => absurd rfl c⟩
theorem ev_num {o : ez_O} {k : Nat} (ho : ev_go (.inl (some (.num k))) o) : ∃ y : Int32, o = .inl (some (.int y)) ∧ ev_u y = k := by
  rcases o with o | o
  · rcases o with _ | v
    · exact absurd ho id
    · obtain ⟨y, rfl, hy⟩ := ho
      exact ⟨y, rfl, hy⟩
  · exact absurd ho id
set_option maxRecDepth 20000 in
theorem lw_pack {xs : Nat → Int32} {h : ez_H} (hr : ev_rel gS3 h) : ez_gw (ez_Wp (tz_E 6 xs) tz_ml tz_hn tz_co) (tz_E 6 xs) tz_ml (tz_hn 150) 150 10 cz_150 360 lw_L [] h lw_Q1 := by
  refine ⟨⟨rfl, rfl, rfl, (g3_x hr).1⟩, ?_⟩
  refine ev_use (ev_scr0 6 xs) (ev_nb_eq p_x) (ls' := [some (.ref 1)]) ⟨⟨_, rfl, rfl⟩, trivial⟩ hr (fun o h1 ho hr1 => ?_)
  obtain ⟨y, rfl, hy⟩ := ev_num ho
  have H := p_m
  unfold ev_is1 at H
  split at H
  · rename_i n S' e
    have K := gw_skip _ (ev_sound (ev_M1_ok (xs := xs)) (lw_scr (ev_top_v _) (ev_top_v _)) kz_ko 1000000 10 150 (ev_skip 363 cz_150) (ev_skip_is _ _) lw_ls [.num 2] gS4 _ lw_L [.int y] h1 lw_Q1 e lw_gl ⟨⟨y, rfl, hy⟩, trivial⟩ hr1 (fun o _ ho _ => lw_one H ho))
    exact K
  · cases H
theorem lw_cases {xs : Nat → Int32} {h : ez_H} (hr : ev_rel gS3 h) : ∀ t : Nat, t ∈ lw_tg → ez_gw (ez_Wp (tz_E 6 xs) tz_ml tz_hn tz_co) (tz_E 6 xs) tz_ml (tz_hn 150) 150 10 cz_150 (t + 1) lw_L [] h lw_Q1 := by
  have T1 := ev_top_v (xs 1)
  have T2 := ev_top_v (xs 2)
  have b1 := ev_e_le (xs 1)
  have b2 := ev_e_le (xs 2)
  have sgn : ev_e (ev_u (xs 1)) < 2147483648 ∨ 2147483648 + 0 ≤ ev_e (ev_u (xs 1)) := by omega
  have two : ∀ t, lw_1 t (lw_sc lw_ng ev_top) = true → lw_1 t (lw_sc (lw_fr 0) ev_top) = true → ez_gw (ez_Wp (tz_E 6 xs) tz_ml tz_hn tz_co) (tz_E 6 xs) tz_ml (tz_hn 150) 150 10 cz_150 (t + 1) lw_L [] h lw_Q1 := by
    intro t c1 c2
    rcases sgn with s | s
    · exact lw_at c1 hr (lw_vng s) T2
    · exact lw_at c2 hr (lw_vfr s) T2
  intro t ht
  simp only [lw_tg, List.mem_cons, List.not_mem_nil, or_false] at ht
  rcases ht with rfl | rfl | rfl | rfl | rfl | rfl | rfl | rfl | rfl | rfl | rfl | rfl | rfl | rfl | rfl | rfl | rfl | rfl | rfl
  · exact lw_at c_0 hr T1 T2
  · rcases sgn with s | s
    · exact lw_at c_1a hr (lw_vng s) T2
    · rcases Nat.lt_or_ge (ev_e (ev_u (xs 1))) (2147483648 + 21) with s1 | s1
      · rcases Nat.lt_or_ge (ev_e (ev_u (xs 2))) 2147483649 with s2 | s2
        · exact lw_at c_1c hr (lw_vto (by omega) (by omega)) (lw_vle (by omega))
        · rcases Nat.lt_or_ge (ev_e (ev_u (xs 2))) (2147483648 + 101) with s3 | s3
          · obtain ⟨n, hn⟩ : ∃ n, ev_e (ev_u (xs 1)) = 2147483648 + n := ⟨ev_e (ev_u (xs 1)) - 2147483648, by omega⟩
            obtain ⟨m, hm⟩ : ∃ m, ev_e (ev_u (xs 2)) = 2147483648 + m := ⟨ev_e (ev_u (xs 2)) - 2147483648, by omega⟩
            obtain ⟨y, e1, hy⟩ := lw_vex hn
            obtain ⟨z, e2, hz⟩ := lw_vex hm
            cases e1
            cases e2
            exact lw_end hr (ev_nI hy (by omega)) (ev_nI hz (by omega)) (by omega) (by omega) (by omega)
          · exact lw_at c_1d hr (lw_vto (by omega) (by omega)) (lw_vfr s3)
      · exact lw_at c_1b hr (lw_vfr s1) T2
  · rcases sgn with s | s
    · exact lw_at c_2a hr (lw_vng s) T2
    · rcases Nat.lt_or_ge (ev_e (ev_u (xs 1))) (2147483648 + 1) with s1 | s1
      · exact lw_at c_2c hr (lw_vex (by omega)) T2
      · exact lw_at c_2b hr (lw_vfr s1) T2
  · exact two _ c_3a c_3b
  · exact lw_at c_4 hr T1 T2
  · exact lw_at c_5 hr T1 T2
  · exact lw_pack hr
  · exact lw_at c_7 hr T1 T2
  · exact two _ c_8a c_8b
  · exact lw_at c_9 hr T1 T2
  · exact two _ c_10a c_10b
  · exact two _ c_11a c_11b
  · exact lw_at c_12 hr T1 T2
  · rcases sgn with s | s
    · exact lw_at c_13a hr (lw_vng s) T2
    · rcases Nat.lt_or_ge (ev_e (ev_u (xs 1))) (2147483648 + 2) with s1 | s1
      · rcases Nat.lt_or_ge (ev_e (ev_u (xs 1))) (2147483648 + 1) with s2 | s2
        · exact lw_at c_13b hr (lw_vex (by omega)) T2
        · exact lw_at c_13c hr (lw_vex (by omega)) T2
      · exact lw_at c_13d hr (lw_vfr s1) T2
  · exact two _ c_14a c_14b
  · rcases sgn with s | s
    · exact lw_at c_15a hr (lw_vng s) T2
    · rcases Nat.lt_or_ge (ev_e (ev_u (xs 1))) (2147483648 + 64) with s1 | s1
      · rcases Nat.lt_or_ge (ev_e (ev_u (xs 2))) 2147483648 with s2 | s2
        · exact lw_at c_15c hr (lw_vto (by omega) (by omega)) (lw_vng s2)
        · rcases Nat.lt_or_ge (ev_e (ev_u (xs 2))) (2147483648 + 1000001) with s3 | s3
          · obtain ⟨n, hn⟩ : ∃ n, ev_e (ev_u (xs 1)) = 2147483648 + n := ⟨ev_e (ev_u (xs 1)) - 2147483648, by omega⟩
            exact lw_at (List.all_eq_true.mp c_15e n (List.mem_range.mpr (by omega))) hr (lw_vex hn) (lw_vto (by omega) (by omega))
          · exact lw_at c_15d hr (lw_vto (by omega) (by omega)) (lw_vfr s3)
      · exact lw_at c_15b hr (lw_vfr s1) T2
  · rcases Nat.lt_or_ge (ev_e (ev_u (xs 1))) 2147483649 with s | s
    · exact lw_at c_16a hr (lw_vle (by omega)) T2
    · rcases Nat.lt_or_ge (ev_e (ev_u (xs 1))) (2147483648 + 16) with s1 | s1
      · obtain ⟨n, hn⟩ : ∃ n, ev_e (ev_u (xs 1)) = 2147483648 + n := ⟨ev_e (ev_u (xs 1)) - 2147483648, by omega⟩
        exact lw_at (c_16 n (by omega) (by omega)) hr (lw_vex hn) T2
      · exact lw_at c_16b hr (lw_vfr s1) T2
  · rcases sgn with s | s
    · exact lw_at c_17a hr (lw_vng s) T2
    · rcases Nat.lt_or_ge (ev_e (ev_u (xs 1))) (2147483648 + 64) with s1 | s1
      · obtain ⟨n, hn⟩ : ∃ n, ev_e (ev_u (xs 1)) = 2147483648 + n := ⟨ev_e (ev_u (xs 1)) - 2147483648, by omega⟩
        exact lw_at (List.all_eq_true.mp c_17c n (List.mem_range.mpr (by omega))) hr (lw_vex hn) T2
      · exact lw_at c_17b hr (lw_vfr s1) T2
  · rcases sgn with s | s
    · exact lw_at c_18a hr (lw_vng s) T2
    · rcases Nat.lt_or_ge (ev_e (ev_u (xs 1))) (2147483648 + 2) with s1 | s1
      · rcases Nat.lt_or_ge (ev_e (ev_u (xs 1))) (2147483648 + 1) with s2 | s2
        · exact lw_at c_18b hr (lw_vex (by omega)) T2
        · exact lw_at c_18c hr (lw_vex (by omega)) T2
      · exact lw_at c_18d hr (lw_vfr s1) T2
theorem lw_law {L : Nat} {xs : Nat → Int32} (hL : L ≤ 6) : ez_Wp (tz_E L xs) tz_ml tz_hn tz_co 10 150 0 (ez_args 7 [.retAddr 0]) [] ez_h0 (fun o _ => o = .inl (some (.int 1))) := by
  refine lw_upto (fun h hr => ?_)
  rcases Nat.lt_or_ge L 6 with h6 | h6
  · exact lw_small h6
  · have : L = 6 := by omega
    subst this
    exact lw_six (lw_cases hr) (lw_at c_19 hr (ev_top_v _) (ev_top_v _))
