/-! the law's cases -/
noncomputable def lw_ls : ev_L := [some (.mul (.num 0) (.num 0)), some (.var 1), some (.var 71), some (.var 126), some (.num 0), none, none]
noncomputable def ev_is1 (r : ev_R) : Bool := match r with
  | some (.inl (some (.num n)), _) => Nat.beq n 1
  | _ => false
/-- the law from a place on: it answers 1 -/
noncomputable def lw_1 (t : Nat) (sc : List ev_X) : Bool := ev_is1 (ev_run kz ev_M0 1000000 10 150 (kz 150).1 (ev_lk t (kz 150).1) sc lw_ls [] gS3)
noncomputable def lw_iv (a b : Nat) : ev_X := .add (.num a) (.num b)
noncomputable def lw_ng : ev_X := lw_iv 0 2147483647
noncomputable def lw_fr (n : Nat) : ev_X := lw_iv (Nat.add 2147483648 n) 4294967295
noncomputable def lw_to (n : Nat) : ev_X := lw_iv 2147483648 (Nat.add 2147483648 n)
noncomputable def lw_sc (a b : ev_X) : List ev_X := [ev_top, a, b, ev_top, ev_top, ev_top]
theorem lw_vng {x : Int32} (h : ev_e (ev_u x) < 2147483648) : ev_v lw_ng (.int x) := ⟨x, rfl, Nat.zero_le _, by
  show ev_e (ev_u x) ≤ 2147483647
  omega⟩
theorem ev_e_le (x : Int32) : ev_e (ev_u x) ≤ 4294967295 := by
  show (ev_u x + 2147483648) % 4294967296 ≤ 4294967295
  omega
theorem lw_vfr {x : Int32} {n : Nat} (h : 2147483648 + n ≤ ev_e (ev_u x)) : ev_v (lw_fr n) (.int x) := ⟨x, rfl, h, ev_e_le x⟩
theorem lw_vto {x : Int32} {n : Nat} (h1 : 2147483648 ≤ ev_e (ev_u x)) (h2 : ev_e (ev_u x) ≤ 2147483648 + n) : ev_v (lw_to n) (.int x) := ⟨x, rfl, h1, h2⟩
theorem lw_vle {x : Int32} {n : Nat} (h2 : ev_e (ev_u x) ≤ n) : ev_v (lw_iv 0 n) (.int x) := ⟨x, rfl, Nat.zero_le _, h2⟩
theorem lw_vex {x : Int32} {n : Nat} (h : ev_e (ev_u x) = 2147483648 + n) : ev_v (.num n) (.int x) := ⟨x, rfl, by
  have h1 : (ev_u x + 2147483648) % 4294967296 = 2147483648 + n := h
  have h2 := ev_u_lt x
  omega⟩
theorem lw_scr {xs : Nat → Int32} {a b : ev_X} (ha : ev_v a (.int (xs 1))) (hb : ev_v b (.int (xs 2))) : ev_scr (lw_sc a b) (tz_E 6 xs) := ⟨fun _ => rfl, fun n hn => by
  have hn : n < 6 := hn
  match n, hn with
  | 0, _ => exact ev_top_v _
  | 1, _ => exact ha
  | 2, _ => exact hb
  | 3, _ => exact ev_top_v _
  | 4, _ => exact ev_top_v _
  | 5, _ => exact ev_top_v _
  | n + 6, h => omega, fun j => rfl⟩
abbrev lw_L : List (Option Value) := [some (.retAddr 0), some (.ref 1), some (.ref 71), some (.ref 126), some (.int 0), none, none]
abbrev lw_Q1 : ez_Q := fun o _ => o = .inl (some (.int 1))
theorem lw_gl : ev_gl lw_ls lw_L := ⟨⟨_, rfl, rfl⟩, ⟨_, rfl, rfl⟩, ⟨_, rfl, rfl⟩, ⟨_, rfl, rfl⟩, ⟨_, rfl, ⟨_, rfl, rfl⟩⟩, trivial, trivial, trivial⟩
theorem lw_one {o : ez_O} {n : Nat} (hn : Nat.beq n 1 = true) (ho : ev_go (.inl (some (.num n))) o) : o = .inl (some (.int 1)) := by
  have e := Nat.eq_of_beq_eq_true hn
  subst e
  rcases o with o | o
  · rcases o with _ | v
    · exact absurd ho id
    · obtain ⟨y, rfl, hy⟩ := ho
      have : y = 1 := ev_u_inj hy
      rw [this]
  · exact absurd ho id
/-- the law from a place on, by the evaluator -/
theorem lw_at {xs : Nat → Int32} {h : ez_H} {a b : ev_X} {t : Nat} (H : lw_1 t (lw_sc a b) = true) (hr : ev_rel gS3 h) (ha : ev_v a (.int (xs 1))) (hb : ev_v b (.int (xs 2))) : ez_gw (ez_Wp (tz_E 6 xs) tz_ml tz_hn tz_co) (tz_E 6 xs) tz_ml (tz_hn 150) 150 10 cz_150 (t + 1) lw_L [] h lw_Q1 := by
  unfold lw_1 ev_is1 at H
  split at H
  · rename_i n S' e
    exact (ev_to_ok kz_ko (ev_sound (ev_M0_ok _) (lw_scr ha hb) kz_ko 1000000) t lw_ls [] gS3 _ lw_L [] h lw_Q1 e lw_gl trivial hr (fun o _ ho _ => lw_one H ho)).1
  · cases H
set_option maxRecDepth 20000 in
theorem lw_small {L : Nat} {xs : Nat → Int32} {h : ez_H} (hL : L < 6) : lw_head L xs h := by
  unfold lw_head
  have hc : nI L - 6 < 0 := by
    match L, hL with
    | 0, _ => decide
    | 1, _ => decide
    | 2, _ => decide
    | 3, _ => decide
    | 4, _ => decide
    | 5, _ => decide
    | n + 6, h => omega
  refine ⟨trivial, fun c => ?_, fun c => absurd hc c⟩
  exact ⟨.inr rfl, rfl⟩
def lw_tg : List Nat := [132, 203, 240, 265, 302, 346, 359, 372, 385, 422, 435, 472, 521, 565, 590, 615, 663, 719, 744]
set_option maxRecDepth 20000 in
theorem lw_six {xs : Nat → Int32} {h : ez_H} (HC : ∀ t : Nat, t ∈ lw_tg → ez_gw (ez_Wp (tz_E 6 xs) tz_ml tz_hn tz_co) (tz_E 6 xs) tz_ml (tz_hn 150) 150 10 cz_150 (t + 1) lw_L [] h lw_Q1) (HD : ez_gw (ez_Wp (tz_E 6 xs) tz_ml tz_hn tz_co) (tz_E 6 xs) tz_ml (tz_hn 150) 150 10 cz_150 770 lw_L [] h lw_Q1) : lw_head 6 xs h := by
  unfold lw_head
  refine ⟨trivial, fun c => absurd c (show ¬ (nI 6 - 6 < 0) by decide), fun c => ?_⟩
  refine ⟨show vp_in 0 6 from (by unfold vp_in; decide), ?_⟩
  refine ⟨fun _ => HC 132 (by decide), fun _ => ⟨fun _ => HC 203 (by decide), fun _ => ⟨fun _ => HC 240 (by decide), fun _ => ⟨fun _ => HC 265 (by decide), fun _ => ⟨fun _ => HC 302 (by decide), fun _ => ⟨fun _ => HC 346 (by decide), fun _ => ⟨fun _ => HC 359 (by decide), fun _ => ⟨fun _ => HC 372 (by decide), fun _ => ⟨fun _ => HC 385 (by decide), fun _ => ⟨fun _ => HC 422 (by decide), fun _ => ⟨fun _ => HC 435 (by decide), fun _ => ⟨fun _ => HC 472 (by decide), fun _ => ⟨fun _ => HC 521 (by decide), fun _ => ⟨fun _ => HC 565 (by decide), fun _ => ⟨fun _ => HC 590 (by decide), fun _ => ⟨fun _ => HC 615 (by decide), fun _ => ⟨fun _ => HC 663 (by decide), fun _ => ⟨fun _ => HC 719 (by decide), fun _ => ⟨fun _ => HC 744 (by decide), fun _ => HD⟩⟩⟩⟩⟩⟩⟩⟩⟩⟩⟩⟩⟩⟩⟩⟩⟩⟩⟩
