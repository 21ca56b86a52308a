section
/-! PRINTED by wip/pack: the class: kinds, sums, counts -/
set_option maxRecDepth 4000 in
set_option maxHeartbeats 20000000 in
theorem c_kL_L0 {E : Nat → Nat × (Nat → Int32)} {d : Nat} {Q : ez_Q} {h : ez_H} {v : Int32} (S : zSh h) (hE : zE E) (hv : 3 ≤ v.toInt ∧ v.toInt ≤ 258) (K : ∀ x : Int32, x.toInt = (kL v.toInt.toNat : Nat) → Q (.inl (some (.int x))) h) : ∀ N : Nat, (∀ (h2 : ez_H) (k : Int32) (st : Int32) , zW (fun _ _ => False) (fun _ => False) (fun _ => False) h h2 → (0 ≤ k.toInt ∧ k.toInt ≤ 28 ∧ (st.toInt = 16 ∨ st.toInt = 8 ∨ st.toInt = 4 ∨ st.toInt = 2 ∨ st.toInt = 1 ∨ st.toInt = 0)) → kbI LBf 28 v.toInt k.toInt st.toInt → (st.toInt + 1) < (N : Int) → pw E d 23 5 [some (.retAddr 2), some (.int v), some (.int k), some (.int st)] [] h2 Q) := by
  intro N
  induction N with
  | zero => exact fun h2 k st  F hinv A_kb hm => absurd hm (by have w_k := z_rng k; have w_st := z_rng st; have gv := z_rng v; omega)
  | succ N ih =>
    refine fun h2 k st  F hinv A_kb hm => ?_
    · skip
      have w_k := z_rng k
      have w_st := z_rng st
      have gv := z_rng v
      have S2 := zW_sh F S
      apply ez_Wp_in
      show ez_gw _ _ _ _ _ _ (cz_23) _ _ _ _ _
      refine gw_skip _ ?_
      refine gw_ld rfl rfl ?_
      refine z_b1 (fun c1 => ?_) (fun c1 => ?_)
      · have c1 : st.toInt ≤ 0 := c1
        refine gw_skip _ ?_
        refine gw_ld rfl rfl ?_
        refine z_ri ?_
        exact zW_Q F (K _ (kbI_e A_kb (by omega) (by omega)))
      · have c1 : ¬ (st.toInt ≤ 0) := c1
        refine gw_ld rfl rfl ?_
        refine gw_ld rfl rfl ?_
        refine z_add (by omega) (fun x2 ex2 => ?_)
        refine gw_ld rfl rfl ?_
        refine z_alE (n := 29) (by rw [hE 1]; rfl) (by omega) (fun x3 ex3 => ?_)
        refine z_b2 (fun c4 => ?_) (fun c4 => ?_)
        · have c4 : x3.toInt ≤ x2.toInt := c4
          refine gw_skip _ ?_
          refine gw_ld rfl rfl ?_
          refine z_C (m := 1) rfl rfl (fun x5 ex5 => ?_)
          refine z_2 rfl (fun x6 ex6 => ?_)
          have rx6 := z_rng x6
          have vx6 := n_shr (n := 1) (by omega) (by decide) ex6
          rw [show (2 : Int) ^ 1 = 2 from rfl] at vx6
          refine gw_st rfl rfl rfl ?_
          show ez_gw _ _ _ _ _ _ _ _ [some (.retAddr 2), some (.int v), some (.int k), some (.int x6)] _ _ _
          refine z_go ?_
          exact ih h2 k x6 F (by omega) (kbI_n A_kb (by omega) (by omega) LB_mono (.inl (by omega)) (by omega)) (by omega)
        · have c4 : ¬ (x3.toInt ≤ x2.toInt) := c4
          refine gw_ld rfl rfl ?_
          refine gw_ld rfl rfl ?_
          refine gw_ld rfl rfl ?_
          refine z_add (by omega) (fun x7 ex7 => ?_)
          refine z_iaE (n := 29) (hE 1) (by omega) ?_
          generalize ex8 : (tz_ar (1 + 1)).getD x7.toInt.toNat 0 = x8
          have rx8 := z_rng x8
          have ox8 := tz_LB (n := x7.toInt.toNat) (by omega)
          rw [ex8] at ox8
          refine gw_ld rfl rfl ?_
          refine z_b2 (fun c9 => ?_) (fun c9 => ?_)
          · have c9 : v.toInt < x8.toInt := c9
            refine gw_skip _ ?_
            refine gw_ld rfl rfl ?_
            refine z_C (m := 1) rfl rfl (fun x10 ex10 => ?_)
            refine z_2 rfl (fun x11 ex11 => ?_)
            have rx11 := z_rng x11
            have vx11 := n_shr (n := 1) (by omega) (by decide) ex11
            rw [show (2 : Int) ^ 1 = 2 from rfl] at vx11
            refine gw_st rfl rfl rfl ?_
            show ez_gw _ _ _ _ _ _ _ _ [some (.retAddr 2), some (.int v), some (.int k), some (.int x11)] _ _ _
            refine z_go ?_
            exact ih h2 k x11 F (by omega) (kbI_n A_kb (by omega) (by omega) LB_mono (.inr (by rw [show (k.toInt + st.toInt).toNat = x7.toInt.toNat by omega]; omega)) (by omega)) (by omega)
          · have c9 : ¬ (v.toInt < x8.toInt) := c9
            refine gw_ld rfl rfl ?_
            refine gw_ld rfl rfl ?_
            refine z_add (by omega) (fun x12 ex12 => ?_)
            refine gw_st rfl rfl rfl ?_
            show ez_gw _ _ _ _ _ _ _ _ [some (.retAddr 2), some (.int v), some (.int x12), some (.int st)] _ _ _
            refine gw_ld rfl rfl ?_
            refine z_C (m := 1) rfl rfl (fun x13 ex13 => ?_)
            refine z_2 rfl (fun x14 ex14 => ?_)
            have rx14 := z_rng x14
            have vx14 := n_shr (n := 1) (by omega) (by decide) ex14
            rw [show (2 : Int) ^ 1 = 2 from rfl] at vx14
            refine gw_st rfl rfl rfl ?_
            show ez_gw _ _ _ _ _ _ _ _ [some (.retAddr 2), some (.int v), some (.int x12), some (.int x14)] _ _ _
            refine z_go ?_
            exact ih h2 x12 x14 F (by omega) (kbI_y A_kb (by omega) (by rw [show (k.toInt + st.toInt).toNat = x7.toInt.toNat by omega]; omega) (by omega) (by omega)) (by omega)
set_option maxRecDepth 4000 in
set_option maxHeartbeats 20000000 in
theorem c_kL {E : Nat → Nat × (Nat → Int32)} {d : Nat} {Q : ez_Q} {h : ez_H} {v : Int32} (S : zSh h) (hE : zE E) (hv : 3 ≤ v.toInt ∧ v.toInt ≤ 258) (K : ∀ x : Int32, x.toInt = (kL v.toInt.toNat : Nat) → Q (.inl (some (.int x))) h) : pw E d 23 0 [some (.retAddr 2), some (.int v), none, none] [] h Q := by
  have gv := z_rng v
  have F := zW_refl (fun _ _ => False) (fun _ => False) (fun _ => False) h
  apply ez_Wp_in
  show ez_gw _ _ _ _ _ _ (cz_23) _ _ _ _ _
  refine gw_skip _ ?_
  refine z_C (m := 0) rfl rfl (fun x1 ex1 => ?_)
  refine gw_st rfl rfl rfl ?_
  show ez_gw _ _ _ _ _ _ _ _ [some (.retAddr 2), some (.int v), some (.int x1), none] _ _ _
  refine z_C (m := 16) rfl rfl (fun x2 ex2 => ?_)
  refine gw_st rfl rfl rfl ?_
  show ez_gw _ _ _ _ _ _ _ _ [some (.retAddr 2), some (.int v), some (.int x1), some (.int x2)] _ _ _
  exact ez_Wp_at ((c_kL_L0 (v := v) S hE hv K (((x2.toInt + 1)).toNat + 1)) h x1 x2 F (by omega) (kbI_0 (by show 3 ≤ v.toInt.toNat; omega) (by omega) (by omega) (by decide)) (by omega)) rfl
set_option maxRecDepth 4000 in
set_option maxHeartbeats 20000000 in
theorem c_kD_L0 {E : Nat → Nat × (Nat → Int32)} {d : Nat} {Q : ez_Q} {h : ez_H} {v : Int32} (S : zSh h) (hE : zE E) (hv : 1 ≤ v.toInt ∧ v.toInt ≤ 4096) (K : ∀ x : Int32, x.toInt = (kD v.toInt.toNat : Nat) → Q (.inl (some (.int x))) h) : ∀ N : Nat, (∀ (h2 : ez_H) (k : Int32) (st : Int32) , zW (fun _ _ => False) (fun _ => False) (fun _ => False) h h2 → (0 ≤ k.toInt ∧ k.toInt ≤ 29 ∧ (st.toInt = 16 ∨ st.toInt = 8 ∨ st.toInt = 4 ∨ st.toInt = 2 ∨ st.toInt = 1 ∨ st.toInt = 0)) → kbI DBf 29 v.toInt k.toInt st.toInt → (st.toInt + 1) < (N : Int) → pw E d 23 5 [some (.retAddr 3), some (.int v), some (.int k), some (.int st)] [] h2 Q) := by
  intro N
  induction N with
  | zero => exact fun h2 k st  F hinv A_kb hm => absurd hm (by have w_k := z_rng k; have w_st := z_rng st; have gv := z_rng v; omega)
  | succ N ih =>
    refine fun h2 k st  F hinv A_kb hm => ?_
    · skip
      have w_k := z_rng k
      have w_st := z_rng st
      have gv := z_rng v
      have S2 := zW_sh F S
      apply ez_Wp_in
      show ez_gw _ _ _ _ _ _ (cz_23) _ _ _ _ _
      refine gw_skip _ ?_
      refine gw_ld rfl rfl ?_
      refine z_b1 (fun c1 => ?_) (fun c1 => ?_)
      · have c1 : st.toInt ≤ 0 := c1
        refine gw_skip _ ?_
        refine gw_ld rfl rfl ?_
        refine z_ri ?_
        exact zW_Q F (K _ (kbI_e A_kb (by omega) (by omega)))
      · have c1 : ¬ (st.toInt ≤ 0) := c1
        refine gw_ld rfl rfl ?_
        refine gw_ld rfl rfl ?_
        refine z_add (by omega) (fun x2 ex2 => ?_)
        refine gw_ld rfl rfl ?_
        refine z_alE (n := 30) (by rw [hE 2]; rfl) (by omega) (fun x3 ex3 => ?_)
        refine z_b2 (fun c4 => ?_) (fun c4 => ?_)
        · have c4 : x3.toInt ≤ x2.toInt := c4
          refine gw_skip _ ?_
          refine gw_ld rfl rfl ?_
          refine z_C (m := 1) rfl rfl (fun x5 ex5 => ?_)
          refine z_2 rfl (fun x6 ex6 => ?_)
          have rx6 := z_rng x6
          have vx6 := n_shr (n := 1) (by omega) (by decide) ex6
          rw [show (2 : Int) ^ 1 = 2 from rfl] at vx6
          refine gw_st rfl rfl rfl ?_
          show ez_gw _ _ _ _ _ _ _ _ [some (.retAddr 3), some (.int v), some (.int k), some (.int x6)] _ _ _
          refine z_go ?_
          exact ih h2 k x6 F (by omega) (kbI_n A_kb (by omega) (by omega) DB_mono (.inl (by omega)) (by omega)) (by omega)
        · have c4 : ¬ (x3.toInt ≤ x2.toInt) := c4
          refine gw_ld rfl rfl ?_
          refine gw_ld rfl rfl ?_
          refine gw_ld rfl rfl ?_
          refine z_add (by omega) (fun x7 ex7 => ?_)
          refine z_iaE (n := 30) (hE 2) (by omega) ?_
          generalize ex8 : (tz_ar (2 + 1)).getD x7.toInt.toNat 0 = x8
          have rx8 := z_rng x8
          have ox8 := tz_DB (n := x7.toInt.toNat) (by omega)
          rw [ex8] at ox8
          refine gw_ld rfl rfl ?_
          refine z_b2 (fun c9 => ?_) (fun c9 => ?_)
          · have c9 : v.toInt < x8.toInt := c9
            refine gw_skip _ ?_
            refine gw_ld rfl rfl ?_
            refine z_C (m := 1) rfl rfl (fun x10 ex10 => ?_)
            refine z_2 rfl (fun x11 ex11 => ?_)
            have rx11 := z_rng x11
            have vx11 := n_shr (n := 1) (by omega) (by decide) ex11
            rw [show (2 : Int) ^ 1 = 2 from rfl] at vx11
            refine gw_st rfl rfl rfl ?_
            show ez_gw _ _ _ _ _ _ _ _ [some (.retAddr 3), some (.int v), some (.int k), some (.int x11)] _ _ _
            refine z_go ?_
            exact ih h2 k x11 F (by omega) (kbI_n A_kb (by omega) (by omega) DB_mono (.inr (by rw [show (k.toInt + st.toInt).toNat = x7.toInt.toNat by omega]; omega)) (by omega)) (by omega)
          · have c9 : ¬ (v.toInt < x8.toInt) := c9
            refine gw_ld rfl rfl ?_
            refine gw_ld rfl rfl ?_
            refine z_add (by omega) (fun x12 ex12 => ?_)
            refine gw_st rfl rfl rfl ?_
            show ez_gw _ _ _ _ _ _ _ _ [some (.retAddr 3), some (.int v), some (.int x12), some (.int st)] _ _ _
            refine gw_ld rfl rfl ?_
            refine z_C (m := 1) rfl rfl (fun x13 ex13 => ?_)
            refine z_2 rfl (fun x14 ex14 => ?_)
            have rx14 := z_rng x14
            have vx14 := n_shr (n := 1) (by omega) (by decide) ex14
            rw [show (2 : Int) ^ 1 = 2 from rfl] at vx14
            refine gw_st rfl rfl rfl ?_
            show ez_gw _ _ _ _ _ _ _ _ [some (.retAddr 3), some (.int v), some (.int x12), some (.int x14)] _ _ _
            refine z_go ?_
            exact ih h2 x12 x14 F (by omega) (kbI_y A_kb (by omega) (by rw [show (k.toInt + st.toInt).toNat = x7.toInt.toNat by omega]; omega) (by omega) (by omega)) (by omega)
set_option maxRecDepth 4000 in
set_option maxHeartbeats 20000000 in
theorem c_kD {E : Nat → Nat × (Nat → Int32)} {d : Nat} {Q : ez_Q} {h : ez_H} {v : Int32} (S : zSh h) (hE : zE E) (hv : 1 ≤ v.toInt ∧ v.toInt ≤ 4096) (K : ∀ x : Int32, x.toInt = (kD v.toInt.toNat : Nat) → Q (.inl (some (.int x))) h) : pw E d 23 0 [some (.retAddr 3), some (.int v), none, none] [] h Q := by
  have gv := z_rng v
  have F := zW_refl (fun _ _ => False) (fun _ => False) (fun _ => False) h
  apply ez_Wp_in
  show ez_gw _ _ _ _ _ _ (cz_23) _ _ _ _ _
  refine gw_skip _ ?_
  refine z_C (m := 0) rfl rfl (fun x1 ex1 => ?_)
  refine gw_st rfl rfl rfl ?_
  show ez_gw _ _ _ _ _ _ _ _ [some (.retAddr 3), some (.int v), some (.int x1), none] _ _ _
  refine z_C (m := 16) rfl rfl (fun x2 ex2 => ?_)
  refine gw_st rfl rfl rfl ?_
  show ez_gw _ _ _ _ _ _ _ _ [some (.retAddr 3), some (.int v), some (.int x1), some (.int x2)] _ _ _
  exact ez_Wp_at ((c_kD_L0 (v := v) S hE hv K (((x2.toInt + 1)).toNat + 1)) h x1 x2 F (by omega) (kbI_0 (by show 1 ≤ v.toInt.toNat; omega) (by omega) (by omega) (by decide)) (by omega)) rfl
set_option maxRecDepth 4000 in
set_option maxHeartbeats 20000000 in
theorem c_wsum_L0 {E : Nat → Nat × (Nat → Int32)} {d : Nat} {Q : ez_Q} {h : ez_H} {u : Nat} {w : Nat} {n : Int32} (S : zSh h) {nu nw : Nat} (hu : zA u nu) (hw : zA w nw) (hn : 0 ≤ n.toInt ∧ n.toInt ≤ nu ∧ n.toInt ≤ nw ∧ nu ≤ 300 ∧ nw ≤ 300) (hU : aR (ez_I h u) n.toInt.toNat 0 601) (hW : aR (ez_I h w) n.toInt.toNat 0 15) (K : ∀ x : Int32, x.toInt = (sm (fun i => (ez_I h u i).toInt * (ez_I h w i).toInt) n.toInt.toNat) → 0 ≤ x.toInt → Q (.inl (some (.int x))) h) : ∀ N : Nat, (∀ (h2 : ez_H) (c : Int32) (i : Int32) , zW (fun _ _ => False) (fun _ => False) (fun _ => False) h h2 → (0 ≤ i.toInt ∧ i.toInt ≤ n.toInt ∧ 0 ≤ c.toInt ∧ c.toInt ≤ 9015 * i.toInt ∧ c.toInt = (sm (fun i => (ez_I h u i).toInt * (ez_I h w i).toInt) i.toInt.toNat)) → (1000 - i.toInt) < (N : Int) → pw E d 22 5 [some (.ref u), some (.ref w), some (.int n), some (.int c), some (.int i)] [] h2 Q) := by
  intro N
  induction N with
  | zero => exact fun h2 c i  F hinv  hm => absurd hm (by have w_c := z_rng c; have w_i := z_rng i; have gn := z_rng n; omega)
  | succ N ih =>
    refine fun h2 c i  F hinv  hm => ?_
    · skip
      have w_c := z_rng c
      have w_i := z_rng i
      have gn := z_rng n
      have S2 := zW_sh F S
      apply ez_Wp_in
      show ez_gw _ _ _ _ _ _ (cz_22) _ _ _ _ _
      refine gw_skip _ ?_
      refine gw_ld rfl rfl ?_
      refine gw_ld rfl rfl ?_
      refine z_b2 (fun c1 => ?_) (fun c1 => ?_)
      · have c1 : n.toInt ≤ i.toInt := c1
        refine gw_skip _ ?_
        refine gw_ld rfl rfl ?_
        refine z_ri ?_
        exact zW_Q F (K _ (by rw [show n.toInt.toNat = i.toInt.toNat by omega]; omega) (by omega))
      · have c1 : ¬ (n.toInt ≤ i.toInt) := c1
        refine gw_ld rfl rfl ?_
        refine gw_ld rfl rfl ?_
        refine z_al (n := nu) (.inl ((hu _ S2).1)) ((hu _ S2).2) (by omega) (fun x2 ex2 => ?_)
        refine z_b2 (fun c3 => ?_) (fun c3 => ?_)
        · have c3 : x2.toInt ≤ i.toInt := c3
          refine gw_skip _ ?_
          refine gw_ld rfl rfl ?_
          refine z_ri ?_
          exact zW_Q F (K _ (by rw [show n.toInt.toNat = i.toInt.toNat by omega]; omega) (by omega))
        · have c3 : ¬ (x2.toInt ≤ i.toInt) := c3
          refine gw_ld rfl rfl ?_
          refine gw_ld rfl rfl ?_
          refine z_al (n := nw) (.inl ((hw _ S2).1)) ((hw _ S2).2) (by omega) (fun x4 ex4 => ?_)
          refine z_b2 (fun c5 => ?_) (fun c5 => ?_)
          · have c5 : x4.toInt ≤ i.toInt := c5
            refine gw_skip _ ?_
            refine gw_ld rfl rfl ?_
            refine z_ri ?_
            exact zW_Q F (K _ (by rw [show n.toInt.toNat = i.toInt.toNat by omega]; omega) (by omega))
          · have c5 : ¬ (x4.toInt ≤ i.toInt) := c5
            refine gw_ld rfl rfl ?_
            refine gw_ld rfl rfl ?_
            refine gw_ld rfl rfl ?_
            refine z_iaV (n := nu) ((hu _ S2).1) ((hu _ S2).2) (by omega) (zW_f F (fun c => c) (fun c => c)) ?_
            generalize ex6 : ez_I h u i.toInt.toNat = x6
            have rx6 := z_rng x6
            have yx6 := hU i.toInt.toNat (by omega)
            rw [ex6] at yx6
            refine gw_ld rfl rfl ?_
            refine gw_ld rfl rfl ?_
            refine z_iaV (n := nw) ((hw _ S2).1) ((hw _ S2).2) (by omega) (zW_f F (fun c => c) (fun c => c)) ?_
            generalize ex7 : ez_I h w i.toInt.toNat = x7
            have rx7 := z_rng x7
            have yx7 := hW i.toInt.toNat (by omega)
            rw [ex7] at yx7
            have hp := mulB (c := 9015) yx6 yx7 (by decide)
            refine z_mul (by omega) (fun x8 ex8 => ?_)
            refine z_add (by omega) (fun x9 ex9 => ?_)
            refine gw_st rfl rfl rfl ?_
            show ez_gw _ _ _ _ _ _ _ _ [some (.ref u), some (.ref w), some (.int n), some (.int x9), some (.int i)] _ _ _
            refine z_inc rfl (by rw [show (1 : Int32).toInt = 1 from rfl]; omega) (fun x10 ex10 => ?_)
            rw [show (1 : Int32).toInt = 1 from rfl] at ex10
            show ez_gw _ _ _ _ _ _ _ _ [some (.ref u), some (.ref w), some (.int n), some (.int x9), some (.int x10)] _ _ _
            refine z_go ?_
            exact ih h2 x9 x10 F (⟨by omega, by omega, by omega, by omega, by rw [show x10.toInt.toNat = i.toInt.toNat + 1 by omega]; show x9.toInt = (sm (fun i => (ez_I h u i).toInt * (ez_I h w i).toInt) i.toInt.toNat) + (ez_I h u i.toInt.toNat).toInt * (ez_I h w i.toInt.toNat).toInt; rw [ex6, ex7]; omega⟩)  (by omega)
set_option maxRecDepth 4000 in
set_option maxHeartbeats 20000000 in
theorem c_wsum {E : Nat → Nat × (Nat → Int32)} {d : Nat} {Q : ez_Q} {h : ez_H} {u : Nat} {w : Nat} {n : Int32} (S : zSh h) {nu nw : Nat} (hu : zA u nu) (hw : zA w nw) (hn : 0 ≤ n.toInt ∧ n.toInt ≤ nu ∧ n.toInt ≤ nw ∧ nu ≤ 300 ∧ nw ≤ 300) (hU : aR (ez_I h u) n.toInt.toNat 0 601) (hW : aR (ez_I h w) n.toInt.toNat 0 15) (K : ∀ x : Int32, x.toInt = (sm (fun i => (ez_I h u i).toInt * (ez_I h w i).toInt) n.toInt.toNat) → 0 ≤ x.toInt → Q (.inl (some (.int x))) h) : pw E d 22 0 [some (.ref u), some (.ref w), some (.int n), none, none] [] h Q := by
  have gn := z_rng n
  have F := zW_refl (fun _ _ => False) (fun _ => False) (fun _ => False) h
  apply ez_Wp_in
  show ez_gw _ _ _ _ _ _ (cz_22) _ _ _ _ _
  refine gw_skip _ ?_
  refine z_C (m := 0) rfl rfl (fun x1 ex1 => ?_)
  refine gw_st rfl rfl rfl ?_
  show ez_gw _ _ _ _ _ _ _ _ [some (.ref u), some (.ref w), some (.int n), some (.int x1), none] _ _ _
  refine z_C (m := 0) rfl rfl (fun x2 ex2 => ?_)
  refine gw_st rfl rfl rfl ?_
  show ez_gw _ _ _ _ _ _ _ _ [some (.ref u), some (.ref w), some (.int n), some (.int x1), some (.int x2)] _ _ _
  exact ez_Wp_at ((c_wsum_L0 (u := u) (w := w) (n := n) S hu hw hn hU hW K (((1000 - x2.toInt)).toNat + 1)) h x1 x2 F (⟨by omega, by omega, by omega, by omega, by rw [show x2.toInt.toNat = 0 by omega]; show x1.toInt = 0; omega⟩)  (by omega)) rfl
set_option maxRecDepth 4000 in
set_option maxHeartbeats 20000000 in
theorem c_cPart {E : Nat → Nat × (Nat → Int32)} {d : Nat} {Q : ez_Q} {h : ez_H} {a : Int32} {ds : Int32} (S : zSh h) (hE : zE E) (hx : 0 ≤ (ez_I h 52 10).toInt ∧ (ez_I h 52 10).toInt ≤ 100000) (hy : 0 ≤ (ez_I h 52 11).toInt ∧ (ez_I h 52 11).toInt ≤ 1000000) (hl : aR (ez_I h 66) 286 0 10000) (hd : aR (ez_I h 67) 30 0 10000) (ha : (ds.toInt = 0 ∧ 0 ≤ a.toInt ∧ a.toInt ≤ 255) ∨ (1 ≤ ds.toInt ∧ ds.toInt ≤ 4096 ∧ 3 ≤ a.toInt ∧ a.toInt ≤ 258)) (K : ∀ h2, zW (fun q k => q = 52 ∧ k = 10 ∨ q = 52 ∧ k = 11) (fun q => q = 66 ∨ q = 67) (fun _ => False) h h2 → ((ds.toInt = 0 ∧ upE (ez_I h 66) (ez_I h2 66) a.toInt.toNat ∧ ez_I h2 67 = ez_I h 67 ∧ (ez_I h2 52 10).toInt = (ez_I h 52 10).toInt ∧ (ez_I h2 52 11).toInt = (ez_I h 52 11).toInt + 1) ∨ (ds.toInt ≠ 0 ∧ upE (ez_I h 66) (ez_I h2 66) (257 + kL a.toInt.toNat) ∧ upE (ez_I h 67) (ez_I h2 67) (kD ds.toInt.toNat) ∧ (ez_I h2 52 10).toInt = (ez_I h 52 10).toInt + LEf (kL a.toInt.toNat) + DEf (kD ds.toInt.toNat) ∧ (ez_I h2 52 11).toInt = (ez_I h 52 11).toInt + a.toInt)) → Q (.inl none) h2) : pw E (d + 1) 117 0 [some (.ref 52), some (.int a), some (.int ds), none, none] [] h Q := by
  have ga := z_rng a
  have gds := z_rng ds
  have F := zW_refl (fun q k => q = 52 ∧ k = 10 ∨ q = 52 ∧ k = 11) (fun q => q = 66 ∨ q = 67) (fun _ => False) h
  apply ez_Wp_in
  show ez_gw _ _ _ _ _ _ (cz_117) _ _ _ _ _
  refine gw_skip _ ?_
  have r1 := z_rng (ez_I h 52 10)
  have r2 := z_rng (ez_I h 52 11)
  refine gw_ld rfl rfl ?_
  refine z_b1 (fun c3 => ?_) (fun c3 => ?_)
  · have c3 : ds.toInt ≤ 0 := c3
    refine gw_skip _ ?_
    refine gw_ld rfl rfl ?_
    refine z_b1 (fun c4 => ?_) (fun c4 => ?_)
    · have c4 : a.toInt < 0 := c4
      refine gw_skip _ ?_
      refine z_rv ?_
      exfalso; omega
    · have c4 : ¬ (a.toInt < 0) := c4
      refine gw_ld rfl rfl ?_
      refine z_C (m := 256) rfl rfl (fun x5 ex5 => ?_)
      refine z_b2 (fun c6 => ?_) (fun c6 => ?_)
      · have c6 : x5.toInt ≤ a.toInt := c6
        refine gw_skip _ ?_
        refine z_rv ?_
        exfalso; omega
      · have c6 : ¬ (x5.toInt ≤ a.toInt) := c6
        refine gw_ld rfl rfl ?_
        refine z_gR (q := 66) (zT S (by decide) rfl) (zRf S (by decide) (by decide) rfl) (by decide) ?_
        refine gw_ld rfl rfl ?_
        refine gw_op rfl ?_
        refine z_ia (n := 286) (zT S (by decide) rfl) (zN S (by decide) rfl) (by omega) ?_
        generalize ex7 : ez_I h 66 a.toInt.toNat = x7
        have rx7 := z_rng x7
        have yx7 := hl a.toInt.toNat (by omega)
        rw [ex7] at yx7
        refine z_C (m := 1) rfl rfl (fun x8 ex8 => ?_)
        refine z_add (by omega) (fun x9 ex9 => ?_)
        refine z_is (n := 286) (zT S (by decide) rfl) (zN S (by decide) rfl) (by omega) (fun h10 e11 => ?_)
        have S12 := zSh_set S e11
        have F13 := zW_setA F e11 (by omega)
        have f14 : ez_I h10 52 10 = (ez_I h 52 10) := (zI_ne e11 (by omega)).trans (rfl)
        have f15 : ez_I h10 52 11 = (ez_I h 52 11) := (zI_ne e11 (by omega)).trans (rfl)
        have A16 : ez_I h10 67 = ez_I h 67 := by rw [zI_fn e11 67 (by decide)]
        have A17 : upE (ez_I h 66) (ez_I h10 66) a.toInt.toNat := ⟨x7, x9, ex7, by omega, zI_eq e11, fun s hs => zI_ne e11 (by omega)⟩
        refine gw_ld rfl rfl ?_
        refine gw_op rfl ?_
        refine z_gI2 (by decide) (zT S12 (by decide) rfl) (f15) ?_
        refine z_C (m := 1) rfl rfl (fun x18 ex18 => ?_)
        refine z_add (by omega) (fun x19 ex19 => ?_)
        refine z_pI (zT S12 (by decide) rfl) (fun h20 e21 => ?_)
        have S22 := zSh_set S12 e21
        have F23 := zW_setF F13 e21 (by omega)
        have f24 : ez_I h20 52 10 = (ez_I h 52 10) := (zI_ne e21 (by decide)).trans (f14)
        have f25 : ez_I h20 52 11 = x19 := zI_eq e21
        have A26 : ez_I h20 67 = ez_I h 67 := by rw [zI_fn e21 67 (by decide)]; exact A16
        have A27 : upE (ez_I h 66) (ez_I h20 66) a.toInt.toNat := by rw [zI_fn e21 66 (by decide)]; exact A17
        clear A16
        clear A17
        refine z_rv ?_
        have t28 := congrArg Int32.toInt (f24)
        have t29 := congrArg Int32.toInt (f25)
        exact K _ F23 (.inl ⟨by omega, A27, A26, by omega, by omega⟩)
  · have c3 : ¬ (ds.toInt ≤ 0) := c3
    refine z_gs ?_
    refine gw_ld rfl rfl ?_
    refine z_cl rfl rfl rfl rfl rfl rfl rfl rfl rfl rfl rfl (trivial) ?_
    refine c_kL S hE (v := a) (by omega) (fun x30 k31 => ?_)
    have rx30 := z_rng x30
    refine gw_st rfl rfl rfl ?_
    show ez_gw _ _ _ _ _ _ _ _ [some (.ref 52), some (.int a), some (.int ds), some (.int x30), none] _ _ _
    refine z_gs ?_
    refine gw_ld rfl rfl ?_
    refine z_cl rfl rfl rfl rfl rfl rfl rfl rfl rfl rfl rfl (trivial) ?_
    refine c_kD S hE (v := ds) (by omega) (fun x32 k33 => ?_)
    have rx32 := z_rng x32
    refine gw_st rfl rfl rfl ?_
    show ez_gw _ _ _ _ _ _ _ _ [some (.ref 52), some (.int a), some (.int ds), some (.int x30), some (.int x32)] _ _ _
    have hkl := kL_ok (v := a.toInt.toNat) (by omega)
    have hkd := kD_ok (v := ds.toInt.toNat) (by omega)
    have hle := LE_5 (kL a.toInt.toNat)
    have hde := DE_13 (kD ds.toInt.toNat)
    refine gw_ld rfl rfl ?_
    refine z_gR (q := 66) (zT S (by decide) rfl) (zRf S (by decide) (by decide) rfl) (by decide) ?_
    refine z_C (m := 257) rfl rfl (fun x34 ex34 => ?_)
    refine gw_ld rfl rfl ?_
    refine z_add (by omega) (fun x35 ex35 => ?_)
    refine gw_op rfl ?_
    refine z_ia (n := 286) (zT S (by decide) rfl) (zN S (by decide) rfl) (by omega) ?_
    generalize ex36 : ez_I h 66 x35.toInt.toNat = x36
    have rx36 := z_rng x36
    have yx36 := hl x35.toInt.toNat (by omega)
    rw [ex36] at yx36
    refine z_C (m := 1) rfl rfl (fun x37 ex37 => ?_)
    refine z_add (by omega) (fun x38 ex38 => ?_)
    refine z_is (n := 286) (zT S (by decide) rfl) (zN S (by decide) rfl) (by omega) (fun h39 e40 => ?_)
    have S41 := zSh_set S e40
    have F42 := zW_setA F e40 (by omega)
    have f43 : ez_I h39 52 10 = (ez_I h 52 10) := (zI_ne e40 (by omega)).trans (rfl)
    have f44 : ez_I h39 52 11 = (ez_I h 52 11) := (zI_ne e40 (by omega)).trans (rfl)
    have A45 : upE (ez_I h 66) (ez_I h39 66) (257 + kL a.toInt.toNat) := ⟨x36, x38, by rw [← ex36]; congr 1; omega, by omega, by rw [show (257 + kL a.toInt.toNat) = x35.toInt.toNat by omega]; exact zI_eq e40, fun s hs => zI_ne e40 (by omega)⟩
    have A46 : ez_I h39 67 = ez_I h 67 := zI_fn e40 67 (by decide)
    refine gw_ld rfl rfl ?_
    refine z_gR (q := 67) (zT S41 (by decide) rfl) (zRf S41 (by decide) (by decide) rfl) (by decide) ?_
    refine gw_ld rfl rfl ?_
    refine gw_op rfl ?_
    refine z_ia (n := 30) (zT S41 (by decide) rfl) (zN S41 (by decide) rfl) (by omega) ?_
    generalize ex47 : ez_I h39 67 x32.toInt.toNat = x47
    have rx47 := z_rng x47
    have yx47 := hd x32.toInt.toNat (by omega)
    rw [show ez_I h39 67 = ez_I h 67 from A46] at ex47
    rw [ex47] at yx47
    refine z_C (m := 1) rfl rfl (fun x48 ex48 => ?_)
    refine z_add (by omega) (fun x49 ex49 => ?_)
    refine z_is (n := 30) (zT S41 (by decide) rfl) (zN S41 (by decide) rfl) (by omega) (fun h50 e51 => ?_)
    have S52 := zSh_set S41 e51
    have F53 := zW_setA F42 e51 (by omega)
    have f54 : ez_I h50 52 10 = (ez_I h 52 10) := (zI_ne e51 (by omega)).trans (f43)
    have f55 : ez_I h50 52 11 = (ez_I h 52 11) := (zI_ne e51 (by omega)).trans (f44)
    have A56 : upE (ez_I h 66) (ez_I h50 66) (257 + kL a.toInt.toNat) := by rw [zI_fn e51 66 (by decide)]; exact A45
    have A57 : upE (ez_I h 67) (ez_I h50 67) (kD ds.toInt.toNat) := ⟨x47, x49, by rw [← ex47]; congr 1; omega, by omega, by rw [show (kD ds.toInt.toNat) = x32.toInt.toNat by omega]; exact zI_eq e51, fun s hs => (zI_ne e51 (by omega)).trans (congrFun A46 s)⟩
    clear A45
    refine gw_ld rfl rfl ?_
    refine gw_op rfl ?_
    refine z_gI2 (by decide) (zT S52 (by decide) rfl) (f54) ?_
    refine z_gs ?_
    refine gw_ld rfl rfl ?_
    refine z_iaE (n := 29) (hE 3) (by omega) ?_
    generalize ex58 : (tz_ar (3 + 1)).getD x30.toInt.toNat 0 = x58
    have rx58 := z_rng x58
    have ox58 := tz_LE (n := x30.toInt.toNat) (by omega)
    rw [ex58] at ox58
    rw [show x30.toInt.toNat = kL a.toInt.toNat by omega] at ox58
    refine z_gs ?_
    refine gw_ld rfl rfl ?_
    refine z_iaE (n := 30) (hE 4) (by omega) ?_
    generalize ex59 : (tz_ar (4 + 1)).getD x32.toInt.toNat 0 = x59
    have rx59 := z_rng x59
    have ox59 := tz_DE (n := x32.toInt.toNat) (by omega)
    rw [ex59] at ox59
    rw [show x32.toInt.toNat = kD ds.toInt.toNat by omega] at ox59
    refine z_add (by omega) (fun x60 ex60 => ?_)
    refine z_add (by omega) (fun x61 ex61 => ?_)
    refine z_pI (zT S52 (by decide) rfl) (fun h62 e63 => ?_)
    have S64 := zSh_set S52 e63
    have F65 := zW_setF F53 e63 (by omega)
    have f66 : ez_I h62 52 10 = x61 := zI_eq e63
    have f67 : ez_I h62 52 11 = (ez_I h 52 11) := (zI_ne e63 (by decide)).trans (f55)
    have A68 : upE (ez_I h 66) (ez_I h62 66) (257 + kL a.toInt.toNat) := by rw [zI_fn e63 66 (by decide)]; exact A56
    have A69 : upE (ez_I h 67) (ez_I h62 67) (kD ds.toInt.toNat) := by rw [zI_fn e63 67 (by decide)]; exact A57
    clear A56
    clear A57
    refine gw_ld rfl rfl ?_
    refine gw_op rfl ?_
    refine z_gI2 (by decide) (zT S64 (by decide) rfl) (f67) ?_
    refine gw_ld rfl rfl ?_
    refine z_add (by omega) (fun x70 ex70 => ?_)
    refine z_pI (zT S64 (by decide) rfl) (fun h71 e72 => ?_)
    have S73 := zSh_set S64 e72
    have F74 := zW_setF F65 e72 (by omega)
    have f75 : ez_I h71 52 10 = x61 := (zI_ne e72 (by decide)).trans (f66)
    have f76 : ez_I h71 52 11 = x70 := zI_eq e72
    have A77 : upE (ez_I h 66) (ez_I h71 66) (257 + kL a.toInt.toNat) := by rw [zI_fn e72 66 (by decide)]; exact A68
    have A78 : upE (ez_I h 67) (ez_I h71 67) (kD ds.toInt.toNat) := by rw [zI_fn e72 67 (by decide)]; exact A69
    clear A68
    clear A69
    refine z_go ?_
    refine gw_skip _ ?_
    refine z_rv ?_
    have t79 := congrArg Int32.toInt (f75)
    have t80 := congrArg Int32.toInt (f76)
    exact K _ F74 (.inr ⟨by omega, A77, A78, by omega, by omega⟩)
set_option maxRecDepth 4000 in
set_option maxHeartbeats 20000000 in
theorem c_cBlock_L0 {E : Nat → Nat × (Nat → Int32)} {d : Nat} {Q : ez_Q} {h : ez_H} {fr : Int32} {to : Int32} (S : zSh h) {am di : Nat → Nat} {c : Nat} (hE : zE E) (hc : (ez_I h 53 1).toInt = c ∧ c ≤ 6000) (hpq : pqG (ez_I h 54) am di c) (hf : 0 ≤ fr.toInt ∧ fr.toInt ≤ to.toInt ∧ to.toInt ≤ c ∧ to.toInt - fr.toInt ≤ 600) (K : ∀ h2, zW (fun q k => q = 52 ∧ k = 10 ∨ q = 52 ∧ k = 11) (fun q => q = 66 ∨ q = 67) (fun _ => False) h h2 → ctI (ez_I h2 66) (cL am di fr.toInt.toNat (to.toInt.toNat - fr.toInt.toNat)) 286 → ctI (ez_I h2 67) (cD di fr.toInt.toNat (to.toInt.toNat - fr.toInt.toNat)) 30 → (ez_I h2 52 10).toInt = (xB am di fr.toInt.toNat (to.toInt.toNat - fr.toInt.toNat) : Nat) → (ez_I h2 52 11).toInt = (bY am di fr.toInt.toNat (to.toInt.toNat - fr.toInt.toNat) : Nat) → Q (.inl none) h2) : ∀ N : Nat, (∀ (h2 : ez_H) (i : Int32) , zW (fun q k => q = 52 ∧ k = 10 ∨ q = 52 ∧ k = 11) (fun q => q = 66 ∨ q = 67) (fun _ => False) h h2 → (fr.toInt ≤ i.toInt ∧ i.toInt ≤ to.toInt ∧ (ez_I h2 52 10).toInt = (xB am di fr.toInt.toNat (i.toInt.toNat - fr.toInt.toNat) : Nat) ∧ (ez_I h2 52 11).toInt = (bY am di fr.toInt.toNat (i.toInt.toNat - fr.toInt.toNat) : Nat)) → ctI (ez_I h2 66) (cL am di fr.toInt.toNat (i.toInt.toNat - fr.toInt.toNat)) 286 → ctI (ez_I h2 67) (cD di fr.toInt.toNat (i.toInt.toNat - fr.toInt.toNat)) 30 → (100000 - i.toInt) < (N : Int) → pw E (d + 2) 116 37 [some (.ref 52), some (.int fr), some (.int to), some (.int i)] [] h2 Q) := by
  intro N
  induction N with
  | zero => exact fun h2 i  F hinv A_cl A_cd hm => absurd hm (by have w_i := z_rng i; have gfr := z_rng fr; have gto := z_rng to; omega)
  | succ N ih =>
    refine fun h2 i  F hinv A_cl A_cd hm => ?_
    · skip
      have w_i := z_rng i
      have gfr := z_rng fr
      have gto := z_rng to
      have S2 := zW_sh F S
      apply ez_Wp_in
      show ez_gw _ _ _ _ _ _ (cz_116) _ _ _ _ _
      refine gw_skip _ ?_
      have r1 := z_rng (ez_I h2 52 10)
      have r2 := z_rng (ez_I h2 52 11)
      refine gw_ld rfl rfl ?_
      refine gw_ld rfl rfl ?_
      refine z_b2 (fun c3 => ?_) (fun c3 => ?_)
      · have c3 : to.toInt ≤ i.toInt := c3
        refine gw_skip _ ?_
        refine z_rv ?_
        have he : (i.toInt.toNat - fr.toInt.toNat) = (to.toInt.toNat - fr.toInt.toNat) := by omega
        rw [← he] at K
        exact K _ F A_cl A_cd (by omega) (by omega)
      · have c3 : ¬ (to.toInt ≤ i.toInt) := c3
        refine gw_ld rfl rfl ?_
        refine gw_ld rfl rfl ?_
        refine z_gR (q := 53) (zT S2 (by decide) rfl) (zRf S2 (by decide) (by decide) rfl) (by decide) ?_
        refine gw_ld rfl rfl ?_
        refine z_cl rfl rfl rfl rfl rfl rfl rfl rfl rfl rfl rfl (zT S2 (by decide) rfl) ?_
        refine c_pamount (k := i) S2 (by rw [(show ez_I h2 53 1 = ez_I h 53 1 from zW_f F (by decide) (by decide))]; omega) (fun x4 k5 => ?_)
        rw [(show ez_I h2 54 = ez_I h 54 from zW_fn F 54 (by decide) (fun k c => by omega))] at k5
        have rx4 := z_rng x4
        obtain ⟨pk1, pk2⟩ := hpq i.toInt.toNat (by omega)
        refine gw_ld rfl rfl ?_
        refine z_gR (q := 53) (zT S2 (by decide) rfl) (zRf S2 (by decide) (by decide) rfl) (by decide) ?_
        refine gw_ld rfl rfl ?_
        refine z_cl rfl rfl rfl rfl rfl rfl rfl rfl rfl rfl rfl (zT S2 (by decide) rfl) ?_
        refine c_pdistance (k := i) S2 (by rw [(show ez_I h2 53 1 = ez_I h 53 1 from zW_f F (by decide) (by decide))]; omega) (fun x6 k7 => ?_)
        rw [(show ez_I h2 54 = ez_I h 54 from zW_fn F 54 (by decide) (fun k c => by omega))] at k7
        have rx6 := z_rng x6
        refine z_cl rfl rfl rfl rfl rfl rfl rfl rfl rfl rfl rfl (zT S2 (by decide) rfl) ?_
        have hxl := xB_le am di fr.toInt.toNat (i.toInt.toNat - fr.toInt.toNat)
        have hbl := bY_le (am := am) (di := di) (a := fr.toInt.toNat) (i.toInt.toNat - fr.toInt.toNat) (fun z hz => by have := (hpq (fr.toInt.toNat + z) (by omega)).2; omega)
        refine c_cPart (a := x4) (ds := x6) S2 hE (by omega) (by omega) (ctI_aR A_cl (fun z => by have := cL_le am di fr.toInt.toNat (i.toInt.toNat - fr.toInt.toNat) z; omega)) (ctI_aR A_cd (fun z => by have := cD_le di fr.toInt.toNat (i.toInt.toNat - fr.toInt.toNat) z; omega)) (by omega) (fun h8 F9 k10 => ?_)
        obtain ⟨w1, w2, w3, w4⟩ := cP_step (am := am) (di := di) (a := fr.toInt.toNat) (j := (i.toInt.toNat - fr.toInt.toNat)) k10 A_cl A_cd (by omega) (by omega) (by rw [show fr.toInt.toNat + (i.toInt.toNat - fr.toInt.toNat) = i.toInt.toNat by omega]; omega) (by rw [show fr.toInt.toNat + (i.toInt.toNat - fr.toInt.toNat) = i.toInt.toNat by omega]; omega)
        have S11 := zW_sh F9 S2
        have F12 := zW_tr F (zW_mono F9 (fun q k hk => by first | omega | exact False.elim hk) (fun q hk => by first | omega | exact False.elim hk) (fun q hk => by first | omega | exact False.elim hk))
        have r13 := z_rng (ez_I h8 52 10)
        have r14 := z_rng (ez_I h8 52 11)
        refine z_inc rfl (by rw [show (1 : Int32).toInt = 1 from rfl]; omega) (fun x15 ex15 => ?_)
        rw [show (1 : Int32).toInt = 1 from rfl] at ex15
        show ez_gw _ _ _ _ _ _ _ _ [some (.ref 52), some (.int fr), some (.int to), some (.int x15)] _ _ _
        refine z_go ?_
        exact ih h8 x15 F12 (⟨by omega, by omega, by rw [show x15.toInt.toNat - fr.toInt.toNat = (i.toInt.toNat - fr.toInt.toNat) + 1 by omega]; omega, by rw [show x15.toInt.toNat - fr.toInt.toNat = (i.toInt.toNat - fr.toInt.toNat) + 1 by omega]; omega⟩) ((by rw [show x15.toInt.toNat - fr.toInt.toNat = (i.toInt.toNat - fr.toInt.toNat) + 1 by omega]; exact w1)) ((by rw [show x15.toInt.toNat - fr.toInt.toNat = (i.toInt.toNat - fr.toInt.toNat) + 1 by omega]; exact w2)) (by omega)
set_option maxRecDepth 4000 in
set_option maxHeartbeats 20000000 in
theorem c_cBlock {E : Nat → Nat × (Nat → Int32)} {d : Nat} {Q : ez_Q} {h : ez_H} {fr : Int32} {to : Int32} (S : zSh h) {am di : Nat → Nat} {c : Nat} (hE : zE E) (hc : (ez_I h 53 1).toInt = c ∧ c ≤ 6000) (hpq : pqG (ez_I h 54) am di c) (hf : 0 ≤ fr.toInt ∧ fr.toInt ≤ to.toInt ∧ to.toInt ≤ c ∧ to.toInt - fr.toInt ≤ 600) (K : ∀ h2, zW (fun q k => q = 52 ∧ k = 10 ∨ q = 52 ∧ k = 11) (fun q => q = 66 ∨ q = 67) (fun _ => False) h h2 → ctI (ez_I h2 66) (cL am di fr.toInt.toNat (to.toInt.toNat - fr.toInt.toNat)) 286 → ctI (ez_I h2 67) (cD di fr.toInt.toNat (to.toInt.toNat - fr.toInt.toNat)) 30 → (ez_I h2 52 10).toInt = (xB am di fr.toInt.toNat (to.toInt.toNat - fr.toInt.toNat) : Nat) → (ez_I h2 52 11).toInt = (bY am di fr.toInt.toNat (to.toInt.toNat - fr.toInt.toNat) : Nat) → Q (.inl none) h2) : pw E (d + 2) 116 0 [some (.ref 52), some (.int fr), some (.int to), none] [] h Q := by
  have gfr := z_rng fr
  have gto := z_rng to
  have F := zW_refl (fun q k => q = 52 ∧ k = 10 ∨ q = 52 ∧ k = 11) (fun q => q = 66 ∨ q = 67) (fun _ => False) h
  apply ez_Wp_in
  show ez_gw _ _ _ _ _ _ (cz_116) _ _ _ _ _
  refine gw_skip _ ?_
  have r1 := z_rng (ez_I h 52 10)
  have r2 := z_rng (ez_I h 52 11)
  refine gw_ld rfl rfl ?_
  refine z_gR (q := 66) (zT S (by decide) rfl) (zRf S (by decide) (by decide) rfl) (by decide) ?_
  refine z_C (m := 0) rfl rfl (fun x3 ex3 => ?_)
  refine z_cl rfl rfl rfl rfl rfl rfl rfl rfl rfl rfl rfl (trivial) ?_
  refine wp_fill (zT S (by decide) rfl) (by rw [show ez_l h 66 = 286 from zN S (by decide) rfl]; omega) ?_
  generalize e5 : ez_rowI h 66 (pf_fill (ez_I h 66) (ez_l h 66) x3) = h4
  have e5 := e5.symm
  have A6 := zIr_at e5 (show ez_l h 66 = 286 from zN S (by decide) rfl)
  have S7 := zSh_row S e5
  have F8 := zW_row F e5 (by omega)
  have f9 : ez_I h4 52 10 = (ez_I h 52 10) := (zI_row e5 (by omega)).trans (rfl)
  have f10 : ez_I h4 52 11 = (ez_I h 52 11) := (zI_row e5 (by omega)).trans (rfl)
  have A11 : (∀ k, k < 286 → ez_I h4 66 k = x3) := A6
  refine gw_ld rfl rfl ?_
  refine z_gR (q := 67) (zT S7 (by decide) rfl) (zRf S7 (by decide) (by decide) rfl) (by decide) ?_
  refine z_C (m := 0) rfl rfl (fun x12 ex12 => ?_)
  have t13 := congrArg Int32.toInt (f9)
  have t14 := congrArg Int32.toInt (f10)
  refine z_cl rfl rfl rfl rfl rfl rfl rfl rfl rfl rfl rfl (trivial) ?_
  refine wp_fill (zT S7 (by decide) rfl) (by rw [show ez_l h4 67 = 30 from zN S7 (by decide) rfl]; omega) ?_
  generalize e16 : ez_rowI h4 67 (pf_fill (ez_I h4 67) (ez_l h4 67) x12) = h15
  have e16 := e16.symm
  have A17 := zIr_at e16 (show ez_l h4 67 = 30 from zN S7 (by decide) rfl)
  have S18 := zSh_row S7 e16
  have F19 := zW_row F8 e16 (by omega)
  have A20 : (∀ k, k < 286 → ez_I h15 66 k = x3) := by rw [zIr_fn e16 66 (by omega)]; exact A11
  have f21 : ez_I h15 52 10 = (ez_I h 52 10) := (zI_row e16 (by omega)).trans (f9)
  have f22 : ez_I h15 52 11 = (ez_I h 52 11) := (zI_row e16 (by omega)).trans (f10)
  have A23 : ctI (ez_I h15 67) (cD di fr.toInt.toNat 0) 30 := ctI_z A17 (by omega) (fun _ => rfl)
  clear A11
  refine gw_ld rfl rfl ?_
  refine z_gR (q := 66) (zT S18 (by decide) rfl) (zRf S18 (by decide) (by decide) rfl) (by decide) ?_
  refine z_C (m := 256) rfl rfl (fun x24 ex24 => ?_)
  refine z_C (m := 1) rfl rfl (fun x25 ex25 => ?_)
  refine z_is (n := 286) (zT S18 (by decide) rfl) (zN S18 (by decide) rfl) (by omega) (fun h26 e27 => ?_)
  have S28 := zSh_set S18 e27
  have F29 := zW_setA F19 e27 (by omega)
  have f30 : ez_I h26 52 10 = (ez_I h 52 10) := (zI_ne e27 (by omega)).trans (f21)
  have f31 : ez_I h26 52 11 = (ez_I h 52 11) := (zI_ne e27 (by omega)).trans (f22)
  have A32 : ctI (ez_I h26 67) (cD di fr.toInt.toNat 0) 30 := by rw [zI_fn e27 67 (by decide)]; exact A23
  have A33 : ctI (ez_I h26 66) (cL am di fr.toInt.toNat 0) 286 := ctI_0 A20 (by omega) e27 (by omega) (fun s => by rw [show x24.toInt.toNat = 256 by omega]; rfl)
  clear A23
  refine gw_ld rfl rfl ?_
  refine z_C (m := 0) rfl rfl (fun x34 ex34 => ?_)
  refine z_pI (zT S28 (by decide) rfl) (fun h35 e36 => ?_)
  have S37 := zSh_set S28 e36
  have F38 := zW_setF F29 e36 (by omega)
  have f39 : ez_I h35 52 10 = x34 := zI_eq e36
  have f40 : ez_I h35 52 11 = (ez_I h 52 11) := (zI_ne e36 (by decide)).trans (f31)
  have A41 : ctI (ez_I h35 67) (cD di fr.toInt.toNat 0) 30 := by rw [zI_fn e36 67 (by decide)]; exact A32
  have A42 : ctI (ez_I h35 66) (cL am di fr.toInt.toNat 0) 286 := by rw [zI_fn e36 66 (by decide)]; exact A33
  clear A32
  clear A33
  refine gw_ld rfl rfl ?_
  refine z_C (m := 0) rfl rfl (fun x43 ex43 => ?_)
  refine z_pI (zT S37 (by decide) rfl) (fun h44 e45 => ?_)
  have S46 := zSh_set S37 e45
  have F47 := zW_setF F38 e45 (by omega)
  have f48 : ez_I h44 52 10 = x34 := (zI_ne e45 (by decide)).trans (f39)
  have f49 : ez_I h44 52 11 = x43 := zI_eq e45
  have A50 : ctI (ez_I h44 67) (cD di fr.toInt.toNat 0) 30 := by rw [zI_fn e45 67 (by decide)]; exact A41
  have A51 : ctI (ez_I h44 66) (cL am di fr.toInt.toNat 0) 286 := by rw [zI_fn e45 66 (by decide)]; exact A42
  clear A41
  clear A42
  refine gw_ld rfl rfl ?_
  refine gw_st rfl rfl rfl ?_
  show ez_gw _ _ _ _ _ _ _ _ [some (.ref 52), some (.int fr), some (.int to), some (.int fr)] _ _ _
  have t52 := congrArg Int32.toInt (f48)
  have t53 := congrArg Int32.toInt (f49)
  exact ez_Wp_at ((c_cBlock_L0 (fr := fr) (to := to) S hE hc hpq hf K (((100000 - fr.toInt)).toNat + 1)) h44 fr F47 (⟨by omega, by omega, by rw [show fr.toInt.toNat - fr.toInt.toNat = 0 by omega]; show _ = ((0 : Nat) : Int); omega, by rw [show fr.toInt.toNat - fr.toInt.toNat = 0 by omega]; show _ = ((0 : Nat) : Int); omega⟩) ((by rw [show fr.toInt.toNat - fr.toInt.toNat = 0 by omega]; exact A51)) ((by rw [show fr.toInt.toNat - fr.toInt.toNat = 0 by omega]; exact A50)) (by omega)) rfl
set_option maxRecDepth 4000 in
set_option maxHeartbeats 20000000 in
theorem c_add {E : Nat → Nat × (Nat → Int32)} {d : Nat} {Q : ez_Q} {h : ez_H} {p : Nat} {v : Int32} (S : zSh h) (hp : p = 2 ∨ p = 4 ∨ p = 50) (hz : 0 ≤ (ez_I h p 1).toInt ∧ (ez_I h p 1).toInt < 6100) (K : ∀ h2, zW (fun q k => q = p ∧ k = 1) (fun q => q = (p + 1)) (fun _ => False) h h2 → (ez_I h2 p 1).toInt = (ez_I h p 1).toInt + 1 → ez_I h2 (p + 1) (ez_I h p 1).toInt.toNat = v → (∀ k, k ≠ (ez_I h p 1).toInt.toNat → ez_I h2 (p + 1) k = ez_I h (p + 1) k) → Q (.inl none) h2) : pw E d 129 0 [some (.ref p), some (.int v)] [] h Q := by
  have gv := z_rng v
  have F := zW_refl (fun q k => q = p ∧ k = 1) (fun q => q = (p + 1)) (fun _ => False) h
  apply ez_Wp_in
  show ez_gw _ _ _ _ _ _ (cz_129) _ _ _ _ _
  refine gw_skip _ ?_
  have r1 := z_rng (ez_I h p 1)
  refine gw_ld rfl rfl ?_
  refine z_gI2 (by decide) ((zRow S hp).1) (rfl) ?_
  refine z_b1 (fun c2 => ?_) (fun c2 => ?_)
  · have c2 : ((ez_I h p 1)).toInt < 0 := c2
    refine gw_skip _ ?_
    refine z_rv ?_
    exfalso; omega
  · have c2 : ¬ (((ez_I h p 1)).toInt < 0) := c2
    refine gw_ld rfl rfl ?_
    refine z_gI2 (by decide) ((zRow S hp).1) (rfl) ?_
    refine gw_ld rfl rfl ?_
    refine z_gR (q := (p + 1)) ((zRow S hp).1) ((zRow S hp).2.1) (by omega) ?_
    refine z_al (n := 6100) (.inl ((zRow S hp).2.2.1)) ((zRow S hp).2.2.2) (by omega) (fun x3 ex3 => ?_)
    refine z_b2 (fun c4 => ?_) (fun c4 => ?_)
    · have c4 : x3.toInt ≤ ((ez_I h p 1)).toInt := c4
      refine gw_skip _ ?_
      refine z_rv ?_
      exfalso; omega
    · have c4 : ¬ (x3.toInt ≤ ((ez_I h p 1)).toInt) := c4
      refine gw_ld rfl rfl ?_
      refine z_gR (q := (p + 1)) ((zRow S hp).1) ((zRow S hp).2.1) (by omega) ?_
      refine gw_ld rfl rfl ?_
      refine z_gI2 (by decide) ((zRow S hp).1) (rfl) ?_
      refine gw_ld rfl rfl ?_
      refine z_is (n := 6100) ((zRow S hp).2.2.1) ((zRow S hp).2.2.2) (by omega) (fun h5 e6 => ?_)
      have S7 := zSh_set S e6
      have F8 := zW_setA F e6 (by omega)
      have f9 : ez_I h5 p 1 = (ez_I h p 1) := (zI_ne e6 (by omega)).trans (rfl)
      have A10 : (ez_I h5 (p + 1) (ez_I h p 1).toInt.toNat = v ∧ ∀ k, k ≠ (ez_I h p 1).toInt.toNat → ez_I h5 (p + 1) k = ez_I h (p + 1) k) := ⟨zI_eq e6, fun k hk => zI_ne e6 (by omega)⟩
      refine gw_ld rfl rfl ?_
      refine gw_op rfl ?_
      refine z_gI2 (by decide) ((zRow S7 hp).1) (f9) ?_
      refine z_C (m := 1) rfl rfl (fun x11 ex11 => ?_)
      refine z_add (by omega) (fun x12 ex12 => ?_)
      refine z_pI ((zRow S7 hp).1) (fun h13 e14 => ?_)
      have S15 := zSh_set S7 e14
      have F16 := zW_setF F8 e14 (by omega)
      have f17 : ez_I h13 p 1 = x12 := zI_eq e14
      have A18 : (ez_I h13 (p + 1) (ez_I h p 1).toInt.toNat = v ∧ ∀ k, k ≠ (ez_I h p 1).toInt.toNat → ez_I h13 (p + 1) k = ez_I h (p + 1) k) := by rw [zI_fn e14 (p + 1) (by omega)]; exact A10
      clear A10
      refine z_rv ?_
      have t19 := congrArg Int32.toInt (f17)
      exact K _ F16 (by omega) A18.1 A18.2
set_option maxRecDepth 4000 in
set_option maxHeartbeats 20000000 in
theorem c_has {E : Nat → Nat × (Nat → Int32)} {d : Nat} {Q : ez_Q} {h : ez_H} {p : Nat} {i : Int32} (S : zSh h) (hp : p = 2 ∨ p = 4 ∨ p = 50) (K : ∀ x : Int32, (x.toInt = 0 ∨ x.toInt = 1) → (x.toInt = 1 → 0 ≤ i.toInt ∧ i.toInt < (ez_I h p 1).toInt ∧ i.toInt < 6100) → (x.toInt = 0 → ¬ (0 ≤ i.toInt ∧ i.toInt < (ez_I h p 1).toInt ∧ i.toInt < 6100)) → Q (.inl (some (.int x))) h) : pw E d 128 0 [some (.ref p), some (.int i)] [] h Q := by
  have gi := z_rng i
  have F := zW_refl (fun _ _ => False) (fun _ => False) (fun _ => False) h
  apply ez_Wp_in
  show ez_gw _ _ _ _ _ _ (cz_128) _ _ _ _ _
  refine gw_skip _ ?_
  refine gw_ld rfl rfl ?_
  refine z_b1 (fun c1 => ?_) (fun c1 => ?_)
  · have c1 : i.toInt < 0 := c1
    refine gw_skip _ ?_
    refine z_C (m := 0) rfl rfl (fun x2 ex2 => ?_)
    refine z_rz (by omega) ?_
    exact zW_Q F (K x2 (by omega) (by omega) (by omega))
  · have c1 : ¬ (i.toInt < 0) := c1
    refine gw_ld rfl rfl ?_
    refine gw_ld rfl rfl ?_
    have r3 := z_rng (ez_I h p 1)
    refine z_gI2 (by decide) ((zRow S hp).1) (zW_f F (fun c => c) (fun c => c)) ?_
    refine z_b2 (fun c4 => ?_) (fun c4 => ?_)
    · have c4 : ((ez_I h p 1)).toInt ≤ i.toInt := c4
      refine gw_skip _ ?_
      refine z_C (m := 0) rfl rfl (fun x5 ex5 => ?_)
      refine z_rz (by omega) ?_
      exact zW_Q F (K x5 (by omega) (by omega) (by omega))
    · have c4 : ¬ (((ez_I h p 1)).toInt ≤ i.toInt) := c4
      refine gw_ld rfl rfl ?_
      refine gw_ld rfl rfl ?_
      refine z_gR (q := (p + 1)) ((zRow S hp).1) ((zRow S hp).2.1) (by omega) ?_
      refine z_al (n := 6100) (.inl ((zRow S hp).2.2.1)) ((zRow S hp).2.2.2) (by omega) (fun x6 ex6 => ?_)
      refine z_b2 (fun c7 => ?_) (fun c7 => ?_)
      · have c7 : x6.toInt ≤ i.toInt := c7
        refine gw_skip _ ?_
        refine z_C (m := 0) rfl rfl (fun x8 ex8 => ?_)
        refine z_rz (by omega) ?_
        exact zW_Q F (K x8 (by omega) (by omega) (by omega))
      · have c7 : ¬ (x6.toInt ≤ i.toInt) := c7
        refine z_C (m := 1) rfl rfl (fun x9 ex9 => ?_)
        refine z_go ?_
        refine gw_skip _ ?_
        refine z_rz (by omega) ?_
        exact zW_Q F (K x9 (by omega) (by omega) (by omega))
set_option maxRecDepth 4000 in
set_option maxHeartbeats 20000000 in
theorem c_put_L0 {E : Nat → Nat × (Nat → Int32)} {d : Nat} {Q : ez_Q} {h : ez_H} {v : Int32} {n : Int32} (S : zSh h) {s : Nat × Nat} (hs : stC (ez_I h 51) (ez_I h 50 1).toInt (ez_I h 68 1).toInt (ez_I h 68 2).toInt s) (h7 : (ez_I h 68 2).toInt ≤ 7) (hv : 0 ≤ v.toInt ∧ v.toInt < 2 ^ n.toInt.toNat) (hn : 0 ≤ n.toInt ∧ n.toInt ≤ 16) (hr : s.2 + n.toInt.toNat ≤ 48800) (K : ∀ h2, zW (fun q k => q = 68 ∧ k = 1 ∨ q = 68 ∧ k = 2 ∨ q = 50 ∧ k = 1) (fun q => q = 51) (fun _ => False) h h2 → stC (ez_I h2 51) (ez_I h2 50 1).toInt (ez_I h2 68 1).toInt (ez_I h2 68 2).toInt (wr s v.toInt.toNat n.toInt.toNat) → (ez_I h2 68 2).toInt ≤ 7 → Q (.inl none) h2) : ∀ N : Nat, (∀ (h2 : ez_H)  , zW (fun q k => q = 68 ∧ k = 1 ∨ q = 68 ∧ k = 2 ∨ q = 50 ∧ k = 1) (fun q => q = 51) (fun _ => False) h h2 → (0 ≤ (ez_I h2 68 2).toInt ∧ (ez_I h2 68 2).toInt ≤ 23) → stC (ez_I h2 51) (ez_I h2 50 1).toInt (ez_I h2 68 1).toInt (ez_I h2 68 2).toInt (wr s v.toInt.toNat n.toInt.toNat) → (ez_I h2 68 2).toInt < (N : Int) → pw E (d + 1) 70 25 [some (.ref 68), some (.int v), some (.int n)] [] h2 Q) := by
  intro N
  induction N with
  | zero => exact fun h2   F hinv A_st hm => absurd hm (by have gv := z_rng v; have gn := z_rng n; have hsA := hs.1; omega)
  | succ N ih =>
    refine fun h2   F hinv A_st hm => ?_
    · skip
      have gv := z_rng v
      have gn := z_rng n
      have hsA := hs.1
      have S2 := zW_sh F S
      have hhd := stC_hd A_st
      have hst := A_st
      obtain ⟨hq0, hq1, hq2, hq3, hq4⟩ := hst
      have hq1b : s.2 + n.toInt.toNat = 8 * (ez_I h2 50 1).toInt.toNat + (ez_I h2 68 2).toInt.toNat := hq1
      have hp23 : (2 : Int) ^ (ez_I h2 68 2).toInt.toNat ≤ 2 ^ 23 := z_pow_le (by omega)
      clear hq2 hq3 hq4 hq1
      apply ez_Wp_in
      show ez_gw _ _ _ _ _ _ (cz_70) _ _ _ _ _
      refine gw_skip _ ?_
      have r1 := z_rng (ez_I h2 68 1)
      have r2 := z_rng (ez_I h2 68 2)
      have r3 := z_rng (ez_I h2 50 1)
      refine gw_ld rfl rfl ?_
      refine z_gI2 (by decide) (zT S2 (by decide) rfl) (rfl) ?_
      refine z_C (m := 8) rfl rfl (fun x4 ex4 => ?_)
      refine z_b2 (fun c5 => ?_) (fun c5 => ?_)
      · have c5 : ((ez_I h2 68 2)).toInt < x4.toInt := c5
        refine gw_skip _ ?_
        refine z_rv ?_
        exact K _ F A_st (by omega)
      · have c5 : ¬ (((ez_I h2 68 2)).toInt < x4.toInt) := c5
        refine gw_ld rfl rfl ?_
        refine z_gR (q := 50) (zT S2 (by decide) rfl) (zRf S2 (by decide) (by decide) rfl) (by decide) ?_
        refine gw_ld rfl rfl ?_
        refine z_gI2 (by decide) (zT S2 (by decide) rfl) (rfl) ?_
        refine z_C (m := 255) rfl rfl (fun x6 ex6 => ?_)
        refine z_and (fun x7 ex7 ux7 wx7 => ?_)
        have rx7 := z_rng x7
        replace ux7 := ux7 (by omega)
        clear wx7
        have vx7 := n_mask (k := 8) (by decide) (by omega) ex7
        rw [show (2 : Int) ^ 8 = 256 from rfl] at vx7
        refine z_cl rfl rfl rfl rfl rfl rfl rfl rfl rfl rfl rfl (zT S2 (by decide) rfl) ?_
        refine c_add (p := 50) (v := x7) S2 (by decide) (by omega) (fun h8 F9 k10 k11 k12 => ?_)
        have S13 := zW_sh F9 S2
        have F14 := zW_tr F (zW_mono F9 (fun q k hk => by first | omega | exact False.elim hk) (fun q hk => by first | omega | exact False.elim hk) (fun q hk => by first | omega | exact False.elim hk))
        have f15 : ez_I h8 68 1 = (ez_I h2 68 1) := (zW_f F9 (by decide) (by decide)).trans (rfl)
        have f16 : ez_I h8 68 2 = (ez_I h2 68 2) := (zW_f F9 (by decide) (by decide)).trans (rfl)
        have r17 := z_rng (ez_I h8 50 1)
        refine gw_ld rfl rfl ?_
        refine gw_op rfl ?_
        refine z_gI2 (by decide) (zT S13 (by decide) rfl) (f15) ?_
        refine z_C (m := 8) rfl rfl (fun x18 ex18 => ?_)
        refine z_2 rfl (fun x19 ex19 => ?_)
        have rx19 := z_rng x19
        have vx19 := n_ushr (n := 8) (by omega) (by decide) (by omega) ex19
        rw [show (2 : Int) ^ 8 = 256 from rfl] at vx19
        refine z_pI (zT S13 (by decide) rfl) (fun h20 e21 => ?_)
        have S22 := zSh_set S13 e21
        have F23 := zW_setF F14 e21 (by omega)
        have f24 : ez_I h20 68 1 = x19 := zI_eq e21
        have f25 : ez_I h20 68 2 = (ez_I h2 68 2) := (zI_ne e21 (by decide)).trans (f16)
        have f26 : ez_I h20 50 1 = (ez_I h8 50 1) := (zI_ne e21 (by decide)).trans (rfl)
        have A27 : (ez_I h20 51 (ez_I h2 50 1).toInt.toNat = x7 ∧ ∀ k, k ≠ (ez_I h2 50 1).toInt.toNat → ez_I h20 51 k = ez_I h2 51 k) := by rw [zI_fn e21 51 (by decide)]; exact ⟨k11, k12⟩
        refine gw_ld rfl rfl ?_
        refine gw_op rfl ?_
        refine z_gI2 (by decide) (zT S22 (by decide) rfl) (f25) ?_
        refine z_C (m := 8) rfl rfl (fun x28 ex28 => ?_)
        refine z_sub (by omega) (fun x29 ex29 => ?_)
        refine z_pI (zT S22 (by decide) rfl) (fun h30 e31 => ?_)
        have S32 := zSh_set S22 e31
        have F33 := zW_setF F23 e31 (by omega)
        have f34 : ez_I h30 68 1 = x19 := (zI_ne e31 (by decide)).trans (f24)
        have f35 : ez_I h30 68 2 = x29 := zI_eq e31
        have f36 : ez_I h30 50 1 = (ez_I h8 50 1) := (zI_ne e31 (by decide)).trans (f26)
        have A37 : (ez_I h30 51 (ez_I h2 50 1).toInt.toNat = x7 ∧ ∀ k, k ≠ (ez_I h2 50 1).toInt.toNat → ez_I h30 51 k = ez_I h2 51 k) := by rw [zI_fn e31 51 (by decide)]; exact A27
        clear A27
        refine z_go ?_
        have t38 := congrArg Int32.toInt (f34)
        have t39 := congrArg Int32.toInt (f35)
        have t40 := congrArg Int32.toInt (f36)
        exact ih h30  F33 (by omega) (stC_out A_st (by omega) (by rw [A37.1]; omega) A37.2 (by omega) (by omega) (by omega)) (by omega)
set_option maxRecDepth 4000 in
set_option maxHeartbeats 20000000 in
theorem c_put {E : Nat → Nat × (Nat → Int32)} {d : Nat} {Q : ez_Q} {h : ez_H} {v : Int32} {n : Int32} (S : zSh h) {s : Nat × Nat} (hs : stC (ez_I h 51) (ez_I h 50 1).toInt (ez_I h 68 1).toInt (ez_I h 68 2).toInt s) (h7 : (ez_I h 68 2).toInt ≤ 7) (hv : 0 ≤ v.toInt ∧ v.toInt < 2 ^ n.toInt.toNat) (hn : 0 ≤ n.toInt ∧ n.toInt ≤ 16) (hr : s.2 + n.toInt.toNat ≤ 48800) (K : ∀ h2, zW (fun q k => q = 68 ∧ k = 1 ∨ q = 68 ∧ k = 2 ∨ q = 50 ∧ k = 1) (fun q => q = 51) (fun _ => False) h h2 → stC (ez_I h2 51) (ez_I h2 50 1).toInt (ez_I h2 68 1).toInt (ez_I h2 68 2).toInt (wr s v.toInt.toNat n.toInt.toNat) → (ez_I h2 68 2).toInt ≤ 7 → Q (.inl none) h2) : pw E (d + 1) 70 0 [some (.ref 68), some (.int v), some (.int n)] [] h Q := by
  have gv := z_rng v
  have gn := z_rng n
  have hsA := hs.1
  have F := zW_refl (fun q k => q = 68 ∧ k = 1 ∨ q = 68 ∧ k = 2 ∨ q = 50 ∧ k = 1) (fun q => q = 51) (fun _ => False) h
  apply ez_Wp_in
  show ez_gw _ _ _ _ _ _ (cz_70) _ _ _ _ _
  refine gw_skip _ ?_
  have r1 := z_rng (ez_I h 68 1)
  have r2 := z_rng (ez_I h 68 2)
  have r3 := z_rng (ez_I h 50 1)
  refine gw_ld rfl rfl ?_
  refine gw_op rfl ?_
  refine z_gI2 (by decide) (zT S (by decide) rfl) (rfl) ?_
  refine gw_ld rfl rfl ?_
  refine gw_ld rfl rfl ?_
  refine z_gI2 (by decide) (zT S (by decide) rfl) (rfl) ?_
  refine z_2 rfl (fun x4 ex4 => ?_)
  have rx4 := z_rng x4
  refine z_2 rfl (fun x5 ex5 => ?_)
  have rx5 := z_rng x5
  have hor := stC_or hs h7 hv (by omega) ex4 ex5
  refine z_pI (zT S (by decide) rfl) (fun h6 e7 => ?_)
  have S8 := zSh_set S e7
  have F9 := zW_setF F e7 (by omega)
  have f10 : ez_I h6 68 1 = x5 := zI_eq e7
  have f11 : ez_I h6 68 2 = (ez_I h 68 2) := (zI_ne e7 (by decide)).trans (rfl)
  have f12 : ez_I h6 50 1 = (ez_I h 50 1) := (zI_ne e7 (by decide)).trans (rfl)
  have A13 : ez_I h6 51 = ez_I h 51 := by rw [zI_fn e7 51 (by decide)]
  refine gw_ld rfl rfl ?_
  refine gw_op rfl ?_
  refine z_gI2 (by decide) (zT S8 (by decide) rfl) (f11) ?_
  refine gw_ld rfl rfl ?_
  refine z_add (by omega) (fun x14 ex14 => ?_)
  refine z_pI (zT S8 (by decide) rfl) (fun h15 e16 => ?_)
  have S17 := zSh_set S8 e16
  have F18 := zW_setF F9 e16 (by omega)
  have f19 : ez_I h15 68 1 = x5 := (zI_ne e16 (by decide)).trans (f10)
  have f20 : ez_I h15 68 2 = x14 := zI_eq e16
  have f21 : ez_I h15 50 1 = (ez_I h 50 1) := (zI_ne e16 (by decide)).trans (f12)
  have A22 : ez_I h15 51 = ez_I h 51 := by rw [zI_fn e16 51 (by decide)]; exact A13
  clear A13
  have t23 := congrArg Int32.toInt (f19)
  have t24 := congrArg Int32.toInt (f20)
  have t25 := congrArg Int32.toInt (f21)
  exact ez_Wp_at ((c_put_L0 (v := v) (n := n) S hs h7 hv hn hr K (((ez_I h15 68 2).toInt).toNat + 1)) h15  F18 (by omega) ((by rw [A22]; exact stC_same (stC_put hs hv (by omega) (hd2 := x5.toInt) (hb2 := x14.toInt) hor.1 (by omega)) (by omega) (by rw [f19]) (by rw [f20]))) (by omega)) rfl
end
section
/-! PRINTED by wip/pack: the class: codes -/
set_option maxRecDepth 4000 in
set_option maxHeartbeats 20000000 in
theorem c_coded {E : Nat → Nat × (Nat → Int32)} {d : Nat} {Q : ez_Q} {h : ez_H} {p : Nat} {i : Int32} (S : zSh h) (hp : p = 15 ∨ p = 22 ∨ p = 29 ∨ p = 36 ∨ p = 43) (hL : aR (ez_I h (p + 1)) 288 0 15) (hi : 0 ≤ i.toInt ∧ i.toInt < 288) (K : ∀ x : Int32, (x.toInt = 1 ∧ 1 ≤ (ez_I h (p + 1) i.toInt.toNat).toInt ∧ (ez_I h (p + 1) i.toInt.toNat).toInt ≤ 15 ∨ x.toInt = 0 ∧ (ez_I h (p + 1) i.toInt.toNat).toInt = 0) → Q (.inl (some (.int x))) h) : pw E d 85 0 [some (.ref p), some (.int i)] [] h Q := by
  have gi := z_rng i
  have F := zW_refl (fun _ _ => False) (fun _ => False) (fun _ => False) h
  apply ez_Wp_in
  show ez_gw _ _ _ _ _ _ (cz_85) _ _ _ _ _
  refine gw_skip _ ?_
  refine gw_ld rfl rfl ?_
  refine z_gR (q := (p + 1)) ((zCode S hp).1) ((zCode S hp).2.1.1) (by omega) ?_
  refine gw_ld rfl rfl ?_
  refine z_iaV (n := 288) ((zCode S hp).2.2.1.1) ((zCode S hp).2.2.2.1) (by omega) (zW_f F (fun c => c) (fun c => c)) ?_
  generalize ex1 : ez_I h (p + 1) i.toInt.toNat = x1
  have rx1 := z_rng x1
  have yx1 := hL i.toInt.toNat (by omega)
  rw [ex1] at yx1
  refine z_b1 (fun c2 => ?_) (fun c2 => ?_)
  · have c2 : x1.toInt ≤ 0 := c2
    refine gw_skip _ ?_
    refine z_C (m := 0) rfl rfl (fun x3 ex3 => ?_)
    refine z_rz (by omega) ?_
    exact zW_Q F (K _ (by rw [ex1]; omega))
  · have c2 : ¬ (x1.toInt ≤ 0) := c2
    refine gw_ld rfl rfl ?_
    refine z_gR (q := (p + 1)) ((zCode S hp).1) ((zCode S hp).2.1.1) (by omega) ?_
    refine gw_ld rfl rfl ?_
    refine z_iaV (n := 288) ((zCode S hp).2.2.1.1) ((zCode S hp).2.2.2.1) (by omega) ((zW_f F (fun c => c) (fun c => c)).trans ex1) ?_
    refine z_C (m := 15) rfl rfl (fun x5 ex5 => ?_)
    refine z_b2 (fun c6 => ?_) (fun c6 => ?_)
    · have c6 : x5.toInt < x1.toInt := c6
      refine gw_skip _ ?_
      refine z_C (m := 0) rfl rfl (fun x7 ex7 => ?_)
      refine z_rz (by omega) ?_
      exact zW_Q F (K _ (by rw [ex1]; omega))
    · have c6 : ¬ (x5.toInt < x1.toInt) := c6
      refine z_C (m := 1) rfl rfl (fun x8 ex8 => ?_)
      refine z_go ?_
      refine gw_skip _ ?_
      refine z_rz (by omega) ?_
      exact zW_Q F (K _ (by rw [ex1]; omega))
set_option maxRecDepth 4000 in
set_option maxHeartbeats 20000000 in
theorem c_turned_L0 {E : Nat → Nat × (Nat → Int32)} {d : Nat} {Q : ez_Q} {h : ez_H} {a : Int32} {b : Int32} (S : zSh h) (ha : 0 ≤ a.toInt) (hb : 0 ≤ b.toInt ∧ b.toInt ≤ 15) (K : ∀ x : Int32, x.toInt = (rvN a.toInt.toNat b.toInt.toNat : Nat) → Q (.inl (some (.int x))) h) : ∀ N : Nat, (∀ (h2 : ez_H) (t : Int32) (i : Int32) , zW (fun _ _ => False) (fun _ => False) (fun _ => False) h h2 → (0 ≤ i.toInt ∧ i.toInt ≤ b.toInt ∧ t.toInt = (rvN a.toInt.toNat i.toInt.toNat : Nat)) → (100 - i.toInt) < (N : Int) → pw E d 87 4 [some (.int a), some (.int b), some (.int t), some (.int i)] [] h2 Q) := by
  intro N
  induction N with
  | zero => exact fun h2 t i  F hinv  hm => absurd hm (by have w_t := z_rng t; have w_i := z_rng i; have ga := z_rng a; have gb := z_rng b; omega)
  | succ N ih =>
    refine fun h2 t i  F hinv  hm => ?_
    · skip
      have w_t := z_rng t
      have w_i := z_rng i
      have ga := z_rng a
      have gb := z_rng b
      have S2 := zW_sh F S
      have hrl := rvN_lt a.toInt.toNat i.toInt.toNat
      have hrp : (2 : Nat) ^ i.toInt.toNat ≤ 2 ^ 15 := Nat.pow_le_pow_right (by decide) (by omega)
      apply ez_Wp_in
      show ez_gw _ _ _ _ _ _ (cz_87) _ _ _ _ _
      refine gw_skip _ ?_
      refine gw_ld rfl rfl ?_
      refine gw_ld rfl rfl ?_
      refine z_b2 (fun c1 => ?_) (fun c1 => ?_)
      · have c1 : b.toInt ≤ i.toInt := c1
        refine gw_skip _ ?_
        refine gw_ld rfl rfl ?_
        refine z_ri ?_
        exact zW_Q F (K _ (by rw [show b.toInt.toNat = i.toInt.toNat by omega]; omega))
      · have c1 : ¬ (b.toInt ≤ i.toInt) := c1
        refine gw_ld rfl rfl ?_
        refine z_C (m := 1) rfl rfl (fun x2 ex2 => ?_)
        refine z_2 rfl (fun x3 ex3 => ?_)
        have rx3 := z_rng x3
        have vx3 := n_shl (n := 1) (by omega) (by decide) (by omega) (by omega) ex3
        rw [show (2 : Int) ^ 1 = 2 from rfl] at vx3
        refine gw_ld rfl rfl ?_
        refine gw_ld rfl rfl ?_
        refine z_2 rfl (fun x4 ex4 => ?_)
        have rx4 := z_rng x4
        have vx4 := n_shr (n := i.toInt.toNat) (by omega) (by omega) ex4
        refine z_C (m := 1) rfl rfl (fun x5 ex5 => ?_)
        refine z_and (fun x6 ex6 ux6 wx6 => ?_)
        have rx6 := z_rng x6
        replace ux6 := ux6 (by omega)
        clear wx6
        have vx6 := n_mask (k := 1) (by decide) (by omega) ex6
        rw [show (2 : Int) ^ 1 = 2 from rfl, vx4, n_bit ha] at vx6
        refine z_2 rfl (fun x7 ex7 => ?_)
        have rx7 := z_rng x7
        have vx7 := n_or (n := 1) (a := t.toInt) (by omega) (by omega) (by omega) (by omega) ex7
        refine gw_st rfl rfl rfl ?_
        show ez_gw _ _ _ _ _ _ _ _ [some (.int a), some (.int b), some (.int x7), some (.int i)] _ _ _
        refine z_inc rfl (by rw [show (1 : Int32).toInt = 1 from rfl]; omega) (fun x8 ex8 => ?_)
        rw [show (1 : Int32).toInt = 1 from rfl] at ex8
        show ez_gw _ _ _ _ _ _ _ _ [some (.int a), some (.int b), some (.int x7), some (.int x8)] _ _ _
        refine z_go ?_
        exact ih h2 x7 x8 F (⟨by omega, by omega, by rw [show x8.toInt.toNat = i.toInt.toNat + 1 by omega]; show _ = ((2 * rvN a.toInt.toNat i.toInt.toNat + a.toInt.toNat / 2 ^ i.toInt.toNat % 2 : Nat) : Int); omega⟩)  (by omega)
set_option maxRecDepth 4000 in
set_option maxHeartbeats 20000000 in
theorem c_turned {E : Nat → Nat × (Nat → Int32)} {d : Nat} {Q : ez_Q} {h : ez_H} {a : Int32} {b : Int32} (S : zSh h) (ha : 0 ≤ a.toInt) (hb : 0 ≤ b.toInt ∧ b.toInt ≤ 15) (K : ∀ x : Int32, x.toInt = (rvN a.toInt.toNat b.toInt.toNat : Nat) → Q (.inl (some (.int x))) h) : pw E d 87 0 [some (.int a), some (.int b), none, none] [] h Q := by
  have ga := z_rng a
  have gb := z_rng b
  have F := zW_refl (fun _ _ => False) (fun _ => False) (fun _ => False) h
  apply ez_Wp_in
  show ez_gw _ _ _ _ _ _ (cz_87) _ _ _ _ _
  refine gw_skip _ ?_
  refine z_C (m := 0) rfl rfl (fun x1 ex1 => ?_)
  refine gw_st rfl rfl rfl ?_
  show ez_gw _ _ _ _ _ _ _ _ [some (.int a), some (.int b), some (.int x1), none] _ _ _
  refine z_C (m := 0) rfl rfl (fun x2 ex2 => ?_)
  refine gw_st rfl rfl rfl ?_
  show ez_gw _ _ _ _ _ _ _ _ [some (.int a), some (.int b), some (.int x1), some (.int x2)] _ _ _
  exact ez_Wp_at ((c_turned_L0 (a := a) (b := b) S ha hb K (((100 - x2.toInt)).toNat + 1)) h x1 x2 F (⟨by omega, by omega, by rw [show x2.toInt.toNat = 0 by omega]; show _ = ((0 : Nat) : Int); omega⟩)  (by omega)) rfl
set_option maxRecDepth 4000 in
set_option maxHeartbeats 20000000 in
theorem c_setS {E : Nat → Nat × (Nat → Int32)} {d : Nat} {Q : ez_Q} {h : ez_H} {p : Nat} {i : Int32} {l : Int32} (S : zSh h) (hp : p = 15 ∨ p = 22 ∨ p = 29 ∨ p = 36 ∨ p = 43) (hi : 0 ≤ i.toInt ∧ i.toInt < 288) (hl : 1 ≤ l.toInt ∧ l.toInt ≤ 15) (hw : 0 ≤ (ez_I h (p + 5) l.toInt.toNat).toInt ∧ (ez_I h (p + 5) l.toInt.toNat).toInt ≤ 50000000) (hq : 0 ≤ (ez_I h (p + 6) l.toInt.toNat).toInt ∧ (ez_I h (p + 6) l.toInt.toNat).toInt < 288) (K : ∀ h2, zW (fun _ _ => False) (fun q => q = (p + 2) ∨ q = (p + 4) ∨ q = (p + 5) ∨ q = (p + 6)) (fun _ => False) h h2 → ((ez_I h2 (p + 2) i.toInt.toNat).toInt = (rvN (ez_I h (p + 5) l.toInt.toNat).toInt.toNat l.toInt.toNat : Nat) ∧ ∀ k, k ≠ i.toInt.toNat → ez_I h2 (p + 2) k = ez_I h (p + 2) k) → ((ez_I h2 (p + 5) l.toInt.toNat).toInt = (ez_I h (p + 5) l.toInt.toNat).toInt + 1 ∧ ∀ k, k ≠ l.toInt.toNat → ez_I h2 (p + 5) k = ez_I h (p + 5) k) → (ez_I h2 (p + 4) (ez_I h (p + 6) l.toInt.toNat).toInt.toNat = i ∧ ∀ k, k ≠ (ez_I h (p + 6) l.toInt.toNat).toInt.toNat → ez_I h2 (p + 4) k = ez_I h (p + 4) k) → ((ez_I h2 (p + 6) l.toInt.toNat).toInt = (ez_I h (p + 6) l.toInt.toNat).toInt + 1 ∧ ∀ k, k ≠ l.toInt.toNat → ez_I h2 (p + 6) k = ez_I h (p + 6) k) → Q (.inl none) h2) : pw E (d + 1) 86 0 [some (.ref p), some (.int i), some (.int l), none] [] h Q := by
  have gi := z_rng i
  have gl := z_rng l
  have F := zW_refl (fun _ _ => False) (fun q => q = (p + 2) ∨ q = (p + 4) ∨ q = (p + 5) ∨ q = (p + 6)) (fun _ => False) h
  apply ez_Wp_in
  show ez_gw _ _ _ _ _ _ (cz_86) _ _ _ _ _
  refine gw_skip _ ?_
  refine gw_ld rfl rfl ?_
  refine z_gR (q := (p + 6)) ((zCode S hp).1) ((zCode S hp).2.1.2.2.2.2.2) (by omega) ?_
  refine gw_ld rfl rfl ?_
  refine z_iaV (n := 16) ((zCode S hp).2.2.1.2.2.2.2.2) ((zCode S hp).2.2.2.2.2.2.2.2) (by omega) (congrFun rfl _) ?_
  generalize ex1 : ez_I h (p + 6) l.toInt.toNat = x1
  have rx1 := z_rng x1
  rw [ex1] at hq
  refine gw_st rfl rfl rfl ?_
  show ez_gw _ _ _ _ _ _ _ _ [some (.ref p), some (.int i), some (.int l), some (.int x1)] _ _ _
  refine gw_ld rfl rfl ?_
  refine z_gR (q := (p + 2)) ((zCode S hp).1) ((zCode S hp).2.1.2.1) (by omega) ?_
  refine gw_ld rfl rfl ?_
  refine gw_ld rfl rfl ?_
  refine z_gR (q := (p + 5)) ((zCode S hp).1) ((zCode S hp).2.1.2.2.2.2.1) (by omega) ?_
  refine gw_ld rfl rfl ?_
  refine z_iaV (n := 16) ((zCode S hp).2.2.1.2.2.2.2.1) ((zCode S hp).2.2.2.2.2.2.2.1) (by omega) (congrFun rfl _) ?_
  generalize ex2 : ez_I h (p + 5) l.toInt.toNat = x2
  have rx2 := z_rng x2
  rw [ex2] at hw
  refine gw_ld rfl rfl ?_
  refine z_cl rfl rfl rfl rfl rfl rfl rfl rfl rfl rfl rfl (trivial) ?_
  refine c_turned (a := x2) (b := l) S (by omega) (by omega) (fun x3 k4 => ?_)
  have rx3 := z_rng x3
  refine z_is (n := 288) ((zCode S hp).2.2.1.2.1) ((zCode S hp).2.2.2.2.1) (by omega) (fun h5 e6 => ?_)
  have S7 := zSh_set S e6
  have F8 := zW_setA F e6 (by omega)
  have A9 : ez_I h5 (p + 4) = ez_I h (p + 4) := by rw [zI_fn e6 (p + 4) (by omega)]
  have A10 : ez_I h5 (p + 5) = ez_I h (p + 5) := by rw [zI_fn e6 (p + 5) (by omega)]
  have A11 : ez_I h5 (p + 6) = ez_I h (p + 6) := by rw [zI_fn e6 (p + 6) (by omega)]
  have A12 : ((ez_I h5 (p + 2) i.toInt.toNat).toInt = (rvN (ez_I h (p + 5) l.toInt.toNat).toInt.toNat l.toInt.toNat : Nat) ∧ ∀ k, k ≠ i.toInt.toNat → ez_I h5 (p + 2) k = ez_I h (p + 2) k) := ⟨by rw [zI_eq e6, ex2]; exact k4, fun k hk => zI_ne e6 (by omega)⟩
  refine gw_ld rfl rfl ?_
  refine z_gR (q := (p + 5)) ((zCode S7 hp).1) ((zCode S7 hp).2.1.2.2.2.2.1) (by omega) ?_
  refine gw_ld rfl rfl ?_
  refine gw_op rfl ?_
  refine z_iaV (n := 16) ((zCode S7 hp).2.2.1.2.2.2.2.1) ((zCode S7 hp).2.2.2.2.2.2.2.1) (by omega) ((congrFun A10 _).trans ex2) ?_
  refine z_C (m := 1) rfl rfl (fun x14 ex14 => ?_)
  refine z_add (by omega) (fun x15 ex15 => ?_)
  refine z_is (n := 16) ((zCode S7 hp).2.2.1.2.2.2.2.1) ((zCode S7 hp).2.2.2.2.2.2.2.1) (by omega) (fun h16 e17 => ?_)
  have S18 := zSh_set S7 e17
  have F19 := zW_setA F8 e17 (by omega)
  have A20 : ez_I h16 (p + 4) = ez_I h (p + 4) := by rw [zI_fn e17 (p + 4) (by omega)]; exact A9
  have A21 : ez_I h16 (p + 6) = ez_I h (p + 6) := by rw [zI_fn e17 (p + 6) (by omega)]; exact A11
  have A22 : ((ez_I h16 (p + 2) i.toInt.toNat).toInt = (rvN (ez_I h (p + 5) l.toInt.toNat).toInt.toNat l.toInt.toNat : Nat) ∧ ∀ k, k ≠ i.toInt.toNat → ez_I h16 (p + 2) k = ez_I h (p + 2) k) := by rw [zI_fn e17 (p + 2) (by omega)]; exact A12
  have A23 : ((ez_I h16 (p + 5) l.toInt.toNat).toInt = (ez_I h (p + 5) l.toInt.toNat).toInt + 1 ∧ ∀ k, k ≠ l.toInt.toNat → ez_I h16 (p + 5) k = ez_I h (p + 5) k) := ⟨by rw [zI_eq e17, ex2]; omega, fun k hk => (zI_ne e17 (by omega)).trans (congrFun A10 k)⟩
  clear A9
  clear A11
  clear A12
  refine gw_ld rfl rfl ?_
  refine z_b1 (fun c24 => ?_) (fun c24 => ?_)
  · have c24 : x1.toInt < 0 := c24
    refine gw_skip _ ?_
    refine z_rv ?_
    exfalso; omega
  · have c24 : ¬ (x1.toInt < 0) := c24
    refine gw_ld rfl rfl ?_
    refine gw_ld rfl rfl ?_
    refine z_gR (q := (p + 4)) ((zCode S18 hp).1) ((zCode S18 hp).2.1.2.2.2.1) (by omega) ?_
    refine z_al (n := 288) (.inl ((zCode S18 hp).2.2.1.2.2.2.1)) ((zCode S18 hp).2.2.2.2.2.2.1) (by omega) (fun x25 ex25 => ?_)
    refine z_b2 (fun c26 => ?_) (fun c26 => ?_)
    · have c26 : x25.toInt ≤ x1.toInt := c26
      refine gw_skip _ ?_
      refine z_rv ?_
      exfalso; omega
    · have c26 : ¬ (x25.toInt ≤ x1.toInt) := c26
      refine gw_ld rfl rfl ?_
      refine z_gR (q := (p + 4)) ((zCode S18 hp).1) ((zCode S18 hp).2.1.2.2.2.1) (by omega) ?_
      refine gw_ld rfl rfl ?_
      refine gw_ld rfl rfl ?_
      refine z_is (n := 288) ((zCode S18 hp).2.2.1.2.2.2.1) ((zCode S18 hp).2.2.2.2.2.2.1) (by omega) (fun h27 e28 => ?_)
      have S29 := zSh_set S18 e28
      have F30 := zW_setA F19 e28 (by omega)
      have A31 : ez_I h27 (p + 6) = ez_I h (p + 6) := by rw [zI_fn e28 (p + 6) (by omega)]; exact A21
      have A32 : ((ez_I h27 (p + 2) i.toInt.toNat).toInt = (rvN (ez_I h (p + 5) l.toInt.toNat).toInt.toNat l.toInt.toNat : Nat) ∧ ∀ k, k ≠ i.toInt.toNat → ez_I h27 (p + 2) k = ez_I h (p + 2) k) := by rw [zI_fn e28 (p + 2) (by omega)]; exact A22
      have A33 : ((ez_I h27 (p + 5) l.toInt.toNat).toInt = (ez_I h (p + 5) l.toInt.toNat).toInt + 1 ∧ ∀ k, k ≠ l.toInt.toNat → ez_I h27 (p + 5) k = ez_I h (p + 5) k) := by rw [zI_fn e28 (p + 5) (by omega)]; exact A23
      have A34 : (ez_I h27 (p + 4) (ez_I h (p + 6) l.toInt.toNat).toInt.toNat = i ∧ ∀ k, k ≠ (ez_I h (p + 6) l.toInt.toNat).toInt.toNat → ez_I h27 (p + 4) k = ez_I h (p + 4) k) := ⟨by rw [ex1]; exact zI_eq e28, fun k hk => (zI_ne e28 (by rw [ex1] at hk; omega)).trans (congrFun A20 k)⟩
      clear A21
      clear A22
      clear A23
      refine gw_ld rfl rfl ?_
      refine z_gR (q := (p + 6)) ((zCode S29 hp).1) ((zCode S29 hp).2.1.2.2.2.2.2) (by omega) ?_
      refine gw_ld rfl rfl ?_
      refine gw_op rfl ?_
      refine z_iaV (n := 16) ((zCode S29 hp).2.2.1.2.2.2.2.2) ((zCode S29 hp).2.2.2.2.2.2.2.2) (by omega) ((congrFun A31 _).trans ex1) ?_
      refine z_C (m := 1) rfl rfl (fun x36 ex36 => ?_)
      refine z_add (by omega) (fun x37 ex37 => ?_)
      refine z_is (n := 16) ((zCode S29 hp).2.2.1.2.2.2.2.2) ((zCode S29 hp).2.2.2.2.2.2.2.2) (by omega) (fun h38 e39 => ?_)
      have S40 := zSh_set S29 e39
      have F41 := zW_setA F30 e39 (by omega)
      have A42 : ((ez_I h38 (p + 2) i.toInt.toNat).toInt = (rvN (ez_I h (p + 5) l.toInt.toNat).toInt.toNat l.toInt.toNat : Nat) ∧ ∀ k, k ≠ i.toInt.toNat → ez_I h38 (p + 2) k = ez_I h (p + 2) k) := by rw [zI_fn e39 (p + 2) (by omega)]; exact A32
      have A43 : ((ez_I h38 (p + 5) l.toInt.toNat).toInt = (ez_I h (p + 5) l.toInt.toNat).toInt + 1 ∧ ∀ k, k ≠ l.toInt.toNat → ez_I h38 (p + 5) k = ez_I h (p + 5) k) := by rw [zI_fn e39 (p + 5) (by omega)]; exact A33
      have A44 : (ez_I h38 (p + 4) (ez_I h (p + 6) l.toInt.toNat).toInt.toNat = i ∧ ∀ k, k ≠ (ez_I h (p + 6) l.toInt.toNat).toInt.toNat → ez_I h38 (p + 4) k = ez_I h (p + 4) k) := by rw [zI_fn e39 (p + 4) (by omega)]; exact A34
      have A45 : ((ez_I h38 (p + 6) l.toInt.toNat).toInt = (ez_I h (p + 6) l.toInt.toNat).toInt + 1 ∧ ∀ k, k ≠ l.toInt.toNat → ez_I h38 (p + 6) k = ez_I h (p + 6) k) := ⟨by rw [zI_eq e39, ex1]; omega, fun k hk => (zI_ne e39 (by omega)).trans (congrFun A31 k)⟩
      clear A32
      clear A33
      clear A34
      refine z_rv ?_
      exact K _ F41 A42 A43 A44 A45
set_option maxRecDepth 4000 in
set_option maxHeartbeats 20000000 in
theorem c_settle_L2 {E : Nat → Nat × (Nat → Int32)} {d : Nat} {Q : ez_Q} {h : ez_H} {p : Nat} (S : zSh h) (hp : p = 15 ∨ p = 22 ∨ p = 29 ∨ p = 36 ∨ p = 43) (hL : aR (ez_I h (p + 1)) 288 0 15) (K : ∀ h2, zW (fun q k => q = p ∧ k = 4) (fun q => q = (p + 2) ∨ q = (p + 3) ∨ q = (p + 4) ∨ q = (p + 5) ∨ q = (p + 6)) (fun _ => False) h h2 → ctC (ez_I h2 (p + 3)) (nL (ez_I h (p + 1))) 288 → (ez_I h2 p 4).toInt = (plN (nL (ez_I h (p + 1))) 288 16 : Nat) → wdI (ez_I h2 (p + 2)) (nL (ez_I h (p + 1))) 288 288 → itI (ez_I h2 (p + 4)) (nL (ez_I h (p + 1))) 288 288 → Q (.inl none) h2) : ∀ N : Nat, (∀ (h2 : ez_H) (w : Int32) (q : Int32) (i : Int32) , zW (fun q k => q = p ∧ k = 4) (fun q => q = (p + 2) ∨ q = (p + 3) ∨ q = (p + 4) ∨ q = (p + 5) ∨ q = (p + 6)) (fun _ => False) h h2 → (0 ≤ i.toInt ∧ i.toInt ≤ 288 ∧ (ez_I h2 p 4).toInt = (plN (nL (ez_I h (p + 1))) 288 16 : Nat)) → ctC (ez_I h2 (p + 3)) (nL (ez_I h (p + 1))) 288 → wdI (ez_I h2 (p + 2)) (nL (ez_I h (p + 1))) 288 i.toInt.toNat → itI (ez_I h2 (p + 4)) (nL (ez_I h (p + 1))) 288 i.toInt.toNat → uT2 (ez_I h2 (p + 5)) (fun l => ncN (nL (ez_I h (p + 1))) 288 l + ctN (nL (ez_I h (p + 1))) l i.toInt.toNat) 16 → uT2 (ez_I h2 (p + 6)) (fun l => plN (nL (ez_I h (p + 1))) 288 l + ctN (nL (ez_I h (p + 1))) l i.toInt.toNat) 16 → (1000 - i.toInt) < (N : Int) → pw E (d + 2) 82 109 [some (.ref p), some (.int w), some (.int q), some (.int i)] [] h2 Q) := by
  intro N
  induction N with
  | zero => exact fun h2 w q i  F hinv A_ct A_wd A_it A_nw A_np hm => absurd hm (by have w_w := z_rng w; have w_q := z_rng q; have w_i := z_rng i; omega)
  | succ N ih =>
    refine fun h2 w q i  F hinv A_ct A_wd A_it A_nw A_np hm => ?_
    · skip
      have w_w := z_rng w
      have w_q := z_rng q
      have w_i := z_rng i
      have S2 := zW_sh F S
      apply ez_Wp_in
      show ez_gw _ _ _ _ _ _ (cz_82) _ _ _ _ _
      refine gw_skip _ ?_
      have r1 := z_rng (ez_I h2 p 4)
      refine gw_ld rfl rfl ?_
      refine gw_ld rfl rfl ?_
      refine z_gR (q := (p + 1)) ((zCode S2 hp).1) ((zCode S2 hp).2.1.1) (by omega) ?_
      refine z_al (n := 288) (.inl ((zCode S2 hp).2.2.1.1)) ((zCode S2 hp).2.2.2.1) (by omega) (fun x2 ex2 => ?_)
      refine z_b2 (fun c3 => ?_) (fun c3 => ?_)
      · have c3 : x2.toInt ≤ i.toInt := c3
        refine gw_skip _ ?_
        refine z_rv ?_
        have he : i.toInt.toNat = 288 := by omega
        have b1 := A_wd
        have b2 := A_it
        rw [he] at b1 b2
        exact K _ F A_ct (by omega) b1 b2
      · have c3 : ¬ (x2.toInt ≤ i.toInt) := c3
        refine gw_ld rfl rfl ?_
        refine gw_ld rfl rfl ?_
        refine z_cl rfl rfl rfl rfl rfl rfl rfl rfl rfl rfl rfl ((zCode S2 hp).1) ?_
        refine c_coded (p := p) (i := i) S2 hp (by rw [(show ez_I h2 (p + 1) = ez_I h (p + 1) from zW_fn F (p + 1) (by omega) (fun k c => by omega))]; exact hL) (by omega) (fun x4 k5 => ?_)
        rw [(show ez_I h2 (p + 1) = ez_I h (p + 1) from zW_fn F (p + 1) (by omega) (fun k c => by omega))] at k5
        have rx4 := z_rng x4
        refine z_b1 (fun c6 => ?_) (fun c6 => ?_)
        · have c6 : x4.toInt = 0 := c6
          refine gw_skip _ ?_
          refine z_inc rfl (by rw [show (1 : Int32).toInt = 1 from rfl]; omega) (fun x7 ex7 => ?_)
          rw [show (1 : Int32).toInt = 1 from rfl] at ex7
          show ez_gw _ _ _ _ _ _ _ _ [some (.ref p), some (.int w), some (.int q), some (.int x7)] _ _ _
          refine z_go ?_
          exact ih h2 w q x7 F (by omega) A_ct (skI A_wd (show (nL (ez_I h (p + 1))) i.toInt.toNat = 0 by show (ez_I h (p + 1) i.toInt.toNat).toInt.toNat = 0; omega) (by omega)) (skT A_it (show (nL (ez_I h (p + 1))) i.toInt.toNat = 0 by show (ez_I h (p + 1) i.toInt.toNat).toInt.toNat = 0; omega) (by omega)) (uT2_c A_nw (fun l hl => by show ncN (nL (ez_I h (p + 1))) 288 l + _ = ncN (nL (ez_I h (p + 1))) 288 l + _; rw [show x7.toInt.toNat = i.toInt.toNat + 1 by omega, ctN_n (by rw [(show (nL (ez_I h (p + 1))) i.toInt.toNat = 0 by show (ez_I h (p + 1) i.toInt.toNat).toInt.toNat = 0; omega)]; omega)])) (uT2_c A_np (fun l hl => by show plN (nL (ez_I h (p + 1))) 288 l + _ = plN (nL (ez_I h (p + 1))) 288 l + _; rw [show x7.toInt.toNat = i.toInt.toNat + 1 by omega, ctN_n (by rw [(show (nL (ez_I h (p + 1))) i.toInt.toNat = 0 by show (ez_I h (p + 1) i.toInt.toNat).toInt.toNat = 0; omega)]; omega)])) (by omega)
        · have c6 : ¬ (x4.toInt = 0) := c6
          refine gw_ld rfl rfl ?_
          refine gw_ld rfl rfl ?_
          refine gw_ld rfl rfl ?_
          refine z_gR (q := (p + 1)) ((zCode S2 hp).1) ((zCode S2 hp).2.1.1) (by omega) ?_
          refine gw_ld rfl rfl ?_
          refine z_iaV (n := 288) ((zCode S2 hp).2.2.1.1) ((zCode S2 hp).2.2.2.1) (by omega) (zW_f F (by omega) (by omega)) ?_
          generalize ex8 : ez_I h (p + 1) i.toInt.toNat = x8
          have rx8 := z_rng x8
          have yx8 := hL i.toInt.toNat (by omega)
          rw [ex8] at yx8
          rw [ex8] at k5
          refine z_cl rfl rfl rfl rfl rfl rfl rfl rfl rfl rfl rfl ((zCode S2 hp).1) ?_
          have hLi : (nL (ez_I h (p + 1))) i.toInt.toNat = x8.toInt.toNat := by show (ez_I h (p + 1) i.toInt.toNat).toInt.toNat = _; rw [ex8]
          have hw5 := A_nw x8.toInt.toNat (by omega) (by omega)
          have hw6 := A_np x8.toInt.toNat (by omega) (by omega)
          have hcb := ctN_le (nL (ez_I h (p + 1))) x8.toInt.toNat i.toInt.toNat
          have hnb := ncN_b (L := (nL (ez_I h (p + 1)))) (l := x8.toInt.toNat) (by omega)
          have hpc := pcN_288 (L := (nL (ez_I h (p + 1)))) (N := 288) (k := i.toInt.toNat) (by omega) (by omega)
          have hpe : pcN (nL (ez_I h (p + 1))) 288 i.toInt.toNat = plN (nL (ez_I h (p + 1))) 288 x8.toInt.toNat + ctN (nL (ez_I h (p + 1))) x8.toInt.toNat i.toInt.toNat := by unfold pcN; rw [hLi]
          have hw5b : (ez_I h2 (p + 5) x8.toInt.toNat).toInt = ((ncN (nL (ez_I h (p + 1))) 288 x8.toInt.toNat + ctN (nL (ez_I h (p + 1))) x8.toInt.toNat i.toInt.toNat : Nat) : Int) := hw5
          have hw6b : (ez_I h2 (p + 6) x8.toInt.toNat).toInt = ((plN (nL (ez_I h (p + 1))) 288 x8.toInt.toNat + ctN (nL (ez_I h (p + 1))) x8.toInt.toNat i.toInt.toNat : Nat) : Int) := hw6
          refine c_setS (p := p) (i := i) (l := x8) S2 hp (by omega) (by omega) (by omega) (by omega) (fun h9 F10 k11 k12 k13 k14 => ?_)
          have S15 := zW_sh F10 S2
          have F16 := zW_tr F (zW_mono F10 (fun q k hk => by first | omega | exact False.elim hk) (fun q hk => by first | omega | exact False.elim hk) (fun q hk => by first | omega | exact False.elim hk))
          have f17 : ez_I h9 p 4 = (ez_I h2 p 4) := (zW_f F10 (by omega) (fun c => c)).trans (rfl)
          have A18 : ctC (ez_I h9 (p + 3)) (nL (ez_I h (p + 1))) 288 := by rw [zW_fn F10 (p + 3) (by omega) (fun _ c => c)]; exact A_ct
          have hct := ctN_y (L := (nL (ez_I h (p + 1)))) (l := x8.toInt.toNat) (n := i.toInt.toNat) hLi
          refine z_inc rfl (by rw [show (1 : Int32).toInt = 1 from rfl]; omega) (fun x19 ex19 => ?_)
          rw [show (1 : Int32).toInt = 1 from rfl] at ex19
          show ez_gw _ _ _ _ _ _ _ _ [some (.ref p), some (.int w), some (.int q), some (.int x19)] _ _ _
          refine z_go ?_
          have t20 := congrArg Int32.toInt (f17)
          exact ih h9 w q x19 F16 (by omega) A18 ((by rw [show x19.toInt.toNat = i.toInt.toNat + 1 by omega]; exact (wdI_s A_wd k11.1 k11.2 (by rw [hw5b]; show _ = ((rvN (cwN (nL (ez_I h (p + 1))) 288 i.toInt.toNat) ((nL (ez_I h (p + 1))) i.toInt.toNat) : Nat) : Int); unfold cwN; rw [hLi]; congr 3) rfl))) ((by rw [show x19.toInt.toNat = i.toInt.toNat + 1 by omega]; exact (itI_s A_it k13.1 k13.2 (by omega) (by omega) (by omega) (by omega) rfl))) ((by rw [show x19.toInt.toNat = i.toInt.toNat + 1 by omega]; exact (uT2_up A_nw k12.1 k12.2 rfl (by omega) (by show ncN (nL (ez_I h (p + 1))) 288 x8.toInt.toNat + ctN (nL (ez_I h (p + 1))) x8.toInt.toNat (i.toInt.toNat + 1) = _; rw [hct]; rfl) (fun l hl => by show ncN (nL (ez_I h (p + 1))) 288 l + ctN (nL (ez_I h (p + 1))) l (i.toInt.toNat + 1) = _; rw [ctN_n (by omega)])))) ((by rw [show x19.toInt.toNat = i.toInt.toNat + 1 by omega]; exact (uT2_up A_np k14.1 k14.2 rfl (by omega) (by show plN (nL (ez_I h (p + 1))) 288 x8.toInt.toNat + ctN (nL (ez_I h (p + 1))) x8.toInt.toNat (i.toInt.toNat + 1) = _; rw [hct]; rfl) (fun l hl => by show plN (nL (ez_I h (p + 1))) 288 l + ctN (nL (ez_I h (p + 1))) l (i.toInt.toNat + 1) = _; rw [ctN_n (by omega)])))) (by omega)
set_option maxRecDepth 4000 in
set_option maxHeartbeats 20000000 in
theorem c_settle_L1 {E : Nat → Nat × (Nat → Int32)} {d : Nat} {Q : ez_Q} {h : ez_H} {p : Nat} (S : zSh h) (hp : p = 15 ∨ p = 22 ∨ p = 29 ∨ p = 36 ∨ p = 43) (hL : aR (ez_I h (p + 1)) 288 0 15) (K : ∀ h2, zW (fun q k => q = p ∧ k = 4) (fun q => q = (p + 2) ∨ q = (p + 3) ∨ q = (p + 4) ∨ q = (p + 5) ∨ q = (p + 6)) (fun _ => False) h h2 → ctC (ez_I h2 (p + 3)) (nL (ez_I h (p + 1))) 288 → (ez_I h2 p 4).toInt = (plN (nL (ez_I h (p + 1))) 288 16 : Nat) → wdI (ez_I h2 (p + 2)) (nL (ez_I h (p + 1))) 288 288 → itI (ez_I h2 (p + 4)) (nL (ez_I h (p + 1))) 288 288 → Q (.inl none) h2) : ∀ N : Nat, (∀ (h2 : ez_H) (w : Int32) (q : Int32) (le : Int32) , zW (fun q k => q = p ∧ k = 4) (fun q => q = (p + 2) ∨ q = (p + 3) ∨ q = (p + 4) ∨ q = (p + 5) ∨ q = (p + 6)) (fun _ => False) h h2 → (1 ≤ le.toInt ∧ le.toInt ≤ 16 ∧ w.toInt = (ncN (nL (ez_I h (p + 1))) 288 (le.toInt.toNat - 1) : Nat) ∧ q.toInt = (plN (nL (ez_I h (p + 1))) 288 le.toInt.toNat : Nat)) → ctC (ez_I h2 (p + 3)) (nL (ez_I h (p + 1))) 288 → uT2 (ez_I h2 (p + 5)) (fun l => ncN (nL (ez_I h (p + 1))) 288 l) le.toInt.toNat → uT2 (ez_I h2 (p + 6)) (fun l => plN (nL (ez_I h (p + 1))) 288 l) le.toInt.toNat → (100 - le.toInt) < (N : Int) → pw E (d + 2) 82 54 [some (.ref p), some (.int w), some (.int q), some (.int le)] [] h2 Q) := by
  intro N
  induction N with
  | zero => exact fun h2 w q le  F hinv A_ct A_nw A_np hm => absurd hm (by have w_w := z_rng w; have w_q := z_rng q; have w_le := z_rng le; omega)
  | succ N ih =>
    refine fun h2 w q le  F hinv A_ct A_nw A_np hm => ?_
    · skip
      have w_w := z_rng w
      have w_q := z_rng q
      have w_le := z_rng le
      have S2 := zW_sh F S
      have hb1 := ncN_b (L := (nL (ez_I h (p + 1)))) (l := le.toInt.toNat - 1) (by omega)
      have hb2 := plN_le (nL (ez_I h (p + 1))) le.toInt.toNat 288
      have hb3 := plN_s (L := (nL (ez_I h (p + 1)))) (N := 288) (l := le.toInt.toNat) (by omega)
      have hb4 : le.toInt ≤ 15 → _ := fun z => A_ct.2 le.toInt.toNat (by omega) (by omega)
      have hb5 : 2 ≤ le.toInt → _ := fun z => A_ct.2 (le.toInt.toNat - 1) (by omega) (by omega)
      have hb6 := A_ct.1
      have hb7 : 2 ≤ le.toInt → _ := fun z => ncN_s (L := (nL (ez_I h (p + 1)))) (N := 288) (l := le.toInt.toNat - 1) (by omega)
      have hb8 := ctN_le (nL (ez_I h (p + 1))) le.toInt.toNat 288
      have hb9 := ctN_le (nL (ez_I h (p + 1))) (le.toInt.toNat - 1) 288
      apply ez_Wp_in
      show ez_gw _ _ _ _ _ _ (cz_82) _ _ _ _ _
      refine gw_skip _ ?_
      have r1 := z_rng (ez_I h2 p 4)
      refine gw_ld rfl rfl ?_
      refine z_C (m := 15) rfl rfl (fun x2 ex2 => ?_)
      refine z_b2 (fun c3 => ?_) (fun c3 => ?_)
      · have c3 : x2.toInt < le.toInt := c3
        refine gw_skip _ ?_
        refine gw_ld rfl rfl ?_
        refine gw_ld rfl rfl ?_
        refine z_pI ((zCode S2 hp).1) (fun h4 e5 => ?_)
        have S6 := zSh_set S2 e5
        have F7 := zW_setF F e5 (by omega)
        have f8 : ez_I h4 p 4 = q := zI_eq e5
        have A9 : ctC (ez_I h4 (p + 3)) (nL (ez_I h (p + 1))) 288 := by rw [zI_fn e5 (p + 3) (by omega)]; exact A_ct
        have A10 : uT2 (ez_I h4 (p + 5)) (fun l => ncN (nL (ez_I h (p + 1))) 288 l) le.toInt.toNat := by rw [zI_fn e5 (p + 5) (by omega)]; exact A_nw
        have A11 : uT2 (ez_I h4 (p + 6)) (fun l => plN (nL (ez_I h (p + 1))) 288 l) le.toInt.toNat := by rw [zI_fn e5 (p + 6) (by omega)]; exact A_np
        refine z_C (m := 0) rfl rfl (fun x12 ex12 => ?_)
        refine gw_st rfl rfl rfl ?_
        show ez_gw _ _ _ _ _ _ _ _ [some (.ref p), some (.int w), some (.int q), some (.int x12)] _ _ _
        have t13 := congrArg Int32.toInt (f8)
        exact ez_Wp_at ((c_settle_L2 (p := p) S hp hL K (((1000 - x12.toInt)).toNat + 1)) h4 w q x12 F7 (by rw [show le.toInt.toNat = 16 by omega] at hinv; omega) A9 ((by rw [show x12.toInt.toNat = 0 by omega]; exact fun k hk => by omega)) ((by rw [show x12.toInt.toNat = 0 by omega]; exact fun k hk => by omega)) ((by rw [show x12.toInt.toNat = 0 by omega, show (16 : Nat) = le.toInt.toNat by omega]; exact uT2_c A10 (fun l _ => rfl))) ((by rw [show x12.toInt.toNat = 0 by omega, show (16 : Nat) = le.toInt.toNat by omega]; exact uT2_c A11 (fun l _ => rfl))) (by omega)) rfl
      · have c3 : ¬ (x2.toInt < le.toInt) := c3
        refine gw_ld rfl rfl ?_
        refine gw_ld rfl rfl ?_
        refine z_gR (q := (p + 3)) ((zCode S2 hp).1) ((zCode S2 hp).2.1.2.2.1) (by omega) ?_
        refine gw_ld rfl rfl ?_
        refine z_C (m := 1) rfl rfl (fun x14 ex14 => ?_)
        refine z_sub (by omega) (fun x15 ex15 => ?_)
        refine z_ia (n := 16) ((zCode S2 hp).2.2.1.2.2.1) ((zCode S2 hp).2.2.2.2.2.1) (by omega) ?_
        generalize ex16 : ez_I h2 (p + 3) x15.toInt.toNat = x16
        have rx16 := z_rng x16
        have yx16 : x16.toInt = if le.toInt.toNat = 1 then 0 else (ctN (nL (ez_I h (p + 1))) (le.toInt.toNat - 1) 288 : Nat) := by
          rw [← ex16, show x15.toInt.toNat = le.toInt.toNat - 1 by omega]
          by_cases c : le.toInt.toNat = 1
          · rw [if_pos c, c]; exact hb6
          · rw [if_neg c]; exact hb5 (by omega)
        have y2x16 : 0 ≤ x16.toInt ∧ x16.toInt ≤ 288 := by rw [yx16]; split <;> omega
        refine z_add (by omega) (fun x17 ex17 => ?_)
        refine z_C (m := 1) rfl rfl (fun x18 ex18 => ?_)
        refine z_2 rfl (fun x19 ex19 => ?_)
        have rx19 := z_rng x19
        have vx19 := n_shl (n := 1) (by omega) (by decide) (by omega) (by omega) ex19
        rw [show (2 : Int) ^ 1 = 2 from rfl] at vx19
        have hwn : x19.toInt = (ncN (nL (ez_I h (p + 1))) 288 le.toInt.toNat : Nat) := by
          by_cases c : le.toInt.toNat = 1
          · rw [c]; rw [if_pos c] at yx16; rw [c] at hinv; show x19.toInt = ((0 : Nat) : Int); have hz0 : w.toInt = ((0 : Nat) : Int) := hinv.2.2.1; omega
          · rw [if_neg c] at yx16; have q7 := hb7 (by omega); rw [show le.toInt.toNat - 1 + 1 = le.toInt.toNat by omega] at q7; omega
        have hwb := ncN_b (L := (nL (ez_I h (p + 1)))) (l := le.toInt.toNat) (by omega)
        refine gw_st rfl rfl rfl ?_
        show ez_gw _ _ _ _ _ _ _ _ [some (.ref p), some (.int x19), some (.int q), some (.int le)] _ _ _
        refine gw_ld rfl rfl ?_
        refine z_gR (q := (p + 5)) ((zCode S2 hp).1) ((zCode S2 hp).2.1.2.2.2.2.1) (by omega) ?_
        refine gw_ld rfl rfl ?_
        refine gw_ld rfl rfl ?_
        refine z_is (n := 16) ((zCode S2 hp).2.2.1.2.2.2.2.1) ((zCode S2 hp).2.2.2.2.2.2.2.1) (by omega) (fun h20 e21 => ?_)
        have S22 := zSh_set S2 e21
        have F23 := zW_setA F e21 (by omega)
        have f24 : ez_I h20 p 4 = (ez_I h2 p 4) := (zI_ne e21 (by omega)).trans (rfl)
        have A25 : ctC (ez_I h20 (p + 3)) (nL (ez_I h (p + 1))) 288 := by rw [zI_fn e21 (p + 3) (by omega)]; exact A_ct
        have A26 : uT2 (ez_I h20 (p + 5)) (fun l => ncN (nL (ez_I h (p + 1))) 288 l) (le.toInt.toNat + 1) := uT2_s A_nw e21 (by omega) (by omega) rfl
        have A27 : uT2 (ez_I h20 (p + 6)) (fun l => plN (nL (ez_I h (p + 1))) 288 l) le.toInt.toNat := by rw [zI_fn e21 (p + 6) (by omega)]; exact A_np
        refine gw_ld rfl rfl ?_
        refine z_gR (q := (p + 6)) ((zCode S22 hp).1) ((zCode S22 hp).2.1.2.2.2.2.2) (by omega) ?_
        refine gw_ld rfl rfl ?_
        refine gw_ld rfl rfl ?_
        refine z_is (n := 16) ((zCode S22 hp).2.2.1.2.2.2.2.2) ((zCode S22 hp).2.2.2.2.2.2.2.2) (by omega) (fun h28 e29 => ?_)
        have S30 := zSh_set S22 e29
        have F31 := zW_setA F23 e29 (by omega)
        have f32 : ez_I h28 p 4 = (ez_I h2 p 4) := (zI_ne e29 (by omega)).trans (f24)
        have A33 : ctC (ez_I h28 (p + 3)) (nL (ez_I h (p + 1))) 288 := by rw [zI_fn e29 (p + 3) (by omega)]; exact A25
        have A34 : uT2 (ez_I h28 (p + 5)) (fun l => ncN (nL (ez_I h (p + 1))) 288 l) (le.toInt.toNat + 1) := by rw [zI_fn e29 (p + 5) (by omega)]; exact A26
        have A35 : uT2 (ez_I h28 (p + 6)) (fun l => plN (nL (ez_I h (p + 1))) 288 l) (le.toInt.toNat + 1) := uT2_s A27 e29 (by omega) (by omega) rfl
        clear A25
        clear A26
        clear A27
        refine gw_ld rfl rfl ?_
        refine gw_ld rfl rfl ?_
        refine z_gR (q := (p + 3)) ((zCode S30 hp).1) ((zCode S30 hp).2.1.2.2.1) (by omega) ?_
        refine gw_ld rfl rfl ?_
        refine z_ia (n := 16) ((zCode S30 hp).2.2.1.2.2.1) ((zCode S30 hp).2.2.2.2.2.1) (by omega) ?_
        generalize ex36 : ez_I h28 (p + 3) le.toInt.toNat = x36
        have rx36 := z_rng x36
        have yx36 := A33.2 le.toInt.toNat (by omega) (by omega)
        rw [ex36] at yx36
        refine z_add (by omega) (fun x37 ex37 => ?_)
        refine gw_st rfl rfl rfl ?_
        show ez_gw _ _ _ _ _ _ _ _ [some (.ref p), some (.int x19), some (.int x37), some (.int le)] _ _ _
        refine z_inc rfl (by rw [show (1 : Int32).toInt = 1 from rfl]; omega) (fun x38 ex38 => ?_)
        rw [show (1 : Int32).toInt = 1 from rfl] at ex38
        show ez_gw _ _ _ _ _ _ _ _ [some (.ref p), some (.int x19), some (.int x37), some (.int x38)] _ _ _
        refine z_go ?_
        have t39 := congrArg Int32.toInt (f32)
        exact ih h28 x19 x37 x38 F31 (⟨by omega, by omega, by rw [show x38.toInt.toNat - 1 = le.toInt.toNat by omega]; exact hwn, by rw [show x38.toInt.toNat = le.toInt.toNat + 1 by omega, hb3]; have := hb4 (by omega); omega⟩) (A33) ((by rw [show x38.toInt.toNat = le.toInt.toNat + 1 by omega]; exact A34)) ((by rw [show x38.toInt.toNat = le.toInt.toNat + 1 by omega]; exact A35)) (by omega)
set_option maxRecDepth 4000 in
set_option maxHeartbeats 20000000 in
theorem c_settle_L0 {E : Nat → Nat × (Nat → Int32)} {d : Nat} {Q : ez_Q} {h : ez_H} {p : Nat} (S : zSh h) (hp : p = 15 ∨ p = 22 ∨ p = 29 ∨ p = 36 ∨ p = 43) (hL : aR (ez_I h (p + 1)) 288 0 15) (K : ∀ h2, zW (fun q k => q = p ∧ k = 4) (fun q => q = (p + 2) ∨ q = (p + 3) ∨ q = (p + 4) ∨ q = (p + 5) ∨ q = (p + 6)) (fun _ => False) h h2 → ctC (ez_I h2 (p + 3)) (nL (ez_I h (p + 1))) 288 → (ez_I h2 p 4).toInt = (plN (nL (ez_I h (p + 1))) 288 16 : Nat) → wdI (ez_I h2 (p + 2)) (nL (ez_I h (p + 1))) 288 288 → itI (ez_I h2 (p + 4)) (nL (ez_I h (p + 1))) 288 288 → Q (.inl none) h2) : ∀ N : Nat, (∀ (h2 : ez_H) (i : Int32) (l2 : Option Value) (l3 : Option Value) , zW (fun q k => q = p ∧ k = 4) (fun q => q = (p + 2) ∨ q = (p + 3) ∨ q = (p + 4) ∨ q = (p + 5) ∨ q = (p + 6)) (fun _ => False) h h2 → (0 ≤ i.toInt ∧ i.toInt ≤ 288) → ctC (ez_I h2 (p + 3)) (nL (ez_I h (p + 1))) i.toInt.toNat → (1000 - i.toInt) < (N : Int) → pw E (d + 2) 82 10 [some (.ref p), some (.int i), l2, l3] [] h2 Q) := by
  intro N
  induction N with
  | zero => exact fun h2 i l2 l3  F hinv A_ct hm => absurd hm (by have w_i := z_rng i; omega)
  | succ N ih =>
    refine fun h2 i l2 l3  F hinv A_ct hm => ?_
    · skip
      have w_i := z_rng i
      have S2 := zW_sh F S
      apply ez_Wp_in
      show ez_gw _ _ _ _ _ _ (cz_82) _ _ _ _ _
      refine gw_skip _ ?_
      have r1 := z_rng (ez_I h2 p 4)
      refine gw_ld rfl rfl ?_
      refine gw_ld rfl rfl ?_
      refine z_gR (q := (p + 1)) ((zCode S2 hp).1) ((zCode S2 hp).2.1.1) (by omega) ?_
      refine z_al (n := 288) (.inl ((zCode S2 hp).2.2.1.1)) ((zCode S2 hp).2.2.2.1) (by omega) (fun x2 ex2 => ?_)
      refine z_b2 (fun c3 => ?_) (fun c3 => ?_)
      · have c3 : x2.toInt ≤ i.toInt := c3
        refine gw_skip _ ?_
        refine z_C (m := 0) rfl rfl (fun x4 ex4 => ?_)
        refine gw_st rfl rfl rfl ?_
        show ez_gw _ _ _ _ _ _ _ _ [some (.ref p), some (.int x4), l2, l3] _ _ _
        refine z_C (m := 0) rfl rfl (fun x5 ex5 => ?_)
        refine gw_st rfl rfl rfl ?_
        show ez_gw _ _ _ _ _ _ _ _ [some (.ref p), some (.int x4), some (.int x5), l3] _ _ _
        refine z_C (m := 1) rfl rfl (fun x6 ex6 => ?_)
        refine gw_st rfl rfl rfl ?_
        show ez_gw _ _ _ _ _ _ _ _ [some (.ref p), some (.int x4), some (.int x5), some (.int x6)] _ _ _
        exact ez_Wp_at ((c_settle_L1 (p := p) S hp hL K (((100 - x6.toInt)).toNat + 1)) h2 x4 x5 x6 F (⟨by omega, by omega, by rw [show x6.toInt.toNat - 1 = 0 by omega]; show _ = ((0 : Nat) : Int); omega, by rw [show x6.toInt.toNat = 1 by omega]; show _ = ((0 : Nat) : Int); omega⟩) ((by rw [show (288 : Nat) = i.toInt.toNat by omega]; exact A_ct)) ((by rw [show x6.toInt.toNat = 1 by omega]; exact uT2_0 _ _)) ((by rw [show x6.toInt.toNat = 1 by omega]; exact uT2_0 _ _)) (by omega)) rfl
      · have c3 : ¬ (x2.toInt ≤ i.toInt) := c3
        refine gw_ld rfl rfl ?_
        refine gw_ld rfl rfl ?_
        refine z_cl rfl rfl rfl rfl rfl rfl rfl rfl rfl rfl rfl ((zCode S2 hp).1) ?_
        refine c_coded (p := p) (i := i) S2 hp (by rw [(show ez_I h2 (p + 1) = ez_I h (p + 1) from zW_fn F (p + 1) (by omega) (fun k c => by omega))]; exact hL) (by omega) (fun x7 k8 => ?_)
        rw [(show ez_I h2 (p + 1) = ez_I h (p + 1) from zW_fn F (p + 1) (by omega) (fun k c => by omega))] at k8
        have rx7 := z_rng x7
        refine z_b1 (fun c9 => ?_) (fun c9 => ?_)
        · have c9 : x7.toInt = 0 := c9
          refine gw_skip _ ?_
          refine z_inc rfl (by rw [show (1 : Int32).toInt = 1 from rfl]; omega) (fun x10 ex10 => ?_)
          rw [show (1 : Int32).toInt = 1 from rfl] at ex10
          show ez_gw _ _ _ _ _ _ _ _ [some (.ref p), some (.int x10), l2, l3] _ _ _
          refine z_go ?_
          exact ih h2 x10 (l2) (l3) F (by omega) (ctC_n A_ct (show (nL (ez_I h (p + 1))) i.toInt.toNat = 0 by show (ez_I h (p + 1) i.toInt.toNat).toInt.toNat = 0; omega) (by omega)) (by omega)
        · have c9 : ¬ (x7.toInt = 0) := c9
          refine gw_ld rfl rfl ?_
          refine z_gR (q := (p + 3)) ((zCode S2 hp).1) ((zCode S2 hp).2.1.2.2.1) (by omega) ?_
          refine gw_ld rfl rfl ?_
          refine z_gR (q := (p + 1)) ((zCode S2 hp).1) ((zCode S2 hp).2.1.1) (by omega) ?_
          refine gw_ld rfl rfl ?_
          refine z_iaV (n := 288) ((zCode S2 hp).2.2.1.1) ((zCode S2 hp).2.2.2.1) (by omega) (zW_f F (by omega) (by omega)) ?_
          generalize ex11 : ez_I h (p + 1) i.toInt.toNat = x11
          have rx11 := z_rng x11
          have yx11 := hL i.toInt.toNat (by omega)
          rw [ex11] at yx11
          rw [ex11] at k8
          refine gw_op rfl ?_
          refine z_ia (n := 16) ((zCode S2 hp).2.2.1.2.2.1) ((zCode S2 hp).2.2.2.2.2.1) (by omega) ?_
          generalize ex12 : ez_I h2 (p + 3) x11.toInt.toNat = x12
          have rx12 := z_rng x12
          have yx12 := A_ct.2 x11.toInt.toNat (by omega) (by omega)
          rw [ex12] at yx12
          have ux12 := ctN_le (nL (ez_I h (p + 1))) x11.toInt.toNat i.toInt.toNat
          refine z_C (m := 1) rfl rfl (fun x13 ex13 => ?_)
          refine z_add (by omega) (fun x14 ex14 => ?_)
          refine z_is (n := 16) ((zCode S2 hp).2.2.1.2.2.1) ((zCode S2 hp).2.2.2.2.2.1) (by omega) (fun h15 e16 => ?_)
          have S17 := zSh_set S2 e16
          have F18 := zW_setA F e16 (by omega)
          have f19 : ez_I h15 p 4 = (ez_I h2 p 4) := (zI_ne e16 (by omega)).trans (rfl)
          have A20 : ctC (ez_I h15 (p + 3)) (nL (ez_I h (p + 1))) (i.toInt.toNat + 1) := ctC_y A_ct e16 (by show x11.toInt.toNat = (ez_I h (p + 1) i.toInt.toNat).toInt.toNat; rw [ex11]) (by show 1 ≤ (ez_I h (p + 1) i.toInt.toNat).toInt.toNat ∧ (ez_I h (p + 1) i.toInt.toNat).toInt.toNat < 16; rw [ex11]; omega) ex12 (by omega) rfl
          refine z_inc rfl (by rw [show (1 : Int32).toInt = 1 from rfl]; omega) (fun x21 ex21 => ?_)
          rw [show (1 : Int32).toInt = 1 from rfl] at ex21
          show ez_gw _ _ _ _ _ _ _ _ [some (.ref p), some (.int x21), l2, l3] _ _ _
          refine z_go ?_
          have t22 := congrArg Int32.toInt (f19)
          exact ih h15 x21 (l2) (l3) F18 (by omega) ((by rw [show x21.toInt.toNat = i.toInt.toNat + 1 by omega]; exact A20)) (by omega)
set_option maxRecDepth 4000 in
set_option maxHeartbeats 20000000 in
theorem c_settle {E : Nat → Nat × (Nat → Int32)} {d : Nat} {Q : ez_Q} {h : ez_H} {p : Nat} (S : zSh h) (hp : p = 15 ∨ p = 22 ∨ p = 29 ∨ p = 36 ∨ p = 43) (hL : aR (ez_I h (p + 1)) 288 0 15) (K : ∀ h2, zW (fun q k => q = p ∧ k = 4) (fun q => q = (p + 2) ∨ q = (p + 3) ∨ q = (p + 4) ∨ q = (p + 5) ∨ q = (p + 6)) (fun _ => False) h h2 → ctC (ez_I h2 (p + 3)) (nL (ez_I h (p + 1))) 288 → (ez_I h2 p 4).toInt = (plN (nL (ez_I h (p + 1))) 288 16 : Nat) → wdI (ez_I h2 (p + 2)) (nL (ez_I h (p + 1))) 288 288 → itI (ez_I h2 (p + 4)) (nL (ez_I h (p + 1))) 288 288 → Q (.inl none) h2) : pw E (d + 2) 82 0 [some (.ref p), none, none, none] [] h Q := by
  have F := zW_refl (fun q k => q = p ∧ k = 4) (fun q => q = (p + 2) ∨ q = (p + 3) ∨ q = (p + 4) ∨ q = (p + 5) ∨ q = (p + 6)) (fun _ => False) h
  apply ez_Wp_in
  show ez_gw _ _ _ _ _ _ (cz_82) _ _ _ _ _
  refine gw_skip _ ?_
  have r1 := z_rng (ez_I h p 4)
  refine gw_ld rfl rfl ?_
  refine z_gR (q := (p + 3)) ((zCode S hp).1) ((zCode S hp).2.1.2.2.1) (by omega) ?_
  refine z_C (m := 0) rfl rfl (fun x2 ex2 => ?_)
  refine z_cl rfl rfl rfl rfl rfl rfl rfl rfl rfl rfl rfl (trivial) ?_
  refine wp_fill ((zCode S hp).2.2.1.2.2.1) (by rw [show ez_l h (p + 3) = 16 from (zCode S hp).2.2.2.2.2.1]; omega) ?_
  generalize e4 : ez_rowI h (p + 3) (pf_fill (ez_I h (p + 3)) (ez_l h (p + 3)) x2) = h3
  have e4 := e4.symm
  have A5 := zIr_at e4 (show ez_l h (p + 3) = 16 from (zCode S hp).2.2.2.2.2.1)
  have S6 := zSh_row S e4
  have F7 := zW_row F e4 (by omega)
  have f8 : ez_I h3 p 4 = (ez_I h p 4) := (zI_row e4 (by omega)).trans (rfl)
  have A9 : ctC (ez_I h3 (p + 3)) (nL (ez_I h (p + 1))) 0 := ctC_0 A5 (by omega)
  refine z_C (m := 0) rfl rfl (fun x10 ex10 => ?_)
  refine gw_st rfl rfl rfl ?_
  show ez_gw _ _ _ _ _ _ _ _ [some (.ref p), some (.int x10), none, none] _ _ _
  have t11 := congrArg Int32.toInt (f8)
  exact ez_Wp_at ((c_settle_L0 (p := p) S hp hL K (((1000 - x10.toInt)).toNat + 1)) h3 x10 (none) (none) F7 (by omega) ((by rw [show x10.toInt.toNat = 0 by omega]; exact A9)) (by omega)) rfl
end
section
/-! PRINTED by wip/pack: the model: kinds, bits, codes -/
set_option maxRecDepth 4000 in
set_option maxHeartbeats 20000000 in
theorem d_kL_L0 {E : Nat → Nat × (Nat → Int32)} {d : Nat} {Q : ez_Q} {h : ez_H} {n : Int32} (S : zSh h) (hT : ctI (ez_I h 92) LBf 29) (hn : 3 ≤ n.toInt ∧ n.toInt ≤ 258) (K : ∀ x : Int32, x.toInt = (kL n.toInt.toNat : Nat) → Q (.inl (some (.int x))) h) : ∀ N : Nat, (∀ (h2 : ez_H) (k : Int32) , zW (fun _ _ => False) (fun _ => False) (fun _ => False) h h2 → (0 ≤ k.toInt ∧ k.toInt ≤ 28) → (∀ j : Nat, k.toInt < j → j ≤ 28 → n.toInt.toNat < LBf j) → (k.toInt + 1) < (N : Int) → pw E d 33 3 [some (.ref 71), some (.int n), some (.int k)] [] h2 Q) := by
  intro N
  induction N with
  | zero => exact fun h2 k  F hinv A_hi hm => absurd hm (by have w_k := z_rng k; have gn := z_rng n; omega)
  | succ N ih =>
    refine fun h2 k  F hinv A_hi hm => ?_
    · skip
      have w_k := z_rng k
      have gn := z_rng n
      have S2 := zW_sh F S
      have hb0 : LBf 0 = 3 := rfl
      apply ez_Wp_in
      show ez_gw _ _ _ _ _ _ (cz_33) _ _ _ _ _
      refine gw_skip _ ?_
      refine gw_ld rfl rfl ?_
      refine z_gR (q := 92) (zT S2 (by decide) rfl) (zRf S2 (by decide) (by decide) rfl) (by decide) ?_
      refine gw_ld rfl rfl ?_
      refine z_iaV (n := 29) (zT S2 (by decide) rfl) (zN S2 (by decide) rfl) (by omega) (zW_f F (fun c => c) (fun c => c)) ?_
      generalize ex1 : ez_I h 92 k.toInt.toNat = x1
      have rx1 := z_rng x1
      have yx1 := hT k.toInt.toNat (by omega)
      rw [ex1] at yx1
      refine gw_ld rfl rfl ?_
      refine z_b2 (fun c2 => ?_) (fun c2 => ?_)
      · have c2 : x1.toInt ≤ n.toInt := c2
        refine gw_skip _ ?_
        refine gw_ld rfl rfl ?_
        refine z_ri ?_
        exact zW_Q F (K _ (by show k.toInt = (kf LBf n.toInt.toNat 28 : Nat); rw [kf_is 28 (x := k.toInt.toNat) (by omega) (.inl (by omega)) (fun j h1 h2 => A_hi j (by omega) h2)]; omega))
      · have c2 : ¬ (x1.toInt ≤ n.toInt) := c2
        refine z_inc rfl (by rw [show ((-1) : Int32).toInt = (-1) from rfl]; omega) (fun x3 ex3 => ?_)
        rw [show ((-1) : Int32).toInt = (-1) from rfl] at ex3
        show ez_gw _ _ _ _ _ _ _ _ [some (.ref 71), some (.int n), some (.int x3)] _ _ _
        refine z_go ?_
        exact ih h2 x3 F (by have : k.toInt ≠ 0 := (fun c => by rw [show k.toInt.toNat = 0 by omega] at yx1; omega); omega) (fun j h1 h2 => by
          by_cases c : j = k.toInt.toNat
          · subst c; omega
          · exact A_hi j (by omega) h2) (by omega)
set_option maxRecDepth 4000 in
set_option maxHeartbeats 20000000 in
theorem d_kL {E : Nat → Nat × (Nat → Int32)} {d : Nat} {Q : ez_Q} {h : ez_H} {n : Int32} (S : zSh h) (hT : ctI (ez_I h 92) LBf 29) (hn : 3 ≤ n.toInt ∧ n.toInt ≤ 258) (K : ∀ x : Int32, x.toInt = (kL n.toInt.toNat : Nat) → Q (.inl (some (.int x))) h) : pw E d 33 0 [some (.ref 71), some (.int n), none] [] h Q := by
  have gn := z_rng n
  have F := zW_refl (fun _ _ => False) (fun _ => False) (fun _ => False) h
  apply ez_Wp_in
  show ez_gw _ _ _ _ _ _ (cz_33) _ _ _ _ _
  refine gw_skip _ ?_
  refine z_C (m := 28) rfl rfl (fun x1 ex1 => ?_)
  refine gw_st rfl rfl rfl ?_
  show ez_gw _ _ _ _ _ _ _ _ [some (.ref 71), some (.int n), some (.int x1)] _ _ _
  exact ez_Wp_at ((d_kL_L0 (n := n) S hT hn K (((x1.toInt + 1)).toNat + 1)) h x1 F (by omega) (fun j h1 h2 => by omega) (by omega)) rfl
set_option maxRecDepth 4000 in
set_option maxHeartbeats 20000000 in
theorem d_kD_L0 {E : Nat → Nat × (Nat → Int32)} {d : Nat} {Q : ez_Q} {h : ez_H} {n : Int32} (S : zSh h) (hT : ctI (ez_I h 94) DBf 30) (hn : 1 ≤ n.toInt ∧ n.toInt ≤ 4096) (K : ∀ x : Int32, x.toInt = (kD n.toInt.toNat : Nat) → Q (.inl (some (.int x))) h) : ∀ N : Nat, (∀ (h2 : ez_H) (k : Int32) , zW (fun _ _ => False) (fun _ => False) (fun _ => False) h h2 → (0 ≤ k.toInt ∧ k.toInt ≤ 29) → (∀ j : Nat, k.toInt < j → j ≤ 29 → n.toInt.toNat < DBf j) → (k.toInt + 1) < (N : Int) → pw E d 34 3 [some (.ref 71), some (.int n), some (.int k)] [] h2 Q) := by
  intro N
  induction N with
  | zero => exact fun h2 k  F hinv A_hi hm => absurd hm (by have w_k := z_rng k; have gn := z_rng n; omega)
  | succ N ih =>
    refine fun h2 k  F hinv A_hi hm => ?_
    · skip
      have w_k := z_rng k
      have gn := z_rng n
      have S2 := zW_sh F S
      have hb0 : DBf 0 = 1 := rfl
      apply ez_Wp_in
      show ez_gw _ _ _ _ _ _ (cz_34) _ _ _ _ _
      refine gw_skip _ ?_
      refine gw_ld rfl rfl ?_
      refine z_gR (q := 94) (zT S2 (by decide) rfl) (zRf S2 (by decide) (by decide) rfl) (by decide) ?_
      refine gw_ld rfl rfl ?_
      refine z_iaV (n := 30) (zT S2 (by decide) rfl) (zN S2 (by decide) rfl) (by omega) (zW_f F (fun c => c) (fun c => c)) ?_
      generalize ex1 : ez_I h 94 k.toInt.toNat = x1
      have rx1 := z_rng x1
      have yx1 := hT k.toInt.toNat (by omega)
      rw [ex1] at yx1
      refine gw_ld rfl rfl ?_
      refine z_b2 (fun c2 => ?_) (fun c2 => ?_)
      · have c2 : x1.toInt ≤ n.toInt := c2
        refine gw_skip _ ?_
        refine gw_ld rfl rfl ?_
        refine z_ri ?_
        exact zW_Q F (K _ (by show k.toInt = (kf DBf n.toInt.toNat 29 : Nat); rw [kf_is 29 (x := k.toInt.toNat) (by omega) (.inl (by omega)) (fun j h1 h2 => A_hi j (by omega) h2)]; omega))
      · have c2 : ¬ (x1.toInt ≤ n.toInt) := c2
        refine z_inc rfl (by rw [show ((-1) : Int32).toInt = (-1) from rfl]; omega) (fun x3 ex3 => ?_)
        rw [show ((-1) : Int32).toInt = (-1) from rfl] at ex3
        show ez_gw _ _ _ _ _ _ _ _ [some (.ref 71), some (.int n), some (.int x3)] _ _ _
        refine z_go ?_
        exact ih h2 x3 F (by have : k.toInt ≠ 0 := (fun c => by rw [show k.toInt.toNat = 0 by omega] at yx1; omega); omega) (fun j h1 h2 => by
          by_cases c : j = k.toInt.toNat
          · subst c; omega
          · exact A_hi j (by omega) h2) (by omega)
set_option maxRecDepth 4000 in
set_option maxHeartbeats 20000000 in
theorem d_kD {E : Nat → Nat × (Nat → Int32)} {d : Nat} {Q : ez_Q} {h : ez_H} {n : Int32} (S : zSh h) (hT : ctI (ez_I h 94) DBf 30) (hn : 1 ≤ n.toInt ∧ n.toInt ≤ 4096) (K : ∀ x : Int32, x.toInt = (kD n.toInt.toNat : Nat) → Q (.inl (some (.int x))) h) : pw E d 34 0 [some (.ref 71), some (.int n), none] [] h Q := by
  have gn := z_rng n
  have F := zW_refl (fun _ _ => False) (fun _ => False) (fun _ => False) h
  apply ez_Wp_in
  show ez_gw _ _ _ _ _ _ (cz_34) _ _ _ _ _
  refine gw_skip _ ?_
  refine z_C (m := 29) rfl rfl (fun x1 ex1 => ?_)
  refine gw_st rfl rfl rfl ?_
  show ez_gw _ _ _ _ _ _ _ _ [some (.ref 71), some (.int n), some (.int x1)] _ _ _
  exact ez_Wp_at ((d_kD_L0 (n := n) S hT hn K (((x1.toInt + 1)).toNat + 1)) h x1 F (by omega) (fun j h1 h2 => by omega) (by omega)) rfl
set_option maxRecDepth 4000 in
set_option maxHeartbeats 20000000 in
theorem d_wb_L0 {E : Nat → Nat × (Nat → Int32)} {d : Nat} {Q : ez_Q} {h : ez_H} {v : Int32} {n : Int32} (S : zSh h) {s : Nat × Nat} (hs : mst (ez_I h 75) (ez_I h 71 16).toInt s) (hg : aR (ez_I h 75) 8000 (-128) 127) (hn : 0 ≤ n.toInt ∧ n.toInt ≤ 16) (hr : s.2 + n.toInt.toNat ≤ 64000) (K : ∀ h2, zW (fun q k => q = 71 ∧ k = 16) (fun q => q = 75) (fun _ => False) h h2 → mst (ez_I h2 75) (ez_I h2 71 16).toInt (wr s ((v.toInt % 65536).toNat % 2 ^ n.toInt.toNat) n.toInt.toNat) → aR (ez_I h2 75) 8000 (-128) 127 → Q (.inl none) h2) : ∀ N : Nat, (∀ (h2 : ez_H) (k : Int32) , zW (fun q k => q = 71 ∧ k = 16) (fun q => q = 75) (fun _ => False) h h2 → (0 ≤ k.toInt ∧ k.toInt ≤ n.toInt) → mst (ez_I h2 75) (ez_I h2 71 16).toInt (wr s ((v.toInt % 65536).toNat % 2 ^ k.toInt.toNat) k.toInt.toNat) → aR (ez_I h2 75) 8000 (-128) 127 → (100 - k.toInt) < (N : Int) → pw E d 38 2 [some (.ref 71), some (.int v), some (.int n), some (.int k)] [] h2 Q) := by
  intro N
  induction N with
  | zero => exact fun h2 k  F hinv A_st A_rg hm => absurd hm (by have w_k := z_rng k; have gv := z_rng v; have gn := z_rng n; omega)
  | succ N ih =>
    refine fun h2 k  F hinv A_st A_rg hm => ?_
    · skip
      have w_k := z_rng k
      have gv := z_rng v
      have gn := z_rng n
      have S2 := zW_sh F S
      have hq1 := A_st.1
      have hq2 : (ez_I h2 71 16).toInt = ((s.2 + k.toInt.toNat : Nat) : Int) := hq1
      apply ez_Wp_in
      show ez_gw _ _ _ _ _ _ (cz_38) _ _ _ _ _
      refine gw_skip _ ?_
      have r1 := z_rng (ez_I h2 71 16)
      refine gw_ld rfl rfl ?_
      refine gw_ld rfl rfl ?_
      refine z_b2 (fun c2 => ?_) (fun c2 => ?_)
      · have c2 : n.toInt ≤ k.toInt := c2
        refine gw_skip _ ?_
        refine z_rv ?_
        have he : n.toInt.toNat = k.toInt.toNat := by omega
        rw [he] at K
        exact K _ F A_st A_rg
      · have c2 : ¬ (n.toInt ≤ k.toInt) := c2
        refine gw_ld rfl rfl ?_
        refine z_gI2 (by decide) (zT S2 (by decide) rfl) (rfl) ?_
        refine z_C (m := 8) rfl rfl (fun x3 ex3 => ?_)
        refine z_rmP (c := 8) ex3 (by decide) (by omega) (fun x4 ex4 => ?_)
        refine z_b1 (fun c5 => ?_) (fun c5 => ?_)
        · have c5 : x4.toInt ≠ 0 := c5
          refine gw_skip _ ?_
          refine gw_ld rfl rfl ?_
          refine z_gR (q := 75) (zT S2 (by decide) rfl) (zRf S2 (by decide) (by decide) rfl) (by decide) ?_
          refine gw_ld rfl rfl ?_
          refine z_gI2 (by decide) (zT S2 (by decide) rfl) (rfl) ?_
          refine z_C (m := 8) rfl rfl (fun x6 ex6 => ?_)
          refine z_dvP (c := 8) ex6 (by decide) (by omega) (fun x7 ex7 => ?_)
          refine gw_ld rfl rfl ?_
          refine z_gR (q := 75) (zT S2 (by decide) rfl) (zRf S2 (by decide) (by decide) rfl) (by decide) ?_
          refine gw_ld rfl rfl ?_
          refine z_gI2 (by decide) (zT S2 (by decide) rfl) (rfl) ?_
          refine z_C (m := 8) rfl rfl (fun x8 ex8 => ?_)
          refine z_dvP (c := 8) ex8 (by decide) (by omega) (fun x9 ex9 => ?_)
          refine z_ba (n := 8000) (zT S2 (by decide) rfl) (zN S2 (by decide) rfl) (by omega) ?_
          generalize ex10 : ez_I h2 75 x9.toInt.toNat = x10
          have rx10 := z_rng x10
          have yx10 := A_rg x9.toInt.toNat (by omega)
          rw [ex10] at yx10
          have hcur : 0 ≤ x10.toInt ∧ x10.toInt < 2 ^ ((ez_I h2 71 16).toInt.toNat % 8) := by
            have := mst_cur A_st (i := x9.toInt.toNat) (j := (ez_I h2 71 16).toInt.toNat % 8) (by omega) (by omega) (by omega) (by rw [ex10]; omega)
            rw [ex10] at this
            exact this
          refine gw_ld rfl rfl ?_
          refine gw_ld rfl rfl ?_
          refine z_2 rfl (fun x11 ex11 => ?_)
          have rx11 := z_rng x11
          have vx11 := n_shr (n := k.toInt.toNat) (by omega) (by omega) ex11
          refine z_C (m := 1) rfl rfl (fun x12 ex12 => ?_)
          refine z_and (fun x13 ex13 ux13 wx13 => ?_)
          have rx13 := z_rng x13
          replace ux13 := ux13 (by omega)
          clear wx13
          have vx13 := n_mask (k := 1) (by decide) (by omega) ex13
          rw [show (2 : Int) ^ 1 = 2 from rfl, vx11] at vx13
          have v2x13 := vx13
          rw [n_low (by omega)] at v2x13
          refine gw_ld rfl rfl ?_
          refine z_gI2 (by decide) (zT S2 (by decide) rfl) (rfl) ?_
          refine z_C (m := 8) rfl rfl (fun x14 ex14 => ?_)
          refine z_rmP (c := 8) ex14 (by decide) (by omega) (fun x15 ex15 => ?_)
          refine z_2 rfl (fun x16 ex16 => ?_)
          have rx16 := z_rng x16
          refine z_2 rfl (fun x17 ex17 => ?_)
          have rx17 := z_rng x17
          obtain ⟨hsb, hsb2, hsb3⟩ := n_setbit hcur (by omega) (j := (ez_I h2 71 16).toInt.toNat % 8) (by omega) (by omega) ex16 ex17
          refine z_1 rfl (fun x18 ex18 => ?_)
          have rx18 := z_rng x18
          refine z_bs (n := 8000) (zT S2 (by decide) rfl) (zN S2 (by decide) rfl) (by omega) (fun h19 e20 => ?_)
          have S22 := zSh_set S2 e20
          have F23 := zW_setA F e20 (by omega)
          have f24 : ez_I h19 71 16 = (ez_I h2 71 16) := (zI_ne e20 (by omega)).trans (rfl)
          have A25 : aR (ez_I h19 75) 8000 (-128) 127 := aR_up A_rg e20 (n_i2b_rng _)
          have hg1 : (ez_I h19 75 x7.toInt.toNat).toInt % 256 = (if (ez_I h2 71 16).toInt.toNat % 8 = 0 then 0 else (ez_I h2 75 x7.toInt.toNat).toInt % 256) + x13.toInt * 2 ^ ((ez_I h2 71 16).toInt.toNat % 8) := by rw [if_neg (by omega), zI_eq e20, n_i2b, ex18, n_i2b, show ez_I h2 75 x7.toInt.toNat = x10 from (by rw [← ex10]; congr 1; omega)]; omega
          have hg2 : ∀ k, k ≠ x7.toInt.toNat → ez_I h19 75 k = ez_I h2 75 k := fun k hk => zI_ne e20 (by omega)
          refine gw_ld rfl rfl ?_
          refine gw_op rfl ?_
          refine z_gI2 (by decide) (zT S22 (by decide) rfl) (f24) ?_
          refine z_C (m := 1) rfl rfl (fun x26 ex26 => ?_)
          refine z_add (by omega) (fun x27 ex27 => ?_)
          refine z_pI (zT S22 (by decide) rfl) (fun h28 e29 => ?_)
          have S30 := zSh_set S22 e29
          have F31 := zW_setF F23 e29 (by omega)
          have f32 : ez_I h28 71 16 = x27 := zI_eq e29
          have A33 : aR (ez_I h28 75) 8000 (-128) 127 := by rw [zI_fn e29 75 (by decide)]; exact A25
          have A34 : (ez_I h28 75 x7.toInt.toNat).toInt % 256 = (if (ez_I h2 71 16).toInt.toNat % 8 = 0 then 0 else (ez_I h2 75 x7.toInt.toNat).toInt % 256) + x13.toInt * 2 ^ ((ez_I h2 71 16).toInt.toNat % 8) := by rw [zI_fn e29 75 (by decide)]; exact hg1
          have A35 : (∀ k, k ≠ x7.toInt.toNat → ez_I h28 75 k = ez_I h2 75 k) := by rw [zI_fn e29 75 (by decide)]; exact hg2
          clear A25
          refine z_inc rfl (by rw [show (1 : Int32).toInt = 1 from rfl]; omega) (fun x36 ex36 => ?_)
          rw [show (1 : Int32).toInt = 1 from rfl] at ex36
          show ez_gw _ _ _ _ _ _ _ _ [some (.ref 71), some (.int v), some (.int n), some (.int x36)] _ _ _
          refine z_go ?_
          have t37 := congrArg Int32.toInt (f32)
          exact ih h28 x36 F31 (by omega) (mst_next (mst_bit (bit := x13.toInt) A_st (by omega) (i := x7.toInt.toNat) (j := (ez_I h2 71 16).toInt.toNat % 8) (by omega) (by omega) A34 A35 (by omega)) v2x13 (by omega)) (A33) (by omega)
        · have c5 : ¬ (x4.toInt ≠ 0) := c5
          refine gw_ld rfl rfl ?_
          refine z_gR (q := 75) (zT S2 (by decide) rfl) (zRf S2 (by decide) (by decide) rfl) (by decide) ?_
          refine gw_ld rfl rfl ?_
          refine z_gI2 (by decide) (zT S2 (by decide) rfl) (rfl) ?_
          refine z_C (m := 8) rfl rfl (fun x38 ex38 => ?_)
          refine z_dvP (c := 8) ex38 (by decide) (by omega) (fun x39 ex39 => ?_)
          refine z_C (m := 0) rfl rfl (fun x40 ex40 => ?_)
          refine z_bs (n := 8000) (zT S2 (by decide) rfl) (zN S2 (by decide) rfl) (by omega) (fun h41 e42 => ?_)
          have S44 := zSh_set S2 e42
          have F45 := zW_setA F e42 (by omega)
          have f46 : ez_I h41 71 16 = (ez_I h2 71 16) := (zI_ne e42 (by omega)).trans (rfl)
          have A47 : aR (ez_I h41 75) 8000 (-128) 127 := aR_up A_rg e42 (n_i2b_rng _)
          refine gw_ld rfl rfl ?_
          refine z_gR (q := 75) (zT S44 (by decide) rfl) (zRf S44 (by decide) (by decide) rfl) (by decide) ?_
          refine gw_ld rfl rfl ?_
          refine z_gI2 (by decide) (zT S44 (by decide) rfl) (f46) ?_
          refine z_C (m := 8) rfl rfl (fun x48 ex48 => ?_)
          refine z_dvP (c := 8) ex48 (by decide) (by omega) (fun x49 ex49 => ?_)
          refine gw_ld rfl rfl ?_
          refine z_gR (q := 75) (zT S44 (by decide) rfl) (zRf S44 (by decide) (by decide) rfl) (by decide) ?_
          refine gw_ld rfl rfl ?_
          refine z_gI2 (by decide) (zT S44 (by decide) rfl) (f46) ?_
          refine z_C (m := 8) rfl rfl (fun x50 ex50 => ?_)
          refine z_dvP (c := 8) ex50 (by decide) (by omega) (fun x51 ex51 => ?_)
          refine z_ba (n := 8000) (zT S44 (by decide) rfl) (zN S44 (by decide) rfl) (by omega) ?_
          generalize ex52 : ez_I h41 75 x51.toInt.toNat = x52
          have rx52 := z_rng x52
          have yx52 := A47 x51.toInt.toNat (by omega)
          rw [ex52] at yx52
          have hz0 : x52.toInt = 0 := by rw [← ex52, show x51.toInt.toNat = x39.toInt.toNat by omega, zI_eq e42, show x40 = 0 from z_inj (by rw [show (0 : Int32).toInt = 0 from rfl]; omega)]; rfl
          have hcur : 0 ≤ x52.toInt ∧ x52.toInt < 2 ^ ((ez_I h2 71 16).toInt.toNat % 8) := by
            rw [show (ez_I h2 71 16).toInt.toNat % 8 = 0 by omega]; omega
          refine gw_ld rfl rfl ?_
          refine gw_ld rfl rfl ?_
          refine z_2 rfl (fun x53 ex53 => ?_)
          have rx53 := z_rng x53
          have vx53 := n_shr (n := k.toInt.toNat) (by omega) (by omega) ex53
          refine z_C (m := 1) rfl rfl (fun x54 ex54 => ?_)
          refine z_and (fun x55 ex55 ux55 wx55 => ?_)
          have rx55 := z_rng x55
          replace ux55 := ux55 (by omega)
          clear wx55
          have vx55 := n_mask (k := 1) (by decide) (by omega) ex55
          rw [show (2 : Int) ^ 1 = 2 from rfl, vx53] at vx55
          have v2x55 := vx55
          rw [n_low (by omega)] at v2x55
          refine gw_ld rfl rfl ?_
          refine z_gI2 (by decide) (zT S44 (by decide) rfl) (f46) ?_
          refine z_C (m := 8) rfl rfl (fun x56 ex56 => ?_)
          refine z_rmP (c := 8) ex56 (by decide) (by omega) (fun x57 ex57 => ?_)
          refine z_2 rfl (fun x58 ex58 => ?_)
          have rx58 := z_rng x58
          refine z_2 rfl (fun x59 ex59 => ?_)
          have rx59 := z_rng x59
          obtain ⟨hsb, hsb2, hsb3⟩ := n_setbit hcur (by omega) (j := (ez_I h2 71 16).toInt.toNat % 8) (by omega) (by omega) ex58 ex59
          refine z_1 rfl (fun x60 ex60 => ?_)
          have rx60 := z_rng x60
          refine z_bs (n := 8000) (zT S44 (by decide) rfl) (zN S44 (by decide) rfl) (by omega) (fun h61 e62 => ?_)
          have S64 := zSh_set S44 e62
          have F65 := zW_setA F45 e62 (by omega)
          have f66 : ez_I h61 71 16 = (ez_I h2 71 16) := (zI_ne e62 (by omega)).trans (f46)
          have A67 : aR (ez_I h61 75) 8000 (-128) 127 := aR_up A47 e62 (n_i2b_rng _)
          clear A47
          have hg1 : (ez_I h61 75 x49.toInt.toNat).toInt % 256 = (if (ez_I h2 71 16).toInt.toNat % 8 = 0 then 0 else (ez_I h2 75 x49.toInt.toNat).toInt % 256) + x55.toInt * 2 ^ ((ez_I h2 71 16).toInt.toNat % 8) := by rw [if_pos (by omega), zI_eq e62, n_i2b, ex60, n_i2b]; omega
          have hg2 : ∀ k, k ≠ x49.toInt.toNat → ez_I h61 75 k = ez_I h2 75 k := fun k hk => (zI_ne e62 (by omega)).trans (zI_ne e42 (by omega))
          refine gw_ld rfl rfl ?_
          refine gw_op rfl ?_
          refine z_gI2 (by decide) (zT S64 (by decide) rfl) (f66) ?_
          refine z_C (m := 1) rfl rfl (fun x68 ex68 => ?_)
          refine z_add (by omega) (fun x69 ex69 => ?_)
          refine z_pI (zT S64 (by decide) rfl) (fun h70 e71 => ?_)
          have S72 := zSh_set S64 e71
          have F73 := zW_setF F65 e71 (by omega)
          have f74 : ez_I h70 71 16 = x69 := zI_eq e71
          have A75 : aR (ez_I h70 75) 8000 (-128) 127 := by rw [zI_fn e71 75 (by decide)]; exact A67
          have A76 : (ez_I h70 75 x49.toInt.toNat).toInt % 256 = (if (ez_I h2 71 16).toInt.toNat % 8 = 0 then 0 else (ez_I h2 75 x49.toInt.toNat).toInt % 256) + x55.toInt * 2 ^ ((ez_I h2 71 16).toInt.toNat % 8) := by rw [zI_fn e71 75 (by decide)]; exact hg1
          have A77 : (∀ k, k ≠ x49.toInt.toNat → ez_I h70 75 k = ez_I h2 75 k) := by rw [zI_fn e71 75 (by decide)]; exact hg2
          clear A67
          refine z_inc rfl (by rw [show (1 : Int32).toInt = 1 from rfl]; omega) (fun x78 ex78 => ?_)
          rw [show (1 : Int32).toInt = 1 from rfl] at ex78
          show ez_gw _ _ _ _ _ _ _ _ [some (.ref 71), some (.int v), some (.int n), some (.int x78)] _ _ _
          refine z_go ?_
          have t79 := congrArg Int32.toInt (f74)
          exact ih h70 x78 F73 (by omega) (mst_next (mst_bit (bit := x55.toInt) A_st (by omega) (i := x49.toInt.toNat) (j := (ez_I h2 71 16).toInt.toNat % 8) (by omega) (by omega) A76 A77 (by omega)) v2x55 (by omega)) (A75) (by omega)
set_option maxRecDepth 4000 in
set_option maxHeartbeats 20000000 in
theorem d_wb {E : Nat → Nat × (Nat → Int32)} {d : Nat} {Q : ez_Q} {h : ez_H} {v : Int32} {n : Int32} (S : zSh h) {s : Nat × Nat} (hs : mst (ez_I h 75) (ez_I h 71 16).toInt s) (hg : aR (ez_I h 75) 8000 (-128) 127) (hn : 0 ≤ n.toInt ∧ n.toInt ≤ 16) (hr : s.2 + n.toInt.toNat ≤ 64000) (K : ∀ h2, zW (fun q k => q = 71 ∧ k = 16) (fun q => q = 75) (fun _ => False) h h2 → mst (ez_I h2 75) (ez_I h2 71 16).toInt (wr s ((v.toInt % 65536).toNat % 2 ^ n.toInt.toNat) n.toInt.toNat) → aR (ez_I h2 75) 8000 (-128) 127 → Q (.inl none) h2) : pw E d 38 0 [some (.ref 71), some (.int v), some (.int n), none] [] h Q := by
  have gv := z_rng v
  have gn := z_rng n
  have F := zW_refl (fun q k => q = 71 ∧ k = 16) (fun q => q = 75) (fun _ => False) h
  apply ez_Wp_in
  show ez_gw _ _ _ _ _ _ (cz_38) _ _ _ _ _
  refine gw_skip _ ?_
  have r1 := z_rng (ez_I h 71 16)
  refine z_C (m := 0) rfl rfl (fun x2 ex2 => ?_)
  refine gw_st rfl rfl rfl ?_
  show ez_gw _ _ _ _ _ _ _ _ [some (.ref 71), some (.int v), some (.int n), some (.int x2)] _ _ _
  exact ez_Wp_at ((d_wb_L0 (v := v) (n := n) S hs hg hn hr K (((100 - x2.toInt)).toNat + 1)) h x2 F (by omega) (mst_0 hs (by omega)) (hg) (by omega)) rfl
end
section
/-! PRINTED by wip/pack: the class: the head of a DYNAMIC block -/
set_option maxRecDepth 4000 in
set_option maxHeartbeats 2000000 in
theorem c_from_L0 {E : Nat → Nat × (Nat → Int32)} {d : Nat} {Q : ez_Q} {h : ez_H} {a : Int32} {n : Int32} {v : Int32} {m : Int32} (S : zSh h) (hR : aR (ez_I h 62) n.toInt.toNat 0 15) (ha : 0 ≤ a.toInt ∧ a.toInt ≤ n.toInt ∧ n.toInt ≤ 316 ∧ 0 ≤ v.toInt ∧ 0 ≤ m.toInt ∧ m.toInt ≤ 138) (K : ∀ x : Int32, x.toInt = (rn (nL (ez_I h 62)) n.toInt.toNat a.toInt.toNat v.toInt.toNat m.toInt.toNat : Nat) → Q (.inl (some (.int x))) h) : ∀ N : Nat, (∀ (h2 : ez_H) (i : Int32) , zW (fun _ _ => False) (fun _ => False) (fun _ => False) h h2 → (0 ≤ i.toInt ∧ i.toInt ≤ m.toInt) → (∀ k : Nat, (k : Int) < i.toInt → a.toInt.toNat + k < n.toInt.toNat ∧ nL (ez_I h 62) (a.toInt.toNat + k) = v.toInt.toNat) → (1000 - i.toInt) < (N : Int) → pw E d 95 3 [some (.ref 61), some (.int a), some (.int n), some (.int v), some (.int m), some (.int i)] [] h2 Q) := by
  intro N
  induction N with
  | zero => exact fun h2 i  F hinv A_eq hm => absurd hm (by have w_i := z_rng i; have ga := z_rng a; have gn := z_rng n; have gv := z_rng v; have gm := z_rng m; omega)
  | succ N ih =>
    refine fun h2 i  F hinv A_eq hm => ?_
    · skip
      have w_i := z_rng i
      have ga := z_rng a
      have gn := z_rng n
      have gv := z_rng v
      have gm := z_rng m
      have S2 := zW_sh F S
      apply ez_Wp_in
      show ez_gw _ _ _ _ _ _ (cz_95) _ _ _ _ _
      refine gw_skip _ ?_
      refine gw_ld rfl rfl ?_
      refine gw_ld rfl rfl ?_
      refine z_b2 (fun c1 => ?_) (fun c1 => ?_)
      · have c1 : m.toInt ≤ i.toInt := c1
        refine gw_skip _ ?_
        refine gw_ld rfl rfl ?_
        refine z_ri ?_
        exact zW_Q F (K _ (rnI_e (x := a.toInt + i.toInt) (z := 0) A_eq (by omega) (by omega) rfl (by first | exact .inl (by omega) | exact .inr (.inl (by omega)))))
      · have c1 : ¬ (m.toInt ≤ i.toInt) := c1
        refine gw_ld rfl rfl ?_
        refine gw_ld rfl rfl ?_
        refine z_add (by omega) (fun x2 ex2 => ?_)
        refine gw_ld rfl rfl ?_
        refine z_b2 (fun c3 => ?_) (fun c3 => ?_)
        · have c3 : n.toInt ≤ x2.toInt := c3
          refine gw_skip _ ?_
          refine gw_ld rfl rfl ?_
          refine z_ri ?_
          exact zW_Q F (K _ (rnI_e (x := a.toInt + i.toInt) (z := 0) A_eq (by omega) (by omega) rfl (by first | exact .inl (by omega) | exact .inr (.inl (by omega)))))
        · have c3 : ¬ (n.toInt ≤ x2.toInt) := c3
          refine gw_ld rfl rfl ?_
          refine z_gR (q := 62) (zT S2 (by decide) rfl) (zRf S2 (by decide) (by decide) rfl) (by decide) ?_
          refine gw_ld rfl rfl ?_
          refine gw_ld rfl rfl ?_
          refine z_add (by omega) (fun x4 ex4 => ?_)
          refine z_iaV (n := 316) (zT S2 (by decide) rfl) (zN S2 (by decide) rfl) (by omega) (zW_f F (fun c => c) (fun c => c)) ?_
          generalize ex5 : ez_I h 62 x4.toInt.toNat = x5
          have rx5 := z_rng x5
          have yx5 := hR x4.toInt.toNat (by omega)
          rw [ex5] at yx5
          refine gw_ld rfl rfl ?_
          refine z_b2 (fun c6 => ?_) (fun c6 => ?_)
          · have c6 : x5.toInt ≠ v.toInt := c6
            refine gw_skip _ ?_
            refine gw_ld rfl rfl ?_
            refine z_ri ?_
            exact zW_Q F (K _ (rnI_e (x := x4.toInt) (z := x5) A_eq (by omega) (by omega) (by omega) (.inr (.inr ⟨ex5, by omega, by omega, by omega⟩))))
          · have c6 : ¬ (x5.toInt ≠ v.toInt) := c6
            refine z_inc rfl (by rw [show (1 : Int32).toInt = 1 from rfl]; omega) (fun x7 ex7 => ?_)
            rw [show (1 : Int32).toInt = 1 from rfl] at ex7
            show ez_gw _ _ _ _ _ _ _ _ [some (.ref 61), some (.int a), some (.int n), some (.int v), some (.int m), some (.int x7)] _ _ _
            refine z_go ?_
            exact ih h2 x7 F (by omega) (rnI_s (x := x4.toInt) A_eq (by omega) (by omega) (by omega) (by omega) ex5 (by omega) (by omega)) (by omega)
set_option maxRecDepth 4000 in
set_option maxHeartbeats 2000000 in
theorem c_from {E : Nat → Nat × (Nat → Int32)} {d : Nat} {Q : ez_Q} {h : ez_H} {a : Int32} {n : Int32} {v : Int32} {m : Int32} (S : zSh h) (hR : aR (ez_I h 62) n.toInt.toNat 0 15) (ha : 0 ≤ a.toInt ∧ a.toInt ≤ n.toInt ∧ n.toInt ≤ 316 ∧ 0 ≤ v.toInt ∧ 0 ≤ m.toInt ∧ m.toInt ≤ 138) (K : ∀ x : Int32, x.toInt = (rn (nL (ez_I h 62)) n.toInt.toNat a.toInt.toNat v.toInt.toNat m.toInt.toNat : Nat) → Q (.inl (some (.int x))) h) : pw E d 95 0 [some (.ref 61), some (.int a), some (.int n), some (.int v), some (.int m), none] [] h Q := by
  have ga := z_rng a
  have gn := z_rng n
  have gv := z_rng v
  have gm := z_rng m
  have F := zW_refl (fun _ _ => False) (fun _ => False) (fun _ => False) h
  apply ez_Wp_in
  show ez_gw _ _ _ _ _ _ (cz_95) _ _ _ _ _
  refine gw_skip _ ?_
  refine z_C (m := 0) rfl rfl (fun x1 ex1 => ?_)
  refine gw_st rfl rfl rfl ?_
  show ez_gw _ _ _ _ _ _ _ _ [some (.ref 61), some (.int a), some (.int n), some (.int v), some (.int m), some (.int x1)] _ _ _
  exact ez_Wp_at ((c_from_L0 (a := a) (n := n) (v := v) (m := m) S hR ha K (((1000 - x1.toInt)).toNat + 1)) h x1 F (by omega) (fun k hk => by omega) (by omega)) rfl
set_option maxRecDepth 4000 in
set_option maxHeartbeats 2000000 in
theorem c_addS {E : Nat → Nat × (Nat → Int32)} {d : Nat} {Q : ez_Q} {h : ez_H} {a : Int32} {b : Int32} (S : zSh h) (ha : 0 ≤ a.toInt ∧ a.toInt ≤ 18) (hc : 0 ≤ (ez_I h 61 5).toInt ∧ (ez_I h 61 5).toInt < 316) (hC : aR (ez_I h 65) 19 0 1000) (K : ∀ h2, zW (fun q k => q = 61 ∧ k = 5) (fun q => q = 63 ∨ q = 64 ∨ q = 65) (fun _ => False) h h2 → (ez_I h2 61 5).toInt = (ez_I h 61 5).toInt + 1 → (ez_I h2 63 (ez_I h 61 5).toInt.toNat = a ∧ ∀ k, k ≠ (ez_I h 61 5).toInt.toNat → ez_I h2 63 k = ez_I h 63 k) → (ez_I h2 64 (ez_I h 61 5).toInt.toNat = b ∧ ∀ k, k ≠ (ez_I h 61 5).toInt.toNat → ez_I h2 64 k = ez_I h 64 k) → upE (ez_I h 65) (ez_I h2 65) a.toInt.toNat → Q (.inl none) h2) : pw E d 96 0 [some (.ref 61), some (.int a), some (.int b)] [] h Q := by
  have ga := z_rng a
  have gb := z_rng b
  have F := zW_refl (fun q k => q = 61 ∧ k = 5) (fun q => q = 63 ∨ q = 64 ∨ q = 65) (fun _ => False) h
  apply ez_Wp_in
  show ez_gw _ _ _ _ _ _ (cz_96) _ _ _ _ _
  refine gw_skip _ ?_
  have r1 := z_rng (ez_I h 61 5)
  refine gw_ld rfl rfl ?_
  refine z_b1 (fun c2 => ?_) (fun c2 => ?_)
  · have c2 : a.toInt < 0 := c2
    refine gw_skip _ ?_
    refine z_rv ?_
    exfalso; omega
  · have c2 : ¬ (a.toInt < 0) := c2
    refine gw_ld rfl rfl ?_
    refine z_C (m := 19) rfl rfl (fun x3 ex3 => ?_)
    refine z_b2 (fun c4 => ?_) (fun c4 => ?_)
    · have c4 : x3.toInt ≤ a.toInt := c4
      refine gw_skip _ ?_
      refine z_rv ?_
      exfalso; omega
    · have c4 : ¬ (x3.toInt ≤ a.toInt) := c4
      refine gw_ld rfl rfl ?_
      refine z_gI2 (by decide) (zT S (by decide) rfl) (rfl) ?_
      refine z_C (m := 316) rfl rfl (fun x5 ex5 => ?_)
      refine z_b2 (fun c6 => ?_) (fun c6 => ?_)
      · have c6 : x5.toInt ≤ ((ez_I h 61 5)).toInt := c6
        refine gw_skip _ ?_
        refine z_rv ?_
        exfalso; omega
      · have c6 : ¬ (x5.toInt ≤ ((ez_I h 61 5)).toInt) := c6
        refine gw_ld rfl rfl ?_
        refine z_gR (q := 63) (zT S (by decide) rfl) (zRf S (by decide) (by decide) rfl) (by decide) ?_
        refine gw_ld rfl rfl ?_
        refine z_gI2 (by decide) (zT S (by decide) rfl) (rfl) ?_
        refine gw_ld rfl rfl ?_
        refine z_is (n := 316) (zT S (by decide) rfl) (zN S (by decide) rfl) (by omega) (fun h7 e8 => ?_)
        have S9 := zSh_set S e8
        have F10 := zW_setA F e8 (by omega)
        have f11 : ez_I h7 61 5 = (ez_I h 61 5) := (zI_ne e8 (by omega)).trans (rfl)
        have A12 : ez_I h7 65 = ez_I h 65 := by rw [zI_fn e8 65 (by decide)]
        have A13 : (ez_I h7 63 (ez_I h 61 5).toInt.toNat = a ∧ ∀ k, k ≠ (ez_I h 61 5).toInt.toNat → ez_I h7 63 k = ez_I h 63 k) := ⟨zI_eq e8, fun k hk => zI_ne e8 (by omega)⟩
        refine gw_ld rfl rfl ?_
        refine z_gR (q := 64) (zT S9 (by decide) rfl) (zRf S9 (by decide) (by decide) rfl) (by decide) ?_
        refine gw_ld rfl rfl ?_
        refine z_gI2 (by decide) (zT S9 (by decide) rfl) (f11) ?_
        refine gw_ld rfl rfl ?_
        refine z_is (n := 316) (zT S9 (by decide) rfl) (zN S9 (by decide) rfl) (by omega) (fun h14 e15 => ?_)
        have S16 := zSh_set S9 e15
        have F17 := zW_setA F10 e15 (by omega)
        have f18 : ez_I h14 61 5 = (ez_I h 61 5) := (zI_ne e15 (by omega)).trans (f11)
        have A19 : ez_I h14 65 = ez_I h 65 := by rw [zI_fn e15 65 (by decide)]; exact A12
        have A20 : (ez_I h14 63 (ez_I h 61 5).toInt.toNat = a ∧ ∀ k, k ≠ (ez_I h 61 5).toInt.toNat → ez_I h14 63 k = ez_I h 63 k) := by rw [zI_fn e15 63 (by decide)]; exact A13
        have A21 : (ez_I h14 64 (ez_I h 61 5).toInt.toNat = b ∧ ∀ k, k ≠ (ez_I h 61 5).toInt.toNat → ez_I h14 64 k = ez_I h 64 k) := ⟨zI_eq e15, fun k hk => (zI_ne e15 (by omega)).trans (zI_ne e8 (by omega))⟩
        clear A12
        clear A13
        refine gw_ld rfl rfl ?_
        refine gw_op rfl ?_
        refine z_gI2 (by decide) (zT S16 (by decide) rfl) (f18) ?_
        refine z_C (m := 1) rfl rfl (fun x22 ex22 => ?_)
        refine z_add (by omega) (fun x23 ex23 => ?_)
        refine z_pI (zT S16 (by decide) rfl) (fun h24 e25 => ?_)
        have S26 := zSh_set S16 e25
        have F27 := zW_setF F17 e25 (by omega)
        have f28 : ez_I h24 61 5 = x23 := zI_eq e25
        have A29 : ez_I h24 65 = ez_I h 65 := by rw [zI_fn e25 65 (by decide)]; exact A19
        have A30 : (ez_I h24 63 (ez_I h 61 5).toInt.toNat = a ∧ ∀ k, k ≠ (ez_I h 61 5).toInt.toNat → ez_I h24 63 k = ez_I h 63 k) := by rw [zI_fn e25 63 (by decide)]; exact A20
        have A31 : (ez_I h24 64 (ez_I h 61 5).toInt.toNat = b ∧ ∀ k, k ≠ (ez_I h 61 5).toInt.toNat → ez_I h24 64 k = ez_I h 64 k) := by rw [zI_fn e25 64 (by decide)]; exact A21
        clear A19
        clear A20
        clear A21
        refine gw_ld rfl rfl ?_
        refine z_gR (q := 65) (zT S26 (by decide) rfl) (zRf S26 (by decide) (by decide) rfl) (by decide) ?_
        refine gw_ld rfl rfl ?_
        refine gw_op rfl ?_
        refine z_iaV (n := 19) (zT S26 (by decide) rfl) (zN S26 (by decide) rfl) (by omega) (congrFun A29 _) ?_
        generalize ex32 : ez_I h 65 a.toInt.toNat = x32
        have rx32 := z_rng x32
        have yx32 := hC a.toInt.toNat (by omega)
        rw [ex32] at yx32
        refine z_C (m := 1) rfl rfl (fun x33 ex33 => ?_)
        refine z_add (by omega) (fun x34 ex34 => ?_)
        refine z_is (n := 19) (zT S26 (by decide) rfl) (zN S26 (by decide) rfl) (by omega) (fun h35 e36 => ?_)
        have S37 := zSh_set S26 e36
        have F38 := zW_setA F27 e36 (by omega)
        have f39 : ez_I h35 61 5 = x23 := (zI_ne e36 (by omega)).trans (f28)
        have A40 : (ez_I h35 63 (ez_I h 61 5).toInt.toNat = a ∧ ∀ k, k ≠ (ez_I h 61 5).toInt.toNat → ez_I h35 63 k = ez_I h 63 k) := by rw [zI_fn e36 63 (by decide)]; exact A30
        have A41 : (ez_I h35 64 (ez_I h 61 5).toInt.toNat = b ∧ ∀ k, k ≠ (ez_I h 61 5).toInt.toNat → ez_I h35 64 k = ez_I h 64 k) := by rw [zI_fn e36 64 (by decide)]; exact A31
        have A42 : upE (ez_I h 65) (ez_I h35 65) a.toInt.toNat := ⟨x32, x34, ex32, by omega, zI_eq e36, fun k hk => (zI_ne e36 (by omega)).trans (congrFun A29 k)⟩
        clear A30
        clear A31
        refine z_rv ?_
        have t43 := congrArg Int32.toInt (f39)
        exact K _ F38 (by omega) A40 A41 A42
set_option maxRecDepth 4000 in
set_option maxHeartbeats 2000000 in
theorem c_tellAt {E : Nat → Nat × (Nat → Int32)} {d : Nat} {Q : ez_Q} {h : ez_H} {a : Int32} {n : Int32} (S : zSh h) (hE : zE E) (hR : aR (ez_I h 62) n.toInt.toNat 0 15) (ha : 0 ≤ a.toInt ∧ a.toInt < n.toInt ∧ n.toInt ≤ 316) (hc : 0 ≤ (ez_I h 61 5).toInt ∧ (ez_I h 61 5).toInt < 316) (hC : aR (ez_I h 65) 19 0 1000) (K : ∀ h2 (x : Int32), zW (fun q k => q = 61 ∧ k = 5) (fun q => q = 63 ∨ q = 64 ∨ q = 65) (fun _ => False) h h2 → x.toInt = ((tk (nL (ez_I h 62)) n.toInt.toNat a.toInt.toNat).2.2 : Nat) → (ez_I h2 61 5).toInt = (ez_I h 61 5).toInt + 1 → ((ez_I h2 63 (ez_I h 61 5).toInt.toNat).toInt = ((tk (nL (ez_I h 62)) n.toInt.toNat a.toInt.toNat).1 : Nat) ∧ ∀ k, k ≠ (ez_I h 61 5).toInt.toNat → ez_I h2 63 k = ez_I h 63 k) → ((ez_I h2 64 (ez_I h 61 5).toInt.toNat).toInt = ((tk (nL (ez_I h 62)) n.toInt.toNat a.toInt.toNat).2.1 : Nat) ∧ ∀ k, k ≠ (ez_I h 61 5).toInt.toNat → ez_I h2 64 k = ez_I h 64 k) → upE (ez_I h 65) (ez_I h2 65) (tk (nL (ez_I h 62)) n.toInt.toNat a.toInt.toNat).1 → Q (.inl (some (.int x))) h2) : pw E (d + 1) 94 0 [some (.ref 61), some (.int a), some (.int n), none, none] [] h Q := by
  have ga := z_rng a
  have gn := z_rng n
  have hrl := rn_le (nL (ez_I h 62)) n.toInt.toNat a.toInt.toNat 0 138
  have hrl2 := rn_le (nL (ez_I h 62)) n.toInt.toNat a.toInt.toNat ((nL (ez_I h 62)) (a.toInt.toNat - 1)) 6
  have F := zW_refl (fun q k => q = 61 ∧ k = 5) (fun q => q = 63 ∨ q = 64 ∨ q = 65) (fun _ => False) h
  apply ez_Wp_in
  show ez_gw _ _ _ _ _ _ (cz_94) _ _ _ _ _
  refine gw_skip _ ?_
  have r1 := z_rng (ez_I h 61 5)
  refine gw_ld rfl rfl ?_
  refine gw_ld rfl rfl ?_
  refine gw_ld rfl rfl ?_
  refine z_C (m := 0) rfl rfl (fun x2 ex2 => ?_)
  refine z_C (m := 138) rfl rfl (fun x3 ex3 => ?_)
  refine z_cl rfl rfl rfl rfl rfl rfl rfl rfl rfl rfl rfl (zT S (by decide) rfl) ?_
  refine c_from (a := a) (n := n) (v := x2) (m := x3) S (by rw [(show ez_I h 62 = ez_I h 62 from zW_fn F 62 (by decide) (fun k c => by omega))]; exact hR) (by omega) (fun x4 k5 => ?_)
  rw [(show ez_I h 62 = ez_I h 62 from zW_fn F 62 (by decide) (fun k c => by omega))] at k5
  have rx4 := z_rng x4
  rw [show x2.toInt.toNat = 0 by omega, show x3.toInt.toNat = 138 by omega] at k5
  refine gw_st rfl rfl rfl ?_
  show ez_gw _ _ _ _ _ _ _ _ [some (.ref 61), some (.int a), some (.int n), some (.int x4), none] _ _ _
  refine gw_ld rfl rfl ?_
  refine z_C (m := 3) rfl rfl (fun x6 ex6 => ?_)
  refine z_b2 (fun c7 => ?_) (fun c7 => ?_)
  · have c7 : x4.toInt < x6.toInt := c7
    refine gw_skip _ ?_
    refine gw_ld rfl rfl ?_
    refine z_b1 (fun c8 => ?_) (fun c8 => ?_)
    · have c8 : a.toInt ≤ 0 := c8
      refine gw_skip _ ?_
      refine z_C (m := 0) rfl rfl (fun x9 ex9 => ?_)
      refine gw_st rfl rfl rfl ?_
      show ez_gw _ _ _ _ _ _ _ _ [some (.ref 61), some (.int a), some (.int n), some (.int x4), some (.int x9)] _ _ _
      refine gw_ld rfl rfl ?_
      refine z_C (m := 3) rfl rfl (fun x10 ex10 => ?_)
      refine z_b2 (fun c11 => ?_) (fun c11 => ?_)
      · have c11 : x9.toInt < x10.toInt := c11
        refine gw_skip _ ?_
        refine gw_ld rfl rfl ?_
        refine gw_ld rfl rfl ?_
        refine z_gR (q := 62) (zT S (by decide) rfl) (zRf S (by decide) (by decide) rfl) (by decide) ?_
        refine gw_ld rfl rfl ?_
        refine z_iaV (n := 316) (zT S (by decide) rfl) (zN S (by decide) rfl) (by omega) (zW_f F (by decide) (by omega)) ?_
        generalize ex12 : ez_I h 62 a.toInt.toNat = x12
        have rx12 := z_rng x12
        have yx12 := hR a.toInt.toNat (by omega)
        rw [ex12] at yx12
        refine z_C (m := 0) rfl rfl (fun x13 ex13 => ?_)
        refine z_cl rfl rfl rfl rfl rfl rfl rfl rfl rfl rfl rfl (zT S (by decide) rfl) ?_
        refine c_addS (a := x12) (b := x13) S (by omega) (by omega) hC (fun h14 F15 k16 k17 k18 k19 => ?_)
        have S20 := zW_sh F15 S
        have F21 := zW_tr F (zW_mono F15 (fun q k hk => by first | omega | exact False.elim hk) (fun q hk => by first | omega | exact False.elim hk) (fun q hk => by first | omega | exact False.elim hk))
        have r22 := z_rng (ez_I h14 61 5)
        refine z_C (m := 1) rfl rfl (fun x23 ex23 => ?_)
        refine z_ri ?_
        have htk : (tk (nL (ez_I h 62)) n.toInt.toNat a.toInt.toNat) = (x12.toInt.toNat, x13.toInt.toNat, x23.toInt.toNat) := by
          unfold tk
          rw [if_neg (by omega), if_neg (fun q => by omega)]
          exact p3_eq (by show (ez_I h 62 a.toInt.toNat).toInt.toNat = _; rw [ex12]) (by omega) (by omega)
        rw [htk] at K
        exact K _ _ F21 (by show _ = ((x23.toInt.toNat : Nat) : Int); omega) (by omega) ⟨by rw [k17.1]; show _ = ((x12.toInt.toNat : Nat) : Int); omega, k17.2⟩ ⟨by rw [k18.1]; show _ = ((x13.toInt.toNat : Nat) : Int); omega, k18.2⟩ k19
      · have c11 : ¬ (x9.toInt < x10.toInt) := c11
        exfalso; omega
    · have c8 : ¬ (a.toInt ≤ 0) := c8
      refine gw_ld rfl rfl ?_
      refine gw_ld rfl rfl ?_
      refine gw_ld rfl rfl ?_
      refine gw_ld rfl rfl ?_
      refine z_gR (q := 62) (zT S (by decide) rfl) (zRf S (by decide) (by decide) rfl) (by decide) ?_
      refine gw_ld rfl rfl ?_
      refine z_C (m := 1) rfl rfl (fun x24 ex24 => ?_)
      refine z_sub (by omega) (fun x25 ex25 => ?_)
      refine z_iaV (n := 316) (zT S (by decide) rfl) (zN S (by decide) rfl) (by omega) (zW_f F (by decide) (by omega)) ?_
      generalize ex26 : ez_I h 62 x25.toInt.toNat = x26
      have rx26 := z_rng x26
      have yx26 := hR x25.toInt.toNat (by omega)
      rw [ex26] at yx26
      refine z_C (m := 6) rfl rfl (fun x27 ex27 => ?_)
      refine z_cl rfl rfl rfl rfl rfl rfl rfl rfl rfl rfl rfl (zT S (by decide) rfl) ?_
      refine c_from (a := a) (n := n) (v := x26) (m := x27) S (by rw [(show ez_I h 62 = ez_I h 62 from zW_fn F 62 (by decide) (fun k c => by omega))]; exact hR) (by omega) (fun x28 k29 => ?_)
      rw [(show ez_I h 62 = ez_I h 62 from zW_fn F 62 (by decide) (fun k c => by omega))] at k29
      have rx28 := z_rng x28
      rw [show x26.toInt.toNat = (nL (ez_I h 62)) (a.toInt.toNat - 1) by (show _ = (ez_I h 62 (a.toInt.toNat - 1)).toInt.toNat; rw [← ex26]; congr 3; omega), show x27.toInt.toNat = 6 by omega] at k29
      refine z_go ?_
      refine gw_skip _ ?_
      refine gw_st rfl rfl rfl ?_
      show ez_gw _ _ _ _ _ _ _ _ [some (.ref 61), some (.int a), some (.int n), some (.int x4), some (.int x28)] _ _ _
      refine gw_ld rfl rfl ?_
      refine z_C (m := 3) rfl rfl (fun x30 ex30 => ?_)
      refine z_b2 (fun c31 => ?_) (fun c31 => ?_)
      · have c31 : x28.toInt < x30.toInt := c31
        refine gw_skip _ ?_
        refine gw_ld rfl rfl ?_
        refine gw_ld rfl rfl ?_
        refine z_gR (q := 62) (zT S (by decide) rfl) (zRf S (by decide) (by decide) rfl) (by decide) ?_
        refine gw_ld rfl rfl ?_
        refine z_iaV (n := 316) (zT S (by decide) rfl) (zN S (by decide) rfl) (by omega) (zW_f F (by decide) (by omega)) ?_
        generalize ex32 : ez_I h 62 a.toInt.toNat = x32
        have rx32 := z_rng x32
        have yx32 := hR a.toInt.toNat (by omega)
        rw [ex32] at yx32
        refine z_C (m := 0) rfl rfl (fun x33 ex33 => ?_)
        refine z_cl rfl rfl rfl rfl rfl rfl rfl rfl rfl rfl rfl (zT S (by decide) rfl) ?_
        refine c_addS (a := x32) (b := x33) S (by omega) (by omega) hC (fun h34 F35 k36 k37 k38 k39 => ?_)
        have S40 := zW_sh F35 S
        have F41 := zW_tr F (zW_mono F35 (fun q k hk => by first | omega | exact False.elim hk) (fun q hk => by first | omega | exact False.elim hk) (fun q hk => by first | omega | exact False.elim hk))
        have r42 := z_rng (ez_I h34 61 5)
        refine z_C (m := 1) rfl rfl (fun x43 ex43 => ?_)
        refine z_ri ?_
        have htk : (tk (nL (ez_I h 62)) n.toInt.toNat a.toInt.toNat) = (x32.toInt.toNat, x33.toInt.toNat, x43.toInt.toNat) := by
          unfold tk
          rw [if_neg (by omega), if_neg (fun q => by omega)]
          exact p3_eq (by show (ez_I h 62 a.toInt.toNat).toInt.toNat = _; rw [ex32]) (by omega) (by omega)
        rw [htk] at K
        exact K _ _ F41 (by show _ = ((x43.toInt.toNat : Nat) : Int); omega) (by omega) ⟨by rw [k37.1]; show _ = ((x32.toInt.toNat : Nat) : Int); omega, k37.2⟩ ⟨by rw [k38.1]; show _ = ((x33.toInt.toNat : Nat) : Int); omega, k38.2⟩ k39
      · have c31 : ¬ (x28.toInt < x30.toInt) := c31
        refine gw_ld rfl rfl ?_
        refine z_C (m := 16) rfl rfl (fun x44 ex44 => ?_)
        refine gw_ld rfl rfl ?_
        refine z_C (m := 3) rfl rfl (fun x45 ex45 => ?_)
        refine z_sub (by omega) (fun x46 ex46 => ?_)
        refine z_cl rfl rfl rfl rfl rfl rfl rfl rfl rfl rfl rfl (zT S (by decide) rfl) ?_
        refine c_addS (a := x44) (b := x46) S (by omega) (by omega) hC (fun h47 F48 k49 k50 k51 k52 => ?_)
        have S53 := zW_sh F48 S
        have F54 := zW_tr F (zW_mono F48 (fun q k hk => by first | omega | exact False.elim hk) (fun q hk => by first | omega | exact False.elim hk) (fun q hk => by first | omega | exact False.elim hk))
        have r55 := z_rng (ez_I h47 61 5)
        refine gw_ld rfl rfl ?_
        refine z_ri ?_
        have htk : (tk (nL (ez_I h 62)) n.toInt.toNat a.toInt.toNat) = (x44.toInt.toNat, x46.toInt.toNat, x28.toInt.toNat) := by
          unfold tk
          rw [if_neg (by omega), if_pos ⟨by omega, by omega⟩]
          exact p3_eq (by omega) (by omega) (by omega)
        rw [htk] at K
        exact K _ _ F54 (by show _ = ((x28.toInt.toNat : Nat) : Int); omega) (by omega) ⟨by rw [k50.1]; show _ = ((x44.toInt.toNat : Nat) : Int); omega, k50.2⟩ ⟨by rw [k51.1]; show _ = ((x46.toInt.toNat : Nat) : Int); omega, k51.2⟩ k52
  · have c7 : ¬ (x4.toInt < x6.toInt) := c7
    refine gw_ld rfl rfl ?_
    refine z_C (m := 10) rfl rfl (fun x56 ex56 => ?_)
    refine z_b2 (fun c57 => ?_) (fun c57 => ?_)
    · have c57 : x56.toInt < x4.toInt := c57
      refine gw_skip _ ?_
      refine z_C (m := 18) rfl rfl (fun x58 ex58 => ?_)
      refine gw_st rfl rfl rfl ?_
      show ez_gw _ _ _ _ _ _ _ _ [some (.ref 61), some (.int a), some (.int n), some (.int x4), some (.int x58)] _ _ _
      refine gw_ld rfl rfl ?_
      refine gw_ld rfl rfl ?_
      refine gw_ld rfl rfl ?_
      refine z_gs ?_
      refine gw_ld rfl rfl ?_
      refine z_C (m := 16) rfl rfl (fun x59 ex59 => ?_)
      refine z_sub (by omega) (fun x60 ex60 => ?_)
      refine z_iaE (n := 3) (hE 6) (by omega) ?_
      generalize ex61 : (tz_ar (6 + 1)).getD x60.toInt.toNat 0 = x61
      have rx61 := z_rng x61
      have ox61 := tz_RB (n := x60.toInt.toNat) (by omega)
      rw [ex61] at ox61
      have hrb : RBf x60.toInt.toNat = 11 := by rw [show x60.toInt.toNat = 2 by omega]; rfl
      refine z_sub (by omega) (fun x62 ex62 => ?_)
      refine z_cl rfl rfl rfl rfl rfl rfl rfl rfl rfl rfl rfl (zT S (by decide) rfl) ?_
      refine c_addS (a := x58) (b := x62) S (by omega) (by omega) hC (fun h63 F64 k65 k66 k67 k68 => ?_)
      have S69 := zW_sh F64 S
      have F70 := zW_tr F (zW_mono F64 (fun q k hk => by first | omega | exact False.elim hk) (fun q hk => by first | omega | exact False.elim hk) (fun q hk => by first | omega | exact False.elim hk))
      have r71 := z_rng (ez_I h63 61 5)
      refine gw_ld rfl rfl ?_
      refine z_ri ?_
      have htk : (tk (nL (ez_I h 62)) n.toInt.toNat a.toInt.toNat) = (x58.toInt.toNat, x62.toInt.toNat, x4.toInt.toNat) := by
        unfold tk
        rw [if_pos (by omega)]
        first | (rw [if_pos (by omega)]; exact p3_eq (by omega) (by omega) (by omega)) | (rw [if_neg (by omega)]; exact p3_eq (by omega) (by omega) (by omega))
      rw [htk] at K
      exact K _ _ F70 (by show _ = ((x4.toInt.toNat : Nat) : Int); omega) (by omega) ⟨by rw [k66.1]; show _ = ((x58.toInt.toNat : Nat) : Int); omega, k66.2⟩ ⟨by rw [k67.1]; show _ = ((x62.toInt.toNat : Nat) : Int); omega, k67.2⟩ k68
    · have c57 : ¬ (x56.toInt < x4.toInt) := c57
      refine z_C (m := 17) rfl rfl (fun x72 ex72 => ?_)
      refine z_go ?_
      refine gw_skip _ ?_
      refine gw_st rfl rfl rfl ?_
      show ez_gw _ _ _ _ _ _ _ _ [some (.ref 61), some (.int a), some (.int n), some (.int x4), some (.int x72)] _ _ _
      refine gw_ld rfl rfl ?_
      refine gw_ld rfl rfl ?_
      refine gw_ld rfl rfl ?_
      refine z_gs ?_
      refine gw_ld rfl rfl ?_
      refine z_C (m := 16) rfl rfl (fun x73 ex73 => ?_)
      refine z_sub (by omega) (fun x74 ex74 => ?_)
      refine z_iaE (n := 3) (hE 6) (by omega) ?_
      generalize ex75 : (tz_ar (6 + 1)).getD x74.toInt.toNat 0 = x75
      have rx75 := z_rng x75
      have ox75 := tz_RB (n := x74.toInt.toNat) (by omega)
      rw [ex75] at ox75
      have hrb : RBf x74.toInt.toNat = 3 := by rw [show x74.toInt.toNat = 1 by omega]; rfl
      refine z_sub (by omega) (fun x76 ex76 => ?_)
      refine z_cl rfl rfl rfl rfl rfl rfl rfl rfl rfl rfl rfl (zT S (by decide) rfl) ?_
      refine c_addS (a := x72) (b := x76) S (by omega) (by omega) hC (fun h77 F78 k79 k80 k81 k82 => ?_)
      have S83 := zW_sh F78 S
      have F84 := zW_tr F (zW_mono F78 (fun q k hk => by first | omega | exact False.elim hk) (fun q hk => by first | omega | exact False.elim hk) (fun q hk => by first | omega | exact False.elim hk))
      have r85 := z_rng (ez_I h77 61 5)
      refine gw_ld rfl rfl ?_
      refine z_ri ?_
      have htk : (tk (nL (ez_I h 62)) n.toInt.toNat a.toInt.toNat) = (x72.toInt.toNat, x76.toInt.toNat, x4.toInt.toNat) := by
        unfold tk
        rw [if_pos (by omega)]
        first | (rw [if_pos (by omega)]; exact p3_eq (by omega) (by omega) (by omega)) | (rw [if_neg (by omega)]; exact p3_eq (by omega) (by omega) (by omega))
      rw [htk] at K
      exact K _ _ F84 (by show _ = ((x4.toInt.toNat : Nat) : Int); omega) (by omega) ⟨by rw [k80.1]; show _ = ((x72.toInt.toNat : Nat) : Int); omega, k80.2⟩ ⟨by rw [k81.1]; show _ = ((x76.toInt.toNat : Nat) : Int); omega, k81.2⟩ k82
set_option maxRecDepth 4000 in
set_option maxHeartbeats 2000000 in
theorem c_tellRow_L0 {E : Nat → Nat × (Nat → Int32)} {d : Nat} {Q : ez_Q} {h : ez_H} {n : Int32} (S : zSh h) (hE : zE E) (hR : aR (ez_I h 62) n.toInt.toNat 0 15) (hn : 0 ≤ n.toInt ∧ n.toInt ≤ 316) (K : ∀ h2, zW (fun q k => q = 61 ∧ k = 5) (fun q => q = 63 ∨ q = 64 ∨ q = 65) (fun _ => False) h h2 → ∀ c : Nat, (ez_I h2 61 5).toInt = c → tp (nL (ez_I h 62)) n.toInt.toNat c = n.toInt.toNat → ltT (nL (ez_I h 62)) n.toInt.toNat c → teI (ez_I h2 63) (ez_I h2 64) (nL (ez_I h 62)) n.toInt.toNat c → ctI (ez_I h2 65) (tC (nL (ez_I h 62)) n.toInt.toNat c) 19 → Q (.inl none) h2) : ∀ N : Nat, (∀ (h2 : ez_H) (t : Int32) (i : Int32) (c : Nat), zW (fun q k => q = 61 ∧ k = 5) (fun q => q = 63 ∨ q = 64 ∨ q = 65) (fun _ => False) h h2 → (i.toInt = c ∧ (ez_I h2 61 5).toInt = c ∧ t.toInt = (tp (nL (ez_I h 62)) n.toInt.toNat c : Nat) ∧ i.toInt ≤ n.toInt) → teI (ez_I h2 63) (ez_I h2 64) (nL (ez_I h 62)) n.toInt.toNat c → ctI (ez_I h2 65) (tC (nL (ez_I h 62)) n.toInt.toNat c) 19 → ltT (nL (ez_I h 62)) n.toInt.toNat c → (1000 - i.toInt) < (N : Int) → pw E (d + 2) 93 17 [some (.ref 61), some (.int n), some (.int t), some (.int i)] [] h2 Q) := by
  intro N
  induction N with
  | zero => exact fun h2 t i c F hinv A_te A_tc A_lt hm => absurd hm (by have w_t := z_rng t; have w_i := z_rng i; have gn := z_rng n; omega)
  | succ N ih =>
    refine fun h2 t i c F hinv A_te A_tc A_lt hm => ?_
    · skip
      have w_t := z_rng t
      have w_i := z_rng i
      have gn := z_rng n
      have S2 := zW_sh F S
      have hf : ∀ j, j < n.toInt.toNat → (nL (ez_I h 62)) j ≤ 15 := fun j hj => by have := hR j (by omega); show (ez_I h 62 j).toInt.toNat ≤ 15; omega
      have htp := tp_k hf c A_lt
      have hts : tp (nL (ez_I h 62)) n.toInt.toNat (c + 1) = tp (nL (ez_I h 62)) n.toInt.toNat c + (tk (nL (ez_I h 62)) n.toInt.toNat (tp (nL (ez_I h 62)) n.toInt.toNat c)).2.2 := rfl
      have htk : tp (nL (ez_I h 62)) n.toInt.toNat c < n.toInt.toNat → _ := fun q => tk_ok q hf
      apply ez_Wp_in
      show ez_gw _ _ _ _ _ _ (cz_93) _ _ _ _ _
      refine gw_skip _ ?_
      have r1 := z_rng (ez_I h2 61 5)
      refine gw_ld rfl rfl ?_
      refine gw_ld rfl rfl ?_
      refine z_b2 (fun c2 => ?_) (fun c2 => ?_)
      · have c2 : n.toInt ≤ i.toInt := c2
        refine gw_skip _ ?_
        refine z_rv ?_
        exact K _ F c (by omega) (by omega) A_lt A_te A_tc
      · have c2 : ¬ (n.toInt ≤ i.toInt) := c2
        refine gw_ld rfl rfl ?_
        refine gw_ld rfl rfl ?_
        refine z_b2 (fun c3 => ?_) (fun c3 => ?_)
        · have c3 : n.toInt ≤ t.toInt := c3
          refine gw_skip _ ?_
          refine z_rv ?_
          exact K _ F c (by omega) (by omega) A_lt A_te A_tc
        · have c3 : ¬ (n.toInt ≤ t.toInt) := c3
          refine gw_ld rfl rfl ?_
          refine gw_ld rfl rfl ?_
          refine gw_ld rfl rfl ?_
          refine gw_ld rfl rfl ?_
          refine z_cl rfl rfl rfl rfl rfl rfl rfl rfl rfl rfl rfl (zT S2 (by decide) rfl) ?_
          refine c_tellAt (a := t) (n := n) S2 hE (by rw [(show ez_I h2 62 = ez_I h 62 from zW_fn F 62 (by decide) (fun k c => by omega))]; exact hR) (by omega) (by omega) (ctI_aR A_tc (fun z => by have := tC_le (nL (ez_I h 62)) n.toInt.toNat c z; omega)) (fun h4 x6 F5 k7 k8 k9 k10 k11 => ?_)
          have rx6 := z_rng x6
          rw [(show ez_I h2 62 = ez_I h 62 from zW_fn F 62 (by decide) (fun k c => by omega)), show t.toInt.toNat = tp (nL (ez_I h 62)) n.toInt.toNat c by omega] at k7 k9 k10 k11
          rw [show (ez_I h2 61 5).toInt.toNat = c by omega] at k9 k10
          have S12 := zW_sh F5 S2
          have F13 := zW_tr F (zW_mono F5 (fun q k hk => by first | omega | exact False.elim hk) (fun q hk => by first | omega | exact False.elim hk) (fun q hk => by first | omega | exact False.elim hk))
          have r14 := z_rng (ez_I h4 61 5)
          refine z_add (by have := htk (by omega); omega) (fun x15 ex15 => ?_)
          refine gw_st rfl rfl rfl ?_
          show ez_gw _ _ _ _ _ _ _ _ [some (.ref 61), some (.int n), some (.int x15), some (.int i)] _ _ _
          refine z_inc rfl (by rw [show (1 : Int32).toInt = 1 from rfl]; omega) (fun x16 ex16 => ?_)
          rw [show (1 : Int32).toInt = 1 from rfl] at ex16
          show ez_gw _ _ _ _ _ _ _ _ [some (.ref 61), some (.int n), some (.int x15), some (.int x16)] _ _ _
          refine z_go ?_
          exact ih h4 x15 x16 (c + 1) F13 (by have := htk (by omega); omega) ((teI_s A_te k9.1 k10.1 k9.2 k10.2 rfl rfl rfl)) ((ctI_upE A_tc k11 (tC_y _ _ _) (fun q hq => tC_n hq))) (ltT_s A_lt (by omega) rfl) (by omega)
set_option maxRecDepth 4000 in
set_option maxHeartbeats 2000000 in
theorem c_tellRow {E : Nat → Nat × (Nat → Int32)} {d : Nat} {Q : ez_Q} {h : ez_H} {n : Int32} (S : zSh h) (hE : zE E) (hR : aR (ez_I h 62) n.toInt.toNat 0 15) (hn : 0 ≤ n.toInt ∧ n.toInt ≤ 316) (K : ∀ h2, zW (fun q k => q = 61 ∧ k = 5) (fun q => q = 63 ∨ q = 64 ∨ q = 65) (fun _ => False) h h2 → ∀ c : Nat, (ez_I h2 61 5).toInt = c → tp (nL (ez_I h 62)) n.toInt.toNat c = n.toInt.toNat → ltT (nL (ez_I h 62)) n.toInt.toNat c → teI (ez_I h2 63) (ez_I h2 64) (nL (ez_I h 62)) n.toInt.toNat c → ctI (ez_I h2 65) (tC (nL (ez_I h 62)) n.toInt.toNat c) 19 → Q (.inl none) h2) : pw E (d + 2) 93 0 [some (.ref 61), some (.int n), none, none] [] h Q := by
  have gn := z_rng n
  have F := zW_refl (fun q k => q = 61 ∧ k = 5) (fun q => q = 63 ∨ q = 64 ∨ q = 65) (fun _ => False) h
  apply ez_Wp_in
  show ez_gw _ _ _ _ _ _ (cz_93) _ _ _ _ _
  refine gw_skip _ ?_
  have r1 := z_rng (ez_I h 61 5)
  refine gw_ld rfl rfl ?_
  refine z_gR (q := 65) (zT S (by decide) rfl) (zRf S (by decide) (by decide) rfl) (by decide) ?_
  refine z_C (m := 0) rfl rfl (fun x2 ex2 => ?_)
  refine z_cl rfl rfl rfl rfl rfl rfl rfl rfl rfl rfl rfl (trivial) ?_
  refine wp_fill (zT S (by decide) rfl) (by rw [show ez_l h 65 = 19 from zN S (by decide) rfl]; omega) ?_
  generalize e4 : ez_rowI h 65 (pf_fill (ez_I h 65) (ez_l h 65) x2) = h3
  have e4 := e4.symm
  have A5 := zIr_at e4 (show ez_l h 65 = 19 from zN S (by decide) rfl)
  have S6 := zSh_row S e4
  have F7 := zW_row F e4 (by omega)
  have f8 : ez_I h3 61 5 = (ez_I h 61 5) := (zI_row e4 (by omega)).trans (rfl)
  have A9 : ctI (ez_I h3 65) (tC (nL (ez_I h 62)) n.toInt.toNat 0) 19 := ctI_z A5 (by omega) (fun _ => rfl)
  refine gw_ld rfl rfl ?_
  refine z_C (m := 0) rfl rfl (fun x10 ex10 => ?_)
  refine z_pI (zT S6 (by decide) rfl) (fun h11 e12 => ?_)
  have S13 := zSh_set S6 e12
  have F14 := zW_setF F7 e12 (by omega)
  have f15 : ez_I h11 61 5 = x10 := zI_eq e12
  have A16 : ctI (ez_I h11 65) (tC (nL (ez_I h 62)) n.toInt.toNat 0) 19 := by rw [zI_fn e12 65 (by decide)]; exact A9
  clear A9
  refine z_C (m := 0) rfl rfl (fun x17 ex17 => ?_)
  refine gw_st rfl rfl rfl ?_
  show ez_gw _ _ _ _ _ _ _ _ [some (.ref 61), some (.int n), some (.int x17), none] _ _ _
  refine z_C (m := 0) rfl rfl (fun x18 ex18 => ?_)
  refine gw_st rfl rfl rfl ?_
  show ez_gw _ _ _ _ _ _ _ _ [some (.ref 61), some (.int n), some (.int x17), some (.int x18)] _ _ _
  have t19 := congrArg Int32.toInt (f15)
  exact ez_Wp_at ((c_tellRow_L0 (n := n) S hE hR hn K (((1000 - x18.toInt)).toNat + 1)) h11 x17 x18 0 F14 (⟨by omega, by omega, by show x17.toInt = ((0 : Nat) : Int); omega, by omega⟩) (teI_0 _ _ _ _) (A16) (ltT_0 _ _) (by omega)) rfl
end
section
/-! PRINTED by wip/pack: the class: counts told -/
set_option maxRecDepth 4000 in
set_option maxHeartbeats 20000000 in
theorem c_told_L0 {E : Nat → Nat × (Nat → Int32)} {d : Nat} {Q : ez_Q} {h : ez_H} {w : Nat} {m : Int32} {f : Int32} (S : zSh h) {nw : Nat} (hw : zA w nw) (hb : 1 ≤ f.toInt ∧ f.toInt ≤ m.toInt ∧ m.toInt ≤ nw ∧ nw ≤ 1000) (hR : aR (ez_I h w) nw 0 15) (K : ∀ x : Int32, x.toInt = (tdM (nL (ez_I h w)) f.toInt.toNat (m.toInt.toNat - f.toInt.toNat) : Nat) → Q (.inl (some (.int x))) h) : ∀ N : Nat, (∀ (h2 : ez_H) (t : Int32) , zW (fun _ _ => False) (fun _ => False) (fun _ => False) h h2 → (f.toInt ≤ t.toInt ∧ t.toInt ≤ m.toInt) → tdM (nL (ez_I h w)) f.toInt.toNat (t.toInt.toNat - f.toInt.toNat) = tdM (nL (ez_I h w)) f.toInt.toNat (m.toInt.toNat - f.toInt.toNat) → (t.toInt + 1) < (N : Int) → pw E d 91 7 [some (.ref w), some (.int m), some (.int f), some (.int t)] [] h2 Q) := by
  intro N
  induction N with
  | zero => exact fun h2 t  F hinv A_td hm => absurd hm (by have w_t := z_rng t; have gm := z_rng m; have gf := z_rng f; omega)
  | succ N ih =>
    refine fun h2 t  F hinv A_td hm => ?_
    · skip
      have w_t := z_rng t
      have gm := z_rng m
      have gf := z_rng f
      have S2 := zW_sh F S
      apply ez_Wp_in
      show ez_gw _ _ _ _ _ _ (cz_91) _ _ _ _ _
      refine gw_skip _ ?_
      refine gw_ld rfl rfl ?_
      refine gw_ld rfl rfl ?_
      refine z_b2 (fun c1 => ?_) (fun c1 => ?_)
      · have c1 : t.toInt ≤ f.toInt := c1
        refine gw_skip _ ?_
        refine gw_ld rfl rfl ?_
        refine z_ri ?_
        exact zW_Q F (K _ (by rw [← A_td]; rw [show t.toInt.toNat - f.toInt.toNat = 0 by omega]; show t.toInt = ((f.toInt.toNat : Nat) : Int); omega))
      · have c1 : ¬ (t.toInt ≤ f.toInt) := c1
        refine gw_ld rfl rfl ?_
        refine gw_ld rfl rfl ?_
        refine z_C (m := 1) rfl rfl (fun x2 ex2 => ?_)
        refine z_sub (by omega) (fun x3 ex3 => ?_)
        refine z_iaV (n := nw) ((hw _ S2).1) ((hw _ S2).2) (by omega) (zW_f F (fun c => c) (fun c => c)) ?_
        generalize ex4 : ez_I h w x3.toInt.toNat = x4
        have rx4 := z_rng x4
        have yx4 := hR x3.toInt.toNat (by omega)
        rw [ex4] at yx4
        refine z_b1 (fun c5 => ?_) (fun c5 => ?_)
        · have c5 : x4.toInt ≠ 0 := c5
          refine gw_skip _ ?_
          refine gw_ld rfl rfl ?_
          refine z_ri ?_
          exact zW_Q F (K _ (by rw [← A_td]; rw [show t.toInt.toNat - f.toInt.toNat = t.toInt.toNat - f.toInt.toNat - 1 + 1 by omega, tdM_1 (by show (ez_I h w (f.toInt.toNat + (t.toInt.toNat - f.toInt.toNat - 1))).toInt.toNat ≠ 0; rw [show f.toInt.toNat + (t.toInt.toNat - f.toInt.toNat - 1) = x3.toInt.toNat by omega, ex4]; omega)]; omega))
        · have c5 : ¬ (x4.toInt ≠ 0) := c5
          refine z_inc rfl (by rw [show ((-1) : Int32).toInt = (-1) from rfl]; omega) (fun x6 ex6 => ?_)
          rw [show ((-1) : Int32).toInt = (-1) from rfl] at ex6
          show ez_gw _ _ _ _ _ _ _ _ [some (.ref w), some (.int m), some (.int f), some (.int x6)] _ _ _
          refine z_go ?_
          exact ih h2 x6 F (by omega) ((by rw [← A_td, show t.toInt.toNat - f.toInt.toNat = x6.toInt.toNat - f.toInt.toNat + 1 by omega, tdM_0 (by show (ez_I h w (f.toInt.toNat + (x6.toInt.toNat - f.toInt.toNat))).toInt.toNat = 0; rw [show f.toInt.toNat + (x6.toInt.toNat - f.toInt.toNat) = x3.toInt.toNat by omega, ex4]; omega)])) (by omega)
set_option maxRecDepth 4000 in
set_option maxHeartbeats 20000000 in
theorem c_told {E : Nat → Nat × (Nat → Int32)} {d : Nat} {Q : ez_Q} {h : ez_H} {w : Nat} {m : Int32} {f : Int32} (S : zSh h) {nw : Nat} (hw : zA w nw) (hb : 1 ≤ f.toInt ∧ f.toInt ≤ m.toInt ∧ m.toInt ≤ nw ∧ nw ≤ 1000) (hR : aR (ez_I h w) nw 0 15) (K : ∀ x : Int32, x.toInt = (tdM (nL (ez_I h w)) f.toInt.toNat (m.toInt.toNat - f.toInt.toNat) : Nat) → Q (.inl (some (.int x))) h) : pw E d 91 0 [some (.ref w), some (.int m), some (.int f), none] [] h Q := by
  have gm := z_rng m
  have gf := z_rng f
  have F := zW_refl (fun _ _ => False) (fun _ => False) (fun _ => False) h
  apply ez_Wp_in
  show ez_gw _ _ _ _ _ _ (cz_91) _ _ _ _ _
  refine gw_skip _ ?_
  refine gw_ld rfl rfl ?_
  refine gw_ld rfl rfl ?_
  refine z_al (n := nw) (.inl ((hw _ S).1)) ((hw _ S).2) (by omega) (fun x1 ex1 => ?_)
  refine z_min rfl (fun x2 ex2 => ?_)
  refine gw_st rfl rfl rfl ?_
  show ez_gw _ _ _ _ _ _ _ _ [some (.ref w), some (.int m), some (.int f), some (.int x2)] _ _ _
  exact ez_Wp_at ((c_told_L0 (w := w) (m := m) (f := f) S hw hb hR K (((x2.toInt + 1)).toNat + 1)) h x2 F (by omega) ((by rw [show x2.toInt.toNat = m.toInt.toNat by omega])) (by omega)) rfl
set_option maxRecDepth 4000 in
set_option maxHeartbeats 20000000 in
theorem c_tOrd_L0 {E : Nat → Nat × (Nat → Int32)} {d : Nat} {Q : ez_Q} {h : ez_H} {w : Nat} (S : zSh h) {nw : Nat} (hE : zE E) (hw : zA w nw) (hb : 19 ≤ nw ∧ nw ≤ 1000) (hR : aR (ez_I h w) 19 0 15) (K : ∀ x : Int32, x.toInt = (tdM (fun k => nL (ez_I h w) (ORf k)) 4 15 : Nat) → Q (.inl (some (.int x))) h) : ∀ N : Nat, (∀ (h2 : ez_H) (t : Int32) , zW (fun _ _ => False) (fun _ => False) (fun _ => False) h h2 → (4 ≤ t.toInt ∧ t.toInt ≤ 19) → tdM (fun k => nL (ez_I h w) (ORf k)) 4 (t.toInt.toNat - 4) = tdM (fun k => nL (ez_I h w) (ORf k)) 4 15 → (t.toInt + 1) < (N : Int) → pw E d 92 3 [some (.ref w), some (.int t)] [] h2 Q) := by
  intro N
  induction N with
  | zero => exact fun h2 t  F hinv A_td hm => absurd hm (by have w_t := z_rng t; omega)
  | succ N ih =>
    refine fun h2 t  F hinv A_td hm => ?_
    · skip
      have w_t := z_rng t
      have S2 := zW_sh F S
      apply ez_Wp_in
      show ez_gw _ _ _ _ _ _ (cz_92) _ _ _ _ _
      refine gw_skip _ ?_
      refine gw_ld rfl rfl ?_
      refine z_C (m := 4) rfl rfl (fun x1 ex1 => ?_)
      refine z_b2 (fun c2 => ?_) (fun c2 => ?_)
      · have c2 : t.toInt ≤ x1.toInt := c2
        refine gw_skip _ ?_
        refine gw_ld rfl rfl ?_
        refine z_ri ?_
        exact zW_Q F (K _ (by rw [← A_td]; rw [show t.toInt.toNat - 4 = 0 by omega]; show t.toInt = ((4 : Nat) : Int); omega))
      · have c2 : ¬ (t.toInt ≤ x1.toInt) := c2
        refine gw_ld rfl rfl ?_
        refine z_gs ?_
        refine gw_ld rfl rfl ?_
        refine z_C (m := 1) rfl rfl (fun x3 ex3 => ?_)
        refine z_sub (by omega) (fun x4 ex4 => ?_)
        refine z_iaE (n := 19) (hE 7) (by omega) ?_
        generalize ex5 : (tz_ar (7 + 1)).getD x4.toInt.toNat 0 = x5
        have rx5 := z_rng x5
        have ox5 := tz_OR (n := x4.toInt.toNat) (by omega)
        rw [ex5] at ox5
        have ux5 := OR_lt x4.toInt.toNat
        refine z_iaV (n := nw) ((hw _ S2).1) ((hw _ S2).2) (by omega) (zW_f F (fun c => c) (fun c => c)) ?_
        generalize ex6 : ez_I h w x5.toInt.toNat = x6
        have rx6 := z_rng x6
        have yx6 := hR x5.toInt.toNat (by omega)
        rw [ex6] at yx6
        refine z_b1 (fun c7 => ?_) (fun c7 => ?_)
        · have c7 : x6.toInt ≠ 0 := c7
          refine gw_skip _ ?_
          refine gw_ld rfl rfl ?_
          refine z_ri ?_
          exact zW_Q F (K _ (by rw [← A_td]; rw [show t.toInt.toNat - 4 = t.toInt.toNat - 4 - 1 + 1 by omega, tdM_1 (by show (ez_I h w (ORf (4 + (t.toInt.toNat - 4 - 1)))).toInt.toNat ≠ 0; rw [show ORf (4 + (t.toInt.toNat - 4 - 1)) = x5.toInt.toNat by (rw [show 4 + (t.toInt.toNat - 4 - 1) = x4.toInt.toNat by omega]; omega), ex6]; omega)]; omega))
        · have c7 : ¬ (x6.toInt ≠ 0) := c7
          refine z_inc rfl (by rw [show ((-1) : Int32).toInt = (-1) from rfl]; omega) (fun x8 ex8 => ?_)
          rw [show ((-1) : Int32).toInt = (-1) from rfl] at ex8
          show ez_gw _ _ _ _ _ _ _ _ [some (.ref w), some (.int x8)] _ _ _
          refine z_go ?_
          exact ih h2 x8 F (by omega) ((by rw [← A_td, show t.toInt.toNat - 4 = x8.toInt.toNat - 4 + 1 by omega, tdM_0 (by show (ez_I h w (ORf (4 + (x8.toInt.toNat - 4)))).toInt.toNat = 0; rw [show ORf (4 + (x8.toInt.toNat - 4)) = x5.toInt.toNat by (rw [show 4 + (x8.toInt.toNat - 4) = x4.toInt.toNat by omega]; omega), ex6]; omega)])) (by omega)
set_option maxRecDepth 4000 in
set_option maxHeartbeats 20000000 in
theorem c_tOrd {E : Nat → Nat × (Nat → Int32)} {d : Nat} {Q : ez_Q} {h : ez_H} {w : Nat} (S : zSh h) {nw : Nat} (hE : zE E) (hw : zA w nw) (hb : 19 ≤ nw ∧ nw ≤ 1000) (hR : aR (ez_I h w) 19 0 15) (K : ∀ x : Int32, x.toInt = (tdM (fun k => nL (ez_I h w) (ORf k)) 4 15 : Nat) → Q (.inl (some (.int x))) h) : pw E d 92 0 [some (.ref w), none] [] h Q := by
  have F := zW_refl (fun _ _ => False) (fun _ => False) (fun _ => False) h
  apply ez_Wp_in
  show ez_gw _ _ _ _ _ _ (cz_92) _ _ _ _ _
  refine gw_skip _ ?_
  refine z_C (m := 19) rfl rfl (fun x1 ex1 => ?_)
  refine gw_st rfl rfl rfl ?_
  show ez_gw _ _ _ _ _ _ _ _ [some (.ref w), some (.int x1)] _ _ _
  exact ez_Wp_at ((c_tOrd_L0 (w := w) S hE hw hb hR K (((x1.toInt + 1)).toNat + 1)) h x1 F (by omega) ((by rw [show x1.toInt.toNat - 4 = 15 by omega])) (by omega)) rfl
set_option maxRecDepth 4000 in
set_option maxHeartbeats 20000000 in
theorem c_xbo {E : Nat → Nat × (Nat → Int32)} {d : Nat} {Q : ez_Q} {h : ez_H} {y : Int32} (S : zSh h) (hE : zE E) (hy : 0 ≤ y.toInt ∧ y.toInt ≤ 18) (K : ∀ x : Int32, x.toInt = (rEf y.toInt.toNat : Nat) → Q (.inl (some (.int x))) h) : pw E d 98 0 [some (.int y), none] [] h Q := by
  have gy := z_rng y
  have F := zW_refl (fun _ _ => False) (fun _ => False) (fun _ => False) h
  apply ez_Wp_in
  show ez_gw _ _ _ _ _ _ (cz_98) _ _ _ _ _
  refine gw_skip _ ?_
  refine gw_ld rfl rfl ?_
  refine z_C (m := 16) rfl rfl (fun x1 ex1 => ?_)
  refine z_sub (by omega) (fun x2 ex2 => ?_)
  refine gw_st rfl rfl rfl ?_
  show ez_gw _ _ _ _ _ _ _ _ [some (.int y), some (.int x2)] _ _ _
  refine gw_ld rfl rfl ?_
  refine z_b1 (fun c3 => ?_) (fun c3 => ?_)
  · have c3 : x2.toInt < 0 := c3
    refine gw_skip _ ?_
    refine z_C (m := 0) rfl rfl (fun x4 ex4 => ?_)
    refine z_ri ?_
    exact zW_Q F (K _ (by unfold rEf; rw [if_neg (by omega)]; omega))
  · have c3 : ¬ (x2.toInt < 0) := c3
    refine gw_ld rfl rfl ?_
    refine z_gs ?_
    refine z_alE (n := 3) (by rw [hE 8]; rfl) (by omega) (fun x5 ex5 => ?_)
    refine z_b2 (fun c6 => ?_) (fun c6 => ?_)
    · have c6 : x5.toInt ≤ x2.toInt := c6
      refine gw_skip _ ?_
      refine z_C (m := 0) rfl rfl (fun x7 ex7 => ?_)
      refine z_ri ?_
      exact zW_Q F (K _ (by unfold rEf; rw [if_neg (by omega)]; omega))
    · have c6 : ¬ (x5.toInt ≤ x2.toInt) := c6
      refine z_gs ?_
      refine gw_ld rfl rfl ?_
      refine z_iaE (n := 3) (hE 8) (by omega) ?_
      generalize ex8 : (tz_ar (8 + 1)).getD x2.toInt.toNat 0 = x8
      have rx8 := z_rng x8
      have ox8 := tz_RE (n := x2.toInt.toNat) (by omega)
      rw [ex8] at ox8
      refine z_go ?_
      refine gw_skip _ ?_
      refine z_ri ?_
      exact zW_Q F (K _ (by unfold rEf; rw [if_pos (by omega)]; rw [show y.toInt.toNat - 16 = x2.toInt.toNat by omega]; exact ox8))
set_option maxRecDepth 4000 in
set_option maxHeartbeats 20000000 in
theorem c_xb_L0 {E : Nat → Nat × (Nat → Int32)} {d : Nat} {Q : ez_Q} {h : ez_H}  (S : zSh h) (hE : zE E) (hC : aR (ez_I h 65) 19 0 1000) (K : ∀ x : Int32, x.toInt = (ez_I h 65 16).toInt * 2 + (ez_I h 65 17).toInt * 3 + (ez_I h 65 18).toInt * 7 → Q (.inl (some (.int x))) h) : ∀ N : Nat, (∀ (h2 : ez_H) (b : Int32) (y : Int32) , zW (fun _ _ => False) (fun _ => False) (fun _ => False) h h2 → (16 ≤ y.toInt ∧ y.toInt ≤ 19 ∧ b.toInt = (if 16 < y.toInt then (ez_I h 65 16).toInt * 2 else 0) + (if 17 < y.toInt then (ez_I h 65 17).toInt * 3 else 0) + (if 18 < y.toInt then (ez_I h 65 18).toInt * 7 else 0)) → (100 - y.toInt) < (N : Int) → pw E (d + 1) 97 5 [some (.ref 61), some (.int b), some (.int y)] [] h2 Q) := by
  intro N
  induction N with
  | zero => exact fun h2 b y  F hinv  hm => absurd hm (by have w_b := z_rng b; have w_y := z_rng y; omega)
  | succ N ih =>
    refine fun h2 b y  F hinv  hm => ?_
    · skip
      have w_b := z_rng b
      have w_y := z_rng y
      have S2 := zW_sh F S
      have hc6 := hC 16 (by decide)
      have hc7 := hC 17 (by decide)
      have hc8 := hC 18 (by decide)
      apply ez_Wp_in
      show ez_gw _ _ _ _ _ _ (cz_97) _ _ _ _ _
      refine gw_skip _ ?_
      refine gw_ld rfl rfl ?_
      refine z_C (m := 18) rfl rfl (fun x1 ex1 => ?_)
      refine z_b2 (fun c2 => ?_) (fun c2 => ?_)
      · have c2 : x1.toInt < y.toInt := c2
        refine gw_skip _ ?_
        refine gw_ld rfl rfl ?_
        refine z_ri ?_
        exact zW_Q F (K _ (by omega))
      · have c2 : ¬ (x1.toInt < y.toInt) := c2
        refine gw_ld rfl rfl ?_
        refine gw_ld rfl rfl ?_
        refine z_gR (q := 65) (zT S2 (by decide) rfl) (zRf S2 (by decide) (by decide) rfl) (by decide) ?_
        refine gw_ld rfl rfl ?_
        refine z_iaV (n := 19) (zT S2 (by decide) rfl) (zN S2 (by decide) rfl) (by omega) (zW_f F (fun c => c) (fun c => c)) ?_
        generalize ex3 : ez_I h 65 y.toInt.toNat = x3
        have rx3 := z_rng x3
        have yx3 := hC y.toInt.toNat (by omega)
        rw [ex3] at yx3
        refine gw_ld rfl rfl ?_
        refine z_cl rfl rfl rfl rfl rfl rfl rfl rfl rfl rfl rfl (trivial) ?_
        refine c_xbo S2 (y := y) hE (by omega) (fun x4 k5 => ?_)
        have rx4 := z_rng x4
        have hre := REf_v (y := y.toInt.toNat) (by omega)
        have hey : x3.toInt = (if y.toInt = 16 then (ez_I h 65 16).toInt else if y.toInt = 17 then (ez_I h 65 17).toInt else (ez_I h 65 18).toInt) := by
          rw [← ex3]
          rcases (by omega : y.toInt = 16 ∨ y.toInt = 17 ∨ y.toInt = 18) with q | q | q <;> rw [q] <;> rfl
        have hpr : x3.toInt * x4.toInt = (if y.toInt = 16 then (ez_I h 65 16).toInt * 2 else if y.toInt = 17 then (ez_I h 65 17).toInt * 3 else (ez_I h 65 18).toInt * 7) := by
          rw [hey, k5, hre]
          rcases (by omega : y.toInt = 16 ∨ y.toInt = 17 ∨ y.toInt = 18) with q | q | q <;> rw [q] <;> rfl
        refine z_mul (by omega) (fun x6 ex6 => ?_)
        refine z_add (by omega) (fun x7 ex7 => ?_)
        refine gw_st rfl rfl rfl ?_
        show ez_gw _ _ _ _ _ _ _ _ [some (.ref 61), some (.int x7), some (.int y)] _ _ _
        refine z_inc rfl (by rw [show (1 : Int32).toInt = 1 from rfl]; omega) (fun x8 ex8 => ?_)
        rw [show (1 : Int32).toInt = 1 from rfl] at ex8
        show ez_gw _ _ _ _ _ _ _ _ [some (.ref 61), some (.int x7), some (.int x8)] _ _ _
        refine z_go ?_
        exact ih h2 x7 x8 F (⟨by omega, by omega, by omega⟩)  (by omega)
set_option maxRecDepth 4000 in
set_option maxHeartbeats 20000000 in
theorem c_xb {E : Nat → Nat × (Nat → Int32)} {d : Nat} {Q : ez_Q} {h : ez_H}  (S : zSh h) (hE : zE E) (hC : aR (ez_I h 65) 19 0 1000) (K : ∀ x : Int32, x.toInt = (ez_I h 65 16).toInt * 2 + (ez_I h 65 17).toInt * 3 + (ez_I h 65 18).toInt * 7 → Q (.inl (some (.int x))) h) : pw E (d + 1) 97 0 [some (.ref 61), none, none] [] h Q := by
  have F := zW_refl (fun _ _ => False) (fun _ => False) (fun _ => False) h
  apply ez_Wp_in
  show ez_gw _ _ _ _ _ _ (cz_97) _ _ _ _ _
  refine gw_skip _ ?_
  refine z_C (m := 0) rfl rfl (fun x1 ex1 => ?_)
  refine gw_st rfl rfl rfl ?_
  show ez_gw _ _ _ _ _ _ _ _ [some (.ref 61), some (.int x1), none] _ _ _
  refine z_C (m := 16) rfl rfl (fun x2 ex2 => ?_)
  refine gw_st rfl rfl rfl ?_
  show ez_gw _ _ _ _ _ _ _ _ [some (.ref 61), some (.int x1), some (.int x2)] _ _ _
  exact ez_Wp_at ((c_xb_L0  S hE hC K (((100 - x2.toInt)).toNat + 1)) h x1 x2 F (⟨by omega, by omega, by omega⟩)  (by omega)) rfl
end
