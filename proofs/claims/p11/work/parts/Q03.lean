/-! PRINTED by wip/pack: the class: kinds, sums, counts -/
set_option maxRecDepth 4000 in
set_option maxHeartbeats 20000000 in
theorem c_kL_L0 {E : Nat → Nat × (Nat → Int32)} {d : Nat} {Q : ez_Q} {h : ez_H} {v : Int32} (S : zSh h) (hE : zE E) (hv : 3 ≤ v.toInt ∧ v.toInt ≤ 258) (K : ∀ x : Int32, x.toInt = (kL v.toInt.toNat : Nat) → Q (.inl (some (.int x))) h) : ∀ N : Nat, (∀ (h2 : ez_H) (k : Int32) (st : Int32) , zW (fun _ _ => False) (fun _ => False) (fun _ => False) h h2 → (0 ≤ k.toInt ∧ k.toInt ≤ 28 ∧ (st.toInt = 16 ∨ st.toInt = 8 ∨ st.toInt = 4 ∨ st.toInt = 2 ∨ st.toInt = 1 ∨ st.toInt = 0)) → kbI LBf 28 v.toInt k.toInt st.toInt → (st.toInt + 1) < (N : Int) → pw E d 23 5 [some (.retAddr 2), some (.int v), some (.int k), some (.int st)] [] h2 Q) := by
  intro N
  induction N with
  | zero => exact fun h2 k st  F hinv A_kb hm => absurd hm (by have w_k := z_rng k; have w_st := z_rng st; have gv := z_rng v; omega)
  | succ N ih =>
    refine fun h2 k st  F hinv A_kb hm => ?_
    · skip
      have w_k := z_rng k
      have w_st := z_rng st
      have gv := z_rng v
      have S2 := zW_sh F S
      apply ez_Wp_in
      show ez_gw _ _ _ _ _ _ (cz_23) _ _ _ _ _
      refine gw_skip _ ?_
      refine gw_ld rfl rfl ?_
      refine z_b1 (fun c1 => ?_) (fun c1 => ?_)
      · have c1 : st.toInt ≤ 0 := c1
        refine gw_skip _ ?_
        refine gw_ld rfl rfl ?_
        refine z_ri ?_
        exact zW_Q F (K _ (kbI_e A_kb (by omega) (by omega)))
      · have c1 : ¬ (st.toInt ≤ 0) := c1
        refine gw_ld rfl rfl ?_
        refine gw_ld rfl rfl ?_
        refine z_add (by omega) (fun x2 ex2 => ?_)
        refine gw_ld rfl rfl ?_
        refine z_alE (n := 29) (by rw [hE 1]; rfl) (by omega) (fun x3 ex3 => ?_)
        refine z_b2 (fun c4 => ?_) (fun c4 => ?_)
        · have c4 : x3.toInt ≤ x2.toInt := c4
          refine gw_skip _ ?_
          refine gw_ld rfl rfl ?_
          refine z_C (m := 1) rfl rfl (fun x5 ex5 => ?_)
          refine z_2 rfl (fun x6 ex6 => ?_)
          have rx6 := z_rng x6
          have vx6 := n_shr (n := 1) (by omega) (by decide) ex6
          rw [show (2 : Int) ^ 1 = 2 from rfl] at vx6
          refine gw_st rfl rfl rfl ?_
          show ez_gw _ _ _ _ _ _ _ _ [some (.retAddr 2), some (.int v), some (.int k), some (.int x6)] _ _ _
          refine z_go ?_
          exact ih h2 k x6 F (by omega) (kbI_n A_kb (by omega) (by omega) LB_mono (.inl (by omega)) (by omega)) (by omega)
        · have c4 : ¬ (x3.toInt ≤ x2.toInt) := c4
          refine gw_ld rfl rfl ?_
          refine gw_ld rfl rfl ?_
          refine gw_ld rfl rfl ?_
          refine z_add (by omega) (fun x7 ex7 => ?_)
          refine z_iaE (n := 29) (hE 1) (by omega) ?_
          generalize ex8 : (tz_ar (1 + 1)).getD x7.toInt.toNat 0 = x8
          have rx8 := z_rng x8
          have ox8 := tz_LB (n := x7.toInt.toNat) (by omega)
          rw [ex8] at ox8
          refine gw_ld rfl rfl ?_
          refine z_b2 (fun c9 => ?_) (fun c9 => ?_)
          · have c9 : v.toInt < x8.toInt := c9
            refine gw_skip _ ?_
            refine gw_ld rfl rfl ?_
            refine z_C (m := 1) rfl rfl (fun x10 ex10 => ?_)
            refine z_2 rfl (fun x11 ex11 => ?_)
            have rx11 := z_rng x11
            have vx11 := n_shr (n := 1) (by omega) (by decide) ex11
            rw [show (2 : Int) ^ 1 = 2 from rfl] at vx11
            refine gw_st rfl rfl rfl ?_
            show ez_gw _ _ _ _ _ _ _ _ [some (.retAddr 2), some (.int v), some (.int k), some (.int x11)] _ _ _
            refine z_go ?_
            exact ih h2 k x11 F (by omega) (kbI_n A_kb (by omega) (by omega) LB_mono (.inr (by rw [show (k.toInt + st.toInt).toNat = x7.toInt.toNat by omega]; omega)) (by omega)) (by omega)
          · have c9 : ¬ (v.toInt < x8.toInt) := c9
            refine gw_ld rfl rfl ?_
            refine gw_ld rfl rfl ?_
            refine z_add (by omega) (fun x12 ex12 => ?_)
            refine gw_st rfl rfl rfl ?_
            show ez_gw _ _ _ _ _ _ _ _ [some (.retAddr 2), some (.int v), some (.int x12), some (.int st)] _ _ _
            refine gw_ld rfl rfl ?_
            refine z_C (m := 1) rfl rfl (fun x13 ex13 => ?_)
            refine z_2 rfl (fun x14 ex14 => ?_)
            have rx14 := z_rng x14
            have vx14 := n_shr (n := 1) (by omega) (by decide) ex14
            rw [show (2 : Int) ^ 1 = 2 from rfl] at vx14
            refine gw_st rfl rfl rfl ?_
            show ez_gw _ _ _ _ _ _ _ _ [some (.retAddr 2), some (.int v), some (.int x12), some (.int x14)] _ _ _
            refine z_go ?_
            exact ih h2 x12 x14 F (by omega) (kbI_y A_kb (by omega) (by rw [show (k.toInt + st.toInt).toNat = x7.toInt.toNat by omega]; omega) (by omega) (by omega)) (by omega)
set_option maxRecDepth 4000 in
set_option maxHeartbeats 20000000 in
theorem c_kL {E : Nat → Nat × (Nat → Int32)} {d : Nat} {Q : ez_Q} {h : ez_H} {v : Int32} (S : zSh h) (hE : zE E) (hv : 3 ≤ v.toInt ∧ v.toInt ≤ 258) (K : ∀ x : Int32, x.toInt = (kL v.toInt.toNat : Nat) → Q (.inl (some (.int x))) h) : pw E d 23 0 [some (.retAddr 2), some (.int v), none, none] [] h Q := by
  have gv := z_rng v
  have F := zW_refl (fun _ _ => False) (fun _ => False) (fun _ => False) h
  apply ez_Wp_in
  show ez_gw _ _ _ _ _ _ (cz_23) _ _ _ _ _
  refine gw_skip _ ?_
  refine z_C (m := 0) rfl rfl (fun x1 ex1 => ?_)
  refine gw_st rfl rfl rfl ?_
  show ez_gw _ _ _ _ _ _ _ _ [some (.retAddr 2), some (.int v), some (.int x1), none] _ _ _
  refine z_C (m := 16) rfl rfl (fun x2 ex2 => ?_)
  refine gw_st rfl rfl rfl ?_
  show ez_gw _ _ _ _ _ _ _ _ [some (.retAddr 2), some (.int v), some (.int x1), some (.int x2)] _ _ _
  exact ez_Wp_at ((c_kL_L0 (v := v) S hE hv K (((x2.toInt + 1)).toNat + 1)) h x1 x2 F (by omega) (kbI_0 (by show 3 ≤ v.toInt.toNat; omega) (by omega) (by omega) (by decide)) (by omega)) rfl
set_option maxRecDepth 4000 in
set_option maxHeartbeats 20000000 in
theorem c_kD_L0 {E : Nat → Nat × (Nat → Int32)} {d : Nat} {Q : ez_Q} {h : ez_H} {v : Int32} (S : zSh h) (hE : zE E) (hv : 1 ≤ v.toInt ∧ v.toInt ≤ 4096) (K : ∀ x : Int32, x.toInt = (kD v.toInt.toNat : Nat) → Q (.inl (some (.int x))) h) : ∀ N : Nat, (∀ (h2 : ez_H) (k : Int32) (st : Int32) , zW (fun _ _ => False) (fun _ => False) (fun _ => False) h h2 → (0 ≤ k.toInt ∧ k.toInt ≤ 29 ∧ (st.toInt = 16 ∨ st.toInt = 8 ∨ st.toInt = 4 ∨ st.toInt = 2 ∨ st.toInt = 1 ∨ st.toInt = 0)) → kbI DBf 29 v.toInt k.toInt st.toInt → (st.toInt + 1) < (N : Int) → pw E d 23 5 [some (.retAddr 3), some (.int v), some (.int k), some (.int st)] [] h2 Q) := by
  intro N
  induction N with
  | zero => exact fun h2 k st  F hinv A_kb hm => absurd hm (by have w_k := z_rng k; have w_st := z_rng st; have gv := z_rng v; omega)
  | succ N ih =>
    refine fun h2 k st  F hinv A_kb hm => ?_
    · skip
      have w_k := z_rng k
      have w_st := z_rng st
      have gv := z_rng v
      have S2 := zW_sh F S
      apply ez_Wp_in
      show ez_gw _ _ _ _ _ _ (cz_23) _ _ _ _ _
      refine gw_skip _ ?_
      refine gw_ld rfl rfl ?_
      refine z_b1 (fun c1 => ?_) (fun c1 => ?_)
      · have c1 : st.toInt ≤ 0 := c1
        refine gw_skip _ ?_
        refine gw_ld rfl rfl ?_
        refine z_ri ?_
        exact zW_Q F (K _ (kbI_e A_kb (by omega) (by omega)))
      · have c1 : ¬ (st.toInt ≤ 0) := c1
        refine gw_ld rfl rfl ?_
        refine gw_ld rfl rfl ?_
        refine z_add (by omega) (fun x2 ex2 => ?_)
        refine gw_ld rfl rfl ?_
        refine z_alE (n := 30) (by rw [hE 2]; rfl) (by omega) (fun x3 ex3 => ?_)
        refine z_b2 (fun c4 => ?_) (fun c4 => ?_)
        · have c4 : x3.toInt ≤ x2.toInt := c4
          refine gw_skip _ ?_
          refine gw_ld rfl rfl ?_
          refine z_C (m := 1) rfl rfl (fun x5 ex5 => ?_)
          refine z_2 rfl (fun x6 ex6 => ?_)
          have rx6 := z_rng x6
          have vx6 := n_shr (n := 1) (by omega) (by decide) ex6
          rw [show (2 : Int) ^ 1 = 2 from rfl] at vx6
          refine gw_st rfl rfl rfl ?_
          show ez_gw _ _ _ _ _ _ _ _ [some (.retAddr 3), some (.int v), some (.int k), some (.int x6)] _ _ _
          refine z_go ?_
          exact ih h2 k x6 F (by omega) (kbI_n A_kb (by omega) (by omega) DB_mono (.inl (by omega)) (by omega)) (by omega)
        · have c4 : ¬ (x3.toInt ≤ x2.toInt) := c4
          refine gw_ld rfl rfl ?_
          refine gw_ld rfl rfl ?_
          refine gw_ld rfl rfl ?_
          refine z_add (by omega) (fun x7 ex7 => ?_)
          refine z_iaE (n := 30) (hE 2) (by omega) ?_
          generalize ex8 : (tz_ar (2 + 1)).getD x7.toInt.toNat 0 = x8
          have rx8 := z_rng x8
          have ox8 := tz_DB (n := x7.toInt.toNat) (by omega)
          rw [ex8] at ox8
          refine gw_ld rfl rfl ?_
          refine z_b2 (fun c9 => ?_) (fun c9 => ?_)
          · have c9 : v.toInt < x8.toInt := c9
            refine gw_skip _ ?_
            refine gw_ld rfl rfl ?_
            refine z_C (m := 1) rfl rfl (fun x10 ex10 => ?_)
            refine z_2 rfl (fun x11 ex11 => ?_)
            have rx11 := z_rng x11
            have vx11 := n_shr (n := 1) (by omega) (by decide) ex11
            rw [show (2 : Int) ^ 1 = 2 from rfl] at vx11
            refine gw_st rfl rfl rfl ?_
            show ez_gw _ _ _ _ _ _ _ _ [some (.retAddr 3), some (.int v), some (.int k), some (.int x11)] _ _ _
            refine z_go ?_
            exact ih h2 k x11 F (by omega) (kbI_n A_kb (by omega) (by omega) DB_mono (.inr (by rw [show (k.toInt + st.toInt).toNat = x7.toInt.toNat by omega]; omega)) (by omega)) (by omega)
          · have c9 : ¬ (v.toInt < x8.toInt) := c9
            refine gw_ld rfl rfl ?_
            refine gw_ld rfl rfl ?_
            refine z_add (by omega) (fun x12 ex12 => ?_)
            refine gw_st rfl rfl rfl ?_
            show ez_gw _ _ _ _ _ _ _ _ [some (.retAddr 3), some (.int v), some (.int x12), some (.int st)] _ _ _
            refine gw_ld rfl rfl ?_
            refine z_C (m := 1) rfl rfl (fun x13 ex13 => ?_)
            refine z_2 rfl (fun x14 ex14 => ?_)
            have rx14 := z_rng x14
            have vx14 := n_shr (n := 1) (by omega) (by decide) ex14
            rw [show (2 : Int) ^ 1 = 2 from rfl] at vx14
            refine gw_st rfl rfl rfl ?_
            show ez_gw _ _ _ _ _ _ _ _ [some (.retAddr 3), some (.int v), some (.int x12), some (.int x14)] _ _ _
            refine z_go ?_
            exact ih h2 x12 x14 F (by omega) (kbI_y A_kb (by omega) (by rw [show (k.toInt + st.toInt).toNat = x7.toInt.toNat by omega]; omega) (by omega) (by omega)) (by omega)
set_option maxRecDepth 4000 in
set_option maxHeartbeats 20000000 in
theorem c_kD {E : Nat → Nat × (Nat → Int32)} {d : Nat} {Q : ez_Q} {h : ez_H} {v : Int32} (S : zSh h) (hE : zE E) (hv : 1 ≤ v.toInt ∧ v.toInt ≤ 4096) (K : ∀ x : Int32, x.toInt = (kD v.toInt.toNat : Nat) → Q (.inl (some (.int x))) h) : pw E d 23 0 [some (.retAddr 3), some (.int v), none, none] [] h Q := by
  have gv := z_rng v
  have F := zW_refl (fun _ _ => False) (fun _ => False) (fun _ => False) h
  apply ez_Wp_in
  show ez_gw _ _ _ _ _ _ (cz_23) _ _ _ _ _
  refine gw_skip _ ?_
  refine z_C (m := 0) rfl rfl (fun x1 ex1 => ?_)
  refine gw_st rfl rfl rfl ?_
  show ez_gw _ _ _ _ _ _ _ _ [some (.retAddr 3), some (.int v), some (.int x1), none] _ _ _
  refine z_C (m := 16) rfl rfl (fun x2 ex2 => ?_)
  refine gw_st rfl rfl rfl ?_
  show ez_gw _ _ _ _ _ _ _ _ [some (.retAddr 3), some (.int v), some (.int x1), some (.int x2)] _ _ _
  exact ez_Wp_at ((c_kD_L0 (v := v) S hE hv K (((x2.toInt + 1)).toNat + 1)) h x1 x2 F (by omega) (kbI_0 (by show 1 ≤ v.toInt.toNat; omega) (by omega) (by omega) (by decide)) (by omega)) rfl
set_option maxRecDepth 4000 in
set_option maxHeartbeats 20000000 in
theorem c_wsum_L0 {E : Nat → Nat × (Nat → Int32)} {d : Nat} {Q : ez_Q} {h : ez_H} {u : Nat} {w : Nat} {n : Int32} (S : zSh h) {nu nw : Nat} (hu : zA u nu) (hw : zA w nw) (hn : 0 ≤ n.toInt ∧ n.toInt ≤ nu ∧ n.toInt ≤ nw ∧ nu ≤ 300 ∧ nw ≤ 300) (hU : aR (ez_I h u) n.toInt.toNat 0 601) (hW : aR (ez_I h w) n.toInt.toNat 0 15) (K : ∀ x : Int32, x.toInt = (sm (fun i => (ez_I h u i).toInt * (ez_I h w i).toInt) n.toInt.toNat) → 0 ≤ x.toInt → Q (.inl (some (.int x))) h) : ∀ N : Nat, (∀ (h2 : ez_H) (c : Int32) (i : Int32) , zW (fun _ _ => False) (fun _ => False) (fun _ => False) h h2 → (0 ≤ i.toInt ∧ i.toInt ≤ n.toInt ∧ 0 ≤ c.toInt ∧ c.toInt ≤ 9015 * i.toInt ∧ c.toInt = (sm (fun i => (ez_I h u i).toInt * (ez_I h w i).toInt) i.toInt.toNat)) → (1000 - i.toInt) < (N : Int) → pw E d 22 5 [some (.ref u), some (.ref w), some (.int n), some (.int c), some (.int i)] [] h2 Q) := by
  intro N
  induction N with
  | zero => exact fun h2 c i  F hinv  hm => absurd hm (by have w_c := z_rng c; have w_i := z_rng i; have gn := z_rng n; omega)
  | succ N ih =>
    refine fun h2 c i  F hinv  hm => ?_
    · skip
      have w_c := z_rng c
      have w_i := z_rng i
      have gn := z_rng n
      have S2 := zW_sh F S
      apply ez_Wp_in
      show ez_gw _ _ _ _ _ _ (cz_22) _ _ _ _ _
      refine gw_skip _ ?_
      refine gw_ld rfl rfl ?_
      refine gw_ld rfl rfl ?_
      refine z_b2 (fun c1 => ?_) (fun c1 => ?_)
      · have c1 : n.toInt ≤ i.toInt := c1
        refine gw_skip _ ?_
        refine gw_ld rfl rfl ?_
        refine z_ri ?_
        exact zW_Q F (K _ (by rw [show n.toInt.toNat = i.toInt.toNat by omega]; omega) (by omega))
      · have c1 : ¬ (n.toInt ≤ i.toInt) := c1
        refine gw_ld rfl rfl ?_
        refine gw_ld rfl rfl ?_
        refine z_al (n := nu) (.inl ((hu _ S2).1)) ((hu _ S2).2) (by omega) (fun x2 ex2 => ?_)
        refine z_b2 (fun c3 => ?_) (fun c3 => ?_)
        · have c3 : x2.toInt ≤ i.toInt := c3
          refine gw_skip _ ?_
          refine gw_ld rfl rfl ?_
          refine z_ri ?_
          exact zW_Q F (K _ (by rw [show n.toInt.toNat = i.toInt.toNat by omega]; omega) (by omega))
        · have c3 : ¬ (x2.toInt ≤ i.toInt) := c3
          refine gw_ld rfl rfl ?_
          refine gw_ld rfl rfl ?_
          refine z_al (n := nw) (.inl ((hw _ S2).1)) ((hw _ S2).2) (by omega) (fun x4 ex4 => ?_)
          refine z_b2 (fun c5 => ?_) (fun c5 => ?_)
          · have c5 : x4.toInt ≤ i.toInt := c5
            refine gw_skip _ ?_
            refine gw_ld rfl rfl ?_
            refine z_ri ?_
            exact zW_Q F (K _ (by rw [show n.toInt.toNat = i.toInt.toNat by omega]; omega) (by omega))
          · have c5 : ¬ (x4.toInt ≤ i.toInt) := c5
            refine gw_ld rfl rfl ?_
            refine gw_ld rfl rfl ?_
            refine gw_ld rfl rfl ?_
            refine z_iaV (n := nu) ((hu _ S2).1) ((hu _ S2).2) (by omega) (zW_f F (fun c => c) (fun c => c)) ?_
            generalize ex6 : ez_I h u i.toInt.toNat = x6
            have rx6 := z_rng x6
            have yx6 := hU i.toInt.toNat (by omega)
            rw [ex6] at yx6
            refine gw_ld rfl rfl ?_
            refine gw_ld rfl rfl ?_
            refine z_iaV (n := nw) ((hw _ S2).1) ((hw _ S2).2) (by omega) (zW_f F (fun c => c) (fun c => c)) ?_
            generalize ex7 : ez_I h w i.toInt.toNat = x7
            have rx7 := z_rng x7
            have yx7 := hW i.toInt.toNat (by omega)
            rw [ex7] at yx7
            have hp := mulB (c := 9015) yx6 yx7 (by decide)
            refine z_mul (by omega) (fun x8 ex8 => ?_)
            refine z_add (by omega) (fun x9 ex9 => ?_)
            refine gw_st rfl rfl rfl ?_
            show ez_gw _ _ _ _ _ _ _ _ [some (.ref u), some (.ref w), some (.int n), some (.int x9), some (.int i)] _ _ _
            refine z_inc rfl (by rw [show (1 : Int32).toInt = 1 from rfl]; omega) (fun x10 ex10 => ?_)
            rw [show (1 : Int32).toInt = 1 from rfl] at ex10
            show ez_gw _ _ _ _ _ _ _ _ [some (.ref u), some (.ref w), some (.int n), some (.int x9), some (.int x10)] _ _ _
            refine z_go ?_
            exact ih h2 x9 x10 F (⟨by omega, by omega, by omega, by omega, by rw [show x10.toInt.toNat = i.toInt.toNat + 1 by omega]; show x9.toInt = (sm (fun i => (ez_I h u i).toInt * (ez_I h w i).toInt) i.toInt.toNat) + (ez_I h u i.toInt.toNat).toInt * (ez_I h w i.toInt.toNat).toInt; rw [ex6, ex7]; omega⟩)  (by omega)
set_option maxRecDepth 4000 in
set_option maxHeartbeats 20000000 in
theorem c_wsum {E : Nat → Nat × (Nat → Int32)} {d : Nat} {Q : ez_Q} {h : ez_H} {u : Nat} {w : Nat} {n : Int32} (S : zSh h) {nu nw : Nat} (hu : zA u nu) (hw : zA w nw) (hn : 0 ≤ n.toInt ∧ n.toInt ≤ nu ∧ n.toInt ≤ nw ∧ nu ≤ 300 ∧ nw ≤ 300) (hU : aR (ez_I h u) n.toInt.toNat 0 601) (hW : aR (ez_I h w) n.toInt.toNat 0 15) (K : ∀ x : Int32, x.toInt = (sm (fun i => (ez_I h u i).toInt * (ez_I h w i).toInt) n.toInt.toNat) → 0 ≤ x.toInt → Q (.inl (some (.int x))) h) : pw E d 22 0 [some (.ref u), some (.ref w), some (.int n), none, none] [] h Q := by
  have gn := z_rng n
  have F := zW_refl (fun _ _ => False) (fun _ => False) (fun _ => False) h
  apply ez_Wp_in
  show ez_gw _ _ _ _ _ _ (cz_22) _ _ _ _ _
  refine gw_skip _ ?_
  refine z_C (m := 0) rfl rfl (fun x1 ex1 => ?_)
  refine gw_st rfl rfl rfl ?_
  show ez_gw _ _ _ _ _ _ _ _ [some (.ref u), some (.ref w), some (.int n), some (.int x1), none] _ _ _
  refine z_C (m := 0) rfl rfl (fun x2 ex2 => ?_)
  refine gw_st rfl rfl rfl ?_
  show ez_gw _ _ _ _ _ _ _ _ [some (.ref u), some (.ref w), some (.int n), some (.int x1), some (.int x2)] _ _ _
  exact ez_Wp_at ((c_wsum_L0 (u := u) (w := w) (n := n) S hu hw hn hU hW K (((1000 - x2.toInt)).toNat + 1)) h x1 x2 F (⟨by omega, by omega, by omega, by omega, by rw [show x2.toInt.toNat = 0 by omega]; show x1.toInt = 0; omega⟩)  (by omega)) rfl
set_option maxRecDepth 4000 in
set_option maxHeartbeats 20000000 in
theorem c_cPart {E : Nat → Nat × (Nat → Int32)} {d : Nat} {Q : ez_Q} {h : ez_H} {a : Int32} {ds : Int32} (S : zSh h) (hE : zE E) (hx : 0 ≤ (ez_I h 52 10).toInt ∧ (ez_I h 52 10).toInt ≤ 100000) (hy : 0 ≤ (ez_I h 52 11).toInt ∧ (ez_I h 52 11).toInt ≤ 1000000) (hl : aR (ez_I h 66) 286 0 10000) (hd : aR (ez_I h 67) 30 0 10000) (ha : (ds.toInt = 0 ∧ 0 ≤ a.toInt ∧ a.toInt ≤ 255) ∨ (1 ≤ ds.toInt ∧ ds.toInt ≤ 4096 ∧ 3 ≤ a.toInt ∧ a.toInt ≤ 258)) (K : ∀ h2, zW (fun q k => q = 52 ∧ k = 10 ∨ q = 52 ∧ k = 11) (fun q => q = 66 ∨ q = 67) (fun _ => False) h h2 → ((ds.toInt = 0 ∧ upE (ez_I h 66) (ez_I h2 66) a.toInt.toNat ∧ ez_I h2 67 = ez_I h 67 ∧ (ez_I h2 52 10).toInt = (ez_I h 52 10).toInt ∧ (ez_I h2 52 11).toInt = (ez_I h 52 11).toInt + 1) ∨ (ds.toInt ≠ 0 ∧ upE (ez_I h 66) (ez_I h2 66) (257 + kL a.toInt.toNat) ∧ upE (ez_I h 67) (ez_I h2 67) (kD ds.toInt.toNat) ∧ (ez_I h2 52 10).toInt = (ez_I h 52 10).toInt + LEf (kL a.toInt.toNat) + DEf (kD ds.toInt.toNat) ∧ (ez_I h2 52 11).toInt = (ez_I h 52 11).toInt + a.toInt)) → Q (.inl none) h2) : pw E (d + 1) 117 0 [some (.ref 52), some (.int a), some (.int ds), none, none] [] h Q := by
  have ga := z_rng a
  have gds := z_rng ds
  have F := zW_refl (fun q k => q = 52 ∧ k = 10 ∨ q = 52 ∧ k = 11) (fun q => q = 66 ∨ q = 67) (fun _ => False) h
  apply ez_Wp_in
  show ez_gw _ _ _ _ _ _ (cz_117) _ _ _ _ _
  refine gw_skip _ ?_
  have r1 := z_rng (ez_I h 52 10)
  have r2 := z_rng (ez_I h 52 11)
  refine gw_ld rfl rfl ?_
  refine z_b1 (fun c3 => ?_) (fun c3 => ?_)
  · have c3 : ds.toInt ≤ 0 := c3
    refine gw_skip _ ?_
    refine gw_ld rfl rfl ?_
    refine z_b1 (fun c4 => ?_) (fun c4 => ?_)
    · have c4 : a.toInt < 0 := c4
      refine gw_skip _ ?_
      refine z_rv ?_
      exfalso; omega
    · have c4 : ¬ (a.toInt < 0) := c4
      refine gw_ld rfl rfl ?_
      refine z_C (m := 256) rfl rfl (fun x5 ex5 => ?_)
      refine z_b2 (fun c6 => ?_) (fun c6 => ?_)
      · have c6 : x5.toInt ≤ a.toInt := c6
        refine gw_skip _ ?_
        refine z_rv ?_
        exfalso; omega
      · have c6 : ¬ (x5.toInt ≤ a.toInt) := c6
        refine gw_ld rfl rfl ?_
        refine z_gR (q := 66) (zT S (by decide) rfl) (zRf S (by decide) (by decide) rfl) (by decide) ?_
        refine gw_ld rfl rfl ?_
        refine gw_op rfl ?_
        refine z_ia (n := 286) (zT S (by decide) rfl) (zN S (by decide) rfl) (by omega) ?_
        generalize ex7 : ez_I h 66 a.toInt.toNat = x7
        have rx7 := z_rng x7
        have yx7 := hl a.toInt.toNat (by omega)
        rw [ex7] at yx7
        refine z_C (m := 1) rfl rfl (fun x8 ex8 => ?_)
        refine z_add (by omega) (fun x9 ex9 => ?_)
        refine z_is (n := 286) (zT S (by decide) rfl) (zN S (by decide) rfl) (by omega) (fun h10 e11 => ?_)
        have S12 := zSh_set S e11
        have F13 := zW_setA F e11 (by omega)
        have f14 : ez_I h10 52 10 = (ez_I h 52 10) := (zI_ne e11 (by omega)).trans (rfl)
        have f15 : ez_I h10 52 11 = (ez_I h 52 11) := (zI_ne e11 (by omega)).trans (rfl)
        have A16 : ez_I h10 67 = ez_I h 67 := by rw [zI_fn e11 67 (by decide)]
        have A17 : upE (ez_I h 66) (ez_I h10 66) a.toInt.toNat := ⟨x7, x9, ex7, by omega, zI_eq e11, fun s hs => zI_ne e11 (by omega)⟩
        refine gw_ld rfl rfl ?_
        refine gw_op rfl ?_
        refine z_gI2 (by decide) (zT S12 (by decide) rfl) (f15) ?_
        refine z_C (m := 1) rfl rfl (fun x18 ex18 => ?_)
        refine z_add (by omega) (fun x19 ex19 => ?_)
        refine z_pI (zT S12 (by decide) rfl) (fun h20 e21 => ?_)
        have S22 := zSh_set S12 e21
        have F23 := zW_setF F13 e21 (by omega)
        have f24 : ez_I h20 52 10 = (ez_I h 52 10) := (zI_ne e21 (by decide)).trans (f14)
        have f25 : ez_I h20 52 11 = x19 := zI_eq e21
        have A26 : ez_I h20 67 = ez_I h 67 := by rw [zI_fn e21 67 (by decide)]; exact A16
        have A27 : upE (ez_I h 66) (ez_I h20 66) a.toInt.toNat := by rw [zI_fn e21 66 (by decide)]; exact A17
        clear A16
        clear A17
        refine z_rv ?_
        have t28 := congrArg Int32.toInt (f24)
        have t29 := congrArg Int32.toInt (f25)
        exact K _ F23 (.inl ⟨by omega, A27, A26, by omega, by omega⟩)
  · have c3 : ¬ (ds.toInt ≤ 0) := c3
    refine z_gs ?_
    refine gw_ld rfl rfl ?_
    refine z_cl rfl rfl rfl rfl rfl rfl rfl rfl rfl rfl rfl (trivial) ?_
    refine c_kL S hE (v := a) (by omega) (fun x30 k31 => ?_)
    have rx30 := z_rng x30
    refine gw_st rfl rfl rfl ?_
    show ez_gw _ _ _ _ _ _ _ _ [some (.ref 52), some (.int a), some (.int ds), some (.int x30), none] _ _ _
    refine z_gs ?_
    refine gw_ld rfl rfl ?_
    refine z_cl rfl rfl rfl rfl rfl rfl rfl rfl rfl rfl rfl (trivial) ?_
    refine c_kD S hE (v := ds) (by omega) (fun x32 k33 => ?_)
    have rx32 := z_rng x32
    refine gw_st rfl rfl rfl ?_
    show ez_gw _ _ _ _ _ _ _ _ [some (.ref 52), some (.int a), some (.int ds), some (.int x30), some (.int x32)] _ _ _
    have hkl := kL_ok (v := a.toInt.toNat) (by omega)
    have hkd := kD_ok (v := ds.toInt.toNat) (by omega)
    have hle := LE_5 (kL a.toInt.toNat)
    have hde := DE_13 (kD ds.toInt.toNat)
    refine gw_ld rfl rfl ?_
    refine z_gR (q := 66) (zT S (by decide) rfl) (zRf S (by decide) (by decide) rfl) (by decide) ?_
    refine z_C (m := 257) rfl rfl (fun x34 ex34 => ?_)
    refine gw_ld rfl rfl ?_
    refine z_add (by omega) (fun x35 ex35 => ?_)
    refine gw_op rfl ?_
    refine z_ia (n := 286) (zT S (by decide) rfl) (zN S (by decide) rfl) (by omega) ?_
    generalize ex36 : ez_I h 66 x35.toInt.toNat = x36
    have rx36 := z_rng x36
    have yx36 := hl x35.toInt.toNat (by omega)
    rw [ex36] at yx36
    refine z_C (m := 1) rfl rfl (fun x37 ex37 => ?_)
    refine z_add (by omega) (fun x38 ex38 => ?_)
    refine z_is (n := 286) (zT S (by decide) rfl) (zN S (by decide) rfl) (by omega) (fun h39 e40 => ?_)
    have S41 := zSh_set S e40
    have F42 := zW_setA F e40 (by omega)
    have f43 : ez_I h39 52 10 = (ez_I h 52 10) := (zI_ne e40 (by omega)).trans (rfl)
    have f44 : ez_I h39 52 11 = (ez_I h 52 11) := (zI_ne e40 (by omega)).trans (rfl)
    have A45 : upE (ez_I h 66) (ez_I h39 66) (257 + kL a.toInt.toNat) := ⟨x36, x38, by rw [← ex36]; congr 1; omega, by omega, by rw [show (257 + kL a.toInt.toNat) = x35.toInt.toNat by omega]; exact zI_eq e40, fun s hs => zI_ne e40 (by omega)⟩
    have A46 : ez_I h39 67 = ez_I h 67 := zI_fn e40 67 (by decide)
    refine gw_ld rfl rfl ?_
    refine z_gR (q := 67) (zT S41 (by decide) rfl) (zRf S41 (by decide) (by decide) rfl) (by decide) ?_
    refine gw_ld rfl rfl ?_
    refine gw_op rfl ?_
    refine z_ia (n := 30) (zT S41 (by decide) rfl) (zN S41 (by decide) rfl) (by omega) ?_
    generalize ex47 : ez_I h39 67 x32.toInt.toNat = x47
    have rx47 := z_rng x47
    have yx47 := hd x32.toInt.toNat (by omega)
    rw [show ez_I h39 67 = ez_I h 67 from A46] at ex47
    rw [ex47] at yx47
    refine z_C (m := 1) rfl rfl (fun x48 ex48 => ?_)
    refine z_add (by omega) (fun x49 ex49 => ?_)
    refine z_is (n := 30) (zT S41 (by decide) rfl) (zN S41 (by decide) rfl) (by omega) (fun h50 e51 => ?_)
    have S52 := zSh_set S41 e51
    have F53 := zW_setA F42 e51 (by omega)
    have f54 : ez_I h50 52 10 = (ez_I h 52 10) := (zI_ne e51 (by omega)).trans (f43)
    have f55 : ez_I h50 52 11 = (ez_I h 52 11) := (zI_ne e51 (by omega)).trans (f44)
    have A56 : upE (ez_I h 66) (ez_I h50 66) (257 + kL a.toInt.toNat) := by rw [zI_fn e51 66 (by decide)]; exact A45
    have A57 : upE (ez_I h 67) (ez_I h50 67) (kD ds.toInt.toNat) := ⟨x47, x49, by rw [← ex47]; congr 1; omega, by omega, by rw [show (kD ds.toInt.toNat) = x32.toInt.toNat by omega]; exact zI_eq e51, fun s hs => (zI_ne e51 (by omega)).trans (congrFun A46 s)⟩
    clear A45
    refine gw_ld rfl rfl ?_
    refine gw_op rfl ?_
    refine z_gI2 (by decide) (zT S52 (by decide) rfl) (f54) ?_
    refine z_gs ?_
    refine gw_ld rfl rfl ?_
    refine z_iaE (n := 29) (hE 3) (by omega) ?_
    generalize ex58 : (tz_ar (3 + 1)).getD x30.toInt.toNat 0 = x58
    have rx58 := z_rng x58
    have ox58 := tz_LE (n := x30.toInt.toNat) (by omega)
    rw [ex58] at ox58
    rw [show x30.toInt.toNat = kL a.toInt.toNat by omega] at ox58
    refine z_gs ?_
    refine gw_ld rfl rfl ?_
    refine z_iaE (n := 30) (hE 4) (by omega) ?_
    generalize ex59 : (tz_ar (4 + 1)).getD x32.toInt.toNat 0 = x59
    have rx59 := z_rng x59
    have ox59 := tz_DE (n := x32.toInt.toNat) (by omega)
    rw [ex59] at ox59
    rw [show x32.toInt.toNat = kD ds.toInt.toNat by omega] at ox59
    refine z_add (by omega) (fun x60 ex60 => ?_)
    refine z_add (by omega) (fun x61 ex61 => ?_)
    refine z_pI (zT S52 (by decide) rfl) (fun h62 e63 => ?_)
    have S64 := zSh_set S52 e63
    have F65 := zW_setF F53 e63 (by omega)
    have f66 : ez_I h62 52 10 = x61 := zI_eq e63
    have f67 : ez_I h62 52 11 = (ez_I h 52 11) := (zI_ne e63 (by decide)).trans (f55)
    have A68 : upE (ez_I h 66) (ez_I h62 66) (257 + kL a.toInt.toNat) := by rw [zI_fn e63 66 (by decide)]; exact A56
    have A69 : upE (ez_I h 67) (ez_I h62 67) (kD ds.toInt.toNat) := by rw [zI_fn e63 67 (by decide)]; exact A57
    clear A56
    clear A57
    refine gw_ld rfl rfl ?_
    refine gw_op rfl ?_
    refine z_gI2 (by decide) (zT S64 (by decide) rfl) (f67) ?_
    refine gw_ld rfl rfl ?_
    refine z_add (by omega) (fun x70 ex70 => ?_)
    refine z_pI (zT S64 (by decide) rfl) (fun h71 e72 => ?_)
    have S73 := zSh_set S64 e72
    have F74 := zW_setF F65 e72 (by omega)
    have f75 : ez_I h71 52 10 = x61 := (zI_ne e72 (by decide)).trans (f66)
    have f76 : ez_I h71 52 11 = x70 := zI_eq e72
    have A77 : upE (ez_I h 66) (ez_I h71 66) (257 + kL a.toInt.toNat) := by rw [zI_fn e72 66 (by decide)]; exact A68
    have A78 : upE (ez_I h 67) (ez_I h71 67) (kD ds.toInt.toNat) := by rw [zI_fn e72 67 (by decide)]; exact A69
    clear A68
    clear A69
    refine z_go ?_
    refine gw_skip _ ?_
    refine z_rv ?_
    have t79 := congrArg Int32.toInt (f75)
    have t80 := congrArg Int32.toInt (f76)
    exact K _ F74 (.inr ⟨by omega, A77, A78, by omega, by omega⟩)
set_option maxRecDepth 4000 in
set_option maxHeartbeats 20000000 in
theorem c_cBlock_L0 {E : Nat → Nat × (Nat → Int32)} {d : Nat} {Q : ez_Q} {h : ez_H} {fr : Int32} {to : Int32} (S : zSh h) {am di : Nat → Nat} {c : Nat} (hE : zE E) (hc : (ez_I h 53 1).toInt = c ∧ c ≤ 6000) (hpq : pqG (ez_I h 54) am di c) (hf : 0 ≤ fr.toInt ∧ fr.toInt ≤ to.toInt ∧ to.toInt ≤ c ∧ to.toInt - fr.toInt ≤ 600) (K : ∀ h2, zW (fun q k => q = 52 ∧ k = 10 ∨ q = 52 ∧ k = 11) (fun q => q = 66 ∨ q = 67) (fun _ => False) h h2 → ctI (ez_I h2 66) (cL am di fr.toInt.toNat (to.toInt.toNat - fr.toInt.toNat)) 286 → ctI (ez_I h2 67) (cD di fr.toInt.toNat (to.toInt.toNat - fr.toInt.toNat)) 30 → (ez_I h2 52 10).toInt = (xB am di fr.toInt.toNat (to.toInt.toNat - fr.toInt.toNat) : Nat) → (ez_I h2 52 11).toInt = (bY am di fr.toInt.toNat (to.toInt.toNat - fr.toInt.toNat) : Nat) → Q (.inl none) h2) : ∀ N : Nat, (∀ (h2 : ez_H) (i : Int32) , zW (fun q k => q = 52 ∧ k = 10 ∨ q = 52 ∧ k = 11) (fun q => q = 66 ∨ q = 67) (fun _ => False) h h2 → (fr.toInt ≤ i.toInt ∧ i.toInt ≤ to.toInt ∧ (ez_I h2 52 10).toInt = (xB am di fr.toInt.toNat (i.toInt.toNat - fr.toInt.toNat) : Nat) ∧ (ez_I h2 52 11).toInt = (bY am di fr.toInt.toNat (i.toInt.toNat - fr.toInt.toNat) : Nat)) → ctI (ez_I h2 66) (cL am di fr.toInt.toNat (i.toInt.toNat - fr.toInt.toNat)) 286 → ctI (ez_I h2 67) (cD di fr.toInt.toNat (i.toInt.toNat - fr.toInt.toNat)) 30 → (100000 - i.toInt) < (N : Int) → pw E (d + 2) 116 37 [some (.ref 52), some (.int fr), some (.int to), some (.int i)] [] h2 Q) := by
  intro N
  induction N with
  | zero => exact fun h2 i  F hinv A_cl A_cd hm => absurd hm (by have w_i := z_rng i; have gfr := z_rng fr; have gto := z_rng to; omega)
  | succ N ih =>
    refine fun h2 i  F hinv A_cl A_cd hm => ?_
    · skip
      have w_i := z_rng i
      have gfr := z_rng fr
      have gto := z_rng to
      have S2 := zW_sh F S
      apply ez_Wp_in
      show ez_gw _ _ _ _ _ _ (cz_116) _ _ _ _ _
      refine gw_skip _ ?_
      have r1 := z_rng (ez_I h2 52 10)
      have r2 := z_rng (ez_I h2 52 11)
      refine gw_ld rfl rfl ?_
      refine gw_ld rfl rfl ?_
      refine z_b2 (fun c3 => ?_) (fun c3 => ?_)
      · have c3 : to.toInt ≤ i.toInt := c3
        refine gw_skip _ ?_
        refine z_rv ?_
        have he : (i.toInt.toNat - fr.toInt.toNat) = (to.toInt.toNat - fr.toInt.toNat) := by omega
        rw [← he] at K
        exact K _ F A_cl A_cd (by omega) (by omega)
      · have c3 : ¬ (to.toInt ≤ i.toInt) := c3
        refine gw_ld rfl rfl ?_
        refine gw_ld rfl rfl ?_
        refine z_gR (q := 53) (zT S2 (by decide) rfl) (zRf S2 (by decide) (by decide) rfl) (by decide) ?_
        refine gw_ld rfl rfl ?_
        refine z_cl rfl rfl rfl rfl rfl rfl rfl rfl rfl rfl rfl (zT S2 (by decide) rfl) ?_
        refine c_pamount (k := i) S2 (by rw [(show ez_I h2 53 1 = ez_I h 53 1 from zW_f F (by decide) (by decide))]; omega) (fun x4 k5 => ?_)
        rw [(show ez_I h2 54 = ez_I h 54 from zW_fn F 54 (by decide) (fun k c => by omega))] at k5
        have rx4 := z_rng x4
        obtain ⟨pk1, pk2⟩ := hpq i.toInt.toNat (by omega)
        refine gw_ld rfl rfl ?_
        refine z_gR (q := 53) (zT S2 (by decide) rfl) (zRf S2 (by decide) (by decide) rfl) (by decide) ?_
        refine gw_ld rfl rfl ?_
        refine z_cl rfl rfl rfl rfl rfl rfl rfl rfl rfl rfl rfl (zT S2 (by decide) rfl) ?_
        refine c_pdistance (k := i) S2 (by rw [(show ez_I h2 53 1 = ez_I h 53 1 from zW_f F (by decide) (by decide))]; omega) (fun x6 k7 => ?_)
        rw [(show ez_I h2 54 = ez_I h 54 from zW_fn F 54 (by decide) (fun k c => by omega))] at k7
        have rx6 := z_rng x6
        refine z_cl rfl rfl rfl rfl rfl rfl rfl rfl rfl rfl rfl (zT S2 (by decide) rfl) ?_
        have hxl := xB_le am di fr.toInt.toNat (i.toInt.toNat - fr.toInt.toNat)
        have hbl := bY_le (am := am) (di := di) (a := fr.toInt.toNat) (i.toInt.toNat - fr.toInt.toNat) (fun z hz => by have := (hpq (fr.toInt.toNat + z) (by omega)).2; omega)
        refine c_cPart (a := x4) (ds := x6) S2 hE (by omega) (by omega) (ctI_aR A_cl (fun z => by have := cL_le am di fr.toInt.toNat (i.toInt.toNat - fr.toInt.toNat) z; omega)) (ctI_aR A_cd (fun z => by have := cD_le di fr.toInt.toNat (i.toInt.toNat - fr.toInt.toNat) z; omega)) (by omega) (fun h8 F9 k10 => ?_)
        obtain ⟨w1, w2, w3, w4⟩ := cP_step (am := am) (di := di) (a := fr.toInt.toNat) (j := (i.toInt.toNat - fr.toInt.toNat)) k10 A_cl A_cd (by omega) (by omega) (by rw [show fr.toInt.toNat + (i.toInt.toNat - fr.toInt.toNat) = i.toInt.toNat by omega]; omega) (by rw [show fr.toInt.toNat + (i.toInt.toNat - fr.toInt.toNat) = i.toInt.toNat by omega]; omega)
        have S11 := zW_sh F9 S2
        have F12 := zW_tr F (zW_mono F9 (fun q k hk => by first | omega | exact False.elim hk) (fun q hk => by first | omega | exact False.elim hk) (fun q hk => by first | omega | exact False.elim hk))
        have r13 := z_rng (ez_I h8 52 10)
        have r14 := z_rng (ez_I h8 52 11)
        refine z_inc rfl (by rw [show (1 : Int32).toInt = 1 from rfl]; omega) (fun x15 ex15 => ?_)
        rw [show (1 : Int32).toInt = 1 from rfl] at ex15
        show ez_gw _ _ _ _ _ _ _ _ [some (.ref 52), some (.int fr), some (.int to), some (.int x15)] _ _ _
        refine z_go ?_
        exact ih h8 x15 F12 (⟨by omega, by omega, by rw [show x15.toInt.toNat - fr.toInt.toNat = (i.toInt.toNat - fr.toInt.toNat) + 1 by omega]; omega, by rw [show x15.toInt.toNat - fr.toInt.toNat = (i.toInt.toNat - fr.toInt.toNat) + 1 by omega]; omega⟩) ((by rw [show x15.toInt.toNat - fr.toInt.toNat = (i.toInt.toNat - fr.toInt.toNat) + 1 by omega]; exact w1)) ((by rw [show x15.toInt.toNat - fr.toInt.toNat = (i.toInt.toNat - fr.toInt.toNat) + 1 by omega]; exact w2)) (by omega)
set_option maxRecDepth 4000 in
set_option maxHeartbeats 20000000 in
theorem c_cBlock {E : Nat → Nat × (Nat → Int32)} {d : Nat} {Q : ez_Q} {h : ez_H} {fr : Int32} {to : Int32} (S : zSh h) {am di : Nat → Nat} {c : Nat} (hE : zE E) (hc : (ez_I h 53 1).toInt = c ∧ c ≤ 6000) (hpq : pqG (ez_I h 54) am di c) (hf : 0 ≤ fr.toInt ∧ fr.toInt ≤ to.toInt ∧ to.toInt ≤ c ∧ to.toInt - fr.toInt ≤ 600) (K : ∀ h2, zW (fun q k => q = 52 ∧ k = 10 ∨ q = 52 ∧ k = 11) (fun q => q = 66 ∨ q = 67) (fun _ => False) h h2 → ctI (ez_I h2 66) (cL am di fr.toInt.toNat (to.toInt.toNat - fr.toInt.toNat)) 286 → ctI (ez_I h2 67) (cD di fr.toInt.toNat (to.toInt.toNat - fr.toInt.toNat)) 30 → (ez_I h2 52 10).toInt = (xB am di fr.toInt.toNat (to.toInt.toNat - fr.toInt.toNat) : Nat) → (ez_I h2 52 11).toInt = (bY am di fr.toInt.toNat (to.toInt.toNat - fr.toInt.toNat) : Nat) → Q (.inl none) h2) : pw E (d + 2) 116 0 [some (.ref 52), some (.int fr), some (.int to), none] [] h Q := by
  have gfr := z_rng fr
  have gto := z_rng to
  have F := zW_refl (fun q k => q = 52 ∧ k = 10 ∨ q = 52 ∧ k = 11) (fun q => q = 66 ∨ q = 67) (fun _ => False) h
  apply ez_Wp_in
  show ez_gw _ _ _ _ _ _ (cz_116) _ _ _ _ _
  refine gw_skip _ ?_
  have r1 := z_rng (ez_I h 52 10)
  have r2 := z_rng (ez_I h 52 11)
  refine gw_ld rfl rfl ?_
  refine z_gR (q := 66) (zT S (by decide) rfl) (zRf S (by decide) (by decide) rfl) (by decide) ?_
  refine z_C (m := 0) rfl rfl (fun x3 ex3 => ?_)
  refine z_cl rfl rfl rfl rfl rfl rfl rfl rfl rfl rfl rfl (trivial) ?_
  refine wp_fill (zT S (by decide) rfl) (by rw [show ez_l h 66 = 286 from zN S (by decide) rfl]; omega) ?_
  generalize e5 : ez_rowI h 66 (pf_fill (ez_I h 66) (ez_l h 66) x3) = h4
  have e5 := e5.symm
  have A6 := zIr_at e5 (show ez_l h 66 = 286 from zN S (by decide) rfl)
  have S7 := zSh_row S e5
  have F8 := zW_row F e5 (by omega)
  have f9 : ez_I h4 52 10 = (ez_I h 52 10) := (zI_row e5 (by omega)).trans (rfl)
  have f10 : ez_I h4 52 11 = (ez_I h 52 11) := (zI_row e5 (by omega)).trans (rfl)
  have A11 : (∀ k, k < 286 → ez_I h4 66 k = x3) := A6
  refine gw_ld rfl rfl ?_
  refine z_gR (q := 67) (zT S7 (by decide) rfl) (zRf S7 (by decide) (by decide) rfl) (by decide) ?_
  refine z_C (m := 0) rfl rfl (fun x12 ex12 => ?_)
  have t13 := congrArg Int32.toInt (f9)
  have t14 := congrArg Int32.toInt (f10)
  refine z_cl rfl rfl rfl rfl rfl rfl rfl rfl rfl rfl rfl (trivial) ?_
  refine wp_fill (zT S7 (by decide) rfl) (by rw [show ez_l h4 67 = 30 from zN S7 (by decide) rfl]; omega) ?_
  generalize e16 : ez_rowI h4 67 (pf_fill (ez_I h4 67) (ez_l h4 67) x12) = h15
  have e16 := e16.symm
  have A17 := zIr_at e16 (show ez_l h4 67 = 30 from zN S7 (by decide) rfl)
  have S18 := zSh_row S7 e16
  have F19 := zW_row F8 e16 (by omega)
  have A20 : (∀ k, k < 286 → ez_I h15 66 k = x3) := by rw [zIr_fn e16 66 (by omega)]; exact A11
  have f21 : ez_I h15 52 10 = (ez_I h 52 10) := (zI_row e16 (by omega)).trans (f9)
  have f22 : ez_I h15 52 11 = (ez_I h 52 11) := (zI_row e16 (by omega)).trans (f10)
  have A23 : ctI (ez_I h15 67) (cD di fr.toInt.toNat 0) 30 := ctI_z A17 (by omega) (fun _ => rfl)
  clear A11
  refine gw_ld rfl rfl ?_
  refine z_gR (q := 66) (zT S18 (by decide) rfl) (zRf S18 (by decide) (by decide) rfl) (by decide) ?_
  refine z_C (m := 256) rfl rfl (fun x24 ex24 => ?_)
  refine z_C (m := 1) rfl rfl (fun x25 ex25 => ?_)
  refine z_is (n := 286) (zT S18 (by decide) rfl) (zN S18 (by decide) rfl) (by omega) (fun h26 e27 => ?_)
  have S28 := zSh_set S18 e27
  have F29 := zW_setA F19 e27 (by omega)
  have f30 : ez_I h26 52 10 = (ez_I h 52 10) := (zI_ne e27 (by omega)).trans (f21)
  have f31 : ez_I h26 52 11 = (ez_I h 52 11) := (zI_ne e27 (by omega)).trans (f22)
  have A32 : ctI (ez_I h26 67) (cD di fr.toInt.toNat 0) 30 := by rw [zI_fn e27 67 (by decide)]; exact A23
  have A33 : ctI (ez_I h26 66) (cL am di fr.toInt.toNat 0) 286 := ctI_0 A20 (by omega) e27 (by omega) (fun s => by rw [show x24.toInt.toNat = 256 by omega]; rfl)
  clear A23
  refine gw_ld rfl rfl ?_
  refine z_C (m := 0) rfl rfl (fun x34 ex34 => ?_)
  refine z_pI (zT S28 (by decide) rfl) (fun h35 e36 => ?_)
  have S37 := zSh_set S28 e36
  have F38 := zW_setF F29 e36 (by omega)
  have f39 : ez_I h35 52 10 = x34 := zI_eq e36
  have f40 : ez_I h35 52 11 = (ez_I h 52 11) := (zI_ne e36 (by decide)).trans (f31)
  have A41 : ctI (ez_I h35 67) (cD di fr.toInt.toNat 0) 30 := by rw [zI_fn e36 67 (by decide)]; exact A32
  have A42 : ctI (ez_I h35 66) (cL am di fr.toInt.toNat 0) 286 := by rw [zI_fn e36 66 (by decide)]; exact A33
  clear A32
  clear A33
  refine gw_ld rfl rfl ?_
  refine z_C (m := 0) rfl rfl (fun x43 ex43 => ?_)
  refine z_pI (zT S37 (by decide) rfl) (fun h44 e45 => ?_)
  have S46 := zSh_set S37 e45
  have F47 := zW_setF F38 e45 (by omega)
  have f48 : ez_I h44 52 10 = x34 := (zI_ne e45 (by decide)).trans (f39)
  have f49 : ez_I h44 52 11 = x43 := zI_eq e45
  have A50 : ctI (ez_I h44 67) (cD di fr.toInt.toNat 0) 30 := by rw [zI_fn e45 67 (by decide)]; exact A41
  have A51 : ctI (ez_I h44 66) (cL am di fr.toInt.toNat 0) 286 := by rw [zI_fn e45 66 (by decide)]; exact A42
  clear A41
  clear A42
  refine gw_ld rfl rfl ?_
  refine gw_st rfl rfl rfl ?_
  show ez_gw _ _ _ _ _ _ _ _ [some (.ref 52), some (.int fr), some (.int to), some (.int fr)] _ _ _
  have t52 := congrArg Int32.toInt (f48)
  have t53 := congrArg Int32.toInt (f49)
  exact ez_Wp_at ((c_cBlock_L0 (fr := fr) (to := to) S hE hc hpq hf K (((100000 - fr.toInt)).toNat + 1)) h44 fr F47 (⟨by omega, by omega, by rw [show fr.toInt.toNat - fr.toInt.toNat = 0 by omega]; show _ = ((0 : Nat) : Int); omega, by rw [show fr.toInt.toNat - fr.toInt.toNat = 0 by omega]; show _ = ((0 : Nat) : Int); omega⟩) ((by rw [show fr.toInt.toNat - fr.toInt.toNat = 0 by omega]; exact A51)) ((by rw [show fr.toInt.toNat - fr.toInt.toNat = 0 by omega]; exact A50)) (by omega)) rfl
set_option maxRecDepth 4000 in
set_option maxHeartbeats 20000000 in
theorem c_add {E : Nat → Nat × (Nat → Int32)} {d : Nat} {Q : ez_Q} {h : ez_H} {p : Nat} {v : Int32} (S : zSh h) (hp : p = 2 ∨ p = 4 ∨ p = 50) (hz : 0 ≤ (ez_I h p 1).toInt ∧ (ez_I h p 1).toInt < 6100) (K : ∀ h2, zW (fun q k => q = p ∧ k = 1) (fun q => q = (p + 1)) (fun _ => False) h h2 → (ez_I h2 p 1).toInt = (ez_I h p 1).toInt + 1 → ez_I h2 (p + 1) (ez_I h p 1).toInt.toNat = v → (∀ k, k ≠ (ez_I h p 1).toInt.toNat → ez_I h2 (p + 1) k = ez_I h (p + 1) k) → Q (.inl none) h2) : pw E d 129 0 [some (.ref p), some (.int v)] [] h Q := by
  have gv := z_rng v
  have F := zW_refl (fun q k => q = p ∧ k = 1) (fun q => q = (p + 1)) (fun _ => False) h
  apply ez_Wp_in
  show ez_gw _ _ _ _ _ _ (cz_129) _ _ _ _ _
  refine gw_skip _ ?_
  have r1 := z_rng (ez_I h p 1)
  refine gw_ld rfl rfl ?_
  refine z_gI2 (by decide) ((zRow S hp).1) (rfl) ?_
  refine z_b1 (fun c2 => ?_) (fun c2 => ?_)
  · have c2 : ((ez_I h p 1)).toInt < 0 := c2
    refine gw_skip _ ?_
    refine z_rv ?_
    exfalso; omega
  · have c2 : ¬ (((ez_I h p 1)).toInt < 0) := c2
    refine gw_ld rfl rfl ?_
    refine z_gI2 (by decide) ((zRow S hp).1) (rfl) ?_
    refine gw_ld rfl rfl ?_
    refine z_gR (q := (p + 1)) ((zRow S hp).1) ((zRow S hp).2.1) (by omega) ?_
    refine z_al (n := 6100) (.inl ((zRow S hp).2.2.1)) ((zRow S hp).2.2.2) (by omega) (fun x3 ex3 => ?_)
    refine z_b2 (fun c4 => ?_) (fun c4 => ?_)
    · have c4 : x3.toInt ≤ ((ez_I h p 1)).toInt := c4
      refine gw_skip _ ?_
      refine z_rv ?_
      exfalso; omega
    · have c4 : ¬ (x3.toInt ≤ ((ez_I h p 1)).toInt) := c4
      refine gw_ld rfl rfl ?_
      refine z_gR (q := (p + 1)) ((zRow S hp).1) ((zRow S hp).2.1) (by omega) ?_
      refine gw_ld rfl rfl ?_
      refine z_gI2 (by decide) ((zRow S hp).1) (rfl) ?_
      refine gw_ld rfl rfl ?_
      refine z_is (n := 6100) ((zRow S hp).2.2.1) ((zRow S hp).2.2.2) (by omega) (fun h5 e6 => ?_)
      have S7 := zSh_set S e6
      have F8 := zW_setA F e6 (by omega)
      have f9 : ez_I h5 p 1 = (ez_I h p 1) := (zI_ne e6 (by omega)).trans (rfl)
      have A10 : (ez_I h5 (p + 1) (ez_I h p 1).toInt.toNat = v ∧ ∀ k, k ≠ (ez_I h p 1).toInt.toNat → ez_I h5 (p + 1) k = ez_I h (p + 1) k) := ⟨zI_eq e6, fun k hk => zI_ne e6 (by omega)⟩
      refine gw_ld rfl rfl ?_
      refine gw_op rfl ?_
      refine z_gI2 (by decide) ((zRow S7 hp).1) (f9) ?_
      refine z_C (m := 1) rfl rfl (fun x11 ex11 => ?_)
      refine z_add (by omega) (fun x12 ex12 => ?_)
      refine z_pI ((zRow S7 hp).1) (fun h13 e14 => ?_)
      have S15 := zSh_set S7 e14
      have F16 := zW_setF F8 e14 (by omega)
      have f17 : ez_I h13 p 1 = x12 := zI_eq e14
      have A18 : (ez_I h13 (p + 1) (ez_I h p 1).toInt.toNat = v ∧ ∀ k, k ≠ (ez_I h p 1).toInt.toNat → ez_I h13 (p + 1) k = ez_I h (p + 1) k) := by rw [zI_fn e14 (p + 1) (by omega)]; exact A10
      clear A10
      refine z_rv ?_
      have t19 := congrArg Int32.toInt (f17)
      exact K _ F16 (by omega) A18.1 A18.2
set_option maxRecDepth 4000 in
set_option maxHeartbeats 20000000 in
theorem c_has {E : Nat → Nat × (Nat → Int32)} {d : Nat} {Q : ez_Q} {h : ez_H} {p : Nat} {i : Int32} (S : zSh h) (hp : p = 2 ∨ p = 4 ∨ p = 50) (K : ∀ x : Int32, (x.toInt = 0 ∨ x.toInt = 1) → (x.toInt = 1 → 0 ≤ i.toInt ∧ i.toInt < (ez_I h p 1).toInt ∧ i.toInt < 6100) → (x.toInt = 0 → ¬ (0 ≤ i.toInt ∧ i.toInt < (ez_I h p 1).toInt ∧ i.toInt < 6100)) → Q (.inl (some (.int x))) h) : pw E d 128 0 [some (.ref p), some (.int i)] [] h Q := by
  have gi := z_rng i
  have F := zW_refl (fun _ _ => False) (fun _ => False) (fun _ => False) h
  apply ez_Wp_in
  show ez_gw _ _ _ _ _ _ (cz_128) _ _ _ _ _
  refine gw_skip _ ?_
  refine gw_ld rfl rfl ?_
  refine z_b1 (fun c1 => ?_) (fun c1 => ?_)
  · have c1 : i.toInt < 0 := c1
    refine gw_skip _ ?_
    refine z_C (m := 0) rfl rfl (fun x2 ex2 => ?_)
    refine z_rz (by omega) ?_
    exact zW_Q F (K x2 (by omega) (by omega) (by omega))
  · have c1 : ¬ (i.toInt < 0) := c1
    refine gw_ld rfl rfl ?_
    refine gw_ld rfl rfl ?_
    have r3 := z_rng (ez_I h p 1)
    refine z_gI2 (by decide) ((zRow S hp).1) (zW_f F (fun c => c) (fun c => c)) ?_
    refine z_b2 (fun c4 => ?_) (fun c4 => ?_)
    · have c4 : ((ez_I h p 1)).toInt ≤ i.toInt := c4
      refine gw_skip _ ?_
      refine z_C (m := 0) rfl rfl (fun x5 ex5 => ?_)
      refine z_rz (by omega) ?_
      exact zW_Q F (K x5 (by omega) (by omega) (by omega))
    · have c4 : ¬ (((ez_I h p 1)).toInt ≤ i.toInt) := c4
      refine gw_ld rfl rfl ?_
      refine gw_ld rfl rfl ?_
      refine z_gR (q := (p + 1)) ((zRow S hp).1) ((zRow S hp).2.1) (by omega) ?_
      refine z_al (n := 6100) (.inl ((zRow S hp).2.2.1)) ((zRow S hp).2.2.2) (by omega) (fun x6 ex6 => ?_)
      refine z_b2 (fun c7 => ?_) (fun c7 => ?_)
      · have c7 : x6.toInt ≤ i.toInt := c7
        refine gw_skip _ ?_
        refine z_C (m := 0) rfl rfl (fun x8 ex8 => ?_)
        refine z_rz (by omega) ?_
        exact zW_Q F (K x8 (by omega) (by omega) (by omega))
      · have c7 : ¬ (x6.toInt ≤ i.toInt) := c7
        refine z_C (m := 1) rfl rfl (fun x9 ex9 => ?_)
        refine z_go ?_
        refine gw_skip _ ?_
        refine z_rz (by omega) ?_
        exact zW_Q F (K x9 (by omega) (by omega) (by omega))
set_option maxRecDepth 4000 in
set_option maxHeartbeats 20000000 in
theorem c_put_L0 {E : Nat → Nat × (Nat → Int32)} {d : Nat} {Q : ez_Q} {h : ez_H} {v : Int32} {n : Int32} (S : zSh h) {s : Nat × Nat} (hs : stC (ez_I h 51) (ez_I h 50 1).toInt (ez_I h 68 1).toInt (ez_I h 68 2).toInt s) (h7 : (ez_I h 68 2).toInt ≤ 7) (hv : 0 ≤ v.toInt ∧ v.toInt < 2 ^ n.toInt.toNat) (hn : 0 ≤ n.toInt ∧ n.toInt ≤ 16) (hr : s.2 + n.toInt.toNat ≤ 48800) (K : ∀ h2, zW (fun q k => q = 68 ∧ k = 1 ∨ q = 68 ∧ k = 2 ∨ q = 50 ∧ k = 1) (fun q => q = 51) (fun _ => False) h h2 → stC (ez_I h2 51) (ez_I h2 50 1).toInt (ez_I h2 68 1).toInt (ez_I h2 68 2).toInt (wr s v.toInt.toNat n.toInt.toNat) → (ez_I h2 68 2).toInt ≤ 7 → Q (.inl none) h2) : ∀ N : Nat, (∀ (h2 : ez_H)  , zW (fun q k => q = 68 ∧ k = 1 ∨ q = 68 ∧ k = 2 ∨ q = 50 ∧ k = 1) (fun q => q = 51) (fun _ => False) h h2 → (0 ≤ (ez_I h2 68 2).toInt ∧ (ez_I h2 68 2).toInt ≤ 23) → stC (ez_I h2 51) (ez_I h2 50 1).toInt (ez_I h2 68 1).toInt (ez_I h2 68 2).toInt (wr s v.toInt.toNat n.toInt.toNat) → (ez_I h2 68 2).toInt < (N : Int) → pw E (d + 1) 70 25 [some (.ref 68), some (.int v), some (.int n)] [] h2 Q) := by
  intro N
  induction N with
  | zero => exact fun h2   F hinv A_st hm => absurd hm (by have gv := z_rng v; have gn := z_rng n; have hsA := hs.1; omega)
  | succ N ih =>
    refine fun h2   F hinv A_st hm => ?_
    · skip
      have gv := z_rng v
      have gn := z_rng n
      have hsA := hs.1
      have S2 := zW_sh F S
      have hhd := stC_hd A_st
      have hst := A_st
      obtain ⟨hq0, hq1, hq2, hq3, hq4⟩ := hst
      have hq1b : s.2 + n.toInt.toNat = 8 * (ez_I h2 50 1).toInt.toNat + (ez_I h2 68 2).toInt.toNat := hq1
      have hp23 : (2 : Int) ^ (ez_I h2 68 2).toInt.toNat ≤ 2 ^ 23 := z_pow_le (by omega)
      clear hq2 hq3 hq4 hq1
      apply ez_Wp_in
      show ez_gw _ _ _ _ _ _ (cz_70) _ _ _ _ _
      refine gw_skip _ ?_
      have r1 := z_rng (ez_I h2 68 1)
      have r2 := z_rng (ez_I h2 68 2)
      have r3 := z_rng (ez_I h2 50 1)
      refine gw_ld rfl rfl ?_
      refine z_gI2 (by decide) (zT S2 (by decide) rfl) (rfl) ?_
      refine z_C (m := 8) rfl rfl (fun x4 ex4 => ?_)
      refine z_b2 (fun c5 => ?_) (fun c5 => ?_)
      · have c5 : ((ez_I h2 68 2)).toInt < x4.toInt := c5
        refine gw_skip _ ?_
        refine z_rv ?_
        exact K _ F A_st (by omega)
      · have c5 : ¬ (((ez_I h2 68 2)).toInt < x4.toInt) := c5
        refine gw_ld rfl rfl ?_
        refine z_gR (q := 50) (zT S2 (by decide) rfl) (zRf S2 (by decide) (by decide) rfl) (by decide) ?_
        refine gw_ld rfl rfl ?_
        refine z_gI2 (by decide) (zT S2 (by decide) rfl) (rfl) ?_
        refine z_C (m := 255) rfl rfl (fun x6 ex6 => ?_)
        refine z_and (fun x7 ex7 ux7 wx7 => ?_)
        have rx7 := z_rng x7
        replace ux7 := ux7 (by omega)
        clear wx7
        have vx7 := n_mask (k := 8) (by decide) (by omega) ex7
        rw [show (2 : Int) ^ 8 = 256 from rfl] at vx7
        refine z_cl rfl rfl rfl rfl rfl rfl rfl rfl rfl rfl rfl (zT S2 (by decide) rfl) ?_
        refine c_add (p := 50) (v := x7) S2 (by decide) (by omega) (fun h8 F9 k10 k11 k12 => ?_)
        have S13 := zW_sh F9 S2
        have F14 := zW_tr F (zW_mono F9 (fun q k hk => by first | omega | exact False.elim hk) (fun q hk => by first | omega | exact False.elim hk) (fun q hk => by first | omega | exact False.elim hk))
        have f15 : ez_I h8 68 1 = (ez_I h2 68 1) := (zW_f F9 (by decide) (by decide)).trans (rfl)
        have f16 : ez_I h8 68 2 = (ez_I h2 68 2) := (zW_f F9 (by decide) (by decide)).trans (rfl)
        have r17 := z_rng (ez_I h8 50 1)
        refine gw_ld rfl rfl ?_
        refine gw_op rfl ?_
        refine z_gI2 (by decide) (zT S13 (by decide) rfl) (f15) ?_
        refine z_C (m := 8) rfl rfl (fun x18 ex18 => ?_)
        refine z_2 rfl (fun x19 ex19 => ?_)
        have rx19 := z_rng x19
        have vx19 := n_ushr (n := 8) (by omega) (by decide) (by omega) ex19
        rw [show (2 : Int) ^ 8 = 256 from rfl] at vx19
        refine z_pI (zT S13 (by decide) rfl) (fun h20 e21 => ?_)
        have S22 := zSh_set S13 e21
        have F23 := zW_setF F14 e21 (by omega)
        have f24 : ez_I h20 68 1 = x19 := zI_eq e21
        have f25 : ez_I h20 68 2 = (ez_I h2 68 2) := (zI_ne e21 (by decide)).trans (f16)
        have f26 : ez_I h20 50 1 = (ez_I h8 50 1) := (zI_ne e21 (by decide)).trans (rfl)
        have A27 : (ez_I h20 51 (ez_I h2 50 1).toInt.toNat = x7 ∧ ∀ k, k ≠ (ez_I h2 50 1).toInt.toNat → ez_I h20 51 k = ez_I h2 51 k) := by rw [zI_fn e21 51 (by decide)]; exact ⟨k11, k12⟩
        refine gw_ld rfl rfl ?_
        refine gw_op rfl ?_
        refine z_gI2 (by decide) (zT S22 (by decide) rfl) (f25) ?_
        refine z_C (m := 8) rfl rfl (fun x28 ex28 => ?_)
        refine z_sub (by omega) (fun x29 ex29 => ?_)
        refine z_pI (zT S22 (by decide) rfl) (fun h30 e31 => ?_)
        have S32 := zSh_set S22 e31
        have F33 := zW_setF F23 e31 (by omega)
        have f34 : ez_I h30 68 1 = x19 := (zI_ne e31 (by decide)).trans (f24)
        have f35 : ez_I h30 68 2 = x29 := zI_eq e31
        have f36 : ez_I h30 50 1 = (ez_I h8 50 1) := (zI_ne e31 (by decide)).trans (f26)
        have A37 : (ez_I h30 51 (ez_I h2 50 1).toInt.toNat = x7 ∧ ∀ k, k ≠ (ez_I h2 50 1).toInt.toNat → ez_I h30 51 k = ez_I h2 51 k) := by rw [zI_fn e31 51 (by decide)]; exact A27
        clear A27
        refine z_go ?_
        have t38 := congrArg Int32.toInt (f34)
        have t39 := congrArg Int32.toInt (f35)
        have t40 := congrArg Int32.toInt (f36)
        exact ih h30  F33 (by omega) (stC_out A_st (by omega) (by rw [A37.1]; omega) A37.2 (by omega) (by omega) (by omega)) (by omega)
set_option maxRecDepth 4000 in
set_option maxHeartbeats 20000000 in
theorem c_put {E : Nat → Nat × (Nat → Int32)} {d : Nat} {Q : ez_Q} {h : ez_H} {v : Int32} {n : Int32} (S : zSh h) {s : Nat × Nat} (hs : stC (ez_I h 51) (ez_I h 50 1).toInt (ez_I h 68 1).toInt (ez_I h 68 2).toInt s) (h7 : (ez_I h 68 2).toInt ≤ 7) (hv : 0 ≤ v.toInt ∧ v.toInt < 2 ^ n.toInt.toNat) (hn : 0 ≤ n.toInt ∧ n.toInt ≤ 16) (hr : s.2 + n.toInt.toNat ≤ 48800) (K : ∀ h2, zW (fun q k => q = 68 ∧ k = 1 ∨ q = 68 ∧ k = 2 ∨ q = 50 ∧ k = 1) (fun q => q = 51) (fun _ => False) h h2 → stC (ez_I h2 51) (ez_I h2 50 1).toInt (ez_I h2 68 1).toInt (ez_I h2 68 2).toInt (wr s v.toInt.toNat n.toInt.toNat) → (ez_I h2 68 2).toInt ≤ 7 → Q (.inl none) h2) : pw E (d + 1) 70 0 [some (.ref 68), some (.int v), some (.int n)] [] h Q := by
  have gv := z_rng v
  have gn := z_rng n
  have hsA := hs.1
  have F := zW_refl (fun q k => q = 68 ∧ k = 1 ∨ q = 68 ∧ k = 2 ∨ q = 50 ∧ k = 1) (fun q => q = 51) (fun _ => False) h
  apply ez_Wp_in
  show ez_gw _ _ _ _ _ _ (cz_70) _ _ _ _ _
  refine gw_skip _ ?_
  have r1 := z_rng (ez_I h 68 1)
  have r2 := z_rng (ez_I h 68 2)
  have r3 := z_rng (ez_I h 50 1)
  refine gw_ld rfl rfl ?_
  refine gw_op rfl ?_
  refine z_gI2 (by decide) (zT S (by decide) rfl) (rfl) ?_
  refine gw_ld rfl rfl ?_
  refine gw_ld rfl rfl ?_
  refine z_gI2 (by decide) (zT S (by decide) rfl) (rfl) ?_
  refine z_2 rfl (fun x4 ex4 => ?_)
  have rx4 := z_rng x4
  refine z_2 rfl (fun x5 ex5 => ?_)
  have rx5 := z_rng x5
  have hor := stC_or hs h7 hv (by omega) ex4 ex5
  refine z_pI (zT S (by decide) rfl) (fun h6 e7 => ?_)
  have S8 := zSh_set S e7
  have F9 := zW_setF F e7 (by omega)
  have f10 : ez_I h6 68 1 = x5 := zI_eq e7
  have f11 : ez_I h6 68 2 = (ez_I h 68 2) := (zI_ne e7 (by decide)).trans (rfl)
  have f12 : ez_I h6 50 1 = (ez_I h 50 1) := (zI_ne e7 (by decide)).trans (rfl)
  have A13 : ez_I h6 51 = ez_I h 51 := by rw [zI_fn e7 51 (by decide)]
  refine gw_ld rfl rfl ?_
  refine gw_op rfl ?_
  refine z_gI2 (by decide) (zT S8 (by decide) rfl) (f11) ?_
  refine gw_ld rfl rfl ?_
  refine z_add (by omega) (fun x14 ex14 => ?_)
  refine z_pI (zT S8 (by decide) rfl) (fun h15 e16 => ?_)
  have S17 := zSh_set S8 e16
  have F18 := zW_setF F9 e16 (by omega)
  have f19 : ez_I h15 68 1 = x5 := (zI_ne e16 (by decide)).trans (f10)
  have f20 : ez_I h15 68 2 = x14 := zI_eq e16
  have f21 : ez_I h15 50 1 = (ez_I h 50 1) := (zI_ne e16 (by decide)).trans (f12)
  have A22 : ez_I h15 51 = ez_I h 51 := by rw [zI_fn e16 51 (by decide)]; exact A13
  clear A13
  have t23 := congrArg Int32.toInt (f19)
  have t24 := congrArg Int32.toInt (f20)
  have t25 := congrArg Int32.toInt (f21)
  exact ez_Wp_at ((c_put_L0 (v := v) (n := n) S hs h7 hv hn hr K (((ez_I h15 68 2).toInt).toNat + 1)) h15  F18 (by omega) ((by rw [A22]; exact stC_same (stC_put hs hv (by omega) (hd2 := x5.toInt) (hb2 := x14.toInt) hor.1 (by omega)) (by omega) (by rw [f19]) (by rw [f20]))) (by omega)) rfl
