theorem z_div {x y : Int32} {c : Int} (hy : y.toInt = c) (hc : 0 < c) : (x / y).toInt = x.toInt.tdiv c := by
  rw [Int32.toInt_div_of_ne_right x y (by intro e; rw [e] at hy; have : (-1 : Int32).toInt = -1 := rfl; omega), hy]
theorem z_div0 {x y : Int32} {c : Int} (hy : y.toInt = c) (hc : 0 < c) (hx : 0 ≤ x.toInt) : 0 ≤ (x / y).toInt ∧ (x / y).toInt ≤ x.toInt := by
  rw [z_div hy hc, Int.tdiv_eq_ediv_of_nonneg hx]
  constructor
  · exact Int.ediv_nonneg hx (by omega)
  · exact Int.ediv_le_self _ hx
theorem z_shr {x y : Int32} {n : Nat} (hy : y.toInt = n) (hn : n < 32) : (x >>> (y &&& 31)).toInt = x.toInt / 2 ^ n := by
  have ey : y = Int32.ofNat n := z_inj (by
    rw [hy]; exact (z_nI (n := n) (by omega)).symm)
  have : ∀ m : Nat, m < 32 → ∀ x : Int32, (x >>> (Int32.ofNat m &&& 31)).toInt = x.toInt / 2 ^ m := by
    intro m hm x
    have e : (Int32.ofNat m &&& 31) = Int32.ofNat m := by
      revert m
      decide
    rw [e]
    show (x >>> Int32.ofNat m).toBitVec.toInt = _
    rw [Int32.toBitVec_shiftRight]
    have e2 : ((Int32.ofNat m).toBitVec.smod 32).toNat = m := by
      clear e
      revert m
      decide
    rw [BitVec.sshiftRight', e2, BitVec.toInt_sshiftRight, Int.shiftRight_eq_div_pow]
    rfl
  rw [ey]
  exact this n hn x
theorem z_ushr20 {x y : Int32} (hy : y.toInt = 20) : 0 ≤ ((x.toUInt32 >>> (y.toUInt32 &&& Int32.toUInt32 31)).toInt32).toInt ∧ ((x.toUInt32 >>> (y.toUInt32 &&& Int32.toUInt32 31)).toInt32).toInt ≤ 4095 := by
  have ey : y = 20 := z_inj hy
  subst ey
  have e : ev_u ((x.toUInt32 >>> ((20 : Int32).toUInt32 &&& Int32.toUInt32 31)).toInt32) < 4096 := by
    show (x.toBitVec >>> (((20 : Int32).toUInt32 &&& Int32.toUInt32 31).toBitVec % 32)).toNat < 4096
    have e2 : (((20 : Int32).toUInt32 &&& Int32.toUInt32 31).toBitVec % 32).toNat = 20 := by decide
    rw [BitVec.ushiftRight_eq', BitVec.toNat_ushiftRight, e2, Nat.shiftRight_eq_div_pow]
    have := x.toBitVec.isLt
    omega
  have := z_of_u (x := (x.toUInt32 >>> ((20 : Int32).toUInt32 &&& Int32.toUInt32 31)).toInt32) (by omega)
  omega
/-! PRINTED by wip/p17/con3.py: contracts of the class, second part -/
set_option maxRecDepth 4000 in
set_option maxHeartbeats 20000000 in
theorem k_wsum_L {E : Nat → Nat × (Nat → Int32)} {d : Nat} {Q : ez_Q} {h : ez_H} {u : Nat} {w : Nat} {nu : Nat} {nw : Nat} {n : Int32} (X : xI h) (hu : zA u nu) (hw : zA w nw) (hb : nu ≤ 6100 ∧ nw ≤ 6100) (K : ∀ x : Int32, Q (.inl (some (.int x))) h) : ∀ N : Nat, (∀ (c : Int32) (i : Int32), (0 ≤ i.toInt) → (2147483647 - i.toInt) < (N : Int) → pw E d 22 5 [some (.ref u), some (.ref w), some (.int n), some (.int c), some (.int i)] [] h Q) := by
  intro N
  induction N with
  | zero => exact fun c i hinv hm => absurd hm (by have w0 := z_rng i; omega)
  | succ N ih =>
    refine fun c i hinv hm => ?_
    · skip
      have w0 := z_rng i
      have gn := z_rng n
      apply ez_Wp_in
      show ez_gw _ _ _ _ _ _ (cz_22) _ _ _ _ _
      refine gw_skip _ ?_
      have F := zF_refl zX h
      refine gw_ld rfl rfl ?_
      refine gw_ld rfl rfl ?_
      refine z_b2 (fun c1 => ?_) (fun c1 => ?_)
      · have c1 : n.toInt ≤ i.toInt := c1
        refine gw_skip _ ?_
        refine gw_ld rfl rfl ?_
        refine z_ri ?_
        exact K c
      · have c1 : ¬ (n.toInt ≤ i.toInt) := c1
        refine gw_ld rfl rfl ?_
        refine gw_ld rfl rfl ?_
        refine z_al (n := nu) (.inl ((hu _ X.1).1)) ((hu _ X.1).2) (by omega) (fun x2 ex2 => ?_)
        refine z_b2 (fun c3 => ?_) (fun c3 => ?_)
        · have c3 : x2.toInt ≤ i.toInt := c3
          refine gw_skip _ ?_
          refine gw_ld rfl rfl ?_
          refine z_ri ?_
          exact K c
        · have c3 : ¬ (x2.toInt ≤ i.toInt) := c3
          refine gw_ld rfl rfl ?_
          refine gw_ld rfl rfl ?_
          refine z_al (n := nw) (.inl ((hw _ X.1).1)) ((hw _ X.1).2) (by omega) (fun x4 ex4 => ?_)
          refine z_b2 (fun c5 => ?_) (fun c5 => ?_)
          · have c5 : x4.toInt ≤ i.toInt := c5
            refine gw_skip _ ?_
            refine gw_ld rfl rfl ?_
            refine z_ri ?_
            exact K c
          · have c5 : ¬ (x4.toInt ≤ i.toInt) := c5
            refine gw_ld rfl rfl ?_
            refine gw_ld rfl rfl ?_
            refine gw_ld rfl rfl ?_
            refine z_ia (n := nu) ((hu _ X.1).1) ((hu _ X.1).2) (by omega) ?_
            generalize ex6 : ez_I h u i.toInt.toNat = x6
            have rx6 := z_rng x6
            have qx6 := congrArg Int32.toInt ex6
            refine gw_ld rfl rfl ?_
            refine gw_ld rfl rfl ?_
            refine z_ia (n := nw) ((hw _ X.1).1) ((hw _ X.1).2) (by omega) ?_
            generalize ex7 : ez_I h w i.toInt.toNat = x7
            have rx7 := z_rng x7
            have qx7 := congrArg Int32.toInt ex7
            first | refine z_mul (by omega) (fun x8 ex8 => ?_) | refine z_mulW (fun x8 ex8 => ?_)
            have rx8 := z_rng x8
            first | refine z_add (by omega) (fun x9 ex9 => ?_) | refine z_addW (fun x9 ex9 => ?_)
            have rx9 := z_rng x9
            refine gw_st rfl rfl rfl ?_
            show ez_gw _ _ _ _ _ _ _ _ [some (.ref u), some (.ref w), some (.int n), some (.int x9), some (.int i)] _ _ _
            first | (refine z_inc rfl (by rw [show (1 : Int32).toInt = 1 from rfl]; omega) (fun x10 ex10 => ?_); rw [show (1 : Int32).toInt = 1 from rfl] at ex10) | refine z_incW rfl (fun x10 ex10 => ?_)
            have rx10 := z_rng x10
            show ez_gw _ _ _ _ _ _ _ _ [some (.ref u), some (.ref w), some (.int n), some (.int x9), some (.int x10)] _ _ _
            refine z_go ?_
            exact ih x9 x10 (by first | trivial | omega) (by omega)
set_option maxRecDepth 4000 in
set_option maxHeartbeats 20000000 in
theorem k_wsum {E : Nat → Nat × (Nat → Int32)} {d : Nat} {Q : ez_Q} {h : ez_H} {u : Nat} {w : Nat} {nu : Nat} {nw : Nat} {n : Int32} (X : xI h) (hu : zA u nu) (hw : zA w nw) (hb : nu ≤ 6100 ∧ nw ≤ 6100) (K : ∀ x : Int32, Q (.inl (some (.int x))) h) : pw E d 22 0 [some (.ref u), some (.ref w), some (.int n), none, none] [] h Q := by
  have gn := z_rng n
  have F := zF_refl (zX) h
  apply ez_Wp_in
  show ez_gw _ _ _ _ _ _ (cz_22) _ _ _ _ _
  refine gw_skip _ ?_
  refine z_C (m := 0) rfl rfl (fun x1 ex1 => ?_)
  refine gw_st rfl rfl rfl ?_
  show ez_gw _ _ _ _ _ _ _ _ [some (.ref u), some (.ref w), some (.int n), some (.int x1), none] _ _ _
  refine z_C (m := 0) rfl rfl (fun x2 ex2 => ?_)
  refine gw_st rfl rfl rfl ?_
  show ez_gw _ _ _ _ _ _ _ _ [some (.ref u), some (.ref w), some (.int n), some (.int x1), some (.int x2)] _ _ _
  exact ez_Wp_out ((k_wsum_L X hu hw hb K (((2147483647 - x2.toInt)).toNat + 1)) x1 x2 (by first | trivial | omega) (by omega))
set_option maxRecDepth 4000 in
set_option maxHeartbeats 20000000 in
theorem k_kindL_L {E : Nat → Nat × (Nat → Int32)} {d : Nat} {Q : ez_Q} {h : ez_H} {v : Int32} (X : xI h) (hE : zE E) (K : ∀ x : Int32, (0 ≤ x.toInt ∧ x.toInt < 29) → Q (.inl (some (.int x))) h) : ∀ N : Nat, (∀ (b : Int32) (c : Int32), (0 ≤ b.toInt ∧ b.toInt < 29 ∧ 0 ≤ c.toInt ∧ c.toInt ≤ 16) → c.toInt < (N : Int) → pw E d 23 5 [some (.retAddr 2), some (.int v), some (.int b), some (.int c)] [] h Q) := by
  intro N
  induction N with
  | zero => exact fun b c hinv hm => absurd hm (by omega)
  | succ N ih =>
    refine fun b c hinv hm => ?_
    · skip
      have gv := z_rng v
      apply ez_Wp_in
      show ez_gw _ _ _ _ _ _ (cz_23) _ _ _ _ _
      refine gw_skip _ ?_
      have F := zF_refl zX h
      refine gw_ld rfl rfl ?_
      refine z_b1 (fun c1 => ?_) (fun c1 => ?_)
      · have c1 : c.toInt ≤ 0 := c1
        refine gw_skip _ ?_
        refine gw_ld rfl rfl ?_
        refine z_ri ?_
        exact K b (by omega)
      · have c1 : ¬ (c.toInt ≤ 0) := c1
        refine gw_ld rfl rfl ?_
        refine gw_ld rfl rfl ?_
        first | refine z_add (by omega) (fun x2 ex2 => ?_) | refine z_addW (fun x2 ex2 => ?_)
        have rx2 := z_rng x2
        refine gw_ld rfl rfl ?_
        refine z_alE (n := 29) (by rw [hE 1]; rfl) (by omega) (fun x3 ex3 => ?_)
        refine z_b2 (fun c4 => ?_) (fun c4 => ?_)
        · have c4 : x3.toInt ≤ x2.toInt := c4
          refine gw_skip _ ?_
          refine gw_ld rfl rfl ?_
          refine z_C (m := 1) rfl rfl (fun x5 ex5 => ?_)
          refine z_2 rfl (fun x6 ex6 => ?_)
          have rx6 := z_rng x6
          have sx6 := z_shr (x := c) (n := 1) ‹_› (by decide)
          rw [← ex6] at sx6
          refine gw_st rfl rfl rfl ?_
          show ez_gw _ _ _ _ _ _ _ _ [some (.retAddr 2), some (.int v), some (.int b), some (.int x6)] _ _ _
          refine z_go ?_
          exact ih b x6 (by first | trivial | omega) (by omega)
        · have c4 : ¬ (x3.toInt ≤ x2.toInt) := c4
          refine gw_ld rfl rfl ?_
          refine gw_ld rfl rfl ?_
          refine gw_ld rfl rfl ?_
          first | refine z_add (by omega) (fun x7 ex7 => ?_) | refine z_addW (fun x7 ex7 => ?_)
          have rx7 := z_rng x7
          refine z_iaE (n := 29) (hE 1) (by omega) ?_
          generalize ex8 : (tz_ar (1 + 1)).getD x7.toInt.toNat 0 = x8
          have rx8 := z_rng x8
          have qx8 := congrArg Int32.toInt ex8
          refine gw_ld rfl rfl ?_
          refine z_b2 (fun c9 => ?_) (fun c9 => ?_)
          · have c9 : v.toInt < x8.toInt := c9
            refine gw_skip _ ?_
            refine gw_ld rfl rfl ?_
            refine z_C (m := 1) rfl rfl (fun x10 ex10 => ?_)
            refine z_2 rfl (fun x11 ex11 => ?_)
            have rx11 := z_rng x11
            have sx11 := z_shr (x := c) (n := 1) ‹_› (by decide)
            rw [← ex11] at sx11
            refine gw_st rfl rfl rfl ?_
            show ez_gw _ _ _ _ _ _ _ _ [some (.retAddr 2), some (.int v), some (.int b), some (.int x11)] _ _ _
            refine z_go ?_
            exact ih b x11 (by first | trivial | omega) (by omega)
          · have c9 : ¬ (v.toInt < x8.toInt) := c9
            refine gw_ld rfl rfl ?_
            refine gw_ld rfl rfl ?_
            first | refine z_add (by omega) (fun x12 ex12 => ?_) | refine z_addW (fun x12 ex12 => ?_)
            have rx12 := z_rng x12
            refine gw_st rfl rfl rfl ?_
            show ez_gw _ _ _ _ _ _ _ _ [some (.retAddr 2), some (.int v), some (.int x12), some (.int c)] _ _ _
            refine gw_ld rfl rfl ?_
            refine z_C (m := 1) rfl rfl (fun x13 ex13 => ?_)
            refine z_2 rfl (fun x14 ex14 => ?_)
            have rx14 := z_rng x14
            have sx14 := z_shr (x := c) (n := 1) ‹_› (by decide)
            rw [← ex14] at sx14
            refine gw_st rfl rfl rfl ?_
            show ez_gw _ _ _ _ _ _ _ _ [some (.retAddr 2), some (.int v), some (.int x12), some (.int x14)] _ _ _
            refine z_go ?_
            exact ih x12 x14 (by first | trivial | omega) (by omega)
set_option maxRecDepth 4000 in
set_option maxHeartbeats 20000000 in
theorem k_kindL {E : Nat → Nat × (Nat → Int32)} {d : Nat} {Q : ez_Q} {h : ez_H} {v : Int32} (X : xI h) (hE : zE E) (K : ∀ x : Int32, (0 ≤ x.toInt ∧ x.toInt < 29) → Q (.inl (some (.int x))) h) : pw E d 23 0 [some (.retAddr 2), some (.int v), none, none] [] h Q := by
  have gv := z_rng v
  have F := zF_refl (zX) h
  apply ez_Wp_in
  show ez_gw _ _ _ _ _ _ (cz_23) _ _ _ _ _
  refine gw_skip _ ?_
  refine z_C (m := 0) rfl rfl (fun x1 ex1 => ?_)
  refine gw_st rfl rfl rfl ?_
  show ez_gw _ _ _ _ _ _ _ _ [some (.retAddr 2), some (.int v), some (.int x1), none] _ _ _
  refine z_C (m := 16) rfl rfl (fun x2 ex2 => ?_)
  refine gw_st rfl rfl rfl ?_
  show ez_gw _ _ _ _ _ _ _ _ [some (.retAddr 2), some (.int v), some (.int x1), some (.int x2)] _ _ _
  exact ez_Wp_out ((k_kindL_L (v := v) X hE K ((x2.toInt).toNat + 1)) x1 x2 (by first | trivial | omega) (by omega))
set_option maxRecDepth 4000 in
set_option maxHeartbeats 20000000 in
theorem k_kindD_L {E : Nat → Nat × (Nat → Int32)} {d : Nat} {Q : ez_Q} {h : ez_H} {v : Int32} (X : xI h) (hE : zE E) (K : ∀ x : Int32, (0 ≤ x.toInt ∧ x.toInt < 30) → Q (.inl (some (.int x))) h) : ∀ N : Nat, (∀ (b : Int32) (c : Int32), (0 ≤ b.toInt ∧ b.toInt < 30 ∧ 0 ≤ c.toInt ∧ c.toInt ≤ 16) → c.toInt < (N : Int) → pw E d 23 5 [some (.retAddr 3), some (.int v), some (.int b), some (.int c)] [] h Q) := by
  intro N
  induction N with
  | zero => exact fun b c hinv hm => absurd hm (by omega)
  | succ N ih =>
    refine fun b c hinv hm => ?_
    · skip
      have gv := z_rng v
      apply ez_Wp_in
      show ez_gw _ _ _ _ _ _ (cz_23) _ _ _ _ _
      refine gw_skip _ ?_
      have F := zF_refl zX h
      refine gw_ld rfl rfl ?_
      refine z_b1 (fun c1 => ?_) (fun c1 => ?_)
      · have c1 : c.toInt ≤ 0 := c1
        refine gw_skip _ ?_
        refine gw_ld rfl rfl ?_
        refine z_ri ?_
        exact K b (by omega)
      · have c1 : ¬ (c.toInt ≤ 0) := c1
        refine gw_ld rfl rfl ?_
        refine gw_ld rfl rfl ?_
        first | refine z_add (by omega) (fun x2 ex2 => ?_) | refine z_addW (fun x2 ex2 => ?_)
        have rx2 := z_rng x2
        refine gw_ld rfl rfl ?_
        refine z_alE (n := 30) (by rw [hE 2]; rfl) (by omega) (fun x3 ex3 => ?_)
        refine z_b2 (fun c4 => ?_) (fun c4 => ?_)
        · have c4 : x3.toInt ≤ x2.toInt := c4
          refine gw_skip _ ?_
          refine gw_ld rfl rfl ?_
          refine z_C (m := 1) rfl rfl (fun x5 ex5 => ?_)
          refine z_2 rfl (fun x6 ex6 => ?_)
          have rx6 := z_rng x6
          have sx6 := z_shr (x := c) (n := 1) ‹_› (by decide)
          rw [← ex6] at sx6
          refine gw_st rfl rfl rfl ?_
          show ez_gw _ _ _ _ _ _ _ _ [some (.retAddr 3), some (.int v), some (.int b), some (.int x6)] _ _ _
          refine z_go ?_
          exact ih b x6 (by first | trivial | omega) (by omega)
        · have c4 : ¬ (x3.toInt ≤ x2.toInt) := c4
          refine gw_ld rfl rfl ?_
          refine gw_ld rfl rfl ?_
          refine gw_ld rfl rfl ?_
          first | refine z_add (by omega) (fun x7 ex7 => ?_) | refine z_addW (fun x7 ex7 => ?_)
          have rx7 := z_rng x7
          refine z_iaE (n := 30) (hE 2) (by omega) ?_
          generalize ex8 : (tz_ar (2 + 1)).getD x7.toInt.toNat 0 = x8
          have rx8 := z_rng x8
          have qx8 := congrArg Int32.toInt ex8
          refine gw_ld rfl rfl ?_
          refine z_b2 (fun c9 => ?_) (fun c9 => ?_)
          · have c9 : v.toInt < x8.toInt := c9
            refine gw_skip _ ?_
            refine gw_ld rfl rfl ?_
            refine z_C (m := 1) rfl rfl (fun x10 ex10 => ?_)
            refine z_2 rfl (fun x11 ex11 => ?_)
            have rx11 := z_rng x11
            have sx11 := z_shr (x := c) (n := 1) ‹_› (by decide)
            rw [← ex11] at sx11
            refine gw_st rfl rfl rfl ?_
            show ez_gw _ _ _ _ _ _ _ _ [some (.retAddr 3), some (.int v), some (.int b), some (.int x11)] _ _ _
            refine z_go ?_
            exact ih b x11 (by first | trivial | omega) (by omega)
          · have c9 : ¬ (v.toInt < x8.toInt) := c9
            refine gw_ld rfl rfl ?_
            refine gw_ld rfl rfl ?_
            first | refine z_add (by omega) (fun x12 ex12 => ?_) | refine z_addW (fun x12 ex12 => ?_)
            have rx12 := z_rng x12
            refine gw_st rfl rfl rfl ?_
            show ez_gw _ _ _ _ _ _ _ _ [some (.retAddr 3), some (.int v), some (.int x12), some (.int c)] _ _ _
            refine gw_ld rfl rfl ?_
            refine z_C (m := 1) rfl rfl (fun x13 ex13 => ?_)
            refine z_2 rfl (fun x14 ex14 => ?_)
            have rx14 := z_rng x14
            have sx14 := z_shr (x := c) (n := 1) ‹_› (by decide)
            rw [← ex14] at sx14
            refine gw_st rfl rfl rfl ?_
            show ez_gw _ _ _ _ _ _ _ _ [some (.retAddr 3), some (.int v), some (.int x12), some (.int x14)] _ _ _
            refine z_go ?_
            exact ih x12 x14 (by first | trivial | omega) (by omega)
set_option maxRecDepth 4000 in
set_option maxHeartbeats 20000000 in
theorem k_kindD {E : Nat → Nat × (Nat → Int32)} {d : Nat} {Q : ez_Q} {h : ez_H} {v : Int32} (X : xI h) (hE : zE E) (K : ∀ x : Int32, (0 ≤ x.toInt ∧ x.toInt < 30) → Q (.inl (some (.int x))) h) : pw E d 23 0 [some (.retAddr 3), some (.int v), none, none] [] h Q := by
  have gv := z_rng v
  have F := zF_refl (zX) h
  apply ez_Wp_in
  show ez_gw _ _ _ _ _ _ (cz_23) _ _ _ _ _
  refine gw_skip _ ?_
  refine z_C (m := 0) rfl rfl (fun x1 ex1 => ?_)
  refine gw_st rfl rfl rfl ?_
  show ez_gw _ _ _ _ _ _ _ _ [some (.retAddr 3), some (.int v), some (.int x1), none] _ _ _
  refine z_C (m := 16) rfl rfl (fun x2 ex2 => ?_)
  refine gw_st rfl rfl rfl ?_
  show ez_gw _ _ _ _ _ _ _ _ [some (.retAddr 3), some (.int v), some (.int x1), some (.int x2)] _ _ _
  exact ez_Wp_out ((k_kindD_L (v := v) X hE K ((x2.toInt).toNat + 1)) x1 x2 (by first | trivial | omega) (by omega))
set_option maxRecDepth 4000 in
set_option maxHeartbeats 20000000 in
theorem k_told_L {E : Nat → Nat × (Nat → Int32)} {d : Nat} {Q : ez_Q} {h : ez_H} {w : Nat} {nw : Nat} {m : Int32} {f : Int32} (X : xI h) (hw : zA w nw) (hb : nw ≤ 6100) (hm : 1 ≤ f.toInt ∧ f.toInt ≤ m.toInt ∧ m.toInt ≤ nw) (K : ∀ x : Int32, (f.toInt ≤ x.toInt ∧ x.toInt ≤ m.toInt) → Q (.inl (some (.int x))) h) : ∀ N : Nat, (∀ (c : Int32), (f.toInt ≤ c.toInt ∧ c.toInt ≤ m.toInt) → c.toInt < (N : Int) → pw E d 91 7 [some (.ref w), some (.int m), some (.int f), some (.int c)] [] h Q) := by
  intro N
  induction N with
  | zero => exact fun c hinv hm => absurd hm (by omega)
  | succ N ih =>
    refine fun c hinv hm => ?_
    · skip
      have gm := z_rng m
      have gf := z_rng f
      apply ez_Wp_in
      show ez_gw _ _ _ _ _ _ (cz_91) _ _ _ _ _
      refine gw_skip _ ?_
      have F := zF_refl zX h
      refine gw_ld rfl rfl ?_
      refine gw_ld rfl rfl ?_
      refine z_b2 (fun c1 => ?_) (fun c1 => ?_)
      · have c1 : c.toInt ≤ f.toInt := c1
        refine gw_skip _ ?_
        refine gw_ld rfl rfl ?_
        refine z_ri ?_
        exact K c (by omega)
      · have c1 : ¬ (c.toInt ≤ f.toInt) := c1
        refine gw_ld rfl rfl ?_
        refine gw_ld rfl rfl ?_
        refine z_C (m := 1) rfl rfl (fun x2 ex2 => ?_)
        first | refine z_sub (by omega) (fun x3 ex3 => ?_) | refine z_subW (fun x3 ex3 => ?_)
        have rx3 := z_rng x3
        refine z_ia (n := nw) ((hw _ X.1).1) ((hw _ X.1).2) (by omega) ?_
        generalize ex4 : ez_I h w x3.toInt.toNat = x4
        have rx4 := z_rng x4
        have qx4 := congrArg Int32.toInt ex4
        refine z_b1 (fun c5 => ?_) (fun c5 => ?_)
        · have c5 : x4.toInt ≠ 0 := c5
          refine gw_skip _ ?_
          refine gw_ld rfl rfl ?_
          refine z_ri ?_
          exact K c (by omega)
        · have c5 : ¬ (x4.toInt ≠ 0) := c5
          first | (refine z_inc rfl (by rw [show ((-1) : Int32).toInt = (-1) from rfl]; omega) (fun x6 ex6 => ?_); rw [show ((-1) : Int32).toInt = (-1) from rfl] at ex6) | refine z_incW rfl (fun x6 ex6 => ?_)
          have rx6 := z_rng x6
          show ez_gw _ _ _ _ _ _ _ _ [some (.ref w), some (.int m), some (.int f), some (.int x6)] _ _ _
          refine z_go ?_
          exact ih x6 (by first | trivial | omega) (by omega)
set_option maxRecDepth 4000 in
set_option maxHeartbeats 20000000 in
theorem k_told {E : Nat → Nat × (Nat → Int32)} {d : Nat} {Q : ez_Q} {h : ez_H} {w : Nat} {nw : Nat} {m : Int32} {f : Int32} (X : xI h) (hw : zA w nw) (hb : nw ≤ 6100) (hm : 1 ≤ f.toInt ∧ f.toInt ≤ m.toInt ∧ m.toInt ≤ nw) (K : ∀ x : Int32, (f.toInt ≤ x.toInt ∧ x.toInt ≤ m.toInt) → Q (.inl (some (.int x))) h) : pw E d 91 0 [some (.ref w), some (.int m), some (.int f), none] [] h Q := by
  have gm := z_rng m
  have gf := z_rng f
  have F := zF_refl (zX) h
  apply ez_Wp_in
  show ez_gw _ _ _ _ _ _ (cz_91) _ _ _ _ _
  refine gw_skip _ ?_
  refine gw_ld rfl rfl ?_
  refine gw_ld rfl rfl ?_
  refine z_al (n := nw) (.inl ((hw _ X.1).1)) ((hw _ X.1).2) (by omega) (fun x1 ex1 => ?_)
  refine z_min rfl (fun x2 ex2 => ?_)
  refine gw_st rfl rfl rfl ?_
  show ez_gw _ _ _ _ _ _ _ _ [some (.ref w), some (.int m), some (.int f), some (.int x2)] _ _ _
  exact ez_Wp_out ((k_told_L X hw hb hm K ((x2.toInt).toNat + 1)) x2 (by first | trivial | omega) (by omega))
theorem z_ord {n : Nat} (h : n < 19) : 0 ≤ ((tz_ar (7 + 1)).getD n 0).toInt ∧ ((tz_ar (7 + 1)).getD n 0).toInt < 19 := by
  revert n; decide
set_option maxRecDepth 4000 in
set_option maxHeartbeats 20000000 in
theorem k_tOrd_L {E : Nat → Nat × (Nat → Int32)} {d : Nat} {Q : ez_Q} {h : ez_H} {w : Nat} {nw : Nat} (X : xI h) (hE : zE E) (hw : zA w nw) (hb : 19 ≤ nw ∧ nw ≤ 6100) (K : ∀ x : Int32, (4 ≤ x.toInt ∧ x.toInt ≤ 19) → Q (.inl (some (.int x))) h) : ∀ N : Nat, (∀ (c : Int32), (4 ≤ c.toInt ∧ c.toInt ≤ 19) → c.toInt < (N : Int) → pw E d 92 3 [some (.ref w), some (.int c)] [] h Q) := by
  intro N
  induction N with
  | zero => exact fun c hinv hm => absurd hm (by omega)
  | succ N ih =>
    refine fun c hinv hm => ?_
    · skip
      apply ez_Wp_in
      show ez_gw _ _ _ _ _ _ (cz_92) _ _ _ _ _
      refine gw_skip _ ?_
      have F := zF_refl zX h
      refine gw_ld rfl rfl ?_
      refine z_C (m := 4) rfl rfl (fun x1 ex1 => ?_)
      refine z_b2 (fun c2 => ?_) (fun c2 => ?_)
      · have c2 : c.toInt ≤ x1.toInt := c2
        refine gw_skip _ ?_
        refine gw_ld rfl rfl ?_
        refine z_ri ?_
        exact K c (by omega)
      · have c2 : ¬ (c.toInt ≤ x1.toInt) := c2
        refine gw_ld rfl rfl ?_
        refine z_gs ?_
        refine gw_ld rfl rfl ?_
        refine z_C (m := 1) rfl rfl (fun x3 ex3 => ?_)
        first | refine z_sub (by omega) (fun x4 ex4 => ?_) | refine z_subW (fun x4 ex4 => ?_)
        have rx4 := z_rng x4
        refine z_iaE (n := 19) (hE 7) (by omega) ?_
        generalize ex5 : (tz_ar (7 + 1)).getD x4.toInt.toNat 0 = x5
        have rx5 := z_rng x5
        have qx5 := congrArg Int32.toInt ex5
        have ox5 := z_ord (n := x4.toInt.toNat) (by omega)
        rw [ex5] at ox5
        refine z_ia (n := nw) ((hw _ X.1).1) ((hw _ X.1).2) (by omega) ?_
        generalize ex6 : ez_I h w x5.toInt.toNat = x6
        have rx6 := z_rng x6
        have qx6 := congrArg Int32.toInt ex6
        refine z_b1 (fun c7 => ?_) (fun c7 => ?_)
        · have c7 : x6.toInt ≠ 0 := c7
          refine gw_skip _ ?_
          refine gw_ld rfl rfl ?_
          refine z_ri ?_
          exact K c (by omega)
        · have c7 : ¬ (x6.toInt ≠ 0) := c7
          first | (refine z_inc rfl (by rw [show ((-1) : Int32).toInt = (-1) from rfl]; omega) (fun x8 ex8 => ?_); rw [show ((-1) : Int32).toInt = (-1) from rfl] at ex8) | refine z_incW rfl (fun x8 ex8 => ?_)
          have rx8 := z_rng x8
          show ez_gw _ _ _ _ _ _ _ _ [some (.ref w), some (.int x8)] _ _ _
          refine z_go ?_
          exact ih x8 (by first | trivial | omega) (by omega)
set_option maxRecDepth 4000 in
set_option maxHeartbeats 20000000 in
theorem k_tOrd {E : Nat → Nat × (Nat → Int32)} {d : Nat} {Q : ez_Q} {h : ez_H} {w : Nat} {nw : Nat} (X : xI h) (hE : zE E) (hw : zA w nw) (hb : 19 ≤ nw ∧ nw ≤ 6100) (K : ∀ x : Int32, (4 ≤ x.toInt ∧ x.toInt ≤ 19) → Q (.inl (some (.int x))) h) : pw E d 92 0 [some (.ref w), none] [] h Q := by
  have F := zF_refl (zX) h
  apply ez_Wp_in
  show ez_gw _ _ _ _ _ _ (cz_92) _ _ _ _ _
  refine gw_skip _ ?_
  refine z_C (m := 19) rfl rfl (fun x1 ex1 => ?_)
  refine gw_st rfl rfl rfl ?_
  show ez_gw _ _ _ _ _ _ _ _ [some (.ref w), some (.int x1)] _ _ _
  exact ez_Wp_out ((k_tOrd_L X hE hw hb K ((x1.toInt).toNat + 1)) x1 (by first | trivial | omega) (by omega))
set_option maxRecDepth 4000 in
set_option maxHeartbeats 20000000 in
theorem k_same_L {E : Nat → Nat × (Nat → Int32)} {d : Nat} {Q : ez_Q} {h : ez_H} {a : Int32} {n : Int32} {v : Int32} {m : Int32} (X : xI h) (ha : 0 ≤ a.toInt ∧ n.toInt ≤ 316 ∧ a.toInt ≤ 316) (K : ∀ x : Int32, (0 ≤ x.toInt ∧ x.toInt ≤ 316) → Q (.inl (some (.int x))) h) : ∀ N : Nat, (∀ (i : Int32), (0 ≤ i.toInt ∧ i.toInt ≤ 316 ∧ (i.toInt = 0 ∨ a.toInt + i.toInt ≤ n.toInt)) → (2147483647 - i.toInt) < (N : Int) → pw E d 95 3 [some (.ref 61), some (.int a), some (.int n), some (.int v), some (.int m), some (.int i)] [] h Q) := by
  intro N
  induction N with
  | zero => exact fun i hinv hm => absurd hm (by have w0 := z_rng i; omega)
  | succ N ih =>
    refine fun i hinv hm => ?_
    · skip
      have w0 := z_rng i
      have ga := z_rng a
      have gn := z_rng n
      have gv := z_rng v
      have gm := z_rng m
      apply ez_Wp_in
      show ez_gw _ _ _ _ _ _ (cz_95) _ _ _ _ _
      refine gw_skip _ ?_
      have F := zF_refl zX h
      refine gw_ld rfl rfl ?_
      refine gw_ld rfl rfl ?_
      refine z_b2 (fun c1 => ?_) (fun c1 => ?_)
      · have c1 : m.toInt ≤ i.toInt := c1
        refine gw_skip _ ?_
        refine gw_ld rfl rfl ?_
        refine z_ri ?_
        exact K i (by omega)
      · have c1 : ¬ (m.toInt ≤ i.toInt) := c1
        refine gw_ld rfl rfl ?_
        refine gw_ld rfl rfl ?_
        first | refine z_add (by omega) (fun x2 ex2 => ?_) | refine z_addW (fun x2 ex2 => ?_)
        have rx2 := z_rng x2
        refine gw_ld rfl rfl ?_
        refine z_b2 (fun c3 => ?_) (fun c3 => ?_)
        · have c3 : n.toInt ≤ x2.toInt := c3
          refine gw_skip _ ?_
          refine gw_ld rfl rfl ?_
          refine z_ri ?_
          exact K i (by omega)
        · have c3 : ¬ (n.toInt ≤ x2.toInt) := c3
          refine gw_ld rfl rfl ?_
          refine z_gR (q := 62) (zT X.1 (by decide) rfl) (zRf X.1 (by decide) (by decide) rfl) (by decide) ?_
          refine gw_ld rfl rfl ?_
          refine gw_ld rfl rfl ?_
          first | refine z_add (by omega) (fun x4 ex4 => ?_) | refine z_addW (fun x4 ex4 => ?_)
          have rx4 := z_rng x4
          refine z_ia (n := 316) (zT X.1 (by decide) rfl) (zN X.1 (by decide) rfl) (by omega) ?_
          generalize ex5 : ez_I h 62 x4.toInt.toNat = x5
          have rx5 := z_rng x5
          have qx5 := congrArg Int32.toInt ex5
          refine gw_ld rfl rfl ?_
          refine z_b2 (fun c6 => ?_) (fun c6 => ?_)
          · have c6 : x5.toInt ≠ v.toInt := c6
            refine gw_skip _ ?_
            refine gw_ld rfl rfl ?_
            refine z_ri ?_
            exact K i (by omega)
          · have c6 : ¬ (x5.toInt ≠ v.toInt) := c6
            first | (refine z_inc rfl (by rw [show (1 : Int32).toInt = 1 from rfl]; omega) (fun x7 ex7 => ?_); rw [show (1 : Int32).toInt = 1 from rfl] at ex7) | refine z_incW rfl (fun x7 ex7 => ?_)
            have rx7 := z_rng x7
            show ez_gw _ _ _ _ _ _ _ _ [some (.ref 61), some (.int a), some (.int n), some (.int v), some (.int m), some (.int x7)] _ _ _
            refine z_go ?_
            exact ih x7 (by first | trivial | omega) (by omega)
set_option maxRecDepth 4000 in
set_option maxHeartbeats 20000000 in
theorem k_same {E : Nat → Nat × (Nat → Int32)} {d : Nat} {Q : ez_Q} {h : ez_H} {a : Int32} {n : Int32} {v : Int32} {m : Int32} (X : xI h) (ha : 0 ≤ a.toInt ∧ n.toInt ≤ 316 ∧ a.toInt ≤ 316) (K : ∀ x : Int32, (0 ≤ x.toInt ∧ x.toInt ≤ 316) → Q (.inl (some (.int x))) h) : pw E d 95 0 [some (.ref 61), some (.int a), some (.int n), some (.int v), some (.int m), none] [] h Q := by
  have ga := z_rng a
  have gn := z_rng n
  have gv := z_rng v
  have gm := z_rng m
  have F := zF_refl (zX) h
  apply ez_Wp_in
  show ez_gw _ _ _ _ _ _ (cz_95) _ _ _ _ _
  refine gw_skip _ ?_
  refine z_C (m := 0) rfl rfl (fun x1 ex1 => ?_)
  refine gw_st rfl rfl rfl ?_
  show ez_gw _ _ _ _ _ _ _ _ [some (.ref 61), some (.int a), some (.int n), some (.int v), some (.int m), some (.int x1)] _ _ _
  exact ez_Wp_out ((k_same_L (v := v) X ha K (((2147483647 - x1.toInt)).toNat + 1)) x1 (by first | trivial | omega) (by omega))
set_option maxRecDepth 4000 in
set_option maxHeartbeats 20000000 in
theorem k_addS {E : Nat → Nat × (Nat → Int32)} {d : Nat} {Q : ez_Q} {h : ez_H} {a : Int32} {b : Int32} (X : xI h)  (K : ∀ h2, zF (fun q => q = 61 ∨ q = 63 ∨ q = 64 ∨ q = 65) h h2 → xI h2 → Q (.inl none) h2) : pw E d 96 0 [some (.ref 61), some (.int a), some (.int b)] [] h Q := by
  have ga := z_rng a
  have gb := z_rng b
  have F := zF_refl (fun q => q = 61 ∨ q = 63 ∨ q = 64 ∨ q = 65) h
  apply ez_Wp_in
  show ez_gw _ _ _ _ _ _ (cz_96) _ _ _ _ _
  refine gw_skip _ ?_
  refine gw_ld rfl rfl ?_
  refine z_b1 (fun c1 => ?_) (fun c1 => ?_)
  · have c1 : a.toInt < 0 := c1
    refine gw_skip _ ?_
    refine z_rv ?_
    exact K _ F X
  · have c1 : ¬ (a.toInt < 0) := c1
    refine gw_ld rfl rfl ?_
    refine z_C (m := 19) rfl rfl (fun x2 ex2 => ?_)
    refine z_b2 (fun c3 => ?_) (fun c3 => ?_)
    · have c3 : x2.toInt ≤ a.toInt := c3
      refine gw_skip _ ?_
      refine z_rv ?_
      exact K _ F X
    · have c3 : ¬ (x2.toInt ≤ a.toInt) := c3
      refine gw_ld rfl rfl ?_
      have r4 := X.2.2.2.2.2.2
      refine z_gI2 (by decide) (zT X.1 (by decide) rfl) (rfl) ?_
      refine z_C (m := 316) rfl rfl (fun x5 ex5 => ?_)
      refine z_b2 (fun c6 => ?_) (fun c6 => ?_)
      · have c6 : x5.toInt ≤ ((ez_I h 61 5)).toInt := c6
        refine gw_skip _ ?_
        refine z_rv ?_
        exact K _ F X
      · have c6 : ¬ (x5.toInt ≤ ((ez_I h 61 5)).toInt) := c6
        refine gw_ld rfl rfl ?_
        refine z_gR (q := 63) (zT X.1 (by decide) rfl) (zRf X.1 (by decide) (by decide) rfl) (by decide) ?_
        refine gw_ld rfl rfl ?_
        refine z_gI2 (by decide) (zT X.1 (by decide) rfl) (rfl) ?_
        refine gw_ld rfl rfl ?_
        refine z_is (n := 316) (zT X.1 (by decide) rfl) (zN X.1 (by decide) rfl) (by omega) (fun h7 e8 => ?_)
        have X9 := xI_set X e8 (xW_of (by decide))
        have F10 := zF_set F e8 (by omega)
        have f11 : ez_I h7 61 5 = (ez_I h 61 5) := (zI_ne e8 (by omega)).trans rfl
        refine gw_ld rfl rfl ?_
        refine z_gR (q := 64) (zT X9.1 (by decide) rfl) (zRf X9.1 (by decide) (by decide) rfl) (by decide) ?_
        refine gw_ld rfl rfl ?_
        refine z_gI2 (by decide) (zT X9.1 (by decide) rfl) (f11) ?_
        refine gw_ld rfl rfl ?_
        refine z_is (n := 316) (zT X9.1 (by decide) rfl) (zN X9.1 (by decide) rfl) (by omega) (fun h12 e13 => ?_)
        have X14 := xI_set X9 e13 (xW_of (by decide))
        have F15 := zF_set F10 e13 (by omega)
        have f16 : ez_I h12 61 5 = (ez_I h 61 5) := (zI_ne e13 (by omega)).trans f11
        refine gw_ld rfl rfl ?_
        refine gw_op rfl ?_
        refine z_gI2 (by decide) (zT X14.1 (by decide) rfl) (f16) ?_
        refine z_C (m := 1) rfl rfl (fun x17 ex17 => ?_)
        first | refine z_add (by omega) (fun x18 ex18 => ?_) | refine z_addW (fun x18 ex18 => ?_)
        have rx18 := z_rng x18
        refine z_pI (zT X14.1 (by decide) rfl) (fun h19 e20 => ?_)
        have X21 := xI_set X14 e20 (⟨fun c => by omega, fun c => by omega, fun c => by omega, fun c => by omega, fun c => by omega, fun c => by omega⟩)
        have F22 := zF_set F15 e20 (by omega)
        have f23 : ez_I h19 61 5 = x18 := zI_eq e20
        refine gw_ld rfl rfl ?_
        refine z_gR (q := 65) (zT X21.1 (by decide) rfl) (zRf X21.1 (by decide) (by decide) rfl) (by decide) ?_
        refine gw_ld rfl rfl ?_
        refine gw_op rfl ?_
        refine z_ia (n := 19) (zT X21.1 (by decide) rfl) (zN X21.1 (by decide) rfl) (by omega) ?_
        generalize ex24 : ez_I h19 65 a.toInt.toNat = x24
        have rx24 := z_rng x24
        have qx24 := congrArg Int32.toInt ex24
        refine z_C (m := 1) rfl rfl (fun x25 ex25 => ?_)
        first | refine z_add (by omega) (fun x26 ex26 => ?_) | refine z_addW (fun x26 ex26 => ?_)
        have rx26 := z_rng x26
        refine z_is (n := 19) (zT X21.1 (by decide) rfl) (zN X21.1 (by decide) rfl) (by omega) (fun h27 e28 => ?_)
        have X29 := xI_set X21 e28 (xW_of (by decide))
        have F30 := zF_set F22 e28 (by omega)
        have f31 : ez_I h27 61 5 = x18 := (zI_ne e28 (by omega)).trans f23
        refine z_rv ?_
        have t32 := congrArg Int32.toInt f31
        exact K _ F30 X29
set_option maxRecDepth 4000 in
set_option maxHeartbeats 20000000 in
theorem k_tellAt {E : Nat → Nat × (Nat → Int32)} {d : Nat} {Q : ez_Q} {h : ez_H} {a : Int32} {n : Int32} (X : xI h) (hE : zE E) (ha : 0 ≤ a.toInt ∧ a.toInt < n.toInt ∧ n.toInt ≤ 316) (K : ∀ h2 (x : Int32), zF (fun q => q = 61 ∨ q = 63 ∨ q = 64 ∨ q = 65) h h2 → xI h2 → (0 ≤ x.toInt ∧ x.toInt ≤ 316) → Q (.inl (some (.int x))) h2) : pw E (d + 1) 94 0 [some (.ref 61), some (.int a), some (.int n), none, none] [] h Q := by
  have ga := z_rng a
  have gn := z_rng n
  have F := zF_refl (fun q => q = 61 ∨ q = 63 ∨ q = 64 ∨ q = 65) h
  apply ez_Wp_in
  show ez_gw _ _ _ _ _ _ (cz_94) _ _ _ _ _
  refine gw_skip _ ?_
  refine gw_ld rfl rfl ?_
  refine gw_ld rfl rfl ?_
  refine gw_ld rfl rfl ?_
  refine z_C (m := 0) rfl rfl (fun x1 ex1 => ?_)
  refine z_C (m := 138) rfl rfl (fun x2 ex2 => ?_)
  refine z_cl rfl rfl rfl rfl rfl rfl rfl rfl rfl rfl rfl (zT X.1 (by decide) rfl) ?_
  refine k_same X (by omega) (fun x3 k4 => ?_)
  have rx3 := z_rng x3
  refine gw_st rfl rfl rfl ?_
  show ez_gw _ _ _ _ _ _ _ _ [some (.ref 61), some (.int a), some (.int n), some (.int x3), none] _ _ _
  refine gw_ld rfl rfl ?_
  refine z_C (m := 3) rfl rfl (fun x5 ex5 => ?_)
  refine z_b2 (fun c6 => ?_) (fun c6 => ?_)
  · have c6 : x3.toInt < x5.toInt := c6
    refine gw_skip _ ?_
    refine gw_ld rfl rfl ?_
    refine z_b1 (fun c7 => ?_) (fun c7 => ?_)
    · have c7 : a.toInt ≤ 0 := c7
      refine gw_skip _ ?_
      refine z_C (m := 0) rfl rfl (fun x8 ex8 => ?_)
      refine gw_st rfl rfl rfl ?_
      show ez_gw _ _ _ _ _ _ _ _ [some (.ref 61), some (.int a), some (.int n), some (.int x3), some (.int x8)] _ _ _
      refine gw_ld rfl rfl ?_
      refine z_C (m := 3) rfl rfl (fun x9 ex9 => ?_)
      refine z_b2 (fun c10 => ?_) (fun c10 => ?_)
      · have c10 : x8.toInt < x9.toInt := c10
        refine gw_skip _ ?_
        refine gw_ld rfl rfl ?_
        refine gw_ld rfl rfl ?_
        refine z_gR (q := 62) (zT X.1 (by decide) rfl) (zRf X.1 (by decide) (by decide) rfl) (by decide) ?_
        refine gw_ld rfl rfl ?_
        refine z_ia (n := 316) (zT X.1 (by decide) rfl) (zN X.1 (by decide) rfl) (by omega) ?_
        generalize ex11 : ez_I h 62 a.toInt.toNat = x11
        have rx11 := z_rng x11
        have qx11 := congrArg Int32.toInt ex11
        refine z_C (m := 0) rfl rfl (fun x12 ex12 => ?_)
        refine z_cl rfl rfl rfl rfl rfl rfl rfl rfl rfl rfl rfl (zT X.1 (by decide) rfl) ?_
        refine k_addS X  (fun h13 F14 X15  => ?_)
        have F16 := zF_tr F (zF_mono F14 (fun q hq => by first | exact hq | (unfold zX at *; omega) | omega))
        refine z_C (m := 1) rfl rfl (fun x17 ex17 => ?_)
        refine z_ri ?_
        exact K _ x17 F16 X15 (by omega)
      · have c10 : ¬ (x8.toInt < x9.toInt) := c10
        refine gw_ld rfl rfl ?_
        refine z_C (m := 16) rfl rfl (fun x18 ex18 => ?_)
        refine gw_ld rfl rfl ?_
        refine z_C (m := 3) rfl rfl (fun x19 ex19 => ?_)
        first | refine z_sub (by omega) (fun x20 ex20 => ?_) | refine z_subW (fun x20 ex20 => ?_)
        have rx20 := z_rng x20
        refine z_cl rfl rfl rfl rfl rfl rfl rfl rfl rfl rfl rfl (zT X.1 (by decide) rfl) ?_
        refine k_addS X  (fun h21 F22 X23  => ?_)
        have F24 := zF_tr F (zF_mono F22 (fun q hq => by first | exact hq | (unfold zX at *; omega) | omega))
        refine gw_ld rfl rfl ?_
        refine z_ri ?_
        exact K _ x8 F24 X23 (by omega)
    · have c7 : ¬ (a.toInt ≤ 0) := c7
      refine gw_ld rfl rfl ?_
      refine gw_ld rfl rfl ?_
      refine gw_ld rfl rfl ?_
      refine gw_ld rfl rfl ?_
      refine z_gR (q := 62) (zT X.1 (by decide) rfl) (zRf X.1 (by decide) (by decide) rfl) (by decide) ?_
      refine gw_ld rfl rfl ?_
      refine z_C (m := 1) rfl rfl (fun x25 ex25 => ?_)
      first | refine z_sub (by omega) (fun x26 ex26 => ?_) | refine z_subW (fun x26 ex26 => ?_)
      have rx26 := z_rng x26
      refine z_ia (n := 316) (zT X.1 (by decide) rfl) (zN X.1 (by decide) rfl) (by omega) ?_
      generalize ex27 : ez_I h 62 x26.toInt.toNat = x27
      have rx27 := z_rng x27
      have qx27 := congrArg Int32.toInt ex27
      refine z_C (m := 6) rfl rfl (fun x28 ex28 => ?_)
      refine z_cl rfl rfl rfl rfl rfl rfl rfl rfl rfl rfl rfl (zT X.1 (by decide) rfl) ?_
      refine k_same X (by omega) (fun x29 k30 => ?_)
      have rx29 := z_rng x29
      refine z_go ?_
      refine gw_skip _ ?_
      refine gw_st rfl rfl rfl ?_
      show ez_gw _ _ _ _ _ _ _ _ [some (.ref 61), some (.int a), some (.int n), some (.int x3), some (.int x29)] _ _ _
      refine gw_ld rfl rfl ?_
      refine z_C (m := 3) rfl rfl (fun x31 ex31 => ?_)
      refine z_b2 (fun c32 => ?_) (fun c32 => ?_)
      · have c32 : x29.toInt < x31.toInt := c32
        refine gw_skip _ ?_
        refine gw_ld rfl rfl ?_
        refine gw_ld rfl rfl ?_
        refine z_gR (q := 62) (zT X.1 (by decide) rfl) (zRf X.1 (by decide) (by decide) rfl) (by decide) ?_
        refine gw_ld rfl rfl ?_
        refine z_ia (n := 316) (zT X.1 (by decide) rfl) (zN X.1 (by decide) rfl) (by omega) ?_
        generalize ex33 : ez_I h 62 a.toInt.toNat = x33
        have rx33 := z_rng x33
        have qx33 := congrArg Int32.toInt ex33
        refine z_C (m := 0) rfl rfl (fun x34 ex34 => ?_)
        refine z_cl rfl rfl rfl rfl rfl rfl rfl rfl rfl rfl rfl (zT X.1 (by decide) rfl) ?_
        refine k_addS X  (fun h35 F36 X37  => ?_)
        have F38 := zF_tr F (zF_mono F36 (fun q hq => by first | exact hq | (unfold zX at *; omega) | omega))
        refine z_C (m := 1) rfl rfl (fun x39 ex39 => ?_)
        refine z_ri ?_
        exact K _ x39 F38 X37 (by omega)
      · have c32 : ¬ (x29.toInt < x31.toInt) := c32
        refine gw_ld rfl rfl ?_
        refine z_C (m := 16) rfl rfl (fun x40 ex40 => ?_)
        refine gw_ld rfl rfl ?_
        refine z_C (m := 3) rfl rfl (fun x41 ex41 => ?_)
        first | refine z_sub (by omega) (fun x42 ex42 => ?_) | refine z_subW (fun x42 ex42 => ?_)
        have rx42 := z_rng x42
        refine z_cl rfl rfl rfl rfl rfl rfl rfl rfl rfl rfl rfl (zT X.1 (by decide) rfl) ?_
        refine k_addS X  (fun h43 F44 X45  => ?_)
        have F46 := zF_tr F (zF_mono F44 (fun q hq => by first | exact hq | (unfold zX at *; omega) | omega))
        refine gw_ld rfl rfl ?_
        refine z_ri ?_
        exact K _ x29 F46 X45 (by omega)
  · have c6 : ¬ (x3.toInt < x5.toInt) := c6
    refine gw_ld rfl rfl ?_
    refine z_C (m := 10) rfl rfl (fun x47 ex47 => ?_)
    refine z_b2 (fun c48 => ?_) (fun c48 => ?_)
    · have c48 : x47.toInt < x3.toInt := c48
      refine gw_skip _ ?_
      refine z_C (m := 18) rfl rfl (fun x49 ex49 => ?_)
      refine gw_st rfl rfl rfl ?_
      show ez_gw _ _ _ _ _ _ _ _ [some (.ref 61), some (.int a), some (.int n), some (.int x3), some (.int x49)] _ _ _
      refine gw_ld rfl rfl ?_
      refine gw_ld rfl rfl ?_
      refine gw_ld rfl rfl ?_
      refine z_gs ?_
      refine gw_ld rfl rfl ?_
      refine z_C (m := 16) rfl rfl (fun x50 ex50 => ?_)
      first | refine z_sub (by omega) (fun x51 ex51 => ?_) | refine z_subW (fun x51 ex51 => ?_)
      have rx51 := z_rng x51
      refine z_iaE (n := 3) (hE 6) (by omega) ?_
      generalize ex52 : (tz_ar (6 + 1)).getD x51.toInt.toNat 0 = x52
      have rx52 := z_rng x52
      have qx52 := congrArg Int32.toInt ex52
      first | refine z_sub (by omega) (fun x53 ex53 => ?_) | refine z_subW (fun x53 ex53 => ?_)
      have rx53 := z_rng x53
      refine z_cl rfl rfl rfl rfl rfl rfl rfl rfl rfl rfl rfl (zT X.1 (by decide) rfl) ?_
      refine k_addS X  (fun h54 F55 X56  => ?_)
      have F57 := zF_tr F (zF_mono F55 (fun q hq => by first | exact hq | (unfold zX at *; omega) | omega))
      refine gw_ld rfl rfl ?_
      refine z_ri ?_
      exact K _ x3 F57 X56 (by omega)
    · have c48 : ¬ (x47.toInt < x3.toInt) := c48
      refine z_C (m := 17) rfl rfl (fun x58 ex58 => ?_)
      refine z_go ?_
      refine gw_skip _ ?_
      refine gw_st rfl rfl rfl ?_
      show ez_gw _ _ _ _ _ _ _ _ [some (.ref 61), some (.int a), some (.int n), some (.int x3), some (.int x58)] _ _ _
      refine gw_ld rfl rfl ?_
      refine gw_ld rfl rfl ?_
      refine gw_ld rfl rfl ?_
      refine z_gs ?_
      refine gw_ld rfl rfl ?_
      refine z_C (m := 16) rfl rfl (fun x59 ex59 => ?_)
      first | refine z_sub (by omega) (fun x60 ex60 => ?_) | refine z_subW (fun x60 ex60 => ?_)
      have rx60 := z_rng x60
      refine z_iaE (n := 3) (hE 6) (by omega) ?_
      generalize ex61 : (tz_ar (6 + 1)).getD x60.toInt.toNat 0 = x61
      have rx61 := z_rng x61
      have qx61 := congrArg Int32.toInt ex61
      first | refine z_sub (by omega) (fun x62 ex62 => ?_) | refine z_subW (fun x62 ex62 => ?_)
      have rx62 := z_rng x62
      refine z_cl rfl rfl rfl rfl rfl rfl rfl rfl rfl rfl rfl (zT X.1 (by decide) rfl) ?_
      refine k_addS X  (fun h63 F64 X65  => ?_)
      have F66 := zF_tr F (zF_mono F64 (fun q hq => by first | exact hq | (unfold zX at *; omega) | omega))
      refine gw_ld rfl rfl ?_
      refine z_ri ?_
      exact K _ x3 F66 X65 (by omega)
set_option maxRecDepth 4000 in
set_option maxHeartbeats 20000000 in
theorem k_tellRow_L {E : Nat → Nat × (Nat → Int32)} {d : Nat} {Q : ez_Q} {h : ez_H} {n : Int32} (X : xI h) (hE : zE E) (hn : n.toInt ≤ 316) (K : ∀ h2, zF (fun q => q = 61 ∨ q = 63 ∨ q = 64 ∨ q = 65) h h2 → xI h2 → Q (.inl none) h2) : ∀ N : Nat, (∀ (h2 : ez_H) (c : Int32) (i : Int32), zF (fun q => q = 61 ∨ q = 63 ∨ q = 64 ∨ q = 65) h h2 → xI h2 → (0 ≤ i.toInt ∧ 0 ≤ c.toInt ∧ c.toInt ≤ 700) → (2147483647 - i.toInt) < (N : Int) → pw E (d + 2) 93 17 [some (.ref 61), some (.int n), some (.int c), some (.int i)] [] h2 Q) := by
  intro N
  induction N with
  | zero => exact fun h2 c i F X2 hinv hm => absurd hm (by have w0 := z_rng i; omega)
  | succ N ih =>
    refine fun h2 c i F X2 hinv hm => ?_
    · skip
      have w0 := z_rng i
      have gn := z_rng n
      apply ez_Wp_in
      show ez_gw _ _ _ _ _ _ (cz_93) _ _ _ _ _
      refine gw_skip _ ?_
      refine gw_ld rfl rfl ?_
      refine gw_ld rfl rfl ?_
      refine z_b2 (fun c1 => ?_) (fun c1 => ?_)
      · have c1 : n.toInt ≤ i.toInt := c1
        refine gw_skip _ ?_
        refine z_rv ?_
        exact K _ F X2
      · have c1 : ¬ (n.toInt ≤ i.toInt) := c1
        refine gw_ld rfl rfl ?_
        refine gw_ld rfl rfl ?_
        refine z_b2 (fun c2 => ?_) (fun c2 => ?_)
        · have c2 : n.toInt ≤ c.toInt := c2
          refine gw_skip _ ?_
          refine z_rv ?_
          exact K _ F X2
        · have c2 : ¬ (n.toInt ≤ c.toInt) := c2
          refine gw_ld rfl rfl ?_
          refine gw_ld rfl rfl ?_
          refine gw_ld rfl rfl ?_
          refine gw_ld rfl rfl ?_
          refine z_cl rfl rfl rfl rfl rfl rfl rfl rfl rfl rfl rfl (zT X2.1 (by decide) rfl) ?_
          refine k_tellAt X2 hE (by omega) (fun h3 x6 F4 X5 k7 => ?_)
          have rx6 := z_rng x6
          have F8 := zF_tr F (zF_mono F4 (fun q hq => by first | exact hq | (unfold zX at *; omega) | omega))
          first | refine z_add (by omega) (fun x9 ex9 => ?_) | refine z_addW (fun x9 ex9 => ?_)
          have rx9 := z_rng x9
          refine gw_st rfl rfl rfl ?_
          show ez_gw _ _ _ _ _ _ _ _ [some (.ref 61), some (.int n), some (.int x9), some (.int i)] _ _ _
          first | (refine z_inc rfl (by rw [show (1 : Int32).toInt = 1 from rfl]; omega) (fun x10 ex10 => ?_); rw [show (1 : Int32).toInt = 1 from rfl] at ex10) | refine z_incW rfl (fun x10 ex10 => ?_)
          have rx10 := z_rng x10
          show ez_gw _ _ _ _ _ _ _ _ [some (.ref 61), some (.int n), some (.int x9), some (.int x10)] _ _ _
          refine z_go ?_
          exact ih _ x9 x10 F8 X5 (by first | trivial | omega) (by omega)
set_option maxRecDepth 4000 in
set_option maxHeartbeats 20000000 in
theorem k_tellRow {E : Nat → Nat × (Nat → Int32)} {d : Nat} {Q : ez_Q} {h : ez_H} {n : Int32} (X : xI h) (hE : zE E) (hn : n.toInt ≤ 316) (K : ∀ h2, zF (fun q => q = 61 ∨ q = 63 ∨ q = 64 ∨ q = 65) h h2 → xI h2 → Q (.inl none) h2) : pw E (d + 2) 93 0 [some (.ref 61), some (.int n), none, none] [] h Q := by
  have gn := z_rng n
  have F := zF_refl (fun q => q = 61 ∨ q = 63 ∨ q = 64 ∨ q = 65) h
  apply ez_Wp_in
  show ez_gw _ _ _ _ _ _ (cz_93) _ _ _ _ _
  refine gw_skip _ ?_
  refine gw_ld rfl rfl ?_
  refine z_gR (q := 65) (zT X.1 (by decide) rfl) (zRf X.1 (by decide) (by decide) rfl) (by decide) ?_
  refine z_C (m := 0) rfl rfl (fun x1 ex1 => ?_)
  refine z_cl rfl rfl rfl rfl rfl rfl rfl rfl rfl rfl rfl (trivial) ?_
  refine wp_fill (zT X.1 (by decide) rfl) (by rw [zN X.1 (by decide) rfl]; first | omega | decide) ?_
  generalize e3 : ez_rowI h 65 (pf_fill (ez_I h 65) (ez_l h 65) x1) = h2
  have e3 := e3.symm
  have X4 := xI_row X e3 (by omega)
  have F5 := zF_row F e3 (by omega)
  refine gw_ld rfl rfl ?_
  refine z_C (m := 0) rfl rfl (fun x6 ex6 => ?_)
  refine z_pI (zT X4.1 (by decide) rfl) (fun h7 e8 => ?_)
  have X9 := xI_set X4 e8 (⟨fun c => by omega, fun c => by omega, fun c => by omega, fun c => by omega, fun c => by omega, fun c => by omega⟩)
  have F10 := zF_set F5 e8 (by omega)
  have f11 : ez_I h7 61 5 = x6 := zI_eq e8
  refine z_C (m := 0) rfl rfl (fun x12 ex12 => ?_)
  refine gw_st rfl rfl rfl ?_
  show ez_gw _ _ _ _ _ _ _ _ [some (.ref 61), some (.int n), some (.int x12), none] _ _ _
  refine z_C (m := 0) rfl rfl (fun x13 ex13 => ?_)
  refine gw_st rfl rfl rfl ?_
  show ez_gw _ _ _ _ _ _ _ _ [some (.ref 61), some (.int n), some (.int x12), some (.int x13)] _ _ _
  have t14 := congrArg Int32.toInt f11
  exact ez_Wp_out ((k_tellRow_L X hE hn K (((2147483647 - x13.toInt)).toNat + 1)) _ x12 x13 F10 X9 (by first | trivial | omega) (by omega))
set_option maxRecDepth 4000 in
set_option maxHeartbeats 20000000 in
theorem k_xbo {E : Nat → Nat × (Nat → Int32)} {d : Nat} {Q : ez_Q} {h : ez_H} {i : Int32} (X : xI h) (hE : zE E) (K : ∀ x : Int32, Q (.inl (some (.int x))) h) : pw E d 98 0 [some (.int i), none] [] h Q := by
  have gi := z_rng i
  have F := zF_refl (zX) h
  apply ez_Wp_in
  show ez_gw _ _ _ _ _ _ (cz_98) _ _ _ _ _
  refine gw_skip _ ?_
  refine gw_ld rfl rfl ?_
  refine z_C (m := 16) rfl rfl (fun x1 ex1 => ?_)
  first | refine z_sub (by omega) (fun x2 ex2 => ?_) | refine z_subW (fun x2 ex2 => ?_)
  have rx2 := z_rng x2
  refine gw_st rfl rfl rfl ?_
  show ez_gw _ _ _ _ _ _ _ _ [some (.int i), some (.int x2)] _ _ _
  refine gw_ld rfl rfl ?_
  refine z_b1 (fun c3 => ?_) (fun c3 => ?_)
  · have c3 : x2.toInt < 0 := c3
    refine gw_skip _ ?_
    refine z_C (m := 0) rfl rfl (fun x4 ex4 => ?_)
    refine z_ri ?_
    exact K x4
  · have c3 : ¬ (x2.toInt < 0) := c3
    refine gw_ld rfl rfl ?_
    refine z_gs ?_
    refine z_alE (n := 3) (by rw [hE 8]; rfl) (by omega) (fun x5 ex5 => ?_)
    refine z_b2 (fun c6 => ?_) (fun c6 => ?_)
    · have c6 : x5.toInt ≤ x2.toInt := c6
      refine gw_skip _ ?_
      refine z_C (m := 0) rfl rfl (fun x7 ex7 => ?_)
      refine z_ri ?_
      exact K x7
    · have c6 : ¬ (x5.toInt ≤ x2.toInt) := c6
      refine z_gs ?_
      refine gw_ld rfl rfl ?_
      refine z_iaE (n := 3) (hE 8) (by omega) ?_
      generalize ex8 : (tz_ar (8 + 1)).getD x2.toInt.toNat 0 = x8
      have rx8 := z_rng x8
      have qx8 := congrArg Int32.toInt ex8
      refine z_go ?_
      refine gw_skip _ ?_
      refine z_ri ?_
      exact K x8
set_option maxRecDepth 4000 in
set_option maxHeartbeats 20000000 in
theorem k_xb_L {E : Nat → Nat × (Nat → Int32)} {d : Nat} {Q : ez_Q} {h : ez_H}  (X : xI h) (hE : zE E) (K : ∀ x : Int32, Q (.inl (some (.int x))) h) : ∀ N : Nat, (∀ (c : Int32) (i : Int32), (16 ≤ i.toInt ∧ i.toInt ≤ 19) → (2147483647 - i.toInt) < (N : Int) → pw E (d + 1) 97 5 [some (.ref 61), some (.int c), some (.int i)] [] h Q) := by
  intro N
  induction N with
  | zero => exact fun c i hinv hm => absurd hm (by have w0 := z_rng i; omega)
  | succ N ih =>
    refine fun c i hinv hm => ?_
    · skip
      have w0 := z_rng i
      apply ez_Wp_in
      show ez_gw _ _ _ _ _ _ (cz_97) _ _ _ _ _
      refine gw_skip _ ?_
      have F := zF_refl zX h
      refine gw_ld rfl rfl ?_
      refine z_C (m := 18) rfl rfl (fun x1 ex1 => ?_)
      refine z_b2 (fun c2 => ?_) (fun c2 => ?_)
      · have c2 : x1.toInt < i.toInt := c2
        refine gw_skip _ ?_
        refine gw_ld rfl rfl ?_
        refine z_ri ?_
        exact K c
      · have c2 : ¬ (x1.toInt < i.toInt) := c2
        refine gw_ld rfl rfl ?_
        refine gw_ld rfl rfl ?_
        refine z_gR (q := 65) (zT X.1 (by decide) rfl) (zRf X.1 (by decide) (by decide) rfl) (by decide) ?_
        refine gw_ld rfl rfl ?_
        refine z_ia (n := 19) (zT X.1 (by decide) rfl) (zN X.1 (by decide) rfl) (by omega) ?_
        generalize ex3 : ez_I h 65 i.toInt.toNat = x3
        have rx3 := z_rng x3
        have qx3 := congrArg Int32.toInt ex3
        refine gw_ld rfl rfl ?_
        refine z_cl rfl rfl rfl rfl rfl rfl rfl rfl rfl rfl rfl (trivial) ?_
        refine k_xbo X hE (fun x4  => ?_)
        have rx4 := z_rng x4
        first | refine z_mul (by omega) (fun x5 ex5 => ?_) | refine z_mulW (fun x5 ex5 => ?_)
        have rx5 := z_rng x5
        first | refine z_add (by omega) (fun x6 ex6 => ?_) | refine z_addW (fun x6 ex6 => ?_)
        have rx6 := z_rng x6
        refine gw_st rfl rfl rfl ?_
        show ez_gw _ _ _ _ _ _ _ _ [some (.ref 61), some (.int x6), some (.int i)] _ _ _
        first | (refine z_inc rfl (by rw [show (1 : Int32).toInt = 1 from rfl]; omega) (fun x7 ex7 => ?_); rw [show (1 : Int32).toInt = 1 from rfl] at ex7) | refine z_incW rfl (fun x7 ex7 => ?_)
        have rx7 := z_rng x7
        show ez_gw _ _ _ _ _ _ _ _ [some (.ref 61), some (.int x6), some (.int x7)] _ _ _
        refine z_go ?_
        exact ih x6 x7 (by first | trivial | omega) (by omega)
set_option maxRecDepth 4000 in
set_option maxHeartbeats 20000000 in
theorem k_xb {E : Nat → Nat × (Nat → Int32)} {d : Nat} {Q : ez_Q} {h : ez_H}  (X : xI h) (hE : zE E) (K : ∀ x : Int32, Q (.inl (some (.int x))) h) : pw E (d + 1) 97 0 [some (.ref 61), none, none] [] h Q := by
  have F := zF_refl (zX) h
  apply ez_Wp_in
  show ez_gw _ _ _ _ _ _ (cz_97) _ _ _ _ _
  refine gw_skip _ ?_
  refine z_C (m := 0) rfl rfl (fun x1 ex1 => ?_)
  refine gw_st rfl rfl rfl ?_
  show ez_gw _ _ _ _ _ _ _ _ [some (.ref 61), some (.int x1), none] _ _ _
  refine z_C (m := 16) rfl rfl (fun x2 ex2 => ?_)
  refine gw_st rfl rfl rfl ?_
  show ez_gw _ _ _ _ _ _ _ _ [some (.ref 61), some (.int x1), some (.int x2)] _ _ _
  exact ez_Wp_out ((k_xb_L X hE K (((2147483647 - x2.toInt)).toNat + 1)) x1 x2 (by first | trivial | omega) (by omega))
set_option maxRecDepth 4000 in
set_option maxHeartbeats 20000000 in
theorem k_lengthen {E : Nat → Nat × (Nat → Int32)} {d : Nat} {Q : ez_Q} {h : ez_H} {w : Nat} {nw : Nat} {i : Int32} (X : xI h) (hw : zA w nw) (hb : nw ≤ 6100) (h6 : w ≤ 70 ∧ w ≠ 2 ∧ w ≠ 4 ∧ w ≠ 50 ∧ w ≠ 53 ∧ w ≠ 55 ∧ w ≠ 61) (K : ∀ h2, zF (fun q => zX q ∨ q = w) h h2 → xI h2 → Q (.inl none) h2) : pw E d 107 0 [some (.ref 9), some (.ref w), some (.int i), none] [] h Q := by
  have gi := z_rng i
  have F := zF_refl (fun q => zX q ∨ q = w) h
  apply ez_Wp_in
  show ez_gw _ _ _ _ _ _ (cz_107) _ _ _ _ _
  refine gw_skip _ ?_
  refine gw_ld rfl rfl ?_
  refine z_b1 (fun c1 => ?_) (fun c1 => ?_)
  · have c1 : i.toInt < 0 := c1
    refine gw_skip _ ?_
    refine z_C (m := -1) rfl rfl (fun x2 ex2 => ?_)
    refine gw_st rfl rfl rfl ?_
    show ez_gw _ _ _ _ _ _ _ _ [some (.ref 9), some (.ref w), some (.int i), some (.int x2)] _ _ _
    refine gw_ld rfl rfl ?_
    refine z_b1 (fun c3 => ?_) (fun c3 => ?_)
    · have c3 : x2.toInt < 0 := c3
      refine gw_skip _ ?_
      refine z_rv ?_
      exact K _ F X
    · have c3 : ¬ (x2.toInt < 0) := c3
      refine gw_ld rfl rfl ?_
      refine gw_ld rfl rfl ?_
      refine z_al (n := nw) (.inl ((hw _ X.1).1)) ((hw _ X.1).2) (by omega) (fun x4 ex4 => ?_)
      refine z_b2 (fun c5 => ?_) (fun c5 => ?_)
      · have c5 : x4.toInt ≤ x2.toInt := c5
        refine gw_skip _ ?_
        refine z_rv ?_
        exact K _ F X
      · have c5 : ¬ (x4.toInt ≤ x2.toInt) := c5
        refine gw_ld rfl rfl ?_
        refine gw_ld rfl rfl ?_
        refine gw_op rfl ?_
        refine z_ia (n := nw) ((hw _ X.1).1) ((hw _ X.1).2) (by omega) ?_
        generalize ex6 : ez_I h w x2.toInt.toNat = x6
        have rx6 := z_rng x6
        have qx6 := congrArg Int32.toInt ex6
        refine z_C (m := 1) rfl rfl (fun x7 ex7 => ?_)
        first | refine z_add (by omega) (fun x8 ex8 => ?_) | refine z_addW (fun x8 ex8 => ?_)
        have rx8 := z_rng x8
        refine z_is (n := nw) ((hw _ X.1).1) ((hw _ X.1).2) (by omega) (fun h9 e10 => ?_)
        have X11 := xI_set X e10 (⟨fun c => by omega, fun c => by omega, fun c => by omega, fun c => by omega, fun c => by omega, fun c => by omega⟩)
        have F12 := zF_set F e10 (by unfold zX; omega)
        refine z_rv ?_
        exact K _ F12 X11
  · have c1 : ¬ (i.toInt < 0) := c1
    refine gw_ld rfl rfl ?_
    refine gw_ld rfl rfl ?_
    refine z_gR (q := 10) (zT X.1 (by decide) rfl) (zRf X.1 (by decide) (by decide) rfl) (by decide) ?_
    refine z_al (n := 288) (.inl (zT X.1 (by decide) rfl)) (zN X.1 (by decide) rfl) (by omega) (fun x13 ex13 => ?_)
    refine z_b2 (fun c14 => ?_) (fun c14 => ?_)
    · have c14 : x13.toInt ≤ i.toInt := c14
      refine gw_skip _ ?_
      refine z_C (m := -1) rfl rfl (fun x15 ex15 => ?_)
      refine gw_st rfl rfl rfl ?_
      show ez_gw _ _ _ _ _ _ _ _ [some (.ref 9), some (.ref w), some (.int i), some (.int x15)] _ _ _
      refine gw_ld rfl rfl ?_
      refine z_b1 (fun c16 => ?_) (fun c16 => ?_)
      · have c16 : x15.toInt < 0 := c16
        refine gw_skip _ ?_
        refine z_rv ?_
        exact K _ F X
      · have c16 : ¬ (x15.toInt < 0) := c16
        refine gw_ld rfl rfl ?_
        refine gw_ld rfl rfl ?_
        refine z_al (n := nw) (.inl ((hw _ X.1).1)) ((hw _ X.1).2) (by omega) (fun x17 ex17 => ?_)
        refine z_b2 (fun c18 => ?_) (fun c18 => ?_)
        · have c18 : x17.toInt ≤ x15.toInt := c18
          refine gw_skip _ ?_
          refine z_rv ?_
          exact K _ F X
        · have c18 : ¬ (x17.toInt ≤ x15.toInt) := c18
          refine gw_ld rfl rfl ?_
          refine gw_ld rfl rfl ?_
          refine gw_op rfl ?_
          refine z_ia (n := nw) ((hw _ X.1).1) ((hw _ X.1).2) (by omega) ?_
          generalize ex19 : ez_I h w x15.toInt.toNat = x19
          have rx19 := z_rng x19
          have qx19 := congrArg Int32.toInt ex19
          refine z_C (m := 1) rfl rfl (fun x20 ex20 => ?_)
          first | refine z_add (by omega) (fun x21 ex21 => ?_) | refine z_addW (fun x21 ex21 => ?_)
          have rx21 := z_rng x21
          refine z_is (n := nw) ((hw _ X.1).1) ((hw _ X.1).2) (by omega) (fun h22 e23 => ?_)
          have X24 := xI_set X e23 (⟨fun c => by omega, fun c => by omega, fun c => by omega, fun c => by omega, fun c => by omega, fun c => by omega⟩)
          have F25 := zF_set F e23 (by unfold zX; omega)
          refine z_rv ?_
          exact K _ F25 X24
    · have c14 : ¬ (x13.toInt ≤ i.toInt) := c14
      refine gw_ld rfl rfl ?_
      refine z_gR (q := 10) (zT X.1 (by decide) rfl) (zRf X.1 (by decide) (by decide) rfl) (by decide) ?_
      refine gw_ld rfl rfl ?_
      refine z_ia (n := 288) (zT X.1 (by decide) rfl) (zN X.1 (by decide) rfl) (by omega) ?_
      generalize ex26 : ez_I h 10 i.toInt.toNat = x26
      have rx26 := z_rng x26
      have qx26 := congrArg Int32.toInt ex26
      refine z_C (m := 511) rfl rfl (fun x27 ex27 => ?_)
      refine z_and (fun x28 ex28 ux28 wx28 => ?_)
      have rx28 := z_rng x28
      replace ux28 := ux28 (by omega)
      clear wx28
      refine z_go ?_
      refine gw_skip _ ?_
      refine gw_st rfl rfl rfl ?_
      show ez_gw _ _ _ _ _ _ _ _ [some (.ref 9), some (.ref w), some (.int i), some (.int x28)] _ _ _
      refine gw_ld rfl rfl ?_
      refine z_b1 (fun c29 => ?_) (fun c29 => ?_)
      · have c29 : x28.toInt < 0 := c29
        refine gw_skip _ ?_
        refine z_rv ?_
        exact K _ F X
      · have c29 : ¬ (x28.toInt < 0) := c29
        refine gw_ld rfl rfl ?_
        refine gw_ld rfl rfl ?_
        refine z_al (n := nw) (.inl ((hw _ X.1).1)) ((hw _ X.1).2) (by omega) (fun x30 ex30 => ?_)
        refine z_b2 (fun c31 => ?_) (fun c31 => ?_)
        · have c31 : x30.toInt ≤ x28.toInt := c31
          refine gw_skip _ ?_
          refine z_rv ?_
          exact K _ F X
        · have c31 : ¬ (x30.toInt ≤ x28.toInt) := c31
          refine gw_ld rfl rfl ?_
          refine gw_ld rfl rfl ?_
          refine gw_op rfl ?_
          refine z_ia (n := nw) ((hw _ X.1).1) ((hw _ X.1).2) (by omega) ?_
          generalize ex32 : ez_I h w x28.toInt.toNat = x32
          have rx32 := z_rng x32
          have qx32 := congrArg Int32.toInt ex32
          refine z_C (m := 1) rfl rfl (fun x33 ex33 => ?_)
          first | refine z_add (by omega) (fun x34 ex34 => ?_) | refine z_addW (fun x34 ex34 => ?_)
          have rx34 := z_rng x34
          refine z_is (n := nw) ((hw _ X.1).1) ((hw _ X.1).2) (by omega) (fun h35 e36 => ?_)
          have X37 := xI_set X e36 (⟨fun c => by omega, fun c => by omega, fun c => by omega, fun c => by omega, fun c => by omega, fun c => by omega⟩)
          have F38 := zF_set F e36 (by unfold zX; omega)
          refine z_rv ?_
          exact K _ F38 X37
set_option maxRecDepth 4000 in
set_option maxHeartbeats 20000000 in
theorem k_gather_L {E : Nat → Nat × (Nat → Int32)} {d : Nat} {Q : ez_Q} {h : ez_H} {w : Nat} {nw : Nat} {n : Int32} (X : xI h) (hw : zA w nw) (hb : nw ≤ 6100) (K : ∀ h2 (x : Int32), zF (zX) h h2 → xI h2 → (0 ≤ x.toInt ∧ x.toInt ≤ 288) → Q (.inl (some (.int x))) h2) : ∀ N : Nat, (∀ (h2 : ez_H) (c : Int32) (i : Int32), zF (zX) h h2 → xI h2 → (0 ≤ i.toInt ∧ 0 ≤ c.toInt ∧ c.toInt ≤ 288) → (2147483647 - i.toInt) < (N : Int) → pw E d 102 5 [some (.ref 9), some (.ref w), some (.int n), some (.int c), some (.int i)] [] h2 Q) := by
  intro N
  induction N with
  | zero => exact fun h2 c i F X2 hinv hm => absurd hm (by have w0 := z_rng i; omega)
  | succ N ih =>
    refine fun h2 c i F X2 hinv hm => ?_
    · skip
      have w0 := z_rng i
      have gn := z_rng n
      apply ez_Wp_in
      show ez_gw _ _ _ _ _ _ (cz_102) _ _ _ _ _
      refine gw_skip _ ?_
      refine gw_ld rfl rfl ?_
      refine gw_ld rfl rfl ?_
      refine z_b2 (fun c1 => ?_) (fun c1 => ?_)
      · have c1 : n.toInt ≤ i.toInt := c1
        refine gw_skip _ ?_
        refine gw_ld rfl rfl ?_
        refine z_ri ?_
        exact K _ c F X2 (by omega)
      · have c1 : ¬ (n.toInt ≤ i.toInt) := c1
        refine gw_ld rfl rfl ?_
        refine gw_ld rfl rfl ?_
        refine z_al (n := nw) (.inl ((hw _ X2.1).1)) ((hw _ X2.1).2) (by omega) (fun x2 ex2 => ?_)
        refine z_b2 (fun c3 => ?_) (fun c3 => ?_)
        · have c3 : x2.toInt ≤ i.toInt := c3
          refine gw_skip _ ?_
          refine gw_ld rfl rfl ?_
          refine z_ri ?_
          exact K _ c F X2 (by omega)
        · have c3 : ¬ (x2.toInt ≤ i.toInt) := c3
          refine gw_ld rfl rfl ?_
          refine gw_ld rfl rfl ?_
          refine z_gR (q := 10) (zT X2.1 (by decide) rfl) (zRf X2.1 (by decide) (by decide) rfl) (by decide) ?_
          refine z_al (n := 288) (.inl (zT X2.1 (by decide) rfl)) (zN X2.1 (by decide) rfl) (by omega) (fun x4 ex4 => ?_)
          refine z_b2 (fun c5 => ?_) (fun c5 => ?_)
          · have c5 : x4.toInt ≤ c.toInt := c5
            refine gw_skip _ ?_
            refine gw_ld rfl rfl ?_
            refine z_ri ?_
            exact K _ c F X2 (by omega)
          · have c5 : ¬ (x4.toInt ≤ c.toInt) := c5
            refine gw_ld rfl rfl ?_
            refine gw_ld rfl rfl ?_
            refine z_ia (n := nw) ((hw _ X2.1).1) ((hw _ X2.1).2) (by omega) ?_
            generalize ex6 : ez_I h2 w i.toInt.toNat = x6
            have rx6 := z_rng x6
            have qx6 := congrArg Int32.toInt ex6
            refine z_b1 (fun c7 => ?_) (fun c7 => ?_)
            · have c7 : x6.toInt ≤ 0 := c7
              refine gw_skip _ ?_
              first | (refine z_inc rfl (by rw [show (1 : Int32).toInt = 1 from rfl]; omega) (fun x8 ex8 => ?_); rw [show (1 : Int32).toInt = 1 from rfl] at ex8) | refine z_incW rfl (fun x8 ex8 => ?_)
              have rx8 := z_rng x8
              show ez_gw _ _ _ _ _ _ _ _ [some (.ref 9), some (.ref w), some (.int n), some (.int c), some (.int x8)] _ _ _
              refine z_go ?_
              exact ih _ c x8 F X2 (by first | trivial | omega) (by omega)
            · have c7 : ¬ (x6.toInt ≤ 0) := c7
              refine gw_ld rfl rfl ?_
              refine z_gR (q := 10) (zT X2.1 (by decide) rfl) (zRf X2.1 (by decide) (by decide) rfl) (by decide) ?_
              refine gw_ld rfl rfl ?_
              refine gw_ld rfl rfl ?_
              refine gw_ld rfl rfl ?_
              refine z_ia (n := nw) ((hw _ X2.1).1) ((hw _ X2.1).2) (by omega) ?_
              generalize ex9 : ez_I h2 w i.toInt.toNat = x9
              have rx9 := z_rng x9
              have qx9 := congrArg Int32.toInt ex9
              refine z_C (m := 9) rfl rfl (fun x10 ex10 => ?_)
              refine z_2 rfl (fun x11 ex11 => ?_)
              have rx11 := z_rng x11
              refine gw_ld rfl rfl ?_
              refine z_2 rfl (fun x12 ex12 => ?_)
              have rx12 := z_rng x12
              refine z_is (n := 288) (zT X2.1 (by decide) rfl) (zN X2.1 (by decide) rfl) (by omega) (fun h13 e14 => ?_)
              have X15 := xI_set X2 e14 (xW_of (by decide))
              have F16 := zF_set F e14 (by unfold zX; omega)
              first | (refine z_inc rfl (by rw [show (1 : Int32).toInt = 1 from rfl]; omega) (fun x17 ex17 => ?_); rw [show (1 : Int32).toInt = 1 from rfl] at ex17) | refine z_incW rfl (fun x17 ex17 => ?_)
              have rx17 := z_rng x17
              show ez_gw _ _ _ _ _ _ _ _ [some (.ref 9), some (.ref w), some (.int n), some (.int x17), some (.int i)] _ _ _
              first | (refine z_inc rfl (by rw [show (1 : Int32).toInt = 1 from rfl]; omega) (fun x18 ex18 => ?_); rw [show (1 : Int32).toInt = 1 from rfl] at ex18) | refine z_incW rfl (fun x18 ex18 => ?_)
              have rx18 := z_rng x18
              show ez_gw _ _ _ _ _ _ _ _ [some (.ref 9), some (.ref w), some (.int n), some (.int x17), some (.int x18)] _ _ _
              refine z_go ?_
              exact ih _ x17 x18 F16 X15 (by first | trivial | omega) (by omega)
set_option maxRecDepth 4000 in
set_option maxHeartbeats 20000000 in
theorem k_gather {E : Nat → Nat × (Nat → Int32)} {d : Nat} {Q : ez_Q} {h : ez_H} {w : Nat} {nw : Nat} {n : Int32} (X : xI h) (hw : zA w nw) (hb : nw ≤ 6100) (K : ∀ h2 (x : Int32), zF (zX) h h2 → xI h2 → (0 ≤ x.toInt ∧ x.toInt ≤ 288) → Q (.inl (some (.int x))) h2) : pw E d 102 0 [some (.ref 9), some (.ref w), some (.int n), none, none] [] h Q := by
  have gn := z_rng n
  have F := zF_refl (zX) h
  apply ez_Wp_in
  show ez_gw _ _ _ _ _ _ (cz_102) _ _ _ _ _
  refine gw_skip _ ?_
  refine z_C (m := 0) rfl rfl (fun x1 ex1 => ?_)
  refine gw_st rfl rfl rfl ?_
  show ez_gw _ _ _ _ _ _ _ _ [some (.ref 9), some (.ref w), some (.int n), some (.int x1), none] _ _ _
  refine z_C (m := 0) rfl rfl (fun x2 ex2 => ?_)
  refine gw_st rfl rfl rfl ?_
  show ez_gw _ _ _ _ _ _ _ _ [some (.ref 9), some (.ref w), some (.int n), some (.int x1), some (.int x2)] _ _ _
  exact ez_Wp_out ((k_gather_L X hw hb K (((2147483647 - x2.toInt)).toNat + 1)) _ x1 x2 F X (by first | trivial | omega) (by omega))
set_option maxRecDepth 4000 in
set_option maxHeartbeats 20000000 in
theorem k_sort_L {E : Nat → Nat × (Nat → Int32)} {d : Nat} {Q : ez_Q} {h : ez_H} {n : Int32} {g : Int32} (X : xI h) (hn : n.toInt ≤ 288) (hg : 1 ≤ g.toInt) (K : ∀ h2, zF (zX) h h2 → xI h2 → Q (.inl none) h2) : ∀ N : Nat, (∀ (h2 : ez_H) (i : Int32) (l4 : Option Value) (l5 : Option Value), zF (zX) h h2 → xI h2 → (1 ≤ i.toInt) → ((2147483647 - i.toInt) * 1000) < (N : Int) → pw E d 103 2 [some (.ref 9), some (.int n), some (.int g), some (.int i), l4, l5] [] h2 Q) ∧ (∀ (h2 : ez_H) (i : Int32) (k : Int32) (j : Int32), zF (zX) h h2 → xI h2 → (1 ≤ i.toInt ∧ i.toInt < n.toInt ∧ 0 ≤ j.toInt ∧ j.toInt ≤ i.toInt) → ((2147483647 - i.toInt) * 1000 - 999 + j.toInt) < (N : Int) → pw E d 103 18 [some (.ref 9), some (.int n), some (.int g), some (.int i), some (.int k), some (.int j)] [] h2 Q) := by
  intro N
  induction N with
  | zero => exact ⟨fun h2 i l4 l5 F X2 hinv hm => absurd hm (by have w0 := z_rng i; omega), fun h2 i k j F X2 hinv hm => absurd hm (by have w0 := z_rng i; omega)⟩
  | succ N ih =>
    refine ⟨fun h2 i l4 l5 F X2 hinv hm => ?_, fun h2 i k j F X2 hinv hm => ?_⟩
    · skip
      have w0 := z_rng i
      have gn := z_rng n
      have gg := z_rng g
      apply ez_Wp_in
      show ez_gw _ _ _ _ _ _ (cz_103) _ _ _ _ _
      refine gw_skip _ ?_
      refine gw_ld rfl rfl ?_
      refine gw_ld rfl rfl ?_
      refine z_b2 (fun c1 => ?_) (fun c1 => ?_)
      · have c1 : n.toInt ≤ i.toInt := c1
        refine gw_skip _ ?_
        refine z_rv ?_
        exact K _ F X2
      · have c1 : ¬ (n.toInt ≤ i.toInt) := c1
        refine gw_ld rfl rfl ?_
        refine z_gR (q := 10) (zT X2.1 (by decide) rfl) (zRf X2.1 (by decide) (by decide) rfl) (by decide) ?_
        refine gw_ld rfl rfl ?_
        refine z_ia (n := 288) (zT X2.1 (by decide) rfl) (zN X2.1 (by decide) rfl) (by omega) ?_
        generalize ex2 : ez_I h2 10 i.toInt.toNat = x2
        have rx2 := z_rng x2
        have qx2 := congrArg Int32.toInt ex2
        refine gw_st rfl rfl rfl ?_
        show ez_gw _ _ _ _ _ _ _ _ [some (.ref 9), some (.int n), some (.int g), some (.int i), some (.int x2), l5] _ _ _
        refine gw_ld rfl rfl ?_
        refine gw_st rfl rfl rfl ?_
        show ez_gw _ _ _ _ _ _ _ _ [some (.ref 9), some (.int n), some (.int g), some (.int i), some (.int x2), some (.int i)] _ _ _
        exact ez_Wp_out (ih.2 _ i x2 i F X2 (by first | trivial | omega) (by omega))
    · skip
      have w0 := z_rng i
      have gn := z_rng n
      have gg := z_rng g
      apply ez_Wp_in
      show ez_gw _ _ _ _ _ _ (cz_103) _ _ _ _ _
      refine gw_skip _ ?_
      refine gw_ld rfl rfl ?_
      refine gw_ld rfl rfl ?_
      refine z_b2 (fun c3 => ?_) (fun c3 => ?_)
      · have c3 : j.toInt < g.toInt := c3
        refine gw_skip _ ?_
        refine gw_ld rfl rfl ?_
        refine z_gR (q := 10) (zT X2.1 (by decide) rfl) (zRf X2.1 (by decide) (by decide) rfl) (by decide) ?_
        refine gw_ld rfl rfl ?_
        refine gw_ld rfl rfl ?_
        refine z_is (n := 288) (zT X2.1 (by decide) rfl) (zN X2.1 (by decide) rfl) (by omega) (fun h4 e5 => ?_)
        have X6 := xI_set X2 e5 (xW_of (by decide))
        have F7 := zF_set F e5 (by unfold zX; omega)
        first | (refine z_inc rfl (by rw [show (1 : Int32).toInt = 1 from rfl]; omega) (fun x8 ex8 => ?_); rw [show (1 : Int32).toInt = 1 from rfl] at ex8) | refine z_incW rfl (fun x8 ex8 => ?_)
        have rx8 := z_rng x8
        show ez_gw _ _ _ _ _ _ _ _ [some (.ref 9), some (.int n), some (.int g), some (.int x8), some (.int k), some (.int j)] _ _ _
        refine z_go ?_
        exact ih.1 _ x8 (some (.int k)) (some (.int j)) F7 X6 (by first | trivial | omega) (by omega)
      · have c3 : ¬ (j.toInt < g.toInt) := c3
        refine gw_ld rfl rfl ?_
        refine z_gR (q := 10) (zT X2.1 (by decide) rfl) (zRf X2.1 (by decide) (by decide) rfl) (by decide) ?_
        refine gw_ld rfl rfl ?_
        refine gw_ld rfl rfl ?_
        first | refine z_sub (by omega) (fun x9 ex9 => ?_) | refine z_subW (fun x9 ex9 => ?_)
        have rx9 := z_rng x9
        refine z_ia (n := 288) (zT X2.1 (by decide) rfl) (zN X2.1 (by decide) rfl) (by omega) ?_
        generalize ex10 : ez_I h2 10 x9.toInt.toNat = x10
        have rx10 := z_rng x10
        have qx10 := congrArg Int32.toInt ex10
        refine gw_ld rfl rfl ?_
        refine z_b2 (fun c11 => ?_) (fun c11 => ?_)
        · have c11 : x10.toInt ≤ k.toInt := c11
          refine gw_skip _ ?_
          refine gw_ld rfl rfl ?_
          refine z_gR (q := 10) (zT X2.1 (by decide) rfl) (zRf X2.1 (by decide) (by decide) rfl) (by decide) ?_
          refine gw_ld rfl rfl ?_
          refine gw_ld rfl rfl ?_
          refine z_is (n := 288) (zT X2.1 (by decide) rfl) (zN X2.1 (by decide) rfl) (by omega) (fun h12 e13 => ?_)
          have X14 := xI_set X2 e13 (xW_of (by decide))
          have F15 := zF_set F e13 (by unfold zX; omega)
          first | (refine z_inc rfl (by rw [show (1 : Int32).toInt = 1 from rfl]; omega) (fun x16 ex16 => ?_); rw [show (1 : Int32).toInt = 1 from rfl] at ex16) | refine z_incW rfl (fun x16 ex16 => ?_)
          have rx16 := z_rng x16
          show ez_gw _ _ _ _ _ _ _ _ [some (.ref 9), some (.int n), some (.int g), some (.int x16), some (.int k), some (.int j)] _ _ _
          refine z_go ?_
          exact ih.1 _ x16 (some (.int k)) (some (.int j)) F15 X14 (by first | trivial | omega) (by omega)
        · have c11 : ¬ (x10.toInt ≤ k.toInt) := c11
          refine gw_ld rfl rfl ?_
          refine z_gR (q := 10) (zT X2.1 (by decide) rfl) (zRf X2.1 (by decide) (by decide) rfl) (by decide) ?_
          refine gw_ld rfl rfl ?_
          refine gw_ld rfl rfl ?_
          refine z_gR (q := 10) (zT X2.1 (by decide) rfl) (zRf X2.1 (by decide) (by decide) rfl) (by decide) ?_
          refine gw_ld rfl rfl ?_
          refine gw_ld rfl rfl ?_
          first | refine z_sub (by omega) (fun x17 ex17 => ?_) | refine z_subW (fun x17 ex17 => ?_)
          have rx17 := z_rng x17
          refine z_ia (n := 288) (zT X2.1 (by decide) rfl) (zN X2.1 (by decide) rfl) (by omega) ?_
          generalize ex18 : ez_I h2 10 x17.toInt.toNat = x18
          have rx18 := z_rng x18
          have qx18 := congrArg Int32.toInt ex18
          refine z_is (n := 288) (zT X2.1 (by decide) rfl) (zN X2.1 (by decide) rfl) (by omega) (fun h19 e20 => ?_)
          have X21 := xI_set X2 e20 (xW_of (by decide))
          have F22 := zF_set F e20 (by unfold zX; omega)
          refine gw_ld rfl rfl ?_
          refine gw_ld rfl rfl ?_
          first | refine z_sub (by omega) (fun x23 ex23 => ?_) | refine z_subW (fun x23 ex23 => ?_)
          have rx23 := z_rng x23
          refine gw_st rfl rfl rfl ?_
          show ez_gw _ _ _ _ _ _ _ _ [some (.ref 9), some (.int n), some (.int g), some (.int i), some (.int k), some (.int x23)] _ _ _
          refine z_go ?_
          exact ih.2 _ i k x23 F22 X21 (by first | trivial | omega) (by omega)
set_option maxRecDepth 4000 in
set_option maxHeartbeats 20000000 in
theorem k_sort {E : Nat → Nat × (Nat → Int32)} {d : Nat} {Q : ez_Q} {h : ez_H} {n : Int32} {g : Int32} (X : xI h) (hn : n.toInt ≤ 288) (hg : 1 ≤ g.toInt) (K : ∀ h2, zF (zX) h h2 → xI h2 → Q (.inl none) h2) : pw E d 103 0 [some (.ref 9), some (.int n), some (.int g), none, none, none] [] h Q := by
  have gn := z_rng n
  have gg := z_rng g
  have F := zF_refl (zX) h
  apply ez_Wp_in
  show ez_gw _ _ _ _ _ _ (cz_103) _ _ _ _ _
  refine gw_skip _ ?_
  refine gw_ld rfl rfl ?_
  refine gw_st rfl rfl rfl ?_
  show ez_gw _ _ _ _ _ _ _ _ [some (.ref 9), some (.int n), some (.int g), some (.int g), none, none] _ _ _
  exact ez_Wp_out ((k_sort_L X hn hg K ((((2147483647 - g.toInt) * 1000)).toNat + 1)).1 _ g (none) (none) F X (by first | trivial | omega) (by omega))
set_option maxRecDepth 4000 in
set_option maxHeartbeats 20000000 in
theorem k_mRound_L {E : Nat → Nat × (Nat → Int32)} {d : Nat} {Q : ez_Q} {h : ez_H} {c : Int32} {n : Int32} {r : Int32} (X : xI h) (hc : 0 ≤ c.toInt ∧ c.toInt ≤ 288) (hn : 0 ≤ n.toInt) (K : ∀ h2 (x : Int32), zF (zX) h h2 → xI h2 → (0 ≤ x.toInt) → Q (.inl (some (.int x))) h2) : ∀ N : Nat, (∀ (h2 : ez_H) (pc : Int32) (i : Int32) (l6 : Option Value) (l7 : Option Value) (l8 : Option Value), zF (zX) h h2 → xI h2 → (0 ≤ i.toInt ∧ 0 ≤ pc.toInt ∧ pc.toInt ≤ 288) → (22147483647 - i.toInt) < (N : Int) → pw E d 105 16 [some (.ref 9), some (.int c), some (.int n), some (.int r), some (.int pc), some (.int i), l6, l7, l8] [] h2 Q) ∧ (∀ (h2 : ez_H) (pc : Int32) (mg : Int32) (sy : Int32) (pa : Int32) (i : Int32), zF (zX) h h2 → xI h2 → (0 ≤ i.toInt ∧ 0 ≤ pc.toInt ∧ pc.toInt ≤ 288 ∧ 0 ≤ mg.toInt ∧ mg.toInt ≤ 576 ∧ mg.toInt ≤ c.toInt + pc.toInt ∧ 0 ≤ sy.toInt ∧ 0 ≤ pa.toInt ∧ sy.toInt + pa.toInt = i.toInt ∧ pa.toInt ≤ pc.toInt) → (2147483647 - i.toInt) < (N : Int) → pw E d 105 80 [some (.ref 9), some (.int c), some (.int n), some (.int r), some (.int pc), some (.int mg), some (.int sy), some (.int pa), some (.int i)] [] h2 Q) := by
  intro N
  induction N with
  | zero => exact ⟨fun h2 pc i l6 l7 l8 F X2 hinv hm => absurd hm (by have w0 := z_rng i; omega), fun h2 pc mg sy pa i F X2 hinv hm => absurd hm (by have w0 := z_rng i; omega)⟩
  | succ N ih =>
    refine ⟨fun h2 pc i l6 l7 l8 F X2 hinv hm => ?_, fun h2 pc mg sy pa i F X2 hinv hm => ?_⟩
    · skip
      have w0 := z_rng i
      have gc := z_rng c
      have gn := z_rng n
      have gr := z_rng r
      apply ez_Wp_in
      show ez_gw _ _ _ _ _ _ (cz_105) _ _ _ _ _
      refine gw_skip _ ?_
      refine gw_ld rfl rfl ?_
      refine gw_ld rfl rfl ?_
      refine z_b2 (fun c1 => ?_) (fun c1 => ?_)
      · have c1 : pc.toInt ≤ i.toInt := c1
        refine gw_skip _ ?_
        refine gw_ld rfl rfl ?_
        refine gw_ld rfl rfl ?_
        first | refine z_add (by omega) (fun x2 ex2 => ?_) | refine z_addW (fun x2 ex2 => ?_)
        have rx2 := z_rng x2
        refine gw_ld rfl rfl ?_
        refine z_gR (q := 11) (zT X2.1 (by decide) rfl) (zRf X2.1 (by decide) (by decide) rfl) (by decide) ?_
        refine z_al (n := 576) (.inr <| .inl (zT X2.1 (by decide) rfl)) (zN X2.1 (by decide) rfl) (by omega) (fun x3 ex3 => ?_)
        refine z_min rfl (fun x4 ex4 => ?_)
        refine gw_st rfl rfl rfl ?_
        show ez_gw _ _ _ _ _ _ _ _ [some (.ref 9), some (.int c), some (.int n), some (.int r), some (.int pc), some (.int x4), l6, l7, l8] _ _ _
        refine z_C (m := 0) rfl rfl (fun x5 ex5 => ?_)
        refine gw_st rfl rfl rfl ?_
        show ez_gw _ _ _ _ _ _ _ _ [some (.ref 9), some (.int c), some (.int n), some (.int r), some (.int pc), some (.int x4), some (.int x5), l7, l8] _ _ _
        refine z_C (m := 0) rfl rfl (fun x6 ex6 => ?_)
        refine gw_st rfl rfl rfl ?_
        show ez_gw _ _ _ _ _ _ _ _ [some (.ref 9), some (.int c), some (.int n), some (.int r), some (.int pc), some (.int x4), some (.int x5), some (.int x6), l8] _ _ _
        refine z_C (m := 0) rfl rfl (fun x7 ex7 => ?_)
        refine gw_st rfl rfl rfl ?_
        show ez_gw _ _ _ _ _ _ _ _ [some (.ref 9), some (.int c), some (.int n), some (.int r), some (.int pc), some (.int x4), some (.int x5), some (.int x6), some (.int x7)] _ _ _
        exact ez_Wp_out (ih.2 _ pc x4 x5 x6 x7 F X2 (by first | trivial | omega) (by omega))
      · have c1 : ¬ (pc.toInt ≤ i.toInt) := c1
        refine gw_ld rfl rfl ?_
        refine z_gR (q := 12) (zT X2.1 (by decide) rfl) (zRf X2.1 (by decide) (by decide) rfl) (by decide) ?_
        refine gw_ld rfl rfl ?_
        refine gw_ld rfl rfl ?_
        refine z_gR (q := 11) (zT X2.1 (by decide) rfl) (zRf X2.1 (by decide) (by decide) rfl) (by decide) ?_
        refine z_C (m := 2) rfl rfl (fun x8 ex8 => ?_)
        refine gw_ld rfl rfl ?_
        first | refine z_mulL (c := 2) ex8 (by omega) (fun x9 ex9 => ?_) | refine z_mulW (fun x9 ex9 => ?_)
        have rx9 := z_rng x9
        refine z_la (n := 576) (zT X2.1 (by decide) rfl) (zN X2.1 (by decide) rfl) (by omega) ?_
        generalize ez_L h2 11 x9.toInt.toNat = x10
        refine gw_ld rfl rfl ?_
        refine z_gR (q := 11) (zT X2.1 (by decide) rfl) (zRf X2.1 (by decide) (by decide) rfl) (by decide) ?_
        refine z_C (m := 2) rfl rfl (fun x11 ex11 => ?_)
        refine gw_ld rfl rfl ?_
        first | refine z_mulL (c := 2) ex11 (by omega) (fun x12 ex12 => ?_) | refine z_mulW (fun x12 ex12 => ?_)
        have rx12 := z_rng x12
        refine z_C (m := 1) rfl rfl (fun x13 ex13 => ?_)
        first | refine z_add (by omega) (fun x14 ex14 => ?_) | refine z_addW (fun x14 ex14 => ?_)
        have rx14 := z_rng x14
        refine z_la (n := 576) (zT X2.1 (by decide) rfl) (zN X2.1 (by decide) rfl) (by omega) ?_
        generalize ez_L h2 11 x14.toInt.toNat = x15
        refine gw_op rfl ?_
        generalize (x10 + x15) = x16
        refine z_ls (n := 288) (zT X2.1 (by decide) rfl) (zN X2.1 (by decide) rfl) (by omega) (fun h17 e18 => ?_)
        have X19 := xI_L X2 e18
        have F20 := zF_L F e18 (by unfold zX; omega)
        first | (refine z_inc rfl (by rw [show (1 : Int32).toInt = 1 from rfl]; omega) (fun x21 ex21 => ?_); rw [show (1 : Int32).toInt = 1 from rfl] at ex21) | refine z_incW rfl (fun x21 ex21 => ?_)
        have rx21 := z_rng x21
        show ez_gw _ _ _ _ _ _ _ _ [some (.ref 9), some (.int c), some (.int n), some (.int r), some (.int pc), some (.int x21), l6, l7, l8] _ _ _
        refine z_go ?_
        exact ih.1 _ pc x21 (l6) (l7) (l8) F20 X19 (by first | trivial | omega) (by omega)
    · skip
      have w0 := z_rng i
      have gc := z_rng c
      have gn := z_rng n
      have gr := z_rng r
      apply ez_Wp_in
      show ez_gw _ _ _ _ _ _ (cz_105) _ _ _ _ _
      refine gw_skip _ ?_
      refine gw_ld rfl rfl ?_
      refine gw_ld rfl rfl ?_
      refine z_b2 (fun c22 => ?_) (fun c22 => ?_)
      · have c22 : mg.toInt ≤ i.toInt := c22
        refine gw_skip _ ?_
        refine gw_ld rfl rfl ?_
        refine z_ri ?_
        exact K _ mg F X2 (by omega)
      · have c22 : ¬ (mg.toInt ≤ i.toInt) := c22
        refine gw_ld rfl rfl ?_
        refine gw_ld rfl rfl ?_
        refine z_b2 (fun c23 => ?_) (fun c23 => ?_)
        · have c23 : pc.toInt ≤ pa.toInt := c23
          refine gw_skip _ ?_
          refine gw_ld rfl rfl ?_
          refine z_gR (q := 11) (zT X2.1 (by decide) rfl) (zRf X2.1 (by decide) (by decide) rfl) (by decide) ?_
          refine gw_ld rfl rfl ?_
          refine gw_ld rfl rfl ?_
          refine z_gR (q := 10) (zT X2.1 (by decide) rfl) (zRf X2.1 (by decide) (by decide) rfl) (by decide) ?_
          refine gw_ld rfl rfl ?_
          refine z_ia (n := 288) (zT X2.1 (by decide) rfl) (zN X2.1 (by decide) rfl) (by omega) ?_
          generalize ex24 : ez_I h2 10 sy.toInt.toNat = x24
          have rx24 := z_rng x24
          have qx24 := congrArg Int32.toInt ex24
          refine z_C (m := 9) rfl rfl (fun x25 ex25 => ?_)
          refine z_2 rfl (fun x26 ex26 => ?_)
          have rx26 := z_rng x26
          refine gw_op rfl ?_
          generalize x26.toInt64 = x27
          refine z_ls (n := 576) (zT X2.1 (by decide) rfl) (zN X2.1 (by decide) rfl) (by omega) (fun h28 e29 => ?_)
          have X30 := xI_L X2 e29
          have F31 := zF_L F e29 (by unfold zX; omega)
          refine gw_ld rfl rfl ?_
          refine z_gR (q := 13) (zT X30.1 (by decide) rfl) (zRf X30.1 (by decide) (by decide) rfl) (by decide) ?_
          refine gw_ld rfl rfl ?_
          refine gw_op rfl ?_
          refine z_ia (n := 576) (zT X30.1 (by decide) rfl) (zN X30.1 (by decide) rfl) (by omega) ?_
          generalize ex32 : ez_I h28 13 i.toInt.toNat = x32
          have rx32 := z_rng x32
          have qx32 := congrArg Int32.toInt ex32
          refine z_C (m := 1) rfl rfl (fun x33 ex33 => ?_)
          refine gw_ld rfl rfl ?_
          refine z_2 rfl (fun x34 ex34 => ?_)
          have rx34 := z_rng x34
          refine z_2 rfl (fun x35 ex35 => ?_)
          have rx35 := z_rng x35
          refine z_is (n := 576) (zT X30.1 (by decide) rfl) (zN X30.1 (by decide) rfl) (by omega) (fun h36 e37 => ?_)
          have X38 := xI_set X30 e37 (xW_of (by decide))
          have F39 := zF_set F31 e37 (by unfold zX; omega)
          first | (refine z_inc rfl (by rw [show (1 : Int32).toInt = 1 from rfl]; omega) (fun x40 ex40 => ?_); rw [show (1 : Int32).toInt = 1 from rfl] at ex40) | refine z_incW rfl (fun x40 ex40 => ?_)
          have rx40 := z_rng x40
          show ez_gw _ _ _ _ _ _ _ _ [some (.ref 9), some (.int c), some (.int n), some (.int r), some (.int pc), some (.int mg), some (.int x40), some (.int pa), some (.int i)] _ _ _
          refine z_go ?_
          refine gw_skip _ ?_
          first | (refine z_inc rfl (by rw [show (1 : Int32).toInt = 1 from rfl]; omega) (fun x41 ex41 => ?_); rw [show (1 : Int32).toInt = 1 from rfl] at ex41) | refine z_incW rfl (fun x41 ex41 => ?_)
          have rx41 := z_rng x41
          show ez_gw _ _ _ _ _ _ _ _ [some (.ref 9), some (.int c), some (.int n), some (.int r), some (.int pc), some (.int mg), some (.int x40), some (.int pa), some (.int x41)] _ _ _
          refine z_go ?_
          exact ih.2 _ pc mg x40 pa x41 F39 X38 (by first | trivial | omega) (by omega)
        · have c23 : ¬ (pc.toInt ≤ pa.toInt) := c23
          refine gw_ld rfl rfl ?_
          refine gw_ld rfl rfl ?_
          refine z_b2 (fun c42 => ?_) (fun c42 => ?_)
          · have c42 : c.toInt ≤ sy.toInt := c42
            refine gw_skip _ ?_
            refine gw_ld rfl rfl ?_
            refine z_gR (q := 11) (zT X2.1 (by decide) rfl) (zRf X2.1 (by decide) (by decide) rfl) (by decide) ?_
            refine gw_ld rfl rfl ?_
            refine gw_ld rfl rfl ?_
            refine z_gR (q := 12) (zT X2.1 (by decide) rfl) (zRf X2.1 (by decide) (by decide) rfl) (by decide) ?_
            refine gw_ld rfl rfl ?_
            refine z_la (n := 288) (zT X2.1 (by decide) rfl) (zN X2.1 (by decide) rfl) (by omega) ?_
            generalize ez_L h2 12 pa.toInt.toNat = x43
            refine z_ls (n := 576) (zT X2.1 (by decide) rfl) (zN X2.1 (by decide) rfl) (by omega) (fun h44 e45 => ?_)
            have X46 := xI_L X2 e45
            have F47 := zF_L F e45 (by unfold zX; omega)
            first | (refine z_inc rfl (by rw [show (1 : Int32).toInt = 1 from rfl]; omega) (fun x48 ex48 => ?_); rw [show (1 : Int32).toInt = 1 from rfl] at ex48) | refine z_incW rfl (fun x48 ex48 => ?_)
            have rx48 := z_rng x48
            show ez_gw _ _ _ _ _ _ _ _ [some (.ref 9), some (.int c), some (.int n), some (.int r), some (.int pc), some (.int mg), some (.int sy), some (.int x48), some (.int i)] _ _ _
            first | (refine z_inc rfl (by rw [show (1 : Int32).toInt = 1 from rfl]; omega) (fun x49 ex49 => ?_); rw [show (1 : Int32).toInt = 1 from rfl] at ex49) | refine z_incW rfl (fun x49 ex49 => ?_)
            have rx49 := z_rng x49
            show ez_gw _ _ _ _ _ _ _ _ [some (.ref 9), some (.int c), some (.int n), some (.int r), some (.int pc), some (.int mg), some (.int sy), some (.int x48), some (.int x49)] _ _ _
            refine z_go ?_
            exact ih.2 _ pc mg sy x48 x49 F47 X46 (by first | trivial | omega) (by omega)
          · have c42 : ¬ (c.toInt ≤ sy.toInt) := c42
            refine gw_ld rfl rfl ?_
            refine z_gR (q := 10) (zT X2.1 (by decide) rfl) (zRf X2.1 (by decide) (by decide) rfl) (by decide) ?_
            refine gw_ld rfl rfl ?_
            refine z_ia (n := 288) (zT X2.1 (by decide) rfl) (zN X2.1 (by decide) rfl) (by omega) ?_
            generalize ex50 : ez_I h2 10 sy.toInt.toNat = x50
            have rx50 := z_rng x50
            have qx50 := congrArg Int32.toInt ex50
            refine z_C (m := 9) rfl rfl (fun x51 ex51 => ?_)
            refine z_2 rfl (fun x52 ex52 => ?_)
            have rx52 := z_rng x52
            refine gw_op rfl ?_
            generalize x52.toInt64 = x53
            refine gw_ld rfl rfl ?_
            refine z_gR (q := 12) (zT X2.1 (by decide) rfl) (zRf X2.1 (by decide) (by decide) rfl) (by decide) ?_
            refine gw_ld rfl rfl ?_
            refine z_la (n := 288) (zT X2.1 (by decide) rfl) (zN X2.1 (by decide) rfl) (by omega) ?_
            generalize ez_L h2 12 pa.toInt.toNat = x54
            refine gw_op rfl ?_
            generalize ex55 : (lg_cmp x53 x54) = x55
            have rx55 := z_rng x55
            refine z_b1 (fun c56 => ?_) (fun c56 => ?_)
            · have c56 : 0 < x55.toInt := c56
              refine gw_skip _ ?_
              refine gw_ld rfl rfl ?_
              refine z_gR (q := 11) (zT X2.1 (by decide) rfl) (zRf X2.1 (by decide) (by decide) rfl) (by decide) ?_
              refine gw_ld rfl rfl ?_
              refine gw_ld rfl rfl ?_
              refine z_gR (q := 12) (zT X2.1 (by decide) rfl) (zRf X2.1 (by decide) (by decide) rfl) (by decide) ?_
              refine gw_ld rfl rfl ?_
              refine z_la (n := 288) (zT X2.1 (by decide) rfl) (zN X2.1 (by decide) rfl) (by omega) ?_
              generalize ez_L h2 12 pa.toInt.toNat = x57
              refine z_ls (n := 576) (zT X2.1 (by decide) rfl) (zN X2.1 (by decide) rfl) (by omega) (fun h58 e59 => ?_)
              have X60 := xI_L X2 e59
              have F61 := zF_L F e59 (by unfold zX; omega)
              first | (refine z_inc rfl (by rw [show (1 : Int32).toInt = 1 from rfl]; omega) (fun x62 ex62 => ?_); rw [show (1 : Int32).toInt = 1 from rfl] at ex62) | refine z_incW rfl (fun x62 ex62 => ?_)
              have rx62 := z_rng x62
              show ez_gw _ _ _ _ _ _ _ _ [some (.ref 9), some (.int c), some (.int n), some (.int r), some (.int pc), some (.int mg), some (.int sy), some (.int x62), some (.int i)] _ _ _
              first | (refine z_inc rfl (by rw [show (1 : Int32).toInt = 1 from rfl]; omega) (fun x63 ex63 => ?_); rw [show (1 : Int32).toInt = 1 from rfl] at ex63) | refine z_incW rfl (fun x63 ex63 => ?_)
              have rx63 := z_rng x63
              show ez_gw _ _ _ _ _ _ _ _ [some (.ref 9), some (.int c), some (.int n), some (.int r), some (.int pc), some (.int mg), some (.int sy), some (.int x62), some (.int x63)] _ _ _
              refine z_go ?_
              exact ih.2 _ pc mg sy x62 x63 F61 X60 (by first | trivial | omega) (by omega)
            · have c56 : ¬ (0 < x55.toInt) := c56
              refine gw_ld rfl rfl ?_
              refine z_gR (q := 11) (zT X2.1 (by decide) rfl) (zRf X2.1 (by decide) (by decide) rfl) (by decide) ?_
              refine gw_ld rfl rfl ?_
              refine gw_ld rfl rfl ?_
              refine z_gR (q := 10) (zT X2.1 (by decide) rfl) (zRf X2.1 (by decide) (by decide) rfl) (by decide) ?_
              refine gw_ld rfl rfl ?_
              refine z_ia (n := 288) (zT X2.1 (by decide) rfl) (zN X2.1 (by decide) rfl) (by omega) ?_
              generalize ex64 : ez_I h2 10 sy.toInt.toNat = x64
              have rx64 := z_rng x64
              have qx64 := congrArg Int32.toInt ex64
              refine z_C (m := 9) rfl rfl (fun x65 ex65 => ?_)
              refine z_2 rfl (fun x66 ex66 => ?_)
              have rx66 := z_rng x66
              refine gw_op rfl ?_
              generalize x66.toInt64 = x67
              refine z_ls (n := 576) (zT X2.1 (by decide) rfl) (zN X2.1 (by decide) rfl) (by omega) (fun h68 e69 => ?_)
              have X70 := xI_L X2 e69
              have F71 := zF_L F e69 (by unfold zX; omega)
              refine gw_ld rfl rfl ?_
              refine z_gR (q := 13) (zT X70.1 (by decide) rfl) (zRf X70.1 (by decide) (by decide) rfl) (by decide) ?_
              refine gw_ld rfl rfl ?_
              refine gw_op rfl ?_
              refine z_ia (n := 576) (zT X70.1 (by decide) rfl) (zN X70.1 (by decide) rfl) (by omega) ?_
              generalize ex72 : ez_I h68 13 i.toInt.toNat = x72
              have rx72 := z_rng x72
              have qx72 := congrArg Int32.toInt ex72
              refine z_C (m := 1) rfl rfl (fun x73 ex73 => ?_)
              refine gw_ld rfl rfl ?_
              refine z_2 rfl (fun x74 ex74 => ?_)
              have rx74 := z_rng x74
              refine z_2 rfl (fun x75 ex75 => ?_)
              have rx75 := z_rng x75
              refine z_is (n := 576) (zT X70.1 (by decide) rfl) (zN X70.1 (by decide) rfl) (by omega) (fun h76 e77 => ?_)
              have X78 := xI_set X70 e77 (xW_of (by decide))
              have F79 := zF_set F71 e77 (by unfold zX; omega)
              first | (refine z_inc rfl (by rw [show (1 : Int32).toInt = 1 from rfl]; omega) (fun x80 ex80 => ?_); rw [show (1 : Int32).toInt = 1 from rfl] at ex80) | refine z_incW rfl (fun x80 ex80 => ?_)
              have rx80 := z_rng x80
              show ez_gw _ _ _ _ _ _ _ _ [some (.ref 9), some (.int c), some (.int n), some (.int r), some (.int pc), some (.int mg), some (.int x80), some (.int pa), some (.int i)] _ _ _
              refine z_go ?_
              refine gw_skip _ ?_
              first | (refine z_inc rfl (by rw [show (1 : Int32).toInt = 1 from rfl]; omega) (fun x81 ex81 => ?_); rw [show (1 : Int32).toInt = 1 from rfl] at ex81) | refine z_incW rfl (fun x81 ex81 => ?_)
              have rx81 := z_rng x81
              show ez_gw _ _ _ _ _ _ _ _ [some (.ref 9), some (.int c), some (.int n), some (.int r), some (.int pc), some (.int mg), some (.int x80), some (.int pa), some (.int x81)] _ _ _
              refine z_go ?_
              exact ih.2 _ pc mg x80 pa x81 F79 X78 (by first | trivial | omega) (by omega)
set_option maxRecDepth 4000 in
set_option maxHeartbeats 20000000 in
theorem k_mRound {E : Nat → Nat × (Nat → Int32)} {d : Nat} {Q : ez_Q} {h : ez_H} {c : Int32} {n : Int32} {r : Int32} (X : xI h) (hc : 0 ≤ c.toInt ∧ c.toInt ≤ 288) (hn : 0 ≤ n.toInt) (K : ∀ h2 (x : Int32), zF (zX) h h2 → xI h2 → (0 ≤ x.toInt) → Q (.inl (some (.int x))) h2) : pw E d 105 0 [some (.ref 9), some (.int c), some (.int n), some (.int r), none, none, none, none, none] [] h Q := by
  have gc := z_rng c
  have gn := z_rng n
  have gr := z_rng r
  have F := zF_refl (zX) h
  apply ez_Wp_in
  show ez_gw _ _ _ _ _ _ (cz_105) _ _ _ _ _
  refine gw_skip _ ?_
  refine gw_ld rfl rfl ?_
  refine z_C (m := 2) rfl rfl (fun x1 ex1 => ?_)
  refine z_dv (by omega) (fun x2 ex2 => ?_)
  have rx2 := z_rng x2
  have sx2 := z_div0 (x := n) (c := 2) ‹_› (by decide) hn
  rw [← ex2] at sx2
  refine gw_ld rfl rfl ?_
  refine z_gR (q := 12) (zT X.1 (by decide) rfl) (zRf X.1 (by decide) (by decide) rfl) (by decide) ?_
  refine z_al (n := 288) (.inr <| .inl (zT X.1 (by decide) rfl)) (zN X.1 (by decide) rfl) (by omega) (fun x3 ex3 => ?_)
  refine z_min rfl (fun x4 ex4 => ?_)
  refine gw_st rfl rfl rfl ?_
  show ez_gw _ _ _ _ _ _ _ _ [some (.ref 9), some (.int c), some (.int n), some (.int r), some (.int x4), none, none, none, none] _ _ _
  refine z_C (m := 0) rfl rfl (fun x5 ex5 => ?_)
  refine gw_st rfl rfl rfl ?_
  show ez_gw _ _ _ _ _ _ _ _ [some (.ref 9), some (.int c), some (.int n), some (.int r), some (.int x4), some (.int x5), none, none, none] _ _ _
  exact ez_Wp_out ((k_mRound_L (r := r) X hc hn K (((22147483647 - x5.toInt)).toNat + 1)).1 _ x4 x5 (none) (none) (none) F X (by first | trivial | omega) (by omega))
set_option maxRecDepth 4000 in
set_option maxHeartbeats 20000000 in
theorem k_mRounds_L {E : Nat → Nat × (Nat → Int32)} {d : Nat} {Q : ez_Q} {h : ez_H} {c : Int32} {m : Int32} (X : xI h) (hc : 0 ≤ c.toInt ∧ c.toInt ≤ 288) (K : ∀ h2, zF (zX) h h2 → xI h2 → Q (.inl none) h2) : ∀ N : Nat, (∀ (h2 : ez_H) (i : Int32) (l4 : Option Value), zF (zX) h h2 → xI h2 → (0 ≤ i.toInt) → (22147483647 - i.toInt) < (N : Int) → pw E (d + 1) 104 10 [some (.ref 9), some (.int c), some (.int m), some (.int i), l4] [] h2 Q) ∧ (∀ (h2 : ez_H) (z : Int32) (i : Int32), zF (zX) h h2 → xI h2 → (0 ≤ i.toInt ∧ 0 ≤ z.toInt) → (2147483647 - i.toInt) < (N : Int) → pw E (d + 1) 104 49 [some (.ref 9), some (.int c), some (.int m), some (.int z), some (.int i)] [] h2 Q) := by
  intro N
  induction N with
  | zero => exact ⟨fun h2 i l4 F X2 hinv hm => absurd hm (by have w0 := z_rng i; omega), fun h2 z i F X2 hinv hm => absurd hm (by have w0 := z_rng i; have w1 := z_rng m; omega)⟩
  | succ N ih =>
    refine ⟨fun h2 i l4 F X2 hinv hm => ?_, fun h2 z i F X2 hinv hm => ?_⟩
    · skip
      have w0 := z_rng i
      have gc := z_rng c
      have gm := z_rng m
      apply ez_Wp_in
      show ez_gw _ _ _ _ _ _ (cz_104) _ _ _ _ _
      refine gw_skip _ ?_
      refine gw_ld rfl rfl ?_
      refine gw_ld rfl rfl ?_
      refine z_b2 (fun c1 => ?_) (fun c1 => ?_)
      · have c1 : c.toInt ≤ i.toInt := c1
        refine gw_skip _ ?_
        refine gw_ld rfl rfl ?_
        refine gw_st rfl rfl rfl ?_
        show ez_gw _ _ _ _ _ _ _ _ [some (.ref 9), some (.int c), some (.int m), some (.int c), l4] _ _ _
        refine z_C (m := 1) rfl rfl (fun x2 ex2 => ?_)
        refine gw_st rfl rfl rfl ?_
        show ez_gw _ _ _ _ _ _ _ _ [some (.ref 9), some (.int c), some (.int m), some (.int c), some (.int x2)] _ _ _
        exact ez_Wp_out (ih.2 _ c x2 F X2 (by first | trivial | omega) (by omega))
      · have c1 : ¬ (c.toInt ≤ i.toInt) := c1
        refine gw_ld rfl rfl ?_
        refine z_gR (q := 11) (zT X2.1 (by decide) rfl) (zRf X2.1 (by decide) (by decide) rfl) (by decide) ?_
        refine gw_ld rfl rfl ?_
        refine gw_ld rfl rfl ?_
        refine z_gR (q := 10) (zT X2.1 (by decide) rfl) (zRf X2.1 (by decide) (by decide) rfl) (by decide) ?_
        refine gw_ld rfl rfl ?_
        refine z_ia (n := 288) (zT X2.1 (by decide) rfl) (zN X2.1 (by decide) rfl) (by omega) ?_
        generalize ex3 : ez_I h2 10 i.toInt.toNat = x3
        have rx3 := z_rng x3
        have qx3 := congrArg Int32.toInt ex3
        refine z_C (m := 9) rfl rfl (fun x4 ex4 => ?_)
        refine z_2 rfl (fun x5 ex5 => ?_)
        have rx5 := z_rng x5
        refine gw_op rfl ?_
        generalize x5.toInt64 = x6
        refine z_ls (n := 576) (zT X2.1 (by decide) rfl) (zN X2.1 (by decide) rfl) (by omega) (fun h7 e8 => ?_)
        have X9 := xI_L X2 e8
        have F10 := zF_L F e8 (by unfold zX; omega)
        refine gw_ld rfl rfl ?_
        refine z_gR (q := 13) (zT X9.1 (by decide) rfl) (zRf X9.1 (by decide) (by decide) rfl) (by decide) ?_
        refine gw_ld rfl rfl ?_
        refine z_C (m := 1) rfl rfl (fun x11 ex11 => ?_)
        refine z_is (n := 576) (zT X9.1 (by decide) rfl) (zN X9.1 (by decide) rfl) (by omega) (fun h12 e13 => ?_)
        have X14 := xI_set X9 e13 (xW_of (by decide))
        have F15 := zF_set F10 e13 (by unfold zX; omega)
        first | (refine z_inc rfl (by rw [show (1 : Int32).toInt = 1 from rfl]; omega) (fun x16 ex16 => ?_); rw [show (1 : Int32).toInt = 1 from rfl] at ex16) | refine z_incW rfl (fun x16 ex16 => ?_)
        have rx16 := z_rng x16
        show ez_gw _ _ _ _ _ _ _ _ [some (.ref 9), some (.int c), some (.int m), some (.int x16), l4] _ _ _
        refine z_go ?_
        exact ih.1 _ x16 (l4) F15 X14 (by first | trivial | omega) (by omega)
    · skip
      have w0 := z_rng i
      have w1 := z_rng m
      have gc := z_rng c
      have gm := z_rng m
      apply ez_Wp_in
      show ez_gw _ _ _ _ _ _ (cz_104) _ _ _ _ _
      refine gw_skip _ ?_
      refine gw_ld rfl rfl ?_
      refine gw_ld rfl rfl ?_
      refine z_b2 (fun c17 => ?_) (fun c17 => ?_)
      · have c17 : m.toInt ≤ i.toInt := c17
        refine gw_skip _ ?_
        refine z_rv ?_
        exact K _ F X2
      · have c17 : ¬ (m.toInt ≤ i.toInt) := c17
        refine gw_ld rfl rfl ?_
        refine gw_ld rfl rfl ?_
        refine gw_ld rfl rfl ?_
        refine gw_ld rfl rfl ?_
        refine z_cl rfl rfl rfl rfl rfl rfl rfl rfl rfl rfl rfl (zT X2.1 (by decide) rfl) ?_
        refine k_mRound X2 (by omega) (by omega) (fun h18 x21 F19 X20 k22 => ?_)
        have rx21 := z_rng x21
        have F23 := zF_tr F (zF_mono F19 (fun q hq => by first | exact hq | (unfold zX at *; omega) | omega))
        refine gw_st rfl rfl rfl ?_
        show ez_gw _ _ _ _ _ _ _ _ [some (.ref 9), some (.int c), some (.int m), some (.int x21), some (.int i)] _ _ _
        first | (refine z_inc rfl (by rw [show (1 : Int32).toInt = 1 from rfl]; omega) (fun x24 ex24 => ?_); rw [show (1 : Int32).toInt = 1 from rfl] at ex24) | refine z_incW rfl (fun x24 ex24 => ?_)
        have rx24 := z_rng x24
        show ez_gw _ _ _ _ _ _ _ _ [some (.ref 9), some (.int c), some (.int m), some (.int x21), some (.int x24)] _ _ _
        refine z_go ?_
        exact ih.2 _ x21 x24 F23 X20 (by first | trivial | omega) (by omega)
set_option maxRecDepth 4000 in
set_option maxHeartbeats 20000000 in
theorem k_mRounds {E : Nat → Nat × (Nat → Int32)} {d : Nat} {Q : ez_Q} {h : ez_H} {c : Int32} {m : Int32} (X : xI h) (hc : 0 ≤ c.toInt ∧ c.toInt ≤ 288) (K : ∀ h2, zF (zX) h h2 → xI h2 → Q (.inl none) h2) : pw E (d + 1) 104 0 [some (.ref 9), some (.int c), some (.int m), none, none] [] h Q := by
  have gc := z_rng c
  have gm := z_rng m
  have F := zF_refl (zX) h
  apply ez_Wp_in
  show ez_gw _ _ _ _ _ _ (cz_104) _ _ _ _ _
  refine gw_skip _ ?_
  refine gw_ld rfl rfl ?_
  refine z_gR (q := 13) (zT X.1 (by decide) rfl) (zRf X.1 (by decide) (by decide) rfl) (by decide) ?_
  refine z_C (m := 0) rfl rfl (fun x1 ex1 => ?_)
  refine z_cl rfl rfl rfl rfl rfl rfl rfl rfl rfl rfl rfl (trivial) ?_
  refine wp_fill (zT X.1 (by decide) rfl) (by rw [zN X.1 (by decide) rfl]; first | omega | decide) ?_
  generalize e3 : ez_rowI h 13 (pf_fill (ez_I h 13) (ez_l h 13) x1) = h2
  have e3 := e3.symm
  have X4 := xI_row X e3 (by omega)
  have F5 := zF_row F e3 (by unfold zX; omega)
  refine z_C (m := 0) rfl rfl (fun x6 ex6 => ?_)
  refine gw_st rfl rfl rfl ?_
  show ez_gw _ _ _ _ _ _ _ _ [some (.ref 9), some (.int c), some (.int m), some (.int x6), none] _ _ _
  exact ez_Wp_out ((k_mRounds_L (m := m) X hc K (((22147483647 - x6.toInt)).toNat + 1)).1 _ x6 (none) F5 X4 (by first | trivial | omega) (by omega))
set_option maxRecDepth 4000 in
set_option maxHeartbeats 20000000 in
theorem k_countDown_L {E : Nat → Nat × (Nat → Int32)} {d : Nat} {Q : ez_Q} {h : ez_H} {c : Int32} {m : Int32} {w : Nat} {nw : Nat} (X : xI h) (hw : zA w nw) (hb : nw ≤ 6100) (h6 : w ≤ 70 ∧ w ≠ 2 ∧ w ≠ 4 ∧ w ≠ 50 ∧ w ≠ 53 ∧ w ≠ 55 ∧ w ≠ 61) (hm : 1 ≤ m.toInt ∧ m.toInt ≤ 15) (K : ∀ h2, zF (fun q => zX q ∨ q = w) h h2 → xI h2 → Q (.inl none) h2) : ∀ N : Nat, (∀ (h2 : ez_H) (tk : Int32) (rd : Int32) (l6 : Option Value) (l7 : Option Value), zF (fun q => zX q ∨ q = w) h h2 → xI h2 → (rd.toInt ≤ 14 ∧ -2147483648 ≤ rd.toInt) → ((rd.toInt + 2147483648) * 1000) < (N : Int) → pw E (d + 1) 106 12 [some (.ref 9), some (.int c), some (.int m), some (.ref w), some (.int tk), some (.int rd), l6, l7] [] h2 Q) ∧ (∀ (h2 : ez_H) (tk : Int32) (rd : Int32) (sy : Int32) (i : Int32), zF (fun q => zX q ∨ q = w) h h2 → xI h2 → (0 ≤ rd.toInt ∧ rd.toInt ≤ 14 ∧ 0 ≤ i.toInt ∧ i.toInt ≤ 576) → ((rd.toInt + 2147483648) * 1000 - 1 - i.toInt) < (N : Int) → pw E (d + 1) 106 23 [some (.ref 9), some (.int c), some (.int m), some (.ref w), some (.int tk), some (.int rd), some (.int sy), some (.int i)] [] h2 Q) := by
  intro N
  induction N with
  | zero => exact ⟨fun h2 tk rd l6 l7 F X2 hinv hm => absurd hm (by omega), fun h2 tk rd sy i F X2 hinv hm => absurd hm (by omega)⟩
  | succ N ih =>
    refine ⟨fun h2 tk rd l6 l7 F X2 hinv hm => ?_, fun h2 tk rd sy i F X2 hinv hm => ?_⟩
    · skip
      have gc := z_rng c
      have gm := z_rng m
      apply ez_Wp_in
      show ez_gw _ _ _ _ _ _ (cz_106) _ _ _ _ _
      refine gw_skip _ ?_
      refine gw_ld rfl rfl ?_
      refine z_b1 (fun c1 => ?_) (fun c1 => ?_)
      · have c1 : rd.toInt < 0 := c1
        refine gw_skip _ ?_
        refine z_rv ?_
        exact K _ F X2
      · have c1 : ¬ (rd.toInt < 0) := c1
        refine z_C (m := 0) rfl rfl (fun x2 ex2 => ?_)
        refine gw_st rfl rfl rfl ?_
        show ez_gw _ _ _ _ _ _ _ _ [some (.ref 9), some (.int c), some (.int m), some (.ref w), some (.int tk), some (.int rd), some (.int x2), l7] _ _ _
        refine z_C (m := 0) rfl rfl (fun x3 ex3 => ?_)
        refine gw_st rfl rfl rfl ?_
        show ez_gw _ _ _ _ _ _ _ _ [some (.ref 9), some (.int c), some (.int m), some (.ref w), some (.int tk), some (.int rd), some (.int x2), some (.int x3)] _ _ _
        exact ez_Wp_out (ih.2 _ tk rd x2 x3 F X2 (by first | trivial | omega) (by omega))
    · skip
      have gc := z_rng c
      have gm := z_rng m
      apply ez_Wp_in
      show ez_gw _ _ _ _ _ _ (cz_106) _ _ _ _ _
      refine gw_skip _ ?_
      refine gw_ld rfl rfl ?_
      refine gw_ld rfl rfl ?_
      refine z_b2 (fun c4 => ?_) (fun c4 => ?_)
      · have c4 : tk.toInt ≤ i.toInt := c4
        refine gw_skip _ ?_
        refine z_C (m := 2) rfl rfl (fun x5 ex5 => ?_)
        refine gw_ld rfl rfl ?_
        refine gw_ld rfl rfl ?_
        first | refine z_sub (by omega) (fun x6 ex6 => ?_) | refine z_subW (fun x6 ex6 => ?_)
        have rx6 := z_rng x6
        first | refine z_mulL (c := 2) ex5 (by omega) (fun x7 ex7 => ?_) | refine z_mulW (fun x7 ex7 => ?_)
        have rx7 := z_rng x7
        refine gw_st rfl rfl rfl ?_
        show ez_gw _ _ _ _ _ _ _ _ [some (.ref 9), some (.int c), some (.int m), some (.ref w), some (.int x7), some (.int rd), some (.int sy), some (.int i)] _ _ _
        first | (refine z_inc rfl (by rw [show ((-1) : Int32).toInt = (-1) from rfl]; omega) (fun x8 ex8 => ?_); rw [show ((-1) : Int32).toInt = (-1) from rfl] at ex8) | refine z_incW rfl (fun x8 ex8 => ?_)
        have rx8 := z_rng x8
        show ez_gw _ _ _ _ _ _ _ _ [some (.ref 9), some (.int c), some (.int m), some (.ref w), some (.int x7), some (.int x8), some (.int sy), some (.int i)] _ _ _
        refine z_go ?_
        exact ih.1 _ x7 x8 (some (.int sy)) (some (.int i)) F X2 (by first | trivial | omega) (by omega)
      · have c4 : ¬ (tk.toInt ≤ i.toInt) := c4
        refine gw_ld rfl rfl ?_
        refine gw_ld rfl rfl ?_
        refine z_gR (q := 13) (zT X2.1 (by decide) rfl) (zRf X2.1 (by decide) (by decide) rfl) (by decide) ?_
        refine z_al (n := 576) (.inl (zT X2.1 (by decide) rfl)) (zN X2.1 (by decide) rfl) (by omega) (fun x9 ex9 => ?_)
        refine z_b2 (fun c10 => ?_) (fun c10 => ?_)
        · have c10 : x9.toInt ≤ i.toInt := c10
          refine gw_skip _ ?_
          refine z_C (m := 2) rfl rfl (fun x11 ex11 => ?_)
          refine gw_ld rfl rfl ?_
          refine gw_ld rfl rfl ?_
          first | refine z_sub (by omega) (fun x12 ex12 => ?_) | refine z_subW (fun x12 ex12 => ?_)
          have rx12 := z_rng x12
          first | refine z_mulL (c := 2) ex11 (by omega) (fun x13 ex13 => ?_) | refine z_mulW (fun x13 ex13 => ?_)
          have rx13 := z_rng x13
          refine gw_st rfl rfl rfl ?_
          show ez_gw _ _ _ _ _ _ _ _ [some (.ref 9), some (.int c), some (.int m), some (.ref w), some (.int x13), some (.int rd), some (.int sy), some (.int i)] _ _ _
          first | (refine z_inc rfl (by rw [show ((-1) : Int32).toInt = (-1) from rfl]; omega) (fun x14 ex14 => ?_); rw [show ((-1) : Int32).toInt = (-1) from rfl] at ex14) | refine z_incW rfl (fun x14 ex14 => ?_)
          have rx14 := z_rng x14
          show ez_gw _ _ _ _ _ _ _ _ [some (.ref 9), some (.int c), some (.int m), some (.ref w), some (.int x13), some (.int x14), some (.int sy), some (.int i)] _ _ _
          refine z_go ?_
          exact ih.1 _ x13 x14 (some (.int sy)) (some (.int i)) F X2 (by first | trivial | omega) (by omega)
        · have c10 : ¬ (x9.toInt ≤ i.toInt) := c10
          refine gw_ld rfl rfl ?_
          refine z_gR (q := 13) (zT X2.1 (by decide) rfl) (zRf X2.1 (by decide) (by decide) rfl) (by decide) ?_
          refine gw_ld rfl rfl ?_
          refine z_ia (n := 576) (zT X2.1 (by decide) rfl) (zN X2.1 (by decide) rfl) (by omega) ?_
          generalize ex15 : ez_I h2 13 i.toInt.toNat = x15
          have rx15 := z_rng x15
          have qx15 := congrArg Int32.toInt ex15
          refine gw_ld rfl rfl ?_
          refine z_2 rfl (fun x16 ex16 => ?_)
          have rx16 := z_rng x16
          refine z_C (m := 1) rfl rfl (fun x17 ex17 => ?_)
          refine z_and (fun x18 ex18 ux18 wx18 => ?_)
          have rx18 := z_rng x18
          replace ux18 := ux18 (by omega)
          clear wx18
          refine z_C (m := 1) rfl rfl (fun x19 ex19 => ?_)
          refine z_b2 (fun c20 => ?_) (fun c20 => ?_)
          · have c20 : x18.toInt ≠ x19.toInt := c20
            refine gw_skip _ ?_
            first | (refine z_inc rfl (by rw [show (1 : Int32).toInt = 1 from rfl]; omega) (fun x21 ex21 => ?_); rw [show (1 : Int32).toInt = 1 from rfl] at ex21) | refine z_incW rfl (fun x21 ex21 => ?_)
            have rx21 := z_rng x21
            show ez_gw _ _ _ _ _ _ _ _ [some (.ref 9), some (.int c), some (.int m), some (.ref w), some (.int tk), some (.int rd), some (.int sy), some (.int x21)] _ _ _
            refine z_go ?_
            exact ih.2 _ tk rd sy x21 F X2 (by first | trivial | omega) (by omega)
          · have c20 : ¬ (x18.toInt ≠ x19.toInt) := c20
            refine gw_ld rfl rfl ?_
            refine gw_ld rfl rfl ?_
            refine gw_ld rfl rfl ?_
            refine z_cl rfl rfl rfl rfl rfl rfl rfl rfl rfl rfl rfl (zT X2.1 (by decide) rfl) ?_
            refine k_lengthen X2 hw (by omega) (by omega) (fun h22 F23 X24  => ?_)
            have F25 := zF_tr F (zF_mono F23 (fun q hq => by first | exact hq | (unfold zX at *; omega) | omega))
            first | (refine z_inc rfl (by rw [show (1 : Int32).toInt = 1 from rfl]; omega) (fun x26 ex26 => ?_); rw [show (1 : Int32).toInt = 1 from rfl] at ex26) | refine z_incW rfl (fun x26 ex26 => ?_)
            have rx26 := z_rng x26
            show ez_gw _ _ _ _ _ _ _ _ [some (.ref 9), some (.int c), some (.int m), some (.ref w), some (.int tk), some (.int rd), some (.int x26), some (.int i)] _ _ _
            first | (refine z_inc rfl (by rw [show (1 : Int32).toInt = 1 from rfl]; omega) (fun x27 ex27 => ?_); rw [show (1 : Int32).toInt = 1 from rfl] at ex27) | refine z_incW rfl (fun x27 ex27 => ?_)
            have rx27 := z_rng x27
            show ez_gw _ _ _ _ _ _ _ _ [some (.ref 9), some (.int c), some (.int m), some (.ref w), some (.int tk), some (.int rd), some (.int x26), some (.int x27)] _ _ _
            refine z_go ?_
            exact ih.2 _ tk rd x26 x27 F25 X24 (by first | trivial | omega) (by omega)
set_option maxRecDepth 4000 in
set_option maxHeartbeats 20000000 in
theorem k_countDown {E : Nat → Nat × (Nat → Int32)} {d : Nat} {Q : ez_Q} {h : ez_H} {c : Int32} {m : Int32} {w : Nat} {nw : Nat} (X : xI h) (hw : zA w nw) (hb : nw ≤ 6100) (h6 : w ≤ 70 ∧ w ≠ 2 ∧ w ≠ 4 ∧ w ≠ 50 ∧ w ≠ 53 ∧ w ≠ 55 ∧ w ≠ 61) (hm : 1 ≤ m.toInt ∧ m.toInt ≤ 15) (K : ∀ h2, zF (fun q => zX q ∨ q = w) h h2 → xI h2 → Q (.inl none) h2) : pw E (d + 1) 106 0 [some (.ref 9), some (.int c), some (.int m), some (.ref w), none, none, none, none] [] h Q := by
  have gc := z_rng c
  have gm := z_rng m
  have F := zF_refl (fun q => zX q ∨ q = w) h
  apply ez_Wp_in
  show ez_gw _ _ _ _ _ _ (cz_106) _ _ _ _ _
  refine gw_skip _ ?_
  refine z_C (m := 2) rfl rfl (fun x1 ex1 => ?_)
  refine gw_ld rfl rfl ?_
  first | refine z_mulL (c := 2) ex1 (by omega) (fun x2 ex2 => ?_) | refine z_mulW (fun x2 ex2 => ?_)
  have rx2 := z_rng x2
  refine z_C (m := 2) rfl rfl (fun x3 ex3 => ?_)
  first | refine z_sub (by omega) (fun x4 ex4 => ?_) | refine z_subW (fun x4 ex4 => ?_)
  have rx4 := z_rng x4
  refine gw_st rfl rfl rfl ?_
  show ez_gw _ _ _ _ _ _ _ _ [some (.ref 9), some (.int c), some (.int m), some (.ref w), some (.int x4), none, none, none] _ _ _
  refine gw_ld rfl rfl ?_
  refine z_C (m := 1) rfl rfl (fun x5 ex5 => ?_)
  first | refine z_sub (by omega) (fun x6 ex6 => ?_) | refine z_subW (fun x6 ex6 => ?_)
  have rx6 := z_rng x6
  refine gw_st rfl rfl rfl ?_
  show ez_gw _ _ _ _ _ _ _ _ [some (.ref 9), some (.int c), some (.int m), some (.ref w), some (.int x4), some (.int x6), none, none] _ _ _
  exact ez_Wp_out ((k_countDown_L (c := c) X hw hb h6 hm K ((((x6.toInt + 2147483648) * 1000)).toNat + 1)).1 _ x4 x6 (none) (none) F X (by first | trivial | omega) (by omega))
theorem z_gap {n : Nat} (h : n < 6) : 1 ≤ ((tz_ar (5 + 1)).getD n 0).toInt := by
  revert n; decide
set_option maxRecDepth 4000 in
set_option maxHeartbeats 20000000 in
theorem k_make_L {E : Nat → Nat × (Nat → Int32)} {d : Nat} {Q : ez_Q} {h : ez_H} {u : Nat} {nu : Nat} {n : Int32} {m : Int32} {w : Nat} {nw : Nat} (X : xI h) (hE : zE E) (hu : zA u nu) (hv : nu ≤ 6100) (hw : zA w nw) (hb : nw ≤ 6100) (h6 : w ≤ 70 ∧ w ≠ 2 ∧ w ≠ 4 ∧ w ≠ 50 ∧ w ≠ 53 ∧ w ≠ 55 ∧ w ≠ 61) (hm : 1 ≤ m.toInt ∧ m.toInt ≤ 15) (K : ∀ h2, zF (fun q => zX q ∨ q = w) h h2 → xI h2 → Q (.inl none) h2) : ∀ N : Nat, (∀ (h2 : ez_H) (c : Int32) (i : Int32) (l9 : Option Value) (g6 : Int32), zF (fun q => zX q ∨ q = w) h h2 → xI h2 → (0 ≤ i.toInt ∧ 0 ≤ c.toInt ∧ c.toInt ≤ 288 ∧ g6.toInt = 6) → (2147483647 - i.toInt) < (N : Int) → pw E (d + 2) 101 33 [some (.ref 9), some (.ref u), some (.int n), some (.int m), some (.ref w), some (.int c), some (.retAddr 6), some (.int g6), some (.int i), l9] [] h2 Q) := by
  intro N
  induction N with
  | zero => exact fun h2 c i l9 g6 F X2 hinv hm => absurd hm (by have w0 := z_rng i; omega)
  | succ N ih =>
    refine fun h2 c i l9 g6 F X2 hinv hm => ?_
    · skip
      have w0 := z_rng i
      have gn := z_rng n
      have gm := z_rng m
      apply ez_Wp_in
      show ez_gw _ _ _ _ _ _ (cz_101) _ _ _ _ _
      refine gw_skip _ ?_
      refine gw_ld rfl rfl ?_
      refine gw_ld rfl rfl ?_
      refine z_b2 (fun c1 => ?_) (fun c1 => ?_)
      · have c1 : g6.toInt ≤ i.toInt := c1
        refine gw_skip _ ?_
        refine gw_ld rfl rfl ?_
        refine z_C (m := 1) rfl rfl (fun x2 ex2 => ?_)
        refine z_b2 (fun c3 => ?_) (fun c3 => ?_)
        · have c3 : c.toInt ≠ x2.toInt := c3
          refine gw_skip _ ?_
          refine gw_ld rfl rfl ?_
          refine z_C (m := 1) rfl rfl (fun x4 ex4 => ?_)
          refine z_b2 (fun c5 => ?_) (fun c5 => ?_)
          · have c5 : c.toInt ≤ x4.toInt := c5
            refine gw_skip _ ?_
            refine z_rv ?_
            exact K _ F X2
          · have c5 : ¬ (c.toInt ≤ x4.toInt) := c5
            refine gw_ld rfl rfl ?_
            refine gw_ld rfl rfl ?_
            refine gw_ld rfl rfl ?_
            refine z_cl rfl rfl rfl rfl rfl rfl rfl rfl rfl rfl rfl (zT X2.1 (by decide) rfl) ?_
            refine k_mRounds X2 (by omega) (fun h6 F7 X8  => ?_)
            have F9 := zF_tr F (zF_mono F7 (fun q hq => by first | exact hq | (unfold zX at *; omega) | omega))
            refine gw_ld rfl rfl ?_
            refine gw_ld rfl rfl ?_
            refine gw_ld rfl rfl ?_
            refine gw_ld rfl rfl ?_
            refine z_cl rfl rfl rfl rfl rfl rfl rfl rfl rfl rfl rfl (zT X8.1 (by decide) rfl) ?_
            refine k_countDown X8 hw (by omega) (by omega) (by omega) (fun h10 F11 X12  => ?_)
            have F13 := zF_tr F9 (zF_mono F11 (fun q hq => by first | exact hq | (unfold zX at *; omega) | omega))
            refine z_rv ?_
            exact K _ F13 X12
        · have c3 : ¬ (c.toInt ≠ x2.toInt) := c3
          refine gw_ld rfl rfl ?_
          refine gw_ld rfl rfl ?_
          refine z_C (m := 0) rfl rfl (fun x14 ex14 => ?_)
          refine z_cl rfl rfl rfl rfl rfl rfl rfl rfl rfl rfl rfl (zT X2.1 (by decide) rfl) ?_
          refine k_lengthen X2 hw (by omega) (by omega) (fun h15 F16 X17  => ?_)
          have F18 := zF_tr F (zF_mono F16 (fun q hq => by first | exact hq | (unfold zX at *; omega) | omega))
          refine z_go ?_
          refine gw_skip _ ?_
          refine z_rv ?_
          exact K _ F18 X17
      · have c1 : ¬ (g6.toInt ≤ i.toInt) := c1
        refine gw_ld rfl rfl ?_
        refine gw_ld rfl rfl ?_
        refine z_iaE (n := 6) (hE 5) (by omega) ?_
        generalize ex19 : (tz_ar (5 + 1)).getD i.toInt.toNat 0 = x19
        have rx19 := z_rng x19
        have qx19 := congrArg Int32.toInt ex19
        have ox19 := z_gap (n := i.toInt.toNat) (by omega)
        rw [ex19] at ox19
        refine gw_st rfl rfl rfl ?_
        show ez_gw _ _ _ _ _ _ _ _ [some (.ref 9), some (.ref u), some (.int n), some (.int m), some (.ref w), some (.int c), some (.retAddr 6), some (.int g6), some (.int i), some (.int x19)] _ _ _
        refine gw_ld rfl rfl ?_
        refine gw_ld rfl rfl ?_
        refine gw_ld rfl rfl ?_
        refine z_cl rfl rfl rfl rfl rfl rfl rfl rfl rfl rfl rfl (zT X2.1 (by decide) rfl) ?_
        refine k_sort X2 (by omega) (by omega) (fun h20 F21 X22  => ?_)
        have F23 := zF_tr F (zF_mono F21 (fun q hq => by first | exact hq | (unfold zX at *; omega) | omega))
        first | (refine z_inc rfl (by rw [show (1 : Int32).toInt = 1 from rfl]; omega) (fun x24 ex24 => ?_); rw [show (1 : Int32).toInt = 1 from rfl] at ex24) | refine z_incW rfl (fun x24 ex24 => ?_)
        have rx24 := z_rng x24
        show ez_gw _ _ _ _ _ _ _ _ [some (.ref 9), some (.ref u), some (.int n), some (.int m), some (.ref w), some (.int c), some (.retAddr 6), some (.int g6), some (.int x24), some (.int x19)] _ _ _
        refine z_go ?_
        exact ih _ c x24 (some (.int x19)) g6 F23 X22 (by first | trivial | omega) (by omega)
set_option maxRecDepth 4000 in
set_option maxHeartbeats 20000000 in
theorem k_make {E : Nat → Nat × (Nat → Int32)} {d : Nat} {Q : ez_Q} {h : ez_H} {u : Nat} {nu : Nat} {n : Int32} {m : Int32} {w : Nat} {nw : Nat} (X : xI h) (hE : zE E) (hu : zA u nu) (hv : nu ≤ 6100) (hw : zA w nw) (hb : nw ≤ 6100) (h6 : w ≤ 70 ∧ w ≠ 2 ∧ w ≠ 4 ∧ w ≠ 50 ∧ w ≠ 53 ∧ w ≠ 55 ∧ w ≠ 61) (hm : 1 ≤ m.toInt ∧ m.toInt ≤ 15) (K : ∀ h2, zF (fun q => zX q ∨ q = w) h h2 → xI h2 → Q (.inl none) h2) : pw E (d + 2) 101 0 [some (.ref 9), some (.ref u), some (.int n), some (.int m), some (.ref w), none, none, none, none, none] [] h Q := by
  have gn := z_rng n
  have gm := z_rng m
  have F := zF_refl (fun q => zX q ∨ q = w) h
  apply ez_Wp_in
  show ez_gw _ _ _ _ _ _ (cz_101) _ _ _ _ _
  refine gw_skip _ ?_
  refine gw_ld rfl rfl ?_
  refine z_C (m := 0) rfl rfl (fun x1 ex1 => ?_)
  refine z_cl rfl rfl rfl rfl rfl rfl rfl rfl rfl rfl rfl (trivial) ?_
  refine wp_fill ((hw _ X.1).1) (by rw [(hw _ X.1).2]; first | omega | decide) ?_
  generalize e3 : ez_rowI h w (pf_fill (ez_I h w) (ez_l h w) x1) = h2
  have e3 := e3.symm
  have X4 := xI_row X e3 (by omega)
  have F5 := zF_row F e3 (by unfold zX; omega)
  refine gw_ld rfl rfl ?_
  refine gw_ld rfl rfl ?_
  refine gw_ld rfl rfl ?_
  refine gw_ld rfl rfl ?_
  refine z_al (n := nw) (.inl ((hw _ X4.1).1)) ((hw _ X4.1).2) (by omega) (fun x6 ex6 => ?_)
  refine z_min rfl (fun x7 ex7 => ?_)
  refine z_cl rfl rfl rfl rfl rfl rfl rfl rfl rfl rfl rfl (zT X4.1 (by decide) rfl) ?_
  refine k_gather X4 hu (by omega) (fun h8 x11 F9 X10 k12 => ?_)
  have rx11 := z_rng x11
  have F13 := zF_tr F5 (zF_mono F9 (fun q hq => by first | exact hq | (unfold zX at *; omega) | omega))
  refine gw_st rfl rfl rfl ?_
  show ez_gw _ _ _ _ _ _ _ _ [some (.ref 9), some (.ref u), some (.int n), some (.int m), some (.ref w), some (.int x11), none, none, none, none] _ _ _
  refine z_gs ?_
  refine gw_st rfl rfl rfl ?_
  show ez_gw _ _ _ _ _ _ _ _ [some (.ref 9), some (.ref u), some (.int n), some (.int m), some (.ref w), some (.int x11), some (.retAddr 6), none, none, none] _ _ _
  refine gw_ld rfl rfl ?_
  refine z_alE (n := 6) (by rw [hE 5]; rfl) (by omega) (fun x14 ex14 => ?_)
  refine gw_st rfl rfl rfl ?_
  show ez_gw _ _ _ _ _ _ _ _ [some (.ref 9), some (.ref u), some (.int n), some (.int m), some (.ref w), some (.int x11), some (.retAddr 6), some (.int x14), none, none] _ _ _
  refine z_C (m := 0) rfl rfl (fun x15 ex15 => ?_)
  refine gw_st rfl rfl rfl ?_
  show ez_gw _ _ _ _ _ _ _ _ [some (.ref 9), some (.ref u), some (.int n), some (.int m), some (.ref w), some (.int x11), some (.retAddr 6), some (.int x14), some (.int x15), none] _ _ _
  exact ez_Wp_out ((k_make_L (n := n) X hE hu hv hw hb h6 hm K (((2147483647 - x15.toInt)).toNat + 1)) _ x11 x15 (none) x14 F13 X10 (by first | trivial | omega) (by omega))
set_option maxRecDepth 4000 in
set_option maxHeartbeats 20000000 in
theorem k_plan {E : Nat → Nat × (Nat → Int32)} {d : Nat} {Q : ez_Q} {h : ez_H}  (X : xI h) (hE : zE E) (K : ∀ h2 (x : Int32), zF (zX) h h2 → xI h2 → Q (.inl (some (.int x))) h2) : pw E (d + 3) 89 0 [some (.ref 61), some (.ref 14), some (.ref 9)] [] h Q := by
  have F := zF_refl (zX) h
  apply ez_Wp_in
  show ez_gw _ _ _ _ _ _ (cz_89) _ _ _ _ _
  refine gw_skip _ ?_
  refine gw_ld rfl rfl ?_
  refine gw_ld rfl rfl ?_
  refine z_gR (q := 29) (zT X.1 (by decide) rfl) (zRf X.1 (by decide) (by decide) rfl) (by decide) ?_
  refine z_gR (q := 30) (zT X.1 (by decide) rfl) (zRf X.1 (by decide) (by decide) rfl) (by decide) ?_
  refine z_C (m := 286) rfl rfl (fun x1 ex1 => ?_)
  refine z_C (m := 257) rfl rfl (fun x2 ex2 => ?_)
  refine z_cl rfl rfl rfl rfl rfl rfl rfl rfl rfl rfl rfl (trivial) ?_
  refine k_told X (show zA 30 288 from fun _ S => ⟨zT S (by decide) rfl, zN S (by decide) rfl⟩) (by decide) (by omega) (fun x3 k4 => ?_)
  have rx3 := z_rng x3
  refine z_pI (zT X.1 (by decide) rfl) (fun h5 e6 => ?_)
  have X7 := xI_set X e6 (⟨fun c => by omega, fun c => by omega, fun c => by omega, fun c => by omega, fun c => by omega, fun c => by omega⟩)
  have F8 := zF_set F e6 (by unfold zX; omega)
  have f9 : ez_I h5 61 1 = x3 := zI_eq e6
  refine gw_ld rfl rfl ?_
  refine gw_ld rfl rfl ?_
  refine z_gR (q := 36) (zT X7.1 (by decide) rfl) (zRf X7.1 (by decide) (by decide) rfl) (by decide) ?_
  refine z_gR (q := 37) (zT X7.1 (by decide) rfl) (zRf X7.1 (by decide) (by decide) rfl) (by decide) ?_
  refine z_C (m := 30) rfl rfl (fun x10 ex10 => ?_)
  refine z_C (m := 1) rfl rfl (fun x11 ex11 => ?_)
  refine z_cl rfl rfl rfl rfl rfl rfl rfl rfl rfl rfl rfl (trivial) ?_
  refine k_told X7 (show zA 37 288 from fun _ S => ⟨zT S (by decide) rfl, zN S (by decide) rfl⟩) (by decide) (by omega) (fun x12 k13 => ?_)
  have rx12 := z_rng x12
  refine z_pI (zT X7.1 (by decide) rfl) (fun h14 e15 => ?_)
  have X16 := xI_set X7 e15 (⟨fun c => by omega, fun c => by omega, fun c => by omega, fun c => by omega, fun c => by omega, fun c => by omega⟩)
  have F17 := zF_set F8 e15 (by unfold zX; omega)
  have f18 : ez_I h14 61 1 = x3 := (zI_ne e15 (by omega)).trans f9
  have f19 : ez_I h14 61 2 = x12 := zI_eq e15
  refine gw_ld rfl rfl ?_
  refine z_gR (q := 29) (zT X16.1 (by decide) rfl) (zRf X16.1 (by decide) (by decide) rfl) (by decide) ?_
  refine z_gR (q := 30) (zT X16.1 (by decide) rfl) (zRf X16.1 (by decide) (by decide) rfl) (by decide) ?_
  refine z_C (m := 0) rfl rfl (fun x20 ex20 => ?_)
  refine gw_ld rfl rfl ?_
  refine z_gR (q := 62) (zT X16.1 (by decide) rfl) (zRf X16.1 (by decide) (by decide) rfl) (by decide) ?_
  refine z_C (m := 0) rfl rfl (fun x21 ex21 => ?_)
  refine gw_ld rfl rfl ?_
  refine z_gI2 (by decide) (zT X16.1 (by decide) rfl) (f18) ?_
  refine z_ac (n := 288) (m := 316) rfl (zT X16.1 (by decide) rfl) (zT X16.1 (by decide) rfl) (zN X16.1 (by decide) rfl) (zN X16.1 (by decide) rfl) (by omega) (fun h22 e23 => ?_)
  have X24 := xI_row X16 e23 (by omega)
  have F25 := zF_row F17 e23 (by unfold zX; omega)
  have f26 : ez_I h22 61 1 = x3 := (zI_row e23 (by omega)).trans f18
  have f27 : ez_I h22 61 2 = x12 := (zI_row e23 (by omega)).trans f19
  refine gw_ld rfl rfl ?_
  refine z_gR (q := 36) (zT X24.1 (by decide) rfl) (zRf X24.1 (by decide) (by decide) rfl) (by decide) ?_
  refine z_gR (q := 37) (zT X24.1 (by decide) rfl) (zRf X24.1 (by decide) (by decide) rfl) (by decide) ?_
  refine z_C (m := 0) rfl rfl (fun x28 ex28 => ?_)
  refine gw_ld rfl rfl ?_
  refine z_gR (q := 62) (zT X24.1 (by decide) rfl) (zRf X24.1 (by decide) (by decide) rfl) (by decide) ?_
  refine gw_ld rfl rfl ?_
  refine z_gI2 (by decide) (zT X24.1 (by decide) rfl) (f26) ?_
  refine gw_ld rfl rfl ?_
  refine z_gI2 (by decide) (zT X24.1 (by decide) rfl) (f27) ?_
  refine z_ac (n := 288) (m := 316) rfl (zT X24.1 (by decide) rfl) (zT X24.1 (by decide) rfl) (zN X24.1 (by decide) rfl) (zN X24.1 (by decide) rfl) (by omega) (fun h29 e30 => ?_)
  have X31 := xI_row X24 e30 (by omega)
  have F32 := zF_row F25 e30 (by unfold zX; omega)
  have f33 : ez_I h29 61 1 = x3 := (zI_row e30 (by omega)).trans f26
  have f34 : ez_I h29 61 2 = x12 := (zI_row e30 (by omega)).trans f27
  refine gw_ld rfl rfl ?_
  refine gw_ld rfl rfl ?_
  refine z_gI2 (by decide) (zT X31.1 (by decide) rfl) (f33) ?_
  refine gw_ld rfl rfl ?_
  refine z_gI2 (by decide) (zT X31.1 (by decide) rfl) (f34) ?_
  first | refine z_add (by omega) (fun x35 ex35 => ?_) | refine z_addW (fun x35 ex35 => ?_)
  have rx35 := z_rng x35
  refine z_cl rfl rfl rfl rfl rfl rfl rfl rfl rfl rfl rfl (zT X31.1 (by decide) rfl) ?_
  refine k_tellRow X31 hE (by omega) (fun h36 F37 X38  => ?_)
  have F39 := zF_tr F32 (zF_mono F37 (fun q hq => by first | exact hq | (unfold zX at *; omega) | omega))
  refine gw_ld rfl rfl ?_
  refine gw_ld rfl rfl ?_
  refine z_gR (q := 65) (zT X38.1 (by decide) rfl) (zRf X38.1 (by decide) (by decide) rfl) (by decide) ?_
  refine z_C (m := 19) rfl rfl (fun x40 ex40 => ?_)
  refine z_C (m := 7) rfl rfl (fun x41 ex41 => ?_)
  refine gw_ld rfl rfl ?_
  refine z_gR (q := 43) (zT X38.1 (by decide) rfl) (zRf X38.1 (by decide) (by decide) rfl) (by decide) ?_
  refine z_gR (q := 44) (zT X38.1 (by decide) rfl) (zRf X38.1 (by decide) (by decide) rfl) (by decide) ?_
  refine z_cl rfl rfl rfl rfl rfl rfl rfl rfl rfl rfl rfl (zT X38.1 (by decide) rfl) ?_
  refine k_make X38 hE (show zA 65 19 from fun _ S => ⟨zT S (by decide) rfl, zN S (by decide) rfl⟩) (by omega) (show zA 44 288 from fun _ S => ⟨zT S (by decide) rfl, zN S (by decide) rfl⟩) (by omega) (by omega) (by omega) (fun h42 F43 X44  => ?_)
  have F45 := zF_tr F39 (zF_mono F43 (fun q hq => by first | exact hq | (unfold zX at *; omega) | omega))
  refine gw_ld rfl rfl ?_
  refine z_gR (q := 43) (zT X44.1 (by decide) rfl) (zRf X44.1 (by decide) (by decide) rfl) (by decide) ?_
  refine z_cl rfl rfl rfl rfl rfl rfl rfl rfl rfl rfl rfl (zT X44.1 (by decide) rfl) ?_
  refine k_settle X44 (p := 43) (by omega) (fun h46 F47 X48  => ?_)
  have F49 := zF_tr F45 (zF_mono F47 (fun q hq => by first | exact hq | (unfold zX at *; omega) | omega))
  refine gw_ld rfl rfl ?_
  refine gw_ld rfl rfl ?_
  refine z_gR (q := 43) (zT X48.1 (by decide) rfl) (zRf X48.1 (by decide) (by decide) rfl) (by decide) ?_
  refine z_gR (q := 44) (zT X48.1 (by decide) rfl) (zRf X48.1 (by decide) (by decide) rfl) (by decide) ?_
  refine z_cl rfl rfl rfl rfl rfl rfl rfl rfl rfl rfl rfl (trivial) ?_
  refine k_tOrd X48 hE (show zA 44 288 from fun _ S => ⟨zT S (by decide) rfl, zN S (by decide) rfl⟩) (by decide) (fun x50 k51 => ?_)
  have rx50 := z_rng x50
  refine z_pI (zT X48.1 (by decide) rfl) (fun h52 e53 => ?_)
  have X54 := xI_set X48 e53 (⟨fun c => by omega, fun c => by omega, fun c => by omega, fun c => by omega, fun c => by omega, fun c => by omega⟩)
  have F55 := zF_set F49 e53 (by unfold zX; omega)
  have f56 : ez_I h52 61 7 = x50 := zI_eq e53
  refine z_C (m := 14) rfl rfl (fun x57 ex57 => ?_)
  refine z_C (m := 3) rfl rfl (fun x58 ex58 => ?_)
  refine gw_ld rfl rfl ?_
  refine z_gI2 (by decide) (zT X54.1 (by decide) rfl) (f56) ?_
  first | refine z_mulL (c := 3) ex58 (by omega) (fun x59 ex59 => ?_) | refine z_mulW (fun x59 ex59 => ?_)
  have rx59 := z_rng x59
  first | refine z_add (by omega) (fun x60 ex60 => ?_) | refine z_addW (fun x60 ex60 => ?_)
  have rx60 := z_rng x60
  refine gw_ld rfl rfl ?_
  refine z_cl rfl rfl rfl rfl rfl rfl rfl rfl rfl rfl rfl (zT X54.1 (by decide) rfl) ?_
  refine k_xb X54 hE (fun x61  => ?_)
  have rx61 := z_rng x61
  first | refine z_add (by omega) (fun x62 ex62 => ?_) | refine z_addW (fun x62 ex62 => ?_)
  have rx62 := z_rng x62
  refine gw_ld rfl rfl ?_
  refine z_gR (q := 65) (zT X54.1 (by decide) rfl) (zRf X54.1 (by decide) (by decide) rfl) (by decide) ?_
  refine gw_ld rfl rfl ?_
  refine z_gR (q := 43) (zT X54.1 (by decide) rfl) (zRf X54.1 (by decide) (by decide) rfl) (by decide) ?_
  refine z_gR (q := 44) (zT X54.1 (by decide) rfl) (zRf X54.1 (by decide) (by decide) rfl) (by decide) ?_
  refine z_C (m := 19) rfl rfl (fun x63 ex63 => ?_)
  refine z_cl rfl rfl rfl rfl rfl rfl rfl rfl rfl rfl rfl (trivial) ?_
  refine k_wsum X54 (show zA 65 19 from fun _ S => ⟨zT S (by decide) rfl, zN S (by decide) rfl⟩) (show zA 44 288 from fun _ S => ⟨zT S (by decide) rfl, zN S (by decide) rfl⟩) (by decide) (fun x64  => ?_)
  have rx64 := z_rng x64
  first | refine z_add (by omega) (fun x65 ex65 => ?_) | refine z_addW (fun x65 ex65 => ?_)
  have rx65 := z_rng x65
  refine z_ri ?_
  have t66 := congrArg Int32.toInt f56
  exact K _ x65 F55 X54
set_option maxRecDepth 4000 in
set_option maxHeartbeats 20000000 in
theorem k_hwrite_L {E : Nat → Nat × (Nat → Int32)} {d : Nat} {Q : ez_Q} {h : ez_H}  (X : xI h) (hE : zE E) (K : ∀ h2, zF (zX) h h2 → xI h2 → Q (.inl none) h2) : ∀ N : Nat, (∀ (h2 : ez_H) (i : Int32), zF (zX) h h2 → xI h2 → (0 ≤ i.toInt) → (12147483647 - i.toInt) < (N : Int) → pw E (d + 3) 90 37 [some (.ref 61), some (.ref 43), some (.ref 68), some (.int i)] [] h2 Q) ∧ (∀ (h2 : ez_H) (i : Int32), zF (zX) h h2 → xI h2 → (0 ≤ i.toInt) → (2147483647 - i.toInt) < (N : Int) → pw E (d + 3) 90 74 [some (.ref 61), some (.ref 43), some (.ref 68), some (.int i)] [] h2 Q) := by
  intro N
  induction N with
  | zero => exact ⟨fun h2 i F X2 hinv hm => absurd hm (by have w0 := z_rng i; omega), fun h2 i F X2 hinv hm => absurd hm (by have w0 := z_rng i; omega)⟩
  | succ N ih =>
    refine ⟨fun h2 i F X2 hinv hm => ?_, fun h2 i F X2 hinv hm => ?_⟩
    · skip
      have w0 := z_rng i
      apply ez_Wp_in
      show ez_gw _ _ _ _ _ _ (cz_90) _ _ _ _ _
      refine gw_skip _ ?_
      refine gw_ld rfl rfl ?_
      refine gw_ld rfl rfl ?_
      have r1 := z_rng ((ez_I h2 61 7))
      refine z_gI2 (by decide) (zT X2.1 (by decide) rfl) (rfl) ?_
      refine z_b2 (fun c2 => ?_) (fun c2 => ?_)
      · have c2 : ((ez_I h2 61 7)).toInt ≤ i.toInt := c2
        refine gw_skip _ ?_
        refine z_C (m := 0) rfl rfl (fun x3 ex3 => ?_)
        refine gw_st rfl rfl rfl ?_
        show ez_gw _ _ _ _ _ _ _ _ [some (.ref 61), some (.ref 43), some (.ref 68), some (.int x3)] _ _ _
        exact ez_Wp_out (ih.2 _ x3 F X2 (by first | trivial | omega) (by omega))
      · have c2 : ¬ (((ez_I h2 61 7)).toInt ≤ i.toInt) := c2
        refine gw_ld rfl rfl ?_
        refine z_C (m := 19) rfl rfl (fun x4 ex4 => ?_)
        refine z_b2 (fun c5 => ?_) (fun c5 => ?_)
        · have c5 : x4.toInt ≤ i.toInt := c5
          refine gw_skip _ ?_
          refine z_C (m := 0) rfl rfl (fun x6 ex6 => ?_)
          refine gw_st rfl rfl rfl ?_
          show ez_gw _ _ _ _ _ _ _ _ [some (.ref 61), some (.ref 43), some (.ref 68), some (.int x6)] _ _ _
          exact ez_Wp_out (ih.2 _ x6 F X2 (by first | trivial | omega) (by omega))
        · have c5 : ¬ (x4.toInt ≤ i.toInt) := c5
          refine gw_ld rfl rfl ?_
          refine gw_ld rfl rfl ?_
          refine z_gR (q := 44) (zT X2.1 (by decide) rfl) (zRf X2.1 (by decide) (by decide) rfl) (by decide) ?_
          refine z_gs ?_
          refine gw_ld rfl rfl ?_
          refine z_iaE (n := 19) (hE 7) (by omega) ?_
          generalize ex7 : (tz_ar (7 + 1)).getD i.toInt.toNat 0 = x7
          have rx7 := z_rng x7
          have qx7 := congrArg Int32.toInt ex7
          have ox7 := z_ord (n := i.toInt.toNat) (by omega)
          rw [ex7] at ox7
          refine z_ia (n := 288) (zT X2.1 (by decide) rfl) (zN X2.1 (by decide) rfl) (by omega) ?_
          generalize ex8 : ez_I h2 44 x7.toInt.toNat = x8
          have rx8 := z_rng x8
          have qx8 := congrArg Int32.toInt ex8
          refine z_C (m := 3) rfl rfl (fun x9 ex9 => ?_)
          refine z_cl rfl rfl rfl rfl rfl rfl rfl rfl rfl rfl rfl (zT X2.1 (by decide) rfl) ?_
          refine k_putBits X2  (fun h10 F11 X12  => ?_)
          have F13 := zF_tr F (zF_mono F11 (fun q hq => by first | exact hq | (unfold zX at *; omega) | omega))
          have f14 : ez_I h10 61 7 = (ez_I h2 61 7) := zF_I F11 (by omega) (rfl)
          first | (refine z_inc rfl (by rw [show (1 : Int32).toInt = 1 from rfl]; omega) (fun x15 ex15 => ?_); rw [show (1 : Int32).toInt = 1 from rfl] at ex15) | refine z_incW rfl (fun x15 ex15 => ?_)
          have rx15 := z_rng x15
          show ez_gw _ _ _ _ _ _ _ _ [some (.ref 61), some (.ref 43), some (.ref 68), some (.int x15)] _ _ _
          refine z_go ?_
          have t16 := congrArg Int32.toInt f14
          exact ih.1 _ x15 F13 X12 (by first | trivial | omega) (by omega)
    · skip
      have w0 := z_rng i
      apply ez_Wp_in
      show ez_gw _ _ _ _ _ _ (cz_90) _ _ _ _ _
      refine gw_skip _ ?_
      refine gw_ld rfl rfl ?_
      refine gw_ld rfl rfl ?_
      have r17 := X2.2.2.2.2.2.2
      refine z_gI2 (by decide) (zT X2.1 (by decide) rfl) (rfl) ?_
      refine z_b2 (fun c18 => ?_) (fun c18 => ?_)
      · have c18 : ((ez_I h2 61 5)).toInt ≤ i.toInt := c18
        refine gw_skip _ ?_
        refine z_rv ?_
        exact K _ F X2
      · have c18 : ¬ (((ez_I h2 61 5)).toInt ≤ i.toInt) := c18
        refine gw_ld rfl rfl ?_
        refine gw_ld rfl rfl ?_
        refine gw_ld rfl rfl ?_
        refine z_gR (q := 63) (zT X2.1 (by decide) rfl) (zRf X2.1 (by decide) (by decide) rfl) (by decide) ?_
        refine gw_ld rfl rfl ?_
        refine z_ia (n := 316) (zT X2.1 (by decide) rfl) (zN X2.1 (by decide) rfl) (by omega) ?_
        generalize ex19 : ez_I h2 63 i.toInt.toNat = x19
        have rx19 := z_rng x19
        have qx19 := congrArg Int32.toInt ex19
        refine z_cl rfl rfl rfl rfl rfl rfl rfl rfl rfl rfl rfl (zT X2.1 (by decide) rfl) ?_
        refine k_putSymbol X2 (p := 43) (by omega) (fun h20 F21 X22  => ?_)
        have F23 := zF_tr F (zF_mono F21 (fun q hq => by first | exact hq | (unfold zX at *; omega) | omega))
        have f24 : ez_I h20 61 5 = (ez_I h2 61 5) := zF_I F21 (by omega) (rfl)
        refine gw_ld rfl rfl ?_
        refine gw_ld rfl rfl ?_
        refine z_gR (q := 64) (zT X22.1 (by decide) rfl) (zRf X22.1 (by decide) (by decide) rfl) (by decide) ?_
        refine gw_ld rfl rfl ?_
        refine z_ia (n := 316) (zT X22.1 (by decide) rfl) (zN X22.1 (by decide) rfl) (by omega) ?_
        generalize ex25 : ez_I h20 64 i.toInt.toNat = x25
        have rx25 := z_rng x25
        have qx25 := congrArg Int32.toInt ex25
        refine gw_ld rfl rfl ?_
        refine z_gR (q := 63) (zT X22.1 (by decide) rfl) (zRf X22.1 (by decide) (by decide) rfl) (by decide) ?_
        refine gw_ld rfl rfl ?_
        refine z_ia (n := 316) (zT X22.1 (by decide) rfl) (zN X22.1 (by decide) rfl) (by omega) ?_
        generalize ex26 : ez_I h20 63 i.toInt.toNat = x26
        have rx26 := z_rng x26
        have qx26 := congrArg Int32.toInt ex26
        refine z_cl rfl rfl rfl rfl rfl rfl rfl rfl rfl rfl rfl (trivial) ?_
        refine k_xbo X22 hE (fun x27  => ?_)
        have rx27 := z_rng x27
        refine z_cl rfl rfl rfl rfl rfl rfl rfl rfl rfl rfl rfl (zT X22.1 (by decide) rfl) ?_
        refine k_putBits X22  (fun h28 F29 X30  => ?_)
        have F31 := zF_tr F23 (zF_mono F29 (fun q hq => by first | exact hq | (unfold zX at *; omega) | omega))
        have f32 : ez_I h28 61 5 = (ez_I h2 61 5) := zF_I F29 (by omega) (f24)
        first | (refine z_inc rfl (by rw [show (1 : Int32).toInt = 1 from rfl]; omega) (fun x33 ex33 => ?_); rw [show (1 : Int32).toInt = 1 from rfl] at ex33) | refine z_incW rfl (fun x33 ex33 => ?_)
        have rx33 := z_rng x33
        show ez_gw _ _ _ _ _ _ _ _ [some (.ref 61), some (.ref 43), some (.ref 68), some (.int x33)] _ _ _
        refine z_go ?_
        have t34 := congrArg Int32.toInt f32
        exact ih.2 _ x33 F31 X30 (by first | trivial | omega) (by omega)
set_option maxRecDepth 4000 in
set_option maxHeartbeats 20000000 in
theorem k_hwrite {E : Nat → Nat × (Nat → Int32)} {d : Nat} {Q : ez_Q} {h : ez_H}  (X : xI h) (hE : zE E) (K : ∀ h2, zF (zX) h h2 → xI h2 → Q (.inl none) h2) : pw E (d + 3) 90 0 [some (.ref 61), some (.ref 43), some (.ref 68), none] [] h Q := by
  have F := zF_refl (zX) h
  apply ez_Wp_in
  show ez_gw _ _ _ _ _ _ (cz_90) _ _ _ _ _
  refine gw_skip _ ?_
  refine gw_ld rfl rfl ?_
  refine gw_ld rfl rfl ?_
  have r1 := z_rng ((ez_I h 61 1))
  refine z_gI2 (by decide) (zT X.1 (by decide) rfl) (rfl) ?_
  refine z_C (m := 257) rfl rfl (fun x2 ex2 => ?_)
  first | refine z_sub (by omega) (fun x3 ex3 => ?_) | refine z_subW (fun x3 ex3 => ?_)
  have rx3 := z_rng x3
  refine z_C (m := 5) rfl rfl (fun x4 ex4 => ?_)
  refine z_cl rfl rfl rfl rfl rfl rfl rfl rfl rfl rfl rfl (zT X.1 (by decide) rfl) ?_
  refine k_putBits X  (fun h5 F6 X7  => ?_)
  have F8 := zF_tr F (zF_mono F6 (fun q hq => by first | exact hq | (unfold zX at *; omega) | omega))
  have f9 : ez_I h5 61 1 = (ez_I h 61 1) := zF_I F6 (by omega) (rfl)
  refine gw_ld rfl rfl ?_
  refine gw_ld rfl rfl ?_
  have r10 := z_rng ((ez_I h5 61 2))
  refine z_gI2 (by decide) (zT X7.1 (by decide) rfl) (rfl) ?_
  refine z_C (m := 1) rfl rfl (fun x11 ex11 => ?_)
  first | refine z_sub (by omega) (fun x12 ex12 => ?_) | refine z_subW (fun x12 ex12 => ?_)
  have rx12 := z_rng x12
  refine z_C (m := 5) rfl rfl (fun x13 ex13 => ?_)
  refine z_cl rfl rfl rfl rfl rfl rfl rfl rfl rfl rfl rfl (zT X7.1 (by decide) rfl) ?_
  refine k_putBits X7  (fun h14 F15 X16  => ?_)
  have F17 := zF_tr F8 (zF_mono F15 (fun q hq => by first | exact hq | (unfold zX at *; omega) | omega))
  have f18 : ez_I h14 61 1 = (ez_I h 61 1) := zF_I F15 (by omega) (f9)
  have f19 : ez_I h14 61 2 = (ez_I h5 61 2) := zF_I F15 (by omega) (rfl)
  refine gw_ld rfl rfl ?_
  refine gw_ld rfl rfl ?_
  have r20 := z_rng ((ez_I h14 61 7))
  refine z_gI2 (by decide) (zT X16.1 (by decide) rfl) (rfl) ?_
  refine z_C (m := 4) rfl rfl (fun x21 ex21 => ?_)
  first | refine z_sub (by omega) (fun x22 ex22 => ?_) | refine z_subW (fun x22 ex22 => ?_)
  have rx22 := z_rng x22
  refine z_C (m := 4) rfl rfl (fun x23 ex23 => ?_)
  refine z_cl rfl rfl rfl rfl rfl rfl rfl rfl rfl rfl rfl (zT X16.1 (by decide) rfl) ?_
  refine k_putBits X16  (fun h24 F25 X26  => ?_)
  have F27 := zF_tr F17 (zF_mono F25 (fun q hq => by first | exact hq | (unfold zX at *; omega) | omega))
  have f28 : ez_I h24 61 1 = (ez_I h 61 1) := zF_I F25 (by omega) (f18)
  have f29 : ez_I h24 61 2 = (ez_I h5 61 2) := zF_I F25 (by omega) (f19)
  have f30 : ez_I h24 61 7 = (ez_I h14 61 7) := zF_I F25 (by omega) (rfl)
  refine z_C (m := 0) rfl rfl (fun x31 ex31 => ?_)
  refine gw_st rfl rfl rfl ?_
  show ez_gw _ _ _ _ _ _ _ _ [some (.ref 61), some (.ref 43), some (.ref 68), some (.int x31)] _ _ _
  have t32 := congrArg Int32.toInt f28
  have t33 := congrArg Int32.toInt f29
  have t34 := congrArg Int32.toInt f30
  exact ez_Wp_out ((k_hwrite_L X hE K (((12147483647 - x31.toInt)).toNat + 1)).1 _ x31 F27 X26 (by first | trivial | omega) (by omega))
