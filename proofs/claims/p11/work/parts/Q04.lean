/-! PRINTED by wip/pack: the class: codes -/
set_option maxRecDepth 4000 in
set_option maxHeartbeats 20000000 in
theorem c_coded {E : Nat → Nat × (Nat → Int32)} {d : Nat} {Q : ez_Q} {h : ez_H} {p : Nat} {i : Int32} (S : zSh h) (hp : p = 15 ∨ p = 22 ∨ p = 29 ∨ p = 36 ∨ p = 43) (hL : aR (ez_I h (p + 1)) 288 0 15) (hi : 0 ≤ i.toInt ∧ i.toInt < 288) (K : ∀ x : Int32, (x.toInt = 1 ∧ 1 ≤ (ez_I h (p + 1) i.toInt.toNat).toInt ∧ (ez_I h (p + 1) i.toInt.toNat).toInt ≤ 15 ∨ x.toInt = 0 ∧ (ez_I h (p + 1) i.toInt.toNat).toInt = 0) → Q (.inl (some (.int x))) h) : pw E d 85 0 [some (.ref p), some (.int i)] [] h Q := by
  have gi := z_rng i
  have F := zW_refl (fun _ _ => False) (fun _ => False) (fun _ => False) h
  apply ez_Wp_in
  show ez_gw _ _ _ _ _ _ (cz_85) _ _ _ _ _
  refine gw_skip _ ?_
  refine gw_ld rfl rfl ?_
  refine z_gR (q := (p + 1)) ((zCode S hp).1) ((zCode S hp).2.1.1) (by omega) ?_
  refine gw_ld rfl rfl ?_
  refine z_iaV (n := 288) ((zCode S hp).2.2.1.1) ((zCode S hp).2.2.2.1) (by omega) (zW_f F (fun c => c) (fun c => c)) ?_
  generalize ex1 : ez_I h (p + 1) i.toInt.toNat = x1
  have rx1 := z_rng x1
  have yx1 := hL i.toInt.toNat (by omega)
  rw [ex1] at yx1
  refine z_b1 (fun c2 => ?_) (fun c2 => ?_)
  · have c2 : x1.toInt ≤ 0 := c2
    refine gw_skip _ ?_
    refine z_C (m := 0) rfl rfl (fun x3 ex3 => ?_)
    refine z_rz (by omega) ?_
    exact zW_Q F (K _ (by rw [ex1]; omega))
  · have c2 : ¬ (x1.toInt ≤ 0) := c2
    refine gw_ld rfl rfl ?_
    refine z_gR (q := (p + 1)) ((zCode S hp).1) ((zCode S hp).2.1.1) (by omega) ?_
    refine gw_ld rfl rfl ?_
    refine z_iaV (n := 288) ((zCode S hp).2.2.1.1) ((zCode S hp).2.2.2.1) (by omega) ((zW_f F (fun c => c) (fun c => c)).trans ex1) ?_
    refine z_C (m := 15) rfl rfl (fun x5 ex5 => ?_)
    refine z_b2 (fun c6 => ?_) (fun c6 => ?_)
    · have c6 : x5.toInt < x1.toInt := c6
      refine gw_skip _ ?_
      refine z_C (m := 0) rfl rfl (fun x7 ex7 => ?_)
      refine z_rz (by omega) ?_
      exact zW_Q F (K _ (by rw [ex1]; omega))
    · have c6 : ¬ (x5.toInt < x1.toInt) := c6
      refine z_C (m := 1) rfl rfl (fun x8 ex8 => ?_)
      refine z_go ?_
      refine gw_skip _ ?_
      refine z_rz (by omega) ?_
      exact zW_Q F (K _ (by rw [ex1]; omega))
set_option maxRecDepth 4000 in
set_option maxHeartbeats 20000000 in
theorem c_turned_L0 {E : Nat → Nat × (Nat → Int32)} {d : Nat} {Q : ez_Q} {h : ez_H} {a : Int32} {b : Int32} (S : zSh h) (ha : 0 ≤ a.toInt) (hb : 0 ≤ b.toInt ∧ b.toInt ≤ 15) (K : ∀ x : Int32, x.toInt = (rvN a.toInt.toNat b.toInt.toNat : Nat) → Q (.inl (some (.int x))) h) : ∀ N : Nat, (∀ (h2 : ez_H) (t : Int32) (i : Int32) , zW (fun _ _ => False) (fun _ => False) (fun _ => False) h h2 → (0 ≤ i.toInt ∧ i.toInt ≤ b.toInt ∧ t.toInt = (rvN a.toInt.toNat i.toInt.toNat : Nat)) → (100 - i.toInt) < (N : Int) → pw E d 87 4 [some (.int a), some (.int b), some (.int t), some (.int i)] [] h2 Q) := by
  intro N
  induction N with
  | zero => exact fun h2 t i  F hinv  hm => absurd hm (by have w_t := z_rng t; have w_i := z_rng i; have ga := z_rng a; have gb := z_rng b; omega)
  | succ N ih =>
    refine fun h2 t i  F hinv  hm => ?_
    · skip
      have w_t := z_rng t
      have w_i := z_rng i
      have ga := z_rng a
      have gb := z_rng b
      have S2 := zW_sh F S
      have hrl := rvN_lt a.toInt.toNat i.toInt.toNat
      have hrp : (2 : Nat) ^ i.toInt.toNat ≤ 2 ^ 15 := Nat.pow_le_pow_right (by decide) (by omega)
      apply ez_Wp_in
      show ez_gw _ _ _ _ _ _ (cz_87) _ _ _ _ _
      refine gw_skip _ ?_
      refine gw_ld rfl rfl ?_
      refine gw_ld rfl rfl ?_
      refine z_b2 (fun c1 => ?_) (fun c1 => ?_)
      · have c1 : b.toInt ≤ i.toInt := c1
        refine gw_skip _ ?_
        refine gw_ld rfl rfl ?_
        refine z_ri ?_
        exact zW_Q F (K _ (by rw [show b.toInt.toNat = i.toInt.toNat by omega]; omega))
      · have c1 : ¬ (b.toInt ≤ i.toInt) := c1
        refine gw_ld rfl rfl ?_
        refine z_C (m := 1) rfl rfl (fun x2 ex2 => ?_)
        refine z_2 rfl (fun x3 ex3 => ?_)
        have rx3 := z_rng x3
        have vx3 := n_shl (n := 1) (by omega) (by decide) (by omega) (by omega) ex3
        rw [show (2 : Int) ^ 1 = 2 from rfl] at vx3
        refine gw_ld rfl rfl ?_
        refine gw_ld rfl rfl ?_
        refine z_2 rfl (fun x4 ex4 => ?_)
        have rx4 := z_rng x4
        have vx4 := n_shr (n := i.toInt.toNat) (by omega) (by omega) ex4
        refine z_C (m := 1) rfl rfl (fun x5 ex5 => ?_)
        refine z_and (fun x6 ex6 ux6 wx6 => ?_)
        have rx6 := z_rng x6
        replace ux6 := ux6 (by omega)
        clear wx6
        have vx6 := n_mask (k := 1) (by decide) (by omega) ex6
        rw [show (2 : Int) ^ 1 = 2 from rfl, vx4, n_bit ha] at vx6
        refine z_2 rfl (fun x7 ex7 => ?_)
        have rx7 := z_rng x7
        have vx7 := n_or (n := 1) (a := t.toInt) (by omega) (by omega) (by omega) (by omega) ex7
        refine gw_st rfl rfl rfl ?_
        show ez_gw _ _ _ _ _ _ _ _ [some (.int a), some (.int b), some (.int x7), some (.int i)] _ _ _
        refine z_inc rfl (by rw [show (1 : Int32).toInt = 1 from rfl]; omega) (fun x8 ex8 => ?_)
        rw [show (1 : Int32).toInt = 1 from rfl] at ex8
        show ez_gw _ _ _ _ _ _ _ _ [some (.int a), some (.int b), some (.int x7), some (.int x8)] _ _ _
        refine z_go ?_
        exact ih h2 x7 x8 F (⟨by omega, by omega, by rw [show x8.toInt.toNat = i.toInt.toNat + 1 by omega]; show _ = ((2 * rvN a.toInt.toNat i.toInt.toNat + a.toInt.toNat / 2 ^ i.toInt.toNat % 2 : Nat) : Int); omega⟩)  (by omega)
set_option maxRecDepth 4000 in
set_option maxHeartbeats 20000000 in
theorem c_turned {E : Nat → Nat × (Nat → Int32)} {d : Nat} {Q : ez_Q} {h : ez_H} {a : Int32} {b : Int32} (S : zSh h) (ha : 0 ≤ a.toInt) (hb : 0 ≤ b.toInt ∧ b.toInt ≤ 15) (K : ∀ x : Int32, x.toInt = (rvN a.toInt.toNat b.toInt.toNat : Nat) → Q (.inl (some (.int x))) h) : pw E d 87 0 [some (.int a), some (.int b), none, none] [] h Q := by
  have ga := z_rng a
  have gb := z_rng b
  have F := zW_refl (fun _ _ => False) (fun _ => False) (fun _ => False) h
  apply ez_Wp_in
  show ez_gw _ _ _ _ _ _ (cz_87) _ _ _ _ _
  refine gw_skip _ ?_
  refine z_C (m := 0) rfl rfl (fun x1 ex1 => ?_)
  refine gw_st rfl rfl rfl ?_
  show ez_gw _ _ _ _ _ _ _ _ [some (.int a), some (.int b), some (.int x1), none] _ _ _
  refine z_C (m := 0) rfl rfl (fun x2 ex2 => ?_)
  refine gw_st rfl rfl rfl ?_
  show ez_gw _ _ _ _ _ _ _ _ [some (.int a), some (.int b), some (.int x1), some (.int x2)] _ _ _
  exact ez_Wp_at ((c_turned_L0 (a := a) (b := b) S ha hb K (((100 - x2.toInt)).toNat + 1)) h x1 x2 F (⟨by omega, by omega, by rw [show x2.toInt.toNat = 0 by omega]; show _ = ((0 : Nat) : Int); omega⟩)  (by omega)) rfl
set_option maxRecDepth 4000 in
set_option maxHeartbeats 20000000 in
theorem c_setS {E : Nat → Nat × (Nat → Int32)} {d : Nat} {Q : ez_Q} {h : ez_H} {p : Nat} {i : Int32} {l : Int32} (S : zSh h) (hp : p = 15 ∨ p = 22 ∨ p = 29 ∨ p = 36 ∨ p = 43) (hi : 0 ≤ i.toInt ∧ i.toInt < 288) (hl : 1 ≤ l.toInt ∧ l.toInt ≤ 15) (hw : 0 ≤ (ez_I h (p + 5) l.toInt.toNat).toInt ∧ (ez_I h (p + 5) l.toInt.toNat).toInt ≤ 50000000) (hq : 0 ≤ (ez_I h (p + 6) l.toInt.toNat).toInt ∧ (ez_I h (p + 6) l.toInt.toNat).toInt < 288) (K : ∀ h2, zW (fun _ _ => False) (fun q => q = (p + 2) ∨ q = (p + 4) ∨ q = (p + 5) ∨ q = (p + 6)) (fun _ => False) h h2 → ((ez_I h2 (p + 2) i.toInt.toNat).toInt = (rvN (ez_I h (p + 5) l.toInt.toNat).toInt.toNat l.toInt.toNat : Nat) ∧ ∀ k, k ≠ i.toInt.toNat → ez_I h2 (p + 2) k = ez_I h (p + 2) k) → ((ez_I h2 (p + 5) l.toInt.toNat).toInt = (ez_I h (p + 5) l.toInt.toNat).toInt + 1 ∧ ∀ k, k ≠ l.toInt.toNat → ez_I h2 (p + 5) k = ez_I h (p + 5) k) → (ez_I h2 (p + 4) (ez_I h (p + 6) l.toInt.toNat).toInt.toNat = i ∧ ∀ k, k ≠ (ez_I h (p + 6) l.toInt.toNat).toInt.toNat → ez_I h2 (p + 4) k = ez_I h (p + 4) k) → ((ez_I h2 (p + 6) l.toInt.toNat).toInt = (ez_I h (p + 6) l.toInt.toNat).toInt + 1 ∧ ∀ k, k ≠ l.toInt.toNat → ez_I h2 (p + 6) k = ez_I h (p + 6) k) → Q (.inl none) h2) : pw E (d + 1) 86 0 [some (.ref p), some (.int i), some (.int l), none] [] h Q := by
  have gi := z_rng i
  have gl := z_rng l
  have F := zW_refl (fun _ _ => False) (fun q => q = (p + 2) ∨ q = (p + 4) ∨ q = (p + 5) ∨ q = (p + 6)) (fun _ => False) h
  apply ez_Wp_in
  show ez_gw _ _ _ _ _ _ (cz_86) _ _ _ _ _
  refine gw_skip _ ?_
  refine gw_ld rfl rfl ?_
  refine z_gR (q := (p + 6)) ((zCode S hp).1) ((zCode S hp).2.1.2.2.2.2.2) (by omega) ?_
  refine gw_ld rfl rfl ?_
  refine z_iaV (n := 16) ((zCode S hp).2.2.1.2.2.2.2.2) ((zCode S hp).2.2.2.2.2.2.2.2) (by omega) (congrFun rfl _) ?_
  generalize ex1 : ez_I h (p + 6) l.toInt.toNat = x1
  have rx1 := z_rng x1
  rw [ex1] at hq
  refine gw_st rfl rfl rfl ?_
  show ez_gw _ _ _ _ _ _ _ _ [some (.ref p), some (.int i), some (.int l), some (.int x1)] _ _ _
  refine gw_ld rfl rfl ?_
  refine z_gR (q := (p + 2)) ((zCode S hp).1) ((zCode S hp).2.1.2.1) (by omega) ?_
  refine gw_ld rfl rfl ?_
  refine gw_ld rfl rfl ?_
  refine z_gR (q := (p + 5)) ((zCode S hp).1) ((zCode S hp).2.1.2.2.2.2.1) (by omega) ?_
  refine gw_ld rfl rfl ?_
  refine z_iaV (n := 16) ((zCode S hp).2.2.1.2.2.2.2.1) ((zCode S hp).2.2.2.2.2.2.2.1) (by omega) (congrFun rfl _) ?_
  generalize ex2 : ez_I h (p + 5) l.toInt.toNat = x2
  have rx2 := z_rng x2
  rw [ex2] at hw
  refine gw_ld rfl rfl ?_
  refine z_cl rfl rfl rfl rfl rfl rfl rfl rfl rfl rfl rfl (trivial) ?_
  refine c_turned (a := x2) (b := l) S (by omega) (by omega) (fun x3 k4 => ?_)
  have rx3 := z_rng x3
  refine z_is (n := 288) ((zCode S hp).2.2.1.2.1) ((zCode S hp).2.2.2.2.1) (by omega) (fun h5 e6 => ?_)
  have S7 := zSh_set S e6
  have F8 := zW_setA F e6 (by omega)
  have A9 : ez_I h5 (p + 4) = ez_I h (p + 4) := by rw [zI_fn e6 (p + 4) (by omega)]
  have A10 : ez_I h5 (p + 5) = ez_I h (p + 5) := by rw [zI_fn e6 (p + 5) (by omega)]
  have A11 : ez_I h5 (p + 6) = ez_I h (p + 6) := by rw [zI_fn e6 (p + 6) (by omega)]
  have A12 : ((ez_I h5 (p + 2) i.toInt.toNat).toInt = (rvN (ez_I h (p + 5) l.toInt.toNat).toInt.toNat l.toInt.toNat : Nat) ∧ ∀ k, k ≠ i.toInt.toNat → ez_I h5 (p + 2) k = ez_I h (p + 2) k) := ⟨by rw [zI_eq e6, ex2]; exact k4, fun k hk => zI_ne e6 (by omega)⟩
  refine gw_ld rfl rfl ?_
  refine z_gR (q := (p + 5)) ((zCode S7 hp).1) ((zCode S7 hp).2.1.2.2.2.2.1) (by omega) ?_
  refine gw_ld rfl rfl ?_
  refine gw_op rfl ?_
  refine z_iaV (n := 16) ((zCode S7 hp).2.2.1.2.2.2.2.1) ((zCode S7 hp).2.2.2.2.2.2.2.1) (by omega) ((congrFun A10 _).trans ex2) ?_
  refine z_C (m := 1) rfl rfl (fun x14 ex14 => ?_)
  refine z_add (by omega) (fun x15 ex15 => ?_)
  refine z_is (n := 16) ((zCode S7 hp).2.2.1.2.2.2.2.1) ((zCode S7 hp).2.2.2.2.2.2.2.1) (by omega) (fun h16 e17 => ?_)
  have S18 := zSh_set S7 e17
  have F19 := zW_setA F8 e17 (by omega)
  have A20 : ez_I h16 (p + 4) = ez_I h (p + 4) := by rw [zI_fn e17 (p + 4) (by omega)]; exact A9
  have A21 : ez_I h16 (p + 6) = ez_I h (p + 6) := by rw [zI_fn e17 (p + 6) (by omega)]; exact A11
  have A22 : ((ez_I h16 (p + 2) i.toInt.toNat).toInt = (rvN (ez_I h (p + 5) l.toInt.toNat).toInt.toNat l.toInt.toNat : Nat) ∧ ∀ k, k ≠ i.toInt.toNat → ez_I h16 (p + 2) k = ez_I h (p + 2) k) := by rw [zI_fn e17 (p + 2) (by omega)]; exact A12
  have A23 : ((ez_I h16 (p + 5) l.toInt.toNat).toInt = (ez_I h (p + 5) l.toInt.toNat).toInt + 1 ∧ ∀ k, k ≠ l.toInt.toNat → ez_I h16 (p + 5) k = ez_I h (p + 5) k) := ⟨by rw [zI_eq e17, ex2]; omega, fun k hk => (zI_ne e17 (by omega)).trans (congrFun A10 k)⟩
  clear A9
  clear A11
  clear A12
  refine gw_ld rfl rfl ?_
  refine z_b1 (fun c24 => ?_) (fun c24 => ?_)
  · have c24 : x1.toInt < 0 := c24
    refine gw_skip _ ?_
    refine z_rv ?_
    exfalso; omega
  · have c24 : ¬ (x1.toInt < 0) := c24
    refine gw_ld rfl rfl ?_
    refine gw_ld rfl rfl ?_
    refine z_gR (q := (p + 4)) ((zCode S18 hp).1) ((zCode S18 hp).2.1.2.2.2.1) (by omega) ?_
    refine z_al (n := 288) (.inl ((zCode S18 hp).2.2.1.2.2.2.1)) ((zCode S18 hp).2.2.2.2.2.2.1) (by omega) (fun x25 ex25 => ?_)
    refine z_b2 (fun c26 => ?_) (fun c26 => ?_)
    · have c26 : x25.toInt ≤ x1.toInt := c26
      refine gw_skip _ ?_
      refine z_rv ?_
      exfalso; omega
    · have c26 : ¬ (x25.toInt ≤ x1.toInt) := c26
      refine gw_ld rfl rfl ?_
      refine z_gR (q := (p + 4)) ((zCode S18 hp).1) ((zCode S18 hp).2.1.2.2.2.1) (by omega) ?_
      refine gw_ld rfl rfl ?_
      refine gw_ld rfl rfl ?_
      refine z_is (n := 288) ((zCode S18 hp).2.2.1.2.2.2.1) ((zCode S18 hp).2.2.2.2.2.2.1) (by omega) (fun h27 e28 => ?_)
      have S29 := zSh_set S18 e28
      have F30 := zW_setA F19 e28 (by omega)
      have A31 : ez_I h27 (p + 6) = ez_I h (p + 6) := by rw [zI_fn e28 (p + 6) (by omega)]; exact A21
      have A32 : ((ez_I h27 (p + 2) i.toInt.toNat).toInt = (rvN (ez_I h (p + 5) l.toInt.toNat).toInt.toNat l.toInt.toNat : Nat) ∧ ∀ k, k ≠ i.toInt.toNat → ez_I h27 (p + 2) k = ez_I h (p + 2) k) := by rw [zI_fn e28 (p + 2) (by omega)]; exact A22
      have A33 : ((ez_I h27 (p + 5) l.toInt.toNat).toInt = (ez_I h (p + 5) l.toInt.toNat).toInt + 1 ∧ ∀ k, k ≠ l.toInt.toNat → ez_I h27 (p + 5) k = ez_I h (p + 5) k) := by rw [zI_fn e28 (p + 5) (by omega)]; exact A23
      have A34 : (ez_I h27 (p + 4) (ez_I h (p + 6) l.toInt.toNat).toInt.toNat = i ∧ ∀ k, k ≠ (ez_I h (p + 6) l.toInt.toNat).toInt.toNat → ez_I h27 (p + 4) k = ez_I h (p + 4) k) := ⟨by rw [ex1]; exact zI_eq e28, fun k hk => (zI_ne e28 (by rw [ex1] at hk; omega)).trans (congrFun A20 k)⟩
      clear A21
      clear A22
      clear A23
      refine gw_ld rfl rfl ?_
      refine z_gR (q := (p + 6)) ((zCode S29 hp).1) ((zCode S29 hp).2.1.2.2.2.2.2) (by omega) ?_
      refine gw_ld rfl rfl ?_
      refine gw_op rfl ?_
      refine z_iaV (n := 16) ((zCode S29 hp).2.2.1.2.2.2.2.2) ((zCode S29 hp).2.2.2.2.2.2.2.2) (by omega) ((congrFun A31 _).trans ex1) ?_
      refine z_C (m := 1) rfl rfl (fun x36 ex36 => ?_)
      refine z_add (by omega) (fun x37 ex37 => ?_)
      refine z_is (n := 16) ((zCode S29 hp).2.2.1.2.2.2.2.2) ((zCode S29 hp).2.2.2.2.2.2.2.2) (by omega) (fun h38 e39 => ?_)
      have S40 := zSh_set S29 e39
      have F41 := zW_setA F30 e39 (by omega)
      have A42 : ((ez_I h38 (p + 2) i.toInt.toNat).toInt = (rvN (ez_I h (p + 5) l.toInt.toNat).toInt.toNat l.toInt.toNat : Nat) ∧ ∀ k, k ≠ i.toInt.toNat → ez_I h38 (p + 2) k = ez_I h (p + 2) k) := by rw [zI_fn e39 (p + 2) (by omega)]; exact A32
      have A43 : ((ez_I h38 (p + 5) l.toInt.toNat).toInt = (ez_I h (p + 5) l.toInt.toNat).toInt + 1 ∧ ∀ k, k ≠ l.toInt.toNat → ez_I h38 (p + 5) k = ez_I h (p + 5) k) := by rw [zI_fn e39 (p + 5) (by omega)]; exact A33
      have A44 : (ez_I h38 (p + 4) (ez_I h (p + 6) l.toInt.toNat).toInt.toNat = i ∧ ∀ k, k ≠ (ez_I h (p + 6) l.toInt.toNat).toInt.toNat → ez_I h38 (p + 4) k = ez_I h (p + 4) k) := by rw [zI_fn e39 (p + 4) (by omega)]; exact A34
      have A45 : ((ez_I h38 (p + 6) l.toInt.toNat).toInt = (ez_I h (p + 6) l.toInt.toNat).toInt + 1 ∧ ∀ k, k ≠ l.toInt.toNat → ez_I h38 (p + 6) k = ez_I h (p + 6) k) := ⟨by rw [zI_eq e39, ex1]; omega, fun k hk => (zI_ne e39 (by omega)).trans (congrFun A31 k)⟩
      clear A32
      clear A33
      clear A34
      refine z_rv ?_
      exact K _ F41 A42 A43 A44 A45
set_option maxRecDepth 4000 in
set_option maxHeartbeats 20000000 in
theorem c_settle_L2 {E : Nat → Nat × (Nat → Int32)} {d : Nat} {Q : ez_Q} {h : ez_H} {p : Nat} (S : zSh h) (hp : p = 15 ∨ p = 22 ∨ p = 29 ∨ p = 36 ∨ p = 43) (hL : aR (ez_I h (p + 1)) 288 0 15) (K : ∀ h2, zW (fun q k => q = p ∧ k = 4) (fun q => q = (p + 2) ∨ q = (p + 3) ∨ q = (p + 4) ∨ q = (p + 5) ∨ q = (p + 6)) (fun _ => False) h h2 → ctC (ez_I h2 (p + 3)) (nL (ez_I h (p + 1))) 288 → (ez_I h2 p 4).toInt = (plN (nL (ez_I h (p + 1))) 288 16 : Nat) → wdI (ez_I h2 (p + 2)) (nL (ez_I h (p + 1))) 288 288 → itI (ez_I h2 (p + 4)) (nL (ez_I h (p + 1))) 288 288 → Q (.inl none) h2) : ∀ N : Nat, (∀ (h2 : ez_H) (w : Int32) (q : Int32) (i : Int32) , zW (fun q k => q = p ∧ k = 4) (fun q => q = (p + 2) ∨ q = (p + 3) ∨ q = (p + 4) ∨ q = (p + 5) ∨ q = (p + 6)) (fun _ => False) h h2 → (0 ≤ i.toInt ∧ i.toInt ≤ 288 ∧ (ez_I h2 p 4).toInt = (plN (nL (ez_I h (p + 1))) 288 16 : Nat)) → ctC (ez_I h2 (p + 3)) (nL (ez_I h (p + 1))) 288 → wdI (ez_I h2 (p + 2)) (nL (ez_I h (p + 1))) 288 i.toInt.toNat → itI (ez_I h2 (p + 4)) (nL (ez_I h (p + 1))) 288 i.toInt.toNat → uT2 (ez_I h2 (p + 5)) (fun l => ncN (nL (ez_I h (p + 1))) 288 l + ctN (nL (ez_I h (p + 1))) l i.toInt.toNat) 16 → uT2 (ez_I h2 (p + 6)) (fun l => plN (nL (ez_I h (p + 1))) 288 l + ctN (nL (ez_I h (p + 1))) l i.toInt.toNat) 16 → (1000 - i.toInt) < (N : Int) → pw E (d + 2) 82 109 [some (.ref p), some (.int w), some (.int q), some (.int i)] [] h2 Q) := by
  intro N
  induction N with
  | zero => exact fun h2 w q i  F hinv A_ct A_wd A_it A_nw A_np hm => absurd hm (by have w_w := z_rng w; have w_q := z_rng q; have w_i := z_rng i; omega)
  | succ N ih =>
    refine fun h2 w q i  F hinv A_ct A_wd A_it A_nw A_np hm => ?_
    · skip
      have w_w := z_rng w
      have w_q := z_rng q
      have w_i := z_rng i
      have S2 := zW_sh F S
      apply ez_Wp_in
      show ez_gw _ _ _ _ _ _ (cz_82) _ _ _ _ _
      refine gw_skip _ ?_
      have r1 := z_rng (ez_I h2 p 4)
      refine gw_ld rfl rfl ?_
      refine gw_ld rfl rfl ?_
      refine z_gR (q := (p + 1)) ((zCode S2 hp).1) ((zCode S2 hp).2.1.1) (by omega) ?_
      refine z_al (n := 288) (.inl ((zCode S2 hp).2.2.1.1)) ((zCode S2 hp).2.2.2.1) (by omega) (fun x2 ex2 => ?_)
      refine z_b2 (fun c3 => ?_) (fun c3 => ?_)
      · have c3 : x2.toInt ≤ i.toInt := c3
        refine gw_skip _ ?_
        refine z_rv ?_
        have he : i.toInt.toNat = 288 := by omega
        have b1 := A_wd
        have b2 := A_it
        rw [he] at b1 b2
        exact K _ F A_ct (by omega) b1 b2
      · have c3 : ¬ (x2.toInt ≤ i.toInt) := c3
        refine gw_ld rfl rfl ?_
        refine gw_ld rfl rfl ?_
        refine z_cl rfl rfl rfl rfl rfl rfl rfl rfl rfl rfl rfl ((zCode S2 hp).1) ?_
        refine c_coded (p := p) (i := i) S2 hp (by rw [(show ez_I h2 (p + 1) = ez_I h (p + 1) from zW_fn F (p + 1) (by omega) (fun k c => by omega))]; exact hL) (by omega) (fun x4 k5 => ?_)
        rw [(show ez_I h2 (p + 1) = ez_I h (p + 1) from zW_fn F (p + 1) (by omega) (fun k c => by omega))] at k5
        have rx4 := z_rng x4
        refine z_b1 (fun c6 => ?_) (fun c6 => ?_)
        · have c6 : x4.toInt = 0 := c6
          refine gw_skip _ ?_
          refine z_inc rfl (by rw [show (1 : Int32).toInt = 1 from rfl]; omega) (fun x7 ex7 => ?_)
          rw [show (1 : Int32).toInt = 1 from rfl] at ex7
          show ez_gw _ _ _ _ _ _ _ _ [some (.ref p), some (.int w), some (.int q), some (.int x7)] _ _ _
          refine z_go ?_
          exact ih h2 w q x7 F (by omega) A_ct (skI A_wd (show (nL (ez_I h (p + 1))) i.toInt.toNat = 0 by show (ez_I h (p + 1) i.toInt.toNat).toInt.toNat = 0; omega) (by omega)) (skT A_it (show (nL (ez_I h (p + 1))) i.toInt.toNat = 0 by show (ez_I h (p + 1) i.toInt.toNat).toInt.toNat = 0; omega) (by omega)) (uT2_c A_nw (fun l hl => by show ncN (nL (ez_I h (p + 1))) 288 l + _ = ncN (nL (ez_I h (p + 1))) 288 l + _; rw [show x7.toInt.toNat = i.toInt.toNat + 1 by omega, ctN_n (by rw [(show (nL (ez_I h (p + 1))) i.toInt.toNat = 0 by show (ez_I h (p + 1) i.toInt.toNat).toInt.toNat = 0; omega)]; omega)])) (uT2_c A_np (fun l hl => by show plN (nL (ez_I h (p + 1))) 288 l + _ = plN (nL (ez_I h (p + 1))) 288 l + _; rw [show x7.toInt.toNat = i.toInt.toNat + 1 by omega, ctN_n (by rw [(show (nL (ez_I h (p + 1))) i.toInt.toNat = 0 by show (ez_I h (p + 1) i.toInt.toNat).toInt.toNat = 0; omega)]; omega)])) (by omega)
        · have c6 : ¬ (x4.toInt = 0) := c6
          refine gw_ld rfl rfl ?_
          refine gw_ld rfl rfl ?_
          refine gw_ld rfl rfl ?_
          refine z_gR (q := (p + 1)) ((zCode S2 hp).1) ((zCode S2 hp).2.1.1) (by omega) ?_
          refine gw_ld rfl rfl ?_
          refine z_iaV (n := 288) ((zCode S2 hp).2.2.1.1) ((zCode S2 hp).2.2.2.1) (by omega) (zW_f F (by omega) (by omega)) ?_
          generalize ex8 : ez_I h (p + 1) i.toInt.toNat = x8
          have rx8 := z_rng x8
          have yx8 := hL i.toInt.toNat (by omega)
          rw [ex8] at yx8
          rw [ex8] at k5
          refine z_cl rfl rfl rfl rfl rfl rfl rfl rfl rfl rfl rfl ((zCode S2 hp).1) ?_
          have hLi : (nL (ez_I h (p + 1))) i.toInt.toNat = x8.toInt.toNat := by show (ez_I h (p + 1) i.toInt.toNat).toInt.toNat = _; rw [ex8]
          have hw5 := A_nw x8.toInt.toNat (by omega) (by omega)
          have hw6 := A_np x8.toInt.toNat (by omega) (by omega)
          have hcb := ctN_le (nL (ez_I h (p + 1))) x8.toInt.toNat i.toInt.toNat
          have hnb := ncN_b (L := (nL (ez_I h (p + 1)))) (l := x8.toInt.toNat) (by omega)
          have hpc := pcN_288 (L := (nL (ez_I h (p + 1)))) (N := 288) (k := i.toInt.toNat) (by omega) (by omega)
          have hpe : pcN (nL (ez_I h (p + 1))) 288 i.toInt.toNat = plN (nL (ez_I h (p + 1))) 288 x8.toInt.toNat + ctN (nL (ez_I h (p + 1))) x8.toInt.toNat i.toInt.toNat := by unfold pcN; rw [hLi]
          have hw5b : (ez_I h2 (p + 5) x8.toInt.toNat).toInt = ((ncN (nL (ez_I h (p + 1))) 288 x8.toInt.toNat + ctN (nL (ez_I h (p + 1))) x8.toInt.toNat i.toInt.toNat : Nat) : Int) := hw5
          have hw6b : (ez_I h2 (p + 6) x8.toInt.toNat).toInt = ((plN (nL (ez_I h (p + 1))) 288 x8.toInt.toNat + ctN (nL (ez_I h (p + 1))) x8.toInt.toNat i.toInt.toNat : Nat) : Int) := hw6
          refine c_setS (p := p) (i := i) (l := x8) S2 hp (by omega) (by omega) (by omega) (by omega) (fun h9 F10 k11 k12 k13 k14 => ?_)
          have S15 := zW_sh F10 S2
          have F16 := zW_tr F (zW_mono F10 (fun q k hk => by first | omega | exact False.elim hk) (fun q hk => by first | omega | exact False.elim hk) (fun q hk => by first | omega | exact False.elim hk))
          have f17 : ez_I h9 p 4 = (ez_I h2 p 4) := (zW_f F10 (by omega) (fun c => c)).trans (rfl)
          have A18 : ctC (ez_I h9 (p + 3)) (nL (ez_I h (p + 1))) 288 := by rw [zW_fn F10 (p + 3) (by omega) (fun _ c => c)]; exact A_ct
          have hct := ctN_y (L := (nL (ez_I h (p + 1)))) (l := x8.toInt.toNat) (n := i.toInt.toNat) hLi
          refine z_inc rfl (by rw [show (1 : Int32).toInt = 1 from rfl]; omega) (fun x19 ex19 => ?_)
          rw [show (1 : Int32).toInt = 1 from rfl] at ex19
          show ez_gw _ _ _ _ _ _ _ _ [some (.ref p), some (.int w), some (.int q), some (.int x19)] _ _ _
          refine z_go ?_
          have t20 := congrArg Int32.toInt (f17)
          exact ih h9 w q x19 F16 (by omega) A18 ((by rw [show x19.toInt.toNat = i.toInt.toNat + 1 by omega]; exact (wdI_s A_wd k11.1 k11.2 (by rw [hw5b]; show _ = ((rvN (cwN (nL (ez_I h (p + 1))) 288 i.toInt.toNat) ((nL (ez_I h (p + 1))) i.toInt.toNat) : Nat) : Int); unfold cwN; rw [hLi]; congr 3) rfl))) ((by rw [show x19.toInt.toNat = i.toInt.toNat + 1 by omega]; exact (itI_s A_it k13.1 k13.2 (by omega) (by omega) (by omega) (by omega) rfl))) ((by rw [show x19.toInt.toNat = i.toInt.toNat + 1 by omega]; exact (uT2_up A_nw k12.1 k12.2 rfl (by omega) (by show ncN (nL (ez_I h (p + 1))) 288 x8.toInt.toNat + ctN (nL (ez_I h (p + 1))) x8.toInt.toNat (i.toInt.toNat + 1) = _; rw [hct]; rfl) (fun l hl => by show ncN (nL (ez_I h (p + 1))) 288 l + ctN (nL (ez_I h (p + 1))) l (i.toInt.toNat + 1) = _; rw [ctN_n (by omega)])))) ((by rw [show x19.toInt.toNat = i.toInt.toNat + 1 by omega]; exact (uT2_up A_np k14.1 k14.2 rfl (by omega) (by show plN (nL (ez_I h (p + 1))) 288 x8.toInt.toNat + ctN (nL (ez_I h (p + 1))) x8.toInt.toNat (i.toInt.toNat + 1) = _; rw [hct]; rfl) (fun l hl => by show plN (nL (ez_I h (p + 1))) 288 l + ctN (nL (ez_I h (p + 1))) l (i.toInt.toNat + 1) = _; rw [ctN_n (by omega)])))) (by omega)
set_option maxRecDepth 4000 in
set_option maxHeartbeats 20000000 in
theorem c_settle_L1 {E : Nat → Nat × (Nat → Int32)} {d : Nat} {Q : ez_Q} {h : ez_H} {p : Nat} (S : zSh h) (hp : p = 15 ∨ p = 22 ∨ p = 29 ∨ p = 36 ∨ p = 43) (hL : aR (ez_I h (p + 1)) 288 0 15) (K : ∀ h2, zW (fun q k => q = p ∧ k = 4) (fun q => q = (p + 2) ∨ q = (p + 3) ∨ q = (p + 4) ∨ q = (p + 5) ∨ q = (p + 6)) (fun _ => False) h h2 → ctC (ez_I h2 (p + 3)) (nL (ez_I h (p + 1))) 288 → (ez_I h2 p 4).toInt = (plN (nL (ez_I h (p + 1))) 288 16 : Nat) → wdI (ez_I h2 (p + 2)) (nL (ez_I h (p + 1))) 288 288 → itI (ez_I h2 (p + 4)) (nL (ez_I h (p + 1))) 288 288 → Q (.inl none) h2) : ∀ N : Nat, (∀ (h2 : ez_H) (w : Int32) (q : Int32) (le : Int32) , zW (fun q k => q = p ∧ k = 4) (fun q => q = (p + 2) ∨ q = (p + 3) ∨ q = (p + 4) ∨ q = (p + 5) ∨ q = (p + 6)) (fun _ => False) h h2 → (1 ≤ le.toInt ∧ le.toInt ≤ 16 ∧ w.toInt = (ncN (nL (ez_I h (p + 1))) 288 (le.toInt.toNat - 1) : Nat) ∧ q.toInt = (plN (nL (ez_I h (p + 1))) 288 le.toInt.toNat : Nat)) → ctC (ez_I h2 (p + 3)) (nL (ez_I h (p + 1))) 288 → uT2 (ez_I h2 (p + 5)) (fun l => ncN (nL (ez_I h (p + 1))) 288 l) le.toInt.toNat → uT2 (ez_I h2 (p + 6)) (fun l => plN (nL (ez_I h (p + 1))) 288 l) le.toInt.toNat → (100 - le.toInt) < (N : Int) → pw E (d + 2) 82 54 [some (.ref p), some (.int w), some (.int q), some (.int le)] [] h2 Q) := by
  intro N
  induction N with
  | zero => exact fun h2 w q le  F hinv A_ct A_nw A_np hm => absurd hm (by have w_w := z_rng w; have w_q := z_rng q; have w_le := z_rng le; omega)
  | succ N ih =>
    refine fun h2 w q le  F hinv A_ct A_nw A_np hm => ?_
    · skip
      have w_w := z_rng w
      have w_q := z_rng q
      have w_le := z_rng le
      have S2 := zW_sh F S
      have hb1 := ncN_b (L := (nL (ez_I h (p + 1)))) (l := le.toInt.toNat - 1) (by omega)
      have hb2 := plN_le (nL (ez_I h (p + 1))) le.toInt.toNat 288
      have hb3 := plN_s (L := (nL (ez_I h (p + 1)))) (N := 288) (l := le.toInt.toNat) (by omega)
      have hb4 : le.toInt ≤ 15 → _ := fun z => A_ct.2 le.toInt.toNat (by omega) (by omega)
      have hb5 : 2 ≤ le.toInt → _ := fun z => A_ct.2 (le.toInt.toNat - 1) (by omega) (by omega)
      have hb6 := A_ct.1
      have hb7 : 2 ≤ le.toInt → _ := fun z => ncN_s (L := (nL (ez_I h (p + 1)))) (N := 288) (l := le.toInt.toNat - 1) (by omega)
      have hb8 := ctN_le (nL (ez_I h (p + 1))) le.toInt.toNat 288
      have hb9 := ctN_le (nL (ez_I h (p + 1))) (le.toInt.toNat - 1) 288
      apply ez_Wp_in
      show ez_gw _ _ _ _ _ _ (cz_82) _ _ _ _ _
      refine gw_skip _ ?_
      have r1 := z_rng (ez_I h2 p 4)
      refine gw_ld rfl rfl ?_
      refine z_C (m := 15) rfl rfl (fun x2 ex2 => ?_)
      refine z_b2 (fun c3 => ?_) (fun c3 => ?_)
      · have c3 : x2.toInt < le.toInt := c3
        refine gw_skip _ ?_
        refine gw_ld rfl rfl ?_
        refine gw_ld rfl rfl ?_
        refine z_pI ((zCode S2 hp).1) (fun h4 e5 => ?_)
        have S6 := zSh_set S2 e5
        have F7 := zW_setF F e5 (by omega)
        have f8 : ez_I h4 p 4 = q := zI_eq e5
        have A9 : ctC (ez_I h4 (p + 3)) (nL (ez_I h (p + 1))) 288 := by rw [zI_fn e5 (p + 3) (by omega)]; exact A_ct
        have A10 : uT2 (ez_I h4 (p + 5)) (fun l => ncN (nL (ez_I h (p + 1))) 288 l) le.toInt.toNat := by rw [zI_fn e5 (p + 5) (by omega)]; exact A_nw
        have A11 : uT2 (ez_I h4 (p + 6)) (fun l => plN (nL (ez_I h (p + 1))) 288 l) le.toInt.toNat := by rw [zI_fn e5 (p + 6) (by omega)]; exact A_np
        refine z_C (m := 0) rfl rfl (fun x12 ex12 => ?_)
        refine gw_st rfl rfl rfl ?_
        show ez_gw _ _ _ _ _ _ _ _ [some (.ref p), some (.int w), some (.int q), some (.int x12)] _ _ _
        have t13 := congrArg Int32.toInt (f8)
        exact ez_Wp_at ((c_settle_L2 (p := p) S hp hL K (((1000 - x12.toInt)).toNat + 1)) h4 w q x12 F7 (by rw [show le.toInt.toNat = 16 by omega] at hinv; omega) A9 ((by rw [show x12.toInt.toNat = 0 by omega]; exact fun k hk => by omega)) ((by rw [show x12.toInt.toNat = 0 by omega]; exact fun k hk => by omega)) ((by rw [show x12.toInt.toNat = 0 by omega, show (16 : Nat) = le.toInt.toNat by omega]; exact uT2_c A10 (fun l _ => rfl))) ((by rw [show x12.toInt.toNat = 0 by omega, show (16 : Nat) = le.toInt.toNat by omega]; exact uT2_c A11 (fun l _ => rfl))) (by omega)) rfl
      · have c3 : ¬ (x2.toInt < le.toInt) := c3
        refine gw_ld rfl rfl ?_
        refine gw_ld rfl rfl ?_
        refine z_gR (q := (p + 3)) ((zCode S2 hp).1) ((zCode S2 hp).2.1.2.2.1) (by omega) ?_
        refine gw_ld rfl rfl ?_
        refine z_C (m := 1) rfl rfl (fun x14 ex14 => ?_)
        refine z_sub (by omega) (fun x15 ex15 => ?_)
        refine z_ia (n := 16) ((zCode S2 hp).2.2.1.2.2.1) ((zCode S2 hp).2.2.2.2.2.1) (by omega) ?_
        generalize ex16 : ez_I h2 (p + 3) x15.toInt.toNat = x16
        have rx16 := z_rng x16
        have yx16 : x16.toInt = if le.toInt.toNat = 1 then 0 else (ctN (nL (ez_I h (p + 1))) (le.toInt.toNat - 1) 288 : Nat) := by
          rw [← ex16, show x15.toInt.toNat = le.toInt.toNat - 1 by omega]
          by_cases c : le.toInt.toNat = 1
          · rw [if_pos c, c]; exact hb6
          · rw [if_neg c]; exact hb5 (by omega)
        have y2x16 : 0 ≤ x16.toInt ∧ x16.toInt ≤ 288 := by rw [yx16]; split <;> omega
        refine z_add (by omega) (fun x17 ex17 => ?_)
        refine z_C (m := 1) rfl rfl (fun x18 ex18 => ?_)
        refine z_2 rfl (fun x19 ex19 => ?_)
        have rx19 := z_rng x19
        have vx19 := n_shl (n := 1) (by omega) (by decide) (by omega) (by omega) ex19
        rw [show (2 : Int) ^ 1 = 2 from rfl] at vx19
        have hwn : x19.toInt = (ncN (nL (ez_I h (p + 1))) 288 le.toInt.toNat : Nat) := by
          by_cases c : le.toInt.toNat = 1
          · rw [c]; rw [if_pos c] at yx16; rw [c] at hinv; show x19.toInt = ((0 : Nat) : Int); have hz0 : w.toInt = ((0 : Nat) : Int) := hinv.2.2.1; omega
          · rw [if_neg c] at yx16; have q7 := hb7 (by omega); rw [show le.toInt.toNat - 1 + 1 = le.toInt.toNat by omega] at q7; omega
        have hwb := ncN_b (L := (nL (ez_I h (p + 1)))) (l := le.toInt.toNat) (by omega)
        refine gw_st rfl rfl rfl ?_
        show ez_gw _ _ _ _ _ _ _ _ [some (.ref p), some (.int x19), some (.int q), some (.int le)] _ _ _
        refine gw_ld rfl rfl ?_
        refine z_gR (q := (p + 5)) ((zCode S2 hp).1) ((zCode S2 hp).2.1.2.2.2.2.1) (by omega) ?_
        refine gw_ld rfl rfl ?_
        refine gw_ld rfl rfl ?_
        refine z_is (n := 16) ((zCode S2 hp).2.2.1.2.2.2.2.1) ((zCode S2 hp).2.2.2.2.2.2.2.1) (by omega) (fun h20 e21 => ?_)
        have S22 := zSh_set S2 e21
        have F23 := zW_setA F e21 (by omega)
        have f24 : ez_I h20 p 4 = (ez_I h2 p 4) := (zI_ne e21 (by omega)).trans (rfl)
        have A25 : ctC (ez_I h20 (p + 3)) (nL (ez_I h (p + 1))) 288 := by rw [zI_fn e21 (p + 3) (by omega)]; exact A_ct
        have A26 : uT2 (ez_I h20 (p + 5)) (fun l => ncN (nL (ez_I h (p + 1))) 288 l) (le.toInt.toNat + 1) := uT2_s A_nw e21 (by omega) (by omega) rfl
        have A27 : uT2 (ez_I h20 (p + 6)) (fun l => plN (nL (ez_I h (p + 1))) 288 l) le.toInt.toNat := by rw [zI_fn e21 (p + 6) (by omega)]; exact A_np
        refine gw_ld rfl rfl ?_
        refine z_gR (q := (p + 6)) ((zCode S22 hp).1) ((zCode S22 hp).2.1.2.2.2.2.2) (by omega) ?_
        refine gw_ld rfl rfl ?_
        refine gw_ld rfl rfl ?_
        refine z_is (n := 16) ((zCode S22 hp).2.2.1.2.2.2.2.2) ((zCode S22 hp).2.2.2.2.2.2.2.2) (by omega) (fun h28 e29 => ?_)
        have S30 := zSh_set S22 e29
        have F31 := zW_setA F23 e29 (by omega)
        have f32 : ez_I h28 p 4 = (ez_I h2 p 4) := (zI_ne e29 (by omega)).trans (f24)
        have A33 : ctC (ez_I h28 (p + 3)) (nL (ez_I h (p + 1))) 288 := by rw [zI_fn e29 (p + 3) (by omega)]; exact A25
        have A34 : uT2 (ez_I h28 (p + 5)) (fun l => ncN (nL (ez_I h (p + 1))) 288 l) (le.toInt.toNat + 1) := by rw [zI_fn e29 (p + 5) (by omega)]; exact A26
        have A35 : uT2 (ez_I h28 (p + 6)) (fun l => plN (nL (ez_I h (p + 1))) 288 l) (le.toInt.toNat + 1) := uT2_s A27 e29 (by omega) (by omega) rfl
        clear A25
        clear A26
        clear A27
        refine gw_ld rfl rfl ?_
        refine gw_ld rfl rfl ?_
        refine z_gR (q := (p + 3)) ((zCode S30 hp).1) ((zCode S30 hp).2.1.2.2.1) (by omega) ?_
        refine gw_ld rfl rfl ?_
        refine z_ia (n := 16) ((zCode S30 hp).2.2.1.2.2.1) ((zCode S30 hp).2.2.2.2.2.1) (by omega) ?_
        generalize ex36 : ez_I h28 (p + 3) le.toInt.toNat = x36
        have rx36 := z_rng x36
        have yx36 := A33.2 le.toInt.toNat (by omega) (by omega)
        rw [ex36] at yx36
        refine z_add (by omega) (fun x37 ex37 => ?_)
        refine gw_st rfl rfl rfl ?_
        show ez_gw _ _ _ _ _ _ _ _ [some (.ref p), some (.int x19), some (.int x37), some (.int le)] _ _ _
        refine z_inc rfl (by rw [show (1 : Int32).toInt = 1 from rfl]; omega) (fun x38 ex38 => ?_)
        rw [show (1 : Int32).toInt = 1 from rfl] at ex38
        show ez_gw _ _ _ _ _ _ _ _ [some (.ref p), some (.int x19), some (.int x37), some (.int x38)] _ _ _
        refine z_go ?_
        have t39 := congrArg Int32.toInt (f32)
        exact ih h28 x19 x37 x38 F31 (⟨by omega, by omega, by rw [show x38.toInt.toNat - 1 = le.toInt.toNat by omega]; exact hwn, by rw [show x38.toInt.toNat = le.toInt.toNat + 1 by omega, hb3]; have := hb4 (by omega); omega⟩) (A33) ((by rw [show x38.toInt.toNat = le.toInt.toNat + 1 by omega]; exact A34)) ((by rw [show x38.toInt.toNat = le.toInt.toNat + 1 by omega]; exact A35)) (by omega)
set_option maxRecDepth 4000 in
set_option maxHeartbeats 20000000 in
theorem c_settle_L0 {E : Nat → Nat × (Nat → Int32)} {d : Nat} {Q : ez_Q} {h : ez_H} {p : Nat} (S : zSh h) (hp : p = 15 ∨ p = 22 ∨ p = 29 ∨ p = 36 ∨ p = 43) (hL : aR (ez_I h (p + 1)) 288 0 15) (K : ∀ h2, zW (fun q k => q = p ∧ k = 4) (fun q => q = (p + 2) ∨ q = (p + 3) ∨ q = (p + 4) ∨ q = (p + 5) ∨ q = (p + 6)) (fun _ => False) h h2 → ctC (ez_I h2 (p + 3)) (nL (ez_I h (p + 1))) 288 → (ez_I h2 p 4).toInt = (plN (nL (ez_I h (p + 1))) 288 16 : Nat) → wdI (ez_I h2 (p + 2)) (nL (ez_I h (p + 1))) 288 288 → itI (ez_I h2 (p + 4)) (nL (ez_I h (p + 1))) 288 288 → Q (.inl none) h2) : ∀ N : Nat, (∀ (h2 : ez_H) (i : Int32) (l2 : Option Value) (l3 : Option Value) , zW (fun q k => q = p ∧ k = 4) (fun q => q = (p + 2) ∨ q = (p + 3) ∨ q = (p + 4) ∨ q = (p + 5) ∨ q = (p + 6)) (fun _ => False) h h2 → (0 ≤ i.toInt ∧ i.toInt ≤ 288) → ctC (ez_I h2 (p + 3)) (nL (ez_I h (p + 1))) i.toInt.toNat → (1000 - i.toInt) < (N : Int) → pw E (d + 2) 82 10 [some (.ref p), some (.int i), l2, l3] [] h2 Q) := by
  intro N
  induction N with
  | zero => exact fun h2 i l2 l3  F hinv A_ct hm => absurd hm (by have w_i := z_rng i; omega)
  | succ N ih =>
    refine fun h2 i l2 l3  F hinv A_ct hm => ?_
    · skip
      have w_i := z_rng i
      have S2 := zW_sh F S
      apply ez_Wp_in
      show ez_gw _ _ _ _ _ _ (cz_82) _ _ _ _ _
      refine gw_skip _ ?_
      have r1 := z_rng (ez_I h2 p 4)
      refine gw_ld rfl rfl ?_
      refine gw_ld rfl rfl ?_
      refine z_gR (q := (p + 1)) ((zCode S2 hp).1) ((zCode S2 hp).2.1.1) (by omega) ?_
      refine z_al (n := 288) (.inl ((zCode S2 hp).2.2.1.1)) ((zCode S2 hp).2.2.2.1) (by omega) (fun x2 ex2 => ?_)
      refine z_b2 (fun c3 => ?_) (fun c3 => ?_)
      · have c3 : x2.toInt ≤ i.toInt := c3
        refine gw_skip _ ?_
        refine z_C (m := 0) rfl rfl (fun x4 ex4 => ?_)
        refine gw_st rfl rfl rfl ?_
        show ez_gw _ _ _ _ _ _ _ _ [some (.ref p), some (.int x4), l2, l3] _ _ _
        refine z_C (m := 0) rfl rfl (fun x5 ex5 => ?_)
        refine gw_st rfl rfl rfl ?_
        show ez_gw _ _ _ _ _ _ _ _ [some (.ref p), some (.int x4), some (.int x5), l3] _ _ _
        refine z_C (m := 1) rfl rfl (fun x6 ex6 => ?_)
        refine gw_st rfl rfl rfl ?_
        show ez_gw _ _ _ _ _ _ _ _ [some (.ref p), some (.int x4), some (.int x5), some (.int x6)] _ _ _
        exact ez_Wp_at ((c_settle_L1 (p := p) S hp hL K (((100 - x6.toInt)).toNat + 1)) h2 x4 x5 x6 F (⟨by omega, by omega, by rw [show x6.toInt.toNat - 1 = 0 by omega]; show _ = ((0 : Nat) : Int); omega, by rw [show x6.toInt.toNat = 1 by omega]; show _ = ((0 : Nat) : Int); omega⟩) ((by rw [show (288 : Nat) = i.toInt.toNat by omega]; exact A_ct)) ((by rw [show x6.toInt.toNat = 1 by omega]; exact uT2_0 _ _)) ((by rw [show x6.toInt.toNat = 1 by omega]; exact uT2_0 _ _)) (by omega)) rfl
      · have c3 : ¬ (x2.toInt ≤ i.toInt) := c3
        refine gw_ld rfl rfl ?_
        refine gw_ld rfl rfl ?_
        refine z_cl rfl rfl rfl rfl rfl rfl rfl rfl rfl rfl rfl ((zCode S2 hp).1) ?_
        refine c_coded (p := p) (i := i) S2 hp (by rw [(show ez_I h2 (p + 1) = ez_I h (p + 1) from zW_fn F (p + 1) (by omega) (fun k c => by omega))]; exact hL) (by omega) (fun x7 k8 => ?_)
        rw [(show ez_I h2 (p + 1) = ez_I h (p + 1) from zW_fn F (p + 1) (by omega) (fun k c => by omega))] at k8
        have rx7 := z_rng x7
        refine z_b1 (fun c9 => ?_) (fun c9 => ?_)
        · have c9 : x7.toInt = 0 := c9
          refine gw_skip _ ?_
          refine z_inc rfl (by rw [show (1 : Int32).toInt = 1 from rfl]; omega) (fun x10 ex10 => ?_)
          rw [show (1 : Int32).toInt = 1 from rfl] at ex10
          show ez_gw _ _ _ _ _ _ _ _ [some (.ref p), some (.int x10), l2, l3] _ _ _
          refine z_go ?_
          exact ih h2 x10 (l2) (l3) F (by omega) (ctC_n A_ct (show (nL (ez_I h (p + 1))) i.toInt.toNat = 0 by show (ez_I h (p + 1) i.toInt.toNat).toInt.toNat = 0; omega) (by omega)) (by omega)
        · have c9 : ¬ (x7.toInt = 0) := c9
          refine gw_ld rfl rfl ?_
          refine z_gR (q := (p + 3)) ((zCode S2 hp).1) ((zCode S2 hp).2.1.2.2.1) (by omega) ?_
          refine gw_ld rfl rfl ?_
          refine z_gR (q := (p + 1)) ((zCode S2 hp).1) ((zCode S2 hp).2.1.1) (by omega) ?_
          refine gw_ld rfl rfl ?_
          refine z_iaV (n := 288) ((zCode S2 hp).2.2.1.1) ((zCode S2 hp).2.2.2.1) (by omega) (zW_f F (by omega) (by omega)) ?_
          generalize ex11 : ez_I h (p + 1) i.toInt.toNat = x11
          have rx11 := z_rng x11
          have yx11 := hL i.toInt.toNat (by omega)
          rw [ex11] at yx11
          rw [ex11] at k8
          refine gw_op rfl ?_
          refine z_ia (n := 16) ((zCode S2 hp).2.2.1.2.2.1) ((zCode S2 hp).2.2.2.2.2.1) (by omega) ?_
          generalize ex12 : ez_I h2 (p + 3) x11.toInt.toNat = x12
          have rx12 := z_rng x12
          have yx12 := A_ct.2 x11.toInt.toNat (by omega) (by omega)
          rw [ex12] at yx12
          have ux12 := ctN_le (nL (ez_I h (p + 1))) x11.toInt.toNat i.toInt.toNat
          refine z_C (m := 1) rfl rfl (fun x13 ex13 => ?_)
          refine z_add (by omega) (fun x14 ex14 => ?_)
          refine z_is (n := 16) ((zCode S2 hp).2.2.1.2.2.1) ((zCode S2 hp).2.2.2.2.2.1) (by omega) (fun h15 e16 => ?_)
          have S17 := zSh_set S2 e16
          have F18 := zW_setA F e16 (by omega)
          have f19 : ez_I h15 p 4 = (ez_I h2 p 4) := (zI_ne e16 (by omega)).trans (rfl)
          have A20 : ctC (ez_I h15 (p + 3)) (nL (ez_I h (p + 1))) (i.toInt.toNat + 1) := ctC_y A_ct e16 (by show x11.toInt.toNat = (ez_I h (p + 1) i.toInt.toNat).toInt.toNat; rw [ex11]) (by show 1 ≤ (ez_I h (p + 1) i.toInt.toNat).toInt.toNat ∧ (ez_I h (p + 1) i.toInt.toNat).toInt.toNat < 16; rw [ex11]; omega) ex12 (by omega) rfl
          refine z_inc rfl (by rw [show (1 : Int32).toInt = 1 from rfl]; omega) (fun x21 ex21 => ?_)
          rw [show (1 : Int32).toInt = 1 from rfl] at ex21
          show ez_gw _ _ _ _ _ _ _ _ [some (.ref p), some (.int x21), l2, l3] _ _ _
          refine z_go ?_
          have t22 := congrArg Int32.toInt (f19)
          exact ih h15 x21 (l2) (l3) F18 (by omega) ((by rw [show x21.toInt.toNat = i.toInt.toNat + 1 by omega]; exact A20)) (by omega)
set_option maxRecDepth 4000 in
set_option maxHeartbeats 20000000 in
theorem c_settle {E : Nat → Nat × (Nat → Int32)} {d : Nat} {Q : ez_Q} {h : ez_H} {p : Nat} (S : zSh h) (hp : p = 15 ∨ p = 22 ∨ p = 29 ∨ p = 36 ∨ p = 43) (hL : aR (ez_I h (p + 1)) 288 0 15) (K : ∀ h2, zW (fun q k => q = p ∧ k = 4) (fun q => q = (p + 2) ∨ q = (p + 3) ∨ q = (p + 4) ∨ q = (p + 5) ∨ q = (p + 6)) (fun _ => False) h h2 → ctC (ez_I h2 (p + 3)) (nL (ez_I h (p + 1))) 288 → (ez_I h2 p 4).toInt = (plN (nL (ez_I h (p + 1))) 288 16 : Nat) → wdI (ez_I h2 (p + 2)) (nL (ez_I h (p + 1))) 288 288 → itI (ez_I h2 (p + 4)) (nL (ez_I h (p + 1))) 288 288 → Q (.inl none) h2) : pw E (d + 2) 82 0 [some (.ref p), none, none, none] [] h Q := by
  have F := zW_refl (fun q k => q = p ∧ k = 4) (fun q => q = (p + 2) ∨ q = (p + 3) ∨ q = (p + 4) ∨ q = (p + 5) ∨ q = (p + 6)) (fun _ => False) h
  apply ez_Wp_in
  show ez_gw _ _ _ _ _ _ (cz_82) _ _ _ _ _
  refine gw_skip _ ?_
  have r1 := z_rng (ez_I h p 4)
  refine gw_ld rfl rfl ?_
  refine z_gR (q := (p + 3)) ((zCode S hp).1) ((zCode S hp).2.1.2.2.1) (by omega) ?_
  refine z_C (m := 0) rfl rfl (fun x2 ex2 => ?_)
  refine z_cl rfl rfl rfl rfl rfl rfl rfl rfl rfl rfl rfl (trivial) ?_
  refine wp_fill ((zCode S hp).2.2.1.2.2.1) (by rw [show ez_l h (p + 3) = 16 from (zCode S hp).2.2.2.2.2.1]; omega) ?_
  generalize e4 : ez_rowI h (p + 3) (pf_fill (ez_I h (p + 3)) (ez_l h (p + 3)) x2) = h3
  have e4 := e4.symm
  have A5 := zIr_at e4 (show ez_l h (p + 3) = 16 from (zCode S hp).2.2.2.2.2.1)
  have S6 := zSh_row S e4
  have F7 := zW_row F e4 (by omega)
  have f8 : ez_I h3 p 4 = (ez_I h p 4) := (zI_row e4 (by omega)).trans (rfl)
  have A9 : ctC (ez_I h3 (p + 3)) (nL (ez_I h (p + 1))) 0 := ctC_0 A5 (by omega)
  refine z_C (m := 0) rfl rfl (fun x10 ex10 => ?_)
  refine gw_st rfl rfl rfl ?_
  show ez_gw _ _ _ _ _ _ _ _ [some (.ref p), some (.int x10), none, none] _ _ _
  have t11 := congrArg Int32.toInt (f8)
  exact ez_Wp_at ((c_settle_L0 (p := p) S hp hL K (((1000 - x10.toInt)).toNat + 1)) h3 x10 (none) (none) F7 (by omega) ((by rw [show x10.toInt.toNat = 0 by omega]; exact A9)) (by omega)) rfl
