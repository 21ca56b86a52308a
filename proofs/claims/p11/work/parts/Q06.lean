/-! PRINTED by wip/pack: the class: the head of a DYNAMIC block -/
set_option maxRecDepth 4000 in
set_option maxHeartbeats 2000000 in
theorem c_from_L0 {E : Nat → Nat × (Nat → Int32)} {d : Nat} {Q : ez_Q} {h : ez_H} {a : Int32} {n : Int32} {v : Int32} {m : Int32} (S : zSh h) (hR : aR (ez_I h 62) n.toInt.toNat 0 15) (ha : 0 ≤ a.toInt ∧ a.toInt ≤ n.toInt ∧ n.toInt ≤ 316 ∧ 0 ≤ v.toInt ∧ 0 ≤ m.toInt ∧ m.toInt ≤ 138) (K : ∀ x : Int32, x.toInt = (rn (nL (ez_I h 62)) n.toInt.toNat a.toInt.toNat v.toInt.toNat m.toInt.toNat : Nat) → Q (.inl (some (.int x))) h) : ∀ N : Nat, (∀ (h2 : ez_H) (i : Int32) , zW (fun _ _ => False) (fun _ => False) (fun _ => False) h h2 → (0 ≤ i.toInt ∧ i.toInt ≤ m.toInt) → (∀ k : Nat, (k : Int) < i.toInt → a.toInt.toNat + k < n.toInt.toNat ∧ nL (ez_I h 62) (a.toInt.toNat + k) = v.toInt.toNat) → (1000 - i.toInt) < (N : Int) → pw E d 95 3 [some (.ref 61), some (.int a), some (.int n), some (.int v), some (.int m), some (.int i)] [] h2 Q) := by
  intro N
  induction N with
  | zero => exact fun h2 i  F hinv A_eq hm => absurd hm (by have w_i := z_rng i; have ga := z_rng a; have gn := z_rng n; have gv := z_rng v; have gm := z_rng m; omega)
  | succ N ih =>
    refine fun h2 i  F hinv A_eq hm => ?_
    · skip
      have w_i := z_rng i
      have ga := z_rng a
      have gn := z_rng n
      have gv := z_rng v
      have gm := z_rng m
      have S2 := zW_sh F S
      apply ez_Wp_in
      show ez_gw _ _ _ _ _ _ (cz_95) _ _ _ _ _
      refine gw_skip _ ?_
      refine gw_ld rfl rfl ?_
      refine gw_ld rfl rfl ?_
      refine z_b2 (fun c1 => ?_) (fun c1 => ?_)
      · have c1 : m.toInt ≤ i.toInt := c1
        refine gw_skip _ ?_
        refine gw_ld rfl rfl ?_
        refine z_ri ?_
        exact zW_Q F (K _ (rnI_e (x := a.toInt + i.toInt) (z := 0) A_eq (by omega) (by omega) rfl (by first | exact .inl (by omega) | exact .inr (.inl (by omega)))))
      · have c1 : ¬ (m.toInt ≤ i.toInt) := c1
        refine gw_ld rfl rfl ?_
        refine gw_ld rfl rfl ?_
        refine z_add (by omega) (fun x2 ex2 => ?_)
        refine gw_ld rfl rfl ?_
        refine z_b2 (fun c3 => ?_) (fun c3 => ?_)
        · have c3 : n.toInt ≤ x2.toInt := c3
          refine gw_skip _ ?_
          refine gw_ld rfl rfl ?_
          refine z_ri ?_
          exact zW_Q F (K _ (rnI_e (x := a.toInt + i.toInt) (z := 0) A_eq (by omega) (by omega) rfl (by first | exact .inl (by omega) | exact .inr (.inl (by omega)))))
        · have c3 : ¬ (n.toInt ≤ x2.toInt) := c3
          refine gw_ld rfl rfl ?_
          refine z_gR (q := 62) (zT S2 (by decide) rfl) (zRf S2 (by decide) (by decide) rfl) (by decide) ?_
          refine gw_ld rfl rfl ?_
          refine gw_ld rfl rfl ?_
          refine z_add (by omega) (fun x4 ex4 => ?_)
          refine z_iaV (n := 316) (zT S2 (by decide) rfl) (zN S2 (by decide) rfl) (by omega) (zW_f F (fun c => c) (fun c => c)) ?_
          generalize ex5 : ez_I h 62 x4.toInt.toNat = x5
          have rx5 := z_rng x5
          have yx5 := hR x4.toInt.toNat (by omega)
          rw [ex5] at yx5
          refine gw_ld rfl rfl ?_
          refine z_b2 (fun c6 => ?_) (fun c6 => ?_)
          · have c6 : x5.toInt ≠ v.toInt := c6
            refine gw_skip _ ?_
            refine gw_ld rfl rfl ?_
            refine z_ri ?_
            exact zW_Q F (K _ (rnI_e (x := x4.toInt) (z := x5) A_eq (by omega) (by omega) (by omega) (.inr (.inr ⟨ex5, by omega, by omega, by omega⟩))))
          · have c6 : ¬ (x5.toInt ≠ v.toInt) := c6
            refine z_inc rfl (by rw [show (1 : Int32).toInt = 1 from rfl]; omega) (fun x7 ex7 => ?_)
            rw [show (1 : Int32).toInt = 1 from rfl] at ex7
            show ez_gw _ _ _ _ _ _ _ _ [some (.ref 61), some (.int a), some (.int n), some (.int v), some (.int m), some (.int x7)] _ _ _
            refine z_go ?_
            exact ih h2 x7 F (by omega) (rnI_s (x := x4.toInt) A_eq (by omega) (by omega) (by omega) (by omega) ex5 (by omega) (by omega)) (by omega)
set_option maxRecDepth 4000 in
set_option maxHeartbeats 2000000 in
theorem c_from {E : Nat → Nat × (Nat → Int32)} {d : Nat} {Q : ez_Q} {h : ez_H} {a : Int32} {n : Int32} {v : Int32} {m : Int32} (S : zSh h) (hR : aR (ez_I h 62) n.toInt.toNat 0 15) (ha : 0 ≤ a.toInt ∧ a.toInt ≤ n.toInt ∧ n.toInt ≤ 316 ∧ 0 ≤ v.toInt ∧ 0 ≤ m.toInt ∧ m.toInt ≤ 138) (K : ∀ x : Int32, x.toInt = (rn (nL (ez_I h 62)) n.toInt.toNat a.toInt.toNat v.toInt.toNat m.toInt.toNat : Nat) → Q (.inl (some (.int x))) h) : pw E d 95 0 [some (.ref 61), some (.int a), some (.int n), some (.int v), some (.int m), none] [] h Q := by
  have ga := z_rng a
  have gn := z_rng n
  have gv := z_rng v
  have gm := z_rng m
  have F := zW_refl (fun _ _ => False) (fun _ => False) (fun _ => False) h
  apply ez_Wp_in
  show ez_gw _ _ _ _ _ _ (cz_95) _ _ _ _ _
  refine gw_skip _ ?_
  refine z_C (m := 0) rfl rfl (fun x1 ex1 => ?_)
  refine gw_st rfl rfl rfl ?_
  show ez_gw _ _ _ _ _ _ _ _ [some (.ref 61), some (.int a), some (.int n), some (.int v), some (.int m), some (.int x1)] _ _ _
  exact ez_Wp_at ((c_from_L0 (a := a) (n := n) (v := v) (m := m) S hR ha K (((1000 - x1.toInt)).toNat + 1)) h x1 F (by omega) (fun k hk => by omega) (by omega)) rfl
set_option maxRecDepth 4000 in
set_option maxHeartbeats 2000000 in
theorem c_addS {E : Nat → Nat × (Nat → Int32)} {d : Nat} {Q : ez_Q} {h : ez_H} {a : Int32} {b : Int32} (S : zSh h) (ha : 0 ≤ a.toInt ∧ a.toInt ≤ 18) (hc : 0 ≤ (ez_I h 61 5).toInt ∧ (ez_I h 61 5).toInt < 316) (hC : aR (ez_I h 65) 19 0 1000) (K : ∀ h2, zW (fun q k => q = 61 ∧ k = 5) (fun q => q = 63 ∨ q = 64 ∨ q = 65) (fun _ => False) h h2 → (ez_I h2 61 5).toInt = (ez_I h 61 5).toInt + 1 → (ez_I h2 63 (ez_I h 61 5).toInt.toNat = a ∧ ∀ k, k ≠ (ez_I h 61 5).toInt.toNat → ez_I h2 63 k = ez_I h 63 k) → (ez_I h2 64 (ez_I h 61 5).toInt.toNat = b ∧ ∀ k, k ≠ (ez_I h 61 5).toInt.toNat → ez_I h2 64 k = ez_I h 64 k) → upE (ez_I h 65) (ez_I h2 65) a.toInt.toNat → Q (.inl none) h2) : pw E d 96 0 [some (.ref 61), some (.int a), some (.int b)] [] h Q := by
  have ga := z_rng a
  have gb := z_rng b
  have F := zW_refl (fun q k => q = 61 ∧ k = 5) (fun q => q = 63 ∨ q = 64 ∨ q = 65) (fun _ => False) h
  apply ez_Wp_in
  show ez_gw _ _ _ _ _ _ (cz_96) _ _ _ _ _
  refine gw_skip _ ?_
  have r1 := z_rng (ez_I h 61 5)
  refine gw_ld rfl rfl ?_
  refine z_b1 (fun c2 => ?_) (fun c2 => ?_)
  · have c2 : a.toInt < 0 := c2
    refine gw_skip _ ?_
    refine z_rv ?_
    exfalso; omega
  · have c2 : ¬ (a.toInt < 0) := c2
    refine gw_ld rfl rfl ?_
    refine z_C (m := 19) rfl rfl (fun x3 ex3 => ?_)
    refine z_b2 (fun c4 => ?_) (fun c4 => ?_)
    · have c4 : x3.toInt ≤ a.toInt := c4
      refine gw_skip _ ?_
      refine z_rv ?_
      exfalso; omega
    · have c4 : ¬ (x3.toInt ≤ a.toInt) := c4
      refine gw_ld rfl rfl ?_
      refine z_gI2 (by decide) (zT S (by decide) rfl) (rfl) ?_
      refine z_C (m := 316) rfl rfl (fun x5 ex5 => ?_)
      refine z_b2 (fun c6 => ?_) (fun c6 => ?_)
      · have c6 : x5.toInt ≤ ((ez_I h 61 5)).toInt := c6
        refine gw_skip _ ?_
        refine z_rv ?_
        exfalso; omega
      · have c6 : ¬ (x5.toInt ≤ ((ez_I h 61 5)).toInt) := c6
        refine gw_ld rfl rfl ?_
        refine z_gR (q := 63) (zT S (by decide) rfl) (zRf S (by decide) (by decide) rfl) (by decide) ?_
        refine gw_ld rfl rfl ?_
        refine z_gI2 (by decide) (zT S (by decide) rfl) (rfl) ?_
        refine gw_ld rfl rfl ?_
        refine z_is (n := 316) (zT S (by decide) rfl) (zN S (by decide) rfl) (by omega) (fun h7 e8 => ?_)
        have S9 := zSh_set S e8
        have F10 := zW_setA F e8 (by omega)
        have f11 : ez_I h7 61 5 = (ez_I h 61 5) := (zI_ne e8 (by omega)).trans (rfl)
        have A12 : ez_I h7 65 = ez_I h 65 := by rw [zI_fn e8 65 (by decide)]
        have A13 : (ez_I h7 63 (ez_I h 61 5).toInt.toNat = a ∧ ∀ k, k ≠ (ez_I h 61 5).toInt.toNat → ez_I h7 63 k = ez_I h 63 k) := ⟨zI_eq e8, fun k hk => zI_ne e8 (by omega)⟩
        refine gw_ld rfl rfl ?_
        refine z_gR (q := 64) (zT S9 (by decide) rfl) (zRf S9 (by decide) (by decide) rfl) (by decide) ?_
        refine gw_ld rfl rfl ?_
        refine z_gI2 (by decide) (zT S9 (by decide) rfl) (f11) ?_
        refine gw_ld rfl rfl ?_
        refine z_is (n := 316) (zT S9 (by decide) rfl) (zN S9 (by decide) rfl) (by omega) (fun h14 e15 => ?_)
        have S16 := zSh_set S9 e15
        have F17 := zW_setA F10 e15 (by omega)
        have f18 : ez_I h14 61 5 = (ez_I h 61 5) := (zI_ne e15 (by omega)).trans (f11)
        have A19 : ez_I h14 65 = ez_I h 65 := by rw [zI_fn e15 65 (by decide)]; exact A12
        have A20 : (ez_I h14 63 (ez_I h 61 5).toInt.toNat = a ∧ ∀ k, k ≠ (ez_I h 61 5).toInt.toNat → ez_I h14 63 k = ez_I h 63 k) := by rw [zI_fn e15 63 (by decide)]; exact A13
        have A21 : (ez_I h14 64 (ez_I h 61 5).toInt.toNat = b ∧ ∀ k, k ≠ (ez_I h 61 5).toInt.toNat → ez_I h14 64 k = ez_I h 64 k) := ⟨zI_eq e15, fun k hk => (zI_ne e15 (by omega)).trans (zI_ne e8 (by omega))⟩
        clear A12
        clear A13
        refine gw_ld rfl rfl ?_
        refine gw_op rfl ?_
        refine z_gI2 (by decide) (zT S16 (by decide) rfl) (f18) ?_
        refine z_C (m := 1) rfl rfl (fun x22 ex22 => ?_)
        refine z_add (by omega) (fun x23 ex23 => ?_)
        refine z_pI (zT S16 (by decide) rfl) (fun h24 e25 => ?_)
        have S26 := zSh_set S16 e25
        have F27 := zW_setF F17 e25 (by omega)
        have f28 : ez_I h24 61 5 = x23 := zI_eq e25
        have A29 : ez_I h24 65 = ez_I h 65 := by rw [zI_fn e25 65 (by decide)]; exact A19
        have A30 : (ez_I h24 63 (ez_I h 61 5).toInt.toNat = a ∧ ∀ k, k ≠ (ez_I h 61 5).toInt.toNat → ez_I h24 63 k = ez_I h 63 k) := by rw [zI_fn e25 63 (by decide)]; exact A20
        have A31 : (ez_I h24 64 (ez_I h 61 5).toInt.toNat = b ∧ ∀ k, k ≠ (ez_I h 61 5).toInt.toNat → ez_I h24 64 k = ez_I h 64 k) := by rw [zI_fn e25 64 (by decide)]; exact A21
        clear A19
        clear A20
        clear A21
        refine gw_ld rfl rfl ?_
        refine z_gR (q := 65) (zT S26 (by decide) rfl) (zRf S26 (by decide) (by decide) rfl) (by decide) ?_
        refine gw_ld rfl rfl ?_
        refine gw_op rfl ?_
        refine z_iaV (n := 19) (zT S26 (by decide) rfl) (zN S26 (by decide) rfl) (by omega) (congrFun A29 _) ?_
        generalize ex32 : ez_I h 65 a.toInt.toNat = x32
        have rx32 := z_rng x32
        have yx32 := hC a.toInt.toNat (by omega)
        rw [ex32] at yx32
        refine z_C (m := 1) rfl rfl (fun x33 ex33 => ?_)
        refine z_add (by omega) (fun x34 ex34 => ?_)
        refine z_is (n := 19) (zT S26 (by decide) rfl) (zN S26 (by decide) rfl) (by omega) (fun h35 e36 => ?_)
        have S37 := zSh_set S26 e36
        have F38 := zW_setA F27 e36 (by omega)
        have f39 : ez_I h35 61 5 = x23 := (zI_ne e36 (by omega)).trans (f28)
        have A40 : (ez_I h35 63 (ez_I h 61 5).toInt.toNat = a ∧ ∀ k, k ≠ (ez_I h 61 5).toInt.toNat → ez_I h35 63 k = ez_I h 63 k) := by rw [zI_fn e36 63 (by decide)]; exact A30
        have A41 : (ez_I h35 64 (ez_I h 61 5).toInt.toNat = b ∧ ∀ k, k ≠ (ez_I h 61 5).toInt.toNat → ez_I h35 64 k = ez_I h 64 k) := by rw [zI_fn e36 64 (by decide)]; exact A31
        have A42 : upE (ez_I h 65) (ez_I h35 65) a.toInt.toNat := ⟨x32, x34, ex32, by omega, zI_eq e36, fun k hk => (zI_ne e36 (by omega)).trans (congrFun A29 k)⟩
        clear A30
        clear A31
        refine z_rv ?_
        have t43 := congrArg Int32.toInt (f39)
        exact K _ F38 (by omega) A40 A41 A42
set_option maxRecDepth 4000 in
set_option maxHeartbeats 2000000 in
theorem c_tellAt {E : Nat → Nat × (Nat → Int32)} {d : Nat} {Q : ez_Q} {h : ez_H} {a : Int32} {n : Int32} (S : zSh h) (hE : zE E) (hR : aR (ez_I h 62) n.toInt.toNat 0 15) (ha : 0 ≤ a.toInt ∧ a.toInt < n.toInt ∧ n.toInt ≤ 316) (hc : 0 ≤ (ez_I h 61 5).toInt ∧ (ez_I h 61 5).toInt < 316) (hC : aR (ez_I h 65) 19 0 1000) (K : ∀ h2 (x : Int32), zW (fun q k => q = 61 ∧ k = 5) (fun q => q = 63 ∨ q = 64 ∨ q = 65) (fun _ => False) h h2 → x.toInt = ((tk (nL (ez_I h 62)) n.toInt.toNat a.toInt.toNat).2.2 : Nat) → (ez_I h2 61 5).toInt = (ez_I h 61 5).toInt + 1 → ((ez_I h2 63 (ez_I h 61 5).toInt.toNat).toInt = ((tk (nL (ez_I h 62)) n.toInt.toNat a.toInt.toNat).1 : Nat) ∧ ∀ k, k ≠ (ez_I h 61 5).toInt.toNat → ez_I h2 63 k = ez_I h 63 k) → ((ez_I h2 64 (ez_I h 61 5).toInt.toNat).toInt = ((tk (nL (ez_I h 62)) n.toInt.toNat a.toInt.toNat).2.1 : Nat) ∧ ∀ k, k ≠ (ez_I h 61 5).toInt.toNat → ez_I h2 64 k = ez_I h 64 k) → upE (ez_I h 65) (ez_I h2 65) (tk (nL (ez_I h 62)) n.toInt.toNat a.toInt.toNat).1 → Q (.inl (some (.int x))) h2) : pw E (d + 1) 94 0 [some (.ref 61), some (.int a), some (.int n), none, none] [] h Q := by
  have ga := z_rng a
  have gn := z_rng n
  have hrl := rn_le (nL (ez_I h 62)) n.toInt.toNat a.toInt.toNat 0 138
  have hrl2 := rn_le (nL (ez_I h 62)) n.toInt.toNat a.toInt.toNat ((nL (ez_I h 62)) (a.toInt.toNat - 1)) 6
  have F := zW_refl (fun q k => q = 61 ∧ k = 5) (fun q => q = 63 ∨ q = 64 ∨ q = 65) (fun _ => False) h
  apply ez_Wp_in
  show ez_gw _ _ _ _ _ _ (cz_94) _ _ _ _ _
  refine gw_skip _ ?_
  have r1 := z_rng (ez_I h 61 5)
  refine gw_ld rfl rfl ?_
  refine gw_ld rfl rfl ?_
  refine gw_ld rfl rfl ?_
  refine z_C (m := 0) rfl rfl (fun x2 ex2 => ?_)
  refine z_C (m := 138) rfl rfl (fun x3 ex3 => ?_)
  refine z_cl rfl rfl rfl rfl rfl rfl rfl rfl rfl rfl rfl (zT S (by decide) rfl) ?_
  refine c_from (a := a) (n := n) (v := x2) (m := x3) S (by rw [(show ez_I h 62 = ez_I h 62 from zW_fn F 62 (by decide) (fun k c => by omega))]; exact hR) (by omega) (fun x4 k5 => ?_)
  rw [(show ez_I h 62 = ez_I h 62 from zW_fn F 62 (by decide) (fun k c => by omega))] at k5
  have rx4 := z_rng x4
  rw [show x2.toInt.toNat = 0 by omega, show x3.toInt.toNat = 138 by omega] at k5
  refine gw_st rfl rfl rfl ?_
  show ez_gw _ _ _ _ _ _ _ _ [some (.ref 61), some (.int a), some (.int n), some (.int x4), none] _ _ _
  refine gw_ld rfl rfl ?_
  refine z_C (m := 3) rfl rfl (fun x6 ex6 => ?_)
  refine z_b2 (fun c7 => ?_) (fun c7 => ?_)
  · have c7 : x4.toInt < x6.toInt := c7
    refine gw_skip _ ?_
    refine gw_ld rfl rfl ?_
    refine z_b1 (fun c8 => ?_) (fun c8 => ?_)
    · have c8 : a.toInt ≤ 0 := c8
      refine gw_skip _ ?_
      refine z_C (m := 0) rfl rfl (fun x9 ex9 => ?_)
      refine gw_st rfl rfl rfl ?_
      show ez_gw _ _ _ _ _ _ _ _ [some (.ref 61), some (.int a), some (.int n), some (.int x4), some (.int x9)] _ _ _
      refine gw_ld rfl rfl ?_
      refine z_C (m := 3) rfl rfl (fun x10 ex10 => ?_)
      refine z_b2 (fun c11 => ?_) (fun c11 => ?_)
      · have c11 : x9.toInt < x10.toInt := c11
        refine gw_skip _ ?_
        refine gw_ld rfl rfl ?_
        refine gw_ld rfl rfl ?_
        refine z_gR (q := 62) (zT S (by decide) rfl) (zRf S (by decide) (by decide) rfl) (by decide) ?_
        refine gw_ld rfl rfl ?_
        refine z_iaV (n := 316) (zT S (by decide) rfl) (zN S (by decide) rfl) (by omega) (zW_f F (by decide) (by omega)) ?_
        generalize ex12 : ez_I h 62 a.toInt.toNat = x12
        have rx12 := z_rng x12
        have yx12 := hR a.toInt.toNat (by omega)
        rw [ex12] at yx12
        refine z_C (m := 0) rfl rfl (fun x13 ex13 => ?_)
        refine z_cl rfl rfl rfl rfl rfl rfl rfl rfl rfl rfl rfl (zT S (by decide) rfl) ?_
        refine c_addS (a := x12) (b := x13) S (by omega) (by omega) hC (fun h14 F15 k16 k17 k18 k19 => ?_)
        have S20 := zW_sh F15 S
        have F21 := zW_tr F (zW_mono F15 (fun q k hk => by first | omega | exact False.elim hk) (fun q hk => by first | omega | exact False.elim hk) (fun q hk => by first | omega | exact False.elim hk))
        have r22 := z_rng (ez_I h14 61 5)
        refine z_C (m := 1) rfl rfl (fun x23 ex23 => ?_)
        refine z_ri ?_
        have htk : (tk (nL (ez_I h 62)) n.toInt.toNat a.toInt.toNat) = (x12.toInt.toNat, x13.toInt.toNat, x23.toInt.toNat) := by
          unfold tk
          rw [if_neg (by omega), if_neg (fun q => by omega)]
          exact p3_eq (by show (ez_I h 62 a.toInt.toNat).toInt.toNat = _; rw [ex12]) (by omega) (by omega)
        rw [htk] at K
        exact K _ _ F21 (by show _ = ((x23.toInt.toNat : Nat) : Int); omega) (by omega) ⟨by rw [k17.1]; show _ = ((x12.toInt.toNat : Nat) : Int); omega, k17.2⟩ ⟨by rw [k18.1]; show _ = ((x13.toInt.toNat : Nat) : Int); omega, k18.2⟩ k19
      · have c11 : ¬ (x9.toInt < x10.toInt) := c11
        exfalso; omega
    · have c8 : ¬ (a.toInt ≤ 0) := c8
      refine gw_ld rfl rfl ?_
      refine gw_ld rfl rfl ?_
      refine gw_ld rfl rfl ?_
      refine gw_ld rfl rfl ?_
      refine z_gR (q := 62) (zT S (by decide) rfl) (zRf S (by decide) (by decide) rfl) (by decide) ?_
      refine gw_ld rfl rfl ?_
      refine z_C (m := 1) rfl rfl (fun x24 ex24 => ?_)
      refine z_sub (by omega) (fun x25 ex25 => ?_)
      refine z_iaV (n := 316) (zT S (by decide) rfl) (zN S (by decide) rfl) (by omega) (zW_f F (by decide) (by omega)) ?_
      generalize ex26 : ez_I h 62 x25.toInt.toNat = x26
      have rx26 := z_rng x26
      have yx26 := hR x25.toInt.toNat (by omega)
      rw [ex26] at yx26
      refine z_C (m := 6) rfl rfl (fun x27 ex27 => ?_)
      refine z_cl rfl rfl rfl rfl rfl rfl rfl rfl rfl rfl rfl (zT S (by decide) rfl) ?_
      refine c_from (a := a) (n := n) (v := x26) (m := x27) S (by rw [(show ez_I h 62 = ez_I h 62 from zW_fn F 62 (by decide) (fun k c => by omega))]; exact hR) (by omega) (fun x28 k29 => ?_)
      rw [(show ez_I h 62 = ez_I h 62 from zW_fn F 62 (by decide) (fun k c => by omega))] at k29
      have rx28 := z_rng x28
      rw [show x26.toInt.toNat = (nL (ez_I h 62)) (a.toInt.toNat - 1) by (show _ = (ez_I h 62 (a.toInt.toNat - 1)).toInt.toNat; rw [← ex26]; congr 3; omega), show x27.toInt.toNat = 6 by omega] at k29
      refine z_go ?_
      refine gw_skip _ ?_
      refine gw_st rfl rfl rfl ?_
      show ez_gw _ _ _ _ _ _ _ _ [some (.ref 61), some (.int a), some (.int n), some (.int x4), some (.int x28)] _ _ _
      refine gw_ld rfl rfl ?_
      refine z_C (m := 3) rfl rfl (fun x30 ex30 => ?_)
      refine z_b2 (fun c31 => ?_) (fun c31 => ?_)
      · have c31 : x28.toInt < x30.toInt := c31
        refine gw_skip _ ?_
        refine gw_ld rfl rfl ?_
        refine gw_ld rfl rfl ?_
        refine z_gR (q := 62) (zT S (by decide) rfl) (zRf S (by decide) (by decide) rfl) (by decide) ?_
        refine gw_ld rfl rfl ?_
        refine z_iaV (n := 316) (zT S (by decide) rfl) (zN S (by decide) rfl) (by omega) (zW_f F (by decide) (by omega)) ?_
        generalize ex32 : ez_I h 62 a.toInt.toNat = x32
        have rx32 := z_rng x32
        have yx32 := hR a.toInt.toNat (by omega)
        rw [ex32] at yx32
        refine z_C (m := 0) rfl rfl (fun x33 ex33 => ?_)
        refine z_cl rfl rfl rfl rfl rfl rfl rfl rfl rfl rfl rfl (zT S (by decide) rfl) ?_
        refine c_addS (a := x32) (b := x33) S (by omega) (by omega) hC (fun h34 F35 k36 k37 k38 k39 => ?_)
        have S40 := zW_sh F35 S
        have F41 := zW_tr F (zW_mono F35 (fun q k hk => by first | omega | exact False.elim hk) (fun q hk => by first | omega | exact False.elim hk) (fun q hk => by first | omega | exact False.elim hk))
        have r42 := z_rng (ez_I h34 61 5)
        refine z_C (m := 1) rfl rfl (fun x43 ex43 => ?_)
        refine z_ri ?_
        have htk : (tk (nL (ez_I h 62)) n.toInt.toNat a.toInt.toNat) = (x32.toInt.toNat, x33.toInt.toNat, x43.toInt.toNat) := by
          unfold tk
          rw [if_neg (by omega), if_neg (fun q => by omega)]
          exact p3_eq (by show (ez_I h 62 a.toInt.toNat).toInt.toNat = _; rw [ex32]) (by omega) (by omega)
        rw [htk] at K
        exact K _ _ F41 (by show _ = ((x43.toInt.toNat : Nat) : Int); omega) (by omega) ⟨by rw [k37.1]; show _ = ((x32.toInt.toNat : Nat) : Int); omega, k37.2⟩ ⟨by rw [k38.1]; show _ = ((x33.toInt.toNat : Nat) : Int); omega, k38.2⟩ k39
      · have c31 : ¬ (x28.toInt < x30.toInt) := c31
        refine gw_ld rfl rfl ?_
        refine z_C (m := 16) rfl rfl (fun x44 ex44 => ?_)
        refine gw_ld rfl rfl ?_
        refine z_C (m := 3) rfl rfl (fun x45 ex45 => ?_)
        refine z_sub (by omega) (fun x46 ex46 => ?_)
        refine z_cl rfl rfl rfl rfl rfl rfl rfl rfl rfl rfl rfl (zT S (by decide) rfl) ?_
        refine c_addS (a := x44) (b := x46) S (by omega) (by omega) hC (fun h47 F48 k49 k50 k51 k52 => ?_)
        have S53 := zW_sh F48 S
        have F54 := zW_tr F (zW_mono F48 (fun q k hk => by first | omega | exact False.elim hk) (fun q hk => by first | omega | exact False.elim hk) (fun q hk => by first | omega | exact False.elim hk))
        have r55 := z_rng (ez_I h47 61 5)
        refine gw_ld rfl rfl ?_
        refine z_ri ?_
        have htk : (tk (nL (ez_I h 62)) n.toInt.toNat a.toInt.toNat) = (x44.toInt.toNat, x46.toInt.toNat, x28.toInt.toNat) := by
          unfold tk
          rw [if_neg (by omega), if_pos ⟨by omega, by omega⟩]
          exact p3_eq (by omega) (by omega) (by omega)
        rw [htk] at K
        exact K _ _ F54 (by show _ = ((x28.toInt.toNat : Nat) : Int); omega) (by omega) ⟨by rw [k50.1]; show _ = ((x44.toInt.toNat : Nat) : Int); omega, k50.2⟩ ⟨by rw [k51.1]; show _ = ((x46.toInt.toNat : Nat) : Int); omega, k51.2⟩ k52
  · have c7 : ¬ (x4.toInt < x6.toInt) := c7
    refine gw_ld rfl rfl ?_
    refine z_C (m := 10) rfl rfl (fun x56 ex56 => ?_)
    refine z_b2 (fun c57 => ?_) (fun c57 => ?_)
    · have c57 : x56.toInt < x4.toInt := c57
      refine gw_skip _ ?_
      refine z_C (m := 18) rfl rfl (fun x58 ex58 => ?_)
      refine gw_st rfl rfl rfl ?_
      show ez_gw _ _ _ _ _ _ _ _ [some (.ref 61), some (.int a), some (.int n), some (.int x4), some (.int x58)] _ _ _
      refine gw_ld rfl rfl ?_
      refine gw_ld rfl rfl ?_
      refine gw_ld rfl rfl ?_
      refine z_gs ?_
      refine gw_ld rfl rfl ?_
      refine z_C (m := 16) rfl rfl (fun x59 ex59 => ?_)
      refine z_sub (by omega) (fun x60 ex60 => ?_)
      refine z_iaE (n := 3) (hE 6) (by omega) ?_
      generalize ex61 : (tz_ar (6 + 1)).getD x60.toInt.toNat 0 = x61
      have rx61 := z_rng x61
      have ox61 := tz_RB (n := x60.toInt.toNat) (by omega)
      rw [ex61] at ox61
      have hrb : RBf x60.toInt.toNat = 11 := by rw [show x60.toInt.toNat = 2 by omega]; rfl
      refine z_sub (by omega) (fun x62 ex62 => ?_)
      refine z_cl rfl rfl rfl rfl rfl rfl rfl rfl rfl rfl rfl (zT S (by decide) rfl) ?_
      refine c_addS (a := x58) (b := x62) S (by omega) (by omega) hC (fun h63 F64 k65 k66 k67 k68 => ?_)
      have S69 := zW_sh F64 S
      have F70 := zW_tr F (zW_mono F64 (fun q k hk => by first | omega | exact False.elim hk) (fun q hk => by first | omega | exact False.elim hk) (fun q hk => by first | omega | exact False.elim hk))
      have r71 := z_rng (ez_I h63 61 5)
      refine gw_ld rfl rfl ?_
      refine z_ri ?_
      have htk : (tk (nL (ez_I h 62)) n.toInt.toNat a.toInt.toNat) = (x58.toInt.toNat, x62.toInt.toNat, x4.toInt.toNat) := by
        unfold tk
        rw [if_pos (by omega)]
        first | (rw [if_pos (by omega)]; exact p3_eq (by omega) (by omega) (by omega)) | (rw [if_neg (by omega)]; exact p3_eq (by omega) (by omega) (by omega))
      rw [htk] at K
      exact K _ _ F70 (by show _ = ((x4.toInt.toNat : Nat) : Int); omega) (by omega) ⟨by rw [k66.1]; show _ = ((x58.toInt.toNat : Nat) : Int); omega, k66.2⟩ ⟨by rw [k67.1]; show _ = ((x62.toInt.toNat : Nat) : Int); omega, k67.2⟩ k68
    · have c57 : ¬ (x56.toInt < x4.toInt) := c57
      refine z_C (m := 17) rfl rfl (fun x72 ex72 => ?_)
      refine z_go ?_
      refine gw_skip _ ?_
      refine gw_st rfl rfl rfl ?_
      show ez_gw _ _ _ _ _ _ _ _ [some (.ref 61), some (.int a), some (.int n), some (.int x4), some (.int x72)] _ _ _
      refine gw_ld rfl rfl ?_
      refine gw_ld rfl rfl ?_
      refine gw_ld rfl rfl ?_
      refine z_gs ?_
      refine gw_ld rfl rfl ?_
      refine z_C (m := 16) rfl rfl (fun x73 ex73 => ?_)
      refine z_sub (by omega) (fun x74 ex74 => ?_)
      refine z_iaE (n := 3) (hE 6) (by omega) ?_
      generalize ex75 : (tz_ar (6 + 1)).getD x74.toInt.toNat 0 = x75
      have rx75 := z_rng x75
      have ox75 := tz_RB (n := x74.toInt.toNat) (by omega)
      rw [ex75] at ox75
      have hrb : RBf x74.toInt.toNat = 3 := by rw [show x74.toInt.toNat = 1 by omega]; rfl
      refine z_sub (by omega) (fun x76 ex76 => ?_)
      refine z_cl rfl rfl rfl rfl rfl rfl rfl rfl rfl rfl rfl (zT S (by decide) rfl) ?_
      refine c_addS (a := x72) (b := x76) S (by omega) (by omega) hC (fun h77 F78 k79 k80 k81 k82 => ?_)
      have S83 := zW_sh F78 S
      have F84 := zW_tr F (zW_mono F78 (fun q k hk => by first | omega | exact False.elim hk) (fun q hk => by first | omega | exact False.elim hk) (fun q hk => by first | omega | exact False.elim hk))
      have r85 := z_rng (ez_I h77 61 5)
      refine gw_ld rfl rfl ?_
      refine z_ri ?_
      have htk : (tk (nL (ez_I h 62)) n.toInt.toNat a.toInt.toNat) = (x72.toInt.toNat, x76.toInt.toNat, x4.toInt.toNat) := by
        unfold tk
        rw [if_pos (by omega)]
        first | (rw [if_pos (by omega)]; exact p3_eq (by omega) (by omega) (by omega)) | (rw [if_neg (by omega)]; exact p3_eq (by omega) (by omega) (by omega))
      rw [htk] at K
      exact K _ _ F84 (by show _ = ((x4.toInt.toNat : Nat) : Int); omega) (by omega) ⟨by rw [k80.1]; show _ = ((x72.toInt.toNat : Nat) : Int); omega, k80.2⟩ ⟨by rw [k81.1]; show _ = ((x76.toInt.toNat : Nat) : Int); omega, k81.2⟩ k82
set_option maxRecDepth 4000 in
set_option maxHeartbeats 2000000 in
theorem c_tellRow_L0 {E : Nat → Nat × (Nat → Int32)} {d : Nat} {Q : ez_Q} {h : ez_H} {n : Int32} (S : zSh h) (hE : zE E) (hR : aR (ez_I h 62) n.toInt.toNat 0 15) (hn : 0 ≤ n.toInt ∧ n.toInt ≤ 316) (K : ∀ h2, zW (fun q k => q = 61 ∧ k = 5) (fun q => q = 63 ∨ q = 64 ∨ q = 65) (fun _ => False) h h2 → ∀ c : Nat, (ez_I h2 61 5).toInt = c → tp (nL (ez_I h 62)) n.toInt.toNat c = n.toInt.toNat → ltT (nL (ez_I h 62)) n.toInt.toNat c → teI (ez_I h2 63) (ez_I h2 64) (nL (ez_I h 62)) n.toInt.toNat c → ctI (ez_I h2 65) (tC (nL (ez_I h 62)) n.toInt.toNat c) 19 → Q (.inl none) h2) : ∀ N : Nat, (∀ (h2 : ez_H) (t : Int32) (i : Int32) (c : Nat), zW (fun q k => q = 61 ∧ k = 5) (fun q => q = 63 ∨ q = 64 ∨ q = 65) (fun _ => False) h h2 → (i.toInt = c ∧ (ez_I h2 61 5).toInt = c ∧ t.toInt = (tp (nL (ez_I h 62)) n.toInt.toNat c : Nat) ∧ i.toInt ≤ n.toInt) → teI (ez_I h2 63) (ez_I h2 64) (nL (ez_I h 62)) n.toInt.toNat c → ctI (ez_I h2 65) (tC (nL (ez_I h 62)) n.toInt.toNat c) 19 → ltT (nL (ez_I h 62)) n.toInt.toNat c → (1000 - i.toInt) < (N : Int) → pw E (d + 2) 93 17 [some (.ref 61), some (.int n), some (.int t), some (.int i)] [] h2 Q) := by
  intro N
  induction N with
  | zero => exact fun h2 t i c F hinv A_te A_tc A_lt hm => absurd hm (by have w_t := z_rng t; have w_i := z_rng i; have gn := z_rng n; omega)
  | succ N ih =>
    refine fun h2 t i c F hinv A_te A_tc A_lt hm => ?_
    · skip
      have w_t := z_rng t
      have w_i := z_rng i
      have gn := z_rng n
      have S2 := zW_sh F S
      have hf : ∀ j, j < n.toInt.toNat → (nL (ez_I h 62)) j ≤ 15 := fun j hj => by have := hR j (by omega); show (ez_I h 62 j).toInt.toNat ≤ 15; omega
      have htp := tp_k hf c A_lt
      have hts : tp (nL (ez_I h 62)) n.toInt.toNat (c + 1) = tp (nL (ez_I h 62)) n.toInt.toNat c + (tk (nL (ez_I h 62)) n.toInt.toNat (tp (nL (ez_I h 62)) n.toInt.toNat c)).2.2 := rfl
      have htk : tp (nL (ez_I h 62)) n.toInt.toNat c < n.toInt.toNat → _ := fun q => tk_ok q hf
      apply ez_Wp_in
      show ez_gw _ _ _ _ _ _ (cz_93) _ _ _ _ _
      refine gw_skip _ ?_
      have r1 := z_rng (ez_I h2 61 5)
      refine gw_ld rfl rfl ?_
      refine gw_ld rfl rfl ?_
      refine z_b2 (fun c2 => ?_) (fun c2 => ?_)
      · have c2 : n.toInt ≤ i.toInt := c2
        refine gw_skip _ ?_
        refine z_rv ?_
        exact K _ F c (by omega) (by omega) A_lt A_te A_tc
      · have c2 : ¬ (n.toInt ≤ i.toInt) := c2
        refine gw_ld rfl rfl ?_
        refine gw_ld rfl rfl ?_
        refine z_b2 (fun c3 => ?_) (fun c3 => ?_)
        · have c3 : n.toInt ≤ t.toInt := c3
          refine gw_skip _ ?_
          refine z_rv ?_
          exact K _ F c (by omega) (by omega) A_lt A_te A_tc
        · have c3 : ¬ (n.toInt ≤ t.toInt) := c3
          refine gw_ld rfl rfl ?_
          refine gw_ld rfl rfl ?_
          refine gw_ld rfl rfl ?_
          refine gw_ld rfl rfl ?_
          refine z_cl rfl rfl rfl rfl rfl rfl rfl rfl rfl rfl rfl (zT S2 (by decide) rfl) ?_
          refine c_tellAt (a := t) (n := n) S2 hE (by rw [(show ez_I h2 62 = ez_I h 62 from zW_fn F 62 (by decide) (fun k c => by omega))]; exact hR) (by omega) (by omega) (ctI_aR A_tc (fun z => by have := tC_le (nL (ez_I h 62)) n.toInt.toNat c z; omega)) (fun h4 x6 F5 k7 k8 k9 k10 k11 => ?_)
          have rx6 := z_rng x6
          rw [(show ez_I h2 62 = ez_I h 62 from zW_fn F 62 (by decide) (fun k c => by omega)), show t.toInt.toNat = tp (nL (ez_I h 62)) n.toInt.toNat c by omega] at k7 k9 k10 k11
          rw [show (ez_I h2 61 5).toInt.toNat = c by omega] at k9 k10
          have S12 := zW_sh F5 S2
          have F13 := zW_tr F (zW_mono F5 (fun q k hk => by first | omega | exact False.elim hk) (fun q hk => by first | omega | exact False.elim hk) (fun q hk => by first | omega | exact False.elim hk))
          have r14 := z_rng (ez_I h4 61 5)
          refine z_add (by have := htk (by omega); omega) (fun x15 ex15 => ?_)
          refine gw_st rfl rfl rfl ?_
          show ez_gw _ _ _ _ _ _ _ _ [some (.ref 61), some (.int n), some (.int x15), some (.int i)] _ _ _
          refine z_inc rfl (by rw [show (1 : Int32).toInt = 1 from rfl]; omega) (fun x16 ex16 => ?_)
          rw [show (1 : Int32).toInt = 1 from rfl] at ex16
          show ez_gw _ _ _ _ _ _ _ _ [some (.ref 61), some (.int n), some (.int x15), some (.int x16)] _ _ _
          refine z_go ?_
          exact ih h4 x15 x16 (c + 1) F13 (by have := htk (by omega); omega) ((teI_s A_te k9.1 k10.1 k9.2 k10.2 rfl rfl rfl)) ((ctI_upE A_tc k11 (tC_y _ _ _) (fun q hq => tC_n hq))) (ltT_s A_lt (by omega) rfl) (by omega)
set_option maxRecDepth 4000 in
set_option maxHeartbeats 2000000 in
theorem c_tellRow {E : Nat → Nat × (Nat → Int32)} {d : Nat} {Q : ez_Q} {h : ez_H} {n : Int32} (S : zSh h) (hE : zE E) (hR : aR (ez_I h 62) n.toInt.toNat 0 15) (hn : 0 ≤ n.toInt ∧ n.toInt ≤ 316) (K : ∀ h2, zW (fun q k => q = 61 ∧ k = 5) (fun q => q = 63 ∨ q = 64 ∨ q = 65) (fun _ => False) h h2 → ∀ c : Nat, (ez_I h2 61 5).toInt = c → tp (nL (ez_I h 62)) n.toInt.toNat c = n.toInt.toNat → ltT (nL (ez_I h 62)) n.toInt.toNat c → teI (ez_I h2 63) (ez_I h2 64) (nL (ez_I h 62)) n.toInt.toNat c → ctI (ez_I h2 65) (tC (nL (ez_I h 62)) n.toInt.toNat c) 19 → Q (.inl none) h2) : pw E (d + 2) 93 0 [some (.ref 61), some (.int n), none, none] [] h Q := by
  have gn := z_rng n
  have F := zW_refl (fun q k => q = 61 ∧ k = 5) (fun q => q = 63 ∨ q = 64 ∨ q = 65) (fun _ => False) h
  apply ez_Wp_in
  show ez_gw _ _ _ _ _ _ (cz_93) _ _ _ _ _
  refine gw_skip _ ?_
  have r1 := z_rng (ez_I h 61 5)
  refine gw_ld rfl rfl ?_
  refine z_gR (q := 65) (zT S (by decide) rfl) (zRf S (by decide) (by decide) rfl) (by decide) ?_
  refine z_C (m := 0) rfl rfl (fun x2 ex2 => ?_)
  refine z_cl rfl rfl rfl rfl rfl rfl rfl rfl rfl rfl rfl (trivial) ?_
  refine wp_fill (zT S (by decide) rfl) (by rw [show ez_l h 65 = 19 from zN S (by decide) rfl]; omega) ?_
  generalize e4 : ez_rowI h 65 (pf_fill (ez_I h 65) (ez_l h 65) x2) = h3
  have e4 := e4.symm
  have A5 := zIr_at e4 (show ez_l h 65 = 19 from zN S (by decide) rfl)
  have S6 := zSh_row S e4
  have F7 := zW_row F e4 (by omega)
  have f8 : ez_I h3 61 5 = (ez_I h 61 5) := (zI_row e4 (by omega)).trans (rfl)
  have A9 : ctI (ez_I h3 65) (tC (nL (ez_I h 62)) n.toInt.toNat 0) 19 := ctI_z A5 (by omega) (fun _ => rfl)
  refine gw_ld rfl rfl ?_
  refine z_C (m := 0) rfl rfl (fun x10 ex10 => ?_)
  refine z_pI (zT S6 (by decide) rfl) (fun h11 e12 => ?_)
  have S13 := zSh_set S6 e12
  have F14 := zW_setF F7 e12 (by omega)
  have f15 : ez_I h11 61 5 = x10 := zI_eq e12
  have A16 : ctI (ez_I h11 65) (tC (nL (ez_I h 62)) n.toInt.toNat 0) 19 := by rw [zI_fn e12 65 (by decide)]; exact A9
  clear A9
  refine z_C (m := 0) rfl rfl (fun x17 ex17 => ?_)
  refine gw_st rfl rfl rfl ?_
  show ez_gw _ _ _ _ _ _ _ _ [some (.ref 61), some (.int n), some (.int x17), none] _ _ _
  refine z_C (m := 0) rfl rfl (fun x18 ex18 => ?_)
  refine gw_st rfl rfl rfl ?_
  show ez_gw _ _ _ _ _ _ _ _ [some (.ref 61), some (.int n), some (.int x17), some (.int x18)] _ _ _
  have t19 := congrArg Int32.toInt (f15)
  exact ez_Wp_at ((c_tellRow_L0 (n := n) S hE hR hn K (((1000 - x18.toInt)).toNat + 1)) h11 x17 x18 0 F14 (⟨by omega, by omega, by show x17.toInt = ((0 : Nat) : Int); omega, by omega⟩) (teI_0 _ _ _ _) (A16) (ltT_0 _ _) (by omega)) rfl
