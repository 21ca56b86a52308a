/-! PRINTED by wip/pack: the model: kinds, bits, codes -/
set_option maxRecDepth 4000 in
set_option maxHeartbeats 20000000 in
theorem d_kL_L0 {E : Nat → Nat × (Nat → Int32)} {d : Nat} {Q : ez_Q} {h : ez_H} {n : Int32} (S : zSh h) (hT : ctI (ez_I h 92) LBf 29) (hn : 3 ≤ n.toInt ∧ n.toInt ≤ 258) (K : ∀ x : Int32, x.toInt = (kL n.toInt.toNat : Nat) → Q (.inl (some (.int x))) h) : ∀ N : Nat, (∀ (h2 : ez_H) (k : Int32) , zW (fun _ _ => False) (fun _ => False) (fun _ => False) h h2 → (0 ≤ k.toInt ∧ k.toInt ≤ 28) → (∀ j : Nat, k.toInt < j → j ≤ 28 → n.toInt.toNat < LBf j) → (k.toInt + 1) < (N : Int) → pw E d 33 3 [some (.ref 71), some (.int n), some (.int k)] [] h2 Q) := by
  intro N
  induction N with
  | zero => exact fun h2 k  F hinv A_hi hm => absurd hm (by have w_k := z_rng k; have gn := z_rng n; omega)
  | succ N ih =>
    refine fun h2 k  F hinv A_hi hm => ?_
    · skip
      have w_k := z_rng k
      have gn := z_rng n
      have S2 := zW_sh F S
      have hb0 : LBf 0 = 3 := rfl
      apply ez_Wp_in
      show ez_gw _ _ _ _ _ _ (cz_33) _ _ _ _ _
      refine gw_skip _ ?_
      refine gw_ld rfl rfl ?_
      refine z_gR (q := 92) (zT S2 (by decide) rfl) (zRf S2 (by decide) (by decide) rfl) (by decide) ?_
      refine gw_ld rfl rfl ?_
      refine z_iaV (n := 29) (zT S2 (by decide) rfl) (zN S2 (by decide) rfl) (by omega) (zW_f F (fun c => c) (fun c => c)) ?_
      generalize ex1 : ez_I h 92 k.toInt.toNat = x1
      have rx1 := z_rng x1
      have yx1 := hT k.toInt.toNat (by omega)
      rw [ex1] at yx1
      refine gw_ld rfl rfl ?_
      refine z_b2 (fun c2 => ?_) (fun c2 => ?_)
      · have c2 : x1.toInt ≤ n.toInt := c2
        refine gw_skip _ ?_
        refine gw_ld rfl rfl ?_
        refine z_ri ?_
        exact zW_Q F (K _ (by show k.toInt = (kf LBf n.toInt.toNat 28 : Nat); rw [kf_is 28 (x := k.toInt.toNat) (by omega) (.inl (by omega)) (fun j h1 h2 => A_hi j (by omega) h2)]; omega))
      · have c2 : ¬ (x1.toInt ≤ n.toInt) := c2
        refine z_inc rfl (by rw [show ((-1) : Int32).toInt = (-1) from rfl]; omega) (fun x3 ex3 => ?_)
        rw [show ((-1) : Int32).toInt = (-1) from rfl] at ex3
        show ez_gw _ _ _ _ _ _ _ _ [some (.ref 71), some (.int n), some (.int x3)] _ _ _
        refine z_go ?_
        exact ih h2 x3 F (by have : k.toInt ≠ 0 := (fun c => by rw [show k.toInt.toNat = 0 by omega] at yx1; omega); omega) (fun j h1 h2 => by
          by_cases c : j = k.toInt.toNat
          · subst c; omega
          · exact A_hi j (by omega) h2) (by omega)
set_option maxRecDepth 4000 in
set_option maxHeartbeats 20000000 in
theorem d_kL {E : Nat → Nat × (Nat → Int32)} {d : Nat} {Q : ez_Q} {h : ez_H} {n : Int32} (S : zSh h) (hT : ctI (ez_I h 92) LBf 29) (hn : 3 ≤ n.toInt ∧ n.toInt ≤ 258) (K : ∀ x : Int32, x.toInt = (kL n.toInt.toNat : Nat) → Q (.inl (some (.int x))) h) : pw E d 33 0 [some (.ref 71), some (.int n), none] [] h Q := by
  have gn := z_rng n
  have F := zW_refl (fun _ _ => False) (fun _ => False) (fun _ => False) h
  apply ez_Wp_in
  show ez_gw _ _ _ _ _ _ (cz_33) _ _ _ _ _
  refine gw_skip _ ?_
  refine z_C (m := 28) rfl rfl (fun x1 ex1 => ?_)
  refine gw_st rfl rfl rfl ?_
  show ez_gw _ _ _ _ _ _ _ _ [some (.ref 71), some (.int n), some (.int x1)] _ _ _
  exact ez_Wp_at ((d_kL_L0 (n := n) S hT hn K (((x1.toInt + 1)).toNat + 1)) h x1 F (by omega) (fun j h1 h2 => by omega) (by omega)) rfl
set_option maxRecDepth 4000 in
set_option maxHeartbeats 20000000 in
theorem d_kD_L0 {E : Nat → Nat × (Nat → Int32)} {d : Nat} {Q : ez_Q} {h : ez_H} {n : Int32} (S : zSh h) (hT : ctI (ez_I h 94) DBf 30) (hn : 1 ≤ n.toInt ∧ n.toInt ≤ 4096) (K : ∀ x : Int32, x.toInt = (kD n.toInt.toNat : Nat) → Q (.inl (some (.int x))) h) : ∀ N : Nat, (∀ (h2 : ez_H) (k : Int32) , zW (fun _ _ => False) (fun _ => False) (fun _ => False) h h2 → (0 ≤ k.toInt ∧ k.toInt ≤ 29) → (∀ j : Nat, k.toInt < j → j ≤ 29 → n.toInt.toNat < DBf j) → (k.toInt + 1) < (N : Int) → pw E d 34 3 [some (.ref 71), some (.int n), some (.int k)] [] h2 Q) := by
  intro N
  induction N with
  | zero => exact fun h2 k  F hinv A_hi hm => absurd hm (by have w_k := z_rng k; have gn := z_rng n; omega)
  | succ N ih =>
    refine fun h2 k  F hinv A_hi hm => ?_
    · skip
      have w_k := z_rng k
      have gn := z_rng n
      have S2 := zW_sh F S
      have hb0 : DBf 0 = 1 := rfl
      apply ez_Wp_in
      show ez_gw _ _ _ _ _ _ (cz_34) _ _ _ _ _
      refine gw_skip _ ?_
      refine gw_ld rfl rfl ?_
      refine z_gR (q := 94) (zT S2 (by decide) rfl) (zRf S2 (by decide) (by decide) rfl) (by decide) ?_
      refine gw_ld rfl rfl ?_
      refine z_iaV (n := 30) (zT S2 (by decide) rfl) (zN S2 (by decide) rfl) (by omega) (zW_f F (fun c => c) (fun c => c)) ?_
      generalize ex1 : ez_I h 94 k.toInt.toNat = x1
      have rx1 := z_rng x1
      have yx1 := hT k.toInt.toNat (by omega)
      rw [ex1] at yx1
      refine gw_ld rfl rfl ?_
      refine z_b2 (fun c2 => ?_) (fun c2 => ?_)
      · have c2 : x1.toInt ≤ n.toInt := c2
        refine gw_skip _ ?_
        refine gw_ld rfl rfl ?_
        refine z_ri ?_
        exact zW_Q F (K _ (by show k.toInt = (kf DBf n.toInt.toNat 29 : Nat); rw [kf_is 29 (x := k.toInt.toNat) (by omega) (.inl (by omega)) (fun j h1 h2 => A_hi j (by omega) h2)]; omega))
      · have c2 : ¬ (x1.toInt ≤ n.toInt) := c2
        refine z_inc rfl (by rw [show ((-1) : Int32).toInt = (-1) from rfl]; omega) (fun x3 ex3 => ?_)
        rw [show ((-1) : Int32).toInt = (-1) from rfl] at ex3
        show ez_gw _ _ _ _ _ _ _ _ [some (.ref 71), some (.int n), some (.int x3)] _ _ _
        refine z_go ?_
        exact ih h2 x3 F (by have : k.toInt ≠ 0 := (fun c => by rw [show k.toInt.toNat = 0 by omega] at yx1; omega); omega) (fun j h1 h2 => by
          by_cases c : j = k.toInt.toNat
          · subst c; omega
          · exact A_hi j (by omega) h2) (by omega)
set_option maxRecDepth 4000 in
set_option maxHeartbeats 20000000 in
theorem d_kD {E : Nat → Nat × (Nat → Int32)} {d : Nat} {Q : ez_Q} {h : ez_H} {n : Int32} (S : zSh h) (hT : ctI (ez_I h 94) DBf 30) (hn : 1 ≤ n.toInt ∧ n.toInt ≤ 4096) (K : ∀ x : Int32, x.toInt = (kD n.toInt.toNat : Nat) → Q (.inl (some (.int x))) h) : pw E d 34 0 [some (.ref 71), some (.int n), none] [] h Q := by
  have gn := z_rng n
  have F := zW_refl (fun _ _ => False) (fun _ => False) (fun _ => False) h
  apply ez_Wp_in
  show ez_gw _ _ _ _ _ _ (cz_34) _ _ _ _ _
  refine gw_skip _ ?_
  refine z_C (m := 29) rfl rfl (fun x1 ex1 => ?_)
  refine gw_st rfl rfl rfl ?_
  show ez_gw _ _ _ _ _ _ _ _ [some (.ref 71), some (.int n), some (.int x1)] _ _ _
  exact ez_Wp_at ((d_kD_L0 (n := n) S hT hn K (((x1.toInt + 1)).toNat + 1)) h x1 F (by omega) (fun j h1 h2 => by omega) (by omega)) rfl
set_option maxRecDepth 4000 in
set_option maxHeartbeats 20000000 in
theorem d_wb_L0 {E : Nat → Nat × (Nat → Int32)} {d : Nat} {Q : ez_Q} {h : ez_H} {v : Int32} {n : Int32} (S : zSh h) {s : Nat × Nat} (hs : mst (ez_I h 75) (ez_I h 71 16).toInt s) (hg : aR (ez_I h 75) 8000 (-128) 127) (hn : 0 ≤ n.toInt ∧ n.toInt ≤ 16) (hr : s.2 + n.toInt.toNat ≤ 64000) (K : ∀ h2, zW (fun q k => q = 71 ∧ k = 16) (fun q => q = 75) (fun _ => False) h h2 → mst (ez_I h2 75) (ez_I h2 71 16).toInt (wr s ((v.toInt % 65536).toNat % 2 ^ n.toInt.toNat) n.toInt.toNat) → aR (ez_I h2 75) 8000 (-128) 127 → Q (.inl none) h2) : ∀ N : Nat, (∀ (h2 : ez_H) (k : Int32) , zW (fun q k => q = 71 ∧ k = 16) (fun q => q = 75) (fun _ => False) h h2 → (0 ≤ k.toInt ∧ k.toInt ≤ n.toInt) → mst (ez_I h2 75) (ez_I h2 71 16).toInt (wr s ((v.toInt % 65536).toNat % 2 ^ k.toInt.toNat) k.toInt.toNat) → aR (ez_I h2 75) 8000 (-128) 127 → (100 - k.toInt) < (N : Int) → pw E d 38 2 [some (.ref 71), some (.int v), some (.int n), some (.int k)] [] h2 Q) := by
  intro N
  induction N with
  | zero => exact fun h2 k  F hinv A_st A_rg hm => absurd hm (by have w_k := z_rng k; have gv := z_rng v; have gn := z_rng n; omega)
  | succ N ih =>
    refine fun h2 k  F hinv A_st A_rg hm => ?_
    · skip
      have w_k := z_rng k
      have gv := z_rng v
      have gn := z_rng n
      have S2 := zW_sh F S
      have hq1 := A_st.1
      have hq2 : (ez_I h2 71 16).toInt = ((s.2 + k.toInt.toNat : Nat) : Int) := hq1
      apply ez_Wp_in
      show ez_gw _ _ _ _ _ _ (cz_38) _ _ _ _ _
      refine gw_skip _ ?_
      have r1 := z_rng (ez_I h2 71 16)
      refine gw_ld rfl rfl ?_
      refine gw_ld rfl rfl ?_
      refine z_b2 (fun c2 => ?_) (fun c2 => ?_)
      · have c2 : n.toInt ≤ k.toInt := c2
        refine gw_skip _ ?_
        refine z_rv ?_
        have he : n.toInt.toNat = k.toInt.toNat := by omega
        rw [he] at K
        exact K _ F A_st A_rg
      · have c2 : ¬ (n.toInt ≤ k.toInt) := c2
        refine gw_ld rfl rfl ?_
        refine z_gI2 (by decide) (zT S2 (by decide) rfl) (rfl) ?_
        refine z_C (m := 8) rfl rfl (fun x3 ex3 => ?_)
        refine z_rmP (c := 8) ex3 (by decide) (by omega) (fun x4 ex4 => ?_)
        refine z_b1 (fun c5 => ?_) (fun c5 => ?_)
        · have c5 : x4.toInt ≠ 0 := c5
          refine gw_skip _ ?_
          refine gw_ld rfl rfl ?_
          refine z_gR (q := 75) (zT S2 (by decide) rfl) (zRf S2 (by decide) (by decide) rfl) (by decide) ?_
          refine gw_ld rfl rfl ?_
          refine z_gI2 (by decide) (zT S2 (by decide) rfl) (rfl) ?_
          refine z_C (m := 8) rfl rfl (fun x6 ex6 => ?_)
          refine z_dvP (c := 8) ex6 (by decide) (by omega) (fun x7 ex7 => ?_)
          refine gw_ld rfl rfl ?_
          refine z_gR (q := 75) (zT S2 (by decide) rfl) (zRf S2 (by decide) (by decide) rfl) (by decide) ?_
          refine gw_ld rfl rfl ?_
          refine z_gI2 (by decide) (zT S2 (by decide) rfl) (rfl) ?_
          refine z_C (m := 8) rfl rfl (fun x8 ex8 => ?_)
          refine z_dvP (c := 8) ex8 (by decide) (by omega) (fun x9 ex9 => ?_)
          refine z_ba (n := 8000) (zT S2 (by decide) rfl) (zN S2 (by decide) rfl) (by omega) ?_
          generalize ex10 : ez_I h2 75 x9.toInt.toNat = x10
          have rx10 := z_rng x10
          have yx10 := A_rg x9.toInt.toNat (by omega)
          rw [ex10] at yx10
          have hcur : 0 ≤ x10.toInt ∧ x10.toInt < 2 ^ ((ez_I h2 71 16).toInt.toNat % 8) := by
            have := mst_cur A_st (i := x9.toInt.toNat) (j := (ez_I h2 71 16).toInt.toNat % 8) (by omega) (by omega) (by omega) (by rw [ex10]; omega)
            rw [ex10] at this
            exact this
          refine gw_ld rfl rfl ?_
          refine gw_ld rfl rfl ?_
          refine z_2 rfl (fun x11 ex11 => ?_)
          have rx11 := z_rng x11
          have vx11 := n_shr (n := k.toInt.toNat) (by omega) (by omega) ex11
          refine z_C (m := 1) rfl rfl (fun x12 ex12 => ?_)
          refine z_and (fun x13 ex13 ux13 wx13 => ?_)
          have rx13 := z_rng x13
          replace ux13 := ux13 (by omega)
          clear wx13
          have vx13 := n_mask (k := 1) (by decide) (by omega) ex13
          rw [show (2 : Int) ^ 1 = 2 from rfl, vx11] at vx13
          have v2x13 := vx13
          rw [n_low (by omega)] at v2x13
          refine gw_ld rfl rfl ?_
          refine z_gI2 (by decide) (zT S2 (by decide) rfl) (rfl) ?_
          refine z_C (m := 8) rfl rfl (fun x14 ex14 => ?_)
          refine z_rmP (c := 8) ex14 (by decide) (by omega) (fun x15 ex15 => ?_)
          refine z_2 rfl (fun x16 ex16 => ?_)
          have rx16 := z_rng x16
          refine z_2 rfl (fun x17 ex17 => ?_)
          have rx17 := z_rng x17
          obtain ⟨hsb, hsb2, hsb3⟩ := n_setbit hcur (by omega) (j := (ez_I h2 71 16).toInt.toNat % 8) (by omega) (by omega) ex16 ex17
          refine z_1 rfl (fun x18 ex18 => ?_)
          have rx18 := z_rng x18
          refine z_bs (n := 8000) (zT S2 (by decide) rfl) (zN S2 (by decide) rfl) (by omega) (fun h19 e20 => ?_)
          have S22 := zSh_set S2 e20
          have F23 := zW_setA F e20 (by omega)
          have f24 : ez_I h19 71 16 = (ez_I h2 71 16) := (zI_ne e20 (by omega)).trans (rfl)
          have A25 : aR (ez_I h19 75) 8000 (-128) 127 := aR_up A_rg e20 (n_i2b_rng _)
          have hg1 : (ez_I h19 75 x7.toInt.toNat).toInt % 256 = (if (ez_I h2 71 16).toInt.toNat % 8 = 0 then 0 else (ez_I h2 75 x7.toInt.toNat).toInt % 256) + x13.toInt * 2 ^ ((ez_I h2 71 16).toInt.toNat % 8) := by rw [if_neg (by omega), zI_eq e20, n_i2b, ex18, n_i2b, show ez_I h2 75 x7.toInt.toNat = x10 from (by rw [← ex10]; congr 1; omega)]; omega
          have hg2 : ∀ k, k ≠ x7.toInt.toNat → ez_I h19 75 k = ez_I h2 75 k := fun k hk => zI_ne e20 (by omega)
          refine gw_ld rfl rfl ?_
          refine gw_op rfl ?_
          refine z_gI2 (by decide) (zT S22 (by decide) rfl) (f24) ?_
          refine z_C (m := 1) rfl rfl (fun x26 ex26 => ?_)
          refine z_add (by omega) (fun x27 ex27 => ?_)
          refine z_pI (zT S22 (by decide) rfl) (fun h28 e29 => ?_)
          have S30 := zSh_set S22 e29
          have F31 := zW_setF F23 e29 (by omega)
          have f32 : ez_I h28 71 16 = x27 := zI_eq e29
          have A33 : aR (ez_I h28 75) 8000 (-128) 127 := by rw [zI_fn e29 75 (by decide)]; exact A25
          have A34 : (ez_I h28 75 x7.toInt.toNat).toInt % 256 = (if (ez_I h2 71 16).toInt.toNat % 8 = 0 then 0 else (ez_I h2 75 x7.toInt.toNat).toInt % 256) + x13.toInt * 2 ^ ((ez_I h2 71 16).toInt.toNat % 8) := by rw [zI_fn e29 75 (by decide)]; exact hg1
          have A35 : (∀ k, k ≠ x7.toInt.toNat → ez_I h28 75 k = ez_I h2 75 k) := by rw [zI_fn e29 75 (by decide)]; exact hg2
          clear A25
          refine z_inc rfl (by rw [show (1 : Int32).toInt = 1 from rfl]; omega) (fun x36 ex36 => ?_)
          rw [show (1 : Int32).toInt = 1 from rfl] at ex36
          show ez_gw _ _ _ _ _ _ _ _ [some (.ref 71), some (.int v), some (.int n), some (.int x36)] _ _ _
          refine z_go ?_
          have t37 := congrArg Int32.toInt (f32)
          exact ih h28 x36 F31 (by omega) (mst_next (mst_bit (bit := x13.toInt) A_st (by omega) (i := x7.toInt.toNat) (j := (ez_I h2 71 16).toInt.toNat % 8) (by omega) (by omega) A34 A35 (by omega)) v2x13 (by omega)) (A33) (by omega)
        · have c5 : ¬ (x4.toInt ≠ 0) := c5
          refine gw_ld rfl rfl ?_
          refine z_gR (q := 75) (zT S2 (by decide) rfl) (zRf S2 (by decide) (by decide) rfl) (by decide) ?_
          refine gw_ld rfl rfl ?_
          refine z_gI2 (by decide) (zT S2 (by decide) rfl) (rfl) ?_
          refine z_C (m := 8) rfl rfl (fun x38 ex38 => ?_)
          refine z_dvP (c := 8) ex38 (by decide) (by omega) (fun x39 ex39 => ?_)
          refine z_C (m := 0) rfl rfl (fun x40 ex40 => ?_)
          refine z_bs (n := 8000) (zT S2 (by decide) rfl) (zN S2 (by decide) rfl) (by omega) (fun h41 e42 => ?_)
          have S44 := zSh_set S2 e42
          have F45 := zW_setA F e42 (by omega)
          have f46 : ez_I h41 71 16 = (ez_I h2 71 16) := (zI_ne e42 (by omega)).trans (rfl)
          have A47 : aR (ez_I h41 75) 8000 (-128) 127 := aR_up A_rg e42 (n_i2b_rng _)
          refine gw_ld rfl rfl ?_
          refine z_gR (q := 75) (zT S44 (by decide) rfl) (zRf S44 (by decide) (by decide) rfl) (by decide) ?_
          refine gw_ld rfl rfl ?_
          refine z_gI2 (by decide) (zT S44 (by decide) rfl) (f46) ?_
          refine z_C (m := 8) rfl rfl (fun x48 ex48 => ?_)
          refine z_dvP (c := 8) ex48 (by decide) (by omega) (fun x49 ex49 => ?_)
          refine gw_ld rfl rfl ?_
          refine z_gR (q := 75) (zT S44 (by decide) rfl) (zRf S44 (by decide) (by decide) rfl) (by decide) ?_
          refine gw_ld rfl rfl ?_
          refine z_gI2 (by decide) (zT S44 (by decide) rfl) (f46) ?_
          refine z_C (m := 8) rfl rfl (fun x50 ex50 => ?_)
          refine z_dvP (c := 8) ex50 (by decide) (by omega) (fun x51 ex51 => ?_)
          refine z_ba (n := 8000) (zT S44 (by decide) rfl) (zN S44 (by decide) rfl) (by omega) ?_
          generalize ex52 : ez_I h41 75 x51.toInt.toNat = x52
          have rx52 := z_rng x52
          have yx52 := A47 x51.toInt.toNat (by omega)
          rw [ex52] at yx52
          have hz0 : x52.toInt = 0 := by rw [← ex52, show x51.toInt.toNat = x39.toInt.toNat by omega, zI_eq e42, show x40 = 0 from z_inj (by rw [show (0 : Int32).toInt = 0 from rfl]; omega)]; rfl
          have hcur : 0 ≤ x52.toInt ∧ x52.toInt < 2 ^ ((ez_I h2 71 16).toInt.toNat % 8) := by
            rw [show (ez_I h2 71 16).toInt.toNat % 8 = 0 by omega]; omega
          refine gw_ld rfl rfl ?_
          refine gw_ld rfl rfl ?_
          refine z_2 rfl (fun x53 ex53 => ?_)
          have rx53 := z_rng x53
          have vx53 := n_shr (n := k.toInt.toNat) (by omega) (by omega) ex53
          refine z_C (m := 1) rfl rfl (fun x54 ex54 => ?_)
          refine z_and (fun x55 ex55 ux55 wx55 => ?_)
          have rx55 := z_rng x55
          replace ux55 := ux55 (by omega)
          clear wx55
          have vx55 := n_mask (k := 1) (by decide) (by omega) ex55
          rw [show (2 : Int) ^ 1 = 2 from rfl, vx53] at vx55
          have v2x55 := vx55
          rw [n_low (by omega)] at v2x55
          refine gw_ld rfl rfl ?_
          refine z_gI2 (by decide) (zT S44 (by decide) rfl) (f46) ?_
          refine z_C (m := 8) rfl rfl (fun x56 ex56 => ?_)
          refine z_rmP (c := 8) ex56 (by decide) (by omega) (fun x57 ex57 => ?_)
          refine z_2 rfl (fun x58 ex58 => ?_)
          have rx58 := z_rng x58
          refine z_2 rfl (fun x59 ex59 => ?_)
          have rx59 := z_rng x59
          obtain ⟨hsb, hsb2, hsb3⟩ := n_setbit hcur (by omega) (j := (ez_I h2 71 16).toInt.toNat % 8) (by omega) (by omega) ex58 ex59
          refine z_1 rfl (fun x60 ex60 => ?_)
          have rx60 := z_rng x60
          refine z_bs (n := 8000) (zT S44 (by decide) rfl) (zN S44 (by decide) rfl) (by omega) (fun h61 e62 => ?_)
          have S64 := zSh_set S44 e62
          have F65 := zW_setA F45 e62 (by omega)
          have f66 : ez_I h61 71 16 = (ez_I h2 71 16) := (zI_ne e62 (by omega)).trans (f46)
          have A67 : aR (ez_I h61 75) 8000 (-128) 127 := aR_up A47 e62 (n_i2b_rng _)
          clear A47
          have hg1 : (ez_I h61 75 x49.toInt.toNat).toInt % 256 = (if (ez_I h2 71 16).toInt.toNat % 8 = 0 then 0 else (ez_I h2 75 x49.toInt.toNat).toInt % 256) + x55.toInt * 2 ^ ((ez_I h2 71 16).toInt.toNat % 8) := by rw [if_pos (by omega), zI_eq e62, n_i2b, ex60, n_i2b]; omega
          have hg2 : ∀ k, k ≠ x49.toInt.toNat → ez_I h61 75 k = ez_I h2 75 k := fun k hk => (zI_ne e62 (by omega)).trans (zI_ne e42 (by omega))
          refine gw_ld rfl rfl ?_
          refine gw_op rfl ?_
          refine z_gI2 (by decide) (zT S64 (by decide) rfl) (f66) ?_
          refine z_C (m := 1) rfl rfl (fun x68 ex68 => ?_)
          refine z_add (by omega) (fun x69 ex69 => ?_)
          refine z_pI (zT S64 (by decide) rfl) (fun h70 e71 => ?_)
          have S72 := zSh_set S64 e71
          have F73 := zW_setF F65 e71 (by omega)
          have f74 : ez_I h70 71 16 = x69 := zI_eq e71
          have A75 : aR (ez_I h70 75) 8000 (-128) 127 := by rw [zI_fn e71 75 (by decide)]; exact A67
          have A76 : (ez_I h70 75 x49.toInt.toNat).toInt % 256 = (if (ez_I h2 71 16).toInt.toNat % 8 = 0 then 0 else (ez_I h2 75 x49.toInt.toNat).toInt % 256) + x55.toInt * 2 ^ ((ez_I h2 71 16).toInt.toNat % 8) := by rw [zI_fn e71 75 (by decide)]; exact hg1
          have A77 : (∀ k, k ≠ x49.toInt.toNat → ez_I h70 75 k = ez_I h2 75 k) := by rw [zI_fn e71 75 (by decide)]; exact hg2
          clear A67
          refine z_inc rfl (by rw [show (1 : Int32).toInt = 1 from rfl]; omega) (fun x78 ex78 => ?_)
          rw [show (1 : Int32).toInt = 1 from rfl] at ex78
          show ez_gw _ _ _ _ _ _ _ _ [some (.ref 71), some (.int v), some (.int n), some (.int x78)] _ _ _
          refine z_go ?_
          have t79 := congrArg Int32.toInt (f74)
          exact ih h70 x78 F73 (by omega) (mst_next (mst_bit (bit := x55.toInt) A_st (by omega) (i := x49.toInt.toNat) (j := (ez_I h2 71 16).toInt.toNat % 8) (by omega) (by omega) A76 A77 (by omega)) v2x55 (by omega)) (A75) (by omega)
set_option maxRecDepth 4000 in
set_option maxHeartbeats 20000000 in
theorem d_wb {E : Nat → Nat × (Nat → Int32)} {d : Nat} {Q : ez_Q} {h : ez_H} {v : Int32} {n : Int32} (S : zSh h) {s : Nat × Nat} (hs : mst (ez_I h 75) (ez_I h 71 16).toInt s) (hg : aR (ez_I h 75) 8000 (-128) 127) (hn : 0 ≤ n.toInt ∧ n.toInt ≤ 16) (hr : s.2 + n.toInt.toNat ≤ 64000) (K : ∀ h2, zW (fun q k => q = 71 ∧ k = 16) (fun q => q = 75) (fun _ => False) h h2 → mst (ez_I h2 75) (ez_I h2 71 16).toInt (wr s ((v.toInt % 65536).toNat % 2 ^ n.toInt.toNat) n.toInt.toNat) → aR (ez_I h2 75) 8000 (-128) 127 → Q (.inl none) h2) : pw E d 38 0 [some (.ref 71), some (.int v), some (.int n), none] [] h Q := by
  have gv := z_rng v
  have gn := z_rng n
  have F := zW_refl (fun q k => q = 71 ∧ k = 16) (fun q => q = 75) (fun _ => False) h
  apply ez_Wp_in
  show ez_gw _ _ _ _ _ _ (cz_38) _ _ _ _ _
  refine gw_skip _ ?_
  have r1 := z_rng (ez_I h 71 16)
  refine z_C (m := 0) rfl rfl (fun x2 ex2 => ?_)
  refine gw_st rfl rfl rfl ?_
  show ez_gw _ _ _ _ _ _ _ _ [some (.ref 71), some (.int v), some (.int n), some (.int x2)] _ _ _
  exact ez_Wp_at ((d_wb_L0 (v := v) (n := n) S hs hg hn hr K (((100 - x2.toInt)).toNat + 1)) h x2 F (by omega) (mst_0 hs (by omega)) (hg) (by omega)) rfl
