/-! PRINTED by wip/pack: the model reads a head -/
theorem dis_one {f : Nat → Int32} {L : Nat → Nat} (A : cpN f L 32) (h0 : ∀ k, 32 ≤ k → L k = 0) (h : wsN L 288 = 32768 ∨ plN L 288 16 = 0 ∨ plN L 288 16 = 1 ∧ ctN L 1 288 = 1) (h15 : ∀ k, L k ≤ 15) : plN (nL f) 32 16 = 1 → ctN (nL f) 1 32 = 1 := fun q => by
  have h1 := one_M (L := L) (L' := nL f) (M := 32) (N := 288) (by decide) (fun k hk => (cpN_nL A k hk).symm) (fun k a _ => h0 k a)
  rw [← h1.1] at q
  rw [← h1.2]
  rcases h with h | h | h
  · exact ws_one (fun k _ => h15 k) h q
  · omega
  · exact h.2
theorem x61_0 : ∀ k : Nat, ¬ (72 = 71 ∧ k = 59 ∨ 72 = 71 ∧ k = 61) := fun k c => by omega
set_option maxRecDepth 4000 in
set_option maxHeartbeats 2000000 in
theorem d_tb2_L0 {E : Nat → Nat × (Nat → Int32)} {d : Nat} {Q : ez_Q} {h : ez_H} {n : Int32} (S : zSh h) (hz : 0 ≤ (ez_I h 71 6).toInt ∧ (ez_I h 71 6).toInt ≤ 6000) (hp : 0 ≤ (ez_I h 71 59).toInt ∧ (ez_I h 71 59).toInt ≤ 8 * (ez_I h 71 6).toInt) (hf : 0 ≤ (ez_I h 71 61).toInt) (hn : 0 ≤ n.toInt ∧ n.toInt ≤ 16) (K : ∀ h2 (x : Int32), zW (fun q k => q = 71 ∧ k = 59 ∨ q = 71 ∧ k = 61) (fun _ => False) (fun _ => False) h h2 → ((ez_I h 71 61).toInt = 0 → (ez_I h 71 59).toInt + n.toInt ≤ 8 * (ez_I h 71 6).toInt → x.toInt = (vB (tB (ez_I h 72)) (ez_I h 71 59).toInt.toNat n.toInt.toNat : Nat) ∧ (ez_I h2 71 59).toInt = (ez_I h 71 59).toInt + n.toInt ∧ (ez_I h2 71 61).toInt = 0) → ((ez_I h 71 61).toInt = 0 → 8 * (ez_I h 71 6).toInt < (ez_I h 71 59).toInt + n.toInt → (ez_I h2 71 61).toInt = 1 ∧ 0 ≤ (ez_I h2 71 59).toInt ∧ (ez_I h2 71 59).toInt ≤ 8 * (ez_I h 71 6).toInt) → ((ez_I h 71 61).toInt ≠ 0 → (ez_I h2 71 61).toInt = (ez_I h 71 61).toInt ∧ (ez_I h2 71 59).toInt = (ez_I h 71 59).toInt) → (0 ≤ x.toInt ∧ x.toInt < ((2 ^ n.toInt.toNat : Nat) : Int)) → Q (.inl (some (.int x))) h2) : ∀ N : Nat, (∀ (h2 : ez_H) (v : Int32) (i : Int32) , zW (fun q k => q = 71 ∧ k = 59 ∨ q = 71 ∧ k = 61) (fun _ => False) (fun _ => False) h h2 → (0 ≤ i.toInt ∧ i.toInt ≤ n.toInt ∧ 0 ≤ v.toInt ∧ v.toInt < ((2 ^ i.toInt.toNat : Nat) : Int) ∧ (((ez_I h 71 61).toInt = 0 ∧ (ez_I h2 71 61).toInt = 0 ∧ (ez_I h2 71 59).toInt = (ez_I h 71 59).toInt + i.toInt ∧ (ez_I h2 71 59).toInt ≤ 8 * (ez_I h 71 6).toInt ∧ v.toInt = (vB (tB (ez_I h 72)) (ez_I h 71 59).toInt.toNat i.toInt.toNat : Nat)) ∨ ((ez_I h 71 61).toInt = 0 ∧ (ez_I h2 71 61).toInt = 1 ∧ (ez_I h2 71 59).toInt = 8 * (ez_I h 71 6).toInt ∧ 8 * (ez_I h 71 6).toInt < (ez_I h 71 59).toInt + n.toInt) ∨ ((ez_I h 71 61).toInt ≠ 0 ∧ (ez_I h2 71 61).toInt = (ez_I h 71 61).toInt ∧ (ez_I h2 71 59).toInt = (ez_I h 71 59).toInt))) → (100 - i.toInt) < (N : Int) → pw E d 51 4 [some (.ref 71), some (.int n), some (.int v), some (.int i)] [] h2 Q) := by
  intro N
  induction N with
  | zero => exact fun h2 v i  F hinv  hm => absurd hm (by have w_v := z_rng v; have w_i := z_rng i; have gn := z_rng n; omega)
  | succ N ih =>
    refine fun h2 v i  F hinv  hm => ?_
    · skip
      have w_v := z_rng v
      have w_i := z_rng i
      have gn := z_rng n
      have S2 := zW_sh F S
      have hvl := vB_lt (tB (ez_I h 72)) (ez_I h 71 59).toInt.toNat i.toInt.toNat
      have hvp := n_pow i.toInt.toNat
      apply ez_Wp_in
      show ez_gw _ _ _ _ _ _ (cz_51) _ _ _ _ _
      refine gw_skip _ ?_
      have r1 := z_rng (ez_I h2 71 59)
      have r2 := z_rng (ez_I h2 71 61)
      refine gw_ld rfl rfl ?_
      refine gw_ld rfl rfl ?_
      refine z_b2 (fun c3 => ?_) (fun c3 => ?_)
      · have c3 : n.toInt ≤ i.toInt := c3
        refine gw_skip _ ?_
        refine gw_ld rfl rfl ?_
        refine z_ri ?_
        by_cases hq : (ez_I h2 71 61).toInt = 0
        · exact K _ _ F (fun _ _ => ⟨(by rw [show n.toInt.toNat = i.toInt.toNat by omega]; omega), by omega, by omega⟩) (fun q => by omega) (fun q => by omega) ⟨by omega, by have := Nat.pow_le_pow_right (n := 2) (by decide) (show i.toInt.toNat ≤ n.toInt.toNat by omega); omega⟩
        · exact K _ _ F (fun q r => by exfalso; omega) (fun q => by omega) (fun q => by omega) ⟨by omega, by have := Nat.pow_le_pow_right (n := 2) (by decide) (show i.toInt.toNat ≤ n.toInt.toNat by omega); omega⟩
      · have c3 : ¬ (n.toInt ≤ i.toInt) := c3
        refine gw_ld rfl rfl ?_
        refine z_gI2 (by decide) (zT S2 (by decide) rfl) (rfl) ?_
        refine z_b1 (fun c4 => ?_) (fun c4 => ?_)
        · have c4 : ((ez_I h2 71 61)).toInt ≠ 0 := c4
          refine gw_skip _ ?_
          refine gw_ld rfl rfl ?_
          refine z_ri ?_
          by_cases hq : (ez_I h2 71 61).toInt = 0
          · exact K _ _ F (fun _ _ => ⟨(by rw [show n.toInt.toNat = i.toInt.toNat by omega]; omega), by omega, by omega⟩) (fun q => by omega) (fun q => by omega) ⟨by omega, by have := Nat.pow_le_pow_right (n := 2) (by decide) (show i.toInt.toNat ≤ n.toInt.toNat by omega); omega⟩
          · exact K _ _ F (fun q r => by exfalso; omega) (fun q => by omega) (fun q => by omega) ⟨by omega, by have := Nat.pow_le_pow_right (n := 2) (by decide) (show i.toInt.toNat ≤ n.toInt.toNat by omega); omega⟩
        · have c4 : ¬ (((ez_I h2 71 61)).toInt ≠ 0) := c4
          refine gw_ld rfl rfl ?_
          refine z_gI2 (by decide) (zT S2 (by decide) rfl) (rfl) ?_
          refine z_C (m := 8) rfl rfl (fun x5 ex5 => ?_)
          refine z_dvP (c := 8) ex5 (by decide) (by omega) (fun x6 ex6 => ?_)
          refine gw_ld rfl rfl ?_
          have r7 := z_rng (ez_I h 71 6)
          refine z_gI2 (by decide) (zT S2 (by decide) rfl) (zW_f F (fun c => c) (by decide)) ?_
          refine z_b2 (fun c8 => ?_) (fun c8 => ?_)
          · have c8 : x6.toInt < ((ez_I h 71 6)).toInt := c8
            refine gw_skip _ ?_
            refine gw_ld rfl rfl ?_
            refine gw_ld rfl rfl ?_
            refine z_gR (q := 72) (zT S2 (by decide) rfl) (zRf S2 (by decide) (by decide) rfl) (by decide) ?_
            refine gw_ld rfl rfl ?_
            refine z_gI2 (by decide) (zT S2 (by decide) rfl) (rfl) ?_
            refine z_C (m := 8) rfl rfl (fun x9 ex9 => ?_)
            refine z_dvP (c := 8) ex9 (by decide) (by omega) (fun x10 ex10 => ?_)
            refine z_baV (n := 6000) (zT S2 (by decide) rfl) (zN S2 (by decide) rfl) (by omega) (zW_f F (fun c => c) (x61_0 _)) ?_
            generalize ex11 : ez_I h 72 x10.toInt.toNat = x11
            have rx11 := z_rng x11
            refine gw_ld rfl rfl ?_
            refine z_gI2 (by decide) (zT S2 (by decide) rfl) (rfl) ?_
            refine z_C (m := 8) rfl rfl (fun x12 ex12 => ?_)
            refine z_rmP (c := 8) ex12 (by decide) (by omega) (fun x13 ex13 => ?_)
            refine z_2 rfl (fun x14 ex14 => ?_)
            have rx14 := z_rng x14
            have vx14 := n_shr (n := ((ez_I h2 71 59).toInt % 8).toNat) (by omega) (by omega) ex14
            refine z_C (m := 1) rfl rfl (fun x15 ex15 => ?_)
            refine z_and (fun x16 ex16 ux16 wx16 => ?_)
            have rx16 := z_rng x16
            replace ux16 := ux16 (by omega)
            clear wx16
            have vx16 := n_mask (k := 1) (by decide) (by omega) ex16
            rw [show (2 : Int) ^ 1 = 2 from rfl, vx14] at vx16
            refine gw_ld rfl rfl ?_
            refine z_2 rfl (fun x17 ex17 => ?_)
            have rx17 := z_rng x17
            have eS := ex17
            refine z_2 rfl (fun x18 ex18 => ?_)
            have rx18 := z_rng x18
            have hbt : x16.toInt = (bitT (tB (ez_I h 72)) ((ez_I h 71 59).toInt.toNat + i.toInt.toNat) : Nat) := bit_M (p := (ez_I h2 71 59).toInt) (z := x11) (by rw [show ((ez_I h2 71 59).toInt / 8).toNat = x10.toInt.toNat by omega]; exact ex11) (by omega) (by omega) (by omega)
            have hor := n_setb (z := v) (b := x16) (j := i.toInt.toNat) (by omega) (by omega) (by omega) (by omega) eS ex18
            refine gw_st rfl rfl rfl ?_
            show ez_gw _ _ _ _ _ _ _ _ [some (.ref 71), some (.int n), some (.int x18), some (.int i)] _ _ _
            refine gw_ld rfl rfl ?_
            refine gw_op rfl ?_
            refine z_gI2 (by decide) (zT S2 (by decide) rfl) (rfl) ?_
            refine gw_ld rfl rfl ?_
            refine z_gI2 (by decide) (zT S2 (by decide) rfl) (rfl) ?_
            refine z_b1 (fun c19 => ?_) (fun c19 => ?_)
            · have c19 : ((ez_I h2 71 61)).toInt ≠ 0 := c19
              exfalso; omega
            · have c19 : ¬ (((ez_I h2 71 61)).toInt ≠ 0) := c19
              refine z_C (m := 1) rfl rfl (fun x20 ex20 => ?_)
              refine z_go ?_
              refine gw_skip _ ?_
              refine z_add (by omega) (fun x21 ex21 => ?_)
              refine z_pI (zT S2 (by decide) rfl) (fun h22 e23 => ?_)
              have S24 := zSh_set S2 e23
              have F25 := zW_setF F e23 (by decide)
              have f26 : ez_I h22 71 59 = x21 := zI_eq e23
              have f27 : ez_I h22 71 61 = (ez_I h2 71 61) := (zI_ne e23 (by decide)).trans (rfl)
              refine z_inc rfl (by rw [show (1 : Int32).toInt = 1 from rfl]; omega) (fun x28 ex28 => ?_)
              rw [show (1 : Int32).toInt = 1 from rfl] at ex28
              show ez_gw _ _ _ _ _ _ _ _ [some (.ref 71), some (.int n), some (.int x18), some (.int x28)] _ _ _
              refine z_go ?_
              have t29 := congrArg Int32.toInt (f26)
              have t30 := congrArg Int32.toInt (f27)
              exact ih h22 x18 x28 F25 (⟨by omega, by omega, by have h9 := vB_s (i := i.toInt.toNat) (b := x16.toInt) (v := v.toInt) (m := x28.toInt.toNat) (by omega) hbt hor (by omega); omega, by have h9 := vB_s (i := i.toInt.toNat) (b := x16.toInt) (v := v.toInt) (m := x28.toInt.toNat) (by omega) hbt hor (by omega); have h8 := vB_lt (tB (ez_I h 72)) (ez_I h 71 59).toInt.toNat x28.toInt.toNat; omega, .inl ⟨by omega, by omega, by omega, by omega, vB_s (i := i.toInt.toNat) (b := x16.toInt) (v := v.toInt) (by omega) hbt hor (by omega)⟩⟩)  (by omega)
          · have c8 : ¬ (x6.toInt < ((ez_I h 71 6)).toInt) := c8
            refine gw_ld rfl rfl ?_
            refine z_C (m := 1) rfl rfl (fun x31 ex31 => ?_)
            refine z_pI (zT S2 (by decide) rfl) (fun h32 e33 => ?_)
            have S34 := zSh_set S2 e33
            have F35 := zW_setF F e33 (by decide)
            have f36 : ez_I h32 71 59 = (ez_I h2 71 59) := (zI_ne e33 (by decide)).trans (rfl)
            have f37 : ez_I h32 71 61 = x31 := zI_eq e33
            refine z_go ?_
            refine gw_skip _ ?_
            refine gw_ld rfl rfl ?_
            refine gw_op rfl ?_
            refine z_gI2 (by decide) (zT S34 (by decide) rfl) (f36) ?_
            refine gw_ld rfl rfl ?_
            refine z_gI2 (by decide) (zT S34 (by decide) rfl) (f37) ?_
            refine z_b1 (fun c38 => ?_) (fun c38 => ?_)
            · have c38 : x31.toInt ≠ 0 := c38
              refine gw_skip _ ?_
              refine z_C (m := 0) rfl rfl (fun x39 ex39 => ?_)
              refine z_add (by omega) (fun x40 ex40 => ?_)
              refine z_pI (zT S34 (by decide) rfl) (fun h41 e42 => ?_)
              have S43 := zSh_set S34 e42
              have F44 := zW_setF F35 e42 (by decide)
              have f45 : ez_I h41 71 59 = x40 := zI_eq e42
              have f46 : ez_I h41 71 61 = x31 := (zI_ne e42 (by decide)).trans (f37)
              refine z_inc rfl (by rw [show (1 : Int32).toInt = 1 from rfl]; omega) (fun x47 ex47 => ?_)
              rw [show (1 : Int32).toInt = 1 from rfl] at ex47
              show ez_gw _ _ _ _ _ _ _ _ [some (.ref 71), some (.int n), some (.int v), some (.int x47)] _ _ _
              refine z_go ?_
              have t48 := congrArg Int32.toInt (f45)
              have t49 := congrArg Int32.toInt (f46)
              exact ih h41 v x47 F44 (⟨by omega, by omega, by omega, by have := Nat.pow_le_pow_right (n := 2) (by decide) (show i.toInt.toNat ≤ x47.toInt.toNat by omega); omega, .inr (.inl (by omega))⟩)  (by omega)
            · have c38 : ¬ (x31.toInt ≠ 0) := c38
              exfalso; omega
set_option maxRecDepth 4000 in
set_option maxHeartbeats 2000000 in
theorem d_tb2 {E : Nat → Nat × (Nat → Int32)} {d : Nat} {Q : ez_Q} {h : ez_H} {n : Int32} (S : zSh h) (hz : 0 ≤ (ez_I h 71 6).toInt ∧ (ez_I h 71 6).toInt ≤ 6000) (hp : 0 ≤ (ez_I h 71 59).toInt ∧ (ez_I h 71 59).toInt ≤ 8 * (ez_I h 71 6).toInt) (hf : 0 ≤ (ez_I h 71 61).toInt) (hn : 0 ≤ n.toInt ∧ n.toInt ≤ 16) (K : ∀ h2 (x : Int32), zW (fun q k => q = 71 ∧ k = 59 ∨ q = 71 ∧ k = 61) (fun _ => False) (fun _ => False) h h2 → ((ez_I h 71 61).toInt = 0 → (ez_I h 71 59).toInt + n.toInt ≤ 8 * (ez_I h 71 6).toInt → x.toInt = (vB (tB (ez_I h 72)) (ez_I h 71 59).toInt.toNat n.toInt.toNat : Nat) ∧ (ez_I h2 71 59).toInt = (ez_I h 71 59).toInt + n.toInt ∧ (ez_I h2 71 61).toInt = 0) → ((ez_I h 71 61).toInt = 0 → 8 * (ez_I h 71 6).toInt < (ez_I h 71 59).toInt + n.toInt → (ez_I h2 71 61).toInt = 1 ∧ 0 ≤ (ez_I h2 71 59).toInt ∧ (ez_I h2 71 59).toInt ≤ 8 * (ez_I h 71 6).toInt) → ((ez_I h 71 61).toInt ≠ 0 → (ez_I h2 71 61).toInt = (ez_I h 71 61).toInt ∧ (ez_I h2 71 59).toInt = (ez_I h 71 59).toInt) → (0 ≤ x.toInt ∧ x.toInt < ((2 ^ n.toInt.toNat : Nat) : Int)) → Q (.inl (some (.int x))) h2) : pw E d 51 0 [some (.ref 71), some (.int n), none, none] [] h Q := by
  have gn := z_rng n
  have F := zW_refl (fun q k => q = 71 ∧ k = 59 ∨ q = 71 ∧ k = 61) (fun _ => False) (fun _ => False) h
  apply ez_Wp_in
  show ez_gw _ _ _ _ _ _ (cz_51) _ _ _ _ _
  refine gw_skip _ ?_
  have r1 := z_rng (ez_I h 71 59)
  have r2 := z_rng (ez_I h 71 61)
  refine z_C (m := 0) rfl rfl (fun x3 ex3 => ?_)
  refine gw_st rfl rfl rfl ?_
  show ez_gw _ _ _ _ _ _ _ _ [some (.ref 71), some (.int n), some (.int x3), none] _ _ _
  refine z_C (m := 0) rfl rfl (fun x4 ex4 => ?_)
  refine gw_st rfl rfl rfl ?_
  show ez_gw _ _ _ _ _ _ _ _ [some (.ref 71), some (.int n), some (.int x3), some (.int x4)] _ _ _
  exact ez_Wp_at ((d_tb2_L0 (n := n) S hz hp hf hn K (((100 - x4.toInt)).toNat + 1)) h x3 x4 F (⟨by omega, by omega, by omega, by rw [show x4.toInt.toNat = 0 by omega]; show _ < ((1 : Nat) : Int); omega, by have e0 : vB (tB (ez_I h 72)) (ez_I h 71 59).toInt.toNat 0 = 0 := rfl; rw [show x4.toInt.toNat = 0 by omega]; omega⟩)  (by omega)) rfl
/-! the model reads: bits and symbols, in two states -/
section TBF
variable {E : Nat → Nat × (Nat → Int32)} {d : Nat} {Q : ez_Q} {h : ez_H}
theorem d_tbF {v : Int32} {n N : Nat} (S : zSh h) (hN : (ez_I h 71 6).toInt = (n : Nat)) (hn : n ≤ 6000) (hp : 0 ≤ (ez_I h 71 59).toInt ∧ (ez_I h 71 59).toInt ≤ 8 * (n : Int)) (hf : 1 ≤ (ez_I h 71 61).toInt) (hv : v.toInt = (N : Nat)) (h16 : N ≤ 16) (K : ∀ h2 (x : Int32), zW (fun q k => q = 71 ∧ k = 59 ∨ q = 71 ∧ k = 61) (fun _ => False) (fun _ => False) h h2 → 1 ≤ (ez_I h2 71 61).toInt → (0 ≤ (ez_I h2 71 59).toInt ∧ (ez_I h2 71 59).toInt ≤ 8 * (n : Int)) → 0 ≤ x.toInt → x.toInt < ((2 ^ N : Nat) : Int) → Q (.inl (some (.int x))) h2) : pw E d 51 0 [some (.ref 71), some (.int v), none, none] [] h Q := by
  refine d_tb2 (n := v) S (by omega) (by omega) (by omega) (by omega) (fun h2 x F k1 k2 k3 k4 => ?_)
  have k5 := k3 (by omega)
  rw [show v.toInt.toNat = N by omega] at k4
  exact K h2 x F (by omega) (by omega) k4.1 k4.2
theorem d_tbO {v : Int32} {T : Nat → Int} {n N p : Nat} (S : zSh h) (hT : tB (ez_I h 72) = T) (hN : (ez_I h 71 6).toInt = (n : Nat)) (hn : n ≤ 6000) (hp : (ez_I h 71 59).toInt = (p : Nat)) (hp8 : p ≤ 8 * n) (hf : (ez_I h 71 61).toInt = 0) (hv : v.toInt = (N : Nat)) (h16 : N ≤ 16) (K1 : ∀ h2 (x : Int32), zW (fun q k => q = 71 ∧ k = 59 ∨ q = 71 ∧ k = 61) (fun _ => False) (fun _ => False) h h2 → p + N ≤ 8 * n → x.toInt = (vB T p N : Nat) → vB T p N < 2 ^ N → (ez_I h2 71 59).toInt = ((p + N : Nat) : Int) → (ez_I h2 71 61).toInt = 0 → Q (.inl (some (.int x))) h2) (K2 : ∀ h2 (x : Int32), zW (fun q k => q = 71 ∧ k = 59 ∨ q = 71 ∧ k = 61) (fun _ => False) (fun _ => False) h h2 → 8 * n < p + N → 1 ≤ (ez_I h2 71 61).toInt → (0 ≤ (ez_I h2 71 59).toInt ∧ (ez_I h2 71 59).toInt ≤ 8 * (n : Int)) → 0 ≤ x.toInt → x.toInt < ((2 ^ N : Nat) : Int) → Q (.inl (some (.int x))) h2) : pw E d 51 0 [some (.ref 71), some (.int v), none, none] [] h Q := by
  refine d_tb2 (n := v) S (by omega) (by omega) (by omega) (by omega) (fun h2 x F k1 k2 k3 k4 => ?_)
  rw [hT, show v.toInt.toNat = N by omega, show (ez_I h 71 59).toInt.toNat = p by omega] at k1
  rw [show v.toInt.toNat = N by omega] at k4
  by_cases q : p + N ≤ 8 * n
  · obtain ⟨a1, a2, a3⟩ := k1 hf (by omega)
    exact K1 h2 x F q a1 (vB_lt _ _ _) (by omega) a3
  · obtain ⟨a1, a2, a3⟩ := k2 hf (by omega)
    exact K2 h2 x F (by omega) (by omega) (by omega) k4.1 k4.2
theorem d_syO {u nu N : Nat} {v : Int32} {T : Nat → Int} {n p : Nat} {L : Nat → Nat} (S : zSh h) (hu : zA u nu) (hu2 : u ≠ 115 ∧ u ≠ 71) (hnu : N ≤ nu ∧ nu ≤ 288) (hT : tB (ez_I h 72) = T) (hN : (ez_I h 71 6).toInt = (n : Nat)) (hn : n ≤ 6000) (hp : (ez_I h 71 59).toInt = (p : Nat)) (hp8 : p ≤ 8 * n) (hf : (ez_I h 71 61).toInt = 0) (hv : v.toInt = (N : Nat)) (hL : aR (ez_I h u) N 0 15) (hLe : nL (ez_I h u) = L) (hone : plN L N 16 = 1 → ctN L 1 N = 1) (K1 : ∀ h2 (x : Int32) (q : Nat), zW (fun q k => q = 71 ∧ k = 59 ∨ q = 71 ∧ k = 61) (fun q => q = 115) (fun _ => False) h h2 → sdR T n p L N = some (x.toInt.toNat, q) → 0 ≤ x.toInt → x.toInt < (N : Nat) → q ≤ 8 * n → (ez_I h2 71 59).toInt = (q : Nat) → (ez_I h2 71 61).toInt = 0 → Q (.inl (some (.int x))) h2) (K2 : ∀ h2 (x : Int32), zW (fun q k => q = 71 ∧ k = 59 ∨ q = 71 ∧ k = 61) (fun q => q = 115) (fun _ => False) h h2 → sdR T n p L N = none → 1 ≤ (ez_I h2 71 61).toInt → (0 ≤ (ez_I h2 71 59).toInt ∧ (ez_I h2 71 59).toInt ≤ 8 * (n : Int)) → x.toInt = 0 → Q (.inl (some (.int x))) h2) : pw E (d + 1) 54 0 [some (.ref 71), some (.ref u), some (.int v), none, none, none, none] [] h Q := by
  have e1 : v.toInt.toNat = N := by omega
  refine d_sym (u := u) (n := v) S (nu := nu) hu hu2 (by omega) (by omega) (by omega) hf (by rw [e1]; exact hL) (by rw [e1, hLe]; exact hone) (fun h2 x F k1 k2 => ?_)
  rw [hT, e1, hLe, show (ez_I h 71 59).toInt.toNat = p by omega, show (ez_I h 71 6).toInt.toNat = n by omega] at k1
  rcases k1 with ⟨a1, q, a2, a3, a4⟩ | ⟨a1, a2, a3⟩
  · have b1 := sdR_ok a2
    have b2 := sdR_s a2
    exact K1 h2 x q F a2 a3 (by omega) b1.2.2 a4 a1
  · exact K2 h2 x F a2 a1 (by omega) a3
end TBF
/-- how a head ends -/
def hdP (f120 f121 : Nat → Int32) (b f : Int) (R : Option (Nat × (Nat → Nat) × (Nat → Nat))) : Prop := (f = 0 ∧ ∃ (q : Nat) (L1 L2 : Nat → Nat), R = some (q, L1, L2) ∧ b = q ∧ (∀ k, k < 288 → nL f120 k = L1 k) ∧ aR f120 288 0 15 ∧ (plN (nL f120) 288 16 = 1 → ctN (nL f120) 1 288 = 1) ∧ (∀ k, k < 32 → nL f121 k = L2 k) ∧ (∀ k, 32 ≤ k → L2 k = 0) ∧ aR f121 32 0 15 ∧ (plN (nL f121) 32 16 = 1 → ctN (nL f121) 1 32 = 1)) ∨ (1 ≤ f ∧ R = none)
theorem hd_y {f g w : Nat → Int32} {r : Nat → Nat} {N1 N2 : Nat} {R : Option (Nat × (Nat → Nat) × (Nat → Nat))} {p : Nat} {b fl : Int} (A : cpN f (litF N1 r) 288) (B : cpN g (disF N1 N2 r) 32) (hr : rwJ w r (N1 + N2)) (h2 : N2 ≤ 30) (hR : R = if okH N1 N2 r then some (p, litF N1 r, disF N1 N2 r) else none) (ok : okH N1 N2 r) (hb : b = p) (hf : fl = 0) : hdP f g b fl R := by
  have l15 := lit_15 (nl := N1) (rw_15 hr) (by omega)
  have d15 := dis_15 (nl := N1) (nd := N2) (rw_15 hr) (Nat.le_refl _)
  refine .inl ⟨hf, p, litF N1 r, disF N1 N2 r, hR.trans (if_pos ok), hb, cpN_nL A, cpN_aR A (fun k _ => l15 k), ws_one (fun k hk => by rw [cpN_nL A k hk]; exact l15 k) (by rw [ws_eq 288 (cpN_nL A)]; exact ok.1), cpN_nL B, fun k hk => dis_0 (by omega), cpN_aR B (fun k _ => d15 k), dis_one B (fun k hk => dis_0 (by omega)) ok.2.2 d15⟩
theorem hd_no {f g : Nat → Int32} {r : Nat → Nat} {N1 N2 : Nat} {R : Option (Nat × (Nat → Nat) × (Nat → Nat))} {p : Nat} {b fl : Int} (hR : R = if okH N1 N2 r then some (p, litF N1 r, disF N1 N2 r) else none) (no : ¬ okH N1 N2 r) (hf : 1 ≤ fl) : hdP f g b fl R := .inr ⟨hf, hR.trans (if_neg no)⟩
theorem dis_ok {r : Nat → Nat} {N1 N2 : Nat} (h : ∀ k, k < N1 + N2 → r k ≤ 15) (h2 : N2 ≤ 30) : (plN (disF N1 N2 r) 288 16 = 0 ∨ plN (disF N1 N2 r) 288 16 = 1 ∧ ctN (disF N1 N2 r) 1 288 = 1) ↔ smN (disF N1 N2 r) 32 ≤ 1 := by
  rw [one_some (L := disF N1 N2 r) (n := 288) (fun k _ => dis_15 h (Nat.le_refl _) k), sm_ext (L := disF N1 N2 r) (M := 32) 288 (by decide) (fun k a b => dis_0 (by omega))]
theorem RB_v {s : Nat} (h : 16 ≤ s ∧ s < 19) : RBf (s - 16) = if s = 18 then 11 else 3 := by
  rcases (by omega : s = 16 ∨ s = 17 ∨ s = 18) with q | q | q <;> rw [q] <;> decide
theorem rwX_l {T : Nat → Int} {n : Nat} {L : Nat → Nat} {z p a s q : Nat} {r : Nat → Nat} (h0 : ∀ k, 19 ≤ k → k < 288 → L k = 0) (ha : a < z) (h : sdR T n p L 288 = some (s, q)) (hs : s < 16) : rwL T n L 288 z (z - a) p a r = rwL T n L 288 z (z - (a + 1)) q (a + 1) (flN r a 1 s) :=
  (rwL_s (G := z - a - 1) ha (by omega) (rwS_l h hs)).trans (rwL_f h0 _ _ _ _ _ (by show z ≤ z - a - 1 + (a + 1); omega) (by show z ≤ z - (a + 1) + (a + 1); omega))
theorem rwX_y {T : Nat → Int} {n : Nat} {L : Nat → Nat} {z p a s q t v e : Nat} {r : Nat → Nat} (h0 : ∀ k, 19 ≤ k → k < 288 → L k = 0) (ha : a < z) (h : sdR T n p L 288 = some (s, q)) (hs : 16 ≤ s) (h1 : ¬ (s = 16 ∧ a = 0)) (he : e = REf (s - 16)) (h2 : q + e ≤ 8 * n) (ht : t = RBf (s - 16) + vB T q e) (h3 : a + t ≤ z) (ht1 : 1 ≤ t) (hv : v = if s = 16 then r (a - 1) else 0) : rwL T n L 288 z (z - a) p a r = rwL T n L 288 z (z - (a + t)) (q + e) (a + t) (flN r a t v) :=
  (rwL_s (G := z - a - 1) ha (by omega) (rwS_y h hs h1 he h2 ht h3 hv)).trans (rwL_f h0 _ _ _ _ _ (by show z ≤ z - a - 1 + (a + t); omega) (by show z ≤ z - (a + t) + (a + t); omega))

