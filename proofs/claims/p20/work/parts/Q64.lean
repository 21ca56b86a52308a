section
/-! PRINTED by wip/pack: the model reads a head: its end -/
theorem x73_16 : ∀ q k : Nat, (q = 71 ∧ k = 61) → (q = 71 ∧ k = 61) := fun q k hk => hk
theorem x73_17 : ∀ q : Nat, (False) → (q = 120 ∨ q = 121) := fun q hk => hk.elim
theorem x73_18 : ∀ q : Nat, (False) → (False) := fun q hk => hk.elim
theorem x73_19 : ∀ k : Nat, ¬ (120 = 71 ∧ k = 61) := fun k c => by omega
theorem x73_20 : ∀ k : Nat, ¬ (121 = 71 ∧ k = 61) := fun k c => by omega
theorem x73_21 : ∀ q k : Nat, (q = 71 ∧ k = 61) → (q = 71 ∧ k = 59 ∨ q = 71 ∧ k = 61) := fun q k hk => (.inr hk)
theorem x73_22 : ∀ q : Nat, (q = 120 ∨ q = 121) → (q = 115 ∨ q = 120 ∨ q = 121 ∨ q = 122 ∨ q = 123) := fun q hk => hk.elim (fun g => (.inr (.inl g))) (fun hk => (.inr (.inr (.inl hk))))
theorem x73_23 : ¬ (71 = 120 ∨ 71 = 121) := by omega
theorem x73_24 : ¬ (71 = 71 ∧ 59 = 61) := by omega
theorem x73_25 : ∀ k : Nat, ¬ (123 = 71 ∧ k = 61) := fun k c => by omega
set_option maxRecDepth 4000 in
set_option maxHeartbeats 2000000 in
theorem h_T307_L1 {E : Nat → Nat × (Nat → Int32)} {d : Nat} {Q : ez_Q} {h : ez_H} {nl : Int32} {nd : Int32} {l3 : Option Value} {k4 : Int32} {l5 : Option Value} {l6 : Option Value} {l7 : Option Value} {l8 : Option Value} {l9 : Option Value} (S : zSh h) {n p2 N1 N2 : Nat} {r : Nat → Nat} {R : Option (Nat × (Nat → Nat) × (Nat → Nat))} (hp : (ez_I h 71 59).toInt = (p2 : Nat)) (hp8 : p2 ≤ 8 * n) (hf : (ez_I h 71 61).toInt = 0) (hl : nl.toInt = (N1 : Nat) ∧ nd.toInt = (N2 : Nat) ∧ 257 ≤ N1 ∧ N1 ≤ 286 ∧ N2 ≤ 30) (hrw : rwJ (ez_I h 123) r (N1 + N2)) (hR : R = if okH N1 N2 r then some (p2, litF N1 r, disF N1 N2 r) else none) (K : ∀ h2, zW (fun q k => q = 71 ∧ k = 59 ∨ q = 71 ∧ k = 61) (fun q => q = 115 ∨ q = 120 ∨ q = 121 ∨ q = 122 ∨ q = 123) (fun _ => False) h h2 → hdP (ez_I h2 120) (ez_I h2 121) (ez_I h2 71 59).toInt (ez_I h2 71 61).toInt R → (0 ≤ (ez_I h2 71 59).toInt ∧ (ez_I h2 71 59).toInt ≤ 8 * (n : Int)) → Q (.inl none) h2) : ∀ N : Nat, (∀ (h2 : ez_H) (sm : Int32) (i : Int32) , zW (fun q k => q = 71 ∧ k = 61) (fun q => q = 120 ∨ q = 121) (fun _ => False) h h2 → (0 ≤ i.toInt ∧ i.toInt ≤ 32 ∧ sm.toInt = (smN (disF N1 N2 r) i.toInt.toNat : Nat) ∧ sm.toInt ≤ 15 * i.toInt ∧ (ez_I h2 71 61).toInt = 0) → (cpN (ez_I h2 120) (litF N1 r) 288) → (cpN (ez_I h2 121) (disF N1 N2 r) i.toInt.toNat) → (1000 - i.toInt) < (N : Int) → pw E (d + 2) 58 354 [some (.ref 71), some (.int nl), some (.int nd), l3, some (.int k4), some (.int sm), some (.int i), l7, l8, l9] [] h2 Q) := by
  intro N
  induction N with
  | zero => exact fun h2 sm i  F hinv A_li A_di hm => absurd hm (by have w_sm := z_rng sm; have w_i := z_rng i; have gnl := z_rng nl; have gnd := z_rng nd; have gk4 := z_rng k4; omega)
  | succ N ih =>
    refine fun h2 sm i  F hinv A_li A_di hm => ?_
    · skip
      have w_sm := z_rng sm
      have w_i := z_rng i
      have gnl := z_rng nl
      have gnd := z_rng nd
      have gk4 := z_rng k4
      have S2 := zW_sh F S
      obtain ⟨hi0, hi32, hsm, hsb, hf2⟩ := hinv
      apply ez_Wp_in
      show ez_gw _ _ _ _ _ _ (cz_58) _ _ _ _ _
      refine gw_skip _ ?_
      have r1 := z_rng (ez_I h2 71 61)
      refine gw_ld rfl rfl ?_
      refine z_C (m := 32) rfl rfl (fun x2 ex2 => ?_)
      refine z_b2 (fun c3 => ?_) (fun c3 => ?_)
      · have c3 : x2.toInt ≤ i.toInt := c3
        refine gw_skip _ ?_
        have hdi : cpN (ez_I h2 121) (disF N1 N2 r) 32 := by have b1 := A_di; rw [show i.toInt.toNat = 32 by omega] at b1; exact b1
        have hok := dis_ok (N1 := N1) (N2 := N2) (rw_15 hrw) (by omega)
        rw [show i.toInt.toNat = 32 by omega] at hsm
        refine gw_ld rfl rfl ?_
        refine z_gR (q := 120) (zT S2 (by decide) rfl) (zRf S2 (by decide) (by decide) rfl) (by decide) ?_
        refine z_C (m := 288) rfl rfl (fun x4 ex4 => ?_)
        refine z_cl rfl rfl rfl rfl rfl rfl rfl rfl rfl rfl rfl (trivial) ?_
        refine d_whole (u := 120) (n := x4) S2 (nu := 288) (fun _ S => ⟨zT S (by decide) rfl, zN S (by decide) rfl⟩) (by omega) (by rw [show x4.toInt.toNat = 288 by omega]; exact cpN_aR A_li (fun k _ => lit_15 (nl := N1) (rw_15 hrw) (by omega) k)) (fun x5 k6 => ?_)
        have rx5 := z_rng x5
        rw [show x4.toInt.toNat = 288 by omega] at k6
        rw [ws_eq 288 (cpN_nL A_li)] at k6
        refine z_b1 (fun c7 => ?_) (fun c7 => ?_)
        · have c7 : x5.toInt = 0 := c7
          refine gw_skip _ ?_
          refine gw_ld rfl rfl ?_
          refine z_C (m := 5) rfl rfl (fun x8 ex8 => ?_)
          refine z_cl rfl rfl rfl rfl rfl rfl rfl rfl rfl rfl rfl (zT S2 (by decide) rfl) ?_
          refine d_wrong (n := x8) S2 (fun h9 F10 k11 k12 => ?_)
          have kw13 := k11 (by omega)
          clear k11 k12
          have S14 := zW_sh F10 S2
          have F15 := zW_tr F (zW_mono F10 (x73_16) (x73_17) (x73_18))
          have r16 := z_rng (ez_I h9 71 61)
          have A17 : cpN (ez_I h9 120) (litF N1 r) 288 := by rw [zW_fn F10 120 (fun c => c) (x73_19)]; exact A_li
          have A18 : cpN (ez_I h9 121) (disF N1 N2 r) 32 := by rw [zW_fn F10 121 (fun c => c) (x73_20)]; exact hdi
          refine z_rv ?_
          exact K _ (zW_mono F15 x73_21 x73_22 x73_18) (hd_no hR (fun ok => by obtain ⟨o1, o2, _⟩ := ok; omega) (by omega)) (by rw [(show ez_I h9 71 59 = ez_I h 71 59 from zW_f F15 x73_23 x73_24)]; omega)
        · have c7 : ¬ (x5.toInt = 0) := c7
          refine gw_ld rfl rfl ?_
          refine z_gR (q := 120) (zT S2 (by decide) rfl) (zRf S2 (by decide) (by decide) rfl) (by decide) ?_
          refine z_C (m := 256) rfl rfl (fun x19 ex19 => ?_)
          refine z_ia (n := 288) (zT S2 (by decide) rfl) (zN S2 (by decide) rfl) (by omega) ?_
          generalize ex20 : ez_I h2 120 x19.toInt.toNat = x20
          have rx20 := z_rng x20
          have y256 := A_li 256 (by decide)
          rw [show (256 : Nat) = x19.toInt.toNat by omega, ex20] at y256
          rw [show x19.toInt.toNat = 256 by omega] at y256
          refine z_b1 (fun c21 => ?_) (fun c21 => ?_)
          · have c21 : x20.toInt = 0 := c21
            refine gw_skip _ ?_
            refine gw_ld rfl rfl ?_
            refine z_C (m := 5) rfl rfl (fun x22 ex22 => ?_)
            refine z_cl rfl rfl rfl rfl rfl rfl rfl rfl rfl rfl rfl (zT S2 (by decide) rfl) ?_
            refine d_wrong (n := x22) S2 (fun h23 F24 k25 k26 => ?_)
            have kw27 := k25 (by omega)
            clear k25 k26
            have S28 := zW_sh F24 S2
            have F29 := zW_tr F (zW_mono F24 (x73_16) (x73_17) (x73_18))
            have r30 := z_rng (ez_I h23 71 61)
            have A31 : cpN (ez_I h23 120) (litF N1 r) 288 := by rw [zW_fn F24 120 (fun c => c) (x73_19)]; exact A_li
            have A32 : cpN (ez_I h23 121) (disF N1 N2 r) 32 := by rw [zW_fn F24 121 (fun c => c) (x73_20)]; exact hdi
            refine z_rv ?_
            exact K _ (zW_mono F29 x73_21 x73_22 x73_18) (hd_no hR (fun ok => by obtain ⟨o1, o2, _⟩ := ok; omega) (by omega)) (by rw [(show ez_I h23 71 59 = ez_I h 71 59 from zW_f F29 x73_23 x73_24)]; omega)
          · have c21 : ¬ (x20.toInt = 0) := c21
            refine gw_ld rfl rfl ?_
            refine z_C (m := 1) rfl rfl (fun x33 ex33 => ?_)
            refine z_b2 (fun c34 => ?_) (fun c34 => ?_)
            · have c34 : sm.toInt ≤ x33.toInt := c34
              refine gw_skip _ ?_
              refine z_rv ?_
              exact K _ (zW_mono F x73_21 x73_22 x73_18) (hd_y A_li hdi hrw (by omega) hR ⟨by omega, by omega, (.inr (hok.2 (by omega)))⟩ (by rw [(show ez_I h2 71 59 = ez_I h 71 59 from zW_f F x73_23 x73_24)]; exact hp) (by omega)) (by rw [(show ez_I h2 71 59 = ez_I h 71 59 from zW_f F x73_23 x73_24)]; omega)
            · have c34 : ¬ (sm.toInt ≤ x33.toInt) := c34
              refine gw_ld rfl rfl ?_
              refine z_gR (q := 121) (zT S2 (by decide) rfl) (zRf S2 (by decide) (by decide) rfl) (by decide) ?_
              refine z_C (m := 32) rfl rfl (fun x35 ex35 => ?_)
              refine z_cl rfl rfl rfl rfl rfl rfl rfl rfl rfl rfl rfl (trivial) ?_
              refine d_whole (u := 121) (n := x35) S2 (nu := 32) (fun _ S => ⟨zT S (by decide) rfl, zN S (by decide) rfl⟩) (by omega) (by rw [show x35.toInt.toNat = 32 by omega]; exact cpN_aR hdi (fun k _ => dis_15 (nl := N1) (nd := N2) (rw_15 hrw) (Nat.le_refl _) k)) (fun x36 k37 => ?_)
              have rx36 := z_rng x36
              rw [show x35.toInt.toNat = 32 by omega] at k37
              rw [← ws_ext (L := (disF N1 N2 r)) 288 (by decide) (fun k hk => (cpN_nL hdi k hk).symm) (fun k a b => dis_0 (by omega))] at k37
              refine z_b1 (fun c38 => ?_) (fun c38 => ?_)
              · have c38 : x36.toInt ≠ 0 := c38
                refine gw_skip _ ?_
                refine z_rv ?_
                exact K _ (zW_mono F x73_21 x73_22 x73_18) (hd_y A_li hdi hrw (by omega) hR ⟨by omega, by omega, (.inl (by omega))⟩ (by rw [(show ez_I h2 71 59 = ez_I h 71 59 from zW_f F x73_23 x73_24)]; exact hp) (by omega)) (by rw [(show ez_I h2 71 59 = ez_I h 71 59 from zW_f F x73_23 x73_24)]; omega)
              · have c38 : ¬ (x36.toInt ≠ 0) := c38
                refine gw_ld rfl rfl ?_
                refine z_C (m := 5) rfl rfl (fun x39 ex39 => ?_)
                refine z_cl rfl rfl rfl rfl rfl rfl rfl rfl rfl rfl rfl (zT S2 (by decide) rfl) ?_
                refine d_wrong (n := x39) S2 (fun h40 F41 k42 k43 => ?_)
                have kw44 := k42 (by omega)
                clear k42 k43
                have S45 := zW_sh F41 S2
                have F46 := zW_tr F (zW_mono F41 (x73_16) (x73_17) (x73_18))
                have r47 := z_rng (ez_I h40 71 61)
                have A48 : cpN (ez_I h40 120) (litF N1 r) 288 := by rw [zW_fn F41 120 (fun c => c) (x73_19)]; exact A_li
                have A49 : cpN (ez_I h40 121) (disF N1 N2 r) 32 := by rw [zW_fn F41 121 (fun c => c) (x73_20)]; exact hdi
                refine z_rv ?_
                exact K _ (zW_mono F46 x73_21 x73_22 x73_18) (hd_no hR (fun ok => by obtain ⟨o1, o2, o3⟩ := ok; rw [hok] at o3; omega) (by omega)) (by rw [(show ez_I h40 71 59 = ez_I h 71 59 from zW_f F46 x73_23 x73_24)]; omega)
      · have c3 : ¬ (x2.toInt ≤ i.toInt) := c3
        refine gw_ld rfl rfl ?_
        refine z_gR (q := 121) (zT S2 (by decide) rfl) (zRf S2 (by decide) (by decide) rfl) (by decide) ?_
        refine gw_ld rfl rfl ?_
        refine gw_ld rfl rfl ?_
        refine gw_ld rfl rfl ?_
        refine z_b2 (fun c50 => ?_) (fun c50 => ?_)
        · have c50 : nd.toInt ≤ i.toInt := c50
          refine gw_skip _ ?_
          refine z_C (m := 0) rfl rfl (fun x51 ex51 => ?_)
          refine z_is (n := 32) (zT S2 (by decide) rfl) (zN S2 (by decide) rfl) (by omega) (fun h52 e53 => ?_)
          have S54 := zSh_set S2 e53
          have F55 := zW_setA F e53 (by decide)
          have f56 : ez_I h52 71 61 = (ez_I h2 71 61) := (zI_ne e53 (by omega)).trans (rfl)
          have A57 : cpN (ez_I h52 120) (litF N1 r) 288 := by rw [zI_fn e53 120 (by decide)]; exact A_li
          have A58 : cpN (ez_I h52 121) (disF N1 N2 r) (i.toInt.toNat + 1) := cpN_s A_di e53 (by omega) (by show x51.toInt = ((if i.toInt.toNat < N2 then r (N1 + i.toInt.toNat) else 0 : Nat) : Int); rw [if_neg (by omega)]; omega) rfl
          refine gw_ld rfl rfl ?_
          refine gw_ld rfl rfl ?_
          refine z_gR (q := 121) (zT S54 (by decide) rfl) (zRf S54 (by decide) (by decide) rfl) (by decide) ?_
          refine gw_ld rfl rfl ?_
          refine z_ia (n := 32) (zT S54 (by decide) rfl) (zN S54 (by decide) rfl) (by omega) ?_
          generalize ex59 : ez_I h52 121 i.toInt.toNat = x59
          have rx59 := z_rng x59
          have yd := A58 i.toInt.toNat (by omega)
          rw [ex59] at yd
          have ysm : smN (disF N1 N2 r) (i.toInt.toNat + 1) = smN (disF N1 N2 r) i.toInt.toNat + (disF N1 N2 r) i.toInt.toNat := rfl
          have y15 : (disF N1 N2 r) i.toInt.toNat ≤ 15 := dis_15 (rw_15 hrw) (Nat.le_refl _) i.toInt.toNat
          refine z_add (by omega) (fun x60 ex60 => ?_)
          refine gw_st rfl rfl rfl ?_
          show ez_gw _ _ _ _ _ _ _ _ [some (.ref 71), some (.int nl), some (.int nd), l3, some (.int k4), some (.int x60), some (.int i), l7, l8, l9] _ _ _
          refine z_inc rfl (by rw [show (1 : Int32).toInt = 1 from rfl]; omega) (fun x61 ex61 => ?_)
          rw [show (1 : Int32).toInt = 1 from rfl] at ex61
          show ez_gw _ _ _ _ _ _ _ _ [some (.ref 71), some (.int nl), some (.int nd), l3, some (.int k4), some (.int x60), some (.int x61), l7, l8, l9] _ _ _
          refine z_go ?_
          have t62 := congrArg Int32.toInt (f56)
          exact ih h52 x60 x61 F55 (⟨by omega, by omega, by rw [show x61.toInt.toNat = i.toInt.toNat + 1 by omega]; omega, by omega, by omega⟩) (A57) ((by rw [show x61.toInt.toNat = i.toInt.toNat + 1 by omega]; exact A58)) (by omega)
        · have c50 : ¬ (nd.toInt ≤ i.toInt) := c50
          refine gw_ld rfl rfl ?_
          refine z_gR (q := 123) (zT S2 (by decide) rfl) (zRf S2 (by decide) (by decide) rfl) (by decide) ?_
          refine gw_ld rfl rfl ?_
          refine gw_ld rfl rfl ?_
          refine z_add (by omega) (fun x63 ex63 => ?_)
          refine z_iaV (n := 330) (zT S2 (by decide) rfl) (zN S2 (by decide) rfl) (by omega) (zW_f F (by decide) (x73_25 _)) ?_
          generalize ex64 : ez_I h 123 x63.toInt.toNat = x64
          have rx64 := z_rng x64
          have yx64 := hrw x63.toInt.toNat (by omega)
          rw [ex64] at yx64
          refine z_go ?_
          refine gw_skip _ ?_
          refine z_is (n := 32) (zT S2 (by decide) rfl) (zN S2 (by decide) rfl) (by omega) (fun h65 e66 => ?_)
          have S67 := zSh_set S2 e66
          have F68 := zW_setA F e66 (by decide)
          have f69 : ez_I h65 71 61 = (ez_I h2 71 61) := (zI_ne e66 (by omega)).trans (rfl)
          have A70 : cpN (ez_I h65 120) (litF N1 r) 288 := by rw [zI_fn e66 120 (by decide)]; exact A_li
          have A71 : cpN (ez_I h65 121) (disF N1 N2 r) (i.toInt.toNat + 1) := cpN_s A_di e66 (by omega) (by show x64.toInt = ((if i.toInt.toNat < N2 then r (N1 + i.toInt.toNat) else 0 : Nat) : Int); rw [if_pos (by omega), show N1 + i.toInt.toNat = x63.toInt.toNat by omega]; omega) rfl
          refine gw_ld rfl rfl ?_
          refine gw_ld rfl rfl ?_
          refine z_gR (q := 121) (zT S67 (by decide) rfl) (zRf S67 (by decide) (by decide) rfl) (by decide) ?_
          refine gw_ld rfl rfl ?_
          refine z_ia (n := 32) (zT S67 (by decide) rfl) (zN S67 (by decide) rfl) (by omega) ?_
          generalize ex72 : ez_I h65 121 i.toInt.toNat = x72
          have rx72 := z_rng x72
          have yd := A71 i.toInt.toNat (by omega)
          rw [ex72] at yd
          have ysm : smN (disF N1 N2 r) (i.toInt.toNat + 1) = smN (disF N1 N2 r) i.toInt.toNat + (disF N1 N2 r) i.toInt.toNat := rfl
          have y15 : (disF N1 N2 r) i.toInt.toNat ≤ 15 := dis_15 (rw_15 hrw) (Nat.le_refl _) i.toInt.toNat
          refine z_add (by omega) (fun x73 ex73 => ?_)
          refine gw_st rfl rfl rfl ?_
          show ez_gw _ _ _ _ _ _ _ _ [some (.ref 71), some (.int nl), some (.int nd), l3, some (.int k4), some (.int x73), some (.int i), l7, l8, l9] _ _ _
          refine z_inc rfl (by rw [show (1 : Int32).toInt = 1 from rfl]; omega) (fun x74 ex74 => ?_)
          rw [show (1 : Int32).toInt = 1 from rfl] at ex74
          show ez_gw _ _ _ _ _ _ _ _ [some (.ref 71), some (.int nl), some (.int nd), l3, some (.int k4), some (.int x73), some (.int x74), l7, l8, l9] _ _ _
          refine z_go ?_
          have t75 := congrArg Int32.toInt (f69)
          exact ih h65 x73 x74 F68 (⟨by omega, by omega, by rw [show x74.toInt.toNat = i.toInt.toNat + 1 by omega]; omega, by omega, by omega⟩) (A70) ((by rw [show x74.toInt.toNat = i.toInt.toNat + 1 by omega]; exact A71)) (by omega)
set_option maxRecDepth 4000 in
set_option maxHeartbeats 2000000 in
theorem h_T307_L0 {E : Nat → Nat × (Nat → Int32)} {d : Nat} {Q : ez_Q} {h : ez_H} {nl : Int32} {nd : Int32} {l3 : Option Value} {k4 : Int32} {l5 : Option Value} {l6 : Option Value} {l7 : Option Value} {l8 : Option Value} {l9 : Option Value} (S : zSh h) {n p2 N1 N2 : Nat} {r : Nat → Nat} {R : Option (Nat × (Nat → Nat) × (Nat → Nat))} (hp : (ez_I h 71 59).toInt = (p2 : Nat)) (hp8 : p2 ≤ 8 * n) (hf : (ez_I h 71 61).toInt = 0) (hl : nl.toInt = (N1 : Nat) ∧ nd.toInt = (N2 : Nat) ∧ 257 ≤ N1 ∧ N1 ≤ 286 ∧ N2 ≤ 30) (hrw : rwJ (ez_I h 123) r (N1 + N2)) (hR : R = if okH N1 N2 r then some (p2, litF N1 r, disF N1 N2 r) else none) (K : ∀ h2, zW (fun q k => q = 71 ∧ k = 59 ∨ q = 71 ∧ k = 61) (fun q => q = 115 ∨ q = 120 ∨ q = 121 ∨ q = 122 ∨ q = 123) (fun _ => False) h h2 → hdP (ez_I h2 120) (ez_I h2 121) (ez_I h2 71 59).toInt (ez_I h2 71 61).toInt R → (0 ≤ (ez_I h2 71 59).toInt ∧ (ez_I h2 71 59).toInt ≤ 8 * (n : Int)) → Q (.inl none) h2) : ∀ N : Nat, (∀ (h2 : ez_H) (sm : Int32) (i : Int32) , zW (fun q k => q = 71 ∧ k = 61) (fun q => q = 120 ∨ q = 121) (fun _ => False) h h2 → (0 ≤ i.toInt ∧ i.toInt ≤ 288 ∧ sm.toInt = 0 ∧ (ez_I h2 71 61).toInt = 0) → (cpN (ez_I h2 120) (litF N1 r) i.toInt.toNat) → (1000 - i.toInt) < (N : Int) → pw E (d + 2) 58 313 [some (.ref 71), some (.int nl), some (.int nd), l3, some (.int k4), some (.int sm), some (.int i), l7, l8, l9] [] h2 Q) := by
  intro N
  induction N with
  | zero => exact fun h2 sm i  F hinv A_li hm => absurd hm (by have w_sm := z_rng sm; have w_i := z_rng i; have gnl := z_rng nl; have gnd := z_rng nd; have gk4 := z_rng k4; omega)
  | succ N ih =>
    refine fun h2 sm i  F hinv A_li hm => ?_
    · skip
      have w_sm := z_rng sm
      have w_i := z_rng i
      have gnl := z_rng nl
      have gnd := z_rng nd
      have gk4 := z_rng k4
      have S2 := zW_sh F S
      apply ez_Wp_in
      show ez_gw _ _ _ _ _ _ (cz_58) _ _ _ _ _
      refine gw_skip _ ?_
      have r1 := z_rng (ez_I h2 71 61)
      refine gw_ld rfl rfl ?_
      refine z_C (m := 288) rfl rfl (fun x2 ex2 => ?_)
      refine z_b2 (fun c3 => ?_) (fun c3 => ?_)
      · have c3 : x2.toInt ≤ i.toInt := c3
        refine gw_skip _ ?_
        refine z_C (m := 0) rfl rfl (fun x4 ex4 => ?_)
        refine gw_st rfl rfl rfl ?_
        show ez_gw _ _ _ _ _ _ _ _ [some (.ref 71), some (.int nl), some (.int nd), l3, some (.int k4), some (.int sm), some (.int x4), l7, l8, l9] _ _ _
        exact ez_Wp_at ((h_T307_L1 (nl := nl) (nd := nd) (l3 := l3) (k4 := k4) (l5 := l5) (l6 := l6) (l7 := l7) (l8 := l8) (l9 := l9) S hp hp8 hf hl hrw hR K (((1000 - x4.toInt)).toNat + 1)) h2 sm x4 F (⟨by omega, by omega, by rw [show x4.toInt.toNat = 0 by omega]; show _ = ((0 : Nat) : Int); omega, by omega, by omega⟩) ((by have b1 := A_li; rw [show i.toInt.toNat = 288 by omega] at b1; exact b1)) ((fun q hq => by omega)) (by omega)) rfl
      · have c3 : ¬ (x2.toInt ≤ i.toInt) := c3
        refine gw_ld rfl rfl ?_
        refine z_gR (q := 120) (zT S2 (by decide) rfl) (zRf S2 (by decide) (by decide) rfl) (by decide) ?_
        refine gw_ld rfl rfl ?_
        refine gw_ld rfl rfl ?_
        refine gw_ld rfl rfl ?_
        refine z_b2 (fun c5 => ?_) (fun c5 => ?_)
        · have c5 : nl.toInt ≤ i.toInt := c5
          refine gw_skip _ ?_
          refine z_C (m := 0) rfl rfl (fun x6 ex6 => ?_)
          refine z_is (n := 288) (zT S2 (by decide) rfl) (zN S2 (by decide) rfl) (by omega) (fun h7 e8 => ?_)
          have S9 := zSh_set S2 e8
          have F10 := zW_setA F e8 (by decide)
          have f11 : ez_I h7 71 61 = (ez_I h2 71 61) := (zI_ne e8 (by omega)).trans (rfl)
          have A12 : cpN (ez_I h7 120) (litF N1 r) (i.toInt.toNat + 1) := cpN_s A_li e8 (by omega) (by show x6.toInt = ((if i.toInt.toNat < N1 then r i.toInt.toNat else 0 : Nat) : Int); rw [if_neg (by omega)]; omega) rfl
          refine z_inc rfl (by rw [show (1 : Int32).toInt = 1 from rfl]; omega) (fun x13 ex13 => ?_)
          rw [show (1 : Int32).toInt = 1 from rfl] at ex13
          show ez_gw _ _ _ _ _ _ _ _ [some (.ref 71), some (.int nl), some (.int nd), l3, some (.int k4), some (.int sm), some (.int x13), l7, l8, l9] _ _ _
          refine z_go ?_
          have t14 := congrArg Int32.toInt (f11)
          exact ih h7 sm x13 F10 (by omega) ((by rw [show x13.toInt.toNat = i.toInt.toNat + 1 by omega]; exact A12)) (by omega)
        · have c5 : ¬ (nl.toInt ≤ i.toInt) := c5
          refine gw_ld rfl rfl ?_
          refine z_gR (q := 123) (zT S2 (by decide) rfl) (zRf S2 (by decide) (by decide) rfl) (by decide) ?_
          refine gw_ld rfl rfl ?_
          refine z_iaV (n := 330) (zT S2 (by decide) rfl) (zN S2 (by decide) rfl) (by omega) (zW_f F (by decide) (x73_25 _)) ?_
          generalize ex15 : ez_I h 123 i.toInt.toNat = x15
          have rx15 := z_rng x15
          have yx15 := hrw i.toInt.toNat (by omega)
          rw [ex15] at yx15
          refine z_go ?_
          refine gw_skip _ ?_
          refine z_is (n := 288) (zT S2 (by decide) rfl) (zN S2 (by decide) rfl) (by omega) (fun h16 e17 => ?_)
          have S18 := zSh_set S2 e17
          have F19 := zW_setA F e17 (by decide)
          have f20 : ez_I h16 71 61 = (ez_I h2 71 61) := (zI_ne e17 (by omega)).trans (rfl)
          have A21 : cpN (ez_I h16 120) (litF N1 r) (i.toInt.toNat + 1) := cpN_s A_li e17 (by omega) (by show x15.toInt = ((if i.toInt.toNat < N1 then r i.toInt.toNat else 0 : Nat) : Int); rw [if_pos (by omega)]; omega) rfl
          refine z_inc rfl (by rw [show (1 : Int32).toInt = 1 from rfl]; omega) (fun x22 ex22 => ?_)
          rw [show (1 : Int32).toInt = 1 from rfl] at ex22
          show ez_gw _ _ _ _ _ _ _ _ [some (.ref 71), some (.int nl), some (.int nd), l3, some (.int k4), some (.int sm), some (.int x22), l7, l8, l9] _ _ _
          refine z_go ?_
          have t23 := congrArg Int32.toInt (f20)
          exact ih h16 sm x22 F19 (by omega) ((by rw [show x22.toInt.toNat = i.toInt.toNat + 1 by omega]; exact A21)) (by omega)
set_option maxRecDepth 4000 in
set_option maxHeartbeats 2000000 in
theorem h_T307 {E : Nat → Nat × (Nat → Int32)} {d : Nat} {Q : ez_Q} {h : ez_H} {nl : Int32} {nd : Int32} {l3 : Option Value} {k4 : Int32} {l5 : Option Value} {l6 : Option Value} {l7 : Option Value} {l8 : Option Value} {l9 : Option Value} (S : zSh h) {n p2 N1 N2 : Nat} {r : Nat → Nat} {R : Option (Nat × (Nat → Nat) × (Nat → Nat))} (hp : (ez_I h 71 59).toInt = (p2 : Nat)) (hp8 : p2 ≤ 8 * n) (hf : (ez_I h 71 61).toInt = 0) (hl : nl.toInt = (N1 : Nat) ∧ nd.toInt = (N2 : Nat) ∧ 257 ≤ N1 ∧ N1 ≤ 286 ∧ N2 ≤ 30) (hrw : rwJ (ez_I h 123) r (N1 + N2)) (hR : R = if okH N1 N2 r then some (p2, litF N1 r, disF N1 N2 r) else none) (K : ∀ h2, zW (fun q k => q = 71 ∧ k = 59 ∨ q = 71 ∧ k = 61) (fun q => q = 115 ∨ q = 120 ∨ q = 121 ∨ q = 122 ∨ q = 123) (fun _ => False) h h2 → hdP (ez_I h2 120) (ez_I h2 121) (ez_I h2 71 59).toInt (ez_I h2 71 61).toInt R → (0 ≤ (ez_I h2 71 59).toInt ∧ (ez_I h2 71 59).toInt ≤ 8 * (n : Int)) → Q (.inl none) h2) : pw E (d + 2) 58 307 [some (.ref 71), some (.int nl), some (.int nd), l3, some (.int k4), l5, l6, l7, l8, l9] [] h Q := by
  have gnl := z_rng nl
  have gnd := z_rng nd
  have gk4 := z_rng k4
  have F := zW_refl (fun q k => q = 71 ∧ k = 61) (fun q => q = 120 ∨ q = 121) (fun _ => False) h
  apply ez_Wp_in
  show ez_gw _ _ _ _ _ _ (cz_58) _ _ _ _ _
  refine gw_skip _ ?_
  have r1 := z_rng (ez_I h 71 61)
  refine z_C (m := 0) rfl rfl (fun x2 ex2 => ?_)
  refine gw_st rfl rfl rfl ?_
  show ez_gw _ _ _ _ _ _ _ _ [some (.ref 71), some (.int nl), some (.int nd), l3, some (.int k4), some (.int x2), l6, l7, l8, l9] _ _ _
  refine z_C (m := 0) rfl rfl (fun x3 ex3 => ?_)
  refine gw_st rfl rfl rfl ?_
  show ez_gw _ _ _ _ _ _ _ _ [some (.ref 71), some (.int nl), some (.int nd), l3, some (.int k4), some (.int x2), some (.int x3), l7, l8, l9] _ _ _
  exact ez_Wp_at ((h_T307_L0 (nl := nl) (nd := nd) (l3 := l3) (k4 := k4) (l5 := l5) (l6 := l6) (l7 := l7) (l8 := l8) (l9 := l9) S hp hp8 hf hl hrw hR K (((1000 - x3.toInt)).toNat + 1)) h x2 x3 F (by omega) ((fun q hq => by omega)) (by omega)) rfl
end
section
/-! PRINTED by wip/pack: the model reads a head: the row -/
theorem x73_26 : ∀ q k : Nat, (q = 71 ∧ k = 59 ∨ q = 71 ∧ k = 61) → (q = 71 ∧ k = 59 ∨ q = 71 ∧ k = 61) := fun q k hk => hk.elim (fun g => (.inl g)) (fun hk => (.inr hk))
theorem x73_27 : ∀ q : Nat, (q = 115 ∨ q = 123) → (q = 115 ∨ q = 120 ∨ q = 121 ∨ q = 122 ∨ q = 123) := fun q hk => hk.elim (fun g => (.inl g)) (fun hk => (.inr (.inr (.inr (.inr hk)))))
theorem x73_28 : ∀ q : Nat, (False) → (False) := fun q hk => hk.elim
theorem x73_29 : ∀ q : Nat, (q = 115 ∨ q = 120 ∨ q = 121 ∨ q = 122 ∨ q = 123) → (q = 115 ∨ q = 120 ∨ q = 121 ∨ q = 122 ∨ q = 123) := fun q hk => hk.elim (fun g => (.inl g)) (fun hk => hk.elim (fun g => (.inr (.inl g))) (fun hk => hk.elim (fun g => (.inr (.inr (.inl g)))) (fun hk => hk.elim (fun g => (.inr (.inr (.inr (.inl g))))) (fun hk => (.inr (.inr (.inr (.inr hk))))))))
theorem x73_30 : ¬ (72 = 115 ∨ 72 = 123) := by omega
theorem x73_31 : ∀ k : Nat, ¬ (72 = 71 ∧ k = 59 ∨ 72 = 71 ∧ k = 61) := fun k c => by omega
theorem x73_32 : ¬ (71 = 115 ∨ 71 = 123) := by omega
theorem x73_33 : ¬ (71 = 71 ∧ 6 = 59 ∨ 71 = 71 ∧ 6 = 61) := by omega
theorem x73_34 : ¬ (122 = 115 ∨ 122 = 123) := by omega
theorem x73_35 : ∀ k : Nat, ¬ (122 = 71 ∧ k = 59 ∨ 122 = 71 ∧ k = 61) := fun k c => by omega
theorem x73_36 : ∀ q : Nat, (q = 115) → (q = 115 ∨ q = 123) := fun q hk => (.inl hk)
theorem x73_37 : ∀ k : Nat, ¬ (123 = 71 ∧ k = 59 ∨ 123 = 71 ∧ k = 61) := fun k c => by omega
theorem x73_38 : ∀ q : Nat, (False) → (q = 115 ∨ q = 123) := fun q hk => hk.elim
theorem x73_39 : ∀ q k : Nat, (q = 71 ∧ k = 61) → (q = 71 ∧ k = 59 ∨ q = 71 ∧ k = 61) := fun q k hk => (.inr hk)
theorem x73_40 : ∀ k : Nat, ¬ (123 = 71 ∧ k = 61) := fun k c => by omega
set_option maxRecDepth 4000 in
set_option maxHeartbeats 2000000 in
theorem h_row_L0 {E : Nat → Nat × (Nat → Int32)} {d : Nat} {Q : ez_Q} {h : ez_H} {nl : Int32} {nd : Int32} {mn : Int32} {l4 : Option Value} {l5 : Option Value} {l6 : Option Value} {l7 : Option Value} {l8 : Option Value} {l9 : Option Value} (S : zSh h) {T : Nat → Int} {n : Nat} (hT : tB (ez_I h 72) = T) (hN : (ez_I h 71 6).toInt = (n : Nat)) (hn6 : n ≤ 6000) {p0 N1 N2 : Nat} {L : Nat → Nat} {R : Option (Nat × (Nat → Nat) × (Nat → Nat))} {X : Option (Nat × (Nat → Nat))} (hp : (ez_I h 71 59).toInt = (p0 : Nat)) (hp8 : p0 ≤ 8 * n) (hf : (ez_I h 71 61).toInt = 0) (hl : nl.toInt = (N1 : Nat) ∧ nd.toInt = (N2 : Nat) ∧ 257 ≤ N1 ∧ N1 ≤ 286 ∧ N2 ≤ 30) (ar : aR (ez_I h 122) 19 0 15) (hLe : ∀ k, k < 19 → L k = nL (ez_I h 122) k) (hL0 : ∀ k, 19 ≤ k → k < 288 → L k = 0) (hone : plN (nL (ez_I h 122)) 19 16 = 1 → ctN (nL (ez_I h 122)) 1 19 = 1) (hX0 : X = rwL T n L 288 (N1 + N2) (N1 + N2 - 0) p0 0 (fun _ => 0)) (hXn : X = none → R = none) (hXs : ∀ p2 r, X = some (p2, r) → R = if okH N1 N2 r then some (p2, litF N1 r, disF N1 N2 r) else none) (K : ∀ h2, zW (fun q k => q = 71 ∧ k = 59 ∨ q = 71 ∧ k = 61) (fun q => q = 115 ∨ q = 120 ∨ q = 121 ∨ q = 122 ∨ q = 123) (fun _ => False) h h2 → hdP (ez_I h2 120) (ez_I h2 121) (ez_I h2 71 59).toInt (ez_I h2 71 61).toInt R → (0 ≤ (ez_I h2 71 59).toInt ∧ (ez_I h2 71 59).toInt ≤ 8 * (n : Int)) → Q (.inl none) h2) : ∀ N : Nat, (∀ (h2 : ez_H) (k : Int32) (l5 : Option Value) (l6 : Option Value) (l7 : Option Value) (l8 : Option Value) (l9 : Option Value) (a : Nat) (p2 : Nat) (r : Nat → Nat), zW (fun q k => q = 71 ∧ k = 59 ∨ q = 71 ∧ k = 61) (fun q => q = 115 ∨ q = 123) (fun _ => False) h h2 → (k.toInt = (a : Nat) ∧ a ≤ N1 + N2 ∧ (ez_I h2 71 61).toInt = 0 ∧ (ez_I h2 71 59).toInt = (p2 : Nat) ∧ p2 ≤ 8 * n) → (X = rwL T n L 288 (N1 + N2) (N1 + N2 - a) p2 a r) → (rwJ (ez_I h2 123) r a) → (1000 * (1000 - (a : Int))) < (N : Int) → pw E (d + 2) 58 127 [some (.ref 71), some (.int nl), some (.int nd), some (.int mn), some (.int k), l5, l6, l7, l8, l9] [] h2 Q) ∧ (∀ (h2 : ez_H) (k : Int32) (l5 : Option Value) (l6 : Option Value) (m : Int32) (v : Int32) (i : Int32) (a0 : Nat) (p2 : Nat) (r : Nat → Nat) (t : Nat) (j : Nat) (v9 : Nat), zW (fun q k => q = 71 ∧ k = 59 ∨ q = 71 ∧ k = 61) (fun q => q = 115 ∨ q = 123) (fun _ => False) h h2 → (k.toInt = ((a0 + j : Nat) : Int) ∧ i.toInt = (j : Nat) ∧ j ≤ t ∧ m.toInt = (t : Nat) ∧ 1 ≤ t ∧ t ≤ 200 ∧ a0 + t ≤ N1 + N2 ∧ v.toInt = (v9 : Nat) ∧ v9 ≤ 15 ∧ (ez_I h2 71 61).toInt = 0 ∧ (ez_I h2 71 59).toInt = (p2 : Nat) ∧ p2 ≤ 8 * n) → (X = rwL T n L 288 (N1 + N2) (N1 + N2 - (a0 + t)) p2 (a0 + t) (flN r a0 t v9)) → (rwJ (ez_I h2 123) (flN r a0 j v9) (a0 + j)) → (1000 * (1000 - (a0 : Int)) - 1 - (j : Int)) < (N : Int) → pw E (d + 2) 58 264 [some (.ref 71), some (.int nl), some (.int nd), some (.int mn), some (.int k), l5, l6, some (.int m), some (.int v), some (.int i)] [] h2 Q) := by
  intro N
  induction N with
  | zero => exact ⟨fun h2 k l5 l6 l7 l8 l9 a p2 r F hinv A_x A_rw hm => absurd hm (by have w_k := z_rng k; have gnl := z_rng nl; have gnd := z_rng nd; have gmn := z_rng mn; omega), fun h2 k l5 l6 m v i a0 p2 r t j v9 F hinv A_x A_rw hm => absurd hm (by have w_k := z_rng k; have w_m := z_rng m; have w_v := z_rng v; have w_i := z_rng i; have gnl := z_rng nl; have gnd := z_rng nd; have gmn := z_rng mn; omega)⟩
  | succ N ih =>
    refine ⟨fun h2 k l5 l6 l7 l8 l9 a p2 r F hinv A_x A_rw hm => ?_, fun h2 k l5 l6 m v i a0 p2 r t j v9 F hinv A_x A_rw hm => ?_⟩
    · skip
      have w_k := z_rng k
      have gnl := z_rng nl
      have gnd := z_rng nd
      have gmn := z_rng mn
      have S2 := zW_sh F S
      apply ez_Wp_in
      show ez_gw _ _ _ _ _ _ (cz_58) _ _ _ _ _
      refine gw_skip _ ?_
      have r1 := z_rng (ez_I h2 71 59)
      have r2 := z_rng (ez_I h2 71 61)
      refine gw_ld rfl rfl ?_
      refine gw_ld rfl rfl ?_
      refine gw_ld rfl rfl ?_
      refine z_add (by omega) (fun x3 ex3 => ?_)
      refine z_b2 (fun c4 => ?_) (fun c4 => ?_)
      · have c4 : x3.toInt ≤ k.toInt := c4
        refine gw_skip _ ?_
        refine gw_ld rfl rfl ?_
        refine z_gI2 (by decide) (zT S2 (by decide) rfl) (rfl) ?_
        refine z_b1 (fun c5 => ?_) (fun c5 => ?_)
        · have c5 : ((ez_I h2 71 61)).toInt ≤ 0 := c5
          suffices tl : pw E (d + 2) 58 307 [some (.ref 71), some (.int nl), some (.int nd), some (.int mn), some (.int k), l5, l6, l7, l8, l9] [] h2 Q from gw_skip _ (ez_Wp_at tl rfl)
          refine h_T307 (n := n) (p2 := p2) (N1 := N1) (N2 := N2) (r := r) (R := R) S2 (by omega) (by omega) (by omega) hl (by have b1 := A_rw; rw [show a = N1 + N2 by omega] at b1; exact b1) (hXs p2 r (A_x.trans (rwL_e (by omega)))) (fun h6 F7 k8 k9 => ?_)
          have F10 := zW_tr (zW_mono F x73_26 x73_27 x73_28) (zW_mono F7 x73_26 x73_29 x73_28)
          exact K _ F10 k8 k9
        · have c5 : ¬ (((ez_I h2 71 61)).toInt ≤ 0) := c5
          exfalso; omega
      · have c4 : ¬ (x3.toInt ≤ k.toInt) := c4
        refine gw_ld rfl rfl ?_
        refine z_gI2 (by decide) (zT S2 (by decide) rfl) (rfl) ?_
        refine z_b1 (fun c11 => ?_) (fun c11 => ?_)
        · have c11 : ((ez_I h2 71 61)).toInt ≠ 0 := c11
          exfalso; omega
        · have c11 : ¬ (((ez_I h2 71 61)).toInt ≠ 0) := c11
          refine gw_ld rfl rfl ?_
          refine gw_ld rfl rfl ?_
          refine z_gR (q := 122) (zT S2 (by decide) rfl) (zRf S2 (by decide) (by decide) rfl) (by decide) ?_
          refine z_C (m := 19) rfl rfl (fun x12 ex12 => ?_)
          refine z_cl rfl rfl rfl rfl rfl rfl rfl rfl rfl rfl rfl (zT S2 (by decide) rfl) ?_
          refine d_syO (u := 122) (nu := 19) (N := 19) (v := x12) (T := T) (n := n) (p := p2) (L := nL (ez_I h 122)) S2 (fun _ S => ⟨zT S (by decide) rfl, zN S (by decide) rfl⟩) (by decide) (by decide) (by rw [(show ez_I h2 72 = ez_I h 72 from zW_fn F 72 x73_30 x73_31)]; exact hT) (by rw [(show ez_I h2 71 6 = ez_I h 71 6 from zW_f F x73_32 x73_33)]; exact hN) hn6 (by omega) (by omega) (by omega) (by omega) (by rw [(show ez_I h2 122 = ez_I h 122 from zW_fn F 122 x73_34 x73_35)]; exact ar) (by rw [(show ez_I h2 122 = ez_I h 122 from zW_fn F 122 x73_34 x73_35)]) hone (fun h13 x14 q15 F16 k17 k18 k19 k20 k21 k22 => ?_) (fun h23 x24 F25 k26 k27 k28 k29 => ?_)
          · have rx14 := z_rng x14
            have sdl := (sd_eq (by decide) hLe hL0).trans k17
            clear k17
            have S30 := zW_sh F16 S2
            have F31 := zW_tr F (zW_mono F16 (x73_26) (x73_36) (x73_28))
            have r32 := z_rng (ez_I h13 71 59)
            have r33 := z_rng (ez_I h13 71 61)
            have A34 : rwJ (ez_I h13 123) r a := by rw [zW_fn F16 123 (by decide) (x73_37)]; exact A_rw
            refine gw_st rfl rfl rfl ?_
            show ez_gw _ _ _ _ _ _ _ _ [some (.ref 71), some (.int nl), some (.int nd), some (.int mn), some (.int k), some (.int x14), l6, l7, l8, l9] _ _ _
            refine gw_ld rfl rfl ?_
            refine gw_ld rfl rfl ?_
            refine z_cl rfl rfl rfl rfl rfl rfl rfl rfl rfl rfl rfl (trivial) ?_
            refine d_rest (y := x14) S30 (by omega) (fun x35 k36 => ?_)
            have rx35 := z_rng x35
            have hre7 := rEf_7 x14.toInt.toNat
            refine z_cl rfl rfl rfl rfl rfl rfl rfl rfl rfl rfl rfl (zT S30 (by decide) rfl) ?_
            refine d_tbO (v := x35) (T := T) (n := n) (N := (rEf x14.toInt.toNat)) (p := q15) S30 (by rw [(show ez_I h13 72 = ez_I h 72 from zW_fn F31 72 x73_30 x73_31)]; exact hT) (by rw [(show ez_I h13 71 6 = ez_I h 71 6 from zW_f F31 x73_32 x73_33)]; exact hN) hn6 (by omega) (by omega) (by omega) (by omega) (by omega) (fun h37 x38 F39 k40 k41 k42 k43 k44 => ?_) (fun h45 x46 F47 k48 k49 k50 k51 k52 => ?_)
            · have rx38 := z_rng x38
              have S53 := zW_sh F39 S30
              have F54 := zW_tr F31 (zW_mono F39 (x73_26) (x73_38) (x73_28))
              have r55 := z_rng (ez_I h37 71 59)
              have r56 := z_rng (ez_I h37 71 61)
              have A57 : rwJ (ez_I h37 123) r a := by rw [zW_fn F39 123 (fun c => c) (x73_37)]; exact A34
              clear A34
              refine gw_st rfl rfl rfl ?_
              show ez_gw _ _ _ _ _ _ _ _ [some (.ref 71), some (.int nl), some (.int nd), some (.int mn), some (.int k), some (.int x14), some (.int x38), l7, l8, l9] _ _ _
              refine gw_ld rfl rfl ?_
              refine z_C (m := 16) rfl rfl (fun x58 ex58 => ?_)
              refine z_b2 (fun c59 => ?_) (fun c59 => ?_)
              · have c59 : x58.toInt ≤ x14.toInt := c59
                refine gw_skip _ ?_
                have hs16 : 16 ≤ x14.toInt.toNat ∧ x14.toInt.toNat < 19 := by omega
                have re1 := rE_hi hs16
                have hrb := RB_v hs16
                have hk7 : vB T q15 (rEf x14.toInt.toNat) < 128 := Nat.lt_of_lt_of_le k42 (Nat.pow_le_pow_right (n := 2) (by decide) hre7)
                refine gw_ld rfl rfl ?_
                refine gw_ld rfl rfl ?_
                refine z_C (m := 18) rfl rfl (fun x60 ex60 => ?_)
                refine z_b2 (fun c61 => ?_) (fun c61 => ?_)
                · have c61 : x14.toInt ≠ x60.toInt := c61
                  refine gw_skip _ ?_
                  refine z_C (m := 3) rfl rfl (fun x62 ex62 => ?_)
                  refine z_add (by omega) (fun x63 ex63 => ?_)
                  refine gw_st rfl rfl rfl ?_
                  show ez_gw _ _ _ _ _ _ _ _ [some (.ref 71), some (.int nl), some (.int nd), some (.int mn), some (.int k), some (.int x14), some (.int x38), some (.int x63), l8, l9] _ _ _
                  rw [if_neg (by omega)] at hrb
                  have hm : x63.toInt = ((RBf (x14.toInt.toNat - 16) + vB T q15 (rEf x14.toInt.toNat) : Nat) : Int) := by rw [hrb]; omega
                  refine gw_ld rfl rfl ?_
                  refine z_C (m := 16) rfl rfl (fun x64 ex64 => ?_)
                  refine z_b2 (fun c65 => ?_) (fun c65 => ?_)
                  · have c65 : x14.toInt ≠ x64.toInt := c65
                    refine gw_skip _ ?_
                    refine gw_ld rfl rfl ?_
                    refine gw_ld rfl rfl ?_
                    refine z_add (by omega) (fun x66 ex66 => ?_)
                    refine gw_ld rfl rfl ?_
                    refine gw_ld rfl rfl ?_
                    refine z_add (by omega) (fun x67 ex67 => ?_)
                    refine z_b2 (fun c68 => ?_) (fun c68 => ?_)
                    · have c68 : x66.toInt ≤ x67.toInt := c68
                      refine gw_skip _ ?_
                      refine gw_ld rfl rfl ?_
                      refine z_C (m := 16) rfl rfl (fun x69 ex69 => ?_)
                      refine z_b2 (fun c70 => ?_) (fun c70 => ?_)
                      · have c70 : x14.toInt ≠ x69.toInt := c70
                        refine gw_skip _ ?_
                        refine z_C (m := 0) rfl rfl (fun x71 ex71 => ?_)
                        refine gw_st rfl rfl rfl ?_
                        show ez_gw _ _ _ _ _ _ _ _ [some (.ref 71), some (.int nl), some (.int nd), some (.int mn), some (.int k), some (.int x14), some (.int x38), some (.int x63), some (.int x71), l9] _ _ _
                        refine z_C (m := 0) rfl rfl (fun x72 ex72 => ?_)
                        refine gw_st rfl rfl rfl ?_
                        show ez_gw _ _ _ _ _ _ _ _ [some (.ref 71), some (.int nl), some (.int nd), some (.int mn), some (.int k), some (.int x14), some (.int x38), some (.int x63), some (.int x71), some (.int x72)] _ _ _
                        exact ez_Wp_at (ih.2 h37 k (some (.int x14)) (some (.int x38)) x63 x71 x72 a (q15 + (rEf x14.toInt.toNat)) r (RBf (x14.toInt.toNat - 16) + vB T q15 (rEf x14.toInt.toNat)) 0 0 F54 (by omega) (A_x.trans (rwX_y hL0 (by omega) sdl hs16.1 (by omega) re1 (by omega) rfl (by omega) (by omega) (by rw [if_neg (by omega)]))) (rwJ_z A57 rfl) (by omega)) rfl
                      · have c70 : ¬ (x14.toInt ≠ x69.toInt) := c70
                        exfalso; omega
                    · have c68 : ¬ (x66.toInt ≤ x67.toInt) := c68
                      refine gw_ld rfl rfl ?_
                      refine z_C (m := 6) rfl rfl (fun x73 ex73 => ?_)
                      refine z_cl rfl rfl rfl rfl rfl rfl rfl rfl rfl rfl rfl (zT S53 (by decide) rfl) ?_
                      refine d_wrong (n := x73) S53 (fun h74 F75 k76 k77 => ?_)
                      have kw78 := k76 (by omega)
                      clear k76 k77
                      have S79 := zW_sh F75 S53
                      have F80 := zW_tr F54 (zW_mono F75 (x73_39) (x73_38) (x73_28))
                      have f81 : ez_I h74 71 59 = (ez_I h37 71 59) := (zW_f F75 (fun c => c) (by decide)).trans (rfl)
                      have r82 := z_rng (ez_I h74 71 61)
                      have A83 : rwJ (ez_I h74 123) r a := by rw [zW_fn F75 123 (fun c => c) (x73_40)]; exact A57
                      clear A57
                      have t84 := congrArg Int32.toInt (f81)
                      suffices tl : pw E (d + 2) 58 234 [some (.ref 71), some (.int nl), some (.int nd), some (.int mn), some (.int k), some (.int x14), some (.int x38), some (.int x63), l8, l9] [] h74 Q from ez_Wp_at tl rfl
                      refine h_F234 (n := n) S79 (by rw [(show ez_I h74 71 6 = ez_I h 71 6 from zW_f F80 x73_32 x73_33)]; exact hN) hn6 (by omega) (by omega) (by omega) (by omega) (fun h85 F86 k87 k88 => ?_)
                      have F89 := zW_tr (zW_mono F80 x73_26 x73_27 x73_28) (zW_mono F86 x73_26 x73_29 x73_28)
                      exact K _ F89 (.inr ⟨k87, hXn (A_x.trans (rwL_n (by omega) (by omega) (rwS_n sdl hs16.1 (.inr (.inr (by rw [← re1]; omega))))))⟩) k88
                  · have c65 : ¬ (x14.toInt ≠ x64.toInt) := c65
                    refine gw_ld rfl rfl ?_
                    refine z_b1 (fun c90 => ?_) (fun c90 => ?_)
                    · have c90 : k.toInt = 0 := c90
                      refine gw_skip _ ?_
                      refine gw_ld rfl rfl ?_
                      refine z_C (m := 6) rfl rfl (fun x91 ex91 => ?_)
                      refine z_cl rfl rfl rfl rfl rfl rfl rfl rfl rfl rfl rfl (zT S53 (by decide) rfl) ?_
                      refine d_wrong (n := x91) S53 (fun h92 F93 k94 k95 => ?_)
                      have kw96 := k94 (by omega)
                      clear k94 k95
                      have S97 := zW_sh F93 S53
                      have F98 := zW_tr F54 (zW_mono F93 (x73_39) (x73_38) (x73_28))
                      have f99 : ez_I h92 71 59 = (ez_I h37 71 59) := (zW_f F93 (fun c => c) (by decide)).trans (rfl)
                      have r100 := z_rng (ez_I h92 71 61)
                      have A101 : rwJ (ez_I h92 123) r a := by rw [zW_fn F93 123 (fun c => c) (x73_40)]; exact A57
                      clear A57
                      have t102 := congrArg Int32.toInt (f99)
                      suffices tl : pw E (d + 2) 58 234 [some (.ref 71), some (.int nl), some (.int nd), some (.int mn), some (.int k), some (.int x14), some (.int x38), some (.int x63), l8, l9] [] h92 Q from ez_Wp_at tl rfl
                      refine h_F234 (n := n) S97 (by rw [(show ez_I h92 71 6 = ez_I h 71 6 from zW_f F98 x73_32 x73_33)]; exact hN) hn6 (by omega) (by omega) (by omega) (by omega) (fun h103 F104 k105 k106 => ?_)
                      have F107 := zW_tr (zW_mono F98 x73_26 x73_27 x73_28) (zW_mono F104 x73_26 x73_29 x73_28)
                      exact K _ F107 (.inr ⟨k105, hXn (A_x.trans (rwL_n (by omega) (by omega) (rwS_n sdl hs16.1 (.inl (by omega)))))⟩) k106
                    · have c90 : ¬ (k.toInt = 0) := c90
                      refine gw_ld rfl rfl ?_
                      refine gw_ld rfl rfl ?_
                      refine z_add (by omega) (fun x108 ex108 => ?_)
                      refine gw_ld rfl rfl ?_
                      refine gw_ld rfl rfl ?_
                      refine z_add (by omega) (fun x109 ex109 => ?_)
                      refine z_b2 (fun c110 => ?_) (fun c110 => ?_)
                      · have c110 : x108.toInt ≤ x109.toInt := c110
                        refine gw_skip _ ?_
                        refine gw_ld rfl rfl ?_
                        refine z_C (m := 16) rfl rfl (fun x111 ex111 => ?_)
                        refine z_b2 (fun c112 => ?_) (fun c112 => ?_)
                        · have c112 : x14.toInt ≠ x111.toInt := c112
                          exfalso; omega
                        · have c112 : ¬ (x14.toInt ≠ x111.toInt) := c112
                          refine gw_ld rfl rfl ?_
                          refine z_b1 (fun c113 => ?_) (fun c113 => ?_)
                          · have c113 : k.toInt ≤ 0 := c113
                            refine gw_skip _ ?_
                            refine z_C (m := 0) rfl rfl (fun x114 ex114 => ?_)
                            refine gw_st rfl rfl rfl ?_
                            show ez_gw _ _ _ _ _ _ _ _ [some (.ref 71), some (.int nl), some (.int nd), some (.int mn), some (.int k), some (.int x14), some (.int x38), some (.int x63), some (.int x114), l9] _ _ _
                            refine z_C (m := 0) rfl rfl (fun x115 ex115 => ?_)
                            refine gw_st rfl rfl rfl ?_
                            show ez_gw _ _ _ _ _ _ _ _ [some (.ref 71), some (.int nl), some (.int nd), some (.int mn), some (.int k), some (.int x14), some (.int x38), some (.int x63), some (.int x114), some (.int x115)] _ _ _
                            exact ez_Wp_at (ih.2 h37 k (some (.int x14)) (some (.int x38)) x63 x114 x115 a (q15 + (rEf x14.toInt.toNat)) r (RBf (x14.toInt.toNat - 16) + vB T q15 (rEf x14.toInt.toNat)) 0 0 F54 (by omega) (A_x.trans (rwX_y hL0 (by omega) sdl hs16.1 (by omega) re1 (by omega) rfl (by omega) (by omega) (by rw [if_neg (by omega)]))) (rwJ_z A57 rfl) (by omega)) rfl
                          · have c113 : ¬ (k.toInt ≤ 0) := c113
                            refine gw_ld rfl rfl ?_
                            refine z_gR (q := 123) (zT S53 (by decide) rfl) (zRf S53 (by decide) (by decide) rfl) (by decide) ?_
                            refine gw_ld rfl rfl ?_
                            refine z_C (m := 1) rfl rfl (fun x116 ex116 => ?_)
                            refine z_sub (by omega) (fun x117 ex117 => ?_)
                            refine z_ia (n := 330) (zT S53 (by decide) rfl) (zN S53 (by decide) rfl) (by omega) ?_
                            generalize ex118 : ez_I h37 123 x117.toInt.toNat = x118
                            have rx118 := z_rng x118
                            have yr := A57 (a - 1) (by omega)
                            rw [show a - 1 = x117.toInt.toNat by omega, ex118] at yr
                            rw [show x117.toInt.toNat = a - 1 by omega] at yr
                            refine z_go ?_
                            refine gw_skip _ ?_
                            refine gw_st rfl rfl rfl ?_
                            show ez_gw _ _ _ _ _ _ _ _ [some (.ref 71), some (.int nl), some (.int nd), some (.int mn), some (.int k), some (.int x14), some (.int x38), some (.int x63), some (.int x118), l9] _ _ _
                            refine z_C (m := 0) rfl rfl (fun x119 ex119 => ?_)
                            refine gw_st rfl rfl rfl ?_
                            show ez_gw _ _ _ _ _ _ _ _ [some (.ref 71), some (.int nl), some (.int nd), some (.int mn), some (.int k), some (.int x14), some (.int x38), some (.int x63), some (.int x118), some (.int x119)] _ _ _
                            exact ez_Wp_at (ih.2 h37 k (some (.int x14)) (some (.int x38)) x63 x118 x119 a (q15 + (rEf x14.toInt.toNat)) r (RBf (x14.toInt.toNat - 16) + vB T q15 (rEf x14.toInt.toNat)) 0 (x118.toInt.toNat) F54 (by omega) (A_x.trans (rwX_y hL0 (by omega) sdl hs16.1 (by omega) re1 (by omega) rfl (by omega) (by omega) (by rw [if_pos (by omega)]; omega))) (rwJ_z A57 rfl) (by omega)) rfl
                      · have c110 : ¬ (x108.toInt ≤ x109.toInt) := c110
                        refine gw_ld rfl rfl ?_
                        refine z_C (m := 6) rfl rfl (fun x120 ex120 => ?_)
                        refine z_cl rfl rfl rfl rfl rfl rfl rfl rfl rfl rfl rfl (zT S53 (by decide) rfl) ?_
                        refine d_wrong (n := x120) S53 (fun h121 F122 k123 k124 => ?_)
                        have kw125 := k123 (by omega)
                        clear k123 k124
                        have S126 := zW_sh F122 S53
                        have F127 := zW_tr F54 (zW_mono F122 (x73_39) (x73_38) (x73_28))
                        have f128 : ez_I h121 71 59 = (ez_I h37 71 59) := (zW_f F122 (fun c => c) (by decide)).trans (rfl)
                        have r129 := z_rng (ez_I h121 71 61)
                        have A130 : rwJ (ez_I h121 123) r a := by rw [zW_fn F122 123 (fun c => c) (x73_40)]; exact A57
                        clear A57
                        have t131 := congrArg Int32.toInt (f128)
                        suffices tl : pw E (d + 2) 58 234 [some (.ref 71), some (.int nl), some (.int nd), some (.int mn), some (.int k), some (.int x14), some (.int x38), some (.int x63), l8, l9] [] h121 Q from ez_Wp_at tl rfl
                        refine h_F234 (n := n) S126 (by rw [(show ez_I h121 71 6 = ez_I h 71 6 from zW_f F127 x73_32 x73_33)]; exact hN) hn6 (by omega) (by omega) (by omega) (by omega) (fun h132 F133 k134 k135 => ?_)
                        have F136 := zW_tr (zW_mono F127 x73_26 x73_27 x73_28) (zW_mono F133 x73_26 x73_29 x73_28)
                        exact K _ F136 (.inr ⟨k134, hXn (A_x.trans (rwL_n (by omega) (by omega) (rwS_n sdl hs16.1 (.inr (.inr (by rw [← re1]; omega))))))⟩) k135
                · have c61 : ¬ (x14.toInt ≠ x60.toInt) := c61
                  refine z_C (m := 11) rfl rfl (fun x137 ex137 => ?_)
                  refine z_go ?_
                  refine gw_skip _ ?_
                  refine z_add (by omega) (fun x138 ex138 => ?_)
                  refine gw_st rfl rfl rfl ?_
                  show ez_gw _ _ _ _ _ _ _ _ [some (.ref 71), some (.int nl), some (.int nd), some (.int mn), some (.int k), some (.int x14), some (.int x38), some (.int x138), l8, l9] _ _ _
                  rw [if_pos (by omega)] at hrb
                  have hm : x138.toInt = ((RBf (x14.toInt.toNat - 16) + vB T q15 (rEf x14.toInt.toNat) : Nat) : Int) := by rw [hrb]; omega
                  refine gw_ld rfl rfl ?_
                  refine z_C (m := 16) rfl rfl (fun x139 ex139 => ?_)
                  refine z_b2 (fun c140 => ?_) (fun c140 => ?_)
                  · have c140 : x14.toInt ≠ x139.toInt := c140
                    refine gw_skip _ ?_
                    refine gw_ld rfl rfl ?_
                    refine gw_ld rfl rfl ?_
                    refine z_add (by omega) (fun x141 ex141 => ?_)
                    refine gw_ld rfl rfl ?_
                    refine gw_ld rfl rfl ?_
                    refine z_add (by omega) (fun x142 ex142 => ?_)
                    refine z_b2 (fun c143 => ?_) (fun c143 => ?_)
                    · have c143 : x141.toInt ≤ x142.toInt := c143
                      refine gw_skip _ ?_
                      refine gw_ld rfl rfl ?_
                      refine z_C (m := 16) rfl rfl (fun x144 ex144 => ?_)
                      refine z_b2 (fun c145 => ?_) (fun c145 => ?_)
                      · have c145 : x14.toInt ≠ x144.toInt := c145
                        refine gw_skip _ ?_
                        refine z_C (m := 0) rfl rfl (fun x146 ex146 => ?_)
                        refine gw_st rfl rfl rfl ?_
                        show ez_gw _ _ _ _ _ _ _ _ [some (.ref 71), some (.int nl), some (.int nd), some (.int mn), some (.int k), some (.int x14), some (.int x38), some (.int x138), some (.int x146), l9] _ _ _
                        refine z_C (m := 0) rfl rfl (fun x147 ex147 => ?_)
                        refine gw_st rfl rfl rfl ?_
                        show ez_gw _ _ _ _ _ _ _ _ [some (.ref 71), some (.int nl), some (.int nd), some (.int mn), some (.int k), some (.int x14), some (.int x38), some (.int x138), some (.int x146), some (.int x147)] _ _ _
                        exact ez_Wp_at (ih.2 h37 k (some (.int x14)) (some (.int x38)) x138 x146 x147 a (q15 + (rEf x14.toInt.toNat)) r (RBf (x14.toInt.toNat - 16) + vB T q15 (rEf x14.toInt.toNat)) 0 0 F54 (by omega) (A_x.trans (rwX_y hL0 (by omega) sdl hs16.1 (by omega) re1 (by omega) rfl (by omega) (by omega) (by rw [if_neg (by omega)]))) (rwJ_z A57 rfl) (by omega)) rfl
                      · have c145 : ¬ (x14.toInt ≠ x144.toInt) := c145
                        exfalso; omega
                    · have c143 : ¬ (x141.toInt ≤ x142.toInt) := c143
                      refine gw_ld rfl rfl ?_
                      refine z_C (m := 6) rfl rfl (fun x148 ex148 => ?_)
                      refine z_cl rfl rfl rfl rfl rfl rfl rfl rfl rfl rfl rfl (zT S53 (by decide) rfl) ?_
                      refine d_wrong (n := x148) S53 (fun h149 F150 k151 k152 => ?_)
                      have kw153 := k151 (by omega)
                      clear k151 k152
                      have S154 := zW_sh F150 S53
                      have F155 := zW_tr F54 (zW_mono F150 (x73_39) (x73_38) (x73_28))
                      have f156 : ez_I h149 71 59 = (ez_I h37 71 59) := (zW_f F150 (fun c => c) (by decide)).trans (rfl)
                      have r157 := z_rng (ez_I h149 71 61)
                      have A158 : rwJ (ez_I h149 123) r a := by rw [zW_fn F150 123 (fun c => c) (x73_40)]; exact A57
                      clear A57
                      have t159 := congrArg Int32.toInt (f156)
                      suffices tl : pw E (d + 2) 58 234 [some (.ref 71), some (.int nl), some (.int nd), some (.int mn), some (.int k), some (.int x14), some (.int x38), some (.int x138), l8, l9] [] h149 Q from ez_Wp_at tl rfl
                      refine h_F234 (n := n) S154 (by rw [(show ez_I h149 71 6 = ez_I h 71 6 from zW_f F155 x73_32 x73_33)]; exact hN) hn6 (by omega) (by omega) (by omega) (by omega) (fun h160 F161 k162 k163 => ?_)
                      have F164 := zW_tr (zW_mono F155 x73_26 x73_27 x73_28) (zW_mono F161 x73_26 x73_29 x73_28)
                      exact K _ F164 (.inr ⟨k162, hXn (A_x.trans (rwL_n (by omega) (by omega) (rwS_n sdl hs16.1 (.inr (.inr (by rw [← re1]; omega))))))⟩) k163
                  · have c140 : ¬ (x14.toInt ≠ x139.toInt) := c140
                    exfalso; omega
              · have c59 : ¬ (x58.toInt ≤ x14.toInt) := c59
                have re0 := rE_lo (s := x14.toInt.toNat) (by omega)
                rw [re0] at k41 k42
                refine gw_ld rfl rfl ?_
                refine z_gR (q := 123) (zT S53 (by decide) rfl) (zRf S53 (by decide) (by decide) rfl) (by decide) ?_
                refine gw_ld rfl rfl ?_
                refine gw_ld rfl rfl ?_
                refine z_is (n := 330) (zT S53 (by decide) rfl) (zN S53 (by decide) rfl) (by omega) (fun h165 e166 => ?_)
                have S167 := zSh_set S53 e166
                have F168 := zW_setA F54 e166 (by decide)
                have f169 : ez_I h165 71 59 = (ez_I h37 71 59) := (zI_ne e166 (by omega)).trans (rfl)
                have f170 : ez_I h165 71 61 = (ez_I h37 71 61) := (zI_ne e166 (by omega)).trans (rfl)
                have A171 : rwJ (ez_I h165 123) (flN r a 1 x14.toInt.toNat) (a + 1) := rwJ_s (i := 0) (rwJ_z A57 rfl) e166 (by omega) (by omega) (by omega) rfl rfl
                refine z_inc rfl (by rw [show (1 : Int32).toInt = 1 from rfl]; omega) (fun x172 ex172 => ?_)
                rw [show (1 : Int32).toInt = 1 from rfl] at ex172
                show ez_gw _ _ _ _ _ _ _ _ [some (.ref 71), some (.int nl), some (.int nd), some (.int mn), some (.int x172), some (.int x14), some (.int x38), l7, l8, l9] _ _ _
                refine z_go ?_
                have t173 := congrArg Int32.toInt (f169)
                have t174 := congrArg Int32.toInt (f170)
                exact ih.1 h165 x172 (some (.int x14)) (some (.int x38)) (l7) (l8) (l9) (a + 1) q15 (flN r a 1 x14.toInt.toNat) F168 (by omega) (A_x.trans (rwX_l hL0 (by omega) sdl (by omega))) (A171) (by omega)
            · have rx46 := z_rng x46
              have S175 := zW_sh F47 S30
              have F176 := zW_tr F31 (zW_mono F47 (x73_26) (x73_38) (x73_28))
              have r177 := z_rng (ez_I h45 71 59)
              have r178 := z_rng (ez_I h45 71 61)
              have A179 : rwJ (ez_I h45 123) r a := by rw [zW_fn F47 123 (fun c => c) (x73_37)]; exact A34
              clear A34
              refine gw_st rfl rfl rfl ?_
              show ez_gw _ _ _ _ _ _ _ _ [some (.ref 71), some (.int nl), some (.int nd), some (.int mn), some (.int k), some (.int x14), some (.int x46), l7, l8, l9] _ _ _
              suffices tl : pw E (d + 2) 58 165 [some (.ref 71), some (.int nl), some (.int nd), some (.int mn), some (.int k), some (.int x14), some (.int x46), l7, l8, l9] [] h45 Q from ez_Wp_at tl rfl
              refine h_F165 (n := n) S175 (by rw [(show ez_I h45 71 6 = ez_I h 71 6 from zW_f F176 x73_32 x73_33)]; exact hN) hn6 (by omega) (by omega) (by omega) (by omega) (by have h128 : (2 ^ (rEf x14.toInt.toNat) : Nat) ≤ 2 ^ 7 := Nat.pow_le_pow_right (by decide) hre7; omega) (fun h180 F181 k182 k183 => ?_)
              have F184 := zW_tr (zW_mono F176 x73_26 x73_27 x73_28) (zW_mono F181 x73_26 x73_29 x73_28)
              exact K _ F184 (.inr ⟨k182, hXn (A_x.trans (rwL_n (by omega) (by omega) (rwS_n sdl (by have q9 := Nat.lt_or_ge x14.toInt.toNat 16; rcases q9 with q9 | q9; rw [rE_lo q9] at *; omega; exact q9) (.inr (.inl (by rw [← rE_hi ⟨by have q9 := Nat.lt_or_ge x14.toInt.toNat 16; rcases q9 with q9 | q9; rw [rE_lo q9] at *; omega; exact q9, by omega⟩]; omega))))))⟩) k183
          · have rx24 := z_rng x24
            have sdn := (sd_eq (L := L) (by decide) hLe hL0).trans k26
            have S185 := zW_sh F25 S2
            have F186 := zW_tr F (zW_mono F25 (x73_26) (x73_36) (x73_28))
            have r187 := z_rng (ez_I h23 71 59)
            have r188 := z_rng (ez_I h23 71 61)
            have A189 : rwJ (ez_I h23 123) r a := by rw [zW_fn F25 123 (by decide) (x73_37)]; exact A_rw
            refine gw_st rfl rfl rfl ?_
            show ez_gw _ _ _ _ _ _ _ _ [some (.ref 71), some (.int nl), some (.int nd), some (.int mn), some (.int k), some (.int x24), l6, l7, l8, l9] _ _ _
            suffices tl : pw E (d + 2) 58 154 [some (.ref 71), some (.int nl), some (.int nd), some (.int mn), some (.int k), some (.int x24), l6, l7, l8, l9] [] h23 Q from ez_Wp_at tl rfl
            refine h_F154 (n := n) S185 (by rw [(show ez_I h23 71 6 = ez_I h 71 6 from zW_f F186 x73_32 x73_33)]; exact hN) hn6 (by omega) (by omega) (by omega) (by omega) (by omega) (fun h190 F191 k192 k193 => ?_)
            have F194 := zW_tr (zW_mono F186 x73_26 x73_27 x73_28) (zW_mono F191 x73_26 x73_29 x73_28)
            exact K _ F194 (.inr ⟨k192, hXn (A_x.trans (rwL_n (by omega) (by omega) (rwS_0 sdn)))⟩) k193
    · skip
      have w_k := z_rng k
      have w_m := z_rng m
      have w_v := z_rng v
      have w_i := z_rng i
      have gnl := z_rng nl
      have gnd := z_rng nd
      have gmn := z_rng mn
      have S2 := zW_sh F S
      apply ez_Wp_in
      show ez_gw _ _ _ _ _ _ (cz_58) _ _ _ _ _
      refine gw_skip _ ?_
      have r195 := z_rng (ez_I h2 71 59)
      have r196 := z_rng (ez_I h2 71 61)
      refine gw_ld rfl rfl ?_
      refine gw_ld rfl rfl ?_
      refine z_b2 (fun c197 => ?_) (fun c197 => ?_)
      · have c197 : m.toInt ≤ i.toInt := c197
        refine gw_skip _ ?_
        refine z_go ?_
        exact ih.1 h2 k (l5) (l6) (some (.int m)) (some (.int v)) (some (.int i)) (a0 + t) p2 (flN r a0 t v9) F (by omega) (A_x) ((by have b1 := A_rw; rw [show j = t by omega] at b1; exact b1)) (by omega)
      · have c197 : ¬ (m.toInt ≤ i.toInt) := c197
        refine gw_ld rfl rfl ?_
        refine z_gI2 (by decide) (zT S2 (by decide) rfl) (rfl) ?_
        refine z_b1 (fun c198 => ?_) (fun c198 => ?_)
        · have c198 : ((ez_I h2 71 61)).toInt ≠ 0 := c198
          exfalso; omega
        · have c198 : ¬ (((ez_I h2 71 61)).toInt ≠ 0) := c198
          refine gw_ld rfl rfl ?_
          refine z_gR (q := 123) (zT S2 (by decide) rfl) (zRf S2 (by decide) (by decide) rfl) (by decide) ?_
          refine gw_ld rfl rfl ?_
          refine gw_ld rfl rfl ?_
          refine z_is (n := 330) (zT S2 (by decide) rfl) (zN S2 (by decide) rfl) (by omega) (fun h199 e200 => ?_)
          have S201 := zSh_set S2 e200
          have F202 := zW_setA F e200 (by decide)
          have f203 : ez_I h199 71 59 = (ez_I h2 71 59) := (zI_ne e200 (by omega)).trans (rfl)
          have f204 : ez_I h199 71 61 = (ez_I h2 71 61) := (zI_ne e200 (by omega)).trans (rfl)
          have A205 : rwJ (ez_I h199 123) (flN r a0 (j + 1) v9) (a0 + (j + 1)) := rwJ_s A_rw e200 (by omega) (by omega) (by omega) rfl rfl
          refine z_inc rfl (by rw [show (1 : Int32).toInt = 1 from rfl]; omega) (fun x206 ex206 => ?_)
          rw [show (1 : Int32).toInt = 1 from rfl] at ex206
          show ez_gw _ _ _ _ _ _ _ _ [some (.ref 71), some (.int nl), some (.int nd), some (.int mn), some (.int x206), l5, l6, some (.int m), some (.int v), some (.int i)] _ _ _
          refine z_inc rfl (by rw [show (1 : Int32).toInt = 1 from rfl]; omega) (fun x207 ex207 => ?_)
          rw [show (1 : Int32).toInt = 1 from rfl] at ex207
          show ez_gw _ _ _ _ _ _ _ _ [some (.ref 71), some (.int nl), some (.int nd), some (.int mn), some (.int x206), l5, l6, some (.int m), some (.int v), some (.int x207)] _ _ _
          refine z_go ?_
          have t208 := congrArg Int32.toInt (f203)
          have t209 := congrArg Int32.toInt (f204)
          exact ih.2 h199 x206 (l5) (l6) m v x207 a0 p2 r t (j + 1) v9 F202 (by omega) (A_x) (A205) (by omega)
set_option maxRecDepth 4000 in
set_option maxHeartbeats 2000000 in
theorem h_row {E : Nat → Nat × (Nat → Int32)} {d : Nat} {Q : ez_Q} {h : ez_H} {nl : Int32} {nd : Int32} {mn : Int32} {l4 : Option Value} {l5 : Option Value} {l6 : Option Value} {l7 : Option Value} {l8 : Option Value} {l9 : Option Value} (S : zSh h) {T : Nat → Int} {n : Nat} (hT : tB (ez_I h 72) = T) (hN : (ez_I h 71 6).toInt = (n : Nat)) (hn6 : n ≤ 6000) {p0 N1 N2 : Nat} {L : Nat → Nat} {R : Option (Nat × (Nat → Nat) × (Nat → Nat))} {X : Option (Nat × (Nat → Nat))} (hp : (ez_I h 71 59).toInt = (p0 : Nat)) (hp8 : p0 ≤ 8 * n) (hf : (ez_I h 71 61).toInt = 0) (hl : nl.toInt = (N1 : Nat) ∧ nd.toInt = (N2 : Nat) ∧ 257 ≤ N1 ∧ N1 ≤ 286 ∧ N2 ≤ 30) (ar : aR (ez_I h 122) 19 0 15) (hLe : ∀ k, k < 19 → L k = nL (ez_I h 122) k) (hL0 : ∀ k, 19 ≤ k → k < 288 → L k = 0) (hone : plN (nL (ez_I h 122)) 19 16 = 1 → ctN (nL (ez_I h 122)) 1 19 = 1) (hX0 : X = rwL T n L 288 (N1 + N2) (N1 + N2 - 0) p0 0 (fun _ => 0)) (hXn : X = none → R = none) (hXs : ∀ p2 r, X = some (p2, r) → R = if okH N1 N2 r then some (p2, litF N1 r, disF N1 N2 r) else none) (K : ∀ h2, zW (fun q k => q = 71 ∧ k = 59 ∨ q = 71 ∧ k = 61) (fun q => q = 115 ∨ q = 120 ∨ q = 121 ∨ q = 122 ∨ q = 123) (fun _ => False) h h2 → hdP (ez_I h2 120) (ez_I h2 121) (ez_I h2 71 59).toInt (ez_I h2 71 61).toInt R → (0 ≤ (ez_I h2 71 59).toInt ∧ (ez_I h2 71 59).toInt ≤ 8 * (n : Int)) → Q (.inl none) h2) : pw E (d + 2) 58 124 [some (.ref 71), some (.int nl), some (.int nd), some (.int mn), l4, l5, l6, l7, l8, l9] [] h Q := by
  have gnl := z_rng nl
  have gnd := z_rng nd
  have gmn := z_rng mn
  have F := zW_refl (fun q k => q = 71 ∧ k = 59 ∨ q = 71 ∧ k = 61) (fun q => q = 115 ∨ q = 123) (fun _ => False) h
  apply ez_Wp_in
  show ez_gw _ _ _ _ _ _ (cz_58) _ _ _ _ _
  refine gw_skip _ ?_
  have r1 := z_rng (ez_I h 71 59)
  have r2 := z_rng (ez_I h 71 61)
  refine z_C (m := 0) rfl rfl (fun x3 ex3 => ?_)
  refine gw_st rfl rfl rfl ?_
  show ez_gw _ _ _ _ _ _ _ _ [some (.ref 71), some (.int nl), some (.int nd), some (.int mn), some (.int x3), l5, l6, l7, l8, l9] _ _ _
  exact ez_Wp_at ((h_row_L0 (nl := nl) (nd := nd) (mn := mn) (l4 := l4) (l5 := l5) (l6 := l6) (l7 := l7) (l8 := l8) (l9 := l9) S hT hN hn6 hp hp8 hf hl ar hLe hL0 hone hX0 hXn hXs K (((1000 * (1000 - (0 : Int)))).toNat + 1)).1 h x3 (l5) (l6) (l7) (l8) (l9) 0 p0 (fun _ => 0) F (by omega) (hX0) (rwJ_0 _ _) (by omega)) rfl
end
section
/-! PRINTED by wip/pack: the model reads a head -/
theorem x73_41 : ¬ (72 = 122) := by omega
theorem x73_42 : ∀ k : Nat, ¬ (72 = 71 ∧ k = 59 ∨ 72 = 71 ∧ k = 61) := fun k c => by omega
theorem x73_43 : ¬ (71 = 122) := by omega
theorem x73_44 : ¬ (71 = 71 ∧ 6 = 59 ∨ 71 = 71 ∧ 6 = 61) := by omega
theorem x73_45 : ∀ q k : Nat, (q = 71 ∧ k = 59 ∨ q = 71 ∧ k = 61) → (q = 71 ∧ k = 59 ∨ q = 71 ∧ k = 61) := fun q k hk => hk.elim (fun g => (.inl g)) (fun hk => (.inr hk))
theorem x73_46 : ∀ q : Nat, (q = 122) → (q = 115 ∨ q = 120 ∨ q = 121 ∨ q = 122 ∨ q = 123) := fun q hk => (.inr (.inr (.inr (.inl hk))))
theorem x73_47 : ∀ q : Nat, (False) → (False) := fun q hk => hk.elim
theorem x73_48 : ∀ q : Nat, (q = 115 ∨ q = 120 ∨ q = 121 ∨ q = 122 ∨ q = 123) → (q = 115 ∨ q = 120 ∨ q = 121 ∨ q = 122 ∨ q = 123) := fun q hk => hk.elim (fun g => (.inl g)) (fun hk => hk.elim (fun g => (.inr (.inl g))) (fun hk => hk.elim (fun g => (.inr (.inr (.inl g)))) (fun hk => hk.elim (fun g => (.inr (.inr (.inr (.inl g))))) (fun hk => (.inr (.inr (.inr (.inr hk))))))))
theorem x73_49 : ∀ q k : Nat, (q = 71 ∧ k = 61) → (q = 71 ∧ k = 59 ∨ q = 71 ∧ k = 61) := fun q k hk => (.inr hk)
theorem x73_50 : ∀ q : Nat, (False) → (q = 122) := fun q hk => hk.elim
theorem x73_51 : ∀ k : Nat, ¬ (122 = 71 ∧ k = 61) := fun k c => by omega
theorem x73_52 : ∀ k : Nat, ¬ (96 = 71 ∧ k = 59 ∨ 96 = 71 ∧ k = 61) := fun k c => by omega
theorem x73_53 : ∀ k : Nat, ¬ (122 = 71 ∧ k = 59 ∨ 122 = 71 ∧ k = 61) := fun k c => by omega
set_option maxRecDepth 4000 in
set_option maxHeartbeats 2000000 in
theorem h_al_L1 {E : Nat → Nat × (Nat → Int32)} {d : Nat} {Q : ez_Q} {h : ez_H} {nl : Int32} {nd : Int32} {mn : Int32} {l4 : Option Value} {l5 : Option Value} {l6 : Option Value} {l7 : Option Value} {l8 : Option Value} {l9 : Option Value} (S : zSh h) {T : Nat → Int} {n : Nat} (hT : tB (ez_I h 72) = T) (hN : (ez_I h 71 6).toInt = (n : Nat)) (hn6 : n ≤ 6000) {p N1 N2 M : Nat} {R : Option (Nat × (Nat → Nat) × (Nat → Nat))} (hp : (ez_I h 71 59).toInt = ((p + 14 : Nat) : Int)) (hp8 : p + 14 ≤ 8 * n) (hf : (ez_I h 71 61).toInt = 0) (hl : nl.toInt = (N1 : Nat) ∧ nd.toInt = (N2 : Nat) ∧ mn.toInt = (M : Nat) ∧ 257 ≤ N1 ∧ N1 ≤ 286 ∧ N2 ≤ 30 ∧ M ≤ 19) (t96 : ctI (ez_I h 96) ORf 19) (hXn : hd2 T n (p + 14) N1 N2 M = none → R = none) (hXs : ∀ p2 r, hd2 T n (p + 14) N1 N2 M = some (p2, r) → R = if okH N1 N2 r then some (p2, litF N1 r, disF N1 N2 r) else none) (K : ∀ h2, zW (fun q k => q = 71 ∧ k = 59 ∨ q = 71 ∧ k = 61) (fun q => q = 115 ∨ q = 120 ∨ q = 121 ∨ q = 122 ∨ q = 123) (fun _ => False) h h2 → hdP (ez_I h2 120) (ez_I h2 121) (ez_I h2 71 59).toInt (ez_I h2 71 61).toInt R → (0 ≤ (ez_I h2 71 59).toInt ∧ (ez_I h2 71 59).toInt ≤ 8 * (n : Int)) → Q (.inl none) h2) : ∀ N : Nat, (∀ (h2 : ez_H) (k : Int32) , zW (fun q k => q = 71 ∧ k = 59 ∨ q = 71 ∧ k = 61) (fun q => q = 122) (fun _ => False) h h2 → (0 ≤ k.toInt ∧ k.toInt ≤ M ∧ (ez_I h2 71 61).toInt = 0 ∧ (ez_I h2 71 59).toInt = ((p + 14 + 3 * k.toInt.toNat : Nat) : Int) ∧ p + 14 + 3 * k.toInt.toNat ≤ 8 * n) → (alI (ez_I h2 122) T (p + 14) k.toInt.toNat 19) → (100 - k.toInt) < (N : Int) → pw E (d + 2) 58 71 [some (.ref 71), some (.int nl), some (.int nd), some (.int mn), some (.int k), l5, l6, l7, l8, l9] [] h2 Q) := by
  intro N
  induction N with
  | zero => exact fun h2 k  F hinv A_al hm => absurd hm (by have w_k := z_rng k; have gnl := z_rng nl; have gnd := z_rng nd; have gmn := z_rng mn; omega)
  | succ N ih =>
    refine fun h2 k  F hinv A_al hm => ?_
    · skip
      have w_k := z_rng k
      have gnl := z_rng nl
      have gnd := z_rng nd
      have gmn := z_rng mn
      have S2 := zW_sh F S
      apply ez_Wp_in
      show ez_gw _ _ _ _ _ _ (cz_58) _ _ _ _ _
      refine gw_skip _ ?_
      have r1 := z_rng (ez_I h2 71 59)
      have r2 := z_rng (ez_I h2 71 61)
      refine gw_ld rfl rfl ?_
      refine gw_ld rfl rfl ?_
      refine z_b2 (fun c3 => ?_) (fun c3 => ?_)
      · have c3 : mn.toInt ≤ k.toInt := c3
        refine gw_skip _ ?_
        refine gw_ld rfl rfl ?_
        refine z_gR (q := 122) (zT S2 (by decide) rfl) (zRf S2 (by decide) (by decide) rfl) (by decide) ?_
        refine z_C (m := 19) rfl rfl (fun x4 ex4 => ?_)
        refine z_cl rfl rfl rfl rfl rfl rfl rfl rfl rfl rfl rfl (trivial) ?_
        have hali : alI (ez_I h2 122) T (p + 14) M 19 := by have b1 := A_al; rw [show k.toInt.toNat = M by omega] at b1; exact b1
        refine d_whole (u := 122) (n := x4) S2 (nu := 19) (fun _ S => ⟨zT S (by decide) rfl, zN S (by decide) rfl⟩) (by omega) (by rw [show x4.toInt.toNat = 19 by omega]; exact al_19 hali) (fun x5 k6 => ?_)
        have rx5 := z_rng x5
        rw [show x4.toInt.toNat = 19 by omega, ← ws_ext (L := alF T (p + 14) M) 288 (by decide) (fun k hk => (al_nL hali k hk).symm) (fun k a b => alF_0 _ (by omega) k a)] at k6
        refine z_b1 (fun c7 => ?_) (fun c7 => ?_)
        · have c7 : x5.toInt ≠ 0 := c7
          suffices tl : pw E (d + 2) 58 124 [some (.ref 71), some (.int nl), some (.int nd), some (.int mn), some (.int k), l5, l6, l7, l8, l9] [] h2 Q from gw_skip _ (ez_Wp_at tl rfl)
          refine h_row (T := T) (n := n) (p0 := p + 14 + 3 * M) (N1 := N1) (N2 := N2) (L := alF T (p + 14) M) (R := R) (X := hd2 T n (p + 14) N1 N2 M) S2 (by rw [(show ez_I h2 72 = ez_I h 72 from zW_fn F 72 x73_41 x73_42)]; exact hT) (by rw [(show ez_I h2 71 6 = ez_I h 71 6 from zW_f F x73_43 x73_44)]; exact hN) hn6 (by omega) (by omega) (by omega) ⟨by omega, by omega, by omega, by omega, by omega⟩ (al_19 hali) (fun k hk => (al_nL hali k hk).symm) (fun k a b => alF_0 _ (by omega) k a) (ws_one (fun k hk => by have h9 := al_19 hali k hk; show (ez_I h2 122 k).toInt.toNat ≤ 15; omega) (by rw [← ws_ext (L := alF T (p + 14) M) 288 (by decide) (fun k hk => (al_nL hali k hk).symm) (fun k a b => alF_0 _ (by omega) k a)]; omega)) (hd2_y (by omega) (by omega) rfl rfl) hXn hXs (fun h8 F9 k10 k11 => ?_)
          have F12 := zW_tr (zW_mono F x73_45 x73_46 x73_47) (zW_mono F9 x73_45 x73_48 x73_47)
          exact K _ F12 k10 k11
        · have c7 : ¬ (x5.toInt ≠ 0) := c7
          refine gw_ld rfl rfl ?_
          refine z_C (m := 5) rfl rfl (fun x13 ex13 => ?_)
          refine z_cl rfl rfl rfl rfl rfl rfl rfl rfl rfl rfl rfl (zT S2 (by decide) rfl) ?_
          refine d_wrong (n := x13) S2 (fun h14 F15 k16 k17 => ?_)
          have kw18 := k16 (by omega)
          clear k16 k17
          have S19 := zW_sh F15 S2
          have F20 := zW_tr F (zW_mono F15 (x73_49) (x73_50) (x73_47))
          have f21 : ez_I h14 71 59 = (ez_I h2 71 59) := (zW_f F15 (fun c => c) (by decide)).trans (rfl)
          have r22 := z_rng (ez_I h14 71 61)
          have A23 : alI (ez_I h14 122) T (p + 14) M 19 := by rw [zW_fn F15 122 (fun c => c) (x73_51)]; exact hali
          refine z_C (m := 0) rfl rfl (fun x24 ex24 => ?_)
          refine gw_st rfl rfl rfl ?_
          show ez_gw _ _ _ _ _ _ _ _ [some (.ref 71), some (.int nl), some (.int nd), some (.int mn), some (.int x24), l5, l6, l7, l8, l9] _ _ _
          have t25 := congrArg Int32.toInt (f21)
          suffices tl : pw E (d + 2) 58 127 [some (.ref 71), some (.int nl), some (.int nd), some (.int mn), some (.int x24), l5, l6, l7, l8, l9] [] h14 Q from ez_Wp_at tl rfl
          refine h_F127 (n := n) S19 (by rw [(show ez_I h14 71 6 = ez_I h 71 6 from zW_f F20 x73_43 x73_44)]; exact hN) hn6 (by omega) (by omega) (by omega) (fun h26 F27 k28 k29 => ?_)
          have F30 := zW_tr (zW_mono F20 x73_45 x73_46 x73_47) (zW_mono F27 x73_45 x73_48 x73_47)
          exact K _ F30 (.inr ⟨k28, hXn (hd2_o (.inr (by omega)))⟩) k29
      · have c3 : ¬ (mn.toInt ≤ k.toInt) := c3
        refine gw_ld rfl rfl ?_
        refine z_gI2 (by decide) (zT S2 (by decide) rfl) (rfl) ?_
        refine z_b1 (fun c31 => ?_) (fun c31 => ?_)
        · have c31 : ((ez_I h2 71 61)).toInt ≠ 0 := c31
          exfalso; omega
        · have c31 : ¬ (((ez_I h2 71 61)).toInt ≠ 0) := c31
          refine gw_ld rfl rfl ?_
          refine z_gR (q := 122) (zT S2 (by decide) rfl) (zRf S2 (by decide) (by decide) rfl) (by decide) ?_
          refine gw_ld rfl rfl ?_
          refine z_gR (q := 96) (zT S2 (by decide) rfl) (zRf S2 (by decide) (by decide) rfl) (by decide) ?_
          refine gw_ld rfl rfl ?_
          refine z_iaV (n := 19) (zT S2 (by decide) rfl) (zN S2 (by decide) rfl) (by omega) (zW_f F (by decide) (x73_52 _)) ?_
          generalize ex32 : ez_I h 96 k.toInt.toNat = x32
          have rx32 := z_rng x32
          have yx32 := t96 k.toInt.toNat (by omega)
          rw [ex32, show k.toInt.toNat = k.toInt.toNat by omega] at yx32
          have uo := OR_18 k.toInt.toNat (by omega)
          refine gw_ld rfl rfl ?_
          refine z_C (m := 3) rfl rfl (fun x33 ex33 => ?_)
          refine z_cl rfl rfl rfl rfl rfl rfl rfl rfl rfl rfl rfl (zT S2 (by decide) rfl) ?_
          refine d_tbO (v := x33) (T := T) (n := n) (N := 3) (p := (p + 14 + 3 * k.toInt.toNat)) S2 (by rw [(show ez_I h2 72 = ez_I h 72 from zW_fn F 72 x73_41 x73_42)]; exact hT) (by rw [(show ez_I h2 71 6 = ez_I h 71 6 from zW_f F x73_43 x73_44)]; exact hN) hn6 (by omega) (by omega) (by omega) (by omega) (by omega) (fun h34 x35 F36 k37 k38 k39 k40 k41 => ?_) (fun h42 x43 F44 k45 k46 k47 k48 k49 => ?_)
          · have rx35 := z_rng x35
            have S50 := zW_sh F36 S2
            have F51 := zW_tr F (zW_mono F36 (x73_45) (x73_50) (x73_47))
            have r52 := z_rng (ez_I h34 71 59)
            have r53 := z_rng (ez_I h34 71 61)
            have A54 : alI (ez_I h34 122) T (p + 14) k.toInt.toNat 19 := by rw [zW_fn F36 122 (fun c => c) (x73_53)]; exact A_al
            refine z_is (n := 19) (zT S50 (by decide) rfl) (zN S50 (by decide) rfl) (by omega) (fun h55 e56 => ?_)
            have S57 := zSh_set S50 e56
            have F58 := zW_setA F51 e56 (by decide)
            have f59 : ez_I h55 71 59 = (ez_I h34 71 59) := (zI_ne e56 (by omega)).trans (rfl)
            have f60 : ez_I h55 71 61 = (ez_I h34 71 61) := (zI_ne e56 (by omega)).trans (rfl)
            have A61 : alI (ez_I h55 122) T (p + 14) (k.toInt.toNat + 1) 19 := alI_s A54 e56 (by omega) k38 rfl
            refine z_inc rfl (by rw [show (1 : Int32).toInt = 1 from rfl]; omega) (fun x62 ex62 => ?_)
            rw [show (1 : Int32).toInt = 1 from rfl] at ex62
            show ez_gw _ _ _ _ _ _ _ _ [some (.ref 71), some (.int nl), some (.int nd), some (.int mn), some (.int x62), l5, l6, l7, l8, l9] _ _ _
            refine z_go ?_
            have t63 := congrArg Int32.toInt (f59)
            have t64 := congrArg Int32.toInt (f60)
            exact ih h55 x62 F58 (⟨by omega, by omega, by omega, by rw [show x62.toInt.toNat = k.toInt.toNat + 1 by omega]; omega, by rw [show x62.toInt.toNat = k.toInt.toNat + 1 by omega]; omega⟩) ((by rw [show x62.toInt.toNat = k.toInt.toNat + 1 by omega]; exact A61)) (by omega)
          · have rx43 := z_rng x43
            have S65 := zW_sh F44 S2
            have F66 := zW_tr F (zW_mono F44 (x73_45) (x73_50) (x73_47))
            have r67 := z_rng (ez_I h42 71 59)
            have r68 := z_rng (ez_I h42 71 61)
            have A69 : alI (ez_I h42 122) T (p + 14) k.toInt.toNat 19 := by rw [zW_fn F44 122 (fun c => c) (x73_53)]; exact A_al
            refine z_is (n := 19) (zT S65 (by decide) rfl) (zN S65 (by decide) rfl) (by omega) (fun h70 e71 => ?_)
            have S72 := zSh_set S65 e71
            have F73 := zW_setA F66 e71 (by decide)
            have f74 : ez_I h70 71 59 = (ez_I h42 71 59) := (zI_ne e71 (by omega)).trans (rfl)
            have f75 : ez_I h70 71 61 = (ez_I h42 71 61) := (zI_ne e71 (by omega)).trans (rfl)
            have A76 : aR (ez_I h70 122) 19 0 15 := aR_set (al_19 A69) e71 (by have h8 : (2 ^ 3 : Nat) = 8 := rfl; omega)
            refine z_inc rfl (by rw [show (1 : Int32).toInt = 1 from rfl]; omega) (fun x77 ex77 => ?_)
            rw [show (1 : Int32).toInt = 1 from rfl] at ex77
            show ez_gw _ _ _ _ _ _ _ _ [some (.ref 71), some (.int nl), some (.int nd), some (.int mn), some (.int x77), l5, l6, l7, l8, l9] _ _ _
            refine z_go ?_
            have t78 := congrArg Int32.toInt (f74)
            have t79 := congrArg Int32.toInt (f75)
            refine h_F71 (n := n) S72 (by rw [(show ez_I h70 71 6 = ez_I h 71 6 from zW_f F73 x73_43 x73_44)]; exact hN) hn6 (by omega) (by omega) (by omega) A76 (fun h80 F81 k82 k83 => ?_)
            have F84 := zW_tr (zW_mono F73 x73_45 x73_46 x73_47) (zW_mono F81 x73_45 x73_48 x73_47)
            exact K _ F84 (.inr ⟨k82, hXn (hd2_o (.inl (by omega)))⟩) k83
set_option maxRecDepth 4000 in
set_option maxHeartbeats 2000000 in
theorem h_al_L0 {E : Nat → Nat × (Nat → Int32)} {d : Nat} {Q : ez_Q} {h : ez_H} {nl : Int32} {nd : Int32} {mn : Int32} {l4 : Option Value} {l5 : Option Value} {l6 : Option Value} {l7 : Option Value} {l8 : Option Value} {l9 : Option Value} (S : zSh h) {T : Nat → Int} {n : Nat} (hT : tB (ez_I h 72) = T) (hN : (ez_I h 71 6).toInt = (n : Nat)) (hn6 : n ≤ 6000) {p N1 N2 M : Nat} {R : Option (Nat × (Nat → Nat) × (Nat → Nat))} (hp : (ez_I h 71 59).toInt = ((p + 14 : Nat) : Int)) (hp8 : p + 14 ≤ 8 * n) (hf : (ez_I h 71 61).toInt = 0) (hl : nl.toInt = (N1 : Nat) ∧ nd.toInt = (N2 : Nat) ∧ mn.toInt = (M : Nat) ∧ 257 ≤ N1 ∧ N1 ≤ 286 ∧ N2 ≤ 30 ∧ M ≤ 19) (t96 : ctI (ez_I h 96) ORf 19) (hXn : hd2 T n (p + 14) N1 N2 M = none → R = none) (hXs : ∀ p2 r, hd2 T n (p + 14) N1 N2 M = some (p2, r) → R = if okH N1 N2 r then some (p2, litF N1 r, disF N1 N2 r) else none) (K : ∀ h2, zW (fun q k => q = 71 ∧ k = 59 ∨ q = 71 ∧ k = 61) (fun q => q = 115 ∨ q = 120 ∨ q = 121 ∨ q = 122 ∨ q = 123) (fun _ => False) h h2 → hdP (ez_I h2 120) (ez_I h2 121) (ez_I h2 71 59).toInt (ez_I h2 71 61).toInt R → (0 ≤ (ez_I h2 71 59).toInt ∧ (ez_I h2 71 59).toInt ≤ 8 * (n : Int)) → Q (.inl none) h2) : ∀ N : Nat, (∀ (h2 : ez_H) (k : Int32) , zW (fun q k => q = 71 ∧ k = 59 ∨ q = 71 ∧ k = 61) (fun q => q = 122) (fun _ => False) h h2 → (0 ≤ k.toInt ∧ k.toInt ≤ 19 ∧ (ez_I h2 71 61).toInt = 0 ∧ (ez_I h2 71 59).toInt = ((p + 14 : Nat) : Int)) → (zrP (ez_I h2 122) k.toInt.toNat) → (100 - k.toInt) < (N : Int) → pw E (d + 2) 58 47 [some (.ref 71), some (.int nl), some (.int nd), some (.int mn), some (.int k), l5, l6, l7, l8, l9] [] h2 Q) := by
  intro N
  induction N with
  | zero => exact fun h2 k  F hinv A_z0 hm => absurd hm (by have w_k := z_rng k; have gnl := z_rng nl; have gnd := z_rng nd; have gmn := z_rng mn; omega)
  | succ N ih =>
    refine fun h2 k  F hinv A_z0 hm => ?_
    · skip
      have w_k := z_rng k
      have gnl := z_rng nl
      have gnd := z_rng nd
      have gmn := z_rng mn
      have S2 := zW_sh F S
      apply ez_Wp_in
      show ez_gw _ _ _ _ _ _ (cz_58) _ _ _ _ _
      refine gw_skip _ ?_
      have r1 := z_rng (ez_I h2 71 59)
      have r2 := z_rng (ez_I h2 71 61)
      refine gw_ld rfl rfl ?_
      refine z_C (m := 19) rfl rfl (fun x3 ex3 => ?_)
      refine z_b2 (fun c4 => ?_) (fun c4 => ?_)
      · have c4 : x3.toInt ≤ k.toInt := c4
        refine gw_skip _ ?_
        refine z_C (m := 0) rfl rfl (fun x5 ex5 => ?_)
        refine gw_st rfl rfl rfl ?_
        show ez_gw _ _ _ _ _ _ _ _ [some (.ref 71), some (.int nl), some (.int nd), some (.int mn), some (.int x5), l5, l6, l7, l8, l9] _ _ _
        exact ez_Wp_at ((h_al_L1 (nl := nl) (nd := nd) (mn := mn) (l4 := l4) (l5 := l5) (l6 := l6) (l7 := l7) (l8 := l8) (l9 := l9) S hT hN hn6 hp hp8 hf hl t96 hXn hXs K (((100 - x5.toInt)).toNat + 1)) h2 x5 F (⟨by omega, by omega, by omega, by rw [show x5.toInt.toNat = 0 by omega]; omega, by rw [show x5.toInt.toNat = 0 by omega]; omega⟩) ((by rw [show x5.toInt.toNat = 0 by omega]; exact alI_z (fun j hj => A_z0 j (by omega)))) (by omega)) rfl
      · have c4 : ¬ (x3.toInt ≤ k.toInt) := c4
        refine gw_ld rfl rfl ?_
        refine z_gR (q := 122) (zT S2 (by decide) rfl) (zRf S2 (by decide) (by decide) rfl) (by decide) ?_
        refine gw_ld rfl rfl ?_
        refine z_C (m := 0) rfl rfl (fun x6 ex6 => ?_)
        refine z_is (n := 19) (zT S2 (by decide) rfl) (zN S2 (by decide) rfl) (by omega) (fun h7 e8 => ?_)
        have S9 := zSh_set S2 e8
        have F10 := zW_setA F e8 (by decide)
        have f11 : ez_I h7 71 59 = (ez_I h2 71 59) := (zI_ne e8 (by omega)).trans (rfl)
        have f12 : ez_I h7 71 61 = (ez_I h2 71 61) := (zI_ne e8 (by omega)).trans (rfl)
        have A13 : zrP (ez_I h7 122) (k.toInt.toNat + 1) := z0_s A_z0 e8 (by omega) (by omega) rfl
        refine z_inc rfl (by rw [show (1 : Int32).toInt = 1 from rfl]; omega) (fun x14 ex14 => ?_)
        rw [show (1 : Int32).toInt = 1 from rfl] at ex14
        show ez_gw _ _ _ _ _ _ _ _ [some (.ref 71), some (.int nl), some (.int nd), some (.int mn), some (.int x14), l5, l6, l7, l8, l9] _ _ _
        refine z_go ?_
        have t15 := congrArg Int32.toInt (f11)
        have t16 := congrArg Int32.toInt (f12)
        exact ih h7 x14 F10 (by omega) ((by rw [show x14.toInt.toNat = k.toInt.toNat + 1 by omega]; exact A13)) (by omega)
set_option maxRecDepth 4000 in
set_option maxHeartbeats 2000000 in
theorem h_al {E : Nat → Nat × (Nat → Int32)} {d : Nat} {Q : ez_Q} {h : ez_H} {nl : Int32} {nd : Int32} {mn : Int32} {l4 : Option Value} {l5 : Option Value} {l6 : Option Value} {l7 : Option Value} {l8 : Option Value} {l9 : Option Value} (S : zSh h) {T : Nat → Int} {n : Nat} (hT : tB (ez_I h 72) = T) (hN : (ez_I h 71 6).toInt = (n : Nat)) (hn6 : n ≤ 6000) {p N1 N2 M : Nat} {R : Option (Nat × (Nat → Nat) × (Nat → Nat))} (hp : (ez_I h 71 59).toInt = ((p + 14 : Nat) : Int)) (hp8 : p + 14 ≤ 8 * n) (hf : (ez_I h 71 61).toInt = 0) (hl : nl.toInt = (N1 : Nat) ∧ nd.toInt = (N2 : Nat) ∧ mn.toInt = (M : Nat) ∧ 257 ≤ N1 ∧ N1 ≤ 286 ∧ N2 ≤ 30 ∧ M ≤ 19) (t96 : ctI (ez_I h 96) ORf 19) (hXn : hd2 T n (p + 14) N1 N2 M = none → R = none) (hXs : ∀ p2 r, hd2 T n (p + 14) N1 N2 M = some (p2, r) → R = if okH N1 N2 r then some (p2, litF N1 r, disF N1 N2 r) else none) (K : ∀ h2, zW (fun q k => q = 71 ∧ k = 59 ∨ q = 71 ∧ k = 61) (fun q => q = 115 ∨ q = 120 ∨ q = 121 ∨ q = 122 ∨ q = 123) (fun _ => False) h h2 → hdP (ez_I h2 120) (ez_I h2 121) (ez_I h2 71 59).toInt (ez_I h2 71 61).toInt R → (0 ≤ (ez_I h2 71 59).toInt ∧ (ez_I h2 71 59).toInt ≤ 8 * (n : Int)) → Q (.inl none) h2) : pw E (d + 2) 58 44 [some (.ref 71), some (.int nl), some (.int nd), some (.int mn), l4, l5, l6, l7, l8, l9] [] h Q := by
  have gnl := z_rng nl
  have gnd := z_rng nd
  have gmn := z_rng mn
  have F := zW_refl (fun q k => q = 71 ∧ k = 59 ∨ q = 71 ∧ k = 61) (fun q => q = 122) (fun _ => False) h
  apply ez_Wp_in
  show ez_gw _ _ _ _ _ _ (cz_58) _ _ _ _ _
  refine gw_skip _ ?_
  have r1 := z_rng (ez_I h 71 59)
  have r2 := z_rng (ez_I h 71 61)
  refine z_C (m := 0) rfl rfl (fun x3 ex3 => ?_)
  refine gw_st rfl rfl rfl ?_
  show ez_gw _ _ _ _ _ _ _ _ [some (.ref 71), some (.int nl), some (.int nd), some (.int mn), some (.int x3), l5, l6, l7, l8, l9] _ _ _
  exact ez_Wp_at ((h_al_L0 (nl := nl) (nd := nd) (mn := mn) (l4 := l4) (l5 := l5) (l6 := l6) (l7 := l7) (l8 := l8) (l9 := l9) S hT hN hn6 hp hp8 hf hl t96 hXn hXs K (((100 - x3.toInt)).toNat + 1)) h x3 F (by omega) ((fun q hq => by omega)) (by omega)) rfl
theorem x73_54 : ∀ q : Nat, (False) → (q = 115 ∨ q = 120 ∨ q = 121 ∨ q = 122 ∨ q = 123) := fun q hk => hk.elim
set_option maxRecDepth 4000 in
set_option maxHeartbeats 2000000 in
theorem d_head {E : Nat → Nat × (Nat → Int32)} {d : Nat} {Q : ez_Q} {h : ez_H}  (S : zSh h) {T : Nat → Int} {n : Nat} (hT : tB (ez_I h 72) = T) (hN : (ez_I h 71 6).toInt = (n : Nat)) (hn6 : n ≤ 6000) {p : Nat} (hp : (ez_I h 71 59).toInt = (p : Nat)) (hp8 : p ≤ 8 * n) (hf : (ez_I h 71 61).toInt = 0) (t96 : ctI (ez_I h 96) ORf 19) (K : ∀ h2, zW (fun q k => q = 71 ∧ k = 59 ∨ q = 71 ∧ k = 61) (fun q => q = 115 ∨ q = 120 ∨ q = 121 ∨ q = 122 ∨ q = 123) (fun _ => False) h h2 → hdP (ez_I h2 120) (ez_I h2 121) (ez_I h2 71 59).toInt (ez_I h2 71 61).toInt (hdU T n p) → (0 ≤ (ez_I h2 71 59).toInt ∧ (ez_I h2 71 59).toInt ≤ 8 * (n : Int)) → Q (.inl none) h2) : pw E (d + 2) 58 0 [some (.ref 71), none, none, none, none, none, none, none, none, none] [] h Q := by
  have F := zW_refl (fun q k => q = 71 ∧ k = 59 ∨ q = 71 ∧ k = 61) (fun _ => False) (fun _ => False) h
  apply ez_Wp_in
  show ez_gw _ _ _ _ _ _ (cz_58) _ _ _ _ _
  refine gw_skip _ ?_
  have r1 := z_rng (ez_I h 71 59)
  have r2 := z_rng (ez_I h 71 61)
  refine gw_ld rfl rfl ?_
  refine z_C (m := 5) rfl rfl (fun x3 ex3 => ?_)
  refine z_cl rfl rfl rfl rfl rfl rfl rfl rfl rfl rfl rfl (zT S (by decide) rfl) ?_
  refine d_tbO (v := x3) (T := T) (n := n) (N := 5) (p := p) S (by rw [(show ez_I h 72 = ez_I h 72 from zW_fn F 72 (fun c => c) x73_42)]; exact hT) (by rw [(show ez_I h 71 6 = ez_I h 71 6 from zW_f F (fun c => c) x73_44)]; exact hN) hn6 (by omega) (by omega) (by omega) (by omega) (by omega) (fun h4 x5 F6 k7 k8 k9 k10 k11 => ?_) (fun h12 x13 F14 k15 k16 k17 k18 k19 => ?_)
  · have rx5 := z_rng x5
    have S20 := zW_sh F6 S
    have F21 := zW_tr F (zW_mono F6 (x73_45) (x73_47) (x73_47))
    have r22 := z_rng (ez_I h4 71 59)
    have r23 := z_rng (ez_I h4 71 61)
    have q2 := k9
    rw [(show (2 ^ 5 : Nat) = 32 from rfl)] at q2
    refine z_C (m := 257) rfl rfl (fun x24 ex24 => ?_)
    refine z_add (by omega) (fun x25 ex25 => ?_)
    refine gw_st rfl rfl rfl ?_
    show ez_gw _ _ _ _ _ _ _ _ [some (.ref 71), some (.int x25), none, none, none, none, none, none, none, none] _ _ _
    refine gw_ld rfl rfl ?_
    refine z_C (m := 5) rfl rfl (fun x26 ex26 => ?_)
    refine z_cl rfl rfl rfl rfl rfl rfl rfl rfl rfl rfl rfl (zT S20 (by decide) rfl) ?_
    refine d_tbO (v := x26) (T := T) (n := n) (N := 5) (p := (p + 5)) S20 (by rw [(show ez_I h4 72 = ez_I h 72 from zW_fn F21 72 (fun c => c) x73_42)]; exact hT) (by rw [(show ez_I h4 71 6 = ez_I h 71 6 from zW_f F21 (fun c => c) x73_44)]; exact hN) hn6 (by omega) (by omega) (by omega) (by omega) (by omega) (fun h27 x28 F29 k30 k31 k32 k33 k34 => ?_) (fun h35 x36 F37 k38 k39 k40 k41 k42 => ?_)
    · have rx28 := z_rng x28
      have S43 := zW_sh F29 S20
      have F44 := zW_tr F21 (zW_mono F29 (x73_45) (x73_47) (x73_47))
      have r45 := z_rng (ez_I h27 71 59)
      have r46 := z_rng (ez_I h27 71 61)
      have q12 := k32
      rw [(show (2 ^ 5 : Nat) = 32 from rfl)] at q12
      refine z_C (m := 1) rfl rfl (fun x47 ex47 => ?_)
      refine z_add (by omega) (fun x48 ex48 => ?_)
      refine gw_st rfl rfl rfl ?_
      show ez_gw _ _ _ _ _ _ _ _ [some (.ref 71), some (.int x25), some (.int x48), none, none, none, none, none, none, none] _ _ _
      refine gw_ld rfl rfl ?_
      refine z_C (m := 4) rfl rfl (fun x49 ex49 => ?_)
      refine z_cl rfl rfl rfl rfl rfl rfl rfl rfl rfl rfl rfl (zT S43 (by decide) rfl) ?_
      refine d_tbO (v := x49) (T := T) (n := n) (N := 4) (p := (p + 10)) S43 (by rw [(show ez_I h27 72 = ez_I h 72 from zW_fn F44 72 (fun c => c) x73_42)]; exact hT) (by rw [(show ez_I h27 71 6 = ez_I h 71 6 from zW_f F44 (fun c => c) x73_44)]; exact hN) hn6 (by omega) (by omega) (by omega) (by omega) (by omega) (fun h50 x51 F52 k53 k54 k55 k56 k57 => ?_) (fun h58 x59 F60 k61 k62 k63 k64 k65 => ?_)
      · have rx51 := z_rng x51
        have S66 := zW_sh F52 S43
        have F67 := zW_tr F44 (zW_mono F52 (x73_45) (x73_47) (x73_47))
        have r68 := z_rng (ez_I h50 71 59)
        have r69 := z_rng (ez_I h50 71 61)
        have q20 := k55
        rw [(show (2 ^ 4 : Nat) = 16 from rfl)] at q20
        refine z_C (m := 4) rfl rfl (fun x70 ex70 => ?_)
        refine z_add (by omega) (fun x71 ex71 => ?_)
        refine gw_st rfl rfl rfl ?_
        show ez_gw _ _ _ _ _ _ _ _ [some (.ref 71), some (.int x25), some (.int x48), some (.int x71), none, none, none, none, none, none] _ _ _
        refine gw_ld rfl rfl ?_
        refine z_C (m := 286) rfl rfl (fun x72 ex72 => ?_)
        refine z_b2 (fun c73 => ?_) (fun c73 => ?_)
        · have c73 : x72.toInt < x25.toInt := c73
          refine gw_skip _ ?_
          refine gw_ld rfl rfl ?_
          refine z_C (m := 4) rfl rfl (fun x74 ex74 => ?_)
          refine z_cl rfl rfl rfl rfl rfl rfl rfl rfl rfl rfl rfl (zT S66 (by decide) rfl) ?_
          refine d_wrong (n := x74) S66 (fun h75 F76 k77 k78 => ?_)
          have kw79 := k77 (by omega)
          clear k77 k78
          have S80 := zW_sh F76 S66
          have F81 := zW_tr F67 (zW_mono F76 (x73_49) (x73_47) (x73_47))
          have f82 : ez_I h75 71 59 = (ez_I h50 71 59) := (zW_f F76 (fun c => c) (by decide)).trans (rfl)
          have r83 := z_rng (ez_I h75 71 61)
          have t84 := congrArg Int32.toInt (f82)
          suffices tl : pw E (d + 2) 58 44 [some (.ref 71), some (.int x25), some (.int x48), some (.int x71), none, none, none, none, none, none] [] h75 Q from ez_Wp_at tl rfl
          refine h_F44 (n := n) S80 (by rw [(show ez_I h75 71 6 = ez_I h 71 6 from zW_f F81 (fun c => c) x73_44)]; exact hN) hn6 (by omega) (by omega) (by omega) (fun h85 F86 k87 k88 => ?_)
          have F89 := zW_tr (zW_mono F81 x73_45 x73_54 x73_47) (zW_mono F86 x73_45 x73_48 x73_47)
          exact K _ F89 (.inr ⟨k87, hdU_o (.inr (by omega))⟩) k88
        · have c73 : ¬ (x72.toInt < x25.toInt) := c73
          refine gw_ld rfl rfl ?_
          refine z_C (m := 30) rfl rfl (fun x90 ex90 => ?_)
          refine z_b2 (fun c91 => ?_) (fun c91 => ?_)
          · have c91 : x48.toInt ≤ x90.toInt := c91
            suffices tl : pw E (d + 2) 58 44 [some (.ref 71), some (.int x25), some (.int x48), some (.int x71), none, none, none, none, none, none] [] h50 Q from gw_skip _ (ez_Wp_at tl rfl)
            refine h_al (T := T) (n := n) (p := p) (N1 := 257 + (vB T p 5)) (N2 := 1 + (vB T (p + 5) 5)) (M := 4 + (vB T (p + 10) 4)) (R := hdU T n p) S66 (by rw [(show ez_I h50 72 = ez_I h 72 from zW_fn F67 72 (fun c => c) x73_42)]; exact hT) (by rw [(show ez_I h50 71 6 = ez_I h 71 6 from zW_f F67 (fun c => c) x73_44)]; exact hN) hn6 (by omega) (by omega) (by omega) ⟨by omega, by omega, by omega, by omega, by omega, by omega, by omega⟩ (by rw [(show ez_I h50 96 = ez_I h 96 from zW_fn F67 96 (fun c => c) x73_52)]; exact t96) (fun q => hdU_n (by omega) (by omega) (by omega) rfl rfl rfl rfl q) (fun p2 r q => hdU_r (by omega) (by omega) (by omega) rfl rfl rfl rfl q) (fun h92 F93 k94 k95 => ?_)
            have F96 := zW_tr (zW_mono F67 x73_45 x73_54 x73_47) (zW_mono F93 x73_45 x73_48 x73_47)
            exact K _ F96 k94 k95
          · have c91 : ¬ (x48.toInt ≤ x90.toInt) := c91
            refine gw_ld rfl rfl ?_
            refine z_C (m := 4) rfl rfl (fun x97 ex97 => ?_)
            refine z_cl rfl rfl rfl rfl rfl rfl rfl rfl rfl rfl rfl (zT S66 (by decide) rfl) ?_
            refine d_wrong (n := x97) S66 (fun h98 F99 k100 k101 => ?_)
            have kw102 := k100 (by omega)
            clear k100 k101
            have S103 := zW_sh F99 S66
            have F104 := zW_tr F67 (zW_mono F99 (x73_49) (x73_47) (x73_47))
            have f105 : ez_I h98 71 59 = (ez_I h50 71 59) := (zW_f F99 (fun c => c) (by decide)).trans (rfl)
            have r106 := z_rng (ez_I h98 71 61)
            have t107 := congrArg Int32.toInt (f105)
            suffices tl : pw E (d + 2) 58 44 [some (.ref 71), some (.int x25), some (.int x48), some (.int x71), none, none, none, none, none, none] [] h98 Q from ez_Wp_at tl rfl
            refine h_F44 (n := n) S103 (by rw [(show ez_I h98 71 6 = ez_I h 71 6 from zW_f F104 (fun c => c) x73_44)]; exact hN) hn6 (by omega) (by omega) (by omega) (fun h108 F109 k110 k111 => ?_)
            have F112 := zW_tr (zW_mono F104 x73_45 x73_54 x73_47) (zW_mono F109 x73_45 x73_48 x73_47)
            exact K _ F112 (.inr ⟨k110, hdU_o (.inr (by omega))⟩) k111
      · have rx59 := z_rng x59
        have S113 := zW_sh F60 S43
        have F114 := zW_tr F44 (zW_mono F60 (x73_45) (x73_47) (x73_47))
        have r115 := z_rng (ez_I h58 71 59)
        have r116 := z_rng (ez_I h58 71 61)
        refine z_C (m := 4) rfl rfl (fun x117 ex117 => ?_)
        refine z_add (by omega) (fun x118 ex118 => ?_)
        refine gw_st rfl rfl rfl ?_
        show ez_gw _ _ _ _ _ _ _ _ [some (.ref 71), some (.int x25), some (.int x48), some (.int x118), none, none, none, none, none, none] _ _ _
        suffices tl : pw E (d + 2) 58 26 [some (.ref 71), some (.int x25), some (.int x48), some (.int x118), none, none, none, none, none, none] [] h58 Q from ez_Wp_at tl rfl
        refine h_F26 (n := n) S113 (by rw [(show ez_I h58 71 6 = ez_I h 71 6 from zW_f F114 (fun c => c) x73_44)]; exact hN) hn6 (by omega) (by omega) (by have h8 : (2 ^ 5 : Nat) = 32 := rfl; omega) (fun h119 F120 k121 k122 => ?_)
        have F123 := zW_tr (zW_mono F114 x73_45 x73_54 x73_47) (zW_mono F120 x73_45 x73_48 x73_47)
        exact K _ F123 (.inr ⟨k121, hdU_o (.inl (by omega))⟩) k122
    · have rx36 := z_rng x36
      have S124 := zW_sh F37 S20
      have F125 := zW_tr F21 (zW_mono F37 (x73_45) (x73_47) (x73_47))
      have r126 := z_rng (ez_I h35 71 59)
      have r127 := z_rng (ez_I h35 71 61)
      refine z_C (m := 1) rfl rfl (fun x128 ex128 => ?_)
      refine z_add (by omega) (fun x129 ex129 => ?_)
      refine gw_st rfl rfl rfl ?_
      show ez_gw _ _ _ _ _ _ _ _ [some (.ref 71), some (.int x25), some (.int x129), none, none, none, none, none, none, none] _ _ _
      suffices tl : pw E (d + 2) 58 18 [some (.ref 71), some (.int x25), some (.int x129), none, none, none, none, none, none, none] [] h35 Q from ez_Wp_at tl rfl
      refine h_F18 (n := n) S124 (by rw [(show ez_I h35 71 6 = ez_I h 71 6 from zW_f F125 (fun c => c) x73_44)]; exact hN) hn6 (by omega) (by omega) (by have h8 : (2 ^ 5 : Nat) = 32 := rfl; omega) (fun h130 F131 k132 k133 => ?_)
      have F134 := zW_tr (zW_mono F125 x73_45 x73_54 x73_47) (zW_mono F131 x73_45 x73_48 x73_47)
      exact K _ F134 (.inr ⟨k132, hdU_o (.inl (by omega))⟩) k133
  · have rx13 := z_rng x13
    have S135 := zW_sh F14 S
    have F136 := zW_tr F (zW_mono F14 (x73_45) (x73_47) (x73_47))
    have r137 := z_rng (ez_I h12 71 59)
    have r138 := z_rng (ez_I h12 71 61)
    refine z_C (m := 257) rfl rfl (fun x139 ex139 => ?_)
    refine z_add (by omega) (fun x140 ex140 => ?_)
    refine gw_st rfl rfl rfl ?_
    show ez_gw _ _ _ _ _ _ _ _ [some (.ref 71), some (.int x140), none, none, none, none, none, none, none, none] _ _ _
    suffices tl : pw E (d + 2) 58 10 [some (.ref 71), some (.int x140), none, none, none, none, none, none, none, none] [] h12 Q from ez_Wp_at tl rfl
    refine h_F10 (n := n) S135 (by rw [(show ez_I h12 71 6 = ez_I h 71 6 from zW_f F136 (fun c => c) x73_44)]; exact hN) hn6 (by omega) (by omega) (by have h8 : (2 ^ 5 : Nat) = 32 := rfl; omega) (fun h141 F142 k143 k144 => ?_)
    have F145 := zW_tr (zW_mono F136 x73_45 x73_54 x73_47) (zW_mono F142 x73_45 x73_48 x73_47)
    exact K _ F145 (.inr ⟨k143, hdU_o (.inl (by omega))⟩) k144
end
section
/-! the model unpacks: its blocks -/
theorem om_s {h h2 : ez_H} {c x n m : Nat} {y : Int32} {o : Nat → Int} (A : oM (ez_I h c) o n) (e : h2 = ez_setI h c x y) (hx : x = n) (hy : y.toInt % 256 = o n) (hm : m = n + 1) : oM (ez_I h2 c) o m := fun k hk => by
  subst hm; subst hx
  by_cases q : k = x
  · rw [q, zI_eq e, hy]
  · rw [zI_ne e (fun c => q c.2)]; exact A k (by omega)
theorem fx_one1 {f : Nat → Int32} (A : cpN f fxL 288) : plN (nL f) 288 16 = 1 → ctN (nL f) 1 288 = 1 := fun q => by
  have h1 := one_M (L := nL f) (L' := fxL) (M := 288) (N := 288) (Nat.le_refl 288) (fun k hk => cpN_nL A k hk) (fun k a b => by omega)
  rw [h1.1] at q
  have : plN fxL 288 16 = 288 := by decide +kernel
  omega
theorem fx_one2 {f : Nat → Int32} (A : cpN f fxD 32) : plN (nL f) 32 16 = 1 → ctN (nL f) 1 32 = 1 := fun q => by
  have h1 := one_M (L := nL f) (L' := fxD) (M := 32) (N := 32) (Nat.le_refl 32) (fun k hk => cpN_nL A k hk) (fun k a b => by omega)
  rw [h1.1] at q
  have : plN fxD 32 16 = 32 := by decide +kernel
  omega
def lsP (ls : Int) (A B : Prop) : Prop := (ls = 0 → A) ∧ (ls = 1 → B)
def cdP (f g : Nat → Int32) (T : Nat → Int) (n p2 p3 : Nat) : Prop := aR f 288 0 15 ∧ (plN (nL f) 288 16 = 1 → ctN (nL f) 1 288 = 1) ∧ aR g 32 0 15 ∧ (plN (nL g) 32 16 = 1 → ctN (nL g) 1 32 = 1) ∧ ∀ o m, blU T n p2 o m = upP T n (nL f) 288 (nL g) 32 (8 * n) p3 o m
theorem cdP_1 {f g : Nat → Int32} {T : Nat → Int} {n p2 : Nat} (A : cpN f fxL 288) (B : cpN g fxD 32) (h : p2 + 3 ≤ 8 * n) (hv : vB T (p2 + 1) 2 = 1) : cdP f g T n p2 (p2 + 3) :=
  ⟨cpN_aR A (fun k _ => (fxL_1 k).2), fx_one1 A, cpN_aR B (fun k _ => fxD_5 k), fx_one2 B, fun o m => (blU_1 h hv rfl).trans (upP_eq (Nat.le_refl 288) (fun k hk => (cpN_nL A k hk).symm) (fun k a b => by omega) (by decide) (fun k hk => (cpN_nL B k hk).symm) (fun k a _ => if_neg (by omega)) _ _ _ _)⟩
section UO
variable {E : Nat → Nat × (Nat → Int32)} {d : Nat} {Q : ez_Q} {h : ez_H}
theorem d_stO {T : Nat → Int} {n p m : Nat} {o : Nat → Int} (S : zSh h) (hT : tB (ez_I h 72) = T) (hN : (ez_I h 71 6).toInt = (n : Nat)) (hn : n ≤ 6000) (hp : (ez_I h 71 59).toInt = (p : Nat)) (hp8 : p ≤ 8 * n) (hf : (ez_I h 71 61).toInt = 0) (hg : (ez_I h 71 60).toInt = (m : Nat)) (hm : m ≤ 6000) (ho : oM (ez_I h 76) o m) (K1 : ∀ h2 (q : Nat) (o2 : Nat → Int) (m2 : Nat), zW (fun q k => q = 71 ∧ k = 59 ∨ q = 71 ∧ k = 61 ∨ q = 71 ∧ k = 60) (fun q => q = 76) (fun _ => False) h h2 → stS T n p o m = some (q, o2, m2) → (ez_I h2 71 59).toInt = (q : Nat) → (ez_I h2 71 60).toInt = (m2 : Nat) → m2 ≤ 6000 → oM (ez_I h2 76) o2 m2 → (ez_I h2 71 61).toInt = 0 → Q (.inl none) h2) (K2 : ∀ h2, zW (fun q k => q = 71 ∧ k = 59 ∨ q = 71 ∧ k = 61 ∨ q = 71 ∧ k = 60) (fun q => q = 76) (fun _ => False) h h2 → stS T n p o m = none → 1 ≤ (ez_I h2 71 61).toInt → (0 ≤ (ez_I h2 71 59).toInt ∧ (ez_I h2 71 59).toInt ≤ 8 * (n : Int)) → Q (.inl none) h2) : pw E (d + 2) 57 0 [some (.ref 71), none, none, none, none] [] h Q := by
  have e0 : (ez_I h 71 60).toInt.toNat = m := by omega
  refine d_stored (o := o) S (by omega) (by omega) hf (by omega) (by rw [e0]; exact ho) (fun h2 F k1 k2 k3 => ?_)
  rw [hT, e0, show (ez_I h 71 59).toInt.toNat = p by omega, show (ez_I h 71 6).toInt.toNat = n by omega] at k1
  rcases k1 with ⟨a1, q, o2, m2, a2, a3, a4, a5⟩ | ⟨a1, a2⟩
  · exact K1 h2 q o2 m2 F a2 a3 a4 (by omega) a5 a1
  · exact K2 h2 F a2 a1 (by omega)
theorem d_cdO {T : Nat → Int} {n p2 p m : Nat} {o : Nat → Int} (S : zSh h) (hT : tB (ez_I h 72) = T) (hN : (ez_I h 71 6).toInt = (n : Nat)) (hn : n ≤ 6000) (hp : (ez_I h 71 59).toInt = (p : Nat)) (hp8 : p ≤ 8 * n) (hf : (ez_I h 71 61).toInt = 0) (hg : (ez_I h 71 60).toInt = (m : Nat)) (hm : m ≤ 6000) (ho : oM (ez_I h 76) o m) (t92 : ctI (ez_I h 92) LBf 29) (t93 : ctI (ez_I h 93) LEf 29) (t94 : ctI (ez_I h 94) DBf 30) (t95 : ctI (ez_I h 95) DEf 30) (hc : cdP (ez_I h 120) (ez_I h 121) T n p2 p) (K1 : ∀ h2 (q : Nat) (o2 : Nat → Int) (m2 : Nat), zW (fun q k => q = 71 ∧ k = 59 ∨ q = 71 ∧ k = 61 ∨ q = 71 ∧ k = 60) (fun q => q = 76 ∨ q = 115) (fun _ => False) h h2 → blU T n p2 o m = some (q, o2, m2) → (ez_I h2 71 59).toInt = (q : Nat) → (ez_I h2 71 60).toInt = (m2 : Nat) → m2 ≤ 6000 → oM (ez_I h2 76) o2 m2 → (ez_I h2 71 61).toInt = 0 → Q (.inl none) h2) (K2 : ∀ h2, zW (fun q k => q = 71 ∧ k = 59 ∨ q = 71 ∧ k = 61 ∨ q = 71 ∧ k = 60) (fun q => q = 76 ∨ q = 115) (fun _ => False) h h2 → blU T n p2 o m = none → 1 ≤ (ez_I h2 71 61).toInt → (0 ≤ (ez_I h2 71 59).toInt ∧ (ez_I h2 71 59).toInt ≤ 8 * (n : Int)) → Q (.inl none) h2) : pw E (d + 2) 59 0 [some (.ref 71), none, none, none, none, none] [] h Q := by
  have e0 : (ez_I h 71 60).toInt.toNat = m := by omega
  refine d_codes (o := o) S (by omega) (by omega) hf (by omega) (by rw [e0]; exact ho) t92 t93 t94 t95 hc.1 hc.2.1 hc.2.2.1 hc.2.2.2.1 (fun h2 F k1 k2 k3 => ?_)
  rw [hT, e0, show (ez_I h 71 59).toInt.toNat = p by omega, show (ez_I h 71 6).toInt.toNat = n by omega, ← hc.2.2.2.2] at k1
  rcases k1 with ⟨a1, q, o2, m2, a2, a3, a4, a5⟩ | ⟨a1, a2⟩
  · exact K1 h2 q o2 m2 F a2 a3 a4 (by omega) a5 a1
  · exact K2 h2 F a2 a1 (by omega)
theorem d_hdO {T : Nat → Int} {n p2 p : Nat} (S : zSh h) (hT : tB (ez_I h 72) = T) (hN : (ez_I h 71 6).toInt = (n : Nat)) (hn : n ≤ 6000) (hp : (ez_I h 71 59).toInt = (p : Nat)) (hp8 : p ≤ 8 * n) (hf : (ez_I h 71 61).toInt = 0) (t96 : ctI (ez_I h 96) ORf 19) (hq : p = p2 + 3) (hv : vB T (p2 + 1) 2 = 2) (K1 : ∀ h2 (q : Nat), zW (fun q k => q = 71 ∧ k = 59 ∨ q = 71 ∧ k = 61) (fun q => q = 115 ∨ q = 120 ∨ q = 121 ∨ q = 122 ∨ q = 123) (fun _ => False) h h2 → q ≤ 8 * n → (ez_I h2 71 59).toInt = (q : Nat) → cdP (ez_I h2 120) (ez_I h2 121) T n p2 q → (ez_I h2 71 61).toInt = 0 → Q (.inl none) h2) (K2 : ∀ h2, zW (fun q k => q = 71 ∧ k = 59 ∨ q = 71 ∧ k = 61) (fun q => q = 115 ∨ q = 120 ∨ q = 121 ∨ q = 122 ∨ q = 123) (fun _ => False) h h2 → (∀ o m, blU T n p2 o m = none) → 1 ≤ (ez_I h2 71 61).toInt → (0 ≤ (ez_I h2 71 59).toInt ∧ (ez_I h2 71 59).toInt ≤ 8 * (n : Int)) → Q (.inl none) h2) : pw E (d + 2) 58 0 [some (.ref 71), none, none, none, none, none, none, none, none, none] [] h Q := by
  refine d_head (T := T) (n := n) (p := p) S hT hN hn hp hp8 hf t96 (fun h2 F k1 k2 => ?_)
  rcases k1 with ⟨a1, q, L1, L2, a2, a3, a4, a5, a6, a7, a8, a9, b1⟩ | ⟨a1, a2⟩
  · have ho := (hdU_ok a2).2
    exact K1 h2 q F ho a3 ⟨a5, a6, a9, b1, fun o m => (blU_2y (by omega) hv hq a2).trans (upP_eq (Nat.le_refl 288) (fun k hk => (a4 k hk).symm) (fun k a b => by omega) (by decide) (fun k hk => (a7 k hk).symm) (fun k a _ => a8 k a) _ _ _ _)⟩ a1
  · exact K2 h2 F (fun o m => blU_2n (by omega) hv hq a2) a1 k2
end UO
/-! PRINTED by wip/pack: the model unpacks: the ends -/
set_option maxRecDepth 4000 in
set_option maxHeartbeats 2000000 in
theorem u_F195 {E : Nat → Nat × (Nat → Int32)} {d : Nat} {Q : ez_Q} {h : ez_H} {l1 : Option Value} {l2 : Option Value} {l3 : Option Value} (S : zSh h) (hf : 1 ≤ (ez_I h 71 61).toInt) (hp : 0 ≤ (ez_I h 71 59).toInt ∧ (ez_I h 71 59).toInt ≤ 48000) (K : ∀ h2 (x : Int32), zW (fun q k => q = 71 ∧ k = 62 ∨ q = 71 ∧ k = 63 ∨ q = 71 ∧ k = 0) (fun _ => False) (fun _ => False) h h2 → (ez_I h2 71 0).toInt = 1 → Q (.inl (some (.int x))) h2) : pw E (d + 3) 60 195 [some (.ref 71), l1, l2, l3] [] h Q := by
  have F := zW_refl (fun q k => q = 71 ∧ k = 62 ∨ q = 71 ∧ k = 63 ∨ q = 71 ∧ k = 0) (fun _ => False) (fun _ => False) h
  apply ez_Wp_in
  show ez_gw _ _ _ _ _ _ (cz_60) _ _ _ _ _
  refine gw_skip _ ?_
  have r1 := z_rng (ez_I h 71 62)
  have r2 := z_rng (ez_I h 71 63)
  have r3 := z_rng (ez_I h 71 0)
  refine gw_ld rfl rfl ?_
  refine gw_ld rfl rfl ?_
  have r4 := z_rng (ez_I h 71 61)
  refine z_gI2 (by decide) (zT S (by decide) rfl) (zW_f F (fun c => c) (by decide)) ?_
  refine z_pI (zT S (by decide) rfl) (fun h5 e6 => ?_)
  have S7 := zSh_set S e6
  have F8 := zW_setF F e6 (by decide)
  have f9 : ez_I h5 71 62 = (ez_I h 71 61) := zI_eq e6
  have f10 : ez_I h5 71 63 = (ez_I h 71 63) := (zI_ne e6 (by decide)).trans (rfl)
  have f11 : ez_I h5 71 0 = (ez_I h 71 0) := (zI_ne e6 (by decide)).trans (rfl)
  refine gw_ld rfl rfl ?_
  refine gw_ld rfl rfl ?_
  refine z_gI2 (by decide) (zT S7 (by decide) rfl) (f9) ?_
  refine z_b1 (fun c12 => ?_) (fun c12 => ?_)
  · have c12 : ((ez_I h 71 61)).toInt ≤ 0 := c12
    exfalso; omega
  · have c12 : ¬ (((ez_I h 71 61)).toInt ≤ 0) := c12
    refine gw_ld rfl rfl ?_
    have r13 := z_rng (ez_I h 71 59)
    refine z_gI2 (by decide) (zT S7 (by decide) rfl) (zW_f F8 (fun c => c) (by decide)) ?_
    refine z_C (m := 7) rfl rfl (fun x14 ex14 => ?_)
    refine z_add (by omega) (fun x15 ex15 => ?_)
    refine z_C (m := 8) rfl rfl (fun x16 ex16 => ?_)
    refine z_dvP (c := 8) ex16 (by decide) (by omega) (fun x17 ex17 => ?_)
    refine z_go ?_
    refine gw_skip _ ?_
    refine z_pI (zT S7 (by decide) rfl) (fun h18 e19 => ?_)
    have S20 := zSh_set S7 e19
    have F21 := zW_setF F8 e19 (by decide)
    have f22 : ez_I h18 71 62 = (ez_I h 71 61) := (zI_ne e19 (by decide)).trans (f9)
    have f23 : ez_I h18 71 63 = x17 := zI_eq e19
    have f24 : ez_I h18 71 0 = (ez_I h 71 0) := (zI_ne e19 (by decide)).trans (f11)
    refine gw_ld rfl rfl ?_
    refine gw_ld rfl rfl ?_
    refine z_gI2 (by decide) (zT S20 (by decide) rfl) (f22) ?_
    refine z_b1 (fun c25 => ?_) (fun c25 => ?_)
    · have c25 : ((ez_I h 71 61)).toInt ≤ 0 := c25
      exfalso; omega
    · have c25 : ¬ (((ez_I h 71 61)).toInt ≤ 0) := c25
      refine z_C (m := 1) rfl rfl (fun x26 ex26 => ?_)
      refine z_go ?_
      refine gw_skip _ ?_
      refine z_pI (zT S20 (by decide) rfl) (fun h27 e28 => ?_)
      have S29 := zSh_set S20 e28
      have F30 := zW_setF F21 e28 (by decide)
      have f31 : ez_I h27 71 62 = (ez_I h 71 61) := (zI_ne e28 (by decide)).trans (f22)
      have f32 : ez_I h27 71 63 = x17 := (zI_ne e28 (by decide)).trans (f23)
      have f33 : ez_I h27 71 0 = x26 := zI_eq e28
      refine gw_ld rfl rfl ?_
      refine z_gI2 (by decide) (zT S29 (by decide) rfl) (f33) ?_
      refine z_b1 (fun c34 => ?_) (fun c34 => ?_)
      · have c34 : x26.toInt ≤ 0 := c34
        exfalso; omega
      · have c34 : ¬ (x26.toInt ≤ 0) := c34
        refine z_C (m := 0) rfl rfl (fun x35 ex35 => ?_)
        refine z_ri ?_
        have t36 := congrArg Int32.toInt (f31)
        have t37 := congrArg Int32.toInt (f32)
        have t38 := congrArg Int32.toInt (f33)
        exact K _ _ F30 (by omega)
theorem x74_0 : ∀ q k : Nat, (False) → (q = 71 ∧ k = 62 ∨ q = 71 ∧ k = 63 ∨ q = 71 ∧ k = 0) := fun q k hk => hk.elim
theorem x74_1 : ∀ q : Nat, (False) → (False) := fun q hk => hk.elim
theorem x74_2 : ∀ q k : Nat, (q = 71 ∧ k = 62 ∨ q = 71 ∧ k = 63 ∨ q = 71 ∧ k = 0) → (q = 71 ∧ k = 62 ∨ q = 71 ∧ k = 63 ∨ q = 71 ∧ k = 0) := fun q k hk => hk.elim (fun g => (.inl g)) (fun hk => hk.elim (fun g => (.inr (.inl g))) (fun hk => (.inr (.inr hk))))
set_option maxRecDepth 4000 in
set_option maxHeartbeats 2000000 in
theorem u_F17 {E : Nat → Nat × (Nat → Int32)} {d : Nat} {Q : ez_Q} {h : ez_H} {ls : Int32} {l2 : Option Value} {l3 : Option Value} (S : zSh h) (hf : 1 ≤ (ez_I h 71 61).toInt) (hp : 0 ≤ (ez_I h 71 59).toInt ∧ (ez_I h 71 59).toInt ≤ 48000) (K : ∀ h2 (x : Int32), zW (fun q k => q = 71 ∧ k = 62 ∨ q = 71 ∧ k = 63 ∨ q = 71 ∧ k = 0) (fun _ => False) (fun _ => False) h h2 → (ez_I h2 71 0).toInt = 1 → Q (.inl (some (.int x))) h2) : pw E (d + 3) 60 17 [some (.ref 71), some (.int ls), l2, l3] [] h Q := by
  have gls := z_rng ls
  have F := zW_refl (fun _ _ => False) (fun _ => False) (fun _ => False) h
  apply ez_Wp_in
  show ez_gw _ _ _ _ _ _ (cz_60) _ _ _ _ _
  refine gw_skip _ ?_
  refine gw_ld rfl rfl ?_
  refine z_b1 (fun c1 => ?_) (fun c1 => ?_)
  · have c1 : ls.toInt ≠ 0 := c1
    suffices tl : pw E (d + 3) 60 195 [some (.ref 71), some (.int ls), l2, l3] [] h Q from gw_skip _ (ez_Wp_at tl rfl)
    refine u_F195 S (by rw [(show ez_I h 71 61 = ez_I h 71 61 from zW_f F (fun c => c) (fun c => c))]; exact hf) (by rw [(show ez_I h 71 59 = ez_I h 71 59 from zW_f F (fun c => c) (fun c => c))]; exact hp) (fun h2 x3 F4 k6 => ?_)
    have F5 := zW_tr (zW_mono F x74_0 x74_1 x74_1) (zW_mono F4 x74_2 x74_1 x74_1)
    exact K _ _ F5 k6
  · have c1 : ¬ (ls.toInt ≠ 0) := c1
    refine gw_ld rfl rfl ?_
    have r7 := z_rng (ez_I h 71 61)
    refine z_gI2 (by decide) (zT S (by decide) rfl) (zW_f F (fun c => c) (fun c => c)) ?_
    refine z_b1 (fun c8 => ?_) (fun c8 => ?_)
    · have c8 : ((ez_I h 71 61)).toInt ≠ 0 := c8
      suffices tl : pw E (d + 3) 60 195 [some (.ref 71), some (.int ls), l2, l3] [] h Q from gw_skip _ (ez_Wp_at tl rfl)
      refine u_F195 S (by rw [(show ez_I h 71 61 = ez_I h 71 61 from zW_f F (fun c => c) (fun c => c))]; exact hf) (by rw [(show ez_I h 71 59 = ez_I h 71 59 from zW_f F (fun c => c) (fun c => c))]; exact hp) (fun h9 x10 F11 k13 => ?_)
      have F12 := zW_tr (zW_mono F x74_0 x74_1 x74_1) (zW_mono F11 x74_2 x74_1 x74_1)
      exact K _ _ F12 k13
    · have c8 : ¬ (((ez_I h 71 61)).toInt ≠ 0) := c8
      exfalso; omega
theorem x74_3 : ∀ k : Nat, ¬ (76 = 71 ∧ k = 62 ∨ 76 = 71 ∧ k = 63 ∨ 76 = 71 ∧ k = 0 ∨ 76 = 71 ∧ k = 7) := fun k c => by omega
set_option maxRecDepth 4000 in
set_option maxHeartbeats 2000000 in
theorem u_T195_L0 {E : Nat → Nat × (Nat → Int32)} {d : Nat} {Q : ez_Q} {h : ez_H} {ls : Int32} {l2 : Option Value} {l3 : Option Value} (S : zSh h) {o2 : Nat → Int} {m2 : Nat} (hf : (ez_I h 71 61).toInt = 0) (hg : (ez_I h 71 60).toInt = (m2 : Nat)) (hm : m2 ≤ 6000) (ho : oM (ez_I h 76) o2 m2) (K : ∀ h2 (x : Int32), zW (fun q k => q = 71 ∧ k = 62 ∨ q = 71 ∧ k = 63 ∨ q = 71 ∧ k = 0 ∨ q = 71 ∧ k = 7) (fun q => q = 73) (fun _ => False) h h2 → (ez_I h2 71 0).toInt = 0 → x.toInt = (m2 : Nat) → (ez_I h2 71 7).toInt = (m2 : Nat) → oM (ez_I h2 73) o2 m2 → Q (.inl (some (.int x))) h2) : ∀ N : Nat, (∀ (h2 : ez_H) (k : Int32) , zW (fun q k => q = 71 ∧ k = 62 ∨ q = 71 ∧ k = 63 ∨ q = 71 ∧ k = 0 ∨ q = 71 ∧ k = 7) (fun q => q = 73) (fun _ => False) h h2 → (0 ≤ k.toInt ∧ k.toInt ≤ m2 ∧ (ez_I h2 71 7).toInt = (m2 : Nat) ∧ (ez_I h2 71 0).toInt = 0) → (oM (ez_I h2 73) o2 k.toInt.toNat) → (10000 - k.toInt) < (N : Int) → pw E (d + 3) 60 263 [some (.ref 71), some (.int ls), some (.int k), l3] [] h2 Q) := by
  intro N
  induction N with
  | zero => exact fun h2 k  F hinv A_out hm => absurd hm (by have w_k := z_rng k; have gls := z_rng ls; omega)
  | succ N ih =>
    refine fun h2 k  F hinv A_out hm => ?_
    · skip
      have w_k := z_rng k
      have gls := z_rng ls
      have S2 := zW_sh F S
      apply ez_Wp_in
      show ez_gw _ _ _ _ _ _ (cz_60) _ _ _ _ _
      refine gw_skip _ ?_
      have r1 := z_rng (ez_I h2 71 62)
      have r2 := z_rng (ez_I h2 71 63)
      have r3 := z_rng (ez_I h2 71 0)
      have r4 := z_rng (ez_I h2 71 7)
      refine gw_ld rfl rfl ?_
      refine gw_ld rfl rfl ?_
      have r5 := z_rng (ez_I h 71 60)
      refine z_gI2 (by decide) (zT S2 (by decide) rfl) (zW_f F (by decide) (by decide)) ?_
      refine z_b2 (fun c6 => ?_) (fun c6 => ?_)
      · have c6 : ((ez_I h 71 60)).toInt ≤ k.toInt := c6
        refine gw_skip _ ?_
        refine gw_ld rfl rfl ?_
        refine z_gI2 (by decide) (zT S2 (by decide) rfl) (rfl) ?_
        refine z_ri ?_
        exact K _ _ F (by omega) (by omega) (by omega) (by have b1 := A_out; rw [show k.toInt.toNat = m2 by omega] at b1; exact b1)
      · have c6 : ¬ (((ez_I h 71 60)).toInt ≤ k.toInt) := c6
        refine gw_ld rfl rfl ?_
        refine z_gR (q := 73) (zT S2 (by decide) rfl) (zRf S2 (by decide) (by decide) rfl) (by decide) ?_
        refine gw_ld rfl rfl ?_
        refine gw_ld rfl rfl ?_
        refine z_gR (q := 76) (zT S2 (by decide) rfl) (zRf S2 (by decide) (by decide) rfl) (by decide) ?_
        refine gw_ld rfl rfl ?_
        refine z_baV (n := 6000) (zT S2 (by decide) rfl) (zN S2 (by decide) rfl) (by omega) (zW_f F (by decide) (x74_3 _)) ?_
        generalize ex7 : ez_I h 76 k.toInt.toNat = x7
        have rx7 := z_rng x7
        have yo := ho k.toInt.toNat (by omega)
        rw [show k.toInt.toNat = k.toInt.toNat by omega, ex7] at yo
        rw [show k.toInt.toNat = k.toInt.toNat by omega] at yo
        refine z_bs (n := 6200) (zT S2 (by decide) rfl) (zN S2 (by decide) rfl) (by omega) (fun h8 e9 => ?_)
        have S11 := zSh_set S2 e9
        have F12 := zW_setA F e9 (by decide)
        have f13 : ez_I h8 71 62 = (ez_I h2 71 62) := (zI_ne e9 (by omega)).trans (rfl)
        have f14 : ez_I h8 71 63 = (ez_I h2 71 63) := (zI_ne e9 (by omega)).trans (rfl)
        have f15 : ez_I h8 71 0 = (ez_I h2 71 0) := (zI_ne e9 (by omega)).trans (rfl)
        have f16 : ez_I h8 71 7 = (ez_I h2 71 7) := (zI_ne e9 (by omega)).trans (rfl)
        have A17 : oM (ez_I h8 73) o2 (k.toInt.toNat + 1) := om_s A_out e9 (by omega) (by rw [n_i2b]; exact yo) rfl
        refine z_inc rfl (by rw [show (1 : Int32).toInt = 1 from rfl]; omega) (fun x18 ex18 => ?_)
        rw [show (1 : Int32).toInt = 1 from rfl] at ex18
        show ez_gw _ _ _ _ _ _ _ _ [some (.ref 71), some (.int ls), some (.int x18), l3] _ _ _
        refine z_go ?_
        have t19 := congrArg Int32.toInt (f13)
        have t20 := congrArg Int32.toInt (f14)
        have t21 := congrArg Int32.toInt (f15)
        have t22 := congrArg Int32.toInt (f16)
        exact ih h8 x18 F12 (by omega) ((by rw [show x18.toInt.toNat = k.toInt.toNat + 1 by omega]; exact A17)) (by omega)
set_option maxRecDepth 4000 in
set_option maxHeartbeats 2000000 in
theorem u_T195 {E : Nat → Nat × (Nat → Int32)} {d : Nat} {Q : ez_Q} {h : ez_H} {ls : Int32} {l2 : Option Value} {l3 : Option Value} (S : zSh h) {o2 : Nat → Int} {m2 : Nat} (hf : (ez_I h 71 61).toInt = 0) (hg : (ez_I h 71 60).toInt = (m2 : Nat)) (hm : m2 ≤ 6000) (ho : oM (ez_I h 76) o2 m2) (K : ∀ h2 (x : Int32), zW (fun q k => q = 71 ∧ k = 62 ∨ q = 71 ∧ k = 63 ∨ q = 71 ∧ k = 0 ∨ q = 71 ∧ k = 7) (fun q => q = 73) (fun _ => False) h h2 → (ez_I h2 71 0).toInt = 0 → x.toInt = (m2 : Nat) → (ez_I h2 71 7).toInt = (m2 : Nat) → oM (ez_I h2 73) o2 m2 → Q (.inl (some (.int x))) h2) : pw E (d + 3) 60 195 [some (.ref 71), some (.int ls), l2, l3] [] h Q := by
  have gls := z_rng ls
  have F := zW_refl (fun q k => q = 71 ∧ k = 62 ∨ q = 71 ∧ k = 63 ∨ q = 71 ∧ k = 0 ∨ q = 71 ∧ k = 7) (fun q => q = 73) (fun _ => False) h
  apply ez_Wp_in
  show ez_gw _ _ _ _ _ _ (cz_60) _ _ _ _ _
  refine gw_skip _ ?_
  have r1 := z_rng (ez_I h 71 62)
  have r2 := z_rng (ez_I h 71 63)
  have r3 := z_rng (ez_I h 71 0)
  have r4 := z_rng (ez_I h 71 7)
  refine gw_ld rfl rfl ?_
  refine gw_ld rfl rfl ?_
  have r5 := z_rng (ez_I h 71 61)
  refine z_gI2 (by decide) (zT S (by decide) rfl) (zW_f F (by decide) (by decide)) ?_
  refine z_pI (zT S (by decide) rfl) (fun h6 e7 => ?_)
  have S8 := zSh_set S e7
  have F9 := zW_setF F e7 (by decide)
  have f10 : ez_I h6 71 62 = (ez_I h 71 61) := zI_eq e7
  have f11 : ez_I h6 71 63 = (ez_I h 71 63) := (zI_ne e7 (by decide)).trans (rfl)
  have f12 : ez_I h6 71 0 = (ez_I h 71 0) := (zI_ne e7 (by decide)).trans (rfl)
  have f13 : ez_I h6 71 7 = (ez_I h 71 7) := (zI_ne e7 (by decide)).trans (rfl)
  refine gw_ld rfl rfl ?_
  refine gw_ld rfl rfl ?_
  refine z_gI2 (by decide) (zT S8 (by decide) rfl) (f10) ?_
  refine z_b1 (fun c14 => ?_) (fun c14 => ?_)
  · have c14 : ((ez_I h 71 61)).toInt ≤ 0 := c14
    refine gw_skip _ ?_
    refine z_C (m := -1) rfl rfl (fun x15 ex15 => ?_)
    refine z_pI (zT S8 (by decide) rfl) (fun h16 e17 => ?_)
    have S18 := zSh_set S8 e17
    have F19 := zW_setF F9 e17 (by decide)
    have f20 : ez_I h16 71 62 = (ez_I h 71 61) := (zI_ne e17 (by decide)).trans (f10)
    have f21 : ez_I h16 71 63 = x15 := zI_eq e17
    have f22 : ez_I h16 71 0 = (ez_I h 71 0) := (zI_ne e17 (by decide)).trans (f12)
    have f23 : ez_I h16 71 7 = (ez_I h 71 7) := (zI_ne e17 (by decide)).trans (f13)
    refine gw_ld rfl rfl ?_
    refine gw_ld rfl rfl ?_
    refine z_gI2 (by decide) (zT S18 (by decide) rfl) (f20) ?_
    refine z_b1 (fun c24 => ?_) (fun c24 => ?_)
    · have c24 : ((ez_I h 71 61)).toInt ≤ 0 := c24
      refine gw_skip _ ?_
      refine z_C (m := 0) rfl rfl (fun x25 ex25 => ?_)
      refine z_pI (zT S18 (by decide) rfl) (fun h26 e27 => ?_)
      have S28 := zSh_set S18 e27
      have F29 := zW_setF F19 e27 (by decide)
      have f30 : ez_I h26 71 62 = (ez_I h 71 61) := (zI_ne e27 (by decide)).trans (f20)
      have f31 : ez_I h26 71 63 = x15 := (zI_ne e27 (by decide)).trans (f21)
      have f32 : ez_I h26 71 0 = x25 := zI_eq e27
      have f33 : ez_I h26 71 7 = (ez_I h 71 7) := (zI_ne e27 (by decide)).trans (f23)
      refine gw_ld rfl rfl ?_
      refine z_gI2 (by decide) (zT S28 (by decide) rfl) (f32) ?_
      refine z_b1 (fun c34 => ?_) (fun c34 => ?_)
      · have c34 : x25.toInt ≤ 0 := c34
        refine gw_skip _ ?_
        refine gw_ld rfl rfl ?_
        refine gw_ld rfl rfl ?_
        have r35 := z_rng (ez_I h 71 60)
        refine z_gI2 (by decide) (zT S28 (by decide) rfl) (zW_f F29 (by decide) (by decide)) ?_
        refine z_pI (zT S28 (by decide) rfl) (fun h36 e37 => ?_)
        have S38 := zSh_set S28 e37
        have F39 := zW_setF F29 e37 (by decide)
        have f40 : ez_I h36 71 62 = (ez_I h 71 61) := (zI_ne e37 (by decide)).trans (f30)
        have f41 : ez_I h36 71 63 = x15 := (zI_ne e37 (by decide)).trans (f31)
        have f42 : ez_I h36 71 0 = x25 := (zI_ne e37 (by decide)).trans (f32)
        have f43 : ez_I h36 71 7 = (ez_I h 71 60) := zI_eq e37
        refine z_C (m := 0) rfl rfl (fun x44 ex44 => ?_)
        refine gw_st rfl rfl rfl ?_
        show ez_gw _ _ _ _ _ _ _ _ [some (.ref 71), some (.int ls), some (.int x44), l3] _ _ _
        have t45 := congrArg Int32.toInt (f40)
        have t46 := congrArg Int32.toInt (f41)
        have t47 := congrArg Int32.toInt (f42)
        have t48 := congrArg Int32.toInt (f43)
        exact ez_Wp_at ((u_T195_L0 (ls := ls) (l2 := l2) (l3 := l3) S hf hg hm ho K (((10000 - x44.toInt)).toNat + 1)) h36 x44 F39 (by omega) ((fun j hj => by omega)) (by omega)) rfl
      · have c34 : ¬ (x25.toInt ≤ 0) := c34
        exfalso; omega
    · have c24 : ¬ (((ez_I h 71 61)).toInt ≤ 0) := c24
      exfalso; omega
  · have c14 : ¬ (((ez_I h 71 61)).toInt ≤ 0) := c14
    exfalso; omega
end
section
/-! PRINTED by wip/pack: the model unpacks -/
theorem x74_4 : ∀ q k : Nat, (q = 71 ∧ k = 59 ∨ q = 71 ∧ k = 61 ∨ q = 71 ∧ k = 60) → (q = 71 ∧ k = 59 ∨ q = 71 ∧ k = 61 ∨ q = 71 ∧ k = 60 ∨ q = 71 ∧ k = 62 ∨ q = 71 ∧ k = 63 ∨ q = 71 ∧ k = 0 ∨ q = 71 ∧ k = 7) := fun q k hk => hk.elim (fun g => (.inl g)) (fun hk => hk.elim (fun g => (.inr (.inl g))) (fun hk => (.inr (.inr (.inl hk)))))
theorem x74_5 : ∀ q : Nat, (q = 76 ∨ q = 115 ∨ q = 120 ∨ q = 121 ∨ q = 122 ∨ q = 123) → (q = 73 ∨ q = 76 ∨ q = 115 ∨ q = 120 ∨ q = 121 ∨ q = 122 ∨ q = 123) := fun q hk => hk.elim (fun g => (.inr (.inl g))) (fun hk => hk.elim (fun g => (.inr (.inr (.inl g)))) (fun hk => hk.elim (fun g => (.inr (.inr (.inr (.inl g))))) (fun hk => hk.elim (fun g => (.inr (.inr (.inr (.inr (.inl g)))))) (fun hk => hk.elim (fun g => (.inr (.inr (.inr (.inr (.inr (.inl g))))))) (fun hk => (.inr (.inr (.inr (.inr (.inr (.inr hk)))))))))))
theorem x74_6 : ∀ q : Nat, (False) → (False) := fun q hk => hk.elim
theorem x74_7 : ∀ q k : Nat, (q = 71 ∧ k = 62 ∨ q = 71 ∧ k = 63 ∨ q = 71 ∧ k = 0 ∨ q = 71 ∧ k = 7) → (q = 71 ∧ k = 59 ∨ q = 71 ∧ k = 61 ∨ q = 71 ∧ k = 60 ∨ q = 71 ∧ k = 62 ∨ q = 71 ∧ k = 63 ∨ q = 71 ∧ k = 0 ∨ q = 71 ∧ k = 7) := fun q k hk => hk.elim (fun g => (.inr (.inr (.inr (.inl g))))) (fun hk => hk.elim (fun g => (.inr (.inr (.inr (.inr (.inl g)))))) (fun hk => hk.elim (fun g => (.inr (.inr (.inr (.inr (.inr (.inl g))))))) (fun hk => (.inr (.inr (.inr (.inr (.inr (.inr hk)))))))))
theorem x74_8 : ∀ q : Nat, (q = 73) → (q = 73 ∨ q = 76 ∨ q = 115 ∨ q = 120 ∨ q = 121 ∨ q = 122 ∨ q = 123) := fun q hk => (.inl hk)
theorem x74_9 : ¬ (72 = 76 ∨ 72 = 115 ∨ 72 = 120 ∨ 72 = 121 ∨ 72 = 122 ∨ 72 = 123) := by omega
theorem x74_10 : ∀ k : Nat, ¬ (72 = 71 ∧ k = 59 ∨ 72 = 71 ∧ k = 61 ∨ 72 = 71 ∧ k = 60) := fun k c => by omega
theorem x74_11 : ¬ (71 = 76 ∨ 71 = 115 ∨ 71 = 120 ∨ 71 = 121 ∨ 71 = 122 ∨ 71 = 123) := by omega
theorem x74_12 : ¬ (71 = 71 ∧ 6 = 59 ∨ 71 = 71 ∧ 6 = 61 ∨ 71 = 71 ∧ 6 = 60) := by omega
theorem x74_13 : ∀ q k : Nat, (q = 71 ∧ k = 59 ∨ q = 71 ∧ k = 61) → (q = 71 ∧ k = 59 ∨ q = 71 ∧ k = 61 ∨ q = 71 ∧ k = 60) := fun q k hk => hk.elim (fun g => (.inl g)) (fun hk => (.inr (.inl hk)))
theorem x74_14 : ∀ q : Nat, (False) → (q = 76 ∨ q = 115 ∨ q = 120 ∨ q = 121 ∨ q = 122 ∨ q = 123) := fun q hk => hk.elim
theorem x74_15 : ∀ k : Nat, ¬ (76 = 71 ∧ k = 59 ∨ 76 = 71 ∧ k = 61) := fun k c => by omega
theorem x74_16 : ∀ q k : Nat, (q = 71 ∧ k = 62 ∨ q = 71 ∧ k = 63 ∨ q = 71 ∧ k = 0) → (q = 71 ∧ k = 59 ∨ q = 71 ∧ k = 61 ∨ q = 71 ∧ k = 60 ∨ q = 71 ∧ k = 62 ∨ q = 71 ∧ k = 63 ∨ q = 71 ∧ k = 0 ∨ q = 71 ∧ k = 7) := fun q k hk => hk.elim (fun g => (.inr (.inr (.inr (.inl g))))) (fun hk => hk.elim (fun g => (.inr (.inr (.inr (.inr (.inl g)))))) (fun hk => (.inr (.inr (.inr (.inr (.inr (.inl hk))))))))
theorem x74_17 : ∀ q : Nat, (False) → (q = 73 ∨ q = 76 ∨ q = 115 ∨ q = 120 ∨ q = 121 ∨ q = 122 ∨ q = 123) := fun q hk => hk.elim
theorem x74_18 : ¬ (71 = 71 ∧ 7 = 62 ∨ 71 = 71 ∧ 7 = 63 ∨ 71 = 71 ∧ 7 = 0) := by omega
theorem x74_19 : ¬ (71 = 71 ∧ 7 = 59 ∨ 71 = 71 ∧ 7 = 61 ∨ 71 = 71 ∧ 7 = 60) := by omega
theorem x74_20 : ∀ k : Nat, ¬ (73 = 71 ∧ k = 62 ∨ 73 = 71 ∧ k = 63 ∨ 73 = 71 ∧ k = 0) := fun k c => by omega
theorem x74_21 : ¬ (73 = 76 ∨ 73 = 115 ∨ 73 = 120 ∨ 73 = 121 ∨ 73 = 122 ∨ 73 = 123) := by omega
theorem x74_22 : ∀ k : Nat, ¬ (73 = 71 ∧ k = 59 ∨ 73 = 71 ∧ k = 61 ∨ 73 = 71 ∧ k = 60) := fun k c => by omega
theorem x74_23 : ¬ (96 = 76 ∨ 96 = 115 ∨ 96 = 120 ∨ 96 = 121 ∨ 96 = 122 ∨ 96 = 123) := by omega
theorem x74_24 : ∀ k : Nat, ¬ (96 = 71 ∧ k = 59 ∨ 96 = 71 ∧ k = 61 ∨ 96 = 71 ∧ k = 60) := fun k c => by omega
theorem x74_25 : ∀ q : Nat, (q = 115 ∨ q = 120 ∨ q = 121 ∨ q = 122 ∨ q = 123) → (q = 76 ∨ q = 115 ∨ q = 120 ∨ q = 121 ∨ q = 122 ∨ q = 123) := fun q hk => hk.elim (fun g => (.inr (.inl g))) (fun hk => hk.elim (fun g => (.inr (.inr (.inl g)))) (fun hk => hk.elim (fun g => (.inr (.inr (.inr (.inl g))))) (fun hk => hk.elim (fun g => (.inr (.inr (.inr (.inr (.inl g)))))) (fun hk => (.inr (.inr (.inr (.inr (.inr hk)))))))))
theorem x74_26 : ∀ q k : Nat, (q = 71 ∧ k = 59 ∨ q = 71 ∧ k = 61 ∨ q = 71 ∧ k = 60) → (q = 71 ∧ k = 59 ∨ q = 71 ∧ k = 61 ∨ q = 71 ∧ k = 60) := fun q k hk => hk.elim (fun g => (.inl g)) (fun hk => hk.elim (fun g => (.inr (.inl g))) (fun hk => (.inr (.inr hk))))
theorem x74_27 : ∀ q : Nat, (q = 76) → (q = 76 ∨ q = 115 ∨ q = 120 ∨ q = 121 ∨ q = 122 ∨ q = 123) := fun q hk => (.inl hk)
theorem x74_28 : ∀ q k : Nat, (q = 71 ∧ k = 61) → (q = 71 ∧ k = 59 ∨ q = 71 ∧ k = 61 ∨ q = 71 ∧ k = 60) := fun q k hk => (.inr (.inl hk))
theorem x74_29 : ∀ k : Nat, ¬ (76 = 71 ∧ k = 61) := fun k c => by omega
theorem x74_30 : ¬ (92 = 76 ∨ 92 = 115 ∨ 92 = 120 ∨ 92 = 121 ∨ 92 = 122 ∨ 92 = 123) := by omega
theorem x74_31 : ∀ k : Nat, ¬ (92 = 71 ∧ k = 59 ∨ 92 = 71 ∧ k = 61 ∨ 92 = 71 ∧ k = 60) := fun k c => by omega
theorem x74_32 : ¬ (93 = 76 ∨ 93 = 115 ∨ 93 = 120 ∨ 93 = 121 ∨ 93 = 122 ∨ 93 = 123) := by omega
theorem x74_33 : ∀ k : Nat, ¬ (93 = 71 ∧ k = 59 ∨ 93 = 71 ∧ k = 61 ∨ 93 = 71 ∧ k = 60) := fun k c => by omega
theorem x74_34 : ¬ (94 = 76 ∨ 94 = 115 ∨ 94 = 120 ∨ 94 = 121 ∨ 94 = 122 ∨ 94 = 123) := by omega
theorem x74_35 : ∀ k : Nat, ¬ (94 = 71 ∧ k = 59 ∨ 94 = 71 ∧ k = 61 ∨ 94 = 71 ∧ k = 60) := fun k c => by omega
theorem x74_36 : ¬ (95 = 76 ∨ 95 = 115 ∨ 95 = 120 ∨ 95 = 121 ∨ 95 = 122 ∨ 95 = 123) := by omega
theorem x74_37 : ∀ k : Nat, ¬ (95 = 71 ∧ k = 59 ∨ 95 = 71 ∧ k = 61 ∨ 95 = 71 ∧ k = 60) := fun k c => by omega
theorem x74_38 : ∀ q : Nat, (q = 76 ∨ q = 115) → (q = 76 ∨ q = 115 ∨ q = 120 ∨ q = 121 ∨ q = 122 ∨ q = 123) := fun q hk => hk.elim (fun g => (.inl g)) (fun hk => (.inr (.inl hk)))
theorem x74_39 : ∀ k : Nat, ¬ (120 = 71 ∧ k = 59 ∨ 120 = 71 ∧ k = 61 ∨ 120 = 71 ∧ k = 60) := fun k c => by omega
theorem x74_40 : ∀ k : Nat, ¬ (121 = 71 ∧ k = 59 ∨ 121 = 71 ∧ k = 61 ∨ 121 = 71 ∧ k = 60) := fun k c => by omega
set_option maxRecDepth 4000 in
set_option maxHeartbeats 2000000 in
theorem u_17_L0 {E : Nat → Nat × (Nat → Int32)} {d : Nat} {Q : ez_Q} {h : ez_H} {ls0 : Int32} {l2 : Option Value} {l3 : Option Value} (S : zSh h) {T : Nat → Int} {n : Nat} (hT : tB (ez_I h 72) = T) (hN : (ez_I h 71 6).toInt = (n : Nat)) (hn6 : n ≤ 6000) {U : Option ((Nat → Int) × Nat)} (t92 : ctI (ez_I h 92) LBf 29) (t93 : ctI (ez_I h 93) LEf 29) (t94 : ctI (ez_I h 94) DBf 30) (t95 : ctI (ez_I h 95) DEf 30) (t96 : ctI (ez_I h 96) ORf 19) (hp : (ez_I h 71 59).toInt = 0) (hg : (ez_I h 71 60).toInt = 0) (hf : (ez_I h 71 61).toInt = 0) (hl : ls0.toInt = 0) (hU : U = unL T n (8 * n) 0 (fun _ => 0) 0) (K : ∀ h2 (x : Int32), zW (fun q k => q = 71 ∧ k = 59 ∨ q = 71 ∧ k = 61 ∨ q = 71 ∧ k = 60 ∨ q = 71 ∧ k = 62 ∨ q = 71 ∧ k = 63 ∨ q = 71 ∧ k = 0 ∨ q = 71 ∧ k = 7) (fun q => q = 73 ∨ q = 76 ∨ q = 115 ∨ q = 120 ∨ q = 121 ∨ q = 122 ∨ q = 123) (fun _ => False) h h2 → ((∃ (o2 : Nat → Int) (m2 : Nat), U = some (o2, m2) ∧ (ez_I h2 71 0).toInt = 0 ∧ x.toInt = (m2 : Nat) ∧ (ez_I h2 71 7).toInt = (m2 : Nat) ∧ m2 ≤ 6000 ∧ oM (ez_I h2 73) o2 m2) ∨ (U = none ∧ (ez_I h2 71 0).toInt = 1 ∧ (ez_I h2 71 7).toInt = (ez_I h 71 7).toInt ∧ ez_I h2 73 = ez_I h 73)) → Q (.inl (some (.int x))) h2) : ∀ N : Nat, (∀ (h2 : ez_H) (ls : Int32) (l2 : Option Value) (l3 : Option Value) (p2 : Nat) (o2 : Nat → Int) (m2 : Nat), zW (fun q k => q = 71 ∧ k = 59 ∨ q = 71 ∧ k = 61 ∨ q = 71 ∧ k = 60) (fun q => q = 76 ∨ q = 115 ∨ q = 120 ∨ q = 121 ∨ q = 122 ∨ q = 123) (fun _ => False) h h2 → (0 ≤ ls.toInt ∧ ls.toInt ≤ 1 ∧ (ez_I h2 71 59).toInt = (p2 : Nat) ∧ (ez_I h2 71 61).toInt = 0 ∧ (ez_I h2 71 60).toInt = (m2 : Nat) ∧ m2 ≤ 6000 ∧ p2 ≤ 8 * n) → (lsP ls.toInt (U = unL T n (8 * n) p2 o2 m2) (U = some (o2, m2))) → (oM (ez_I h2 76) o2 m2) → (1000 * (60000 - (p2 : Int)) - 0) < (N : Int) → pw E (d + 3) 60 17 [some (.ref 71), some (.int ls), l2, l3] [] h2 Q) ∧ (∀ (h2 : ez_H) (ls : Int32) (l2 : Option Value) (l3 : Option Value) (p2 : Nat) (o2 : Nat → Int) (m2 : Nat), zW (fun q k => q = 71 ∧ k = 59 ∨ q = 71 ∧ k = 61 ∨ q = 71 ∧ k = 60) (fun q => q = 76 ∨ q = 115 ∨ q = 120 ∨ q = 121 ∨ q = 122 ∨ q = 123) (fun _ => False) h h2 → (ls.toInt = (bitT T p2 : Nat) ∧ p2 + 1 ≤ 8 * n ∧ (ez_I h2 71 59).toInt = ((p2 + 1 : Nat) : Int) ∧ (ez_I h2 71 61).toInt = 0 ∧ (ez_I h2 71 60).toInt = (m2 : Nat) ∧ m2 ≤ 6000 ∧ p2 ≤ 8 * n) → (U = unL T n (8 * n) p2 o2 m2) → (oM (ez_I h2 76) o2 m2) → (1000 * (60000 - (p2 : Int)) - 1) < (N : Int) → pw E (d + 3) 60 43 [some (.ref 71), some (.int ls), l2, l3] [] h2 Q) ∧ (∀ (h2 : ez_H) (ls : Int32) (kd : Int32) (l3 : Option Value) (p2 : Nat) (o2 : Nat → Int) (m2 : Nat), zW (fun q k => q = 71 ∧ k = 59 ∨ q = 71 ∧ k = 61 ∨ q = 71 ∧ k = 60) (fun q => q = 76 ∨ q = 115 ∨ q = 120 ∨ q = 121 ∨ q = 122 ∨ q = 123) (fun _ => False) h h2 → (kd.toInt = (vB T (p2 + 1) 2 : Nat) ∧ ls.toInt = (bitT T p2 : Nat) ∧ p2 + 3 ≤ 8 * n ∧ (ez_I h2 71 59).toInt = ((p2 + 3 : Nat) : Int) ∧ (ez_I h2 71 61).toInt = 0 ∧ (ez_I h2 71 60).toInt = (m2 : Nat) ∧ m2 ≤ 6000 ∧ p2 ≤ 8 * n) → (U = unL T n (8 * n) p2 o2 m2) → (oM (ez_I h2 76) o2 m2) → (1000 * (60000 - (p2 : Int)) - 2) < (N : Int) → pw E (d + 3) 60 59 [some (.ref 71), some (.int ls), some (.int kd), l3] [] h2 Q) ∧ (∀ (h2 : ez_H) (ls : Int32) (kd : Int32) (k : Int32) (p2 : Nat) (o2 : Nat → Int) (m2 : Nat), zW (fun q k => q = 71 ∧ k = 59 ∨ q = 71 ∧ k = 61 ∨ q = 71 ∧ k = 60) (fun q => q = 76 ∨ q = 115 ∨ q = 120 ∨ q = 121 ∨ q = 122 ∨ q = 123) (fun _ => False) h h2 → (0 ≤ k.toInt ∧ k.toInt ≤ 288 ∧ kd.toInt = 1 ∧ kd.toInt = (vB T (p2 + 1) 2 : Nat) ∧ ls.toInt = (bitT T p2 : Nat) ∧ p2 + 3 ≤ 8 * n ∧ (ez_I h2 71 59).toInt = ((p2 + 3 : Nat) : Int) ∧ (ez_I h2 71 61).toInt = 0 ∧ (ez_I h2 71 60).toInt = (m2 : Nat) ∧ m2 ≤ 6000 ∧ p2 ≤ 8 * n) → (U = unL T n (8 * n) p2 o2 m2) → (oM (ez_I h2 76) o2 m2) → (cpN (ez_I h2 120) fxL k.toInt.toNat) → (1000 * (60000 - (p2 : Int)) - (3 + k.toInt)) < (N : Int) → pw E (d + 3) 60 84 [some (.ref 71), some (.int ls), some (.int kd), some (.int k)] [] h2 Q) ∧ (∀ (h2 : ez_H) (ls : Int32) (kd : Int32) (k : Int32) (p2 : Nat) (o2 : Nat → Int) (m2 : Nat), zW (fun q k => q = 71 ∧ k = 59 ∨ q = 71 ∧ k = 61 ∨ q = 71 ∧ k = 60) (fun q => q = 76 ∨ q = 115 ∨ q = 120 ∨ q = 121 ∨ q = 122 ∨ q = 123) (fun _ => False) h h2 → (0 ≤ k.toInt ∧ k.toInt ≤ 32 ∧ kd.toInt = 1 ∧ kd.toInt = (vB T (p2 + 1) 2 : Nat) ∧ ls.toInt = (bitT T p2 : Nat) ∧ p2 + 3 ≤ 8 * n ∧ (ez_I h2 71 59).toInt = ((p2 + 3 : Nat) : Int) ∧ (ez_I h2 71 61).toInt = 0 ∧ (ez_I h2 71 60).toInt = (m2 : Nat) ∧ m2 ≤ 6000 ∧ p2 ≤ 8 * n) → (U = unL T n (8 * n) p2 o2 m2) → (oM (ez_I h2 76) o2 m2) → (cpN (ez_I h2 120) fxL 288) → (cpN (ez_I h2 121) fxD k.toInt.toNat) → (1000 * (60000 - (p2 : Int)) - (300 + k.toInt)) < (N : Int) → pw E (d + 3) 60 143 [some (.ref 71), some (.int ls), some (.int kd), some (.int k)] [] h2 Q) ∧ (∀ (h2 : ez_H) (ls : Int32) (kd : Int32) (l3 : Option Value) (p2 : Nat) (o2 : Nat → Int) (m2 : Nat) (p3 : Nat), zW (fun q k => q = 71 ∧ k = 59 ∨ q = 71 ∧ k = 61 ∨ q = 71 ∧ k = 60) (fun q => q = 76 ∨ q = 115 ∨ q = 120 ∨ q = 121 ∨ q = 122 ∨ q = 123) (fun _ => False) h h2 → (1 ≤ kd.toInt ∧ kd.toInt ≤ 2 ∧ ls.toInt = (bitT T p2 : Nat) ∧ p2 + 3 ≤ 8 * n ∧ (ez_I h2 71 59).toInt = (p3 : Nat) ∧ p3 ≤ 8 * n ∧ (ez_I h2 71 61).toInt = 0 ∧ (ez_I h2 71 60).toInt = (m2 : Nat) ∧ m2 ≤ 6000 ∧ p2 ≤ 8 * n) → (U = unL T n (8 * n) p2 o2 m2) → (oM (ez_I h2 76) o2 m2) → (cdP (ez_I h2 120) (ez_I h2 121) T n p2 p3) → (1000 * (60000 - (p2 : Int)) - 500) < (N : Int) → pw E (d + 3) 60 171 [some (.ref 71), some (.int ls), some (.int kd), l3] [] h2 Q) := by
  intro N
  induction N with
  | zero => exact ⟨fun h2 ls l2 l3 p2 o2 m2 F hinv A_sp A_or hm => absurd hm (by have w_ls := z_rng ls; have gls0 := z_rng ls0; omega), fun h2 ls l2 l3 p2 o2 m2 F hinv A_sp A_or hm => absurd hm (by have w_ls := z_rng ls; have gls0 := z_rng ls0; omega), fun h2 ls kd l3 p2 o2 m2 F hinv A_sp A_or hm => absurd hm (by have w_ls := z_rng ls; have w_kd := z_rng kd; have gls0 := z_rng ls0; omega), fun h2 ls kd k p2 o2 m2 F hinv A_sp A_or A_li hm => absurd hm (by have w_ls := z_rng ls; have w_kd := z_rng kd; have w_k := z_rng k; have gls0 := z_rng ls0; omega), fun h2 ls kd k p2 o2 m2 F hinv A_sp A_or A_li A_di hm => absurd hm (by have w_ls := z_rng ls; have w_kd := z_rng kd; have w_k := z_rng k; have gls0 := z_rng ls0; omega), fun h2 ls kd l3 p2 o2 m2 p3 F hinv A_sp A_or A_cd hm => absurd hm (by have w_ls := z_rng ls; have w_kd := z_rng kd; have gls0 := z_rng ls0; omega)⟩
  | succ N ih =>
    refine ⟨fun h2 ls l2 l3 p2 o2 m2 F hinv A_sp A_or hm => ?_, fun h2 ls l2 l3 p2 o2 m2 F hinv A_sp A_or hm => ?_, fun h2 ls kd l3 p2 o2 m2 F hinv A_sp A_or hm => ?_, fun h2 ls kd k p2 o2 m2 F hinv A_sp A_or A_li hm => ?_, fun h2 ls kd k p2 o2 m2 F hinv A_sp A_or A_li A_di hm => ?_, fun h2 ls kd l3 p2 o2 m2 p3 F hinv A_sp A_or A_cd hm => ?_⟩
    · skip
      have w_ls := z_rng ls
      have gls0 := z_rng ls0
      have S2 := zW_sh F S
      apply ez_Wp_in
      show ez_gw _ _ _ _ _ _ (cz_60) _ _ _ _ _
      refine gw_skip _ ?_
      have r1 := z_rng (ez_I h2 71 59)
      have r2 := z_rng (ez_I h2 71 61)
      have r3 := z_rng (ez_I h2 71 60)
      refine gw_ld rfl rfl ?_
      refine z_b1 (fun c4 => ?_) (fun c4 => ?_)
      · have c4 : ls.toInt ≠ 0 := c4
        suffices tl : pw E (d + 3) 60 195 [some (.ref 71), some (.int ls), l2, l3] [] h2 Q from gw_skip _ (ez_Wp_at tl rfl)
        refine u_T195 (o2 := o2) (m2 := m2) S2 (by omega) (by omega) (by omega) A_or (fun h5 x6 F7 k9 k10 k11 k12 => ?_)
        have F8 := zW_tr (zW_mono F x74_4 x74_5 x74_6) (zW_mono F7 x74_7 x74_8 x74_6)
        exact K _ _ F8 (.inl ⟨o2, m2, A_sp.2 (by omega), k9, k10, k11, by omega, k12⟩)
      · have c4 : ¬ (ls.toInt ≠ 0) := c4
        refine gw_ld rfl rfl ?_
        refine z_gI2 (by decide) (zT S2 (by decide) rfl) (rfl) ?_
        refine z_b1 (fun c13 => ?_) (fun c13 => ?_)
        · have c13 : ((ez_I h2 71 61)).toInt ≠ 0 := c13
          exfalso; omega
        · have c13 : ¬ (((ez_I h2 71 61)).toInt ≠ 0) := c13
          refine gw_ld rfl rfl ?_
          refine z_C (m := 1) rfl rfl (fun x14 ex14 => ?_)
          refine z_cl rfl rfl rfl rfl rfl rfl rfl rfl rfl rfl rfl (zT S2 (by decide) rfl) ?_
          refine d_tbO (v := x14) (T := T) (n := n) (N := 1) (p := p2) S2 (by rw [(show ez_I h2 72 = ez_I h 72 from zW_fn F 72 x74_9 x74_10)]; exact hT) (by rw [(show ez_I h2 71 6 = ez_I h 71 6 from zW_f F x74_11 x74_12)]; exact hN) hn6 (by omega) (by omega) (by omega) (by omega) (by omega) (fun h15 x16 F17 k18 k19 k20 k21 k22 => ?_) (fun h23 x24 F25 k26 k27 k28 k29 k30 => ?_)
          · have rx16 := z_rng x16
            have S31 := zW_sh F17 S2
            have F32 := zW_tr F (zW_mono F17 (x74_13) (x74_14) (x74_6))
            have r33 := z_rng (ez_I h15 71 59)
            have r34 := z_rng (ez_I h15 71 61)
            have f35 : ez_I h15 71 60 = (ez_I h2 71 60) := (zW_f F17 (fun c => c) (by decide)).trans (rfl)
            have A36 : oM (ez_I h15 76) o2 m2 := by rw [zW_fn F17 76 (fun c => c) (x74_15)]; exact A_or
            have hbt : x16.toInt = (bitT T p2 : Nat) := by rw [← vB_1]; exact k19
            have hb2 := bitT_2 T p2
            refine z_C (m := 1) rfl rfl (fun x37 ex37 => ?_)
            refine z_b2 (fun c38 => ?_) (fun c38 => ?_)
            · have c38 : x16.toInt ≠ x37.toInt := c38
              refine gw_skip _ ?_
              refine z_C (m := 0) rfl rfl (fun x39 ex39 => ?_)
              refine gw_st rfl rfl rfl ?_
              show ez_gw _ _ _ _ _ _ _ _ [some (.ref 71), some (.int x39), l2, l3] _ _ _
              have t40 := congrArg Int32.toInt (f35)
              exact ez_Wp_at (ih.2.1 h15 x39 (l2) (l3) p2 o2 m2 F32 (by omega) ((A_sp.1 (by omega))) A36 (by omega)) rfl
            · have c38 : ¬ (x16.toInt ≠ x37.toInt) := c38
              refine z_C (m := 1) rfl rfl (fun x41 ex41 => ?_)
              refine z_go ?_
              refine gw_skip _ ?_
              refine gw_st rfl rfl rfl ?_
              show ez_gw _ _ _ _ _ _ _ _ [some (.ref 71), some (.int x41), l2, l3] _ _ _
              have t42 := congrArg Int32.toInt (f35)
              exact ez_Wp_at (ih.2.1 h15 x41 (l2) (l3) p2 o2 m2 F32 (by omega) ((A_sp.1 (by omega))) A36 (by omega)) rfl
          · have rx24 := z_rng x24
            have S43 := zW_sh F25 S2
            have F44 := zW_tr F (zW_mono F25 (x74_13) (x74_14) (x74_6))
            have r45 := z_rng (ez_I h23 71 59)
            have r46 := z_rng (ez_I h23 71 61)
            have f47 : ez_I h23 71 60 = (ez_I h2 71 60) := (zW_f F25 (fun c => c) (by decide)).trans (rfl)
            have A48 : oM (ez_I h23 76) o2 m2 := by rw [zW_fn F25 76 (fun c => c) (x74_15)]; exact A_or
            refine z_C (m := 1) rfl rfl (fun x49 ex49 => ?_)
            refine z_b2 (fun c50 => ?_) (fun c50 => ?_)
            · have c50 : x24.toInt ≠ x49.toInt := c50
              refine gw_skip _ ?_
              refine z_C (m := 0) rfl rfl (fun x51 ex51 => ?_)
              refine gw_st rfl rfl rfl ?_
              show ez_gw _ _ _ _ _ _ _ _ [some (.ref 71), some (.int x51), l2, l3] _ _ _
              refine gw_ld rfl rfl ?_
              refine z_C (m := 2) rfl rfl (fun x52 ex52 => ?_)
              have t53 := congrArg Int32.toInt (f47)
              refine z_cl rfl rfl rfl rfl rfl rfl rfl rfl rfl rfl rfl (zT S43 (by decide) rfl) ?_
              refine d_tbF (v := x52) (n := n) (N := 2) S43 (by rw [(show ez_I h23 71 6 = ez_I h 71 6 from zW_f F44 x74_11 x74_12)]; exact hN) hn6 (by omega) (by omega) (by omega) (by omega) (fun h54 x55 F56 k57 k58 k59 k60 => ?_)
              have rx55 := z_rng x55
              have S61 := zW_sh F56 S43
              have F62 := zW_tr F44 (zW_mono F56 (x74_13) (x74_14) (x74_6))
              have r63 := z_rng (ez_I h54 71 59)
              have r64 := z_rng (ez_I h54 71 61)
              have f65 : ez_I h54 71 60 = (ez_I h2 71 60) := (zW_f F56 (fun c => c) (by decide)).trans (f47)
              have A66 : oM (ez_I h54 76) o2 m2 := by rw [zW_fn F56 76 (fun c => c) (x74_15)]; exact A48
              clear A48
              refine gw_st rfl rfl rfl ?_
              show ez_gw _ _ _ _ _ _ _ _ [some (.ref 71), some (.int x51), some (.int x55), l3] _ _ _
              refine gw_ld rfl rfl ?_
              refine z_gI2 (by decide) (zT S61 (by decide) rfl) (rfl) ?_
              refine z_b1 (fun c67 => ?_) (fun c67 => ?_)
              · have c67 : ((ez_I h54 71 61)).toInt ≤ 0 := c67
                exfalso; omega
              · have c67 : ¬ (((ez_I h54 71 61)).toInt ≤ 0) := c67
                refine z_go ?_
                have t68 := congrArg Int32.toInt (f65)
                refine u_F17 S61 (by omega) (by omega) (fun h69 x70 F71 k73 => ?_)
                have F72 := zW_tr (zW_mono F62 x74_4 x74_5 x74_6) (zW_mono F71 x74_16 x74_17 x74_6)
                exact K _ _ F72 (.inr ⟨A_sp.1 (by omega) |>.trans (unL_n (blU_o (.inl (by omega)))), k73, by rw [(show ez_I h69 71 7 = ez_I h54 71 7 from zW_f F71 (fun c => c) x74_18), (show ez_I h54 71 7 = ez_I h 71 7 from zW_f F62 x74_11 x74_19)], by rw [(show ez_I h69 73 = ez_I h54 73 from zW_fn F71 73 (fun c => c) x74_20), (show ez_I h54 73 = ez_I h 73 from zW_fn F62 73 x74_21 x74_22)]⟩)
            · have c50 : ¬ (x24.toInt ≠ x49.toInt) := c50
              refine z_C (m := 1) rfl rfl (fun x74 ex74 => ?_)
              refine z_go ?_
              refine gw_skip _ ?_
              refine gw_st rfl rfl rfl ?_
              show ez_gw _ _ _ _ _ _ _ _ [some (.ref 71), some (.int x74), l2, l3] _ _ _
              refine gw_ld rfl rfl ?_
              refine z_C (m := 2) rfl rfl (fun x75 ex75 => ?_)
              have t76 := congrArg Int32.toInt (f47)
              refine z_cl rfl rfl rfl rfl rfl rfl rfl rfl rfl rfl rfl (zT S43 (by decide) rfl) ?_
              refine d_tbF (v := x75) (n := n) (N := 2) S43 (by rw [(show ez_I h23 71 6 = ez_I h 71 6 from zW_f F44 x74_11 x74_12)]; exact hN) hn6 (by omega) (by omega) (by omega) (by omega) (fun h77 x78 F79 k80 k81 k82 k83 => ?_)
              have rx78 := z_rng x78
              have S84 := zW_sh F79 S43
              have F85 := zW_tr F44 (zW_mono F79 (x74_13) (x74_14) (x74_6))
              have r86 := z_rng (ez_I h77 71 59)
              have r87 := z_rng (ez_I h77 71 61)
              have f88 : ez_I h77 71 60 = (ez_I h2 71 60) := (zW_f F79 (fun c => c) (by decide)).trans (f47)
              have A89 : oM (ez_I h77 76) o2 m2 := by rw [zW_fn F79 76 (fun c => c) (x74_15)]; exact A48
              clear A48
              refine gw_st rfl rfl rfl ?_
              show ez_gw _ _ _ _ _ _ _ _ [some (.ref 71), some (.int x74), some (.int x78), l3] _ _ _
              refine gw_ld rfl rfl ?_
              refine z_gI2 (by decide) (zT S84 (by decide) rfl) (rfl) ?_
              refine z_b1 (fun c90 => ?_) (fun c90 => ?_)
              · have c90 : ((ez_I h77 71 61)).toInt ≤ 0 := c90
                exfalso; omega
              · have c90 : ¬ (((ez_I h77 71 61)).toInt ≤ 0) := c90
                refine z_go ?_
                have t91 := congrArg Int32.toInt (f88)
                refine u_F17 S84 (by omega) (by omega) (fun h92 x93 F94 k96 => ?_)
                have F95 := zW_tr (zW_mono F85 x74_4 x74_5 x74_6) (zW_mono F94 x74_16 x74_17 x74_6)
                exact K _ _ F95 (.inr ⟨A_sp.1 (by omega) |>.trans (unL_n (blU_o (.inl (by omega)))), k96, by rw [(show ez_I h92 71 7 = ez_I h77 71 7 from zW_f F94 (fun c => c) x74_18), (show ez_I h77 71 7 = ez_I h 71 7 from zW_f F85 x74_11 x74_19)], by rw [(show ez_I h92 73 = ez_I h77 73 from zW_fn F94 73 (fun c => c) x74_20), (show ez_I h77 73 = ez_I h 73 from zW_fn F85 73 x74_21 x74_22)]⟩)
    · skip
      have w_ls := z_rng ls
      have gls0 := z_rng ls0
      have S2 := zW_sh F S
      have hb2 := bitT_2 T p2
      apply ez_Wp_in
      show ez_gw _ _ _ _ _ _ (cz_60) _ _ _ _ _
      refine gw_skip _ ?_
      have r97 := z_rng (ez_I h2 71 59)
      have r98 := z_rng (ez_I h2 71 61)
      have r99 := z_rng (ez_I h2 71 60)
      refine gw_ld rfl rfl ?_
      refine z_C (m := 2) rfl rfl (fun x100 ex100 => ?_)
      refine z_cl rfl rfl rfl rfl rfl rfl rfl rfl rfl rfl rfl (zT S2 (by decide) rfl) ?_
      refine d_tbO (v := x100) (T := T) (n := n) (N := 2) (p := (p2 + 1)) S2 (by rw [(show ez_I h2 72 = ez_I h 72 from zW_fn F 72 x74_9 x74_10)]; exact hT) (by rw [(show ez_I h2 71 6 = ez_I h 71 6 from zW_f F x74_11 x74_12)]; exact hN) hn6 (by omega) (by omega) (by omega) (by omega) (by omega) (fun h101 x102 F103 k104 k105 k106 k107 k108 => ?_) (fun h109 x110 F111 k112 k113 k114 k115 k116 => ?_)
      · have rx102 := z_rng x102
        have S117 := zW_sh F103 S2
        have F118 := zW_tr F (zW_mono F103 (x74_13) (x74_14) (x74_6))
        have r119 := z_rng (ez_I h101 71 59)
        have r120 := z_rng (ez_I h101 71 61)
        have f121 : ez_I h101 71 60 = (ez_I h2 71 60) := (zW_f F103 (fun c => c) (by decide)).trans (rfl)
        have A122 : oM (ez_I h101 76) o2 m2 := by rw [zW_fn F103 76 (fun c => c) (x74_15)]; exact A_or
        refine gw_st rfl rfl rfl ?_
        show ez_gw _ _ _ _ _ _ _ _ [some (.ref 71), some (.int ls), some (.int x102), l3] _ _ _
        refine gw_ld rfl rfl ?_
        refine z_gI2 (by decide) (zT S117 (by decide) rfl) (rfl) ?_
        refine z_b1 (fun c123 => ?_) (fun c123 => ?_)
        · have c123 : ((ez_I h101 71 61)).toInt ≤ 0 := c123
          have t124 := congrArg Int32.toInt (f121)
          exact gw_skip _ (ez_Wp_at (ih.2.2.1 h101 ls x102 (l3) p2 o2 m2 F118 (by omega) (A_sp) A122 (by omega)) rfl)
        · have c123 : ¬ (((ez_I h101 71 61)).toInt ≤ 0) := c123
          exfalso; omega
      · have rx110 := z_rng x110
        have S125 := zW_sh F111 S2
        have F126 := zW_tr F (zW_mono F111 (x74_13) (x74_14) (x74_6))
        have r127 := z_rng (ez_I h109 71 59)
        have r128 := z_rng (ez_I h109 71 61)
        have f129 : ez_I h109 71 60 = (ez_I h2 71 60) := (zW_f F111 (fun c => c) (by decide)).trans (rfl)
        have A130 : oM (ez_I h109 76) o2 m2 := by rw [zW_fn F111 76 (fun c => c) (x74_15)]; exact A_or
        refine gw_st rfl rfl rfl ?_
        show ez_gw _ _ _ _ _ _ _ _ [some (.ref 71), some (.int ls), some (.int x110), l3] _ _ _
        refine gw_ld rfl rfl ?_
        refine z_gI2 (by decide) (zT S125 (by decide) rfl) (rfl) ?_
        refine z_b1 (fun c131 => ?_) (fun c131 => ?_)
        · have c131 : ((ez_I h109 71 61)).toInt ≤ 0 := c131
          exfalso; omega
        · have c131 : ¬ (((ez_I h109 71 61)).toInt ≤ 0) := c131
          refine z_go ?_
          have t132 := congrArg Int32.toInt (f129)
          refine u_F17 S125 (by omega) (by omega) (fun h133 x134 F135 k137 => ?_)
          have F136 := zW_tr (zW_mono F126 x74_4 x74_5 x74_6) (zW_mono F135 x74_16 x74_17 x74_6)
          exact K _ _ F136 (.inr ⟨A_sp.trans (unL_n (blU_o (.inl (by omega)))), k137, by rw [(show ez_I h133 71 7 = ez_I h109 71 7 from zW_f F135 (fun c => c) x74_18), (show ez_I h109 71 7 = ez_I h 71 7 from zW_f F126 x74_11 x74_19)], by rw [(show ez_I h133 73 = ez_I h109 73 from zW_fn F135 73 (fun c => c) x74_20), (show ez_I h109 73 = ez_I h 73 from zW_fn F126 73 x74_21 x74_22)]⟩)
    · skip
      have w_ls := z_rng ls
      have w_kd := z_rng kd
      have gls0 := z_rng ls0
      have S2 := zW_sh F S
      have hb2 := bitT_2 T p2
      have hv4 := vB_lt T (p2 + 1) 2
      rw [show (2 ^ 2 : Nat) = 4 from rfl] at hv4
      apply ez_Wp_in
      show ez_gw _ _ _ _ _ _ (cz_60) _ _ _ _ _
      refine gw_skip _ ?_
      have r138 := z_rng (ez_I h2 71 59)
      have r139 := z_rng (ez_I h2 71 61)
      have r140 := z_rng (ez_I h2 71 60)
      refine gw_ld rfl rfl ?_
      refine z_C (m := 3) rfl rfl (fun x141 ex141 => ?_)
      refine z_b2 (fun c142 => ?_) (fun c142 => ?_)
      · have c142 : kd.toInt ≠ x141.toInt := c142
        refine gw_skip _ ?_
        refine gw_ld rfl rfl ?_
        refine z_b1 (fun c143 => ?_) (fun c143 => ?_)
        · have c143 : kd.toInt ≠ 0 := c143
          refine gw_skip _ ?_
          refine gw_ld rfl rfl ?_
          refine z_C (m := 1) rfl rfl (fun x144 ex144 => ?_)
          refine z_b2 (fun c145 => ?_) (fun c145 => ?_)
          · have c145 : kd.toInt ≠ x144.toInt := c145
            refine gw_skip _ ?_
            refine gw_ld rfl rfl ?_
            refine z_C (m := 2) rfl rfl (fun x146 ex146 => ?_)
            refine z_b2 (fun c147 => ?_) (fun c147 => ?_)
            · have c147 : kd.toInt ≠ x146.toInt := c147
              refine gw_skip _ ?_
              exfalso; omega
            · have c147 : ¬ (kd.toInt ≠ x146.toInt) := c147
              refine gw_ld rfl rfl ?_
              refine z_cl rfl rfl rfl rfl rfl rfl rfl rfl rfl rfl rfl (zT S2 (by decide) rfl) ?_
              refine d_hdO (T := T) (n := n) (p2 := p2) (p := p2 + 3) S2 (by rw [(show ez_I h2 72 = ez_I h 72 from zW_fn F 72 x74_9 x74_10)]; exact hT) (by rw [(show ez_I h2 71 6 = ez_I h 71 6 from zW_f F x74_11 x74_12)]; exact hN) hn6 (by omega) (by omega) (by omega) (by rw [(show ez_I h2 96 = ez_I h 96 from zW_fn F 96 x74_23 x74_24)]; exact t96) rfl (by omega) (fun h148 q149 F150 k151 k152 k153 k154 => ?_) (fun h155 F156 k157 k158 k159 => ?_)
              · skip
                have S160 := zW_sh F150 S2
                have F161 := zW_tr F (zW_mono F150 (x74_13) (x74_25) (x74_6))
                have r162 := z_rng (ez_I h148 71 59)
                have r163 := z_rng (ez_I h148 71 61)
                have f164 : ez_I h148 71 60 = (ez_I h2 71 60) := (zW_f F150 (by decide) (by decide)).trans (rfl)
                have A165 : oM (ez_I h148 76) o2 m2 := by rw [zW_fn F150 76 (by decide) (x74_15)]; exact A_or
                have t166 := congrArg Int32.toInt (f164)
                exact ez_Wp_at (ih.2.2.2.2.2 h148 ls kd (l3) p2 o2 m2 q149 F161 (by omega) (A_sp) A165 (k153) (by omega)) rfl
              · skip
                have S167 := zW_sh F156 S2
                have F168 := zW_tr F (zW_mono F156 (x74_13) (x74_25) (x74_6))
                have r169 := z_rng (ez_I h155 71 59)
                have r170 := z_rng (ez_I h155 71 61)
                have f171 : ez_I h155 71 60 = (ez_I h2 71 60) := (zW_f F156 (by decide) (by decide)).trans (rfl)
                have A172 : oM (ez_I h155 76) o2 m2 := by rw [zW_fn F156 76 (by decide) (x74_15)]; exact A_or
                refine gw_ld rfl rfl ?_
                refine z_C (m := 1) rfl rfl (fun x173 ex173 => ?_)
                refine z_b2 (fun c174 => ?_) (fun c174 => ?_)
                · have c174 : kd.toInt = x173.toInt := c174
                  exfalso; omega
                · have c174 : ¬ (kd.toInt = x173.toInt) := c174
                  refine gw_ld rfl rfl ?_
                  refine z_C (m := 2) rfl rfl (fun x175 ex175 => ?_)
                  refine z_b2 (fun c176 => ?_) (fun c176 => ?_)
                  · have c176 : kd.toInt ≠ x175.toInt := c176
                    exfalso; omega
                  · have c176 : ¬ (kd.toInt ≠ x175.toInt) := c176
                    refine gw_ld rfl rfl ?_
                    refine z_gI2 (by decide) (zT S167 (by decide) rfl) (rfl) ?_
                    refine z_b1 (fun c177 => ?_) (fun c177 => ?_)
                    · have c177 : ((ez_I h155 71 61)).toInt ≠ 0 := c177
                      refine gw_skip _ ?_
                      refine z_go ?_
                      have t178 := congrArg Int32.toInt (f171)
                      refine u_F17 S167 (by omega) (by omega) (fun h179 x180 F181 k183 => ?_)
                      have F182 := zW_tr (zW_mono F168 x74_4 x74_5 x74_6) (zW_mono F181 x74_16 x74_17 x74_6)
                      exact K _ _ F182 (.inr ⟨A_sp.trans (unL_n (k157 _ _)), k183, by rw [(show ez_I h179 71 7 = ez_I h155 71 7 from zW_f F181 (fun c => c) x74_18), (show ez_I h155 71 7 = ez_I h 71 7 from zW_f F168 x74_11 x74_19)], by rw [(show ez_I h179 73 = ez_I h155 73 from zW_fn F181 73 (fun c => c) x74_20), (show ez_I h155 73 = ez_I h 73 from zW_fn F168 73 x74_21 x74_22)]⟩)
                    · have c177 : ¬ (((ez_I h155 71 61)).toInt ≠ 0) := c177
                      exfalso; omega
          · have c145 : ¬ (kd.toInt ≠ x144.toInt) := c145
            refine z_C (m := 0) rfl rfl (fun x184 ex184 => ?_)
            refine gw_st rfl rfl rfl ?_
            show ez_gw _ _ _ _ _ _ _ _ [some (.ref 71), some (.int ls), some (.int kd), some (.int x184)] _ _ _
            exact ez_Wp_at (ih.2.2.2.1 h2 ls kd x184 p2 o2 m2 F (by omega) (A_sp) A_or ((fun j hj => by omega)) (by omega)) rfl
        · have c143 : ¬ (kd.toInt ≠ 0) := c143
          refine gw_ld rfl rfl ?_
          refine z_cl rfl rfl rfl rfl rfl rfl rfl rfl rfl rfl rfl (zT S2 (by decide) rfl) ?_
          refine d_stO (T := T) (n := n) (p := p2 + 3) (m := m2) (o := o2) S2 (by rw [(show ez_I h2 72 = ez_I h 72 from zW_fn F 72 x74_9 x74_10)]; exact hT) (by rw [(show ez_I h2 71 6 = ez_I h 71 6 from zW_f F x74_11 x74_12)]; exact hN) hn6 (by omega) (by omega) (by omega) (by omega) (by omega) A_or (fun h185 q186 o187 m188 F189 k190 k191 k192 k193 k194 k195 => ?_) (fun h196 F197 k198 k199 k200 => ?_)
          · have hbl := (blU_0 (T := T) (n := n) (p := p2) (o := o2) (m := m2) (by omega) (by omega) rfl).trans k190
            have hbo : p2 < q186 ∧ q186 ≤ 8 * n := blU_ok hbl
            have S201 := zW_sh F189 S2
            have F202 := zW_tr F (zW_mono F189 (x74_26) (x74_27) (x74_6))
            have r203 := z_rng (ez_I h185 71 59)
            have r204 := z_rng (ez_I h185 71 61)
            have r205 := z_rng (ez_I h185 71 60)
            refine gw_ld rfl rfl ?_
            refine z_C (m := 1) rfl rfl (fun x206 ex206 => ?_)
            refine z_b2 (fun c207 => ?_) (fun c207 => ?_)
            · have c207 : kd.toInt ≠ x206.toInt := c207
              refine gw_skip _ ?_
              refine gw_ld rfl rfl ?_
              refine z_C (m := 2) rfl rfl (fun x208 ex208 => ?_)
              refine z_b2 (fun c209 => ?_) (fun c209 => ?_)
              · have c209 : kd.toInt ≠ x208.toInt := c209
                refine gw_skip _ ?_
                refine gw_ld rfl rfl ?_
                refine z_C (m := 1) rfl rfl (fun x210 ex210 => ?_)
                refine z_b2 (fun c211 => ?_) (fun c211 => ?_)
                · have c211 : kd.toInt = x210.toInt := c211
                  exfalso; omega
                · have c211 : ¬ (kd.toInt = x210.toInt) := c211
                  refine gw_ld rfl rfl ?_
                  refine z_C (m := 2) rfl rfl (fun x212 ex212 => ?_)
                  refine z_b2 (fun c213 => ?_) (fun c213 => ?_)
                  · have c213 : kd.toInt ≠ x212.toInt := c213
                    refine gw_skip _ ?_
                    refine z_go ?_
                    exact ih.1 h185 ls (some (.int kd)) (l3) q186 o187 m188 F202 (by omega) (⟨fun q => A_sp.trans (unL_y hbl (by omega)), fun q => A_sp.trans (unL_z hbl (by omega))⟩) (k194) (by omega)
                  · have c213 : ¬ (kd.toInt ≠ x212.toInt) := c213
                    exfalso; omega
              · have c209 : ¬ (kd.toInt ≠ x208.toInt) := c209
                exfalso; omega
            · have c207 : ¬ (kd.toInt ≠ x206.toInt) := c207
              exfalso; omega
          · have hbn := (blU_0 (T := T) (n := n) (p := p2) (o := o2) (m := m2) (by omega) (by omega) rfl).trans k198
            have S214 := zW_sh F197 S2
            have F215 := zW_tr F (zW_mono F197 (x74_26) (x74_27) (x74_6))
            have r216 := z_rng (ez_I h196 71 59)
            have r217 := z_rng (ez_I h196 71 61)
            have r218 := z_rng (ez_I h196 71 60)
            refine gw_ld rfl rfl ?_
            refine z_C (m := 1) rfl rfl (fun x219 ex219 => ?_)
            refine z_b2 (fun c220 => ?_) (fun c220 => ?_)
            · have c220 : kd.toInt ≠ x219.toInt := c220
              refine gw_skip _ ?_
              refine gw_ld rfl rfl ?_
              refine z_C (m := 2) rfl rfl (fun x221 ex221 => ?_)
              refine z_b2 (fun c222 => ?_) (fun c222 => ?_)
              · have c222 : kd.toInt ≠ x221.toInt := c222
                refine gw_skip _ ?_
                refine gw_ld rfl rfl ?_
                refine z_C (m := 1) rfl rfl (fun x223 ex223 => ?_)
                refine z_b2 (fun c224 => ?_) (fun c224 => ?_)
                · have c224 : kd.toInt = x223.toInt := c224
                  exfalso; omega
                · have c224 : ¬ (kd.toInt = x223.toInt) := c224
                  refine gw_ld rfl rfl ?_
                  refine z_C (m := 2) rfl rfl (fun x225 ex225 => ?_)
                  refine z_b2 (fun c226 => ?_) (fun c226 => ?_)
                  · have c226 : kd.toInt ≠ x225.toInt := c226
                    refine gw_skip _ ?_
                    refine z_go ?_
                    refine u_F17 S214 (by omega) (by omega) (fun h227 x228 F229 k231 => ?_)
                    have F230 := zW_tr (zW_mono F215 x74_4 x74_5 x74_6) (zW_mono F229 x74_16 x74_17 x74_6)
                    exact K _ _ F230 (.inr ⟨A_sp.trans (unL_n hbn), k231, by rw [(show ez_I h227 71 7 = ez_I h196 71 7 from zW_f F229 (fun c => c) x74_18), (show ez_I h196 71 7 = ez_I h 71 7 from zW_f F215 x74_11 x74_19)], by rw [(show ez_I h227 73 = ez_I h196 73 from zW_fn F229 73 (fun c => c) x74_20), (show ez_I h196 73 = ez_I h 73 from zW_fn F215 73 x74_21 x74_22)]⟩)
                  · have c226 : ¬ (kd.toInt ≠ x225.toInt) := c226
                    exfalso; omega
              · have c222 : ¬ (kd.toInt ≠ x221.toInt) := c222
                exfalso; omega
            · have c220 : ¬ (kd.toInt ≠ x219.toInt) := c220
              exfalso; omega
      · have c142 : ¬ (kd.toInt ≠ x141.toInt) := c142
        refine gw_ld rfl rfl ?_
        refine z_C (m := 2) rfl rfl (fun x232 ex232 => ?_)
        refine z_cl rfl rfl rfl rfl rfl rfl rfl rfl rfl rfl rfl (zT S2 (by decide) rfl) ?_
        refine d_wrong (n := x232) S2 (fun h233 F234 k235 k236 => ?_)
        have kw237 := k235 (by omega)
        clear k235 k236
        have S238 := zW_sh F234 S2
        have F239 := zW_tr F (zW_mono F234 (x74_28) (x74_14) (x74_6))
        have f240 : ez_I h233 71 59 = (ez_I h2 71 59) := (zW_f F234 (fun c => c) (by decide)).trans (rfl)
        have r241 := z_rng (ez_I h233 71 61)
        have f242 : ez_I h233 71 60 = (ez_I h2 71 60) := (zW_f F234 (fun c => c) (by decide)).trans (rfl)
        have A243 : oM (ez_I h233 76) o2 m2 := by rw [zW_fn F234 76 (fun c => c) (x74_29)]; exact A_or
        refine gw_ld rfl rfl ?_
        refine z_b1 (fun c244 => ?_) (fun c244 => ?_)
        · have c244 : kd.toInt ≠ 0 := c244
          refine gw_skip _ ?_
          refine gw_ld rfl rfl ?_
          refine z_C (m := 1) rfl rfl (fun x245 ex245 => ?_)
          refine z_b2 (fun c246 => ?_) (fun c246 => ?_)
          · have c246 : kd.toInt ≠ x245.toInt := c246
            refine gw_skip _ ?_
            refine gw_ld rfl rfl ?_
            refine z_C (m := 2) rfl rfl (fun x247 ex247 => ?_)
            refine z_b2 (fun c248 => ?_) (fun c248 => ?_)
            · have c248 : kd.toInt ≠ x247.toInt := c248
              refine gw_skip _ ?_
              refine gw_ld rfl rfl ?_
              refine z_C (m := 1) rfl rfl (fun x249 ex249 => ?_)
              refine z_b2 (fun c250 => ?_) (fun c250 => ?_)
              · have c250 : kd.toInt = x249.toInt := c250
                exfalso; omega
              · have c250 : ¬ (kd.toInt = x249.toInt) := c250
                refine gw_ld rfl rfl ?_
                refine z_C (m := 2) rfl rfl (fun x251 ex251 => ?_)
                refine z_b2 (fun c252 => ?_) (fun c252 => ?_)
                · have c252 : kd.toInt ≠ x251.toInt := c252
                  refine gw_skip _ ?_
                  refine z_go ?_
                  have t253 := congrArg Int32.toInt (f240)
                  have t254 := congrArg Int32.toInt (f242)
                  refine u_F17 S238 (by omega) (by omega) (fun h255 x256 F257 k259 => ?_)
                  have F258 := zW_tr (zW_mono F239 x74_4 x74_5 x74_6) (zW_mono F257 x74_16 x74_17 x74_6)
                  exact K _ _ F258 (.inr ⟨A_sp.trans (unL_n (blU_o (.inr (by omega)))), k259, by rw [(show ez_I h255 71 7 = ez_I h233 71 7 from zW_f F257 (fun c => c) x74_18), (show ez_I h233 71 7 = ez_I h 71 7 from zW_f F239 x74_11 x74_19)], by rw [(show ez_I h255 73 = ez_I h233 73 from zW_fn F257 73 (fun c => c) x74_20), (show ez_I h233 73 = ez_I h 73 from zW_fn F239 73 x74_21 x74_22)]⟩)
                · have c252 : ¬ (kd.toInt ≠ x251.toInt) := c252
                  exfalso; omega
            · have c248 : ¬ (kd.toInt ≠ x247.toInt) := c248
              exfalso; omega
          · have c246 : ¬ (kd.toInt ≠ x245.toInt) := c246
            exfalso; omega
        · have c244 : ¬ (kd.toInt ≠ 0) := c244
          exfalso; omega
    · skip
      have w_ls := z_rng ls
      have w_kd := z_rng kd
      have w_k := z_rng k
      have gls0 := z_rng ls0
      have S2 := zW_sh F S
      have hb2 := bitT_2 T p2
      apply ez_Wp_in
      show ez_gw _ _ _ _ _ _ (cz_60) _ _ _ _ _
      refine gw_skip _ ?_
      have r260 := z_rng (ez_I h2 71 59)
      have r261 := z_rng (ez_I h2 71 61)
      have r262 := z_rng (ez_I h2 71 60)
      refine gw_ld rfl rfl ?_
      refine z_C (m := 288) rfl rfl (fun x263 ex263 => ?_)
      refine z_b2 (fun c264 => ?_) (fun c264 => ?_)
      · have c264 : x263.toInt ≤ k.toInt := c264
        refine gw_skip _ ?_
        refine z_C (m := 0) rfl rfl (fun x265 ex265 => ?_)
        refine gw_st rfl rfl rfl ?_
        show ez_gw _ _ _ _ _ _ _ _ [some (.ref 71), some (.int ls), some (.int kd), some (.int x265)] _ _ _
        exact ez_Wp_at (ih.2.2.2.2.1 h2 ls kd x265 p2 o2 m2 F (by omega) (A_sp) A_or ((by have b1 := A_li; rw [show k.toInt.toNat = 288 by omega] at b1; exact b1)) ((fun j hj => by omega)) (by omega)) rfl
      · have c264 : ¬ (x263.toInt ≤ k.toInt) := c264
        refine gw_ld rfl rfl ?_
        refine z_gR (q := 120) (zT S2 (by decide) rfl) (zRf S2 (by decide) (by decide) rfl) (by decide) ?_
        refine gw_ld rfl rfl ?_
        refine gw_ld rfl rfl ?_
        refine z_C (m := 144) rfl rfl (fun x266 ex266 => ?_)
        refine z_b2 (fun c267 => ?_) (fun c267 => ?_)
        · have c267 : x266.toInt ≤ k.toInt := c267
          refine gw_skip _ ?_
          refine gw_ld rfl rfl ?_
          refine z_C (m := 256) rfl rfl (fun x268 ex268 => ?_)
          refine z_b2 (fun c269 => ?_) (fun c269 => ?_)
          · have c269 : x268.toInt ≤ k.toInt := c269
            refine gw_skip _ ?_
            refine gw_ld rfl rfl ?_
            refine z_C (m := 280) rfl rfl (fun x270 ex270 => ?_)
            refine z_b2 (fun c271 => ?_) (fun c271 => ?_)
            · have c271 : x270.toInt ≤ k.toInt := c271
              refine gw_skip _ ?_
              refine z_C (m := 8) rfl rfl (fun x272 ex272 => ?_)
              refine z_is (n := 288) (zT S2 (by decide) rfl) (zN S2 (by decide) rfl) (by omega) (fun h273 e274 => ?_)
              have S275 := zSh_set S2 e274
              have F276 := zW_setA F e274 (by decide)
              have f277 : ez_I h273 71 59 = (ez_I h2 71 59) := (zI_ne e274 (by omega)).trans (rfl)
              have f278 : ez_I h273 71 61 = (ez_I h2 71 61) := (zI_ne e274 (by omega)).trans (rfl)
              have f279 : ez_I h273 71 60 = (ez_I h2 71 60) := (zI_ne e274 (by omega)).trans (rfl)
              have A280 : oM (ez_I h273 76) o2 m2 := by rw [zI_fn e274 76 (by decide)]; exact A_or
              have A281 : cpN (ez_I h273 120) fxL (k.toInt.toNat + 1) := cpN_s A_li e274 (by omega) (by show x272.toInt = ((if k.toInt.toNat < 144 then 8 else if k.toInt.toNat < 256 then 9 else if k.toInt.toNat < 280 then 7 else 8 : Nat) : Int); rw [if_neg (by omega), if_neg (by omega), if_neg (by omega)]; omega) rfl
              refine z_inc rfl (by rw [show (1 : Int32).toInt = 1 from rfl]; omega) (fun x282 ex282 => ?_)
              rw [show (1 : Int32).toInt = 1 from rfl] at ex282
              show ez_gw _ _ _ _ _ _ _ _ [some (.ref 71), some (.int ls), some (.int kd), some (.int x282)] _ _ _
              refine z_go ?_
              have t283 := congrArg Int32.toInt (f277)
              have t284 := congrArg Int32.toInt (f278)
              have t285 := congrArg Int32.toInt (f279)
              exact ih.2.2.2.1 h273 ls kd x282 p2 o2 m2 F276 (by omega) (A_sp) A280 ((by rw [show x282.toInt.toNat = k.toInt.toNat + 1 by omega]; exact A281)) (by omega)
            · have c271 : ¬ (x270.toInt ≤ k.toInt) := c271
              refine z_C (m := 7) rfl rfl (fun x286 ex286 => ?_)
              refine z_go ?_
              refine gw_skip _ ?_
              refine z_is (n := 288) (zT S2 (by decide) rfl) (zN S2 (by decide) rfl) (by omega) (fun h287 e288 => ?_)
              have S289 := zSh_set S2 e288
              have F290 := zW_setA F e288 (by decide)
              have f291 : ez_I h287 71 59 = (ez_I h2 71 59) := (zI_ne e288 (by omega)).trans (rfl)
              have f292 : ez_I h287 71 61 = (ez_I h2 71 61) := (zI_ne e288 (by omega)).trans (rfl)
              have f293 : ez_I h287 71 60 = (ez_I h2 71 60) := (zI_ne e288 (by omega)).trans (rfl)
              have A294 : oM (ez_I h287 76) o2 m2 := by rw [zI_fn e288 76 (by decide)]; exact A_or
              have A295 : cpN (ez_I h287 120) fxL (k.toInt.toNat + 1) := cpN_s A_li e288 (by omega) (by show x286.toInt = ((if k.toInt.toNat < 144 then 8 else if k.toInt.toNat < 256 then 9 else if k.toInt.toNat < 280 then 7 else 8 : Nat) : Int); rw [if_neg (by omega), if_neg (by omega), if_pos (by omega)]; omega) rfl
              refine z_inc rfl (by rw [show (1 : Int32).toInt = 1 from rfl]; omega) (fun x296 ex296 => ?_)
              rw [show (1 : Int32).toInt = 1 from rfl] at ex296
              show ez_gw _ _ _ _ _ _ _ _ [some (.ref 71), some (.int ls), some (.int kd), some (.int x296)] _ _ _
              refine z_go ?_
              have t297 := congrArg Int32.toInt (f291)
              have t298 := congrArg Int32.toInt (f292)
              have t299 := congrArg Int32.toInt (f293)
              exact ih.2.2.2.1 h287 ls kd x296 p2 o2 m2 F290 (by omega) (A_sp) A294 ((by rw [show x296.toInt.toNat = k.toInt.toNat + 1 by omega]; exact A295)) (by omega)
          · have c269 : ¬ (x268.toInt ≤ k.toInt) := c269
            refine z_C (m := 9) rfl rfl (fun x300 ex300 => ?_)
            refine z_go ?_
            refine gw_skip _ ?_
            refine z_is (n := 288) (zT S2 (by decide) rfl) (zN S2 (by decide) rfl) (by omega) (fun h301 e302 => ?_)
            have S303 := zSh_set S2 e302
            have F304 := zW_setA F e302 (by decide)
            have f305 : ez_I h301 71 59 = (ez_I h2 71 59) := (zI_ne e302 (by omega)).trans (rfl)
            have f306 : ez_I h301 71 61 = (ez_I h2 71 61) := (zI_ne e302 (by omega)).trans (rfl)
            have f307 : ez_I h301 71 60 = (ez_I h2 71 60) := (zI_ne e302 (by omega)).trans (rfl)
            have A308 : oM (ez_I h301 76) o2 m2 := by rw [zI_fn e302 76 (by decide)]; exact A_or
            have A309 : cpN (ez_I h301 120) fxL (k.toInt.toNat + 1) := cpN_s A_li e302 (by omega) (by show x300.toInt = ((if k.toInt.toNat < 144 then 8 else if k.toInt.toNat < 256 then 9 else if k.toInt.toNat < 280 then 7 else 8 : Nat) : Int); rw [if_neg (by omega), if_pos (by omega)]; omega) rfl
            refine z_inc rfl (by rw [show (1 : Int32).toInt = 1 from rfl]; omega) (fun x310 ex310 => ?_)
            rw [show (1 : Int32).toInt = 1 from rfl] at ex310
            show ez_gw _ _ _ _ _ _ _ _ [some (.ref 71), some (.int ls), some (.int kd), some (.int x310)] _ _ _
            refine z_go ?_
            have t311 := congrArg Int32.toInt (f305)
            have t312 := congrArg Int32.toInt (f306)
            have t313 := congrArg Int32.toInt (f307)
            exact ih.2.2.2.1 h301 ls kd x310 p2 o2 m2 F304 (by omega) (A_sp) A308 ((by rw [show x310.toInt.toNat = k.toInt.toNat + 1 by omega]; exact A309)) (by omega)
        · have c267 : ¬ (x266.toInt ≤ k.toInt) := c267
          refine z_C (m := 8) rfl rfl (fun x314 ex314 => ?_)
          refine z_go ?_
          refine gw_skip _ ?_
          refine z_is (n := 288) (zT S2 (by decide) rfl) (zN S2 (by decide) rfl) (by omega) (fun h315 e316 => ?_)
          have S317 := zSh_set S2 e316
          have F318 := zW_setA F e316 (by decide)
          have f319 : ez_I h315 71 59 = (ez_I h2 71 59) := (zI_ne e316 (by omega)).trans (rfl)
          have f320 : ez_I h315 71 61 = (ez_I h2 71 61) := (zI_ne e316 (by omega)).trans (rfl)
          have f321 : ez_I h315 71 60 = (ez_I h2 71 60) := (zI_ne e316 (by omega)).trans (rfl)
          have A322 : oM (ez_I h315 76) o2 m2 := by rw [zI_fn e316 76 (by decide)]; exact A_or
          have A323 : cpN (ez_I h315 120) fxL (k.toInt.toNat + 1) := cpN_s A_li e316 (by omega) (by show x314.toInt = ((if k.toInt.toNat < 144 then 8 else if k.toInt.toNat < 256 then 9 else if k.toInt.toNat < 280 then 7 else 8 : Nat) : Int); rw [if_pos (by omega)]; omega) rfl
          refine z_inc rfl (by rw [show (1 : Int32).toInt = 1 from rfl]; omega) (fun x324 ex324 => ?_)
          rw [show (1 : Int32).toInt = 1 from rfl] at ex324
          show ez_gw _ _ _ _ _ _ _ _ [some (.ref 71), some (.int ls), some (.int kd), some (.int x324)] _ _ _
          refine z_go ?_
          have t325 := congrArg Int32.toInt (f319)
          have t326 := congrArg Int32.toInt (f320)
          have t327 := congrArg Int32.toInt (f321)
          exact ih.2.2.2.1 h315 ls kd x324 p2 o2 m2 F318 (by omega) (A_sp) A322 ((by rw [show x324.toInt.toNat = k.toInt.toNat + 1 by omega]; exact A323)) (by omega)
    · skip
      have w_ls := z_rng ls
      have w_kd := z_rng kd
      have w_k := z_rng k
      have gls0 := z_rng ls0
      have S2 := zW_sh F S
      have hb2 := bitT_2 T p2
      apply ez_Wp_in
      show ez_gw _ _ _ _ _ _ (cz_60) _ _ _ _ _
      refine gw_skip _ ?_
      have r328 := z_rng (ez_I h2 71 59)
      have r329 := z_rng (ez_I h2 71 61)
      have r330 := z_rng (ez_I h2 71 60)
      refine gw_ld rfl rfl ?_
      refine z_C (m := 32) rfl rfl (fun x331 ex331 => ?_)
      refine z_b2 (fun c332 => ?_) (fun c332 => ?_)
      · have c332 : x331.toInt ≤ k.toInt := c332
        refine gw_skip _ ?_
        refine gw_ld rfl rfl ?_
        refine z_C (m := 2) rfl rfl (fun x333 ex333 => ?_)
        refine z_b2 (fun c334 => ?_) (fun c334 => ?_)
        · have c334 : kd.toInt ≠ x333.toInt := c334
          exact gw_skip _ (ez_Wp_at (ih.2.2.2.2.2 h2 ls kd (some (.int k)) p2 o2 m2 (p2 + 3) F (by omega) (A_sp) A_or ((cdP_1 A_li (by have b1 := A_di; rw [show k.toInt.toNat = 32 by omega] at b1; exact b1) (by omega) (by omega))) (by omega)) rfl)
        · have c334 : ¬ (kd.toInt ≠ x333.toInt) := c334
          refine gw_ld rfl rfl ?_
          refine z_cl rfl rfl rfl rfl rfl rfl rfl rfl rfl rfl rfl (zT S2 (by decide) rfl) ?_
          refine d_hdO (T := T) (n := n) (p2 := p2) (p := p2 + 3) S2 (by rw [(show ez_I h2 72 = ez_I h 72 from zW_fn F 72 x74_9 x74_10)]; exact hT) (by rw [(show ez_I h2 71 6 = ez_I h 71 6 from zW_f F x74_11 x74_12)]; exact hN) hn6 (by omega) (by omega) (by omega) (by rw [(show ez_I h2 96 = ez_I h 96 from zW_fn F 96 x74_23 x74_24)]; exact t96) rfl (by omega) (fun h335 q336 F337 k338 k339 k340 k341 => ?_) (fun h342 F343 k344 k345 k346 => ?_)
          · skip
            have S347 := zW_sh F337 S2
            have F348 := zW_tr F (zW_mono F337 (x74_13) (x74_25) (x74_6))
            have r349 := z_rng (ez_I h335 71 59)
            have r350 := z_rng (ez_I h335 71 61)
            have f351 : ez_I h335 71 60 = (ez_I h2 71 60) := (zW_f F337 (by decide) (by decide)).trans (rfl)
            have A352 : oM (ez_I h335 76) o2 m2 := by rw [zW_fn F337 76 (by decide) (x74_15)]; exact A_or
            have t353 := congrArg Int32.toInt (f351)
            exact ez_Wp_at (ih.2.2.2.2.2 h335 ls kd (some (.int k)) p2 o2 m2 q336 F348 (by omega) (A_sp) A352 (k340) (by omega)) rfl
          · skip
            have S354 := zW_sh F343 S2
            have F355 := zW_tr F (zW_mono F343 (x74_13) (x74_25) (x74_6))
            have r356 := z_rng (ez_I h342 71 59)
            have r357 := z_rng (ez_I h342 71 61)
            have f358 : ez_I h342 71 60 = (ez_I h2 71 60) := (zW_f F343 (by decide) (by decide)).trans (rfl)
            have A359 : oM (ez_I h342 76) o2 m2 := by rw [zW_fn F343 76 (by decide) (x74_15)]; exact A_or
            refine gw_ld rfl rfl ?_
            refine z_C (m := 1) rfl rfl (fun x360 ex360 => ?_)
            refine z_b2 (fun c361 => ?_) (fun c361 => ?_)
            · have c361 : kd.toInt = x360.toInt := c361
              exfalso; omega
            · have c361 : ¬ (kd.toInt = x360.toInt) := c361
              refine gw_ld rfl rfl ?_
              refine z_C (m := 2) rfl rfl (fun x362 ex362 => ?_)
              refine z_b2 (fun c363 => ?_) (fun c363 => ?_)
              · have c363 : kd.toInt ≠ x362.toInt := c363
                exfalso; omega
              · have c363 : ¬ (kd.toInt ≠ x362.toInt) := c363
                refine gw_ld rfl rfl ?_
                refine z_gI2 (by decide) (zT S354 (by decide) rfl) (rfl) ?_
                refine z_b1 (fun c364 => ?_) (fun c364 => ?_)
                · have c364 : ((ez_I h342 71 61)).toInt ≠ 0 := c364
                  refine gw_skip _ ?_
                  refine z_go ?_
                  have t365 := congrArg Int32.toInt (f358)
                  refine u_F17 S354 (by omega) (by omega) (fun h366 x367 F368 k370 => ?_)
                  have F369 := zW_tr (zW_mono F355 x74_4 x74_5 x74_6) (zW_mono F368 x74_16 x74_17 x74_6)
                  exact K _ _ F369 (.inr ⟨A_sp.trans (unL_n (k344 _ _)), k370, by rw [(show ez_I h366 71 7 = ez_I h342 71 7 from zW_f F368 (fun c => c) x74_18), (show ez_I h342 71 7 = ez_I h 71 7 from zW_f F355 x74_11 x74_19)], by rw [(show ez_I h366 73 = ez_I h342 73 from zW_fn F368 73 (fun c => c) x74_20), (show ez_I h342 73 = ez_I h 73 from zW_fn F355 73 x74_21 x74_22)]⟩)
                · have c364 : ¬ (((ez_I h342 71 61)).toInt ≠ 0) := c364
                  exfalso; omega
      · have c332 : ¬ (x331.toInt ≤ k.toInt) := c332
        refine gw_ld rfl rfl ?_
        refine z_gR (q := 121) (zT S2 (by decide) rfl) (zRf S2 (by decide) (by decide) rfl) (by decide) ?_
        refine gw_ld rfl rfl ?_
        refine z_C (m := 5) rfl rfl (fun x371 ex371 => ?_)
        refine z_is (n := 32) (zT S2 (by decide) rfl) (zN S2 (by decide) rfl) (by omega) (fun h372 e373 => ?_)
        have S374 := zSh_set S2 e373
        have F375 := zW_setA F e373 (by decide)
        have f376 : ez_I h372 71 59 = (ez_I h2 71 59) := (zI_ne e373 (by omega)).trans (rfl)
        have f377 : ez_I h372 71 61 = (ez_I h2 71 61) := (zI_ne e373 (by omega)).trans (rfl)
        have f378 : ez_I h372 71 60 = (ez_I h2 71 60) := (zI_ne e373 (by omega)).trans (rfl)
        have A379 : oM (ez_I h372 76) o2 m2 := by rw [zI_fn e373 76 (by decide)]; exact A_or
        have A380 : cpN (ez_I h372 120) fxL 288 := by rw [zI_fn e373 120 (by decide)]; exact A_li
        have A381 : cpN (ez_I h372 121) fxD (k.toInt.toNat + 1) := cpN_s A_di e373 (by omega) (by show x371.toInt = ((if k.toInt.toNat < 32 then 5 else 0 : Nat) : Int); rw [if_pos (by omega)]; omega) rfl
        refine z_inc rfl (by rw [show (1 : Int32).toInt = 1 from rfl]; omega) (fun x382 ex382 => ?_)
        rw [show (1 : Int32).toInt = 1 from rfl] at ex382
        show ez_gw _ _ _ _ _ _ _ _ [some (.ref 71), some (.int ls), some (.int kd), some (.int x382)] _ _ _
        refine z_go ?_
        have t383 := congrArg Int32.toInt (f376)
        have t384 := congrArg Int32.toInt (f377)
        have t385 := congrArg Int32.toInt (f378)
        exact ih.2.2.2.2.1 h372 ls kd x382 p2 o2 m2 F375 (by omega) (A_sp) A379 (A380) ((by rw [show x382.toInt.toNat = k.toInt.toNat + 1 by omega]; exact A381)) (by omega)
    · skip
      have w_ls := z_rng ls
      have w_kd := z_rng kd
      have gls0 := z_rng ls0
      have S2 := zW_sh F S
      have hb2 := bitT_2 T p2
      apply ez_Wp_in
      show ez_gw _ _ _ _ _ _ (cz_60) _ _ _ _ _
      refine gw_skip _ ?_
      have r386 := z_rng (ez_I h2 71 59)
      have r387 := z_rng (ez_I h2 71 61)
      have r388 := z_rng (ez_I h2 71 60)
      refine gw_ld rfl rfl ?_
      refine z_C (m := 1) rfl rfl (fun x389 ex389 => ?_)
      refine z_b2 (fun c390 => ?_) (fun c390 => ?_)
      · have c390 : kd.toInt = x389.toInt := c390
        refine gw_skip _ ?_
        refine gw_ld rfl rfl ?_
        refine z_gI2 (by decide) (zT S2 (by decide) rfl) (rfl) ?_
        refine z_b1 (fun c391 => ?_) (fun c391 => ?_)
        · have c391 : ((ez_I h2 71 61)).toInt ≠ 0 := c391
          exfalso; omega
        · have c391 : ¬ (((ez_I h2 71 61)).toInt ≠ 0) := c391
          refine gw_ld rfl rfl ?_
          refine z_cl rfl rfl rfl rfl rfl rfl rfl rfl rfl rfl rfl (zT S2 (by decide) rfl) ?_
          refine d_cdO (T := T) (n := n) (p2 := p2) (p := p3) (m := m2) (o := o2) S2 (by rw [(show ez_I h2 72 = ez_I h 72 from zW_fn F 72 x74_9 x74_10)]; exact hT) (by rw [(show ez_I h2 71 6 = ez_I h 71 6 from zW_f F x74_11 x74_12)]; exact hN) hn6 (by omega) (by omega) (by omega) (by omega) (by omega) A_or (by rw [(show ez_I h2 92 = ez_I h 92 from zW_fn F 92 x74_30 x74_31)]; exact t92) (by rw [(show ez_I h2 93 = ez_I h 93 from zW_fn F 93 x74_32 x74_33)]; exact t93) (by rw [(show ez_I h2 94 = ez_I h 94 from zW_fn F 94 x74_34 x74_35)]; exact t94) (by rw [(show ez_I h2 95 = ez_I h 95 from zW_fn F 95 x74_36 x74_37)]; exact t95) A_cd (fun h392 q393 o394 m395 F396 k397 k398 k399 k400 k401 k402 => ?_) (fun h403 F404 k405 k406 k407 => ?_)
          · have hbl := k397
            have hbo : p2 < q393 ∧ q393 ≤ 8 * n := blU_ok hbl
            have S408 := zW_sh F396 S2
            have F409 := zW_tr F (zW_mono F396 (x74_26) (x74_38) (x74_6))
            have r410 := z_rng (ez_I h392 71 59)
            have r411 := z_rng (ez_I h392 71 61)
            have r412 := z_rng (ez_I h392 71 60)
            have A413 : cdP (ez_I h392 120) (ez_I h392 121) T n p2 p3 := by rw [zW_fn F396 120 (by decide) (x74_39), zW_fn F396 121 (by decide) (x74_40)]; exact A_cd
            refine z_go ?_
            exact ih.1 h392 ls (some (.int kd)) (l3) q393 o394 m395 F409 (by omega) (⟨fun q => A_sp.trans (unL_y hbl (by omega)), fun q => A_sp.trans (unL_z hbl (by omega))⟩) (k401) (by omega)
          · have hbn := k405
            have S414 := zW_sh F404 S2
            have F415 := zW_tr F (zW_mono F404 (x74_26) (x74_38) (x74_6))
            have r416 := z_rng (ez_I h403 71 59)
            have r417 := z_rng (ez_I h403 71 61)
            have r418 := z_rng (ez_I h403 71 60)
            have A419 : cdP (ez_I h403 120) (ez_I h403 121) T n p2 p3 := by rw [zW_fn F404 120 (by decide) (x74_39), zW_fn F404 121 (by decide) (x74_40)]; exact A_cd
            refine z_go ?_
            refine u_F17 S414 (by omega) (by omega) (fun h420 x421 F422 k424 => ?_)
            have F423 := zW_tr (zW_mono F415 x74_4 x74_5 x74_6) (zW_mono F422 x74_16 x74_17 x74_6)
            exact K _ _ F423 (.inr ⟨A_sp.trans (unL_n hbn), k424, by rw [(show ez_I h420 71 7 = ez_I h403 71 7 from zW_f F422 (fun c => c) x74_18), (show ez_I h403 71 7 = ez_I h 71 7 from zW_f F415 x74_11 x74_19)], by rw [(show ez_I h420 73 = ez_I h403 73 from zW_fn F422 73 (fun c => c) x74_20), (show ez_I h403 73 = ez_I h 73 from zW_fn F415 73 x74_21 x74_22)]⟩)
      · have c390 : ¬ (kd.toInt = x389.toInt) := c390
        refine gw_ld rfl rfl ?_
        refine z_C (m := 2) rfl rfl (fun x425 ex425 => ?_)
        refine z_b2 (fun c426 => ?_) (fun c426 => ?_)
        · have c426 : kd.toInt ≠ x425.toInt := c426
          refine gw_skip _ ?_
          exfalso; omega
        · have c426 : ¬ (kd.toInt ≠ x425.toInt) := c426
          refine gw_ld rfl rfl ?_
          refine z_gI2 (by decide) (zT S2 (by decide) rfl) (rfl) ?_
          refine z_b1 (fun c427 => ?_) (fun c427 => ?_)
          · have c427 : ((ez_I h2 71 61)).toInt ≠ 0 := c427
            exfalso; omega
          · have c427 : ¬ (((ez_I h2 71 61)).toInt ≠ 0) := c427
            refine gw_ld rfl rfl ?_
            refine z_cl rfl rfl rfl rfl rfl rfl rfl rfl rfl rfl rfl (zT S2 (by decide) rfl) ?_
            refine d_cdO (T := T) (n := n) (p2 := p2) (p := p3) (m := m2) (o := o2) S2 (by rw [(show ez_I h2 72 = ez_I h 72 from zW_fn F 72 x74_9 x74_10)]; exact hT) (by rw [(show ez_I h2 71 6 = ez_I h 71 6 from zW_f F x74_11 x74_12)]; exact hN) hn6 (by omega) (by omega) (by omega) (by omega) (by omega) A_or (by rw [(show ez_I h2 92 = ez_I h 92 from zW_fn F 92 x74_30 x74_31)]; exact t92) (by rw [(show ez_I h2 93 = ez_I h 93 from zW_fn F 93 x74_32 x74_33)]; exact t93) (by rw [(show ez_I h2 94 = ez_I h 94 from zW_fn F 94 x74_34 x74_35)]; exact t94) (by rw [(show ez_I h2 95 = ez_I h 95 from zW_fn F 95 x74_36 x74_37)]; exact t95) A_cd (fun h428 q429 o430 m431 F432 k433 k434 k435 k436 k437 k438 => ?_) (fun h439 F440 k441 k442 k443 => ?_)
            · have hbl := k433
              have hbo : p2 < q429 ∧ q429 ≤ 8 * n := blU_ok hbl
              have S444 := zW_sh F432 S2
              have F445 := zW_tr F (zW_mono F432 (x74_26) (x74_38) (x74_6))
              have r446 := z_rng (ez_I h428 71 59)
              have r447 := z_rng (ez_I h428 71 61)
              have r448 := z_rng (ez_I h428 71 60)
              have A449 : cdP (ez_I h428 120) (ez_I h428 121) T n p2 p3 := by rw [zW_fn F432 120 (by decide) (x74_39), zW_fn F432 121 (by decide) (x74_40)]; exact A_cd
              refine z_go ?_
              exact ih.1 h428 ls (some (.int kd)) (l3) q429 o430 m431 F445 (by omega) (⟨fun q => A_sp.trans (unL_y hbl (by omega)), fun q => A_sp.trans (unL_z hbl (by omega))⟩) (k437) (by omega)
            · have hbn := k441
              have S450 := zW_sh F440 S2
              have F451 := zW_tr F (zW_mono F440 (x74_26) (x74_38) (x74_6))
              have r452 := z_rng (ez_I h439 71 59)
              have r453 := z_rng (ez_I h439 71 61)
              have r454 := z_rng (ez_I h439 71 60)
              have A455 : cdP (ez_I h439 120) (ez_I h439 121) T n p2 p3 := by rw [zW_fn F440 120 (by decide) (x74_39), zW_fn F440 121 (by decide) (x74_40)]; exact A_cd
              refine z_go ?_
              refine u_F17 S450 (by omega) (by omega) (fun h456 x457 F458 k460 => ?_)
              have F459 := zW_tr (zW_mono F451 x74_4 x74_5 x74_6) (zW_mono F458 x74_16 x74_17 x74_6)
              exact K _ _ F459 (.inr ⟨A_sp.trans (unL_n hbn), k460, by rw [(show ez_I h456 71 7 = ez_I h439 71 7 from zW_f F458 (fun c => c) x74_18), (show ez_I h439 71 7 = ez_I h 71 7 from zW_f F451 x74_11 x74_19)], by rw [(show ez_I h456 73 = ez_I h439 73 from zW_fn F458 73 (fun c => c) x74_20), (show ez_I h439 73 = ez_I h 73 from zW_fn F451 73 x74_21 x74_22)]⟩)
set_option maxRecDepth 4000 in
set_option maxHeartbeats 2000000 in
theorem u_17 {E : Nat → Nat × (Nat → Int32)} {d : Nat} {Q : ez_Q} {h : ez_H} {ls0 : Int32} {l2 : Option Value} {l3 : Option Value} (S : zSh h) {T : Nat → Int} {n : Nat} (hT : tB (ez_I h 72) = T) (hN : (ez_I h 71 6).toInt = (n : Nat)) (hn6 : n ≤ 6000) {U : Option ((Nat → Int) × Nat)} (t92 : ctI (ez_I h 92) LBf 29) (t93 : ctI (ez_I h 93) LEf 29) (t94 : ctI (ez_I h 94) DBf 30) (t95 : ctI (ez_I h 95) DEf 30) (t96 : ctI (ez_I h 96) ORf 19) (hp : (ez_I h 71 59).toInt = 0) (hg : (ez_I h 71 60).toInt = 0) (hf : (ez_I h 71 61).toInt = 0) (hl : ls0.toInt = 0) (hU : U = unL T n (8 * n) 0 (fun _ => 0) 0) (K : ∀ h2 (x : Int32), zW (fun q k => q = 71 ∧ k = 59 ∨ q = 71 ∧ k = 61 ∨ q = 71 ∧ k = 60 ∨ q = 71 ∧ k = 62 ∨ q = 71 ∧ k = 63 ∨ q = 71 ∧ k = 0 ∨ q = 71 ∧ k = 7) (fun q => q = 73 ∨ q = 76 ∨ q = 115 ∨ q = 120 ∨ q = 121 ∨ q = 122 ∨ q = 123) (fun _ => False) h h2 → ((∃ (o2 : Nat → Int) (m2 : Nat), U = some (o2, m2) ∧ (ez_I h2 71 0).toInt = 0 ∧ x.toInt = (m2 : Nat) ∧ (ez_I h2 71 7).toInt = (m2 : Nat) ∧ m2 ≤ 6000 ∧ oM (ez_I h2 73) o2 m2) ∨ (U = none ∧ (ez_I h2 71 0).toInt = 1 ∧ (ez_I h2 71 7).toInt = (ez_I h 71 7).toInt ∧ ez_I h2 73 = ez_I h 73)) → Q (.inl (some (.int x))) h2) : pw E (d + 3) 60 17 [some (.ref 71), some (.int ls0), l2, l3] [] h Q := by
  have gls0 := z_rng ls0
  have F := zW_refl (fun q k => q = 71 ∧ k = 59 ∨ q = 71 ∧ k = 61 ∨ q = 71 ∧ k = 60) (fun q => q = 76 ∨ q = 115 ∨ q = 120 ∨ q = 121 ∨ q = 122 ∨ q = 123) (fun _ => False) h
  apply ez_Wp_in
  show ez_gw _ _ _ _ _ _ (cz_60) _ _ _ _ _
  refine gw_skip _ ?_
  have r1 := z_rng (ez_I h 71 59)
  have r2 := z_rng (ez_I h 71 61)
  have r3 := z_rng (ez_I h 71 60)
  exact ez_Wp_at ((u_17_L0 (ls0 := ls0) (l2 := l2) (l3 := l3) S hT hN hn6 t92 t93 t94 t95 t96 hp hg hf hl hU K (((1000 * (60000 - (0 : Int)) - 0)).toNat + 1)).1 h ls0 (l2) (l3) 0 (fun _ => 0) 0 F (by omega) (⟨fun _ => hU, fun q => by exfalso; omega⟩) ((fun k hk => by omega)) (by omega)) rfl
theorem x74_41 : ∀ q k : Nat, (q = 71 ∧ k = 59 ∨ q = 71 ∧ k = 61 ∨ q = 71 ∧ k = 60 ∨ q = 71 ∧ k = 62 ∨ q = 71 ∧ k = 63 ∨ q = 71 ∧ k = 0 ∨ q = 71 ∧ k = 7) → (q = 71 ∧ k = 59 ∨ q = 71 ∧ k = 61 ∨ q = 71 ∧ k = 60 ∨ q = 71 ∧ k = 62 ∨ q = 71 ∧ k = 63 ∨ q = 71 ∧ k = 0 ∨ q = 71 ∧ k = 7) := fun q k hk => hk.elim (fun g => (.inl g)) (fun hk => hk.elim (fun g => (.inr (.inl g))) (fun hk => hk.elim (fun g => (.inr (.inr (.inl g)))) (fun hk => hk.elim (fun g => (.inr (.inr (.inr (.inl g))))) (fun hk => hk.elim (fun g => (.inr (.inr (.inr (.inr (.inl g)))))) (fun hk => hk.elim (fun g => (.inr (.inr (.inr (.inr (.inr (.inl g))))))) (fun hk => (.inr (.inr (.inr (.inr (.inr (.inr hk))))))))))))
theorem x74_42 : ∀ q : Nat, (q = 73 ∨ q = 76 ∨ q = 115 ∨ q = 120 ∨ q = 121 ∨ q = 122 ∨ q = 123) → (q = 73 ∨ q = 76 ∨ q = 115 ∨ q = 120 ∨ q = 121 ∨ q = 122 ∨ q = 123) := fun q hk => hk.elim (fun g => (.inl g)) (fun hk => hk.elim (fun g => (.inr (.inl g))) (fun hk => hk.elim (fun g => (.inr (.inr (.inl g)))) (fun hk => hk.elim (fun g => (.inr (.inr (.inr (.inl g))))) (fun hk => hk.elim (fun g => (.inr (.inr (.inr (.inr (.inl g)))))) (fun hk => hk.elim (fun g => (.inr (.inr (.inr (.inr (.inr (.inl g))))))) (fun hk => (.inr (.inr (.inr (.inr (.inr (.inr hk))))))))))))
set_option maxRecDepth 4000 in
set_option maxHeartbeats 2000000 in
theorem d_unpackF {E : Nat → Nat × (Nat → Int32)} {d : Nat} {Q : ez_Q} {h : ez_H}  (S : zSh h) (hz : 0 ≤ (ez_I h 71 6).toInt ∧ (ez_I h 71 6).toInt ≤ 6000) (t92 : ctI (ez_I h 92) LBf 29) (t93 : ctI (ez_I h 93) LEf 29) (t94 : ctI (ez_I h 94) DBf 30) (t95 : ctI (ez_I h 95) DEf 30) (t96 : ctI (ez_I h 96) ORf 19) (K : ∀ h2 (x : Int32), zW (fun q k => q = 71 ∧ k = 59 ∨ q = 71 ∧ k = 61 ∨ q = 71 ∧ k = 60 ∨ q = 71 ∧ k = 62 ∨ q = 71 ∧ k = 63 ∨ q = 71 ∧ k = 0 ∨ q = 71 ∧ k = 7) (fun q => q = 73 ∨ q = 76 ∨ q = 115 ∨ q = 120 ∨ q = 121 ∨ q = 122 ∨ q = 123) (fun _ => False) h h2 → ((∃ (o2 : Nat → Int) (m2 : Nat), (unL (tB (ez_I h 72)) (ez_I h 71 6).toInt.toNat (8 * (ez_I h 71 6).toInt.toNat) 0 (fun _ => 0) 0) = some (o2, m2) ∧ (ez_I h2 71 0).toInt = 0 ∧ x.toInt = (m2 : Nat) ∧ (ez_I h2 71 7).toInt = (m2 : Nat) ∧ m2 ≤ 6000 ∧ oM (ez_I h2 73) o2 m2) ∨ ((unL (tB (ez_I h 72)) (ez_I h 71 6).toInt.toNat (8 * (ez_I h 71 6).toInt.toNat) 0 (fun _ => 0) 0) = none ∧ (ez_I h2 71 0).toInt = 1 ∧ (ez_I h2 71 7).toInt = (ez_I h 71 7).toInt ∧ ez_I h2 73 = ez_I h 73)) → Q (.inl (some (.int x))) h2) : pw E (d + 3) 60 0 [some (.ref 71), none, none, none] [] h Q := by
  have F := zW_refl (fun q k => q = 71 ∧ k = 59 ∨ q = 71 ∧ k = 61 ∨ q = 71 ∧ k = 60) (fun _ => False) (fun _ => False) h
  apply ez_Wp_in
  show ez_gw _ _ _ _ _ _ (cz_60) _ _ _ _ _
  refine gw_skip _ ?_
  have r1 := z_rng (ez_I h 71 59)
  have r2 := z_rng (ez_I h 71 61)
  have r3 := z_rng (ez_I h 71 60)
  refine gw_ld rfl rfl ?_
  refine z_C (m := 0) rfl rfl (fun x4 ex4 => ?_)
  refine z_pI (zT S (by decide) rfl) (fun h5 e6 => ?_)
  have S7 := zSh_set S e6
  have F8 := zW_setF F e6 (by decide)
  have f9 : ez_I h5 71 59 = x4 := zI_eq e6
  have f10 : ez_I h5 71 61 = (ez_I h 71 61) := (zI_ne e6 (by decide)).trans (rfl)
  have f11 : ez_I h5 71 60 = (ez_I h 71 60) := (zI_ne e6 (by decide)).trans (rfl)
  refine gw_ld rfl rfl ?_
  refine z_C (m := 0) rfl rfl (fun x12 ex12 => ?_)
  refine z_pI (zT S7 (by decide) rfl) (fun h13 e14 => ?_)
  have S15 := zSh_set S7 e14
  have F16 := zW_setF F8 e14 (by decide)
  have f17 : ez_I h13 71 59 = x4 := (zI_ne e14 (by decide)).trans (f9)
  have f18 : ez_I h13 71 61 = (ez_I h 71 61) := (zI_ne e14 (by decide)).trans (f10)
  have f19 : ez_I h13 71 60 = x12 := zI_eq e14
  refine gw_ld rfl rfl ?_
  refine z_C (m := 0) rfl rfl (fun x20 ex20 => ?_)
  refine z_pI (zT S15 (by decide) rfl) (fun h21 e22 => ?_)
  have S23 := zSh_set S15 e22
  have F24 := zW_setF F16 e22 (by decide)
  have f25 : ez_I h21 71 59 = x4 := (zI_ne e22 (by decide)).trans (f17)
  have f26 : ez_I h21 71 61 = x20 := zI_eq e22
  have f27 : ez_I h21 71 60 = x12 := (zI_ne e22 (by decide)).trans (f19)
  refine z_C (m := 0) rfl rfl (fun x28 ex28 => ?_)
  refine gw_st rfl rfl rfl ?_
  show ez_gw _ _ _ _ _ _ _ _ [some (.ref 71), some (.int x28), none, none] _ _ _
  have t29 := congrArg Int32.toInt (f25)
  have t30 := congrArg Int32.toInt (f26)
  have t31 := congrArg Int32.toInt (f27)
  suffices tl : pw E (d + 3) 60 17 [some (.ref 71), some (.int x28), none, none] [] h21 Q from ez_Wp_at tl rfl
  refine u_17 (T := tB (ez_I h 72)) (n := (ez_I h 71 6).toInt.toNat) (U := (unL (tB (ez_I h 72)) (ez_I h 71 6).toInt.toNat (8 * (ez_I h 71 6).toInt.toNat) 0 (fun _ => 0) 0)) S23 (by rw [(show ez_I h21 72 = ez_I h 72 from zW_fn F24 72 (fun c => c) x74_10)]) (by rw [(show ez_I h21 71 6 = ez_I h 71 6 from zW_f F24 (fun c => c) x74_12)]; omega) (by omega) (by rw [(show ez_I h21 92 = ez_I h 92 from zW_fn F24 92 (fun c => c) x74_31)]; exact t92) (by rw [(show ez_I h21 93 = ez_I h 93 from zW_fn F24 93 (fun c => c) x74_33)]; exact t93) (by rw [(show ez_I h21 94 = ez_I h 94 from zW_fn F24 94 (fun c => c) x74_35)]; exact t94) (by rw [(show ez_I h21 95 = ez_I h 95 from zW_fn F24 95 (fun c => c) x74_37)]; exact t95) (by rw [(show ez_I h21 96 = ez_I h 96 from zW_fn F24 96 (fun c => c) x74_24)]; exact t96) (by omega) (by omega) (by omega) (by omega) rfl (fun h32 x33 F34 k36 => ?_)
  have F35 := zW_tr (zW_mono F24 x74_4 x74_17 x74_6) (zW_mono F34 x74_41 x74_42 x74_6)
  rw [(show ez_I h21 71 7 = ez_I h 71 7 from zW_f F24 (fun c => c) x74_19), (show ez_I h21 73 = ez_I h 73 from zW_fn F24 73 (fun c => c) x74_22)] at k36
  exact K _ _ F35 k36
end
section
/-! PRINTED by wip/pack: calls that tell nothing -/
set_option maxRecDepth 4000 in
set_option maxHeartbeats 2000000 in
theorem x_crcW_L0 {E : Nat → Nat × (Nat → Int32)} {d : Nat} {Q : ez_Q} {h : ez_H}  (S : zSh h) (hE : zE E) (hz : 0 ≤ (ez_I h 2 1).toInt ∧ (ez_I h 2 1).toInt ≤ 6000) (K : ∀ x : Int32, Q (.inl (some (.int x))) h) : ∀ N : Nat, (∀ (h2 : ez_H) (c : Int32) (i : Int32) , zW (fun _ _ => False) (fun _ => False) (fun _ => False) h h2 → (0 ≤ i.toInt ∧ i.toInt ≤ 6000) → (10000 - i.toInt) < (N : Int) → pw E d 6 4 [some (.ref 1), some (.int c), some (.int i)] [] h2 Q) := by
  intro N
  induction N with
  | zero => exact fun h2 c i  F hinv  hm => absurd hm (by have w_c := z_rng c; have w_i := z_rng i; omega)
  | succ N ih =>
    refine fun h2 c i  F hinv  hm => ?_
    · skip
      have w_c := z_rng c
      have w_i := z_rng i
      have S2 := zW_sh F S
      apply ez_Wp_in
      show ez_gw _ _ _ _ _ _ (cz_6) _ _ _ _ _
      refine gw_skip _ ?_
      refine gw_ld rfl rfl ?_
      refine gw_ld rfl rfl ?_
      refine z_gR (q := 2) (zT S2 (by decide) rfl) (zRf S2 (by decide) (by decide) rfl) (by decide) ?_
      have r1 := z_rng (ez_I h 2 1)
      refine z_gI2 (by decide) (zT S2 (by decide) rfl) (zW_f F (fun c => c) (fun c => c)) ?_
      refine z_b2 (fun c2 => ?_) (fun c2 => ?_)
      · have c2 : ((ez_I h 2 1)).toInt ≤ i.toInt := c2
        refine gw_skip _ ?_
        refine gw_ld rfl rfl ?_
        refine z_C (m := -1) rfl rfl (fun x3 ex3 => ?_)
        refine z_2 rfl (fun x4 ex4 => ?_)
        have rx4 := z_rng x4
        refine z_ri ?_
        exact zW_Q F (K x4 )
      · have c2 : ¬ (((ez_I h 2 1)).toInt ≤ i.toInt) := c2
        refine gw_ld rfl rfl ?_
        refine gw_ld rfl rfl ?_
        refine z_gR (q := 2) (zT S2 (by decide) rfl) (zRf S2 (by decide) (by decide) rfl) (by decide) ?_
        refine z_gR (q := 3) (zT S2 (by decide) rfl) (zRf S2 (by decide) (by decide) rfl) (by decide) ?_
        refine gw_ld rfl rfl ?_
        refine z_iaV (n := 6100) (zT S2 (by decide) rfl) (zN S2 (by decide) rfl) (by omega) (zW_f F (fun c => c) (fun c => c)) ?_
        generalize ex5 : ez_I h 3 i.toInt.toNat = x5
        have rx5 := z_rng x5
        refine z_2 rfl (fun x6 ex6 => ?_)
        have rx6 := z_rng x6
        refine gw_st rfl rfl rfl ?_
        show ez_gw _ _ _ _ _ _ _ _ [some (.ref 1), some (.int x6), some (.int i)] _ _ _
        refine gw_ld rfl rfl ?_
        refine z_C (m := 4) rfl rfl (fun x7 ex7 => ?_)
        refine z_2 rfl (fun x8 ex8 => ?_)
        have rx8 := z_rng x8
        refine z_gs ?_
        refine gw_ld rfl rfl ?_
        refine z_C (m := 15) rfl rfl (fun x9 ex9 => ?_)
        refine z_and (fun x10 ex10 ux10 wx10 => ?_)
        have rx10 := z_rng x10
        replace ux10 := ux10 (by omega)
        clear wx10
        have vx10 := n_mask (k := 4) (by decide) (by omega) ex10
        rw [show (2 : Int) ^ 4 = 16 from rfl] at vx10
        refine z_iaE (n := 16) (hE 0) (by omega) ?_
        generalize ex11 : (tz_ar (0 + 1)).getD x10.toInt.toNat 0 = x11
        have rx11 := z_rng x11
        refine z_2 rfl (fun x12 ex12 => ?_)
        have rx12 := z_rng x12
        refine gw_st rfl rfl rfl ?_
        show ez_gw _ _ _ _ _ _ _ _ [some (.ref 1), some (.int x12), some (.int i)] _ _ _
        refine gw_ld rfl rfl ?_
        refine z_C (m := 4) rfl rfl (fun x13 ex13 => ?_)
        refine z_2 rfl (fun x14 ex14 => ?_)
        have rx14 := z_rng x14
        refine z_gs ?_
        refine gw_ld rfl rfl ?_
        refine z_C (m := 15) rfl rfl (fun x15 ex15 => ?_)
        refine z_and (fun x16 ex16 ux16 wx16 => ?_)
        have rx16 := z_rng x16
        replace ux16 := ux16 (by omega)
        clear wx16
        have vx16 := n_mask (k := 4) (by decide) (by omega) ex16
        rw [show (2 : Int) ^ 4 = 16 from rfl] at vx16
        refine z_iaE (n := 16) (hE 0) (by omega) ?_
        generalize ex17 : (tz_ar (0 + 1)).getD x16.toInt.toNat 0 = x17
        have rx17 := z_rng x17
        refine z_2 rfl (fun x18 ex18 => ?_)
        have rx18 := z_rng x18
        refine gw_st rfl rfl rfl ?_
        show ez_gw _ _ _ _ _ _ _ _ [some (.ref 1), some (.int x18), some (.int i)] _ _ _
        refine z_inc rfl (by rw [show (1 : Int32).toInt = 1 from rfl]; omega) (fun x19 ex19 => ?_)
        rw [show (1 : Int32).toInt = 1 from rfl] at ex19
        show ez_gw _ _ _ _ _ _ _ _ [some (.ref 1), some (.int x18), some (.int x19)] _ _ _
        refine z_go ?_
        exact ih h2 x18 x19 F (by omega)  (by omega)
set_option maxRecDepth 4000 in
set_option maxHeartbeats 2000000 in
theorem x_crcW {E : Nat → Nat × (Nat → Int32)} {d : Nat} {Q : ez_Q} {h : ez_H}  (S : zSh h) (hE : zE E) (hz : 0 ≤ (ez_I h 2 1).toInt ∧ (ez_I h 2 1).toInt ≤ 6000) (K : ∀ x : Int32, Q (.inl (some (.int x))) h) : pw E d 6 0 [some (.ref 1), none, none] [] h Q := by
  have F := zW_refl (fun _ _ => False) (fun _ => False) (fun _ => False) h
  apply ez_Wp_in
  show ez_gw _ _ _ _ _ _ (cz_6) _ _ _ _ _
  refine gw_skip _ ?_
  refine z_C (m := -1) rfl rfl (fun x1 ex1 => ?_)
  refine gw_st rfl rfl rfl ?_
  show ez_gw _ _ _ _ _ _ _ _ [some (.ref 1), some (.int x1), none] _ _ _
  refine z_C (m := 0) rfl rfl (fun x2 ex2 => ?_)
  refine gw_st rfl rfl rfl ?_
  show ez_gw _ _ _ _ _ _ _ _ [some (.ref 1), some (.int x1), some (.int x2)] _ _ _
  exact ez_Wp_at ((x_crcW_L0  S hE hz K (((10000 - x2.toInt)).toNat + 1)) h x1 x2 F (by omega)  (by omega)) rfl
theorem x75_0 : ∀ k : Nat, ¬ (72 = 71 ∧ k = 0) := fun k c => by omega
set_option maxRecDepth 4000 in
set_option maxHeartbeats 2000000 in
theorem m_crcW_L0 {E : Nat → Nat × (Nat → Int32)} {d : Nat} {Q : ez_Q} {h : ez_H}  (S : zSh h) (hz : 0 ≤ (ez_I h 71 6).toInt ∧ (ez_I h 71 6).toInt ≤ 6000) (K : ∀ h2 (x : Int32), zW (fun q k => q = 71 ∧ k = 0) (fun _ => False) (fun _ => False) h h2 → Q (.inl (some (.int x))) h2) : ∀ N : Nat, (∀ (h2 : ez_H) (c : Int32) (i : Int32) (l3 : Option Value) , zW (fun q k => q = 71 ∧ k = 0) (fun _ => False) (fun _ => False) h h2 → (0 ≤ i.toInt ∧ i.toInt ≤ 6000) → (100 * (10000 - i.toInt)) < (N : Int) → pw E d 30 9 [some (.ref 71), some (.int c), some (.int i), l3] [] h2 Q) ∧ (∀ (h2 : ez_H) (c : Int32) (i : Int32) (j : Int32) , zW (fun q k => q = 71 ∧ k = 0) (fun _ => False) (fun _ => False) h h2 → (0 ≤ i.toInt ∧ i.toInt < 6000 ∧ 0 ≤ j.toInt ∧ j.toInt ≤ 8) → (100 * (10000 - i.toInt) - 1 - j.toInt) < (N : Int) → pw E d 30 32 [some (.ref 71), some (.int c), some (.int i), some (.int j)] [] h2 Q) := by
  intro N
  induction N with
  | zero => exact ⟨fun h2 c i l3  F hinv  hm => absurd hm (by have w_c := z_rng c; have w_i := z_rng i; omega), fun h2 c i j  F hinv  hm => absurd hm (by have w_c := z_rng c; have w_i := z_rng i; have w_j := z_rng j; omega)⟩
  | succ N ih =>
    refine ⟨fun h2 c i l3  F hinv  hm => ?_, fun h2 c i j  F hinv  hm => ?_⟩
    · skip
      have w_c := z_rng c
      have w_i := z_rng i
      have S2 := zW_sh F S
      apply ez_Wp_in
      show ez_gw _ _ _ _ _ _ (cz_30) _ _ _ _ _
      refine gw_skip _ ?_
      have r1 := z_rng (ez_I h2 71 0)
      refine gw_ld rfl rfl ?_
      refine gw_ld rfl rfl ?_
      have r2 := z_rng (ez_I h 71 6)
      refine z_gI2 (by decide) (zT S2 (by decide) rfl) (zW_f F (fun c => c) (by decide)) ?_
      refine z_b2 (fun c3 => ?_) (fun c3 => ?_)
      · have c3 : ((ez_I h 71 6)).toInt ≤ i.toInt := c3
        refine gw_skip _ ?_
        refine gw_ld rfl rfl ?_
        refine z_C (m := -1) rfl rfl (fun x4 ex4 => ?_)
        refine z_2 rfl (fun x5 ex5 => ?_)
        have rx5 := z_rng x5
        refine z_ri ?_
        exact K _ x5 F 
      · have c3 : ¬ (((ez_I h 71 6)).toInt ≤ i.toInt) := c3
        refine gw_ld rfl rfl ?_
        refine gw_ld rfl rfl ?_
        refine z_gR (q := 72) (zT S2 (by decide) rfl) (zRf S2 (by decide) (by decide) rfl) (by decide) ?_
        refine gw_ld rfl rfl ?_
        refine z_baV (n := 6000) (zT S2 (by decide) rfl) (zN S2 (by decide) rfl) (by omega) (zW_f F (fun c => c) (x75_0 _)) ?_
        generalize ex6 : ez_I h 72 i.toInt.toNat = x6
        have rx6 := z_rng x6
        refine z_C (m := 255) rfl rfl (fun x7 ex7 => ?_)
        refine z_and (fun x8 ex8 ux8 wx8 => ?_)
        have rx8 := z_rng x8
        replace ux8 := ux8 (by omega)
        clear wx8
        refine z_2 rfl (fun x9 ex9 => ?_)
        have rx9 := z_rng x9
        refine gw_st rfl rfl rfl ?_
        show ez_gw _ _ _ _ _ _ _ _ [some (.ref 71), some (.int x9), some (.int i), l3] _ _ _
        refine z_C (m := 0) rfl rfl (fun x10 ex10 => ?_)
        refine gw_st rfl rfl rfl ?_
        show ez_gw _ _ _ _ _ _ _ _ [some (.ref 71), some (.int x9), some (.int i), some (.int x10)] _ _ _
        exact ez_Wp_at (ih.2 h2 x9 i x10 F (by omega)  (by omega)) rfl
    · skip
      have w_c := z_rng c
      have w_i := z_rng i
      have w_j := z_rng j
      have S2 := zW_sh F S
      apply ez_Wp_in
      show ez_gw _ _ _ _ _ _ (cz_30) _ _ _ _ _
      refine gw_skip _ ?_
      have r11 := z_rng (ez_I h2 71 0)
      refine gw_ld rfl rfl ?_
      refine z_C (m := 8) rfl rfl (fun x12 ex12 => ?_)
      refine z_b2 (fun c13 => ?_) (fun c13 => ?_)
      · have c13 : x12.toInt ≤ j.toInt := c13
        refine gw_skip _ ?_
        refine z_inc rfl (by rw [show (1 : Int32).toInt = 1 from rfl]; omega) (fun x14 ex14 => ?_)
        rw [show (1 : Int32).toInt = 1 from rfl] at ex14
        show ez_gw _ _ _ _ _ _ _ _ [some (.ref 71), some (.int c), some (.int x14), some (.int j)] _ _ _
        refine z_go ?_
        exact ih.1 h2 c x14 (some (.int j)) F (by omega)  (by omega)
      · have c13 : ¬ (x12.toInt ≤ j.toInt) := c13
        refine gw_ld rfl rfl ?_
        refine z_C (m := 1) rfl rfl (fun x15 ex15 => ?_)
        refine z_and (fun x16 ex16 ux16 wx16 => ?_)
        have rx16 := z_rng x16
        replace ux16 := ux16 (by omega)
        clear wx16
        refine z_C (m := 1) rfl rfl (fun x17 ex17 => ?_)
        refine z_b2 (fun c18 => ?_) (fun c18 => ?_)
        · have c18 : x16.toInt ≠ x17.toInt := c18
          refine gw_skip _ ?_
          refine gw_ld rfl rfl ?_
          refine z_C (m := 1) rfl rfl (fun x19 ex19 => ?_)
          refine z_2 rfl (fun x20 ex20 => ?_)
          have rx20 := z_rng x20
          refine gw_st rfl rfl rfl ?_
          show ez_gw _ _ _ _ _ _ _ _ [some (.ref 71), some (.int x20), some (.int i), some (.int j)] _ _ _
          refine z_inc rfl (by rw [show (1 : Int32).toInt = 1 from rfl]; omega) (fun x21 ex21 => ?_)
          rw [show (1 : Int32).toInt = 1 from rfl] at ex21
          show ez_gw _ _ _ _ _ _ _ _ [some (.ref 71), some (.int x20), some (.int i), some (.int x21)] _ _ _
          refine z_go ?_
          exact ih.2 h2 x20 i x21 F (by omega)  (by omega)
        · have c18 : ¬ (x16.toInt ≠ x17.toInt) := c18
          refine gw_ld rfl rfl ?_
          refine z_C (m := 1) rfl rfl (fun x22 ex22 => ?_)
          refine z_2 rfl (fun x23 ex23 => ?_)
          have rx23 := z_rng x23
          refine z_C (m := -306674912) rfl rfl (fun x24 ex24 => ?_)
          refine z_2 rfl (fun x25 ex25 => ?_)
          have rx25 := z_rng x25
          refine z_go ?_
          refine gw_skip _ ?_
          refine gw_st rfl rfl rfl ?_
          show ez_gw _ _ _ _ _ _ _ _ [some (.ref 71), some (.int x25), some (.int i), some (.int j)] _ _ _
          refine z_inc rfl (by rw [show (1 : Int32).toInt = 1 from rfl]; omega) (fun x26 ex26 => ?_)
          rw [show (1 : Int32).toInt = 1 from rfl] at ex26
          show ez_gw _ _ _ _ _ _ _ _ [some (.ref 71), some (.int x25), some (.int i), some (.int x26)] _ _ _
          refine z_go ?_
          exact ih.2 h2 x25 i x26 F (by omega)  (by omega)
set_option maxRecDepth 4000 in
set_option maxHeartbeats 2000000 in
theorem m_crcW {E : Nat → Nat × (Nat → Int32)} {d : Nat} {Q : ez_Q} {h : ez_H}  (S : zSh h) (hz : 0 ≤ (ez_I h 71 6).toInt ∧ (ez_I h 71 6).toInt ≤ 6000) (K : ∀ h2 (x : Int32), zW (fun q k => q = 71 ∧ k = 0) (fun _ => False) (fun _ => False) h h2 → Q (.inl (some (.int x))) h2) : pw E d 30 0 [some (.ref 71), none, none, none] [] h Q := by
  have F := zW_refl (fun q k => q = 71 ∧ k = 0) (fun _ => False) (fun _ => False) h
  apply ez_Wp_in
  show ez_gw _ _ _ _ _ _ (cz_30) _ _ _ _ _
  refine gw_skip _ ?_
  have r1 := z_rng (ez_I h 71 0)
  refine gw_ld rfl rfl ?_
  refine z_C (m := 0) rfl rfl (fun x2 ex2 => ?_)
  refine z_pI (zT S (by decide) rfl) (fun h3 e4 => ?_)
  have S5 := zSh_set S e4
  have F6 := zW_setF F e4 (by decide)
  have f7 : ez_I h3 71 0 = x2 := zI_eq e4
  refine z_C (m := -1) rfl rfl (fun x8 ex8 => ?_)
  refine gw_st rfl rfl rfl ?_
  show ez_gw _ _ _ _ _ _ _ _ [some (.ref 71), some (.int x8), none, none] _ _ _
  refine z_C (m := 0) rfl rfl (fun x9 ex9 => ?_)
  refine gw_st rfl rfl rfl ?_
  show ez_gw _ _ _ _ _ _ _ _ [some (.ref 71), some (.int x8), some (.int x9), none] _ _ _
  have t10 := congrArg Int32.toInt (f7)
  exact ez_Wp_at ((m_crcW_L0  S hz K (((100 * (10000 - x9.toInt))).toNat + 1)).1 h3 x8 x9 (none) F6 (by omega)  (by omega)) rfl
set_option maxRecDepth 4000 in
set_option maxHeartbeats 2000000 in
theorem x_faultW {E : Nat → Nat × (Nat → Int32)} {d : Nat} {Q : ez_Q} {h : ez_H} {w : Int32} (S : zSh h)  (K : ∀ x : Int32, Q (.inl (some (.int x))) h) : pw E d 14 0 [some (.ref 1), some (.int w)] [] h Q := by
  have gw := z_rng w
  have F := zW_refl (fun _ _ => False) (fun _ => False) (fun _ => False) h
  apply ez_Wp_in
  show ez_gw _ _ _ _ _ _ (cz_14) _ _ _ _ _
  refine gw_skip _ ?_
  refine gw_ld rfl rfl ?_
  refine gw_jp rfl rfl rfl rfl rfl rfl rfl ?_
  refine ⟨fun c1 => ?_, fun c1 => ?_⟩
  · have c1 : w.toInt = 0 := congrArg Int32.toInt c1
    refine gw_skip _ ?_
    refine gw_ld rfl rfl ?_
    refine z_gR (q := 69) (zT S (by decide) rfl) (zRf S (by decide) (by decide) rfl) (by decide) ?_
    have r2 := z_rng (ez_I h 69 2)
    refine z_gI2 (by decide) (zT S (by decide) rfl) (zW_f F (fun c => c) (fun c => c)) ?_
    refine z_ri ?_
    exact zW_Q F (K _ )
  have c1 : ¬ w.toInt = 0 := fun q => c1 (z_inj q)
  refine ⟨fun c3 => ?_, fun c3 => ?_⟩
  · have c3 : w.toInt = 1 := congrArg Int32.toInt c3
    refine gw_skip _ ?_
    refine gw_ld rfl rfl ?_
    refine z_gR (q := 69) (zT S (by decide) rfl) (zRf S (by decide) (by decide) rfl) (by decide) ?_
    have r4 := z_rng (ez_I h 69 3)
    refine z_gI2 (by decide) (zT S (by decide) rfl) (zW_f F (fun c => c) (fun c => c)) ?_
    refine z_ri ?_
    exact zW_Q F (K _ )
  have c3 : ¬ w.toInt = 1 := fun q => c3 (z_inj q)
  refine gw_skip _ ?_
  refine z_C (m := -1) rfl rfl (fun x5 ex5 => ?_)
  refine z_ri ?_
  exact zW_Q F (K x5 )
set_option maxRecDepth 4000 in
set_option maxHeartbeats 2000000 in
theorem m_faultW {E : Nat → Nat × (Nat → Int32)} {d : Nat} {Q : ez_Q} {h : ez_H} {w : Int32} (S : zSh h)  (K : ∀ h2 (x : Int32), zW (fun q k => q = 71 ∧ k = 0) (fun _ => False) (fun _ => False) h h2 → Q (.inl (some (.int x))) h2) : pw E d 61 0 [some (.ref 71), some (.int w)] [] h Q := by
  have gw := z_rng w
  have F := zW_refl (fun q k => q = 71 ∧ k = 0) (fun _ => False) (fun _ => False) h
  apply ez_Wp_in
  show ez_gw _ _ _ _ _ _ (cz_61) _ _ _ _ _
  refine gw_skip _ ?_
  have r1 := z_rng (ez_I h 71 0)
  refine gw_ld rfl rfl ?_
  refine z_C (m := 0) rfl rfl (fun x2 ex2 => ?_)
  refine z_pI (zT S (by decide) rfl) (fun h3 e4 => ?_)
  have S5 := zSh_set S e4
  have F6 := zW_setF F e4 (by decide)
  have f7 : ez_I h3 71 0 = x2 := zI_eq e4
  refine gw_ld rfl rfl ?_
  refine z_b1 (fun c8 => ?_) (fun c8 => ?_)
  · have c8 : w.toInt ≠ 0 := c8
    refine gw_skip _ ?_
    refine gw_ld rfl rfl ?_
    refine z_C (m := 1) rfl rfl (fun x9 ex9 => ?_)
    refine z_b2 (fun c10 => ?_) (fun c10 => ?_)
    · have c10 : w.toInt ≠ x9.toInt := c10
      refine gw_skip _ ?_
      refine z_C (m := -1) rfl rfl (fun x11 ex11 => ?_)
      refine z_ri ?_
      have t12 := congrArg Int32.toInt (f7)
      exact K _ x11 F6 
    · have c10 : ¬ (w.toInt ≠ x9.toInt) := c10
      refine gw_ld rfl rfl ?_
      have r13 := z_rng (ez_I h 71 63)
      refine z_gI2 (by decide) (zT S5 (by decide) rfl) (zW_f F6 (fun c => c) (by decide)) ?_
      refine z_go ?_
      refine gw_skip _ ?_
      refine z_ri ?_
      have t14 := congrArg Int32.toInt (f7)
      exact K _ _ F6 
  · have c8 : ¬ (w.toInt ≠ 0) := c8
    refine gw_ld rfl rfl ?_
    have r15 := z_rng (ez_I h 71 62)
    refine z_gI2 (by decide) (zT S5 (by decide) rfl) (zW_f F6 (fun c => c) (by decide)) ?_
    refine z_go ?_
    refine gw_skip _ ?_
    refine z_ri ?_
    have t16 := congrArg Int32.toInt (f7)
    exact K _ _ F6 
set_option maxRecDepth 4000 in
set_option maxHeartbeats 2000000 in
theorem x_lengthW {E : Nat → Nat × (Nat → Int32)} {d : Nat} {Q : ez_Q} {h : ez_H} {y : Int32} (S : zSh h)  (K : ∀ x : Int32, Q (.inl (some (.int x))) h) : pw E d 18 0 [some (.ref 1), some (.int y)] [] h Q := by
  have gy := z_rng y
  have F := zW_refl (fun _ _ => False) (fun _ => False) (fun _ => False) h
  apply ez_Wp_in
  show ez_gw _ _ _ _ _ _ (cz_18) _ _ _ _ _
  refine gw_skip _ ?_
  refine gw_ld rfl rfl ?_
  refine z_b1 (fun c1 => ?_) (fun c1 => ?_)
  · have c1 : y.toInt < 0 := c1
    refine gw_skip _ ?_
    refine z_C (m := -1) rfl rfl (fun x2 ex2 => ?_)
    refine z_ri ?_
    exact zW_Q F (K x2 )
  · have c1 : ¬ (y.toInt < 0) := c1
    refine gw_ld rfl rfl ?_
    refine z_C (m := 64) rfl rfl (fun x3 ex3 => ?_)
    refine z_b2 (fun c4 => ?_) (fun c4 => ?_)
    · have c4 : x3.toInt ≤ y.toInt := c4
      refine gw_skip _ ?_
      refine z_C (m := -1) rfl rfl (fun x5 ex5 => ?_)
      refine z_ri ?_
      exact zW_Q F (K x5 )
    · have c4 : ¬ (x3.toInt ≤ y.toInt) := c4
      refine gw_ld rfl rfl ?_
      refine z_gR (q := 8) (zT S (by decide) rfl) (zRf S (by decide) (by decide) rfl) (by decide) ?_
      refine gw_ld rfl rfl ?_
      refine z_iaV (n := 64) (zT S (by decide) rfl) (zN S (by decide) rfl) (by omega) (zW_f F (fun c => c) (fun c => c)) ?_
      generalize ex6 : ez_I h 8 y.toInt.toNat = x6
      have rx6 := z_rng x6
      refine z_go ?_
      refine gw_skip _ ?_
      refine z_ri ?_
      exact zW_Q F (K x6 )
theorem x75_1 : ∀ k : Nat, ¬ (125 = 71 ∧ k = 0) := fun k c => by omega
set_option maxRecDepth 4000 in
set_option maxHeartbeats 2000000 in
theorem m_lengthW {E : Nat → Nat × (Nat → Int32)} {d : Nat} {Q : ez_Q} {h : ez_H} {y : Int32} (S : zSh h)  (K : ∀ h2 (x : Int32), zW (fun q k => q = 71 ∧ k = 0) (fun _ => False) (fun _ => False) h h2 → Q (.inl (some (.int x))) h2) : pw E d 65 0 [some (.ref 71), some (.int y)] [] h Q := by
  have gy := z_rng y
  have F := zW_refl (fun q k => q = 71 ∧ k = 0) (fun _ => False) (fun _ => False) h
  apply ez_Wp_in
  show ez_gw _ _ _ _ _ _ (cz_65) _ _ _ _ _
  refine gw_skip _ ?_
  have r1 := z_rng (ez_I h 71 0)
  refine gw_ld rfl rfl ?_
  refine z_C (m := 0) rfl rfl (fun x2 ex2 => ?_)
  refine z_pI (zT S (by decide) rfl) (fun h3 e4 => ?_)
  have S5 := zSh_set S e4
  have F6 := zW_setF F e4 (by decide)
  have f7 : ez_I h3 71 0 = x2 := zI_eq e4
  refine gw_ld rfl rfl ?_
  refine z_b1 (fun c8 => ?_) (fun c8 => ?_)
  · have c8 : y.toInt < 0 := c8
    refine gw_skip _ ?_
    refine z_C (m := -1) rfl rfl (fun x9 ex9 => ?_)
    refine z_ri ?_
    have t10 := congrArg Int32.toInt (f7)
    exact K _ x9 F6 
  · have c8 : ¬ (y.toInt < 0) := c8
    refine gw_ld rfl rfl ?_
    refine z_C (m := 64) rfl rfl (fun x11 ex11 => ?_)
    refine z_b2 (fun c12 => ?_) (fun c12 => ?_)
    · have c12 : x11.toInt ≤ y.toInt := c12
      refine gw_skip _ ?_
      refine z_C (m := -1) rfl rfl (fun x13 ex13 => ?_)
      refine z_ri ?_
      have t14 := congrArg Int32.toInt (f7)
      exact K _ x13 F6 
    · have c12 : ¬ (x11.toInt ≤ y.toInt) := c12
      refine gw_ld rfl rfl ?_
      refine z_gR (q := 125) (zT S5 (by decide) rfl) (zRf S5 (by decide) (by decide) rfl) (by decide) ?_
      refine gw_ld rfl rfl ?_
      refine z_iaV (n := 64) (zT S5 (by decide) rfl) (zN S5 (by decide) rfl) (by omega) (zW_f F6 (fun c => c) (x75_1 _)) ?_
      generalize ex15 : ez_I h 125 y.toInt.toNat = x15
      have rx15 := z_rng x15
      refine z_go ?_
      refine gw_skip _ ?_
      refine z_ri ?_
      have t16 := congrArg Int32.toInt (f7)
      exact K _ x15 F6 
end
section
/-! both objects tell the same -/
def zV (PF : Nat → Nat → Prop) (PA : Nat → Prop) (h h2 : ez_H) : Prop := zSh h2 ∧ ∀ p k, ¬ PA p → ¬ PF p k → ez_I h2 p k = ez_I h p k
theorem zV_of {PF : Nat → Nat → Prop} {PA PL : Nat → Prop} {h h2 : ez_H} (S : zSh h) (F : zW PF PA PL h h2) : zV PF PA h h2 := ⟨zW_sh F S, fun p k a b => zW_f F a b⟩
theorem zV_fn {PF : Nat → Nat → Prop} {PA : Nat → Prop} {h h2 : ez_H} (V : zV PF PA h h2) (p : Nat) (a : ¬ PA p) (b : ∀ k, ¬ PF p k) : ez_I h2 p = ez_I h p := funext fun k => V.2 p k a (b k)
theorem zV_f {PF : Nat → Nat → Prop} {PA : Nat → Prop} {h h2 : ez_H} (V : zV PF PA h h2) (p k : Nat) (a : ¬ PA p) (b : ¬ PF p k) : ez_I h2 p k = ez_I h p k := V.2 p k a b
def rTp (x : Int32) (f : Nat → Int32) (y : Int32) (g : Nat → Int32) : Prop := x.toInt = y.toInt ∧ 0 ≤ x.toInt ∧ x.toInt ≤ 6000 ∧ (∀ i : Nat, (i : Int) < x.toInt → (f i).toInt = (g i).toInt % 256) ∧ aR g 6000 (-128) 127
def rOp (x : Int32) (f : Nat → Int32) (y : Int32) (g : Nat → Int32) : Prop := x.toInt = y.toInt ∧ 0 ≤ x.toInt ∧ x.toInt ≤ 6100 ∧ ∀ i : Nat, (i : Int) < x.toInt → (f i).toInt = (g i).toInt % 256
def rYp (f g : Nat → Int32) : Prop := (∀ k, k < 20 → (f k).toInt = (g k).toInt % 256) ∧ aR g 20 (-128) 127
def rPp (x : Int32) (f : Nat → Int32) (y : Int32) (g7 g8 g9 g0 : Nat → Int32) : Prop := ∃ (T : Nat → Int) (n c : Nat), x.toInt = (c : Nat) ∧ y.toInt = (c : Nat) ∧ c ≤ 6000 ∧ (∀ i, i < n → 0 ≤ T i ∧ T i ≤ 255) ∧ ltP T n c ∧ pqG f (aM T n) (dI T n) c ∧ pmI g7 g8 g9 g0 T n c
def rBp (x : Int32) (f g : Nat → Int32) (y : Int32) (a3 a4 a5 a6 a7 a8 a9 a0 a1 : Nat → Int32) : Prop := ∃ (T : Nat → Int) (n c b m : Nat), x.toInt = (m : Nat) ∧ y.toInt = (m : Nat) ∧ m ≤ 10 ∧ (∀ i, i < m → bfC f g T n c b i) ∧ ∀ i, i < m → bfM a3 a4 a5 a6 a7 a8 a9 a0 a1 T n c b i
def rFp (x : Int32) (f16 f17 f18 f19 : Nat → Int32) (y : Int32) (f23 f24 f25 f26 : Nat → Int32) : Prop := (aR f16 288 0 15 ∧ wdI f17 (nL f16) 288 288 ∧ (∀ k, k < 288 → nL f16 k = fxL k) ∧ ctC f18 (nL f16) 288 ∧ x.toInt = (plN (nL f16) 288 16 : Nat) ∧ itI f19 (nL f16) 288 288) ∧ aR f23 288 0 15 ∧ wdI f24 (nL f23) 288 288 ∧ (∀ k, k < 288 → nL f23 k = fxD k) ∧ ctC f25 (nL f23) 288 ∧ y.toInt = (plN (nL f23) 288 16 : Nat) ∧ itI f26 (nL f23) 288 288
def rMp (g75 g92 g93 g94 g95 g96 : Nat → Int32) : Prop := aR g75 8000 (-128) 127 ∧ ctI g92 LBf 29 ∧ ctI g93 LEf 29 ∧ ctI g94 DBf 30 ∧ ctI g95 DEf 30 ∧ ctI g96 ORf 19
def rWp (f g : Nat → Int32) : Prop := aR f 64 0 1000000 ∧ aR g 64 0 1000000
def RR (h : ez_H) : Prop := zSh h ∧ rFp (ez_I h 15 4) (ez_I h 16) (ez_I h 17) (ez_I h 18) (ez_I h 19) (ez_I h 22 4) (ez_I h 23) (ez_I h 24) (ez_I h 25) (ez_I h 26) ∧ rMp (ez_I h 75) (ez_I h 92) (ez_I h 93) (ez_I h 94) (ez_I h 95) (ez_I h 96) ∧ rWp (ez_I h 7) (ez_I h 124) ∧ rTp (ez_I h 2 1) (ez_I h 3) (ez_I h 71 6) (ez_I h 72) ∧ rOp (ez_I h 4 1) (ez_I h 5) (ez_I h 71 7) (ez_I h 73) ∧ rYp (ez_I h 6) (ez_I h 74) ∧ rPp (ez_I h 53 1) (ez_I h 54) (ez_I h 71 14) (ez_I h 77) (ez_I h 78) (ez_I h 79) (ez_I h 80) ∧ rBp (ez_I h 55 2) (ez_I h 56) (ez_I h 57) (ez_I h 71 15) (ez_I h 83) (ez_I h 84) (ez_I h 85) (ez_I h 86) (ez_I h 87) (ez_I h 88) (ez_I h 89) (ez_I h 90) (ez_I h 91)
/-- what the class's calls ask for -/
theorem RR_z {h : ez_H} (R : RR h) : 0 ≤ (ez_I h 2 1).toInt ∧ (ez_I h 2 1).toInt ≤ 6000 := ⟨R.2.2.2.2.1.2.1, R.2.2.2.2.1.2.2.1⟩
theorem RR_o {h : ez_H} (R : RR h) : 0 ≤ (ez_I h 4 1).toInt ∧ (ez_I h 4 1).toInt ≤ 6100 := ⟨R.2.2.2.2.2.1.2.1, R.2.2.2.2.2.1.2.2.1⟩
theorem RR_b {h : ez_H} (R : RR h) : aR (ez_I h 3) (ez_I h 2 1).toInt.toNat 0 255 := fun i hi => by
  have h0 := R.2.2.2.2.1.2.1
  have h1 := R.2.2.2.2.1.2.2.2.1 i (by omega)
  omega
theorem RR_c {h : ez_H} (R : RR h) : 0 ≤ (ez_I h 53 1).toInt ∧ (ez_I h 53 1).toInt ≤ 6000 := by
  obtain ⟨T, n, c, a, _, b, _⟩ := R.2.2.2.2.2.2.2.1
  omega
theorem RR_k {h : ez_H} (R : RR h) : 0 ≤ (ez_I h 55 2).toInt ∧ (ez_I h 55 2).toInt ≤ 10 := by
  obtain ⟨T, n, c, b, m, a, _, d, _⟩ := R.2.2.2.2.2.2.2.2
  omega
/-- what the reference's calls ask for: kept by every call of the class -/
def MM (h : ez_H) : Prop := zSh h ∧ (0 ≤ (ez_I h 71 6).toInt ∧ (ez_I h 71 6).toInt ≤ 6000) ∧ aR (ez_I h 72) 6000 (-128) 127 ∧ (0 ≤ (ez_I h 71 7).toInt ∧ (ez_I h 71 7).toInt ≤ 6200) ∧ aR (ez_I h 74) 20 (-128) 127 ∧ rMp (ez_I h 75) (ez_I h 92) (ez_I h 93) (ez_I h 94) (ez_I h 95) (ez_I h 96) ∧ (0 ≤ (ez_I h 71 14).toInt ∧ (ez_I h 71 14).toInt ≤ 6000) ∧ (0 ≤ (ez_I h 71 15).toInt ∧ (ez_I h 71 15).toInt ≤ 10) ∧ aR (ez_I h 124) 64 0 1000000
theorem MM_R {h : ez_H} (R : RR h) : MM h := by
  obtain ⟨S, _, m, w, t, o, y, p, b⟩ := R
  obtain ⟨T, n, c, _, p2, p3, _⟩ := p
  obtain ⟨T2, n2, c2, d2, m2, _, b2, b3, _⟩ := b
  exact ⟨S, ⟨by have := t.1; have := t.2.1; omega, by have := t.1; have := t.2.2.1; omega⟩, t.2.2.2.2, ⟨by have := o.1; have := o.2.1; omega, by have := o.1; have := o.2.2.1; omega⟩, y.2, m, by omega, by omega, w.2⟩
theorem MM_C {PF : Nat → Nat → Prop} {PA : Nat → Prop} {h h2 : ez_H} (M : MM h) (V : zV PF PA h h2) (a : ∀ q, PA q → q ≤ 70) (b : ∀ q k, PF q k → q ≤ 70) : MM h2 := by
  have e : ∀ q, 71 ≤ q → ez_I h2 q = ez_I h q := fun q hq => zV_fn V q (fun c => by have := a q c; omega) (fun k c => by have := b q k c; omega)
  unfold MM
  rw [e 71 (by decide), e 72 (by decide), e 74 (by decide), e 75 (by decide), e 92 (by decide), e 93 (by decide), e 94 (by decide), e 95 (by decide), e 96 (by decide), e 124 (by decide)]
  exact ⟨V.1, M.2⟩
/-- calls told by both tapes -/
theorem rY_f {f g : Nat → Int32} {a0 a1 a2 a3 a4 : Int32} (c0 : rdC f 0 a0 4) (c1 : rdC f 4 a1 4) (c2 : rdC f 8 a2 4) (c3 : rdC f 12 a3 4) (c4 : rdC f 16 a4 4) (m0 : rdM g 0 a0 4) (m1 : rdM g 4 a1 4) (m2 : rdM g 8 a2 4) (m3 : rdM g 12 a3 4) (m4 : rdM g 16 a4 4) (hg : aR g 20 (-128) 127) : rYp f g := by
  refine ⟨fun k hk => ?_, hg⟩
  have e : ∀ b a, rdC f b a 4 → rdM g b a 4 → b ≤ k → k < b + 4 → (f k).toInt = (g k).toInt % 256 := fun b a x y h1 h2 => by
    have hx := x (k - b) (by omega)
    have hy := y (k - b) (by omega)
    rw [show b + (k - b) = k by omega] at hx hy
    rw [hx, hy]
  rcases (by omega : k < 4 ∨ (4 ≤ k ∧ k < 8) ∨ (8 ≤ k ∧ k < 12) ∨ (12 ≤ k ∧ k < 16) ∨ 16 ≤ k) with q | q | q | q | q
  · exact e 0 a0 c0 m0 (by omega) (by omega)
  · exact e 4 a1 c1 m1 (by omega) (by omega)
  · exact e 8 a2 c2 m2 (by omega) (by omega)
  · exact e 12 a3 c3 m3 (by omega) (by omega)
  · exact e 16 a4 c4 m4 (by omega) (by omega)
theorem rT_cut {x x1 y y1 n a b : Int32} {f g : Nat → Int32} (R : rTp x f y g) (k1 : (0 ≤ n.toInt ∧ n.toInt ≤ x.toInt) ∧ a.toInt = 1 ∧ x1 = n ∨ ¬ (0 ≤ n.toInt ∧ n.toInt ≤ x.toInt) ∧ a.toInt = 0 ∧ x1 = x) (k2 : (0 ≤ n.toInt ∧ n.toInt ≤ y.toInt) ∧ b.toInt = 1 ∧ y1 = n ∨ ¬ (0 ≤ n.toInt ∧ n.toInt ≤ y.toInt) ∧ b.toInt = 0 ∧ y1 = y) : rTp x1 f y1 g ∧ a.toInt = b.toInt := by
  obtain ⟨r1, r2, r3, r4, r5⟩ := R
  rcases k1 with ⟨p1, p2, p3⟩ | ⟨p1, p2, p3⟩
  · rcases k2 with ⟨q1, q2, q3⟩ | ⟨q1, q2, q3⟩
    · rw [p3, q3]; exact ⟨⟨rfl, p1.1, by omega, fun i hi => r4 i (by omega), r5⟩, by omega⟩
    · exfalso; omega
  · rcases k2 with ⟨q1, q2, q3⟩ | ⟨q1, q2, q3⟩
    · exfalso; omega
    · rw [p3, q3]; exact ⟨⟨r1, r2, r3, r4, r5⟩, by omega⟩
theorem rT_flip {x y i b a d : Int32} {f f1 g g1 : Nat → Int32} (R : rTp x f y g) (k1 : (0 ≤ i.toInt ∧ i.toInt < x.toInt ∧ 0 ≤ b.toInt ∧ b.toInt ≤ 7) ∧ a.toInt = 1 ∧ f1 i.toInt.toNat = flF b (f i.toInt.toNat) ∧ (∀ k, k ≠ i.toInt.toNat → f1 k = f k) ∨ ¬ (0 ≤ i.toInt ∧ i.toInt < x.toInt ∧ 0 ≤ b.toInt ∧ b.toInt ≤ 7) ∧ a.toInt = 0 ∧ f1 = f) (k2 : (0 ≤ i.toInt ∧ i.toInt < y.toInt ∧ 0 ≤ b.toInt ∧ b.toInt ≤ 7) ∧ d.toInt = 1 ∧ g1 i.toInt.toNat = (flF b (g i.toInt.toNat)).toInt8.toInt32 ∧ (∀ k, k ≠ i.toInt.toNat → g1 k = g k) ∨ ¬ (0 ≤ i.toInt ∧ i.toInt < y.toInt ∧ 0 ≤ b.toInt ∧ b.toInt ≤ 7) ∧ d.toInt = 0 ∧ g1 = g) : rTp x f1 y g1 ∧ a.toInt = d.toInt := by
  obtain ⟨r1, r2, r3, r4, r5⟩ := R
  rcases k1 with ⟨p1, p2, p3, p4⟩ | ⟨p1, p2, p3⟩
  · rcases k2 with ⟨q1, q2, q3, q4⟩ | ⟨q1, q2, q3⟩
    · refine ⟨⟨r1, r2, r3, fun k hk => ?_, fun k hk => ?_⟩, by omega⟩
      · by_cases e : k = i.toInt.toNat
        · rw [e, p3, q3]
          exact (flF_rel (r4 i.toInt.toNat (by omega)) ⟨p1.2.2.1, p1.2.2.2⟩).1
        · rw [p4 k e, q4 k e]; exact r4 k hk
      · by_cases e : k = i.toInt.toNat
        · rw [e, q3]; exact n_i2b_rng _
        · rw [q4 k e]; exact r5 k hk
    · exfalso; omega
  · rcases k2 with ⟨q1, q2, q3, q4⟩ | ⟨q1, q2, q3⟩
    · exfalso; omega
    · rw [p3, q3]; exact ⟨⟨r1, r2, r3, r4, r5⟩, by omega⟩
theorem rT_end {x x1 y y1 n t a b : Int32} {f f1 g g1 v w v1 w1 : Nat → Int32} (R : rTp x f y g) (Y : rYp v w) (k1 : ((0 ≤ n.toInt ∧ n.toInt ≤ 20 ∧ 1 ≤ t.toInt ∧ t.toInt ≤ 100 ∧ x.toInt + n.toInt * t.toInt ≤ 6000) ∧ a.toInt = x.toInt + n.toInt * t.toInt ∧ x1.toInt = x.toInt + n.toInt * t.toInt ∧ (∀ i : Nat, (i : Int) < x.toInt + n.toInt * t.toInt → f1 i = enT f v x.toInt.toNat n.toInt.toNat i) ∧ (∀ k, k < 20 → (v1 k).toInt = 0)) ∨ (¬ (0 ≤ n.toInt ∧ n.toInt ≤ 20 ∧ 1 ≤ t.toInt ∧ t.toInt ≤ 100 ∧ x.toInt + n.toInt * t.toInt ≤ 6000) ∧ a.toInt = -1 ∧ x1 = x ∧ f1 = f ∧ v1 = v)) (k2 : ((0 ≤ n.toInt ∧ n.toInt ≤ 20 ∧ 1 ≤ t.toInt ∧ t.toInt ≤ 100 ∧ y.toInt + n.toInt * t.toInt ≤ 6000) ∧ b.toInt = y.toInt + n.toInt * t.toInt ∧ y1.toInt = y.toInt + n.toInt * t.toInt ∧ (∀ i : Nat, (i : Int) < y.toInt + n.toInt * t.toInt → g1 i = enM g w y.toInt.toNat n.toInt.toNat i) ∧ aR g1 6000 (-128) 127 ∧ (∀ k, k < 20 → (w1 k).toInt = 0)) ∨ (¬ (0 ≤ n.toInt ∧ n.toInt ≤ 20 ∧ 1 ≤ t.toInt ∧ t.toInt ≤ 100 ∧ y.toInt + n.toInt * t.toInt ≤ 6000) ∧ b.toInt = -1 ∧ y1 = y ∧ g1 = g ∧ w1 = w)) : (rTp x1 f1 y1 g1 ∧ rYp v1 w1) ∧ a.toInt = b.toInt := by
  obtain ⟨r1, r2, r3, r4, r5⟩ := R
  rw [← r1] at k2
  rcases k1 with ⟨p1, p2, p3, p4, p5⟩ | ⟨p1, p2, p3, p4, p5⟩
  · rcases k2 with ⟨q1, q2, q3, q4, q5, q6⟩ | ⟨q1, q2, q3⟩
    · have h0 : 0 ≤ n.toInt * t.toInt := Int.mul_nonneg p1.1 (by omega)
      refine ⟨⟨⟨p3.trans q3.symm, by omega, by omega, fun i hi => ?_, q5⟩, fun k hk => ?_, fun k hk => ?_⟩, p2.trans q2.symm⟩
      · rw [p4 i (by omega), q4 i (by omega)]
        unfold enT enM
        by_cases c : i < x.toInt.toNat
        · rw [if_pos c, if_pos c]; exact r4 i (by omega)
        · rw [if_neg c, if_neg c, n_i2b]
          have hn : 0 < n.toInt.toNat := by
            by_cases z : n.toInt = 0
            · rw [z, Int.zero_mul] at p3; omega
            · omega
          have := Nat.mod_lt (i - x.toInt.toNat) hn
          exact Y.1 _ (by omega)
      · rw [p5 k hk, q6 k hk]; rfl
      · rw [q6 k hk]; omega
    · exact absurd p1 q1
  · rcases k2 with ⟨q1, q2, q3⟩ | ⟨q1, q2, q3, q4, q5⟩
    · exact absurd q1 p1
    · rw [p3, p4, p5, q3, q4, q5]; exact ⟨⟨⟨r1, r2, r3, r4, r5⟩, Y⟩, p2.trans q2.symm⟩
theorem rT_take {x y x1 y1 a b : Int32} {f1 g1 v w : Nat → Int32} (O : rOp x v y w) (h6 : x.toInt ≤ 6000) (p1 : a = x1) (p2 : x1.toInt = x.toInt) (p3 : ∀ k : Nat, (k : Int) < x.toInt → f1 k = v k) (q1 : b = y1) (q2 : y1.toInt = y.toInt) (q3 : ∀ j : Nat, (j : Int) < y.toInt → g1 j = (w j).toInt8.toInt32) (q4 : aR g1 6000 (-128) 127) : rTp x1 f1 y1 g1 ∧ a.toInt = b.toInt := by
  obtain ⟨o1, o2, o3, o4⟩ := O
  refine ⟨⟨by omega, by omega, by omega, fun i hi => ?_, q4⟩, by rw [p1, q1]; omega⟩
  rw [p3 i (by omega), q3 i (by omega), n_i2b]
  exact o4 i (by omega)
theorem un_eq {x y : Int32} {f g : Nat → Int32} (R : rTp x f y g) : unL (tI f) x.toInt.toNat (8 * x.toInt.toNat) 0 (fun _ => 0) 0 = unL (tB g) y.toInt.toNat (8 * y.toInt.toNat) 0 (fun _ => 0) 0 := by
  obtain ⟨r1, r2, r3, r4, r5⟩ := R
  rw [← r1]
  exact unL_c (fun i hi => r4 i (by omega)) _ _ _ _
theorem rO_un {x x1 y y1 z : Int32} {v v1 w w1 : Nat → Int32} {U : Option ((Nat → Int) × Nat)} {d : Int} (O : rOp x v y w) (k1 : (U = none ∧ x1 = x ∧ v1 = v) ∨ ∃ (o2 : Nat → Int) (m2 : Nat), U = some (o2, m2) ∧ x1.toInt = (m2 : Nat) ∧ m2 ≤ 6000 ∧ oR v1 o2 m2) (k2 : (∃ (o2 : Nat → Int) (m2 : Nat), U = some (o2, m2) ∧ d = 0 ∧ z.toInt = (m2 : Nat) ∧ y1.toInt = (m2 : Nat) ∧ m2 ≤ 6000 ∧ oM w1 o2 m2) ∨ (U = none ∧ d = 1 ∧ y1.toInt = y.toInt ∧ w1 = w)) : rOp x1 v1 y1 w1 := by
  obtain ⟨o1, o2, o3, o4⟩ := O
  rcases k1 with ⟨p0, p1, p2⟩ | ⟨a, m, p0, p1, p2, p3⟩
  · rcases k2 with ⟨b, m2, q0, q1⟩ | ⟨q0, q1, q2, q3⟩
    · rw [p0] at q0; cases q0
    · rw [p1, p2, q3]; exact ⟨o1.trans q2.symm, o2, o3, o4⟩
  · rcases k2 with ⟨b, m2, q0, q1, q2, q3, q4, q5⟩ | ⟨q0, q1⟩
    · rw [p0] at q0
      have e := Option.some.inj q0
      have e1 : a = b := congrArg Prod.fst e
      have e2 : m = m2 := congrArg Prod.snd e
      subst e1; subst e2
      exact ⟨p1.trans q3.symm, by omega, by omega, fun i hi => by rw [p3 i (by omega), q5 i (by omega)]⟩
    · rw [p0] at q0; cases q0

end
