/-! PRINTED by wip/pack: the model reads a head: its end -/
theorem x73_16 : ∀ q k : Nat, (q = 71 ∧ k = 61) → (q = 71 ∧ k = 61) := fun q k hk => hk
theorem x73_17 : ∀ q : Nat, (False) → (q = 120 ∨ q = 121) := fun q hk => hk.elim
theorem x73_18 : ∀ q : Nat, (False) → (False) := fun q hk => hk.elim
theorem x73_19 : ∀ k : Nat, ¬ (120 = 71 ∧ k = 61) := fun k c => by omega
theorem x73_20 : ∀ k : Nat, ¬ (121 = 71 ∧ k = 61) := fun k c => by omega
theorem x73_21 : ∀ q k : Nat, (q = 71 ∧ k = 61) → (q = 71 ∧ k = 59 ∨ q = 71 ∧ k = 61) := fun q k hk => (.inr hk)
theorem x73_22 : ∀ q : Nat, (q = 120 ∨ q = 121) → (q = 115 ∨ q = 120 ∨ q = 121 ∨ q = 122 ∨ q = 123) := fun q hk => hk.elim (fun g => (.inr (.inl g))) (fun hk => (.inr (.inr (.inl hk))))
theorem x73_23 : ¬ (71 = 120 ∨ 71 = 121) := by omega
theorem x73_24 : ¬ (71 = 71 ∧ 59 = 61) := by omega
theorem x73_25 : ∀ k : Nat, ¬ (123 = 71 ∧ k = 61) := fun k c => by omega
set_option maxRecDepth 4000 in
set_option maxHeartbeats 2000000 in
theorem h_T307_L1 {E : Nat → Nat × (Nat → Int32)} {d : Nat} {Q : ez_Q} {h : ez_H} {nl : Int32} {nd : Int32} {l3 : Option Value} {k4 : Int32} {l5 : Option Value} {l6 : Option Value} {l7 : Option Value} {l8 : Option Value} {l9 : Option Value} (S : zSh h) {n p2 N1 N2 : Nat} {r : Nat → Nat} {R : Option (Nat × (Nat → Nat) × (Nat → Nat))} (hp : (ez_I h 71 59).toInt = (p2 : Nat)) (hp8 : p2 ≤ 8 * n) (hf : (ez_I h 71 61).toInt = 0) (hl : nl.toInt = (N1 : Nat) ∧ nd.toInt = (N2 : Nat) ∧ 257 ≤ N1 ∧ N1 ≤ 286 ∧ N2 ≤ 30) (hrw : rwJ (ez_I h 123) r (N1 + N2)) (hR : R = if okH N1 N2 r then some (p2, litF N1 r, disF N1 N2 r) else none) (K : ∀ h2, zW (fun q k => q = 71 ∧ k = 59 ∨ q = 71 ∧ k = 61) (fun q => q = 115 ∨ q = 120 ∨ q = 121 ∨ q = 122 ∨ q = 123) (fun _ => False) h h2 → hdP (ez_I h2 120) (ez_I h2 121) (ez_I h2 71 59).toInt (ez_I h2 71 61).toInt R → (0 ≤ (ez_I h2 71 59).toInt ∧ (ez_I h2 71 59).toInt ≤ 8 * (n : Int)) → Q (.inl none) h2) : ∀ N : Nat, (∀ (h2 : ez_H) (sm : Int32) (i : Int32) , zW (fun q k => q = 71 ∧ k = 61) (fun q => q = 120 ∨ q = 121) (fun _ => False) h h2 → (0 ≤ i.toInt ∧ i.toInt ≤ 32 ∧ sm.toInt = (smN (disF N1 N2 r) i.toInt.toNat : Nat) ∧ sm.toInt ≤ 15 * i.toInt ∧ (ez_I h2 71 61).toInt = 0) → (cpN (ez_I h2 120) (litF N1 r) 288) → (cpN (ez_I h2 121) (disF N1 N2 r) i.toInt.toNat) → (1000 - i.toInt) < (N : Int) → pw E (d + 2) 58 354 [some (.ref 71), some (.int nl), some (.int nd), l3, some (.int k4), some (.int sm), some (.int i), l7, l8, l9] [] h2 Q) := by
  intro N
  induction N with
  | zero => exact fun h2 sm i  F hinv A_li A_di hm => absurd hm (by have w_sm := z_rng sm; have w_i := z_rng i; have gnl := z_rng nl; have gnd := z_rng nd; have gk4 := z_rng k4; omega)
  | succ N ih =>
    refine fun h2 sm i  F hinv A_li A_di hm => ?_
    · skip
      have w_sm := z_rng sm
      have w_i := z_rng i
      have gnl := z_rng nl
      have gnd := z_rng nd
      have gk4 := z_rng k4
      have S2 := zW_sh F S
      obtain ⟨hi0, hi32, hsm, hsb, hf2⟩ := hinv
      apply ez_Wp_in
      show ez_gw _ _ _ _ _ _ (cz_58) _ _ _ _ _
      refine gw_skip _ ?_
      have r1 := z_rng (ez_I h2 71 61)
      refine gw_ld rfl rfl ?_
      refine z_C (m := 32) rfl rfl (fun x2 ex2 => ?_)
      refine z_b2 (fun c3 => ?_) (fun c3 => ?_)
      · have c3 : x2.toInt ≤ i.toInt := c3
        refine gw_skip _ ?_
        have hdi : cpN (ez_I h2 121) (disF N1 N2 r) 32 := by have b1 := A_di; rw [show i.toInt.toNat = 32 by omega] at b1; exact b1
        have hok := dis_ok (N1 := N1) (N2 := N2) (rw_15 hrw) (by omega)
        rw [show i.toInt.toNat = 32 by omega] at hsm
        refine gw_ld rfl rfl ?_
        refine z_gR (q := 120) (zT S2 (by decide) rfl) (zRf S2 (by decide) (by decide) rfl) (by decide) ?_
        refine z_C (m := 288) rfl rfl (fun x4 ex4 => ?_)
        refine z_cl rfl rfl rfl rfl rfl rfl rfl rfl rfl rfl rfl (trivial) ?_
        refine d_whole (u := 120) (n := x4) S2 (nu := 288) (fun _ S => ⟨zT S (by decide) rfl, zN S (by decide) rfl⟩) (by omega) (by rw [show x4.toInt.toNat = 288 by omega]; exact cpN_aR A_li (fun k _ => lit_15 (nl := N1) (rw_15 hrw) (by omega) k)) (fun x5 k6 => ?_)
        have rx5 := z_rng x5
        rw [show x4.toInt.toNat = 288 by omega] at k6
        rw [ws_eq 288 (cpN_nL A_li)] at k6
        refine z_b1 (fun c7 => ?_) (fun c7 => ?_)
        · have c7 : x5.toInt = 0 := c7
          refine gw_skip _ ?_
          refine gw_ld rfl rfl ?_
          refine z_C (m := 5) rfl rfl (fun x8 ex8 => ?_)
          refine z_cl rfl rfl rfl rfl rfl rfl rfl rfl rfl rfl rfl (zT S2 (by decide) rfl) ?_
          refine d_wrong (n := x8) S2 (fun h9 F10 k11 k12 => ?_)
          have kw13 := k11 (by omega)
          clear k11 k12
          have S14 := zW_sh F10 S2
          have F15 := zW_tr F (zW_mono F10 (x73_16) (x73_17) (x73_18))
          have r16 := z_rng (ez_I h9 71 61)
          have A17 : cpN (ez_I h9 120) (litF N1 r) 288 := by rw [zW_fn F10 120 (fun c => c) (x73_19)]; exact A_li
          have A18 : cpN (ez_I h9 121) (disF N1 N2 r) 32 := by rw [zW_fn F10 121 (fun c => c) (x73_20)]; exact hdi
          refine z_rv ?_
          exact K _ (zW_mono F15 x73_21 x73_22 x73_18) (hd_no hR (fun ok => by obtain ⟨o1, o2, _⟩ := ok; omega) (by omega)) (by rw [(show ez_I h9 71 59 = ez_I h 71 59 from zW_f F15 x73_23 x73_24)]; omega)
        · have c7 : ¬ (x5.toInt = 0) := c7
          refine gw_ld rfl rfl ?_
          refine z_gR (q := 120) (zT S2 (by decide) rfl) (zRf S2 (by decide) (by decide) rfl) (by decide) ?_
          refine z_C (m := 256) rfl rfl (fun x19 ex19 => ?_)
          refine z_ia (n := 288) (zT S2 (by decide) rfl) (zN S2 (by decide) rfl) (by omega) ?_
          generalize ex20 : ez_I h2 120 x19.toInt.toNat = x20
          have rx20 := z_rng x20
          have y256 := A_li 256 (by decide)
          rw [show (256 : Nat) = x19.toInt.toNat by omega, ex20] at y256
          rw [show x19.toInt.toNat = 256 by omega] at y256
          refine z_b1 (fun c21 => ?_) (fun c21 => ?_)
          · have c21 : x20.toInt = 0 := c21
            refine gw_skip _ ?_
            refine gw_ld rfl rfl ?_
            refine z_C (m := 5) rfl rfl (fun x22 ex22 => ?_)
            refine z_cl rfl rfl rfl rfl rfl rfl rfl rfl rfl rfl rfl (zT S2 (by decide) rfl) ?_
            refine d_wrong (n := x22) S2 (fun h23 F24 k25 k26 => ?_)
            have kw27 := k25 (by omega)
            clear k25 k26
            have S28 := zW_sh F24 S2
            have F29 := zW_tr F (zW_mono F24 (x73_16) (x73_17) (x73_18))
            have r30 := z_rng (ez_I h23 71 61)
            have A31 : cpN (ez_I h23 120) (litF N1 r) 288 := by rw [zW_fn F24 120 (fun c => c) (x73_19)]; exact A_li
            have A32 : cpN (ez_I h23 121) (disF N1 N2 r) 32 := by rw [zW_fn F24 121 (fun c => c) (x73_20)]; exact hdi
            refine z_rv ?_
            exact K _ (zW_mono F29 x73_21 x73_22 x73_18) (hd_no hR (fun ok => by obtain ⟨o1, o2, _⟩ := ok; omega) (by omega)) (by rw [(show ez_I h23 71 59 = ez_I h 71 59 from zW_f F29 x73_23 x73_24)]; omega)
          · have c21 : ¬ (x20.toInt = 0) := c21
            refine gw_ld rfl rfl ?_
            refine z_C (m := 1) rfl rfl (fun x33 ex33 => ?_)
            refine z_b2 (fun c34 => ?_) (fun c34 => ?_)
            · have c34 : sm.toInt ≤ x33.toInt := c34
              refine gw_skip _ ?_
              refine z_rv ?_
              exact K _ (zW_mono F x73_21 x73_22 x73_18) (hd_y A_li hdi hrw (by omega) hR ⟨by omega, by omega, (.inr (hok.2 (by omega)))⟩ (by rw [(show ez_I h2 71 59 = ez_I h 71 59 from zW_f F x73_23 x73_24)]; exact hp) (by omega)) (by rw [(show ez_I h2 71 59 = ez_I h 71 59 from zW_f F x73_23 x73_24)]; omega)
            · have c34 : ¬ (sm.toInt ≤ x33.toInt) := c34
              refine gw_ld rfl rfl ?_
              refine z_gR (q := 121) (zT S2 (by decide) rfl) (zRf S2 (by decide) (by decide) rfl) (by decide) ?_
              refine z_C (m := 32) rfl rfl (fun x35 ex35 => ?_)
              refine z_cl rfl rfl rfl rfl rfl rfl rfl rfl rfl rfl rfl (trivial) ?_
              refine d_whole (u := 121) (n := x35) S2 (nu := 32) (fun _ S => ⟨zT S (by decide) rfl, zN S (by decide) rfl⟩) (by omega) (by rw [show x35.toInt.toNat = 32 by omega]; exact cpN_aR hdi (fun k _ => dis_15 (nl := N1) (nd := N2) (rw_15 hrw) (Nat.le_refl _) k)) (fun x36 k37 => ?_)
              have rx36 := z_rng x36
              rw [show x35.toInt.toNat = 32 by omega] at k37
              rw [← ws_ext (L := (disF N1 N2 r)) 288 (by decide) (fun k hk => (cpN_nL hdi k hk).symm) (fun k a b => dis_0 (by omega))] at k37
              refine z_b1 (fun c38 => ?_) (fun c38 => ?_)
              · have c38 : x36.toInt ≠ 0 := c38
                refine gw_skip _ ?_
                refine z_rv ?_
                exact K _ (zW_mono F x73_21 x73_22 x73_18) (hd_y A_li hdi hrw (by omega) hR ⟨by omega, by omega, (.inl (by omega))⟩ (by rw [(show ez_I h2 71 59 = ez_I h 71 59 from zW_f F x73_23 x73_24)]; exact hp) (by omega)) (by rw [(show ez_I h2 71 59 = ez_I h 71 59 from zW_f F x73_23 x73_24)]; omega)
              · have c38 : ¬ (x36.toInt ≠ 0) := c38
                refine gw_ld rfl rfl ?_
                refine z_C (m := 5) rfl rfl (fun x39 ex39 => ?_)
                refine z_cl rfl rfl rfl rfl rfl rfl rfl rfl rfl rfl rfl (zT S2 (by decide) rfl) ?_
                refine d_wrong (n := x39) S2 (fun h40 F41 k42 k43 => ?_)
                have kw44 := k42 (by omega)
                clear k42 k43
                have S45 := zW_sh F41 S2
                have F46 := zW_tr F (zW_mono F41 (x73_16) (x73_17) (x73_18))
                have r47 := z_rng (ez_I h40 71 61)
                have A48 : cpN (ez_I h40 120) (litF N1 r) 288 := by rw [zW_fn F41 120 (fun c => c) (x73_19)]; exact A_li
                have A49 : cpN (ez_I h40 121) (disF N1 N2 r) 32 := by rw [zW_fn F41 121 (fun c => c) (x73_20)]; exact hdi
                refine z_rv ?_
                exact K _ (zW_mono F46 x73_21 x73_22 x73_18) (hd_no hR (fun ok => by obtain ⟨o1, o2, o3⟩ := ok; rw [hok] at o3; omega) (by omega)) (by rw [(show ez_I h40 71 59 = ez_I h 71 59 from zW_f F46 x73_23 x73_24)]; omega)
      · have c3 : ¬ (x2.toInt ≤ i.toInt) := c3
        refine gw_ld rfl rfl ?_
        refine z_gR (q := 121) (zT S2 (by decide) rfl) (zRf S2 (by decide) (by decide) rfl) (by decide) ?_
        refine gw_ld rfl rfl ?_
        refine gw_ld rfl rfl ?_
        refine gw_ld rfl rfl ?_
        refine z_b2 (fun c50 => ?_) (fun c50 => ?_)
        · have c50 : nd.toInt ≤ i.toInt := c50
          refine gw_skip _ ?_
          refine z_C (m := 0) rfl rfl (fun x51 ex51 => ?_)
          refine z_is (n := 32) (zT S2 (by decide) rfl) (zN S2 (by decide) rfl) (by omega) (fun h52 e53 => ?_)
          have S54 := zSh_set S2 e53
          have F55 := zW_setA F e53 (by decide)
          have f56 : ez_I h52 71 61 = (ez_I h2 71 61) := (zI_ne e53 (by omega)).trans (rfl)
          have A57 : cpN (ez_I h52 120) (litF N1 r) 288 := by rw [zI_fn e53 120 (by decide)]; exact A_li
          have A58 : cpN (ez_I h52 121) (disF N1 N2 r) (i.toInt.toNat + 1) := cpN_s A_di e53 (by omega) (by show x51.toInt = ((if i.toInt.toNat < N2 then r (N1 + i.toInt.toNat) else 0 : Nat) : Int); rw [if_neg (by omega)]; omega) rfl
          refine gw_ld rfl rfl ?_
          refine gw_ld rfl rfl ?_
          refine z_gR (q := 121) (zT S54 (by decide) rfl) (zRf S54 (by decide) (by decide) rfl) (by decide) ?_
          refine gw_ld rfl rfl ?_
          refine z_ia (n := 32) (zT S54 (by decide) rfl) (zN S54 (by decide) rfl) (by omega) ?_
          generalize ex59 : ez_I h52 121 i.toInt.toNat = x59
          have rx59 := z_rng x59
          have yd := A58 i.toInt.toNat (by omega)
          rw [ex59] at yd
          have ysm : smN (disF N1 N2 r) (i.toInt.toNat + 1) = smN (disF N1 N2 r) i.toInt.toNat + (disF N1 N2 r) i.toInt.toNat := rfl
          have y15 : (disF N1 N2 r) i.toInt.toNat ≤ 15 := dis_15 (rw_15 hrw) (Nat.le_refl _) i.toInt.toNat
          refine z_add (by omega) (fun x60 ex60 => ?_)
          refine gw_st rfl rfl rfl ?_
          show ez_gw _ _ _ _ _ _ _ _ [some (.ref 71), some (.int nl), some (.int nd), l3, some (.int k4), some (.int x60), some (.int i), l7, l8, l9] _ _ _
          refine z_inc rfl (by rw [show (1 : Int32).toInt = 1 from rfl]; omega) (fun x61 ex61 => ?_)
          rw [show (1 : Int32).toInt = 1 from rfl] at ex61
          show ez_gw _ _ _ _ _ _ _ _ [some (.ref 71), some (.int nl), some (.int nd), l3, some (.int k4), some (.int x60), some (.int x61), l7, l8, l9] _ _ _
          refine z_go ?_
          have t62 := congrArg Int32.toInt (f56)
          exact ih h52 x60 x61 F55 (⟨by omega, by omega, by rw [show x61.toInt.toNat = i.toInt.toNat + 1 by omega]; omega, by omega, by omega⟩) (A57) ((by rw [show x61.toInt.toNat = i.toInt.toNat + 1 by omega]; exact A58)) (by omega)
        · have c50 : ¬ (nd.toInt ≤ i.toInt) := c50
          refine gw_ld rfl rfl ?_
          refine z_gR (q := 123) (zT S2 (by decide) rfl) (zRf S2 (by decide) (by decide) rfl) (by decide) ?_
          refine gw_ld rfl rfl ?_
          refine gw_ld rfl rfl ?_
          refine z_add (by omega) (fun x63 ex63 => ?_)
          refine z_iaV (n := 330) (zT S2 (by decide) rfl) (zN S2 (by decide) rfl) (by omega) (zW_f F (by decide) (x73_25 _)) ?_
          generalize ex64 : ez_I h 123 x63.toInt.toNat = x64
          have rx64 := z_rng x64
          have yx64 := hrw x63.toInt.toNat (by omega)
          rw [ex64] at yx64
          refine z_go ?_
          refine gw_skip _ ?_
          refine z_is (n := 32) (zT S2 (by decide) rfl) (zN S2 (by decide) rfl) (by omega) (fun h65 e66 => ?_)
          have S67 := zSh_set S2 e66
          have F68 := zW_setA F e66 (by decide)
          have f69 : ez_I h65 71 61 = (ez_I h2 71 61) := (zI_ne e66 (by omega)).trans (rfl)
          have A70 : cpN (ez_I h65 120) (litF N1 r) 288 := by rw [zI_fn e66 120 (by decide)]; exact A_li
          have A71 : cpN (ez_I h65 121) (disF N1 N2 r) (i.toInt.toNat + 1) := cpN_s A_di e66 (by omega) (by show x64.toInt = ((if i.toInt.toNat < N2 then r (N1 + i.toInt.toNat) else 0 : Nat) : Int); rw [if_pos (by omega), show N1 + i.toInt.toNat = x63.toInt.toNat by omega]; omega) rfl
          refine gw_ld rfl rfl ?_
          refine gw_ld rfl rfl ?_
          refine z_gR (q := 121) (zT S67 (by decide) rfl) (zRf S67 (by decide) (by decide) rfl) (by decide) ?_
          refine gw_ld rfl rfl ?_
          refine z_ia (n := 32) (zT S67 (by decide) rfl) (zN S67 (by decide) rfl) (by omega) ?_
          generalize ex72 : ez_I h65 121 i.toInt.toNat = x72
          have rx72 := z_rng x72
          have yd := A71 i.toInt.toNat (by omega)
          rw [ex72] at yd
          have ysm : smN (disF N1 N2 r) (i.toInt.toNat + 1) = smN (disF N1 N2 r) i.toInt.toNat + (disF N1 N2 r) i.toInt.toNat := rfl
          have y15 : (disF N1 N2 r) i.toInt.toNat ≤ 15 := dis_15 (rw_15 hrw) (Nat.le_refl _) i.toInt.toNat
          refine z_add (by omega) (fun x73 ex73 => ?_)
          refine gw_st rfl rfl rfl ?_
          show ez_gw _ _ _ _ _ _ _ _ [some (.ref 71), some (.int nl), some (.int nd), l3, some (.int k4), some (.int x73), some (.int i), l7, l8, l9] _ _ _
          refine z_inc rfl (by rw [show (1 : Int32).toInt = 1 from rfl]; omega) (fun x74 ex74 => ?_)
          rw [show (1 : Int32).toInt = 1 from rfl] at ex74
          show ez_gw _ _ _ _ _ _ _ _ [some (.ref 71), some (.int nl), some (.int nd), l3, some (.int k4), some (.int x73), some (.int x74), l7, l8, l9] _ _ _
          refine z_go ?_
          have t75 := congrArg Int32.toInt (f69)
          exact ih h65 x73 x74 F68 (⟨by omega, by omega, by rw [show x74.toInt.toNat = i.toInt.toNat + 1 by omega]; omega, by omega, by omega⟩) (A70) ((by rw [show x74.toInt.toNat = i.toInt.toNat + 1 by omega]; exact A71)) (by omega)
set_option maxRecDepth 4000 in
set_option maxHeartbeats 2000000 in
theorem h_T307_L0 {E : Nat → Nat × (Nat → Int32)} {d : Nat} {Q : ez_Q} {h : ez_H} {nl : Int32} {nd : Int32} {l3 : Option Value} {k4 : Int32} {l5 : Option Value} {l6 : Option Value} {l7 : Option Value} {l8 : Option Value} {l9 : Option Value} (S : zSh h) {n p2 N1 N2 : Nat} {r : Nat → Nat} {R : Option (Nat × (Nat → Nat) × (Nat → Nat))} (hp : (ez_I h 71 59).toInt = (p2 : Nat)) (hp8 : p2 ≤ 8 * n) (hf : (ez_I h 71 61).toInt = 0) (hl : nl.toInt = (N1 : Nat) ∧ nd.toInt = (N2 : Nat) ∧ 257 ≤ N1 ∧ N1 ≤ 286 ∧ N2 ≤ 30) (hrw : rwJ (ez_I h 123) r (N1 + N2)) (hR : R = if okH N1 N2 r then some (p2, litF N1 r, disF N1 N2 r) else none) (K : ∀ h2, zW (fun q k => q = 71 ∧ k = 59 ∨ q = 71 ∧ k = 61) (fun q => q = 115 ∨ q = 120 ∨ q = 121 ∨ q = 122 ∨ q = 123) (fun _ => False) h h2 → hdP (ez_I h2 120) (ez_I h2 121) (ez_I h2 71 59).toInt (ez_I h2 71 61).toInt R → (0 ≤ (ez_I h2 71 59).toInt ∧ (ez_I h2 71 59).toInt ≤ 8 * (n : Int)) → Q (.inl none) h2) : ∀ N : Nat, (∀ (h2 : ez_H) (sm : Int32) (i : Int32) , zW (fun q k => q = 71 ∧ k = 61) (fun q => q = 120 ∨ q = 121) (fun _ => False) h h2 → (0 ≤ i.toInt ∧ i.toInt ≤ 288 ∧ sm.toInt = 0 ∧ (ez_I h2 71 61).toInt = 0) → (cpN (ez_I h2 120) (litF N1 r) i.toInt.toNat) → (1000 - i.toInt) < (N : Int) → pw E (d + 2) 58 313 [some (.ref 71), some (.int nl), some (.int nd), l3, some (.int k4), some (.int sm), some (.int i), l7, l8, l9] [] h2 Q) := by
  intro N
  induction N with
  | zero => exact fun h2 sm i  F hinv A_li hm => absurd hm (by have w_sm := z_rng sm; have w_i := z_rng i; have gnl := z_rng nl; have gnd := z_rng nd; have gk4 := z_rng k4; omega)
  | succ N ih =>
    refine fun h2 sm i  F hinv A_li hm => ?_
    · skip
      have w_sm := z_rng sm
      have w_i := z_rng i
      have gnl := z_rng nl
      have gnd := z_rng nd
      have gk4 := z_rng k4
      have S2 := zW_sh F S
      apply ez_Wp_in
      show ez_gw _ _ _ _ _ _ (cz_58) _ _ _ _ _
      refine gw_skip _ ?_
      have r1 := z_rng (ez_I h2 71 61)
      refine gw_ld rfl rfl ?_
      refine z_C (m := 288) rfl rfl (fun x2 ex2 => ?_)
      refine z_b2 (fun c3 => ?_) (fun c3 => ?_)
      · have c3 : x2.toInt ≤ i.toInt := c3
        refine gw_skip _ ?_
        refine z_C (m := 0) rfl rfl (fun x4 ex4 => ?_)
        refine gw_st rfl rfl rfl ?_
        show ez_gw _ _ _ _ _ _ _ _ [some (.ref 71), some (.int nl), some (.int nd), l3, some (.int k4), some (.int sm), some (.int x4), l7, l8, l9] _ _ _
        exact ez_Wp_at ((h_T307_L1 (nl := nl) (nd := nd) (l3 := l3) (k4 := k4) (l5 := l5) (l6 := l6) (l7 := l7) (l8 := l8) (l9 := l9) S hp hp8 hf hl hrw hR K (((1000 - x4.toInt)).toNat + 1)) h2 sm x4 F (⟨by omega, by omega, by rw [show x4.toInt.toNat = 0 by omega]; show _ = ((0 : Nat) : Int); omega, by omega, by omega⟩) ((by have b1 := A_li; rw [show i.toInt.toNat = 288 by omega] at b1; exact b1)) ((fun q hq => by omega)) (by omega)) rfl
      · have c3 : ¬ (x2.toInt ≤ i.toInt) := c3
        refine gw_ld rfl rfl ?_
        refine z_gR (q := 120) (zT S2 (by decide) rfl) (zRf S2 (by decide) (by decide) rfl) (by decide) ?_
        refine gw_ld rfl rfl ?_
        refine gw_ld rfl rfl ?_
        refine gw_ld rfl rfl ?_
        refine z_b2 (fun c5 => ?_) (fun c5 => ?_)
        · have c5 : nl.toInt ≤ i.toInt := c5
          refine gw_skip _ ?_
          refine z_C (m := 0) rfl rfl (fun x6 ex6 => ?_)
          refine z_is (n := 288) (zT S2 (by decide) rfl) (zN S2 (by decide) rfl) (by omega) (fun h7 e8 => ?_)
          have S9 := zSh_set S2 e8
          have F10 := zW_setA F e8 (by decide)
          have f11 : ez_I h7 71 61 = (ez_I h2 71 61) := (zI_ne e8 (by omega)).trans (rfl)
          have A12 : cpN (ez_I h7 120) (litF N1 r) (i.toInt.toNat + 1) := cpN_s A_li e8 (by omega) (by show x6.toInt = ((if i.toInt.toNat < N1 then r i.toInt.toNat else 0 : Nat) : Int); rw [if_neg (by omega)]; omega) rfl
          refine z_inc rfl (by rw [show (1 : Int32).toInt = 1 from rfl]; omega) (fun x13 ex13 => ?_)
          rw [show (1 : Int32).toInt = 1 from rfl] at ex13
          show ez_gw _ _ _ _ _ _ _ _ [some (.ref 71), some (.int nl), some (.int nd), l3, some (.int k4), some (.int sm), some (.int x13), l7, l8, l9] _ _ _
          refine z_go ?_
          have t14 := congrArg Int32.toInt (f11)
          exact ih h7 sm x13 F10 (by omega) ((by rw [show x13.toInt.toNat = i.toInt.toNat + 1 by omega]; exact A12)) (by omega)
        · have c5 : ¬ (nl.toInt ≤ i.toInt) := c5
          refine gw_ld rfl rfl ?_
          refine z_gR (q := 123) (zT S2 (by decide) rfl) (zRf S2 (by decide) (by decide) rfl) (by decide) ?_
          refine gw_ld rfl rfl ?_
          refine z_iaV (n := 330) (zT S2 (by decide) rfl) (zN S2 (by decide) rfl) (by omega) (zW_f F (by decide) (x73_25 _)) ?_
          generalize ex15 : ez_I h 123 i.toInt.toNat = x15
          have rx15 := z_rng x15
          have yx15 := hrw i.toInt.toNat (by omega)
          rw [ex15] at yx15
          refine z_go ?_
          refine gw_skip _ ?_
          refine z_is (n := 288) (zT S2 (by decide) rfl) (zN S2 (by decide) rfl) (by omega) (fun h16 e17 => ?_)
          have S18 := zSh_set S2 e17
          have F19 := zW_setA F e17 (by decide)
          have f20 : ez_I h16 71 61 = (ez_I h2 71 61) := (zI_ne e17 (by omega)).trans (rfl)
          have A21 : cpN (ez_I h16 120) (litF N1 r) (i.toInt.toNat + 1) := cpN_s A_li e17 (by omega) (by show x15.toInt = ((if i.toInt.toNat < N1 then r i.toInt.toNat else 0 : Nat) : Int); rw [if_pos (by omega)]; omega) rfl
          refine z_inc rfl (by rw [show (1 : Int32).toInt = 1 from rfl]; omega) (fun x22 ex22 => ?_)
          rw [show (1 : Int32).toInt = 1 from rfl] at ex22
          show ez_gw _ _ _ _ _ _ _ _ [some (.ref 71), some (.int nl), some (.int nd), l3, some (.int k4), some (.int sm), some (.int x22), l7, l8, l9] _ _ _
          refine z_go ?_
          have t23 := congrArg Int32.toInt (f20)
          exact ih h16 sm x22 F19 (by omega) ((by rw [show x22.toInt.toNat = i.toInt.toNat + 1 by omega]; exact A21)) (by omega)
set_option maxRecDepth 4000 in
set_option maxHeartbeats 2000000 in
theorem h_T307 {E : Nat → Nat × (Nat → Int32)} {d : Nat} {Q : ez_Q} {h : ez_H} {nl : Int32} {nd : Int32} {l3 : Option Value} {k4 : Int32} {l5 : Option Value} {l6 : Option Value} {l7 : Option Value} {l8 : Option Value} {l9 : Option Value} (S : zSh h) {n p2 N1 N2 : Nat} {r : Nat → Nat} {R : Option (Nat × (Nat → Nat) × (Nat → Nat))} (hp : (ez_I h 71 59).toInt = (p2 : Nat)) (hp8 : p2 ≤ 8 * n) (hf : (ez_I h 71 61).toInt = 0) (hl : nl.toInt = (N1 : Nat) ∧ nd.toInt = (N2 : Nat) ∧ 257 ≤ N1 ∧ N1 ≤ 286 ∧ N2 ≤ 30) (hrw : rwJ (ez_I h 123) r (N1 + N2)) (hR : R = if okH N1 N2 r then some (p2, litF N1 r, disF N1 N2 r) else none) (K : ∀ h2, zW (fun q k => q = 71 ∧ k = 59 ∨ q = 71 ∧ k = 61) (fun q => q = 115 ∨ q = 120 ∨ q = 121 ∨ q = 122 ∨ q = 123) (fun _ => False) h h2 → hdP (ez_I h2 120) (ez_I h2 121) (ez_I h2 71 59).toInt (ez_I h2 71 61).toInt R → (0 ≤ (ez_I h2 71 59).toInt ∧ (ez_I h2 71 59).toInt ≤ 8 * (n : Int)) → Q (.inl none) h2) : pw E (d + 2) 58 307 [some (.ref 71), some (.int nl), some (.int nd), l3, some (.int k4), l5, l6, l7, l8, l9] [] h Q := by
  have gnl := z_rng nl
  have gnd := z_rng nd
  have gk4 := z_rng k4
  have F := zW_refl (fun q k => q = 71 ∧ k = 61) (fun q => q = 120 ∨ q = 121) (fun _ => False) h
  apply ez_Wp_in
  show ez_gw _ _ _ _ _ _ (cz_58) _ _ _ _ _
  refine gw_skip _ ?_
  have r1 := z_rng (ez_I h 71 61)
  refine z_C (m := 0) rfl rfl (fun x2 ex2 => ?_)
  refine gw_st rfl rfl rfl ?_
  show ez_gw _ _ _ _ _ _ _ _ [some (.ref 71), some (.int nl), some (.int nd), l3, some (.int k4), some (.int x2), l6, l7, l8, l9] _ _ _
  refine z_C (m := 0) rfl rfl (fun x3 ex3 => ?_)
  refine gw_st rfl rfl rfl ?_
  show ez_gw _ _ _ _ _ _ _ _ [some (.ref 71), some (.int nl), some (.int nd), l3, some (.int k4), some (.int x2), some (.int x3), l7, l8, l9] _ _ _
  exact ez_Wp_at ((h_T307_L0 (nl := nl) (nd := nd) (l3 := l3) (k4 := k4) (l5 := l5) (l6 := l6) (l7 := l7) (l8 := l8) (l9 := l9) S hp hp8 hf hl hrw hR K (((1000 - x3.toInt)).toNat + 1)) h x2 x3 F (by omega) ((fun q hq => by omega)) (by omega)) rfl
