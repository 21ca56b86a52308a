/-! PRINTED by wip/pack: the model reads a head: the row -/
theorem x73_26 : ∀ q k : Nat, (q = 71 ∧ k = 59 ∨ q = 71 ∧ k = 61) → (q = 71 ∧ k = 59 ∨ q = 71 ∧ k = 61) := fun q k hk => hk.elim (fun g => (.inl g)) (fun hk => (.inr hk))
theorem x73_27 : ∀ q : Nat, (q = 115 ∨ q = 123) → (q = 115 ∨ q = 120 ∨ q = 121 ∨ q = 122 ∨ q = 123) := fun q hk => hk.elim (fun g => (.inl g)) (fun hk => (.inr (.inr (.inr (.inr hk)))))
theorem x73_28 : ∀ q : Nat, (False) → (False) := fun q hk => hk.elim
theorem x73_29 : ∀ q : Nat, (q = 115 ∨ q = 120 ∨ q = 121 ∨ q = 122 ∨ q = 123) → (q = 115 ∨ q = 120 ∨ q = 121 ∨ q = 122 ∨ q = 123) := fun q hk => hk.elim (fun g => (.inl g)) (fun hk => hk.elim (fun g => (.inr (.inl g))) (fun hk => hk.elim (fun g => (.inr (.inr (.inl g)))) (fun hk => hk.elim (fun g => (.inr (.inr (.inr (.inl g))))) (fun hk => (.inr (.inr (.inr (.inr hk))))))))
theorem x73_30 : ¬ (72 = 115 ∨ 72 = 123) := by omega
theorem x73_31 : ∀ k : Nat, ¬ (72 = 71 ∧ k = 59 ∨ 72 = 71 ∧ k = 61) := fun k c => by omega
theorem x73_32 : ¬ (71 = 115 ∨ 71 = 123) := by omega
theorem x73_33 : ¬ (71 = 71 ∧ 6 = 59 ∨ 71 = 71 ∧ 6 = 61) := by omega
theorem x73_34 : ¬ (122 = 115 ∨ 122 = 123) := by omega
theorem x73_35 : ∀ k : Nat, ¬ (122 = 71 ∧ k = 59 ∨ 122 = 71 ∧ k = 61) := fun k c => by omega
theorem x73_36 : ∀ q : Nat, (q = 115) → (q = 115 ∨ q = 123) := fun q hk => (.inl hk)
theorem x73_37 : ∀ k : Nat, ¬ (123 = 71 ∧ k = 59 ∨ 123 = 71 ∧ k = 61) := fun k c => by omega
theorem x73_38 : ∀ q : Nat, (False) → (q = 115 ∨ q = 123) := fun q hk => hk.elim
theorem x73_39 : ∀ q k : Nat, (q = 71 ∧ k = 61) → (q = 71 ∧ k = 59 ∨ q = 71 ∧ k = 61) := fun q k hk => (.inr hk)
theorem x73_40 : ∀ k : Nat, ¬ (123 = 71 ∧ k = 61) := fun k c => by omega
set_option maxRecDepth 4000 in
set_option maxHeartbeats 2000000 in
theorem h_row_L0 {E : Nat → Nat × (Nat → Int32)} {d : Nat} {Q : ez_Q} {h : ez_H} {nl : Int32} {nd : Int32} {mn : Int32} {l4 : Option Value} {l5 : Option Value} {l6 : Option Value} {l7 : Option Value} {l8 : Option Value} {l9 : Option Value} (S : zSh h) {T : Nat → Int} {n : Nat} (hT : tB (ez_I h 72) = T) (hN : (ez_I h 71 6).toInt = (n : Nat)) (hn6 : n ≤ 6000) {p0 N1 N2 : Nat} {L : Nat → Nat} {R : Option (Nat × (Nat → Nat) × (Nat → Nat))} {X : Option (Nat × (Nat → Nat))} (hp : (ez_I h 71 59).toInt = (p0 : Nat)) (hp8 : p0 ≤ 8 * n) (hf : (ez_I h 71 61).toInt = 0) (hl : nl.toInt = (N1 : Nat) ∧ nd.toInt = (N2 : Nat) ∧ 257 ≤ N1 ∧ N1 ≤ 286 ∧ N2 ≤ 30) (ar : aR (ez_I h 122) 19 0 15) (hLe : ∀ k, k < 19 → L k = nL (ez_I h 122) k) (hL0 : ∀ k, 19 ≤ k → k < 288 → L k = 0) (hone : plN (nL (ez_I h 122)) 19 16 = 1 → ctN (nL (ez_I h 122)) 1 19 = 1) (hX0 : X = rwL T n L 288 (N1 + N2) (N1 + N2 - 0) p0 0 (fun _ => 0)) (hXn : X = none → R = none) (hXs : ∀ p2 r, X = some (p2, r) → R = if okH N1 N2 r then some (p2, litF N1 r, disF N1 N2 r) else none) (K : ∀ h2, zW (fun q k => q = 71 ∧ k = 59 ∨ q = 71 ∧ k = 61) (fun q => q = 115 ∨ q = 120 ∨ q = 121 ∨ q = 122 ∨ q = 123) (fun _ => False) h h2 → hdP (ez_I h2 120) (ez_I h2 121) (ez_I h2 71 59).toInt (ez_I h2 71 61).toInt R → (0 ≤ (ez_I h2 71 59).toInt ∧ (ez_I h2 71 59).toInt ≤ 8 * (n : Int)) → Q (.inl none) h2) : ∀ N : Nat, (∀ (h2 : ez_H) (k : Int32) (l5 : Option Value) (l6 : Option Value) (l7 : Option Value) (l8 : Option Value) (l9 : Option Value) (a : Nat) (p2 : Nat) (r : Nat → Nat), zW (fun q k => q = 71 ∧ k = 59 ∨ q = 71 ∧ k = 61) (fun q => q = 115 ∨ q = 123) (fun _ => False) h h2 → (k.toInt = (a : Nat) ∧ a ≤ N1 + N2 ∧ (ez_I h2 71 61).toInt = 0 ∧ (ez_I h2 71 59).toInt = (p2 : Nat) ∧ p2 ≤ 8 * n) → (X = rwL T n L 288 (N1 + N2) (N1 + N2 - a) p2 a r) → (rwJ (ez_I h2 123) r a) → (1000 * (1000 - (a : Int))) < (N : Int) → pw E (d + 2) 58 127 [some (.ref 71), some (.int nl), some (.int nd), some (.int mn), some (.int k), l5, l6, l7, l8, l9] [] h2 Q) ∧ (∀ (h2 : ez_H) (k : Int32) (l5 : Option Value) (l6 : Option Value) (m : Int32) (v : Int32) (i : Int32) (a0 : Nat) (p2 : Nat) (r : Nat → Nat) (t : Nat) (j : Nat) (v9 : Nat), zW (fun q k => q = 71 ∧ k = 59 ∨ q = 71 ∧ k = 61) (fun q => q = 115 ∨ q = 123) (fun _ => False) h h2 → (k.toInt = ((a0 + j : Nat) : Int) ∧ i.toInt = (j : Nat) ∧ j ≤ t ∧ m.toInt = (t : Nat) ∧ 1 ≤ t ∧ t ≤ 200 ∧ a0 + t ≤ N1 + N2 ∧ v.toInt = (v9 : Nat) ∧ v9 ≤ 15 ∧ (ez_I h2 71 61).toInt = 0 ∧ (ez_I h2 71 59).toInt = (p2 : Nat) ∧ p2 ≤ 8 * n) → (X = rwL T n L 288 (N1 + N2) (N1 + N2 - (a0 + t)) p2 (a0 + t) (flN r a0 t v9)) → (rwJ (ez_I h2 123) (flN r a0 j v9) (a0 + j)) → (1000 * (1000 - (a0 : Int)) - 1 - (j : Int)) < (N : Int) → pw E (d + 2) 58 264 [some (.ref 71), some (.int nl), some (.int nd), some (.int mn), some (.int k), l5, l6, some (.int m), some (.int v), some (.int i)] [] h2 Q) := by
  intro N
  induction N with
  | zero => exact ⟨fun h2 k l5 l6 l7 l8 l9 a p2 r F hinv A_x A_rw hm => absurd hm (by have w_k := z_rng k; have gnl := z_rng nl; have gnd := z_rng nd; have gmn := z_rng mn; omega), fun h2 k l5 l6 m v i a0 p2 r t j v9 F hinv A_x A_rw hm => absurd hm (by have w_k := z_rng k; have w_m := z_rng m; have w_v := z_rng v; have w_i := z_rng i; have gnl := z_rng nl; have gnd := z_rng nd; have gmn := z_rng mn; omega)⟩
  | succ N ih =>
    refine ⟨fun h2 k l5 l6 l7 l8 l9 a p2 r F hinv A_x A_rw hm => ?_, fun h2 k l5 l6 m v i a0 p2 r t j v9 F hinv A_x A_rw hm => ?_⟩
    · skip
      have w_k := z_rng k
      have gnl := z_rng nl
      have gnd := z_rng nd
      have gmn := z_rng mn
      have S2 := zW_sh F S
      apply ez_Wp_in
      show ez_gw _ _ _ _ _ _ (cz_58) _ _ _ _ _
      refine gw_skip _ ?_
      have r1 := z_rng (ez_I h2 71 59)
      have r2 := z_rng (ez_I h2 71 61)
      refine gw_ld rfl rfl ?_
      refine gw_ld rfl rfl ?_
      refine gw_ld rfl rfl ?_
      refine z_add (by omega) (fun x3 ex3 => ?_)
      refine z_b2 (fun c4 => ?_) (fun c4 => ?_)
      · have c4 : x3.toInt ≤ k.toInt := c4
        refine gw_skip _ ?_
        refine gw_ld rfl rfl ?_
        refine z_gI2 (by decide) (zT S2 (by decide) rfl) (rfl) ?_
        refine z_b1 (fun c5 => ?_) (fun c5 => ?_)
        · have c5 : ((ez_I h2 71 61)).toInt ≤ 0 := c5
          suffices tl : pw E (d + 2) 58 307 [some (.ref 71), some (.int nl), some (.int nd), some (.int mn), some (.int k), l5, l6, l7, l8, l9] [] h2 Q from gw_skip _ (ez_Wp_at tl rfl)
          refine h_T307 (n := n) (p2 := p2) (N1 := N1) (N2 := N2) (r := r) (R := R) S2 (by omega) (by omega) (by omega) hl (by have b1 := A_rw; rw [show a = N1 + N2 by omega] at b1; exact b1) (hXs p2 r (A_x.trans (rwL_e (by omega)))) (fun h6 F7 k8 k9 => ?_)
          have F10 := zW_tr (zW_mono F x73_26 x73_27 x73_28) (zW_mono F7 x73_26 x73_29 x73_28)
          exact K _ F10 k8 k9
        · have c5 : ¬ (((ez_I h2 71 61)).toInt ≤ 0) := c5
          exfalso; omega
      · have c4 : ¬ (x3.toInt ≤ k.toInt) := c4
        refine gw_ld rfl rfl ?_
        refine z_gI2 (by decide) (zT S2 (by decide) rfl) (rfl) ?_
        refine z_b1 (fun c11 => ?_) (fun c11 => ?_)
        · have c11 : ((ez_I h2 71 61)).toInt ≠ 0 := c11
          exfalso; omega
        · have c11 : ¬ (((ez_I h2 71 61)).toInt ≠ 0) := c11
          refine gw_ld rfl rfl ?_
          refine gw_ld rfl rfl ?_
          refine z_gR (q := 122) (zT S2 (by decide) rfl) (zRf S2 (by decide) (by decide) rfl) (by decide) ?_
          refine z_C (m := 19) rfl rfl (fun x12 ex12 => ?_)
          refine z_cl rfl rfl rfl rfl rfl rfl rfl rfl rfl rfl rfl (zT S2 (by decide) rfl) ?_
          refine d_syO (u := 122) (nu := 19) (N := 19) (v := x12) (T := T) (n := n) (p := p2) (L := nL (ez_I h 122)) S2 (fun _ S => ⟨zT S (by decide) rfl, zN S (by decide) rfl⟩) (by decide) (by decide) (by rw [(show ez_I h2 72 = ez_I h 72 from zW_fn F 72 x73_30 x73_31)]; exact hT) (by rw [(show ez_I h2 71 6 = ez_I h 71 6 from zW_f F x73_32 x73_33)]; exact hN) hn6 (by omega) (by omega) (by omega) (by omega) (by rw [(show ez_I h2 122 = ez_I h 122 from zW_fn F 122 x73_34 x73_35)]; exact ar) (by rw [(show ez_I h2 122 = ez_I h 122 from zW_fn F 122 x73_34 x73_35)]) hone (fun h13 x14 q15 F16 k17 k18 k19 k20 k21 k22 => ?_) (fun h23 x24 F25 k26 k27 k28 k29 => ?_)
          · have rx14 := z_rng x14
            have sdl := (sd_eq (by decide) hLe hL0).trans k17
            clear k17
            have S30 := zW_sh F16 S2
            have F31 := zW_tr F (zW_mono F16 (x73_26) (x73_36) (x73_28))
            have r32 := z_rng (ez_I h13 71 59)
            have r33 := z_rng (ez_I h13 71 61)
            have A34 : rwJ (ez_I h13 123) r a := by rw [zW_fn F16 123 (by decide) (x73_37)]; exact A_rw
            refine gw_st rfl rfl rfl ?_
            show ez_gw _ _ _ _ _ _ _ _ [some (.ref 71), some (.int nl), some (.int nd), some (.int mn), some (.int k), some (.int x14), l6, l7, l8, l9] _ _ _
            refine gw_ld rfl rfl ?_
            refine gw_ld rfl rfl ?_
            refine z_cl rfl rfl rfl rfl rfl rfl rfl rfl rfl rfl rfl (trivial) ?_
            refine d_rest (y := x14) S30 (by omega) (fun x35 k36 => ?_)
            have rx35 := z_rng x35
            have hre7 := rEf_7 x14.toInt.toNat
            refine z_cl rfl rfl rfl rfl rfl rfl rfl rfl rfl rfl rfl (zT S30 (by decide) rfl) ?_
            refine d_tbO (v := x35) (T := T) (n := n) (N := (rEf x14.toInt.toNat)) (p := q15) S30 (by rw [(show ez_I h13 72 = ez_I h 72 from zW_fn F31 72 x73_30 x73_31)]; exact hT) (by rw [(show ez_I h13 71 6 = ez_I h 71 6 from zW_f F31 x73_32 x73_33)]; exact hN) hn6 (by omega) (by omega) (by omega) (by omega) (by omega) (fun h37 x38 F39 k40 k41 k42 k43 k44 => ?_) (fun h45 x46 F47 k48 k49 k50 k51 k52 => ?_)
            · have rx38 := z_rng x38
              have S53 := zW_sh F39 S30
              have F54 := zW_tr F31 (zW_mono F39 (x73_26) (x73_38) (x73_28))
              have r55 := z_rng (ez_I h37 71 59)
              have r56 := z_rng (ez_I h37 71 61)
              have A57 : rwJ (ez_I h37 123) r a := by rw [zW_fn F39 123 (fun c => c) (x73_37)]; exact A34
              clear A34
              refine gw_st rfl rfl rfl ?_
              show ez_gw _ _ _ _ _ _ _ _ [some (.ref 71), some (.int nl), some (.int nd), some (.int mn), some (.int k), some (.int x14), some (.int x38), l7, l8, l9] _ _ _
              refine gw_ld rfl rfl ?_
              refine z_C (m := 16) rfl rfl (fun x58 ex58 => ?_)
              refine z_b2 (fun c59 => ?_) (fun c59 => ?_)
              · have c59 : x58.toInt ≤ x14.toInt := c59
                refine gw_skip _ ?_
                have hs16 : 16 ≤ x14.toInt.toNat ∧ x14.toInt.toNat < 19 := by omega
                have re1 := rE_hi hs16
                have hrb := RB_v hs16
                have hk7 : vB T q15 (rEf x14.toInt.toNat) < 128 := Nat.lt_of_lt_of_le k42 (Nat.pow_le_pow_right (n := 2) (by decide) hre7)
                refine gw_ld rfl rfl ?_
                refine gw_ld rfl rfl ?_
                refine z_C (m := 18) rfl rfl (fun x60 ex60 => ?_)
                refine z_b2 (fun c61 => ?_) (fun c61 => ?_)
                · have c61 : x14.toInt ≠ x60.toInt := c61
                  refine gw_skip _ ?_
                  refine z_C (m := 3) rfl rfl (fun x62 ex62 => ?_)
                  refine z_add (by omega) (fun x63 ex63 => ?_)
                  refine gw_st rfl rfl rfl ?_
                  show ez_gw _ _ _ _ _ _ _ _ [some (.ref 71), some (.int nl), some (.int nd), some (.int mn), some (.int k), some (.int x14), some (.int x38), some (.int x63), l8, l9] _ _ _
                  rw [if_neg (by omega)] at hrb
                  have hm : x63.toInt = ((RBf (x14.toInt.toNat - 16) + vB T q15 (rEf x14.toInt.toNat) : Nat) : Int) := by rw [hrb]; omega
                  refine gw_ld rfl rfl ?_
                  refine z_C (m := 16) rfl rfl (fun x64 ex64 => ?_)
                  refine z_b2 (fun c65 => ?_) (fun c65 => ?_)
                  · have c65 : x14.toInt ≠ x64.toInt := c65
                    refine gw_skip _ ?_
                    refine gw_ld rfl rfl ?_
                    refine gw_ld rfl rfl ?_
                    refine z_add (by omega) (fun x66 ex66 => ?_)
                    refine gw_ld rfl rfl ?_
                    refine gw_ld rfl rfl ?_
                    refine z_add (by omega) (fun x67 ex67 => ?_)
                    refine z_b2 (fun c68 => ?_) (fun c68 => ?_)
                    · have c68 : x66.toInt ≤ x67.toInt := c68
                      refine gw_skip _ ?_
                      refine gw_ld rfl rfl ?_
                      refine z_C (m := 16) rfl rfl (fun x69 ex69 => ?_)
                      refine z_b2 (fun c70 => ?_) (fun c70 => ?_)
                      · have c70 : x14.toInt ≠ x69.toInt := c70
                        refine gw_skip _ ?_
                        refine z_C (m := 0) rfl rfl (fun x71 ex71 => ?_)
                        refine gw_st rfl rfl rfl ?_
                        show ez_gw _ _ _ _ _ _ _ _ [some (.ref 71), some (.int nl), some (.int nd), some (.int mn), some (.int k), some (.int x14), some (.int x38), some (.int x63), some (.int x71), l9] _ _ _
                        refine z_C (m := 0) rfl rfl (fun x72 ex72 => ?_)
                        refine gw_st rfl rfl rfl ?_
                        show ez_gw _ _ _ _ _ _ _ _ [some (.ref 71), some (.int nl), some (.int nd), some (.int mn), some (.int k), some (.int x14), some (.int x38), some (.int x63), some (.int x71), some (.int x72)] _ _ _
                        exact ez_Wp_at (ih.2 h37 k (some (.int x14)) (some (.int x38)) x63 x71 x72 a (q15 + (rEf x14.toInt.toNat)) r (RBf (x14.toInt.toNat - 16) + vB T q15 (rEf x14.toInt.toNat)) 0 0 F54 (by omega) (A_x.trans (rwX_y hL0 (by omega) sdl hs16.1 (by omega) re1 (by omega) rfl (by omega) (by omega) (by rw [if_neg (by omega)]))) (rwJ_z A57 rfl) (by omega)) rfl
                      · have c70 : ¬ (x14.toInt ≠ x69.toInt) := c70
                        exfalso; omega
                    · have c68 : ¬ (x66.toInt ≤ x67.toInt) := c68
                      refine gw_ld rfl rfl ?_
                      refine z_C (m := 6) rfl rfl (fun x73 ex73 => ?_)
                      refine z_cl rfl rfl rfl rfl rfl rfl rfl rfl rfl rfl rfl (zT S53 (by decide) rfl) ?_
                      refine d_wrong (n := x73) S53 (fun h74 F75 k76 k77 => ?_)
                      have kw78 := k76 (by omega)
                      clear k76 k77
                      have S79 := zW_sh F75 S53
                      have F80 := zW_tr F54 (zW_mono F75 (x73_39) (x73_38) (x73_28))
                      have f81 : ez_I h74 71 59 = (ez_I h37 71 59) := (zW_f F75 (fun c => c) (by decide)).trans (rfl)
                      have r82 := z_rng (ez_I h74 71 61)
                      have A83 : rwJ (ez_I h74 123) r a := by rw [zW_fn F75 123 (fun c => c) (x73_40)]; exact A57
                      clear A57
                      have t84 := congrArg Int32.toInt (f81)
                      suffices tl : pw E (d + 2) 58 234 [some (.ref 71), some (.int nl), some (.int nd), some (.int mn), some (.int k), some (.int x14), some (.int x38), some (.int x63), l8, l9] [] h74 Q from ez_Wp_at tl rfl
                      refine h_F234 (n := n) S79 (by rw [(show ez_I h74 71 6 = ez_I h 71 6 from zW_f F80 x73_32 x73_33)]; exact hN) hn6 (by omega) (by omega) (by omega) (by omega) (fun h85 F86 k87 k88 => ?_)
                      have F89 := zW_tr (zW_mono F80 x73_26 x73_27 x73_28) (zW_mono F86 x73_26 x73_29 x73_28)
                      exact K _ F89 (.inr ⟨k87, hXn (A_x.trans (rwL_n (by omega) (by omega) (rwS_n sdl hs16.1 (.inr (.inr (by rw [← re1]; omega))))))⟩) k88
                  · have c65 : ¬ (x14.toInt ≠ x64.toInt) := c65
                    refine gw_ld rfl rfl ?_
                    refine z_b1 (fun c90 => ?_) (fun c90 => ?_)
                    · have c90 : k.toInt = 0 := c90
                      refine gw_skip _ ?_
                      refine gw_ld rfl rfl ?_
                      refine z_C (m := 6) rfl rfl (fun x91 ex91 => ?_)
                      refine z_cl rfl rfl rfl rfl rfl rfl rfl rfl rfl rfl rfl (zT S53 (by decide) rfl) ?_
                      refine d_wrong (n := x91) S53 (fun h92 F93 k94 k95 => ?_)
                      have kw96 := k94 (by omega)
                      clear k94 k95
                      have S97 := zW_sh F93 S53
                      have F98 := zW_tr F54 (zW_mono F93 (x73_39) (x73_38) (x73_28))
                      have f99 : ez_I h92 71 59 = (ez_I h37 71 59) := (zW_f F93 (fun c => c) (by decide)).trans (rfl)
                      have r100 := z_rng (ez_I h92 71 61)
                      have A101 : rwJ (ez_I h92 123) r a := by rw [zW_fn F93 123 (fun c => c) (x73_40)]; exact A57
                      clear A57
                      have t102 := congrArg Int32.toInt (f99)
                      suffices tl : pw E (d + 2) 58 234 [some (.ref 71), some (.int nl), some (.int nd), some (.int mn), some (.int k), some (.int x14), some (.int x38), some (.int x63), l8, l9] [] h92 Q from ez_Wp_at tl rfl
                      refine h_F234 (n := n) S97 (by rw [(show ez_I h92 71 6 = ez_I h 71 6 from zW_f F98 x73_32 x73_33)]; exact hN) hn6 (by omega) (by omega) (by omega) (by omega) (fun h103 F104 k105 k106 => ?_)
                      have F107 := zW_tr (zW_mono F98 x73_26 x73_27 x73_28) (zW_mono F104 x73_26 x73_29 x73_28)
                      exact K _ F107 (.inr ⟨k105, hXn (A_x.trans (rwL_n (by omega) (by omega) (rwS_n sdl hs16.1 (.inl (by omega)))))⟩) k106
                    · have c90 : ¬ (k.toInt = 0) := c90
                      refine gw_ld rfl rfl ?_
                      refine gw_ld rfl rfl ?_
                      refine z_add (by omega) (fun x108 ex108 => ?_)
                      refine gw_ld rfl rfl ?_
                      refine gw_ld rfl rfl ?_
                      refine z_add (by omega) (fun x109 ex109 => ?_)
                      refine z_b2 (fun c110 => ?_) (fun c110 => ?_)
                      · have c110 : x108.toInt ≤ x109.toInt := c110
                        refine gw_skip _ ?_
                        refine gw_ld rfl rfl ?_
                        refine z_C (m := 16) rfl rfl (fun x111 ex111 => ?_)
                        refine z_b2 (fun c112 => ?_) (fun c112 => ?_)
                        · have c112 : x14.toInt ≠ x111.toInt := c112
                          exfalso; omega
                        · have c112 : ¬ (x14.toInt ≠ x111.toInt) := c112
                          refine gw_ld rfl rfl ?_
                          refine z_b1 (fun c113 => ?_) (fun c113 => ?_)
                          · have c113 : k.toInt ≤ 0 := c113
                            refine gw_skip _ ?_
                            refine z_C (m := 0) rfl rfl (fun x114 ex114 => ?_)
                            refine gw_st rfl rfl rfl ?_
                            show ez_gw _ _ _ _ _ _ _ _ [some (.ref 71), some (.int nl), some (.int nd), some (.int mn), some (.int k), some (.int x14), some (.int x38), some (.int x63), some (.int x114), l9] _ _ _
                            refine z_C (m := 0) rfl rfl (fun x115 ex115 => ?_)
                            refine gw_st rfl rfl rfl ?_
                            show ez_gw _ _ _ _ _ _ _ _ [some (.ref 71), some (.int nl), some (.int nd), some (.int mn), some (.int k), some (.int x14), some (.int x38), some (.int x63), some (.int x114), some (.int x115)] _ _ _
                            exact ez_Wp_at (ih.2 h37 k (some (.int x14)) (some (.int x38)) x63 x114 x115 a (q15 + (rEf x14.toInt.toNat)) r (RBf (x14.toInt.toNat - 16) + vB T q15 (rEf x14.toInt.toNat)) 0 0 F54 (by omega) (A_x.trans (rwX_y hL0 (by omega) sdl hs16.1 (by omega) re1 (by omega) rfl (by omega) (by omega) (by rw [if_neg (by omega)]))) (rwJ_z A57 rfl) (by omega)) rfl
                          · have c113 : ¬ (k.toInt ≤ 0) := c113
                            refine gw_ld rfl rfl ?_
                            refine z_gR (q := 123) (zT S53 (by decide) rfl) (zRf S53 (by decide) (by decide) rfl) (by decide) ?_
                            refine gw_ld rfl rfl ?_
                            refine z_C (m := 1) rfl rfl (fun x116 ex116 => ?_)
                            refine z_sub (by omega) (fun x117 ex117 => ?_)
                            refine z_ia (n := 330) (zT S53 (by decide) rfl) (zN S53 (by decide) rfl) (by omega) ?_
                            generalize ex118 : ez_I h37 123 x117.toInt.toNat = x118
                            have rx118 := z_rng x118
                            have yr := A57 (a - 1) (by omega)
                            rw [show a - 1 = x117.toInt.toNat by omega, ex118] at yr
                            rw [show x117.toInt.toNat = a - 1 by omega] at yr
                            refine z_go ?_
                            refine gw_skip _ ?_
                            refine gw_st rfl rfl rfl ?_
                            show ez_gw _ _ _ _ _ _ _ _ [some (.ref 71), some (.int nl), some (.int nd), some (.int mn), some (.int k), some (.int x14), some (.int x38), some (.int x63), some (.int x118), l9] _ _ _
                            refine z_C (m := 0) rfl rfl (fun x119 ex119 => ?_)
                            refine gw_st rfl rfl rfl ?_
                            show ez_gw _ _ _ _ _ _ _ _ [some (.ref 71), some (.int nl), some (.int nd), some (.int mn), some (.int k), some (.int x14), some (.int x38), some (.int x63), some (.int x118), some (.int x119)] _ _ _
                            exact ez_Wp_at (ih.2 h37 k (some (.int x14)) (some (.int x38)) x63 x118 x119 a (q15 + (rEf x14.toInt.toNat)) r (RBf (x14.toInt.toNat - 16) + vB T q15 (rEf x14.toInt.toNat)) 0 (x118.toInt.toNat) F54 (by omega) (A_x.trans (rwX_y hL0 (by omega) sdl hs16.1 (by omega) re1 (by omega) rfl (by omega) (by omega) (by rw [if_pos (by omega)]; omega))) (rwJ_z A57 rfl) (by omega)) rfl
                      · have c110 : ¬ (x108.toInt ≤ x109.toInt) := c110
                        refine gw_ld rfl rfl ?_
                        refine z_C (m := 6) rfl rfl (fun x120 ex120 => ?_)
                        refine z_cl rfl rfl rfl rfl rfl rfl rfl rfl rfl rfl rfl (zT S53 (by decide) rfl) ?_
                        refine d_wrong (n := x120) S53 (fun h121 F122 k123 k124 => ?_)
                        have kw125 := k123 (by omega)
                        clear k123 k124
                        have S126 := zW_sh F122 S53
                        have F127 := zW_tr F54 (zW_mono F122 (x73_39) (x73_38) (x73_28))
                        have f128 : ez_I h121 71 59 = (ez_I h37 71 59) := (zW_f F122 (fun c => c) (by decide)).trans (rfl)
                        have r129 := z_rng (ez_I h121 71 61)
                        have A130 : rwJ (ez_I h121 123) r a := by rw [zW_fn F122 123 (fun c => c) (x73_40)]; exact A57
                        clear A57
                        have t131 := congrArg Int32.toInt (f128)
                        suffices tl : pw E (d + 2) 58 234 [some (.ref 71), some (.int nl), some (.int nd), some (.int mn), some (.int k), some (.int x14), some (.int x38), some (.int x63), l8, l9] [] h121 Q from ez_Wp_at tl rfl
                        refine h_F234 (n := n) S126 (by rw [(show ez_I h121 71 6 = ez_I h 71 6 from zW_f F127 x73_32 x73_33)]; exact hN) hn6 (by omega) (by omega) (by omega) (by omega) (fun h132 F133 k134 k135 => ?_)
                        have F136 := zW_tr (zW_mono F127 x73_26 x73_27 x73_28) (zW_mono F133 x73_26 x73_29 x73_28)
                        exact K _ F136 (.inr ⟨k134, hXn (A_x.trans (rwL_n (by omega) (by omega) (rwS_n sdl hs16.1 (.inr (.inr (by rw [← re1]; omega))))))⟩) k135
                · have c61 : ¬ (x14.toInt ≠ x60.toInt) := c61
                  refine z_C (m := 11) rfl rfl (fun x137 ex137 => ?_)
                  refine z_go ?_
                  refine gw_skip _ ?_
                  refine z_add (by omega) (fun x138 ex138 => ?_)
                  refine gw_st rfl rfl rfl ?_
                  show ez_gw _ _ _ _ _ _ _ _ [some (.ref 71), some (.int nl), some (.int nd), some (.int mn), some (.int k), some (.int x14), some (.int x38), some (.int x138), l8, l9] _ _ _
                  rw [if_pos (by omega)] at hrb
                  have hm : x138.toInt = ((RBf (x14.toInt.toNat - 16) + vB T q15 (rEf x14.toInt.toNat) : Nat) : Int) := by rw [hrb]; omega
                  refine gw_ld rfl rfl ?_
                  refine z_C (m := 16) rfl rfl (fun x139 ex139 => ?_)
                  refine z_b2 (fun c140 => ?_) (fun c140 => ?_)
                  · have c140 : x14.toInt ≠ x139.toInt := c140
                    refine gw_skip _ ?_
                    refine gw_ld rfl rfl ?_
                    refine gw_ld rfl rfl ?_
                    refine z_add (by omega) (fun x141 ex141 => ?_)
                    refine gw_ld rfl rfl ?_
                    refine gw_ld rfl rfl ?_
                    refine z_add (by omega) (fun x142 ex142 => ?_)
                    refine z_b2 (fun c143 => ?_) (fun c143 => ?_)
                    · have c143 : x141.toInt ≤ x142.toInt := c143
                      refine gw_skip _ ?_
                      refine gw_ld rfl rfl ?_
                      refine z_C (m := 16) rfl rfl (fun x144 ex144 => ?_)
                      refine z_b2 (fun c145 => ?_) (fun c145 => ?_)
                      · have c145 : x14.toInt ≠ x144.toInt := c145
                        refine gw_skip _ ?_
                        refine z_C (m := 0) rfl rfl (fun x146 ex146 => ?_)
                        refine gw_st rfl rfl rfl ?_
                        show ez_gw _ _ _ _ _ _ _ _ [some (.ref 71), some (.int nl), some (.int nd), some (.int mn), some (.int k), some (.int x14), some (.int x38), some (.int x138), some (.int x146), l9] _ _ _
                        refine z_C (m := 0) rfl rfl (fun x147 ex147 => ?_)
                        refine gw_st rfl rfl rfl ?_
                        show ez_gw _ _ _ _ _ _ _ _ [some (.ref 71), some (.int nl), some (.int nd), some (.int mn), some (.int k), some (.int x14), some (.int x38), some (.int x138), some (.int x146), some (.int x147)] _ _ _
                        exact ez_Wp_at (ih.2 h37 k (some (.int x14)) (some (.int x38)) x138 x146 x147 a (q15 + (rEf x14.toInt.toNat)) r (RBf (x14.toInt.toNat - 16) + vB T q15 (rEf x14.toInt.toNat)) 0 0 F54 (by omega) (A_x.trans (rwX_y hL0 (by omega) sdl hs16.1 (by omega) re1 (by omega) rfl (by omega) (by omega) (by rw [if_neg (by omega)]))) (rwJ_z A57 rfl) (by omega)) rfl
                      · have c145 : ¬ (x14.toInt ≠ x144.toInt) := c145
                        exfalso; omega
                    · have c143 : ¬ (x141.toInt ≤ x142.toInt) := c143
                      refine gw_ld rfl rfl ?_
                      refine z_C (m := 6) rfl rfl (fun x148 ex148 => ?_)
                      refine z_cl rfl rfl rfl rfl rfl rfl rfl rfl rfl rfl rfl (zT S53 (by decide) rfl) ?_
                      refine d_wrong (n := x148) S53 (fun h149 F150 k151 k152 => ?_)
                      have kw153 := k151 (by omega)
                      clear k151 k152
                      have S154 := zW_sh F150 S53
                      have F155 := zW_tr F54 (zW_mono F150 (x73_39) (x73_38) (x73_28))
                      have f156 : ez_I h149 71 59 = (ez_I h37 71 59) := (zW_f F150 (fun c => c) (by decide)).trans (rfl)
                      have r157 := z_rng (ez_I h149 71 61)
                      have A158 : rwJ (ez_I h149 123) r a := by rw [zW_fn F150 123 (fun c => c) (x73_40)]; exact A57
                      clear A57
                      have t159 := congrArg Int32.toInt (f156)
                      suffices tl : pw E (d + 2) 58 234 [some (.ref 71), some (.int nl), some (.int nd), some (.int mn), some (.int k), some (.int x14), some (.int x38), some (.int x138), l8, l9] [] h149 Q from ez_Wp_at tl rfl
                      refine h_F234 (n := n) S154 (by rw [(show ez_I h149 71 6 = ez_I h 71 6 from zW_f F155 x73_32 x73_33)]; exact hN) hn6 (by omega) (by omega) (by omega) (by omega) (fun h160 F161 k162 k163 => ?_)
                      have F164 := zW_tr (zW_mono F155 x73_26 x73_27 x73_28) (zW_mono F161 x73_26 x73_29 x73_28)
                      exact K _ F164 (.inr ⟨k162, hXn (A_x.trans (rwL_n (by omega) (by omega) (rwS_n sdl hs16.1 (.inr (.inr (by rw [← re1]; omega))))))⟩) k163
                  · have c140 : ¬ (x14.toInt ≠ x139.toInt) := c140
                    exfalso; omega
              · have c59 : ¬ (x58.toInt ≤ x14.toInt) := c59
                have re0 := rE_lo (s := x14.toInt.toNat) (by omega)
                rw [re0] at k41 k42
                refine gw_ld rfl rfl ?_
                refine z_gR (q := 123) (zT S53 (by decide) rfl) (zRf S53 (by decide) (by decide) rfl) (by decide) ?_
                refine gw_ld rfl rfl ?_
                refine gw_ld rfl rfl ?_
                refine z_is (n := 330) (zT S53 (by decide) rfl) (zN S53 (by decide) rfl) (by omega) (fun h165 e166 => ?_)
                have S167 := zSh_set S53 e166
                have F168 := zW_setA F54 e166 (by decide)
                have f169 : ez_I h165 71 59 = (ez_I h37 71 59) := (zI_ne e166 (by omega)).trans (rfl)
                have f170 : ez_I h165 71 61 = (ez_I h37 71 61) := (zI_ne e166 (by omega)).trans (rfl)
                have A171 : rwJ (ez_I h165 123) (flN r a 1 x14.toInt.toNat) (a + 1) := rwJ_s (i := 0) (rwJ_z A57 rfl) e166 (by omega) (by omega) (by omega) rfl rfl
                refine z_inc rfl (by rw [show (1 : Int32).toInt = 1 from rfl]; omega) (fun x172 ex172 => ?_)
                rw [show (1 : Int32).toInt = 1 from rfl] at ex172
                show ez_gw _ _ _ _ _ _ _ _ [some (.ref 71), some (.int nl), some (.int nd), some (.int mn), some (.int x172), some (.int x14), some (.int x38), l7, l8, l9] _ _ _
                refine z_go ?_
                have t173 := congrArg Int32.toInt (f169)
                have t174 := congrArg Int32.toInt (f170)
                exact ih.1 h165 x172 (some (.int x14)) (some (.int x38)) (l7) (l8) (l9) (a + 1) q15 (flN r a 1 x14.toInt.toNat) F168 (by omega) (A_x.trans (rwX_l hL0 (by omega) sdl (by omega))) (A171) (by omega)
            · have rx46 := z_rng x46
              have S175 := zW_sh F47 S30
              have F176 := zW_tr F31 (zW_mono F47 (x73_26) (x73_38) (x73_28))
              have r177 := z_rng (ez_I h45 71 59)
              have r178 := z_rng (ez_I h45 71 61)
              have A179 : rwJ (ez_I h45 123) r a := by rw [zW_fn F47 123 (fun c => c) (x73_37)]; exact A34
              clear A34
              refine gw_st rfl rfl rfl ?_
              show ez_gw _ _ _ _ _ _ _ _ [some (.ref 71), some (.int nl), some (.int nd), some (.int mn), some (.int k), some (.int x14), some (.int x46), l7, l8, l9] _ _ _
              suffices tl : pw E (d + 2) 58 165 [some (.ref 71), some (.int nl), some (.int nd), some (.int mn), some (.int k), some (.int x14), some (.int x46), l7, l8, l9] [] h45 Q from ez_Wp_at tl rfl
              refine h_F165 (n := n) S175 (by rw [(show ez_I h45 71 6 = ez_I h 71 6 from zW_f F176 x73_32 x73_33)]; exact hN) hn6 (by omega) (by omega) (by omega) (by omega) (by have h128 : (2 ^ (rEf x14.toInt.toNat) : Nat) ≤ 2 ^ 7 := Nat.pow_le_pow_right (by decide) hre7; omega) (fun h180 F181 k182 k183 => ?_)
              have F184 := zW_tr (zW_mono F176 x73_26 x73_27 x73_28) (zW_mono F181 x73_26 x73_29 x73_28)
              exact K _ F184 (.inr ⟨k182, hXn (A_x.trans (rwL_n (by omega) (by omega) (rwS_n sdl (by have q9 := Nat.lt_or_ge x14.toInt.toNat 16; rcases q9 with q9 | q9; rw [rE_lo q9] at *; omega; exact q9) (.inr (.inl (by rw [← rE_hi ⟨by have q9 := Nat.lt_or_ge x14.toInt.toNat 16; rcases q9 with q9 | q9; rw [rE_lo q9] at *; omega; exact q9, by omega⟩]; omega))))))⟩) k183
          · have rx24 := z_rng x24
            have sdn := (sd_eq (L := L) (by decide) hLe hL0).trans k26
            have S185 := zW_sh F25 S2
            have F186 := zW_tr F (zW_mono F25 (x73_26) (x73_36) (x73_28))
            have r187 := z_rng (ez_I h23 71 59)
            have r188 := z_rng (ez_I h23 71 61)
            have A189 : rwJ (ez_I h23 123) r a := by rw [zW_fn F25 123 (by decide) (x73_37)]; exact A_rw
            refine gw_st rfl rfl rfl ?_
            show ez_gw _ _ _ _ _ _ _ _ [some (.ref 71), some (.int nl), some (.int nd), some (.int mn), some (.int k), some (.int x24), l6, l7, l8, l9] _ _ _
            suffices tl : pw E (d + 2) 58 154 [some (.ref 71), some (.int nl), some (.int nd), some (.int mn), some (.int k), some (.int x24), l6, l7, l8, l9] [] h23 Q from ez_Wp_at tl rfl
            refine h_F154 (n := n) S185 (by rw [(show ez_I h23 71 6 = ez_I h 71 6 from zW_f F186 x73_32 x73_33)]; exact hN) hn6 (by omega) (by omega) (by omega) (by omega) (by omega) (fun h190 F191 k192 k193 => ?_)
            have F194 := zW_tr (zW_mono F186 x73_26 x73_27 x73_28) (zW_mono F191 x73_26 x73_29 x73_28)
            exact K _ F194 (.inr ⟨k192, hXn (A_x.trans (rwL_n (by omega) (by omega) (rwS_0 sdn)))⟩) k193
    · skip
      have w_k := z_rng k
      have w_m := z_rng m
      have w_v := z_rng v
      have w_i := z_rng i
      have gnl := z_rng nl
      have gnd := z_rng nd
      have gmn := z_rng mn
      have S2 := zW_sh F S
      apply ez_Wp_in
      show ez_gw _ _ _ _ _ _ (cz_58) _ _ _ _ _
      refine gw_skip _ ?_
      have r195 := z_rng (ez_I h2 71 59)
      have r196 := z_rng (ez_I h2 71 61)
      refine gw_ld rfl rfl ?_
      refine gw_ld rfl rfl ?_
      refine z_b2 (fun c197 => ?_) (fun c197 => ?_)
      · have c197 : m.toInt ≤ i.toInt := c197
        refine gw_skip _ ?_
        refine z_go ?_
        exact ih.1 h2 k (l5) (l6) (some (.int m)) (some (.int v)) (some (.int i)) (a0 + t) p2 (flN r a0 t v9) F (by omega) (A_x) ((by have b1 := A_rw; rw [show j = t by omega] at b1; exact b1)) (by omega)
      · have c197 : ¬ (m.toInt ≤ i.toInt) := c197
        refine gw_ld rfl rfl ?_
        refine z_gI2 (by decide) (zT S2 (by decide) rfl) (rfl) ?_
        refine z_b1 (fun c198 => ?_) (fun c198 => ?_)
        · have c198 : ((ez_I h2 71 61)).toInt ≠ 0 := c198
          exfalso; omega
        · have c198 : ¬ (((ez_I h2 71 61)).toInt ≠ 0) := c198
          refine gw_ld rfl rfl ?_
          refine z_gR (q := 123) (zT S2 (by decide) rfl) (zRf S2 (by decide) (by decide) rfl) (by decide) ?_
          refine gw_ld rfl rfl ?_
          refine gw_ld rfl rfl ?_
          refine z_is (n := 330) (zT S2 (by decide) rfl) (zN S2 (by decide) rfl) (by omega) (fun h199 e200 => ?_)
          have S201 := zSh_set S2 e200
          have F202 := zW_setA F e200 (by decide)
          have f203 : ez_I h199 71 59 = (ez_I h2 71 59) := (zI_ne e200 (by omega)).trans (rfl)
          have f204 : ez_I h199 71 61 = (ez_I h2 71 61) := (zI_ne e200 (by omega)).trans (rfl)
          have A205 : rwJ (ez_I h199 123) (flN r a0 (j + 1) v9) (a0 + (j + 1)) := rwJ_s A_rw e200 (by omega) (by omega) (by omega) rfl rfl
          refine z_inc rfl (by rw [show (1 : Int32).toInt = 1 from rfl]; omega) (fun x206 ex206 => ?_)
          rw [show (1 : Int32).toInt = 1 from rfl] at ex206
          show ez_gw _ _ _ _ _ _ _ _ [some (.ref 71), some (.int nl), some (.int nd), some (.int mn), some (.int x206), l5, l6, some (.int m), some (.int v), some (.int i)] _ _ _
          refine z_inc rfl (by rw [show (1 : Int32).toInt = 1 from rfl]; omega) (fun x207 ex207 => ?_)
          rw [show (1 : Int32).toInt = 1 from rfl] at ex207
          show ez_gw _ _ _ _ _ _ _ _ [some (.ref 71), some (.int nl), some (.int nd), some (.int mn), some (.int x206), l5, l6, some (.int m), some (.int v), some (.int x207)] _ _ _
          refine z_go ?_
          have t208 := congrArg Int32.toInt (f203)
          have t209 := congrArg Int32.toInt (f204)
          exact ih.2 h199 x206 (l5) (l6) m v x207 a0 p2 r t (j + 1) v9 F202 (by omega) (A_x) (A205) (by omega)
set_option maxRecDepth 4000 in
set_option maxHeartbeats 2000000 in
theorem h_row {E : Nat → Nat × (Nat → Int32)} {d : Nat} {Q : ez_Q} {h : ez_H} {nl : Int32} {nd : Int32} {mn : Int32} {l4 : Option Value} {l5 : Option Value} {l6 : Option Value} {l7 : Option Value} {l8 : Option Value} {l9 : Option Value} (S : zSh h) {T : Nat → Int} {n : Nat} (hT : tB (ez_I h 72) = T) (hN : (ez_I h 71 6).toInt = (n : Nat)) (hn6 : n ≤ 6000) {p0 N1 N2 : Nat} {L : Nat → Nat} {R : Option (Nat × (Nat → Nat) × (Nat → Nat))} {X : Option (Nat × (Nat → Nat))} (hp : (ez_I h 71 59).toInt = (p0 : Nat)) (hp8 : p0 ≤ 8 * n) (hf : (ez_I h 71 61).toInt = 0) (hl : nl.toInt = (N1 : Nat) ∧ nd.toInt = (N2 : Nat) ∧ 257 ≤ N1 ∧ N1 ≤ 286 ∧ N2 ≤ 30) (ar : aR (ez_I h 122) 19 0 15) (hLe : ∀ k, k < 19 → L k = nL (ez_I h 122) k) (hL0 : ∀ k, 19 ≤ k → k < 288 → L k = 0) (hone : plN (nL (ez_I h 122)) 19 16 = 1 → ctN (nL (ez_I h 122)) 1 19 = 1) (hX0 : X = rwL T n L 288 (N1 + N2) (N1 + N2 - 0) p0 0 (fun _ => 0)) (hXn : X = none → R = none) (hXs : ∀ p2 r, X = some (p2, r) → R = if okH N1 N2 r then some (p2, litF N1 r, disF N1 N2 r) else none) (K : ∀ h2, zW (fun q k => q = 71 ∧ k = 59 ∨ q = 71 ∧ k = 61) (fun q => q = 115 ∨ q = 120 ∨ q = 121 ∨ q = 122 ∨ q = 123) (fun _ => False) h h2 → hdP (ez_I h2 120) (ez_I h2 121) (ez_I h2 71 59).toInt (ez_I h2 71 61).toInt R → (0 ≤ (ez_I h2 71 59).toInt ∧ (ez_I h2 71 59).toInt ≤ 8 * (n : Int)) → Q (.inl none) h2) : pw E (d + 2) 58 124 [some (.ref 71), some (.int nl), some (.int nd), some (.int mn), l4, l5, l6, l7, l8, l9] [] h Q := by
  have gnl := z_rng nl
  have gnd := z_rng nd
  have gmn := z_rng mn
  have F := zW_refl (fun q k => q = 71 ∧ k = 59 ∨ q = 71 ∧ k = 61) (fun q => q = 115 ∨ q = 123) (fun _ => False) h
  apply ez_Wp_in
  show ez_gw _ _ _ _ _ _ (cz_58) _ _ _ _ _
  refine gw_skip _ ?_
  have r1 := z_rng (ez_I h 71 59)
  have r2 := z_rng (ez_I h 71 61)
  refine z_C (m := 0) rfl rfl (fun x3 ex3 => ?_)
  refine gw_st rfl rfl rfl ?_
  show ez_gw _ _ _ _ _ _ _ _ [some (.ref 71), some (.int nl), some (.int nd), some (.int mn), some (.int x3), l5, l6, l7, l8, l9] _ _ _
  exact ez_Wp_at ((h_row_L0 (nl := nl) (nd := nd) (mn := mn) (l4 := l4) (l5 := l5) (l6 := l6) (l7 := l7) (l8 := l8) (l9 := l9) S hT hN hn6 hp hp8 hf hl ar hLe hL0 hone hX0 hXn hXs K (((1000 * (1000 - (0 : Int)))).toNat + 1)).1 h x3 (l5) (l6) (l7) (l8) (l9) 0 p0 (fun _ => 0) F (by omega) (hX0) (rwJ_0 _ _) (by omega)) rfl
