/-! PRINTED by wip/pack: the model packs: blocks, bytes -/
theorem x72_0 : ∀ k : Nat, ¬ (75 = 71 ∧ k = 7) := fun k c => by omega
set_option maxRecDepth 4000 in
set_option maxHeartbeats 2000000 in
theorem m_pk3_L0 {E : Nat → Nat × (Nat → Int32)} {d : Nat} {Q : ez_Q} {h : ez_H} {l1 : Option Value} {f2 : Int32} {l3 : Option Value} {l4 : Option Value} {l5 : Option Value} (S : zSh h) {S0 : Nat × Nat} (hs : mS (ez_I h 75) S0) (hb : (ez_I h 71 16).toInt = (S0.2 : Nat)) (hr : S0.2 ≤ 48800) (K : ∀ h2 (x : Int32), zW (fun q k => q = 71 ∧ k = 7) (fun q => q = 73) (fun _ => False) h h2 → x.toInt = (((S0.2 + 7) / 8 : Nat) : Int) → (ez_I h2 71 7).toInt = x.toInt → x.toInt ≤ 6100 → (∀ i : Nat, i < x.toInt.toNat → (ez_I h2 73 i).toInt % 256 = ((S0.1 / 256 ^ i % 256 : Nat) : Int)) → Q (.inl (some (.int x))) h2) : ∀ N : Nat, (∀ (h2 : ez_H) (j : Int32) , zW (fun q k => q = 71 ∧ k = 7) (fun q => q = 73) (fun _ => False) h h2 → (0 ≤ j.toInt ∧ j.toInt ≤ (ez_I h2 71 7).toInt ∧ (ez_I h2 71 7).toInt = (((S0.2 + 7) / 8 : Nat) : Int)) → ((∀ i : Nat, i < j.toInt.toNat → (ez_I h2 73 i).toInt % 256 = ((S0.1 / 256 ^ i % 256 : Nat) : Int))) → (10000 - j.toInt) < (N : Int) → pw E (d + 3) 45 131 [some (.ref 71), l1, some (.int f2), some (.int j), l4, l5] [] h2 Q) := by
  intro N
  induction N with
  | zero => exact fun h2 j  F hinv A_out hm => absurd hm (by have w_j := z_rng j; have gf2 := z_rng f2; omega)
  | succ N ih =>
    refine fun h2 j  F hinv A_out hm => ?_
    · skip
      have w_j := z_rng j
      have gf2 := z_rng f2
      have S2 := zW_sh F S
      apply ez_Wp_in
      show ez_gw _ _ _ _ _ _ (cz_45) _ _ _ _ _
      refine gw_skip _ ?_
      have r1 := z_rng (ez_I h2 71 7)
      refine gw_ld rfl rfl ?_
      refine gw_ld rfl rfl ?_
      refine z_gI2 (by decide) (zT S2 (by decide) rfl) (rfl) ?_
      refine z_b2 (fun c2 => ?_) (fun c2 => ?_)
      · have c2 : ((ez_I h2 71 7)).toInt ≤ j.toInt := c2
        refine gw_skip _ ?_
        refine gw_ld rfl rfl ?_
        refine z_gI2 (by decide) (zT S2 (by decide) rfl) (rfl) ?_
        refine z_ri ?_
        have b1 := A_out
        rw [show j.toInt.toNat = ((ez_I h2 71 7)).toInt.toNat by omega] at b1
        exact K _ _ F (by omega) rfl (by omega) b1
      · have c2 : ¬ (((ez_I h2 71 7)).toInt ≤ j.toInt) := c2
        refine gw_ld rfl rfl ?_
        refine z_gR (q := 73) (zT S2 (by decide) rfl) (zRf S2 (by decide) (by decide) rfl) (by decide) ?_
        refine gw_ld rfl rfl ?_
        refine gw_ld rfl rfl ?_
        refine z_gR (q := 75) (zT S2 (by decide) rfl) (zRf S2 (by decide) (by decide) rfl) (by decide) ?_
        refine gw_ld rfl rfl ?_
        refine z_baV (n := 8000) (zT S2 (by decide) rfl) (zN S2 (by decide) rfl) (by omega) (zW_f F (by decide) (x72_0 _)) ?_
        generalize ex3 : ez_I h 75 j.toInt.toNat = x3
        have rx3 := z_rng x3
        have yo := hs.2.2 j.toInt.toNat (by omega)
        rw [show j.toInt.toNat = j.toInt.toNat by omega, ex3] at yo
        rw [show j.toInt.toNat = j.toInt.toNat by omega] at yo
        refine z_bs (n := 6200) (zT S2 (by decide) rfl) (zN S2 (by decide) rfl) (by omega) (fun h4 e5 => ?_)
        have S7 := zSh_set S2 e5
        have F8 := zW_setA F e5 (by decide)
        have f9 : ez_I h4 71 7 = (ez_I h2 71 7) := (zI_ne e5 (by omega)).trans (rfl)
        have A10 : (∀ i : Nat, i < j.toInt.toNat + 1 → (ez_I h4 73 i).toInt % 256 = ((S0.1 / 256 ^ i % 256 : Nat) : Int)) := (fun i hi => by by_cases q : i = j.toInt.toNat; rw [q, show j.toInt.toNat = j.toInt.toNat by omega, zI_eq e5, n_i2b, show j.toInt.toNat = j.toInt.toNat by omega]; exact yo; rw [zI_ne e5 (by omega)]; exact A_out i (by omega))
        refine z_inc rfl (by rw [show (1 : Int32).toInt = 1 from rfl]; omega) (fun x11 ex11 => ?_)
        rw [show (1 : Int32).toInt = 1 from rfl] at ex11
        show ez_gw _ _ _ _ _ _ _ _ [some (.ref 71), l1, some (.int f2), some (.int x11), l4, l5] _ _ _
        refine z_go ?_
        have t12 := congrArg Int32.toInt (f9)
        exact ih h4 x11 F8 (by omega) ((by rw [show x11.toInt.toNat = j.toInt.toNat + 1 by omega]; exact A10)) (by omega)
set_option maxRecDepth 4000 in
set_option maxHeartbeats 2000000 in
theorem m_pk3 {E : Nat → Nat × (Nat → Int32)} {d : Nat} {Q : ez_Q} {h : ez_H} {l1 : Option Value} {f2 : Int32} {l3 : Option Value} {l4 : Option Value} {l5 : Option Value} (S : zSh h) {S0 : Nat × Nat} (hs : mS (ez_I h 75) S0) (hb : (ez_I h 71 16).toInt = (S0.2 : Nat)) (hr : S0.2 ≤ 48800) (K : ∀ h2 (x : Int32), zW (fun q k => q = 71 ∧ k = 7) (fun q => q = 73) (fun _ => False) h h2 → x.toInt = (((S0.2 + 7) / 8 : Nat) : Int) → (ez_I h2 71 7).toInt = x.toInt → x.toInt ≤ 6100 → (∀ i : Nat, i < x.toInt.toNat → (ez_I h2 73 i).toInt % 256 = ((S0.1 / 256 ^ i % 256 : Nat) : Int)) → Q (.inl (some (.int x))) h2) : pw E (d + 3) 45 115 [some (.ref 71), l1, some (.int f2), l3, l4, l5] [] h Q := by
  have gf2 := z_rng f2
  have F := zW_refl (fun q k => q = 71 ∧ k = 7) (fun q => q = 73) (fun _ => False) h
  apply ez_Wp_in
  show ez_gw _ _ _ _ _ _ (cz_45) _ _ _ _ _
  refine gw_skip _ ?_
  have r1 := z_rng (ez_I h 71 7)
  refine gw_ld rfl rfl ?_
  refine gw_ld rfl rfl ?_
  have r2 := z_rng (ez_I h 71 16)
  refine z_gI2 (by decide) (zT S (by decide) rfl) (zW_f F (by decide) (by decide)) ?_
  refine z_C (m := 7) rfl rfl (fun x3 ex3 => ?_)
  refine z_add (by omega) (fun x4 ex4 => ?_)
  refine z_C (m := 8) rfl rfl (fun x5 ex5 => ?_)
  refine z_dvP (c := 8) ex5 (by decide) (by omega) (fun x6 ex6 => ?_)
  refine z_pI (zT S (by decide) rfl) (fun h7 e8 => ?_)
  have S9 := zSh_set S e8
  have F10 := zW_setF F e8 (by decide)
  have f11 : ez_I h7 71 7 = x6 := zI_eq e8
  refine z_C (m := 0) rfl rfl (fun x12 ex12 => ?_)
  refine gw_st rfl rfl rfl ?_
  show ez_gw _ _ _ _ _ _ _ _ [some (.ref 71), l1, some (.int f2), some (.int x12), l4, l5] _ _ _
  have t13 := congrArg Int32.toInt (f11)
  exact ez_Wp_at ((m_pk3_L0 (l1 := l1) (f2 := f2) (l3 := l3) (l4 := l4) (l5 := l5) S hs hb hr K (((10000 - x12.toInt)).toNat + 1)) h7 x12 F10 (by omega) ((fun i hi => by omega)) (by omega)) rfl
theorem x72_1 : ¬ (72 = 75 ∨ 83 ≤ 72 ∧ 72 ≤ 91 ∨ 97 ≤ 72 ∧ 72 ≤ 119) := by omega
theorem x72_2 : ∀ k : Nat, ¬ (72 = 71 ∧ k = 15 ∨ 72 = 71 ∧ k = 16 ∨ 72 = 71 ∧ k = 56 ∨ 72 = 71 ∧ k = 57 ∨ 72 = 71 ∧ k = 58) := fun k c => by omega
theorem x72_3 : ¬ (77 = 75 ∨ 83 ≤ 77 ∧ 77 ≤ 91 ∨ 97 ≤ 77 ∧ 77 ≤ 119) := by omega
theorem x72_4 : ∀ k : Nat, ¬ (77 = 71 ∧ k = 15 ∨ 77 = 71 ∧ k = 16 ∨ 77 = 71 ∧ k = 56 ∨ 77 = 71 ∧ k = 57 ∨ 77 = 71 ∧ k = 58) := fun k c => by omega
theorem x72_5 : ¬ (78 = 75 ∨ 83 ≤ 78 ∧ 78 ≤ 91 ∨ 97 ≤ 78 ∧ 78 ≤ 119) := by omega
theorem x72_6 : ∀ k : Nat, ¬ (78 = 71 ∧ k = 15 ∨ 78 = 71 ∧ k = 16 ∨ 78 = 71 ∧ k = 56 ∨ 78 = 71 ∧ k = 57 ∨ 78 = 71 ∧ k = 58) := fun k c => by omega
theorem x72_7 : ¬ (79 = 75 ∨ 83 ≤ 79 ∧ 79 ≤ 91 ∨ 97 ≤ 79 ∧ 79 ≤ 119) := by omega
theorem x72_8 : ∀ k : Nat, ¬ (79 = 71 ∧ k = 15 ∨ 79 = 71 ∧ k = 16 ∨ 79 = 71 ∧ k = 56 ∨ 79 = 71 ∧ k = 57 ∨ 79 = 71 ∧ k = 58) := fun k c => by omega
theorem x72_9 : ¬ (80 = 75 ∨ 83 ≤ 80 ∧ 80 ≤ 91 ∨ 97 ≤ 80 ∧ 80 ≤ 119) := by omega
theorem x72_10 : ∀ k : Nat, ¬ (80 = 71 ∧ k = 15 ∨ 80 = 71 ∧ k = 16 ∨ 80 = 71 ∧ k = 56 ∨ 80 = 71 ∧ k = 57 ∨ 80 = 71 ∧ k = 58) := fun k c => by omega
theorem x72_11 : ¬ (92 = 75 ∨ 83 ≤ 92 ∧ 92 ≤ 91 ∨ 97 ≤ 92 ∧ 92 ≤ 119) := by omega
theorem x72_12 : ∀ k : Nat, ¬ (92 = 71 ∧ k = 15 ∨ 92 = 71 ∧ k = 16 ∨ 92 = 71 ∧ k = 56 ∨ 92 = 71 ∧ k = 57 ∨ 92 = 71 ∧ k = 58) := fun k c => by omega
theorem x72_13 : ¬ (93 = 75 ∨ 83 ≤ 93 ∧ 93 ≤ 91 ∨ 97 ≤ 93 ∧ 93 ≤ 119) := by omega
theorem x72_14 : ∀ k : Nat, ¬ (93 = 71 ∧ k = 15 ∨ 93 = 71 ∧ k = 16 ∨ 93 = 71 ∧ k = 56 ∨ 93 = 71 ∧ k = 57 ∨ 93 = 71 ∧ k = 58) := fun k c => by omega
theorem x72_15 : ¬ (94 = 75 ∨ 83 ≤ 94 ∧ 94 ≤ 91 ∨ 97 ≤ 94 ∧ 94 ≤ 119) := by omega
theorem x72_16 : ∀ k : Nat, ¬ (94 = 71 ∧ k = 15 ∨ 94 = 71 ∧ k = 16 ∨ 94 = 71 ∧ k = 56 ∨ 94 = 71 ∧ k = 57 ∨ 94 = 71 ∧ k = 58) := fun k c => by omega
theorem x72_17 : ¬ (95 = 75 ∨ 83 ≤ 95 ∧ 95 ≤ 91 ∨ 97 ≤ 95 ∧ 95 ≤ 119) := by omega
theorem x72_18 : ∀ k : Nat, ¬ (95 = 71 ∧ k = 15 ∨ 95 = 71 ∧ k = 16 ∨ 95 = 71 ∧ k = 56 ∨ 95 = 71 ∧ k = 57 ∨ 95 = 71 ∧ k = 58) := fun k c => by omega
theorem x72_19 : ¬ (96 = 75 ∨ 83 ≤ 96 ∧ 96 ≤ 91 ∨ 97 ≤ 96 ∧ 96 ≤ 119) := by omega
theorem x72_20 : ∀ k : Nat, ¬ (96 = 71 ∧ k = 15 ∨ 96 = 71 ∧ k = 16 ∨ 96 = 71 ∧ k = 56 ∨ 96 = 71 ∧ k = 57 ∨ 96 = 71 ∧ k = 58) := fun k c => by omega
theorem x72_21 : ∀ q k : Nat, (q = 71 ∧ k = 15 ∨ q = 71 ∧ k = 16 ∨ q = 71 ∧ k = 56 ∨ q = 71 ∧ k = 57 ∨ q = 71 ∧ k = 58) → (q = 71 ∧ k = 15 ∨ q = 71 ∧ k = 16 ∨ q = 71 ∧ k = 56 ∨ q = 71 ∧ k = 57 ∨ q = 71 ∧ k = 58) := fun q k hk => hk.elim (fun g => (.inl g)) (fun hk => hk.elim (fun g => (.inr (.inl g))) (fun hk => hk.elim (fun g => (.inr (.inr (.inl g)))) (fun hk => hk.elim (fun g => (.inr (.inr (.inr (.inl g))))) (fun hk => (.inr (.inr (.inr (.inr hk))))))))
theorem x72_22 : ∀ q : Nat, (q = 75 ∨ 83 ≤ q ∧ q ≤ 91 ∨ 97 ≤ q ∧ q ≤ 119) → (q = 75 ∨ 83 ≤ q ∧ q ≤ 91 ∨ 97 ≤ q ∧ q ≤ 119) := fun q hk => hk.elim (fun g => (.inl g)) (fun hk => hk.elim (fun g => (.inr (.inl g))) (fun hk => (.inr (.inr hk))))
theorem x72_23 : ∀ q : Nat, (False) → (False) := fun q hk => hk.elim
theorem x72_24 : ∀ q k : Nat, (q = 71 ∧ k = 15 ∨ q = 71 ∧ k = 16 ∨ q = 71 ∧ k = 56 ∨ q = 71 ∧ k = 57 ∨ q = 71 ∧ k = 58) → (q = 71 ∧ k = 15 ∨ q = 71 ∧ k = 16 ∨ q = 71 ∧ k = 56 ∨ q = 71 ∧ k = 57 ∨ q = 71 ∧ k = 58 ∨ q = 71 ∧ k = 7) := fun q k hk => hk.elim (fun g => (.inl g)) (fun hk => hk.elim (fun g => (.inr (.inl g))) (fun hk => hk.elim (fun g => (.inr (.inr (.inl g)))) (fun hk => hk.elim (fun g => (.inr (.inr (.inr (.inl g))))) (fun hk => (.inr (.inr (.inr (.inr (.inl hk)))))))))
theorem x72_25 : ∀ q : Nat, (q = 75 ∨ 83 ≤ q ∧ q ≤ 91 ∨ 97 ≤ q ∧ q ≤ 119) → (q = 73 ∨ q = 75 ∨ 83 ≤ q ∧ q ≤ 91 ∨ 97 ≤ q ∧ q ≤ 119) := fun q hk => hk.elim (fun g => (.inr (.inl g))) (fun hk => hk.elim (fun g => (.inr (.inr (.inl g)))) (fun hk => (.inr (.inr (.inr hk)))))
theorem x72_26 : ∀ q k : Nat, (q = 71 ∧ k = 7) → (q = 71 ∧ k = 15 ∨ q = 71 ∧ k = 16 ∨ q = 71 ∧ k = 56 ∨ q = 71 ∧ k = 57 ∨ q = 71 ∧ k = 58 ∨ q = 71 ∧ k = 7) := fun q k hk => (.inr (.inr (.inr (.inr (.inr hk)))))
theorem x72_27 : ∀ q : Nat, (q = 73) → (q = 73 ∨ q = 75 ∨ 83 ≤ q ∧ q ≤ 91 ∨ 97 ≤ q ∧ q ≤ 119) := fun q hk => (.inl hk)
theorem x72_28 : ¬ (71 = 73) := by omega
theorem x72_29 : ¬ (71 = 71 ∧ 15 = 7) := by omega
theorem x72_30 : ¬ (83 = 73) := by omega
theorem x72_31 : ∀ k : Nat, ¬ (83 = 71 ∧ k = 7) := fun k c => by omega
theorem x72_32 : ¬ (84 = 73) := by omega
theorem x72_33 : ∀ k : Nat, ¬ (84 = 71 ∧ k = 7) := fun k c => by omega
theorem x72_34 : ¬ (85 = 73) := by omega
theorem x72_35 : ∀ k : Nat, ¬ (85 = 71 ∧ k = 7) := fun k c => by omega
theorem x72_36 : ¬ (86 = 73) := by omega
theorem x72_37 : ∀ k : Nat, ¬ (86 = 71 ∧ k = 7) := fun k c => by omega
theorem x72_38 : ¬ (87 = 73) := by omega
theorem x72_39 : ∀ k : Nat, ¬ (87 = 71 ∧ k = 7) := fun k c => by omega
theorem x72_40 : ¬ (88 = 73) := by omega
theorem x72_41 : ∀ k : Nat, ¬ (88 = 71 ∧ k = 7) := fun k c => by omega
theorem x72_42 : ¬ (89 = 73) := by omega
theorem x72_43 : ∀ k : Nat, ¬ (89 = 71 ∧ k = 7) := fun k c => by omega
theorem x72_44 : ¬ (90 = 73) := by omega
theorem x72_45 : ∀ k : Nat, ¬ (90 = 71 ∧ k = 7) := fun k c => by omega
theorem x72_46 : ¬ (91 = 73) := by omega
theorem x72_47 : ∀ k : Nat, ¬ (91 = 71 ∧ k = 7) := fun k c => by omega
theorem x72_48 : ¬ (75 = 73) := by omega
set_option maxRecDepth 4000 in
set_option maxHeartbeats 2000000 in
theorem m_pk2_L0 {E : Nat → Nat × (Nat → Int32)} {d : Nat} {Q : ez_Q} {h : ez_H} {p : Int32} {f : Int32} {l3 : Option Value} {l4 : Option Value} {l5 : Option Value} (S : zSh h) {T : Nat → Int} {n c b : Nat} (hC : mbC (ez_I h 72) (ez_I h 77) (ez_I h 78) (ez_I h 79) (ez_I h 80) (ez_I h 92) (ez_I h 93) (ez_I h 94) (ez_I h 95) (ez_I h 96) T n c) (hc : (ez_I h 71 14).toInt = (c : Nat)) (hbn : bnP c b) (hs : mS (ez_I h 75) (0, 0)) (hb : (ez_I h 71 16).toInt = 0) (hg : aR (ez_I h 75) 8000 (-128) 127) (h15 : (ez_I h 71 15).toInt = 0) (hpf : p.toInt = 0 ∧ f.toInt = 0) (K : ∀ h2 (x : Int32), zW (fun q k => q = 71 ∧ k = 15 ∨ q = 71 ∧ k = 16 ∨ q = 71 ∧ k = 56 ∨ q = 71 ∧ k = 57 ∨ q = 71 ∧ k = 58 ∨ q = 71 ∧ k = 7) (fun q => q = 73 ∨ q = 75 ∨ 83 ≤ q ∧ q ≤ 91 ∨ 97 ≤ q ∧ q ≤ 119) (fun _ => False) h h2 → x.toInt = ((((pkS T n c b b).2 + 7) / 8 : Nat) : Int) → (ez_I h2 71 7).toInt = x.toInt → x.toInt ≤ 6100 → (∀ i : Nat, i < x.toInt.toNat → (ez_I h2 73 i).toInt % 256 = (((pkS T n c b b).1 / 256 ^ i % 256 : Nat) : Int)) → (ez_I h2 71 15).toInt = (b : Nat) → (∀ i, i < b → bfM (ez_I h2 83) (ez_I h2 84) (ez_I h2 85) (ez_I h2 86) (ez_I h2 87) (ez_I h2 88) (ez_I h2 89) (ez_I h2 90) (ez_I h2 91) T n c b i) → aR (ez_I h2 75) 8000 (-128) 127 → Q (.inl (some (.int x))) h2) : ∀ N : Nat, (∀ (h2 : ez_H) (p : Int32) (f : Int32) (l3 : Option Value) (l4 : Option Value) (l5 : Option Value) (k : Nat), zW (fun q k => q = 71 ∧ k = 15 ∨ q = 71 ∧ k = 16 ∨ q = 71 ∧ k = 56 ∨ q = 71 ∧ k = 57 ∨ q = 71 ∧ k = 58) (fun q => q = 75 ∨ 83 ≤ q ∧ q ≤ 91 ∨ 97 ≤ q ∧ q ≤ 119) (fun _ => False) h h2 → (f.toInt = ((600 * k : Nat) : Int) ∧ k < b ∧ (ez_I h2 71 15).toInt = (k : Nat) ∧ p.toInt = (ptP T n (600 * k) : Nat) ∧ (ez_I h2 71 16).toInt = ((pkS T n c b k).2 : Nat) ∧ (pkS T n c b k).2 ≤ 42 * k + 8 * ptP T n (600 * k)) → (mS (ez_I h2 75) (pkS T n c b k)) → (aR (ez_I h2 75) 8000 (-128) 127) → ((∀ i, i < k → bfM (ez_I h2 83) (ez_I h2 84) (ez_I h2 85) (ez_I h2 86) (ez_I h2 87) (ez_I h2 88) (ez_I h2 89) (ez_I h2 90) (ez_I h2 91) T n c b i)) → (1000 * (100 - (k : Int))) < (N : Int) → pw E (d + 3) 45 23 [some (.ref 71), some (.int p), some (.int f), l3, l4, l5] [] h2 Q) ∧ (∀ (h2 : ez_H) (p : Int32) (f : Int32) (t : Int32) (m : Int32) (i : Int32) (k : Nat) (j : Nat), zW (fun q k => q = 71 ∧ k = 15 ∨ q = 71 ∧ k = 16 ∨ q = 71 ∧ k = 56 ∨ q = 71 ∧ k = 57 ∨ q = 71 ∧ k = 58) (fun q => q = 75 ∨ 83 ≤ q ∧ q ≤ 91 ∨ 97 ≤ q ∧ q ≤ 119) (fun _ => False) h h2 → (f.toInt = ((600 * k : Nat) : Int) ∧ k < b ∧ (ez_I h2 71 15).toInt = (k : Nat) ∧ p.toInt = (ptP T n (600 * k) : Nat) ∧ (ez_I h2 71 16).toInt = ((pkS T n c b k).2 : Nat) ∧ (pkS T n c b k).2 ≤ 42 * k + 8 * ptP T n (600 * k) ∧ i.toInt = ((600 * k + j : Nat) : Int) ∧ j ≤ blJ c k ∧ t.toInt = ((600 * k + blJ c k : Nat) : Int) ∧ m.toInt = (bY (aM T n) (dI T n) (600 * k) j : Nat) ∧ m.toInt ≤ 258 * j) → (mS (ez_I h2 75) (pkS T n c b k)) → (aR (ez_I h2 75) 8000 (-128) 127) → ((∀ i, i < k → bfM (ez_I h2 83) (ez_I h2 84) (ez_I h2 85) (ez_I h2 86) (ez_I h2 87) (ez_I h2 88) (ez_I h2 89) (ez_I h2 90) (ez_I h2 91) T n c b i)) → (1000 * (100 - (k : Int)) - 1 - j) < (N : Int) → pw E (d + 3) 45 54 [some (.ref 71), some (.int p), some (.int f), some (.int t), some (.int m), some (.int i)] [] h2 Q) := by
  intro N
  induction N with
  | zero => exact ⟨fun h2 p f l3 l4 l5 k F hinv A_st A_hg A_bk hm => absurd hm (by have cc9 := hC.2.1; have qk := bn_b hbn hinv.2.1 cc9; have w_p := z_rng p; have w_f := z_rng f; have gp := z_rng p; have gf := z_rng f; omega), fun h2 p f t m i k j F hinv A_st A_hg A_bk hm => absurd hm (by have cc9 := hC.2.1; have qk := bn_b hbn hinv.2.1 cc9; have w_p := z_rng p; have w_f := z_rng f; have w_t := z_rng t; have w_m := z_rng m; have w_i := z_rng i; have gp := z_rng p; have gf := z_rng f; omega)⟩
  | succ N ih =>
    refine ⟨fun h2 p f l3 l4 l5 k F hinv A_st A_hg A_bk hm => ?_, fun h2 p f t m i k j F hinv A_st A_hg A_bk hm => ?_⟩
    · skip
      have cc9 := hC.2.1
      have qk := bn_b hbn hinv.2.1 cc9
      have w_p := z_rng p
      have w_f := z_rng f
      have gp := z_rng p
      have gf := z_rng f
      have S2 := zW_sh F S
      obtain ⟨hf, hkb, h15k, hp, h16, hle⟩ := hinv
      obtain ⟨cn, cc, hT0, hB, hpm, hlt, hpe, t92, t93, t94, t95, t96⟩ := id hC
      clear hB t92 t93 t94 t95 t96
      obtain ⟨q600, qJc, qJ6, qk9⟩ := bn_b hbn hkb cc
      apply ez_Wp_in
      show ez_gw _ _ _ _ _ _ (cz_45) _ _ _ _ _
      refine gw_skip _ ?_
      have r1 := z_rng (ez_I h2 71 15)
      have r2 := z_rng (ez_I h2 71 16)
      have r3 := z_rng (ez_I h2 71 56)
      have r4 := z_rng (ez_I h2 71 57)
      have r5 := z_rng (ez_I h2 71 58)
      refine gw_ld rfl rfl ?_
      refine z_C (m := 600) rfl rfl (fun x6 ex6 => ?_)
      refine z_add (by omega) (fun x7 ex7 => ?_)
      refine gw_ld rfl rfl ?_
      have r8 := z_rng (ez_I h 71 14)
      refine z_gI2 (by decide) (zT S2 (by decide) rfl) (zW_f F (by decide) (by decide)) ?_
      refine z_b2 (fun c9 => ?_) (fun c9 => ?_)
      · have c9 : ((ez_I h 71 14)).toInt ≤ x7.toInt := c9
        refine gw_skip _ ?_
        refine gw_ld rfl rfl ?_
        refine z_gI2 (by decide) (zT S2 (by decide) rfl) (zW_f F (by decide) (by decide)) ?_
        refine gw_st rfl rfl rfl ?_
        show ez_gw _ _ _ _ _ _ _ _ [some (.ref 71), some (.int p), some (.int f), some (.int (ez_I h 71 14)), l4, l5] _ _ _
        refine z_C (m := 0) rfl rfl (fun x10 ex10 => ?_)
        refine gw_st rfl rfl rfl ?_
        show ez_gw _ _ _ _ _ _ _ _ [some (.ref 71), some (.int p), some (.int f), some (.int (ez_I h 71 14)), some (.int x10), l5] _ _ _
        refine gw_ld rfl rfl ?_
        refine gw_st rfl rfl rfl ?_
        show ez_gw _ _ _ _ _ _ _ _ [some (.ref 71), some (.int p), some (.int f), some (.int (ez_I h 71 14)), some (.int x10), some (.int f)] _ _ _
        exact ez_Wp_at (ih.2 h2 p f (ez_I h 71 14) x10 f k 0 F (⟨hf, hkb, h15k, hp, h16, hle, by omega, by omega, by have q9 := bl_e (c := c) (k := k) (by omega) (by omega); omega, by show _ = ((0 : Nat) : Int); omega, by omega⟩) (A_st) (A_hg) (A_bk) (by omega)) rfl
      · have c9 : ¬ (((ez_I h 71 14)).toInt ≤ x7.toInt) := c9
        refine gw_ld rfl rfl ?_
        refine z_C (m := 600) rfl rfl (fun x11 ex11 => ?_)
        refine z_add (by omega) (fun x12 ex12 => ?_)
        refine z_go ?_
        refine gw_skip _ ?_
        refine gw_st rfl rfl rfl ?_
        show ez_gw _ _ _ _ _ _ _ _ [some (.ref 71), some (.int p), some (.int f), some (.int x12), l4, l5] _ _ _
        refine z_C (m := 0) rfl rfl (fun x13 ex13 => ?_)
        refine gw_st rfl rfl rfl ?_
        show ez_gw _ _ _ _ _ _ _ _ [some (.ref 71), some (.int p), some (.int f), some (.int x12), some (.int x13), l5] _ _ _
        refine gw_ld rfl rfl ?_
        refine gw_st rfl rfl rfl ?_
        show ez_gw _ _ _ _ _ _ _ _ [some (.ref 71), some (.int p), some (.int f), some (.int x12), some (.int x13), some (.int f)] _ _ _
        exact ez_Wp_at (ih.2 h2 p f x12 x13 f k 0 F (⟨hf, hkb, h15k, hp, h16, hle, by omega, by omega, by have q9 := bl_t (c := c) (k := k) (by omega); omega, by show _ = ((0 : Nat) : Int); omega, by omega⟩) (A_st) (A_hg) (A_bk) (by omega)) rfl
    · skip
      have cc9 := hC.2.1
      have qk := bn_b hbn hinv.2.1 cc9
      have w_p := z_rng p
      have w_f := z_rng f
      have w_t := z_rng t
      have w_m := z_rng m
      have w_i := z_rng i
      have gp := z_rng p
      have gf := z_rng f
      have S2 := zW_sh F S
      obtain ⟨hf, hkb, h15k, hp, h16, hle, hi, hj, ht, hm9, hmb⟩ := hinv
      obtain ⟨cn, cc, hT0, hB, hpm, hlt, hpe, t92, t93, t94, t95, t96⟩ := id hC
      clear hB t92 t93 t94 t95 t96
      obtain ⟨q600, qJc, qJ6, qk9⟩ := bn_b hbn hkb cc
      apply ez_Wp_in
      show ez_gw _ _ _ _ _ _ (cz_45) _ _ _ _ _
      refine gw_skip _ ?_
      have r14 := z_rng (ez_I h2 71 15)
      have r15 := z_rng (ez_I h2 71 16)
      have r16 := z_rng (ez_I h2 71 56)
      have r17 := z_rng (ez_I h2 71 57)
      have r18 := z_rng (ez_I h2 71 58)
      refine gw_ld rfl rfl ?_
      refine gw_ld rfl rfl ?_
      refine z_b2 (fun c19 => ?_) (fun c19 => ?_)
      · have c19 : t.toInt ≤ i.toInt := c19
        refine gw_skip _ ?_
        have hjJ : j = blJ c k := by omega
        rw [hjJ] at hm9
        have hyk0 : bkY T n (600 * k) (blJ c k) = bY (aM T n) (dI T n) (600 * k) (blJ c k) := rfl
        refine gw_ld rfl rfl ?_
        refine gw_ld rfl rfl ?_
        refine gw_ld rfl rfl ?_
        refine gw_ld rfl rfl ?_
        refine gw_ld rfl rfl ?_
        refine gw_ld rfl rfl ?_
        refine gw_ld rfl rfl ?_
        have r20 := z_rng (ez_I h 71 14)
        refine z_gI2 (by decide) (zT S2 (by decide) rfl) (zW_f F (by decide) (by decide)) ?_
        refine z_b2 (fun c21 => ?_) (fun c21 => ?_)
        · have c21 : t.toInt ≠ ((ez_I h 71 14)).toInt := c21
          refine gw_skip _ ?_
          refine z_C (m := 0) rfl rfl (fun x22 ex22 => ?_)
          refine z_cl rfl rfl rfl rfl rfl rfl rfl rfl rfl rfl rfl (zT S2 (by decide) rfl) ?_
          have hA := mbA_of (fr := f) (to := t) (pl := p) (my := m) hT0 hlt (a := 600 * k) (j := blJ c k) (by omega) (by omega) (by omega) (by omega) (by omega) (by omega)
          have hY := hA.2.2.2.2.2.2
          have hY1 := hA.2.2.2.2.2.1
          have hlb : x22.toInt = (((if k + 1 = b then 1 else 0) : Nat) : Int) ∧ (if k + 1 = b then 1 else 0) ≤ 1 := by
            rw [if_neg (by have q9 := bn_n hbn hkb (by omega); omega)]; omega
          refine d_wBlock (fr := f) (to := t) (pl := p) (my := m) (ls := x22) (T := T) (n := n) (c := c) (a := 600 * k) (J := blJ c k) (l := (if k + 1 = b then 1 else 0)) (bn := k) (s0 := (pkS T n c b k)) S2 (by rw [(show ez_I h2 72 = ez_I h 72 from zW_fn F 72 x72_1 x72_2), (show ez_I h2 77 = ez_I h 77 from zW_fn F 77 x72_3 x72_4), (show ez_I h2 78 = ez_I h 78 from zW_fn F 78 x72_5 x72_6), (show ez_I h2 79 = ez_I h 79 from zW_fn F 79 x72_7 x72_8), (show ez_I h2 80 = ez_I h 80 from zW_fn F 80 x72_9 x72_10), (show ez_I h2 92 = ez_I h 92 from zW_fn F 92 x72_11 x72_12), (show ez_I h2 93 = ez_I h 93 from zW_fn F 93 x72_13 x72_14), (show ez_I h2 94 = ez_I h 94 from zW_fn F 94 x72_15 x72_16), (show ez_I h2 95 = ez_I h 95 from zW_fn F 95 x72_17 x72_18), (show ez_I h2 96 = ez_I h 96 from zW_fn F 96 x72_19 x72_20)]; exact hC) hA hlb A_st (by omega) A_hg (by omega) (by omega) (fun h23 F24 k25 k26 k27 k28 k29 => ?_)
          have A30 : mS (ez_I h23 75) (pkS T n c b (k + 1)) := m_mS k26
          obtain ⟨o3, o4, o5, o6, o7, o8, o9, o0, o1⟩ := k29
          have A31 := bfM_s A_bk o3 o4 o5 o6 o7 o8 o9 o0 o1 rfl rfl rfl rfl rfl rfl rfl rfl rfl
          have hb1 : (ez_I h23 71 16).toInt = ((pkS T n c b (k + 1)).2 : Nat) := k26.1
          have hb2 : (pkS T n c b (k + 1)).2 ≤ (pkS T n c b k).2 + 42 + 8 * bkY T n (600 * k) (blJ c k) := k25
          clear o3 o4 o5 o6 o7 o8 o9 o0 o1 k25 k26
          have hby := bY_pt (T := T) (n := n) (a := 600 * k) hT0 hlt (blJ c k) (by omega)
          have hyk : bkY T n (600 * k) (blJ c k) = bY (aM T n) (dI T n) (600 * k) (blJ c k) := rfl
          have S32 := zW_sh F24 S2
          have F33 := zW_tr F (zW_mono F24 (x72_21) (x72_22) (x72_23))
          have r34 := z_rng (ez_I h23 71 15)
          have r35 := z_rng (ez_I h23 71 16)
          have r36 := z_rng (ez_I h23 71 56)
          have r37 := z_rng (ez_I h23 71 57)
          have r38 := z_rng (ez_I h23 71 58)
          refine gw_ld rfl rfl ?_
          refine gw_ld rfl rfl ?_
          refine z_add (by omega) (fun x39 ex39 => ?_)
          refine gw_st rfl rfl rfl ?_
          show ez_gw _ _ _ _ _ _ _ _ [some (.ref 71), some (.int x39), some (.int f), some (.int t), some (.int m), some (.int i)] _ _ _
          refine gw_ld rfl rfl ?_
          refine gw_st rfl rfl rfl ?_
          show ez_gw _ _ _ _ _ _ _ _ [some (.ref 71), some (.int x39), some (.int t), some (.int t), some (.int m), some (.int i)] _ _ _
          refine gw_ld rfl rfl ?_
          refine gw_ld rfl rfl ?_
          refine z_gI2 (by decide) (zT S32 (by decide) rfl) (zW_f F33 (by decide) (by decide)) ?_
          refine z_b2 (fun c40 => ?_) (fun c40 => ?_)
          · have c40 : t.toInt < ((ez_I h 71 14)).toInt := c40
            have q9 := bn_n hbn hkb (by omega)
            exact ih.1 h23 x39 t (some (.int t)) (some (.int m)) (some (.int i)) (k + 1) F33 (⟨by omega, by omega, by omega, by rw [show 600 * (k + 1) = 600 * k + blJ c k by omega]; omega, by omega, by rw [show 600 * (k + 1) = 600 * k + blJ c k by omega]; omega⟩) (A30) (k27) (A31) (by omega)
          · have c40 : ¬ (t.toInt < ((ez_I h 71 14)).toInt) := c40
            have hkb1 : k + 1 = b := bn_e hbn hkb (by omega)
            suffices tl : pw E (d + 3) 45 115 [some (.ref 71), some (.int x39), some (.int t), some (.int t), some (.int m), some (.int i)] [] h23 Q from ez_Wp_at tl rfl
            refine m_pk3 (S0 := (pkS T n c b b)) S32 (by have b1 := A30; rw [hkb1] at b1; exact b1) (by have b1 := hb1; rw [hkb1] at b1; exact b1) (by rw [hkb1] at hb2; omega) (fun h41 x42 F43 k44 k45 k46 k47 => ?_)
            have F48 := zW_tr (zW_mono F33 x72_24 x72_25 x72_23) (zW_mono F43 x72_26 x72_27 x72_23)
            exact K _ _ F48 k44 k45 k46 k47 (by rw [(show ez_I h41 71 15 = ez_I h23 71 15 from zW_f F43 x72_28 x72_29)]; omega) (by rw [(show ez_I h41 83 = ez_I h23 83 from zW_fn F43 83 x72_30 x72_31), (show ez_I h41 84 = ez_I h23 84 from zW_fn F43 84 x72_32 x72_33), (show ez_I h41 85 = ez_I h23 85 from zW_fn F43 85 x72_34 x72_35), (show ez_I h41 86 = ez_I h23 86 from zW_fn F43 86 x72_36 x72_37), (show ez_I h41 87 = ez_I h23 87 from zW_fn F43 87 x72_38 x72_39), (show ez_I h41 88 = ez_I h23 88 from zW_fn F43 88 x72_40 x72_41), (show ez_I h41 89 = ez_I h23 89 from zW_fn F43 89 x72_42 x72_43), (show ez_I h41 90 = ez_I h23 90 from zW_fn F43 90 x72_44 x72_45), (show ez_I h41 91 = ez_I h23 91 from zW_fn F43 91 x72_46 x72_47)]; have b1 := A31; rw [hkb1] at b1; exact b1) (by rw [(show ez_I h41 75 = ez_I h23 75 from zW_fn F43 75 x72_48 x72_0)]; exact k27)
        · have c21 : ¬ (t.toInt ≠ ((ez_I h 71 14)).toInt) := c21
          refine z_C (m := 1) rfl rfl (fun x49 ex49 => ?_)
          refine z_go ?_
          refine gw_skip _ ?_
          refine z_cl rfl rfl rfl rfl rfl rfl rfl rfl rfl rfl rfl (zT S2 (by decide) rfl) ?_
          have hA := mbA_of (fr := f) (to := t) (pl := p) (my := m) hT0 hlt (a := 600 * k) (j := blJ c k) (by omega) (by omega) (by omega) (by omega) (by omega) (by omega)
          have hY := hA.2.2.2.2.2.2
          have hY1 := hA.2.2.2.2.2.1
          have hlb : x49.toInt = (((if k + 1 = b then 1 else 0) : Nat) : Int) ∧ (if k + 1 = b then 1 else 0) ≤ 1 := by
            rw [if_pos (bn_e hbn hkb (by omega))]; omega
          refine d_wBlock (fr := f) (to := t) (pl := p) (my := m) (ls := x49) (T := T) (n := n) (c := c) (a := 600 * k) (J := blJ c k) (l := (if k + 1 = b then 1 else 0)) (bn := k) (s0 := (pkS T n c b k)) S2 (by rw [(show ez_I h2 72 = ez_I h 72 from zW_fn F 72 x72_1 x72_2), (show ez_I h2 77 = ez_I h 77 from zW_fn F 77 x72_3 x72_4), (show ez_I h2 78 = ez_I h 78 from zW_fn F 78 x72_5 x72_6), (show ez_I h2 79 = ez_I h 79 from zW_fn F 79 x72_7 x72_8), (show ez_I h2 80 = ez_I h 80 from zW_fn F 80 x72_9 x72_10), (show ez_I h2 92 = ez_I h 92 from zW_fn F 92 x72_11 x72_12), (show ez_I h2 93 = ez_I h 93 from zW_fn F 93 x72_13 x72_14), (show ez_I h2 94 = ez_I h 94 from zW_fn F 94 x72_15 x72_16), (show ez_I h2 95 = ez_I h 95 from zW_fn F 95 x72_17 x72_18), (show ez_I h2 96 = ez_I h 96 from zW_fn F 96 x72_19 x72_20)]; exact hC) hA hlb A_st (by omega) A_hg (by omega) (by omega) (fun h50 F51 k52 k53 k54 k55 k56 => ?_)
          have A57 : mS (ez_I h50 75) (pkS T n c b (k + 1)) := m_mS k53
          obtain ⟨o3, o4, o5, o6, o7, o8, o9, o0, o1⟩ := k56
          have A58 := bfM_s A_bk o3 o4 o5 o6 o7 o8 o9 o0 o1 rfl rfl rfl rfl rfl rfl rfl rfl rfl
          have hb1 : (ez_I h50 71 16).toInt = ((pkS T n c b (k + 1)).2 : Nat) := k53.1
          have hb2 : (pkS T n c b (k + 1)).2 ≤ (pkS T n c b k).2 + 42 + 8 * bkY T n (600 * k) (blJ c k) := k52
          clear o3 o4 o5 o6 o7 o8 o9 o0 o1 k52 k53
          have hby := bY_pt (T := T) (n := n) (a := 600 * k) hT0 hlt (blJ c k) (by omega)
          have hyk : bkY T n (600 * k) (blJ c k) = bY (aM T n) (dI T n) (600 * k) (blJ c k) := rfl
          have S59 := zW_sh F51 S2
          have F60 := zW_tr F (zW_mono F51 (x72_21) (x72_22) (x72_23))
          have r61 := z_rng (ez_I h50 71 15)
          have r62 := z_rng (ez_I h50 71 16)
          have r63 := z_rng (ez_I h50 71 56)
          have r64 := z_rng (ez_I h50 71 57)
          have r65 := z_rng (ez_I h50 71 58)
          refine gw_ld rfl rfl ?_
          refine gw_ld rfl rfl ?_
          refine z_add (by omega) (fun x66 ex66 => ?_)
          refine gw_st rfl rfl rfl ?_
          show ez_gw _ _ _ _ _ _ _ _ [some (.ref 71), some (.int x66), some (.int f), some (.int t), some (.int m), some (.int i)] _ _ _
          refine gw_ld rfl rfl ?_
          refine gw_st rfl rfl rfl ?_
          show ez_gw _ _ _ _ _ _ _ _ [some (.ref 71), some (.int x66), some (.int t), some (.int t), some (.int m), some (.int i)] _ _ _
          refine gw_ld rfl rfl ?_
          refine gw_ld rfl rfl ?_
          refine z_gI2 (by decide) (zT S59 (by decide) rfl) (zW_f F60 (by decide) (by decide)) ?_
          refine z_b2 (fun c67 => ?_) (fun c67 => ?_)
          · have c67 : t.toInt < ((ez_I h 71 14)).toInt := c67
            exfalso; omega
          · have c67 : ¬ (t.toInt < ((ez_I h 71 14)).toInt) := c67
            have hkb1 : k + 1 = b := bn_e hbn hkb (by omega)
            suffices tl : pw E (d + 3) 45 115 [some (.ref 71), some (.int x66), some (.int t), some (.int t), some (.int m), some (.int i)] [] h50 Q from ez_Wp_at tl rfl
            refine m_pk3 (S0 := (pkS T n c b b)) S59 (by have b1 := A57; rw [hkb1] at b1; exact b1) (by have b1 := hb1; rw [hkb1] at b1; exact b1) (by rw [hkb1] at hb2; omega) (fun h68 x69 F70 k71 k72 k73 k74 => ?_)
            have F75 := zW_tr (zW_mono F60 x72_24 x72_25 x72_23) (zW_mono F70 x72_26 x72_27 x72_23)
            exact K _ _ F75 k71 k72 k73 k74 (by rw [(show ez_I h68 71 15 = ez_I h50 71 15 from zW_f F70 x72_28 x72_29)]; omega) (by rw [(show ez_I h68 83 = ez_I h50 83 from zW_fn F70 83 x72_30 x72_31), (show ez_I h68 84 = ez_I h50 84 from zW_fn F70 84 x72_32 x72_33), (show ez_I h68 85 = ez_I h50 85 from zW_fn F70 85 x72_34 x72_35), (show ez_I h68 86 = ez_I h50 86 from zW_fn F70 86 x72_36 x72_37), (show ez_I h68 87 = ez_I h50 87 from zW_fn F70 87 x72_38 x72_39), (show ez_I h68 88 = ez_I h50 88 from zW_fn F70 88 x72_40 x72_41), (show ez_I h68 89 = ez_I h50 89 from zW_fn F70 89 x72_42 x72_43), (show ez_I h68 90 = ez_I h50 90 from zW_fn F70 90 x72_44 x72_45), (show ez_I h68 91 = ez_I h50 91 from zW_fn F70 91 x72_46 x72_47)]; have b1 := A58; rw [hkb1] at b1; exact b1) (by rw [(show ez_I h68 75 = ez_I h50 75 from zW_fn F70 75 x72_48 x72_0)]; exact k54)
      · have c19 : ¬ (t.toInt ≤ i.toInt) := c19
        refine gw_ld rfl rfl ?_
        refine gw_ld rfl rfl ?_
        refine z_gR (q := 77) (zT S2 (by decide) rfl) (zRf S2 (by decide) (by decide) rfl) (by decide) ?_
        refine gw_ld rfl rfl ?_
        refine z_iaV (n := 6000) (zT S2 (by decide) rfl) (zN S2 (by decide) rfl) (by omega) (zW_f F (by decide) (x72_4 _)) ?_
        generalize ex76 : ez_I h 77 i.toInt.toNat = x76
        have rx76 := z_rng x76
        have yx76 := (hpm (600 * k + j) (by omega)).1
        rw [show 600 * k + j = i.toInt.toNat by omega, ex76] at yx76
        rw [show i.toInt.toNat = 600 * k + j by omega] at yx76
        have hbv := bY_n (a := 600 * k) (j := j) hT0 hlt (by omega)
        refine z_add (by omega) (fun x77 ex77 => ?_)
        refine gw_st rfl rfl rfl ?_
        show ez_gw _ _ _ _ _ _ _ _ [some (.ref 71), some (.int p), some (.int f), some (.int t), some (.int x77), some (.int i)] _ _ _
        refine z_inc rfl (by rw [show (1 : Int32).toInt = 1 from rfl]; omega) (fun x78 ex78 => ?_)
        rw [show (1 : Int32).toInt = 1 from rfl] at ex78
        show ez_gw _ _ _ _ _ _ _ _ [some (.ref 71), some (.int p), some (.int f), some (.int t), some (.int x77), some (.int x78)] _ _ _
        refine z_go ?_
        exact ih.2 h2 p f t x77 x78 k (j + 1) F (⟨hf, hkb, h15k, hp, h16, hle, by omega, by omega, by omega, by omega, by omega⟩) (A_st) (A_hg) (A_bk) (by omega)
set_option maxRecDepth 4000 in
set_option maxHeartbeats 2000000 in
theorem m_pk2 {E : Nat → Nat × (Nat → Int32)} {d : Nat} {Q : ez_Q} {h : ez_H} {p : Int32} {f : Int32} {l3 : Option Value} {l4 : Option Value} {l5 : Option Value} (S : zSh h) {T : Nat → Int} {n c b : Nat} (hC : mbC (ez_I h 72) (ez_I h 77) (ez_I h 78) (ez_I h 79) (ez_I h 80) (ez_I h 92) (ez_I h 93) (ez_I h 94) (ez_I h 95) (ez_I h 96) T n c) (hc : (ez_I h 71 14).toInt = (c : Nat)) (hbn : bnP c b) (hs : mS (ez_I h 75) (0, 0)) (hb : (ez_I h 71 16).toInt = 0) (hg : aR (ez_I h 75) 8000 (-128) 127) (h15 : (ez_I h 71 15).toInt = 0) (hpf : p.toInt = 0 ∧ f.toInt = 0) (K : ∀ h2 (x : Int32), zW (fun q k => q = 71 ∧ k = 15 ∨ q = 71 ∧ k = 16 ∨ q = 71 ∧ k = 56 ∨ q = 71 ∧ k = 57 ∨ q = 71 ∧ k = 58 ∨ q = 71 ∧ k = 7) (fun q => q = 73 ∨ q = 75 ∨ 83 ≤ q ∧ q ≤ 91 ∨ 97 ≤ q ∧ q ≤ 119) (fun _ => False) h h2 → x.toInt = ((((pkS T n c b b).2 + 7) / 8 : Nat) : Int) → (ez_I h2 71 7).toInt = x.toInt → x.toInt ≤ 6100 → (∀ i : Nat, i < x.toInt.toNat → (ez_I h2 73 i).toInt % 256 = (((pkS T n c b b).1 / 256 ^ i % 256 : Nat) : Int)) → (ez_I h2 71 15).toInt = (b : Nat) → (∀ i, i < b → bfM (ez_I h2 83) (ez_I h2 84) (ez_I h2 85) (ez_I h2 86) (ez_I h2 87) (ez_I h2 88) (ez_I h2 89) (ez_I h2 90) (ez_I h2 91) T n c b i) → aR (ez_I h2 75) 8000 (-128) 127 → Q (.inl (some (.int x))) h2) : pw E (d + 3) 45 23 [some (.ref 71), some (.int p), some (.int f), l3, l4, l5] [] h Q := by
  have gp := z_rng p
  have gf := z_rng f
  have h0b : 0 < b := by unfold bnP at hbn; omega
  have hi0 : f.toInt = ((600 * 0 : Nat) : Int) ∧ 0 < b ∧ (ez_I h 71 15).toInt = ((0 : Nat) : Int) ∧ p.toInt = (ptP T n (600 * 0) : Nat) ∧ (ez_I h 71 16).toInt = ((pkS T n c b 0).2 : Nat) ∧ (pkS T n c b 0).2 ≤ 42 * 0 + 8 * ptP T n (600 * 0) := ⟨by omega, h0b, by omega, by show _ = ((0 : Nat) : Int); omega, by show _ = ((0 : Nat) : Int); omega, Nat.zero_le _⟩
  have F := zW_refl (fun q k => q = 71 ∧ k = 15 ∨ q = 71 ∧ k = 16 ∨ q = 71 ∧ k = 56 ∨ q = 71 ∧ k = 57 ∨ q = 71 ∧ k = 58) (fun q => q = 75 ∨ 83 ≤ q ∧ q ≤ 91 ∨ 97 ≤ q ∧ q ≤ 119) (fun _ => False) h
  apply ez_Wp_in
  show ez_gw _ _ _ _ _ _ (cz_45) _ _ _ _ _
  refine gw_skip _ ?_
  have r1 := z_rng (ez_I h 71 15)
  have r2 := z_rng (ez_I h 71 16)
  have r3 := z_rng (ez_I h 71 56)
  have r4 := z_rng (ez_I h 71 57)
  have r5 := z_rng (ez_I h 71 58)
  skip
  exact ez_Wp_at ((m_pk2_L0 (p := p) (f := f) (l3 := l3) (l4 := l4) (l5 := l5) S hC hc hbn hs hb hg h15 hpf K (((1000 * (100 - (0 : Int)))).toNat + 1)).1 h p f (l3) (l4) (l5) 0 F (hi0) (hs) (hg) ((fun i hi => by omega)) (by omega)) rfl
