/-! PRINTED by wip/pack: the model reads a head -/
theorem x73_41 : ¬ (72 = 122) := by omega
theorem x73_42 : ∀ k : Nat, ¬ (72 = 71 ∧ k = 59 ∨ 72 = 71 ∧ k = 61) := fun k c => by omega
theorem x73_43 : ¬ (71 = 122) := by omega
theorem x73_44 : ¬ (71 = 71 ∧ 6 = 59 ∨ 71 = 71 ∧ 6 = 61) := by omega
theorem x73_45 : ∀ q k : Nat, (q = 71 ∧ k = 59 ∨ q = 71 ∧ k = 61) → (q = 71 ∧ k = 59 ∨ q = 71 ∧ k = 61) := fun q k hk => hk.elim (fun g => (.inl g)) (fun hk => (.inr hk))
theorem x73_46 : ∀ q : Nat, (q = 122) → (q = 115 ∨ q = 120 ∨ q = 121 ∨ q = 122 ∨ q = 123) := fun q hk => (.inr (.inr (.inr (.inl hk))))
theorem x73_47 : ∀ q : Nat, (False) → (False) := fun q hk => hk.elim
theorem x73_48 : ∀ q : Nat, (q = 115 ∨ q = 120 ∨ q = 121 ∨ q = 122 ∨ q = 123) → (q = 115 ∨ q = 120 ∨ q = 121 ∨ q = 122 ∨ q = 123) := fun q hk => hk.elim (fun g => (.inl g)) (fun hk => hk.elim (fun g => (.inr (.inl g))) (fun hk => hk.elim (fun g => (.inr (.inr (.inl g)))) (fun hk => hk.elim (fun g => (.inr (.inr (.inr (.inl g))))) (fun hk => (.inr (.inr (.inr (.inr hk))))))))
theorem x73_49 : ∀ q k : Nat, (q = 71 ∧ k = 61) → (q = 71 ∧ k = 59 ∨ q = 71 ∧ k = 61) := fun q k hk => (.inr hk)
theorem x73_50 : ∀ q : Nat, (False) → (q = 122) := fun q hk => hk.elim
theorem x73_51 : ∀ k : Nat, ¬ (122 = 71 ∧ k = 61) := fun k c => by omega
theorem x73_52 : ∀ k : Nat, ¬ (96 = 71 ∧ k = 59 ∨ 96 = 71 ∧ k = 61) := fun k c => by omega
theorem x73_53 : ∀ k : Nat, ¬ (122 = 71 ∧ k = 59 ∨ 122 = 71 ∧ k = 61) := fun k c => by omega
set_option maxRecDepth 4000 in
set_option maxHeartbeats 2000000 in
theorem h_al_L1 {E : Nat → Nat × (Nat → Int32)} {d : Nat} {Q : ez_Q} {h : ez_H} {nl : Int32} {nd : Int32} {mn : Int32} {l4 : Option Value} {l5 : Option Value} {l6 : Option Value} {l7 : Option Value} {l8 : Option Value} {l9 : Option Value} (S : zSh h) {T : Nat → Int} {n : Nat} (hT : tB (ez_I h 72) = T) (hN : (ez_I h 71 6).toInt = (n : Nat)) (hn6 : n ≤ 6000) {p N1 N2 M : Nat} {R : Option (Nat × (Nat → Nat) × (Nat → Nat))} (hp : (ez_I h 71 59).toInt = ((p + 14 : Nat) : Int)) (hp8 : p + 14 ≤ 8 * n) (hf : (ez_I h 71 61).toInt = 0) (hl : nl.toInt = (N1 : Nat) ∧ nd.toInt = (N2 : Nat) ∧ mn.toInt = (M : Nat) ∧ 257 ≤ N1 ∧ N1 ≤ 286 ∧ N2 ≤ 30 ∧ M ≤ 19) (t96 : ctI (ez_I h 96) ORf 19) (hXn : hd2 T n (p + 14) N1 N2 M = none → R = none) (hXs : ∀ p2 r, hd2 T n (p + 14) N1 N2 M = some (p2, r) → R = if okH N1 N2 r then some (p2, litF N1 r, disF N1 N2 r) else none) (K : ∀ h2, zW (fun q k => q = 71 ∧ k = 59 ∨ q = 71 ∧ k = 61) (fun q => q = 115 ∨ q = 120 ∨ q = 121 ∨ q = 122 ∨ q = 123) (fun _ => False) h h2 → hdP (ez_I h2 120) (ez_I h2 121) (ez_I h2 71 59).toInt (ez_I h2 71 61).toInt R → (0 ≤ (ez_I h2 71 59).toInt ∧ (ez_I h2 71 59).toInt ≤ 8 * (n : Int)) → Q (.inl none) h2) : ∀ N : Nat, (∀ (h2 : ez_H) (k : Int32) , zW (fun q k => q = 71 ∧ k = 59 ∨ q = 71 ∧ k = 61) (fun q => q = 122) (fun _ => False) h h2 → (0 ≤ k.toInt ∧ k.toInt ≤ M ∧ (ez_I h2 71 61).toInt = 0 ∧ (ez_I h2 71 59).toInt = ((p + 14 + 3 * k.toInt.toNat : Nat) : Int) ∧ p + 14 + 3 * k.toInt.toNat ≤ 8 * n) → (alI (ez_I h2 122) T (p + 14) k.toInt.toNat 19) → (100 - k.toInt) < (N : Int) → pw E (d + 2) 58 71 [some (.ref 71), some (.int nl), some (.int nd), some (.int mn), some (.int k), l5, l6, l7, l8, l9] [] h2 Q) := by
  intro N
  induction N with
  | zero => exact fun h2 k  F hinv A_al hm => absurd hm (by have w_k := z_rng k; have gnl := z_rng nl; have gnd := z_rng nd; have gmn := z_rng mn; omega)
  | succ N ih =>
    refine fun h2 k  F hinv A_al hm => ?_
    · skip
      have w_k := z_rng k
      have gnl := z_rng nl
      have gnd := z_rng nd
      have gmn := z_rng mn
      have S2 := zW_sh F S
      apply ez_Wp_in
      show ez_gw _ _ _ _ _ _ (cz_58) _ _ _ _ _
      refine gw_skip _ ?_
      have r1 := z_rng (ez_I h2 71 59)
      have r2 := z_rng (ez_I h2 71 61)
      refine gw_ld rfl rfl ?_
      refine gw_ld rfl rfl ?_
      refine z_b2 (fun c3 => ?_) (fun c3 => ?_)
      · have c3 : mn.toInt ≤ k.toInt := c3
        refine gw_skip _ ?_
        refine gw_ld rfl rfl ?_
        refine z_gR (q := 122) (zT S2 (by decide) rfl) (zRf S2 (by decide) (by decide) rfl) (by decide) ?_
        refine z_C (m := 19) rfl rfl (fun x4 ex4 => ?_)
        refine z_cl rfl rfl rfl rfl rfl rfl rfl rfl rfl rfl rfl (trivial) ?_
        have hali : alI (ez_I h2 122) T (p + 14) M 19 := by have b1 := A_al; rw [show k.toInt.toNat = M by omega] at b1; exact b1
        refine d_whole (u := 122) (n := x4) S2 (nu := 19) (fun _ S => ⟨zT S (by decide) rfl, zN S (by decide) rfl⟩) (by omega) (by rw [show x4.toInt.toNat = 19 by omega]; exact al_19 hali) (fun x5 k6 => ?_)
        have rx5 := z_rng x5
        rw [show x4.toInt.toNat = 19 by omega, ← ws_ext (L := alF T (p + 14) M) 288 (by decide) (fun k hk => (al_nL hali k hk).symm) (fun k a b => alF_0 _ (by omega) k a)] at k6
        refine z_b1 (fun c7 => ?_) (fun c7 => ?_)
        · have c7 : x5.toInt ≠ 0 := c7
          suffices tl : pw E (d + 2) 58 124 [some (.ref 71), some (.int nl), some (.int nd), some (.int mn), some (.int k), l5, l6, l7, l8, l9] [] h2 Q from gw_skip _ (ez_Wp_at tl rfl)
          refine h_row (T := T) (n := n) (p0 := p + 14 + 3 * M) (N1 := N1) (N2 := N2) (L := alF T (p + 14) M) (R := R) (X := hd2 T n (p + 14) N1 N2 M) S2 (by rw [(show ez_I h2 72 = ez_I h 72 from zW_fn F 72 x73_41 x73_42)]; exact hT) (by rw [(show ez_I h2 71 6 = ez_I h 71 6 from zW_f F x73_43 x73_44)]; exact hN) hn6 (by omega) (by omega) (by omega) ⟨by omega, by omega, by omega, by omega, by omega⟩ (al_19 hali) (fun k hk => (al_nL hali k hk).symm) (fun k a b => alF_0 _ (by omega) k a) (ws_one (fun k hk => by have h9 := al_19 hali k hk; show (ez_I h2 122 k).toInt.toNat ≤ 15; omega) (by rw [← ws_ext (L := alF T (p + 14) M) 288 (by decide) (fun k hk => (al_nL hali k hk).symm) (fun k a b => alF_0 _ (by omega) k a)]; omega)) (hd2_y (by omega) (by omega) rfl rfl) hXn hXs (fun h8 F9 k10 k11 => ?_)
          have F12 := zW_tr (zW_mono F x73_45 x73_46 x73_47) (zW_mono F9 x73_45 x73_48 x73_47)
          exact K _ F12 k10 k11
        · have c7 : ¬ (x5.toInt ≠ 0) := c7
          refine gw_ld rfl rfl ?_
          refine z_C (m := 5) rfl rfl (fun x13 ex13 => ?_)
          refine z_cl rfl rfl rfl rfl rfl rfl rfl rfl rfl rfl rfl (zT S2 (by decide) rfl) ?_
          refine d_wrong (n := x13) S2 (fun h14 F15 k16 k17 => ?_)
          have kw18 := k16 (by omega)
          clear k16 k17
          have S19 := zW_sh F15 S2
          have F20 := zW_tr F (zW_mono F15 (x73_49) (x73_50) (x73_47))
          have f21 : ez_I h14 71 59 = (ez_I h2 71 59) := (zW_f F15 (fun c => c) (by decide)).trans (rfl)
          have r22 := z_rng (ez_I h14 71 61)
          have A23 : alI (ez_I h14 122) T (p + 14) M 19 := by rw [zW_fn F15 122 (fun c => c) (x73_51)]; exact hali
          refine z_C (m := 0) rfl rfl (fun x24 ex24 => ?_)
          refine gw_st rfl rfl rfl ?_
          show ez_gw _ _ _ _ _ _ _ _ [some (.ref 71), some (.int nl), some (.int nd), some (.int mn), some (.int x24), l5, l6, l7, l8, l9] _ _ _
          have t25 := congrArg Int32.toInt (f21)
          suffices tl : pw E (d + 2) 58 127 [some (.ref 71), some (.int nl), some (.int nd), some (.int mn), some (.int x24), l5, l6, l7, l8, l9] [] h14 Q from ez_Wp_at tl rfl
          refine h_F127 (n := n) S19 (by rw [(show ez_I h14 71 6 = ez_I h 71 6 from zW_f F20 x73_43 x73_44)]; exact hN) hn6 (by omega) (by omega) (by omega) (fun h26 F27 k28 k29 => ?_)
          have F30 := zW_tr (zW_mono F20 x73_45 x73_46 x73_47) (zW_mono F27 x73_45 x73_48 x73_47)
          exact K _ F30 (.inr ⟨k28, hXn (hd2_o (.inr (by omega)))⟩) k29
      · have c3 : ¬ (mn.toInt ≤ k.toInt) := c3
        refine gw_ld rfl rfl ?_
        refine z_gI2 (by decide) (zT S2 (by decide) rfl) (rfl) ?_
        refine z_b1 (fun c31 => ?_) (fun c31 => ?_)
        · have c31 : ((ez_I h2 71 61)).toInt ≠ 0 := c31
          exfalso; omega
        · have c31 : ¬ (((ez_I h2 71 61)).toInt ≠ 0) := c31
          refine gw_ld rfl rfl ?_
          refine z_gR (q := 122) (zT S2 (by decide) rfl) (zRf S2 (by decide) (by decide) rfl) (by decide) ?_
          refine gw_ld rfl rfl ?_
          refine z_gR (q := 96) (zT S2 (by decide) rfl) (zRf S2 (by decide) (by decide) rfl) (by decide) ?_
          refine gw_ld rfl rfl ?_
          refine z_iaV (n := 19) (zT S2 (by decide) rfl) (zN S2 (by decide) rfl) (by omega) (zW_f F (by decide) (x73_52 _)) ?_
          generalize ex32 : ez_I h 96 k.toInt.toNat = x32
          have rx32 := z_rng x32
          have yx32 := t96 k.toInt.toNat (by omega)
          rw [ex32, show k.toInt.toNat = k.toInt.toNat by omega] at yx32
          have uo := OR_18 k.toInt.toNat (by omega)
          refine gw_ld rfl rfl ?_
          refine z_C (m := 3) rfl rfl (fun x33 ex33 => ?_)
          refine z_cl rfl rfl rfl rfl rfl rfl rfl rfl rfl rfl rfl (zT S2 (by decide) rfl) ?_
          refine d_tbO (v := x33) (T := T) (n := n) (N := 3) (p := (p + 14 + 3 * k.toInt.toNat)) S2 (by rw [(show ez_I h2 72 = ez_I h 72 from zW_fn F 72 x73_41 x73_42)]; exact hT) (by rw [(show ez_I h2 71 6 = ez_I h 71 6 from zW_f F x73_43 x73_44)]; exact hN) hn6 (by omega) (by omega) (by omega) (by omega) (by omega) (fun h34 x35 F36 k37 k38 k39 k40 k41 => ?_) (fun h42 x43 F44 k45 k46 k47 k48 k49 => ?_)
          · have rx35 := z_rng x35
            have S50 := zW_sh F36 S2
            have F51 := zW_tr F (zW_mono F36 (x73_45) (x73_50) (x73_47))
            have r52 := z_rng (ez_I h34 71 59)
            have r53 := z_rng (ez_I h34 71 61)
            have A54 : alI (ez_I h34 122) T (p + 14) k.toInt.toNat 19 := by rw [zW_fn F36 122 (fun c => c) (x73_53)]; exact A_al
            refine z_is (n := 19) (zT S50 (by decide) rfl) (zN S50 (by decide) rfl) (by omega) (fun h55 e56 => ?_)
            have S57 := zSh_set S50 e56
            have F58 := zW_setA F51 e56 (by decide)
            have f59 : ez_I h55 71 59 = (ez_I h34 71 59) := (zI_ne e56 (by omega)).trans (rfl)
            have f60 : ez_I h55 71 61 = (ez_I h34 71 61) := (zI_ne e56 (by omega)).trans (rfl)
            have A61 : alI (ez_I h55 122) T (p + 14) (k.toInt.toNat + 1) 19 := alI_s A54 e56 (by omega) k38 rfl
            refine z_inc rfl (by rw [show (1 : Int32).toInt = 1 from rfl]; omega) (fun x62 ex62 => ?_)
            rw [show (1 : Int32).toInt = 1 from rfl] at ex62
            show ez_gw _ _ _ _ _ _ _ _ [some (.ref 71), some (.int nl), some (.int nd), some (.int mn), some (.int x62), l5, l6, l7, l8, l9] _ _ _
            refine z_go ?_
            have t63 := congrArg Int32.toInt (f59)
            have t64 := congrArg Int32.toInt (f60)
            exact ih h55 x62 F58 (⟨by omega, by omega, by omega, by rw [show x62.toInt.toNat = k.toInt.toNat + 1 by omega]; omega, by rw [show x62.toInt.toNat = k.toInt.toNat + 1 by omega]; omega⟩) ((by rw [show x62.toInt.toNat = k.toInt.toNat + 1 by omega]; exact A61)) (by omega)
          · have rx43 := z_rng x43
            have S65 := zW_sh F44 S2
            have F66 := zW_tr F (zW_mono F44 (x73_45) (x73_50) (x73_47))
            have r67 := z_rng (ez_I h42 71 59)
            have r68 := z_rng (ez_I h42 71 61)
            have A69 : alI (ez_I h42 122) T (p + 14) k.toInt.toNat 19 := by rw [zW_fn F44 122 (fun c => c) (x73_53)]; exact A_al
            refine z_is (n := 19) (zT S65 (by decide) rfl) (zN S65 (by decide) rfl) (by omega) (fun h70 e71 => ?_)
            have S72 := zSh_set S65 e71
            have F73 := zW_setA F66 e71 (by decide)
            have f74 : ez_I h70 71 59 = (ez_I h42 71 59) := (zI_ne e71 (by omega)).trans (rfl)
            have f75 : ez_I h70 71 61 = (ez_I h42 71 61) := (zI_ne e71 (by omega)).trans (rfl)
            have A76 : aR (ez_I h70 122) 19 0 15 := aR_set (al_19 A69) e71 (by have h8 : (2 ^ 3 : Nat) = 8 := rfl; omega)
            refine z_inc rfl (by rw [show (1 : Int32).toInt = 1 from rfl]; omega) (fun x77 ex77 => ?_)
            rw [show (1 : Int32).toInt = 1 from rfl] at ex77
            show ez_gw _ _ _ _ _ _ _ _ [some (.ref 71), some (.int nl), some (.int nd), some (.int mn), some (.int x77), l5, l6, l7, l8, l9] _ _ _
            refine z_go ?_
            have t78 := congrArg Int32.toInt (f74)
            have t79 := congrArg Int32.toInt (f75)
            refine h_F71 (n := n) S72 (by rw [(show ez_I h70 71 6 = ez_I h 71 6 from zW_f F73 x73_43 x73_44)]; exact hN) hn6 (by omega) (by omega) (by omega) A76 (fun h80 F81 k82 k83 => ?_)
            have F84 := zW_tr (zW_mono F73 x73_45 x73_46 x73_47) (zW_mono F81 x73_45 x73_48 x73_47)
            exact K _ F84 (.inr ⟨k82, hXn (hd2_o (.inl (by omega)))⟩) k83
set_option maxRecDepth 4000 in
set_option maxHeartbeats 2000000 in
theorem h_al_L0 {E : Nat → Nat × (Nat → Int32)} {d : Nat} {Q : ez_Q} {h : ez_H} {nl : Int32} {nd : Int32} {mn : Int32} {l4 : Option Value} {l5 : Option Value} {l6 : Option Value} {l7 : Option Value} {l8 : Option Value} {l9 : Option Value} (S : zSh h) {T : Nat → Int} {n : Nat} (hT : tB (ez_I h 72) = T) (hN : (ez_I h 71 6).toInt = (n : Nat)) (hn6 : n ≤ 6000) {p N1 N2 M : Nat} {R : Option (Nat × (Nat → Nat) × (Nat → Nat))} (hp : (ez_I h 71 59).toInt = ((p + 14 : Nat) : Int)) (hp8 : p + 14 ≤ 8 * n) (hf : (ez_I h 71 61).toInt = 0) (hl : nl.toInt = (N1 : Nat) ∧ nd.toInt = (N2 : Nat) ∧ mn.toInt = (M : Nat) ∧ 257 ≤ N1 ∧ N1 ≤ 286 ∧ N2 ≤ 30 ∧ M ≤ 19) (t96 : ctI (ez_I h 96) ORf 19) (hXn : hd2 T n (p + 14) N1 N2 M = none → R = none) (hXs : ∀ p2 r, hd2 T n (p + 14) N1 N2 M = some (p2, r) → R = if okH N1 N2 r then some (p2, litF N1 r, disF N1 N2 r) else none) (K : ∀ h2, zW (fun q k => q = 71 ∧ k = 59 ∨ q = 71 ∧ k = 61) (fun q => q = 115 ∨ q = 120 ∨ q = 121 ∨ q = 122 ∨ q = 123) (fun _ => False) h h2 → hdP (ez_I h2 120) (ez_I h2 121) (ez_I h2 71 59).toInt (ez_I h2 71 61).toInt R → (0 ≤ (ez_I h2 71 59).toInt ∧ (ez_I h2 71 59).toInt ≤ 8 * (n : Int)) → Q (.inl none) h2) : ∀ N : Nat, (∀ (h2 : ez_H) (k : Int32) , zW (fun q k => q = 71 ∧ k = 59 ∨ q = 71 ∧ k = 61) (fun q => q = 122) (fun _ => False) h h2 → (0 ≤ k.toInt ∧ k.toInt ≤ 19 ∧ (ez_I h2 71 61).toInt = 0 ∧ (ez_I h2 71 59).toInt = ((p + 14 : Nat) : Int)) → (zrP (ez_I h2 122) k.toInt.toNat) → (100 - k.toInt) < (N : Int) → pw E (d + 2) 58 47 [some (.ref 71), some (.int nl), some (.int nd), some (.int mn), some (.int k), l5, l6, l7, l8, l9] [] h2 Q) := by
  intro N
  induction N with
  | zero => exact fun h2 k  F hinv A_z0 hm => absurd hm (by have w_k := z_rng k; have gnl := z_rng nl; have gnd := z_rng nd; have gmn := z_rng mn; omega)
  | succ N ih =>
    refine fun h2 k  F hinv A_z0 hm => ?_
    · skip
      have w_k := z_rng k
      have gnl := z_rng nl
      have gnd := z_rng nd
      have gmn := z_rng mn
      have S2 := zW_sh F S
      apply ez_Wp_in
      show ez_gw _ _ _ _ _ _ (cz_58) _ _ _ _ _
      refine gw_skip _ ?_
      have r1 := z_rng (ez_I h2 71 59)
      have r2 := z_rng (ez_I h2 71 61)
      refine gw_ld rfl rfl ?_
      refine z_C (m := 19) rfl rfl (fun x3 ex3 => ?_)
      refine z_b2 (fun c4 => ?_) (fun c4 => ?_)
      · have c4 : x3.toInt ≤ k.toInt := c4
        refine gw_skip _ ?_
        refine z_C (m := 0) rfl rfl (fun x5 ex5 => ?_)
        refine gw_st rfl rfl rfl ?_
        show ez_gw _ _ _ _ _ _ _ _ [some (.ref 71), some (.int nl), some (.int nd), some (.int mn), some (.int x5), l5, l6, l7, l8, l9] _ _ _
        exact ez_Wp_at ((h_al_L1 (nl := nl) (nd := nd) (mn := mn) (l4 := l4) (l5 := l5) (l6 := l6) (l7 := l7) (l8 := l8) (l9 := l9) S hT hN hn6 hp hp8 hf hl t96 hXn hXs K (((100 - x5.toInt)).toNat + 1)) h2 x5 F (⟨by omega, by omega, by omega, by rw [show x5.toInt.toNat = 0 by omega]; omega, by rw [show x5.toInt.toNat = 0 by omega]; omega⟩) ((by rw [show x5.toInt.toNat = 0 by omega]; exact alI_z (fun j hj => A_z0 j (by omega)))) (by omega)) rfl
      · have c4 : ¬ (x3.toInt ≤ k.toInt) := c4
        refine gw_ld rfl rfl ?_
        refine z_gR (q := 122) (zT S2 (by decide) rfl) (zRf S2 (by decide) (by decide) rfl) (by decide) ?_
        refine gw_ld rfl rfl ?_
        refine z_C (m := 0) rfl rfl (fun x6 ex6 => ?_)
        refine z_is (n := 19) (zT S2 (by decide) rfl) (zN S2 (by decide) rfl) (by omega) (fun h7 e8 => ?_)
        have S9 := zSh_set S2 e8
        have F10 := zW_setA F e8 (by decide)
        have f11 : ez_I h7 71 59 = (ez_I h2 71 59) := (zI_ne e8 (by omega)).trans (rfl)
        have f12 : ez_I h7 71 61 = (ez_I h2 71 61) := (zI_ne e8 (by omega)).trans (rfl)
        have A13 : zrP (ez_I h7 122) (k.toInt.toNat + 1) := z0_s A_z0 e8 (by omega) (by omega) rfl
        refine z_inc rfl (by rw [show (1 : Int32).toInt = 1 from rfl]; omega) (fun x14 ex14 => ?_)
        rw [show (1 : Int32).toInt = 1 from rfl] at ex14
        show ez_gw _ _ _ _ _ _ _ _ [some (.ref 71), some (.int nl), some (.int nd), some (.int mn), some (.int x14), l5, l6, l7, l8, l9] _ _ _
        refine z_go ?_
        have t15 := congrArg Int32.toInt (f11)
        have t16 := congrArg Int32.toInt (f12)
        exact ih h7 x14 F10 (by omega) ((by rw [show x14.toInt.toNat = k.toInt.toNat + 1 by omega]; exact A13)) (by omega)
set_option maxRecDepth 4000 in
set_option maxHeartbeats 2000000 in
theorem h_al {E : Nat → Nat × (Nat → Int32)} {d : Nat} {Q : ez_Q} {h : ez_H} {nl : Int32} {nd : Int32} {mn : Int32} {l4 : Option Value} {l5 : Option Value} {l6 : Option Value} {l7 : Option Value} {l8 : Option Value} {l9 : Option Value} (S : zSh h) {T : Nat → Int} {n : Nat} (hT : tB (ez_I h 72) = T) (hN : (ez_I h 71 6).toInt = (n : Nat)) (hn6 : n ≤ 6000) {p N1 N2 M : Nat} {R : Option (Nat × (Nat → Nat) × (Nat → Nat))} (hp : (ez_I h 71 59).toInt = ((p + 14 : Nat) : Int)) (hp8 : p + 14 ≤ 8 * n) (hf : (ez_I h 71 61).toInt = 0) (hl : nl.toInt = (N1 : Nat) ∧ nd.toInt = (N2 : Nat) ∧ mn.toInt = (M : Nat) ∧ 257 ≤ N1 ∧ N1 ≤ 286 ∧ N2 ≤ 30 ∧ M ≤ 19) (t96 : ctI (ez_I h 96) ORf 19) (hXn : hd2 T n (p + 14) N1 N2 M = none → R = none) (hXs : ∀ p2 r, hd2 T n (p + 14) N1 N2 M = some (p2, r) → R = if okH N1 N2 r then some (p2, litF N1 r, disF N1 N2 r) else none) (K : ∀ h2, zW (fun q k => q = 71 ∧ k = 59 ∨ q = 71 ∧ k = 61) (fun q => q = 115 ∨ q = 120 ∨ q = 121 ∨ q = 122 ∨ q = 123) (fun _ => False) h h2 → hdP (ez_I h2 120) (ez_I h2 121) (ez_I h2 71 59).toInt (ez_I h2 71 61).toInt R → (0 ≤ (ez_I h2 71 59).toInt ∧ (ez_I h2 71 59).toInt ≤ 8 * (n : Int)) → Q (.inl none) h2) : pw E (d + 2) 58 44 [some (.ref 71), some (.int nl), some (.int nd), some (.int mn), l4, l5, l6, l7, l8, l9] [] h Q := by
  have gnl := z_rng nl
  have gnd := z_rng nd
  have gmn := z_rng mn
  have F := zW_refl (fun q k => q = 71 ∧ k = 59 ∨ q = 71 ∧ k = 61) (fun q => q = 122) (fun _ => False) h
  apply ez_Wp_in
  show ez_gw _ _ _ _ _ _ (cz_58) _ _ _ _ _
  refine gw_skip _ ?_
  have r1 := z_rng (ez_I h 71 59)
  have r2 := z_rng (ez_I h 71 61)
  refine z_C (m := 0) rfl rfl (fun x3 ex3 => ?_)
  refine gw_st rfl rfl rfl ?_
  show ez_gw _ _ _ _ _ _ _ _ [some (.ref 71), some (.int nl), some (.int nd), some (.int mn), some (.int x3), l5, l6, l7, l8, l9] _ _ _
  exact ez_Wp_at ((h_al_L0 (nl := nl) (nd := nd) (mn := mn) (l4 := l4) (l5 := l5) (l6 := l6) (l7 := l7) (l8 := l8) (l9 := l9) S hT hN hn6 hp hp8 hf hl t96 hXn hXs K (((100 - x3.toInt)).toNat + 1)) h x3 F (by omega) ((fun q hq => by omega)) (by omega)) rfl
theorem x73_54 : ∀ q : Nat, (False) → (q = 115 ∨ q = 120 ∨ q = 121 ∨ q = 122 ∨ q = 123) := fun q hk => hk.elim
set_option maxRecDepth 4000 in
set_option maxHeartbeats 2000000 in
theorem d_head {E : Nat → Nat × (Nat → Int32)} {d : Nat} {Q : ez_Q} {h : ez_H}  (S : zSh h) {T : Nat → Int} {n : Nat} (hT : tB (ez_I h 72) = T) (hN : (ez_I h 71 6).toInt = (n : Nat)) (hn6 : n ≤ 6000) {p : Nat} (hp : (ez_I h 71 59).toInt = (p : Nat)) (hp8 : p ≤ 8 * n) (hf : (ez_I h 71 61).toInt = 0) (t96 : ctI (ez_I h 96) ORf 19) (K : ∀ h2, zW (fun q k => q = 71 ∧ k = 59 ∨ q = 71 ∧ k = 61) (fun q => q = 115 ∨ q = 120 ∨ q = 121 ∨ q = 122 ∨ q = 123) (fun _ => False) h h2 → hdP (ez_I h2 120) (ez_I h2 121) (ez_I h2 71 59).toInt (ez_I h2 71 61).toInt (hdU T n p) → (0 ≤ (ez_I h2 71 59).toInt ∧ (ez_I h2 71 59).toInt ≤ 8 * (n : Int)) → Q (.inl none) h2) : pw E (d + 2) 58 0 [some (.ref 71), none, none, none, none, none, none, none, none, none] [] h Q := by
  have F := zW_refl (fun q k => q = 71 ∧ k = 59 ∨ q = 71 ∧ k = 61) (fun _ => False) (fun _ => False) h
  apply ez_Wp_in
  show ez_gw _ _ _ _ _ _ (cz_58) _ _ _ _ _
  refine gw_skip _ ?_
  have r1 := z_rng (ez_I h 71 59)
  have r2 := z_rng (ez_I h 71 61)
  refine gw_ld rfl rfl ?_
  refine z_C (m := 5) rfl rfl (fun x3 ex3 => ?_)
  refine z_cl rfl rfl rfl rfl rfl rfl rfl rfl rfl rfl rfl (zT S (by decide) rfl) ?_
  refine d_tbO (v := x3) (T := T) (n := n) (N := 5) (p := p) S (by rw [(show ez_I h 72 = ez_I h 72 from zW_fn F 72 (fun c => c) x73_42)]; exact hT) (by rw [(show ez_I h 71 6 = ez_I h 71 6 from zW_f F (fun c => c) x73_44)]; exact hN) hn6 (by omega) (by omega) (by omega) (by omega) (by omega) (fun h4 x5 F6 k7 k8 k9 k10 k11 => ?_) (fun h12 x13 F14 k15 k16 k17 k18 k19 => ?_)
  · have rx5 := z_rng x5
    have S20 := zW_sh F6 S
    have F21 := zW_tr F (zW_mono F6 (x73_45) (x73_47) (x73_47))
    have r22 := z_rng (ez_I h4 71 59)
    have r23 := z_rng (ez_I h4 71 61)
    have q2 := k9
    rw [(show (2 ^ 5 : Nat) = 32 from rfl)] at q2
    refine z_C (m := 257) rfl rfl (fun x24 ex24 => ?_)
    refine z_add (by omega) (fun x25 ex25 => ?_)
    refine gw_st rfl rfl rfl ?_
    show ez_gw _ _ _ _ _ _ _ _ [some (.ref 71), some (.int x25), none, none, none, none, none, none, none, none] _ _ _
    refine gw_ld rfl rfl ?_
    refine z_C (m := 5) rfl rfl (fun x26 ex26 => ?_)
    refine z_cl rfl rfl rfl rfl rfl rfl rfl rfl rfl rfl rfl (zT S20 (by decide) rfl) ?_
    refine d_tbO (v := x26) (T := T) (n := n) (N := 5) (p := (p + 5)) S20 (by rw [(show ez_I h4 72 = ez_I h 72 from zW_fn F21 72 (fun c => c) x73_42)]; exact hT) (by rw [(show ez_I h4 71 6 = ez_I h 71 6 from zW_f F21 (fun c => c) x73_44)]; exact hN) hn6 (by omega) (by omega) (by omega) (by omega) (by omega) (fun h27 x28 F29 k30 k31 k32 k33 k34 => ?_) (fun h35 x36 F37 k38 k39 k40 k41 k42 => ?_)
    · have rx28 := z_rng x28
      have S43 := zW_sh F29 S20
      have F44 := zW_tr F21 (zW_mono F29 (x73_45) (x73_47) (x73_47))
      have r45 := z_rng (ez_I h27 71 59)
      have r46 := z_rng (ez_I h27 71 61)
      have q12 := k32
      rw [(show (2 ^ 5 : Nat) = 32 from rfl)] at q12
      refine z_C (m := 1) rfl rfl (fun x47 ex47 => ?_)
      refine z_add (by omega) (fun x48 ex48 => ?_)
      refine gw_st rfl rfl rfl ?_
      show ez_gw _ _ _ _ _ _ _ _ [some (.ref 71), some (.int x25), some (.int x48), none, none, none, none, none, none, none] _ _ _
      refine gw_ld rfl rfl ?_
      refine z_C (m := 4) rfl rfl (fun x49 ex49 => ?_)
      refine z_cl rfl rfl rfl rfl rfl rfl rfl rfl rfl rfl rfl (zT S43 (by decide) rfl) ?_
      refine d_tbO (v := x49) (T := T) (n := n) (N := 4) (p := (p + 10)) S43 (by rw [(show ez_I h27 72 = ez_I h 72 from zW_fn F44 72 (fun c => c) x73_42)]; exact hT) (by rw [(show ez_I h27 71 6 = ez_I h 71 6 from zW_f F44 (fun c => c) x73_44)]; exact hN) hn6 (by omega) (by omega) (by omega) (by omega) (by omega) (fun h50 x51 F52 k53 k54 k55 k56 k57 => ?_) (fun h58 x59 F60 k61 k62 k63 k64 k65 => ?_)
      · have rx51 := z_rng x51
        have S66 := zW_sh F52 S43
        have F67 := zW_tr F44 (zW_mono F52 (x73_45) (x73_47) (x73_47))
        have r68 := z_rng (ez_I h50 71 59)
        have r69 := z_rng (ez_I h50 71 61)
        have q20 := k55
        rw [(show (2 ^ 4 : Nat) = 16 from rfl)] at q20
        refine z_C (m := 4) rfl rfl (fun x70 ex70 => ?_)
        refine z_add (by omega) (fun x71 ex71 => ?_)
        refine gw_st rfl rfl rfl ?_
        show ez_gw _ _ _ _ _ _ _ _ [some (.ref 71), some (.int x25), some (.int x48), some (.int x71), none, none, none, none, none, none] _ _ _
        refine gw_ld rfl rfl ?_
        refine z_C (m := 286) rfl rfl (fun x72 ex72 => ?_)
        refine z_b2 (fun c73 => ?_) (fun c73 => ?_)
        · have c73 : x72.toInt < x25.toInt := c73
          refine gw_skip _ ?_
          refine gw_ld rfl rfl ?_
          refine z_C (m := 4) rfl rfl (fun x74 ex74 => ?_)
          refine z_cl rfl rfl rfl rfl rfl rfl rfl rfl rfl rfl rfl (zT S66 (by decide) rfl) ?_
          refine d_wrong (n := x74) S66 (fun h75 F76 k77 k78 => ?_)
          have kw79 := k77 (by omega)
          clear k77 k78
          have S80 := zW_sh F76 S66
          have F81 := zW_tr F67 (zW_mono F76 (x73_49) (x73_47) (x73_47))
          have f82 : ez_I h75 71 59 = (ez_I h50 71 59) := (zW_f F76 (fun c => c) (by decide)).trans (rfl)
          have r83 := z_rng (ez_I h75 71 61)
          have t84 := congrArg Int32.toInt (f82)
          suffices tl : pw E (d + 2) 58 44 [some (.ref 71), some (.int x25), some (.int x48), some (.int x71), none, none, none, none, none, none] [] h75 Q from ez_Wp_at tl rfl
          refine h_F44 (n := n) S80 (by rw [(show ez_I h75 71 6 = ez_I h 71 6 from zW_f F81 (fun c => c) x73_44)]; exact hN) hn6 (by omega) (by omega) (by omega) (fun h85 F86 k87 k88 => ?_)
          have F89 := zW_tr (zW_mono F81 x73_45 x73_54 x73_47) (zW_mono F86 x73_45 x73_48 x73_47)
          exact K _ F89 (.inr ⟨k87, hdU_o (.inr (by omega))⟩) k88
        · have c73 : ¬ (x72.toInt < x25.toInt) := c73
          refine gw_ld rfl rfl ?_
          refine z_C (m := 30) rfl rfl (fun x90 ex90 => ?_)
          refine z_b2 (fun c91 => ?_) (fun c91 => ?_)
          · have c91 : x48.toInt ≤ x90.toInt := c91
            suffices tl : pw E (d + 2) 58 44 [some (.ref 71), some (.int x25), some (.int x48), some (.int x71), none, none, none, none, none, none] [] h50 Q from gw_skip _ (ez_Wp_at tl rfl)
            refine h_al (T := T) (n := n) (p := p) (N1 := 257 + (vB T p 5)) (N2 := 1 + (vB T (p + 5) 5)) (M := 4 + (vB T (p + 10) 4)) (R := hdU T n p) S66 (by rw [(show ez_I h50 72 = ez_I h 72 from zW_fn F67 72 (fun c => c) x73_42)]; exact hT) (by rw [(show ez_I h50 71 6 = ez_I h 71 6 from zW_f F67 (fun c => c) x73_44)]; exact hN) hn6 (by omega) (by omega) (by omega) ⟨by omega, by omega, by omega, by omega, by omega, by omega, by omega⟩ (by rw [(show ez_I h50 96 = ez_I h 96 from zW_fn F67 96 (fun c => c) x73_52)]; exact t96) (fun q => hdU_n (by omega) (by omega) (by omega) rfl rfl rfl rfl q) (fun p2 r q => hdU_r (by omega) (by omega) (by omega) rfl rfl rfl rfl q) (fun h92 F93 k94 k95 => ?_)
            have F96 := zW_tr (zW_mono F67 x73_45 x73_54 x73_47) (zW_mono F93 x73_45 x73_48 x73_47)
            exact K _ F96 k94 k95
          · have c91 : ¬ (x48.toInt ≤ x90.toInt) := c91
            refine gw_ld rfl rfl ?_
            refine z_C (m := 4) rfl rfl (fun x97 ex97 => ?_)
            refine z_cl rfl rfl rfl rfl rfl rfl rfl rfl rfl rfl rfl (zT S66 (by decide) rfl) ?_
            refine d_wrong (n := x97) S66 (fun h98 F99 k100 k101 => ?_)
            have kw102 := k100 (by omega)
            clear k100 k101
            have S103 := zW_sh F99 S66
            have F104 := zW_tr F67 (zW_mono F99 (x73_49) (x73_47) (x73_47))
            have f105 : ez_I h98 71 59 = (ez_I h50 71 59) := (zW_f F99 (fun c => c) (by decide)).trans (rfl)
            have r106 := z_rng (ez_I h98 71 61)
            have t107 := congrArg Int32.toInt (f105)
            suffices tl : pw E (d + 2) 58 44 [some (.ref 71), some (.int x25), some (.int x48), some (.int x71), none, none, none, none, none, none] [] h98 Q from ez_Wp_at tl rfl
            refine h_F44 (n := n) S103 (by rw [(show ez_I h98 71 6 = ez_I h 71 6 from zW_f F104 (fun c => c) x73_44)]; exact hN) hn6 (by omega) (by omega) (by omega) (fun h108 F109 k110 k111 => ?_)
            have F112 := zW_tr (zW_mono F104 x73_45 x73_54 x73_47) (zW_mono F109 x73_45 x73_48 x73_47)
            exact K _ F112 (.inr ⟨k110, hdU_o (.inr (by omega))⟩) k111
      · have rx59 := z_rng x59
        have S113 := zW_sh F60 S43
        have F114 := zW_tr F44 (zW_mono F60 (x73_45) (x73_47) (x73_47))
        have r115 := z_rng (ez_I h58 71 59)
        have r116 := z_rng (ez_I h58 71 61)
        refine z_C (m := 4) rfl rfl (fun x117 ex117 => ?_)
        refine z_add (by omega) (fun x118 ex118 => ?_)
        refine gw_st rfl rfl rfl ?_
        show ez_gw _ _ _ _ _ _ _ _ [some (.ref 71), some (.int x25), some (.int x48), some (.int x118), none, none, none, none, none, none] _ _ _
        suffices tl : pw E (d + 2) 58 26 [some (.ref 71), some (.int x25), some (.int x48), some (.int x118), none, none, none, none, none, none] [] h58 Q from ez_Wp_at tl rfl
        refine h_F26 (n := n) S113 (by rw [(show ez_I h58 71 6 = ez_I h 71 6 from zW_f F114 (fun c => c) x73_44)]; exact hN) hn6 (by omega) (by omega) (by have h8 : (2 ^ 5 : Nat) = 32 := rfl; omega) (fun h119 F120 k121 k122 => ?_)
        have F123 := zW_tr (zW_mono F114 x73_45 x73_54 x73_47) (zW_mono F120 x73_45 x73_48 x73_47)
        exact K _ F123 (.inr ⟨k121, hdU_o (.inl (by omega))⟩) k122
    · have rx36 := z_rng x36
      have S124 := zW_sh F37 S20
      have F125 := zW_tr F21 (zW_mono F37 (x73_45) (x73_47) (x73_47))
      have r126 := z_rng (ez_I h35 71 59)
      have r127 := z_rng (ez_I h35 71 61)
      refine z_C (m := 1) rfl rfl (fun x128 ex128 => ?_)
      refine z_add (by omega) (fun x129 ex129 => ?_)
      refine gw_st rfl rfl rfl ?_
      show ez_gw _ _ _ _ _ _ _ _ [some (.ref 71), some (.int x25), some (.int x129), none, none, none, none, none, none, none] _ _ _
      suffices tl : pw E (d + 2) 58 18 [some (.ref 71), some (.int x25), some (.int x129), none, none, none, none, none, none, none] [] h35 Q from ez_Wp_at tl rfl
      refine h_F18 (n := n) S124 (by rw [(show ez_I h35 71 6 = ez_I h 71 6 from zW_f F125 (fun c => c) x73_44)]; exact hN) hn6 (by omega) (by omega) (by have h8 : (2 ^ 5 : Nat) = 32 := rfl; omega) (fun h130 F131 k132 k133 => ?_)
      have F134 := zW_tr (zW_mono F125 x73_45 x73_54 x73_47) (zW_mono F131 x73_45 x73_48 x73_47)
      exact K _ F134 (.inr ⟨k132, hdU_o (.inl (by omega))⟩) k133
  · have rx13 := z_rng x13
    have S135 := zW_sh F14 S
    have F136 := zW_tr F (zW_mono F14 (x73_45) (x73_47) (x73_47))
    have r137 := z_rng (ez_I h12 71 59)
    have r138 := z_rng (ez_I h12 71 61)
    refine z_C (m := 257) rfl rfl (fun x139 ex139 => ?_)
    refine z_add (by omega) (fun x140 ex140 => ?_)
    refine gw_st rfl rfl rfl ?_
    show ez_gw _ _ _ _ _ _ _ _ [some (.ref 71), some (.int x140), none, none, none, none, none, none, none, none] _ _ _
    suffices tl : pw E (d + 2) 58 10 [some (.ref 71), some (.int x140), none, none, none, none, none, none, none, none] [] h12 Q from ez_Wp_at tl rfl
    refine h_F10 (n := n) S135 (by rw [(show ez_I h12 71 6 = ez_I h 71 6 from zW_f F136 (fun c => c) x73_44)]; exact hN) hn6 (by omega) (by omega) (by have h8 : (2 ^ 5 : Nat) = 32 := rfl; omega) (fun h141 F142 k143 k144 => ?_)
    have F145 := zW_tr (zW_mono F136 x73_45 x73_54 x73_47) (zW_mono F142 x73_45 x73_48 x73_47)
    exact K _ F145 (.inr ⟨k143, hdU_o (.inl (by omega))⟩) k144
