/-! PRINTED by wip/pack: the model reads a head: with a fault met -/
theorem x73_0 : ∀ q k : Nat, (False) → (q = 71 ∧ k = 59 ∨ q = 71 ∧ k = 61) := fun q k hk => hk.elim
theorem x73_1 : ∀ q : Nat, (False) → (q = 115 ∨ q = 120 ∨ q = 121 ∨ q = 122 ∨ q = 123) := fun q hk => hk.elim
theorem x73_2 : ∀ q : Nat, (False) → (False) := fun q hk => hk.elim
set_option maxRecDepth 4000 in
set_option maxHeartbeats 2000000 in
theorem h_F127 {E : Nat → Nat × (Nat → Int32)} {d : Nat} {Q : ez_Q} {h : ez_H} {nl : Int32} {nd : Int32} {l3 : Option Value} {k : Int32} {l5 : Option Value} {l6 : Option Value} {l7 : Option Value} {l8 : Option Value} {l9 : Option Value} (S : zSh h) {n : Nat} (hN : (ez_I h 71 6).toInt = (n : Nat)) (hn6 : n ≤ 6000) (hf : 1 ≤ (ez_I h 71 61).toInt) (hp : 0 ≤ (ez_I h 71 59).toInt ∧ (ez_I h 71 59).toInt ≤ 8 * (n : Int)) (hnn : 0 ≤ nl.toInt ∧ nl.toInt ≤ 400 ∧ 0 ≤ nd.toInt ∧ nd.toInt ≤ 400) (K : ∀ h2, zW (fun q k => q = 71 ∧ k = 59 ∨ q = 71 ∧ k = 61) (fun q => q = 115 ∨ q = 120 ∨ q = 121 ∨ q = 122 ∨ q = 123) (fun _ => False) h h2 → 1 ≤ (ez_I h2 71 61).toInt → (0 ≤ (ez_I h2 71 59).toInt ∧ (ez_I h2 71 59).toInt ≤ 8 * (n : Int)) → Q (.inl none) h2) : pw E (d + 2) 58 127 [some (.ref 71), some (.int nl), some (.int nd), l3, some (.int k), l5, l6, l7, l8, l9] [] h Q := by
  have gnl := z_rng nl
  have gnd := z_rng nd
  have gk := z_rng k
  have F := zW_refl (fun _ _ => False) (fun _ => False) (fun _ => False) h
  apply ez_Wp_in
  show ez_gw _ _ _ _ _ _ (cz_58) _ _ _ _ _
  refine gw_skip _ ?_
  refine gw_ld rfl rfl ?_
  refine gw_ld rfl rfl ?_
  refine gw_ld rfl rfl ?_
  refine z_add (by omega) (fun x1 ex1 => ?_)
  refine z_b2 (fun c2 => ?_) (fun c2 => ?_)
  · have c2 : x1.toInt ≤ k.toInt := c2
    refine gw_skip _ ?_
    refine gw_ld rfl rfl ?_
    have r3 := z_rng (ez_I h 71 61)
    refine z_gI2 (by decide) (zT S (by decide) rfl) (zW_f F (fun c => c) (fun c => c)) ?_
    refine z_b1 (fun c4 => ?_) (fun c4 => ?_)
    · have c4 : ((ez_I h 71 61)).toInt ≤ 0 := c4
      exfalso; omega
    · have c4 : ¬ (((ez_I h 71 61)).toInt ≤ 0) := c4
      refine z_rv ?_
      exact K _ (zW_mono F x73_0 x73_1 x73_2) hf hp
  · have c2 : ¬ (x1.toInt ≤ k.toInt) := c2
    refine gw_ld rfl rfl ?_
    have r5 := z_rng (ez_I h 71 61)
    refine z_gI2 (by decide) (zT S (by decide) rfl) (zW_f F (fun c => c) (fun c => c)) ?_
    refine z_b1 (fun c6 => ?_) (fun c6 => ?_)
    · have c6 : ((ez_I h 71 61)).toInt ≠ 0 := c6
      refine gw_skip _ ?_
      refine gw_ld rfl rfl ?_
      refine z_gI2 (by decide) (zT S (by decide) rfl) (zW_f F (fun c => c) (fun c => c)) ?_
      refine z_b1 (fun c7 => ?_) (fun c7 => ?_)
      · have c7 : ((ez_I h 71 61)).toInt ≤ 0 := c7
        exfalso; omega
      · have c7 : ¬ (((ez_I h 71 61)).toInt ≤ 0) := c7
        refine z_rv ?_
        exact K _ (zW_mono F x73_0 x73_1 x73_2) hf hp
    · have c6 : ¬ (((ez_I h 71 61)).toInt ≠ 0) := c6
      exfalso; omega
theorem x73_3 : ∀ q k : Nat, (q = 71 ∧ k = 59 ∨ q = 71 ∧ k = 61) → (q = 71 ∧ k = 59 ∨ q = 71 ∧ k = 61) := fun q k hk => hk.elim (fun g => (.inl g)) (fun hk => (.inr hk))
theorem x73_4 : ∀ q : Nat, (q = 115 ∨ q = 120 ∨ q = 121 ∨ q = 122 ∨ q = 123) → (q = 115 ∨ q = 120 ∨ q = 121 ∨ q = 122 ∨ q = 123) := fun q hk => hk.elim (fun g => (.inl g)) (fun hk => hk.elim (fun g => (.inr (.inl g))) (fun hk => hk.elim (fun g => (.inr (.inr (.inl g)))) (fun hk => hk.elim (fun g => (.inr (.inr (.inr (.inl g))))) (fun hk => (.inr (.inr (.inr (.inr hk))))))))
set_option maxRecDepth 4000 in
set_option maxHeartbeats 2000000 in
theorem h_F234 {E : Nat → Nat × (Nat → Int32)} {d : Nat} {Q : ez_Q} {h : ez_H} {nl : Int32} {nd : Int32} {l3 : Option Value} {k : Int32} {sy : Int32} {l6 : Option Value} {m : Int32} {l8 : Option Value} {l9 : Option Value} (S : zSh h) {n : Nat} (hN : (ez_I h 71 6).toInt = (n : Nat)) (hn6 : n ≤ 6000) (hf : 1 ≤ (ez_I h 71 61).toInt) (hp : 0 ≤ (ez_I h 71 59).toInt ∧ (ez_I h 71 59).toInt ≤ 8 * (n : Int)) (hnn : 0 ≤ nl.toInt ∧ nl.toInt ≤ 400 ∧ 0 ≤ nd.toInt ∧ nd.toInt ≤ 400) (hk : 0 ≤ k.toInt ∧ k.toInt ≤ 320) (K : ∀ h2, zW (fun q k => q = 71 ∧ k = 59 ∨ q = 71 ∧ k = 61) (fun q => q = 115 ∨ q = 120 ∨ q = 121 ∨ q = 122 ∨ q = 123) (fun _ => False) h h2 → 1 ≤ (ez_I h2 71 61).toInt → (0 ≤ (ez_I h2 71 59).toInt ∧ (ez_I h2 71 59).toInt ≤ 8 * (n : Int)) → Q (.inl none) h2) : pw E (d + 2) 58 234 [some (.ref 71), some (.int nl), some (.int nd), l3, some (.int k), some (.int sy), l6, some (.int m), l8, l9] [] h Q := by
  have gnl := z_rng nl
  have gnd := z_rng nd
  have gk := z_rng k
  have gsy := z_rng sy
  have gm := z_rng m
  have F := zW_refl (fun _ _ => False) (fun _ => False) (fun _ => False) h
  apply ez_Wp_in
  show ez_gw _ _ _ _ _ _ (cz_58) _ _ _ _ _
  refine gw_skip _ ?_
  refine gw_ld rfl rfl ?_
  refine z_C (m := 16) rfl rfl (fun x1 ex1 => ?_)
  refine z_b2 (fun c2 => ?_) (fun c2 => ?_)
  · have c2 : sy.toInt ≠ x1.toInt := c2
    refine gw_skip _ ?_
    refine z_C (m := 0) rfl rfl (fun x3 ex3 => ?_)
    refine gw_st rfl rfl rfl ?_
    show ez_gw _ _ _ _ _ _ _ _ [some (.ref 71), some (.int nl), some (.int nd), l3, some (.int k), some (.int sy), l6, some (.int m), some (.int x3), l9] _ _ _
    refine z_C (m := 0) rfl rfl (fun x4 ex4 => ?_)
    refine gw_st rfl rfl rfl ?_
    show ez_gw _ _ _ _ _ _ _ _ [some (.ref 71), some (.int nl), some (.int nd), l3, some (.int k), some (.int sy), l6, some (.int m), some (.int x3), some (.int x4)] _ _ _
    refine gw_ld rfl rfl ?_
    refine gw_ld rfl rfl ?_
    refine z_b2 (fun c5 => ?_) (fun c5 => ?_)
    · have c5 : m.toInt ≤ x4.toInt := c5
      refine gw_skip _ ?_
      refine z_go ?_
      refine h_F127 (n := n) S (by rw [(show ez_I h 71 6 = ez_I h 71 6 from zW_f F (fun c => c) (fun c => c))]; exact hN) hn6 (by rw [(show ez_I h 71 61 = ez_I h 71 61 from zW_f F (fun c => c) (fun c => c))]; exact hf) (by rw [(show ez_I h 71 59 = ez_I h 71 59 from zW_f F (fun c => c) (fun c => c))]; exact hp) hnn (fun h6 F7 k8 k9 => ?_)
      have F10 := zW_tr (zW_mono F x73_0 x73_1 x73_2) (zW_mono F7 x73_3 x73_4 x73_2)
      exact K _ F10 k8 k9
    · have c5 : ¬ (m.toInt ≤ x4.toInt) := c5
      refine gw_ld rfl rfl ?_
      have r11 := z_rng (ez_I h 71 61)
      refine z_gI2 (by decide) (zT S (by decide) rfl) (zW_f F (fun c => c) (fun c => c)) ?_
      refine z_b1 (fun c12 => ?_) (fun c12 => ?_)
      · have c12 : ((ez_I h 71 61)).toInt ≠ 0 := c12
        refine gw_skip _ ?_
        refine z_go ?_
        refine h_F127 (n := n) S (by rw [(show ez_I h 71 6 = ez_I h 71 6 from zW_f F (fun c => c) (fun c => c))]; exact hN) hn6 (by rw [(show ez_I h 71 61 = ez_I h 71 61 from zW_f F (fun c => c) (fun c => c))]; exact hf) (by rw [(show ez_I h 71 59 = ez_I h 71 59 from zW_f F (fun c => c) (fun c => c))]; exact hp) hnn (fun h13 F14 k15 k16 => ?_)
        have F17 := zW_tr (zW_mono F x73_0 x73_1 x73_2) (zW_mono F14 x73_3 x73_4 x73_2)
        exact K _ F17 k15 k16
      · have c12 : ¬ (((ez_I h 71 61)).toInt ≠ 0) := c12
        exfalso; omega
  · have c2 : ¬ (sy.toInt ≠ x1.toInt) := c2
    refine gw_ld rfl rfl ?_
    refine z_b1 (fun c18 => ?_) (fun c18 => ?_)
    · have c18 : k.toInt ≤ 0 := c18
      refine gw_skip _ ?_
      refine z_C (m := 0) rfl rfl (fun x19 ex19 => ?_)
      refine gw_st rfl rfl rfl ?_
      show ez_gw _ _ _ _ _ _ _ _ [some (.ref 71), some (.int nl), some (.int nd), l3, some (.int k), some (.int sy), l6, some (.int m), some (.int x19), l9] _ _ _
      refine z_C (m := 0) rfl rfl (fun x20 ex20 => ?_)
      refine gw_st rfl rfl rfl ?_
      show ez_gw _ _ _ _ _ _ _ _ [some (.ref 71), some (.int nl), some (.int nd), l3, some (.int k), some (.int sy), l6, some (.int m), some (.int x19), some (.int x20)] _ _ _
      refine gw_ld rfl rfl ?_
      refine gw_ld rfl rfl ?_
      refine z_b2 (fun c21 => ?_) (fun c21 => ?_)
      · have c21 : m.toInt ≤ x20.toInt := c21
        refine gw_skip _ ?_
        refine z_go ?_
        refine h_F127 (n := n) S (by rw [(show ez_I h 71 6 = ez_I h 71 6 from zW_f F (fun c => c) (fun c => c))]; exact hN) hn6 (by rw [(show ez_I h 71 61 = ez_I h 71 61 from zW_f F (fun c => c) (fun c => c))]; exact hf) (by rw [(show ez_I h 71 59 = ez_I h 71 59 from zW_f F (fun c => c) (fun c => c))]; exact hp) hnn (fun h22 F23 k24 k25 => ?_)
        have F26 := zW_tr (zW_mono F x73_0 x73_1 x73_2) (zW_mono F23 x73_3 x73_4 x73_2)
        exact K _ F26 k24 k25
      · have c21 : ¬ (m.toInt ≤ x20.toInt) := c21
        refine gw_ld rfl rfl ?_
        have r27 := z_rng (ez_I h 71 61)
        refine z_gI2 (by decide) (zT S (by decide) rfl) (zW_f F (fun c => c) (fun c => c)) ?_
        refine z_b1 (fun c28 => ?_) (fun c28 => ?_)
        · have c28 : ((ez_I h 71 61)).toInt ≠ 0 := c28
          refine gw_skip _ ?_
          refine z_go ?_
          refine h_F127 (n := n) S (by rw [(show ez_I h 71 6 = ez_I h 71 6 from zW_f F (fun c => c) (fun c => c))]; exact hN) hn6 (by rw [(show ez_I h 71 61 = ez_I h 71 61 from zW_f F (fun c => c) (fun c => c))]; exact hf) (by rw [(show ez_I h 71 59 = ez_I h 71 59 from zW_f F (fun c => c) (fun c => c))]; exact hp) hnn (fun h29 F30 k31 k32 => ?_)
          have F33 := zW_tr (zW_mono F x73_0 x73_1 x73_2) (zW_mono F30 x73_3 x73_4 x73_2)
          exact K _ F33 k31 k32
        · have c28 : ¬ (((ez_I h 71 61)).toInt ≠ 0) := c28
          exfalso; omega
    · have c18 : ¬ (k.toInt ≤ 0) := c18
      refine gw_ld rfl rfl ?_
      refine z_gR (q := 123) (zT S (by decide) rfl) (zRf S (by decide) (by decide) rfl) (by decide) ?_
      refine gw_ld rfl rfl ?_
      refine z_C (m := 1) rfl rfl (fun x34 ex34 => ?_)
      refine z_sub (by omega) (fun x35 ex35 => ?_)
      refine z_iaV (n := 330) (zT S (by decide) rfl) (zN S (by decide) rfl) (by omega) (zW_f F (fun c => c) (fun c => c)) ?_
      generalize ex36 : ez_I h 123 x35.toInt.toNat = x36
      have rx36 := z_rng x36
      refine z_go ?_
      refine gw_skip _ ?_
      refine gw_st rfl rfl rfl ?_
      show ez_gw _ _ _ _ _ _ _ _ [some (.ref 71), some (.int nl), some (.int nd), l3, some (.int k), some (.int sy), l6, some (.int m), some (.int x36), l9] _ _ _
      refine z_C (m := 0) rfl rfl (fun x37 ex37 => ?_)
      refine gw_st rfl rfl rfl ?_
      show ez_gw _ _ _ _ _ _ _ _ [some (.ref 71), some (.int nl), some (.int nd), l3, some (.int k), some (.int sy), l6, some (.int m), some (.int x36), some (.int x37)] _ _ _
      refine gw_ld rfl rfl ?_
      refine gw_ld rfl rfl ?_
      refine z_b2 (fun c38 => ?_) (fun c38 => ?_)
      · have c38 : m.toInt ≤ x37.toInt := c38
        refine gw_skip _ ?_
        refine z_go ?_
        refine h_F127 (n := n) S (by rw [(show ez_I h 71 6 = ez_I h 71 6 from zW_f F (fun c => c) (fun c => c))]; exact hN) hn6 (by rw [(show ez_I h 71 61 = ez_I h 71 61 from zW_f F (fun c => c) (fun c => c))]; exact hf) (by rw [(show ez_I h 71 59 = ez_I h 71 59 from zW_f F (fun c => c) (fun c => c))]; exact hp) hnn (fun h39 F40 k41 k42 => ?_)
        have F43 := zW_tr (zW_mono F x73_0 x73_1 x73_2) (zW_mono F40 x73_3 x73_4 x73_2)
        exact K _ F43 k41 k42
      · have c38 : ¬ (m.toInt ≤ x37.toInt) := c38
        refine gw_ld rfl rfl ?_
        have r44 := z_rng (ez_I h 71 61)
        refine z_gI2 (by decide) (zT S (by decide) rfl) (zW_f F (fun c => c) (fun c => c)) ?_
        refine z_b1 (fun c45 => ?_) (fun c45 => ?_)
        · have c45 : ((ez_I h 71 61)).toInt ≠ 0 := c45
          refine gw_skip _ ?_
          refine z_go ?_
          refine h_F127 (n := n) S (by rw [(show ez_I h 71 6 = ez_I h 71 6 from zW_f F (fun c => c) (fun c => c))]; exact hN) hn6 (by rw [(show ez_I h 71 61 = ez_I h 71 61 from zW_f F (fun c => c) (fun c => c))]; exact hf) (by rw [(show ez_I h 71 59 = ez_I h 71 59 from zW_f F (fun c => c) (fun c => c))]; exact hp) hnn (fun h46 F47 k48 k49 => ?_)
          have F50 := zW_tr (zW_mono F x73_0 x73_1 x73_2) (zW_mono F47 x73_3 x73_4 x73_2)
          exact K _ F50 k48 k49
        · have c45 : ¬ (((ez_I h 71 61)).toInt ≠ 0) := c45
          exfalso; omega
theorem x73_5 : ¬ (71 = 123) := by omega
theorem x73_6 : ¬ (71 = 71 ∧ 6 = 61) := by omega
theorem x73_7 : ¬ (71 = 71 ∧ 59 = 61) := by omega
theorem x73_8 : ∀ q k : Nat, (q = 71 ∧ k = 61) → (q = 71 ∧ k = 59 ∨ q = 71 ∧ k = 61) := fun q k hk => (.inr hk)
theorem x73_9 : ∀ q : Nat, (q = 123) → (q = 115 ∨ q = 120 ∨ q = 121 ∨ q = 122 ∨ q = 123) := fun q hk => (.inr (.inr (.inr (.inr hk))))
theorem x73_10 : ∀ q k : Nat, (q = 71 ∧ k = 61) → (q = 71 ∧ k = 61) := fun q k hk => hk
theorem x73_11 : ∀ q : Nat, (False) → (q = 123) := fun q hk => hk.elim
set_option maxRecDepth 4000 in
set_option maxHeartbeats 2000000 in
theorem h_F165 {E : Nat → Nat × (Nat → Int32)} {d : Nat} {Q : ez_Q} {h : ez_H} {nl : Int32} {nd : Int32} {mn : Int32} {k : Int32} {sy : Int32} {rs : Int32} {l7 : Option Value} {l8 : Option Value} {l9 : Option Value} (S : zSh h) {n : Nat} (hN : (ez_I h 71 6).toInt = (n : Nat)) (hn6 : n ≤ 6000) (hf : 1 ≤ (ez_I h 71 61).toInt) (hp : 0 ≤ (ez_I h 71 59).toInt ∧ (ez_I h 71 59).toInt ≤ 8 * (n : Int)) (hnn : 0 ≤ nl.toInt ∧ nl.toInt ≤ 400 ∧ 0 ≤ nd.toInt ∧ nd.toInt ≤ 400) (hk : 0 ≤ k.toInt ∧ k.toInt ≤ 320) (hs : 0 ≤ sy.toInt ∧ sy.toInt ≤ 18 ∧ 0 ≤ rs.toInt ∧ rs.toInt ≤ 200) (K : ∀ h2, zW (fun q k => q = 71 ∧ k = 59 ∨ q = 71 ∧ k = 61) (fun q => q = 115 ∨ q = 120 ∨ q = 121 ∨ q = 122 ∨ q = 123) (fun _ => False) h h2 → 1 ≤ (ez_I h2 71 61).toInt → (0 ≤ (ez_I h2 71 59).toInt ∧ (ez_I h2 71 59).toInt ≤ 8 * (n : Int)) → Q (.inl none) h2) : pw E (d + 2) 58 165 [some (.ref 71), some (.int nl), some (.int nd), some (.int mn), some (.int k), some (.int sy), some (.int rs), l7, l8, l9] [] h Q := by
  have gnl := z_rng nl
  have gnd := z_rng nd
  have gmn := z_rng mn
  have gk := z_rng k
  have gsy := z_rng sy
  have grs := z_rng rs
  have F := zW_refl (fun q k => q = 71 ∧ k = 61) (fun q => q = 123) (fun _ => False) h
  apply ez_Wp_in
  show ez_gw _ _ _ _ _ _ (cz_58) _ _ _ _ _
  refine gw_skip _ ?_
  have r1 := z_rng (ez_I h 71 61)
  refine gw_ld rfl rfl ?_
  refine z_C (m := 16) rfl rfl (fun x2 ex2 => ?_)
  refine z_b2 (fun c3 => ?_) (fun c3 => ?_)
  · have c3 : x2.toInt ≤ sy.toInt := c3
    refine gw_skip _ ?_
    refine gw_ld rfl rfl ?_
    refine gw_ld rfl rfl ?_
    refine z_C (m := 18) rfl rfl (fun x4 ex4 => ?_)
    refine z_b2 (fun c5 => ?_) (fun c5 => ?_)
    · have c5 : sy.toInt ≠ x4.toInt := c5
      refine gw_skip _ ?_
      refine z_C (m := 3) rfl rfl (fun x6 ex6 => ?_)
      refine z_add (by omega) (fun x7 ex7 => ?_)
      refine gw_st rfl rfl rfl ?_
      show ez_gw _ _ _ _ _ _ _ _ [some (.ref 71), some (.int nl), some (.int nd), some (.int mn), some (.int k), some (.int sy), some (.int rs), some (.int x7), l8, l9] _ _ _
      refine gw_ld rfl rfl ?_
      refine z_C (m := 16) rfl rfl (fun x8 ex8 => ?_)
      refine z_b2 (fun c9 => ?_) (fun c9 => ?_)
      · have c9 : sy.toInt ≠ x8.toInt := c9
        refine gw_skip _ ?_
        refine gw_ld rfl rfl ?_
        refine gw_ld rfl rfl ?_
        refine z_add (by omega) (fun x10 ex10 => ?_)
        refine gw_ld rfl rfl ?_
        refine gw_ld rfl rfl ?_
        refine z_add (by omega) (fun x11 ex11 => ?_)
        refine z_b2 (fun c12 => ?_) (fun c12 => ?_)
        · have c12 : x10.toInt ≤ x11.toInt := c12
          suffices tl : pw E (d + 2) 58 234 [some (.ref 71), some (.int nl), some (.int nd), some (.int mn), some (.int k), some (.int sy), some (.int rs), some (.int x7), l8, l9] [] h Q from gw_skip _ (ez_Wp_at tl rfl)
          refine h_F234 (n := n) S (by rw [(show ez_I h 71 6 = ez_I h 71 6 from zW_f F x73_5 x73_6)]; exact hN) hn6 (by omega) (by rw [(show ez_I h 71 59 = ez_I h 71 59 from zW_f F x73_5 x73_7)]; exact hp) hnn (by omega) (fun h13 F14 k15 k16 => ?_)
          have F17 := zW_tr (zW_mono F x73_8 x73_9 x73_2) (zW_mono F14 x73_3 x73_4 x73_2)
          exact K _ F17 k15 k16
        · have c12 : ¬ (x10.toInt ≤ x11.toInt) := c12
          refine gw_ld rfl rfl ?_
          refine z_C (m := 6) rfl rfl (fun x18 ex18 => ?_)
          refine z_cl rfl rfl rfl rfl rfl rfl rfl rfl rfl rfl rfl (zT S (by decide) rfl) ?_
          refine d_wrong (n := x18) S (fun h19 F20 k21 k22 => ?_)
          have kw23 := k22 (by omega)
          clear k21 k22
          have S24 := zW_sh F20 S
          have F25 := zW_tr F (zW_mono F20 (x73_10) (x73_11) (x73_2))
          have r26 := z_rng (ez_I h19 71 61)
          suffices tl : pw E (d + 2) 58 234 [some (.ref 71), some (.int nl), some (.int nd), some (.int mn), some (.int k), some (.int sy), some (.int rs), some (.int x7), l8, l9] [] h19 Q from ez_Wp_at tl rfl
          refine h_F234 (n := n) S24 (by rw [(show ez_I h19 71 6 = ez_I h 71 6 from zW_f F25 x73_5 x73_6)]; exact hN) hn6 (by omega) (by rw [(show ez_I h19 71 59 = ez_I h 71 59 from zW_f F25 x73_5 x73_7)]; exact hp) hnn (by omega) (fun h27 F28 k29 k30 => ?_)
          have F31 := zW_tr (zW_mono F25 x73_8 x73_9 x73_2) (zW_mono F28 x73_3 x73_4 x73_2)
          exact K _ F31 k29 k30
      · have c9 : ¬ (sy.toInt ≠ x8.toInt) := c9
        refine gw_ld rfl rfl ?_
        refine z_b1 (fun c32 => ?_) (fun c32 => ?_)
        · have c32 : k.toInt = 0 := c32
          refine gw_skip _ ?_
          refine gw_ld rfl rfl ?_
          refine z_C (m := 6) rfl rfl (fun x33 ex33 => ?_)
          refine z_cl rfl rfl rfl rfl rfl rfl rfl rfl rfl rfl rfl (zT S (by decide) rfl) ?_
          refine d_wrong (n := x33) S (fun h34 F35 k36 k37 => ?_)
          have kw38 := k37 (by omega)
          clear k36 k37
          have S39 := zW_sh F35 S
          have F40 := zW_tr F (zW_mono F35 (x73_10) (x73_11) (x73_2))
          have r41 := z_rng (ez_I h34 71 61)
          suffices tl : pw E (d + 2) 58 234 [some (.ref 71), some (.int nl), some (.int nd), some (.int mn), some (.int k), some (.int sy), some (.int rs), some (.int x7), l8, l9] [] h34 Q from ez_Wp_at tl rfl
          refine h_F234 (n := n) S39 (by rw [(show ez_I h34 71 6 = ez_I h 71 6 from zW_f F40 x73_5 x73_6)]; exact hN) hn6 (by omega) (by rw [(show ez_I h34 71 59 = ez_I h 71 59 from zW_f F40 x73_5 x73_7)]; exact hp) hnn (by omega) (fun h42 F43 k44 k45 => ?_)
          have F46 := zW_tr (zW_mono F40 x73_8 x73_9 x73_2) (zW_mono F43 x73_3 x73_4 x73_2)
          exact K _ F46 k44 k45
        · have c32 : ¬ (k.toInt = 0) := c32
          refine gw_ld rfl rfl ?_
          refine gw_ld rfl rfl ?_
          refine z_add (by omega) (fun x47 ex47 => ?_)
          refine gw_ld rfl rfl ?_
          refine gw_ld rfl rfl ?_
          refine z_add (by omega) (fun x48 ex48 => ?_)
          refine z_b2 (fun c49 => ?_) (fun c49 => ?_)
          · have c49 : x47.toInt ≤ x48.toInt := c49
            suffices tl : pw E (d + 2) 58 234 [some (.ref 71), some (.int nl), some (.int nd), some (.int mn), some (.int k), some (.int sy), some (.int rs), some (.int x7), l8, l9] [] h Q from gw_skip _ (ez_Wp_at tl rfl)
            refine h_F234 (n := n) S (by rw [(show ez_I h 71 6 = ez_I h 71 6 from zW_f F x73_5 x73_6)]; exact hN) hn6 (by omega) (by rw [(show ez_I h 71 59 = ez_I h 71 59 from zW_f F x73_5 x73_7)]; exact hp) hnn (by omega) (fun h50 F51 k52 k53 => ?_)
            have F54 := zW_tr (zW_mono F x73_8 x73_9 x73_2) (zW_mono F51 x73_3 x73_4 x73_2)
            exact K _ F54 k52 k53
          · have c49 : ¬ (x47.toInt ≤ x48.toInt) := c49
            refine gw_ld rfl rfl ?_
            refine z_C (m := 6) rfl rfl (fun x55 ex55 => ?_)
            refine z_cl rfl rfl rfl rfl rfl rfl rfl rfl rfl rfl rfl (zT S (by decide) rfl) ?_
            refine d_wrong (n := x55) S (fun h56 F57 k58 k59 => ?_)
            have kw60 := k59 (by omega)
            clear k58 k59
            have S61 := zW_sh F57 S
            have F62 := zW_tr F (zW_mono F57 (x73_10) (x73_11) (x73_2))
            have r63 := z_rng (ez_I h56 71 61)
            suffices tl : pw E (d + 2) 58 234 [some (.ref 71), some (.int nl), some (.int nd), some (.int mn), some (.int k), some (.int sy), some (.int rs), some (.int x7), l8, l9] [] h56 Q from ez_Wp_at tl rfl
            refine h_F234 (n := n) S61 (by rw [(show ez_I h56 71 6 = ez_I h 71 6 from zW_f F62 x73_5 x73_6)]; exact hN) hn6 (by omega) (by rw [(show ez_I h56 71 59 = ez_I h 71 59 from zW_f F62 x73_5 x73_7)]; exact hp) hnn (by omega) (fun h64 F65 k66 k67 => ?_)
            have F68 := zW_tr (zW_mono F62 x73_8 x73_9 x73_2) (zW_mono F65 x73_3 x73_4 x73_2)
            exact K _ F68 k66 k67
    · have c5 : ¬ (sy.toInt ≠ x4.toInt) := c5
      refine z_C (m := 11) rfl rfl (fun x69 ex69 => ?_)
      refine z_go ?_
      refine gw_skip _ ?_
      refine z_add (by omega) (fun x70 ex70 => ?_)
      refine gw_st rfl rfl rfl ?_
      show ez_gw _ _ _ _ _ _ _ _ [some (.ref 71), some (.int nl), some (.int nd), some (.int mn), some (.int k), some (.int sy), some (.int rs), some (.int x70), l8, l9] _ _ _
      refine gw_ld rfl rfl ?_
      refine z_C (m := 16) rfl rfl (fun x71 ex71 => ?_)
      refine z_b2 (fun c72 => ?_) (fun c72 => ?_)
      · have c72 : sy.toInt ≠ x71.toInt := c72
        refine gw_skip _ ?_
        refine gw_ld rfl rfl ?_
        refine gw_ld rfl rfl ?_
        refine z_add (by omega) (fun x73 ex73 => ?_)
        refine gw_ld rfl rfl ?_
        refine gw_ld rfl rfl ?_
        refine z_add (by omega) (fun x74 ex74 => ?_)
        refine z_b2 (fun c75 => ?_) (fun c75 => ?_)
        · have c75 : x73.toInt ≤ x74.toInt := c75
          suffices tl : pw E (d + 2) 58 234 [some (.ref 71), some (.int nl), some (.int nd), some (.int mn), some (.int k), some (.int sy), some (.int rs), some (.int x70), l8, l9] [] h Q from gw_skip _ (ez_Wp_at tl rfl)
          refine h_F234 (n := n) S (by rw [(show ez_I h 71 6 = ez_I h 71 6 from zW_f F x73_5 x73_6)]; exact hN) hn6 (by omega) (by rw [(show ez_I h 71 59 = ez_I h 71 59 from zW_f F x73_5 x73_7)]; exact hp) hnn (by omega) (fun h76 F77 k78 k79 => ?_)
          have F80 := zW_tr (zW_mono F x73_8 x73_9 x73_2) (zW_mono F77 x73_3 x73_4 x73_2)
          exact K _ F80 k78 k79
        · have c75 : ¬ (x73.toInt ≤ x74.toInt) := c75
          refine gw_ld rfl rfl ?_
          refine z_C (m := 6) rfl rfl (fun x81 ex81 => ?_)
          refine z_cl rfl rfl rfl rfl rfl rfl rfl rfl rfl rfl rfl (zT S (by decide) rfl) ?_
          refine d_wrong (n := x81) S (fun h82 F83 k84 k85 => ?_)
          have kw86 := k85 (by omega)
          clear k84 k85
          have S87 := zW_sh F83 S
          have F88 := zW_tr F (zW_mono F83 (x73_10) (x73_11) (x73_2))
          have r89 := z_rng (ez_I h82 71 61)
          suffices tl : pw E (d + 2) 58 234 [some (.ref 71), some (.int nl), some (.int nd), some (.int mn), some (.int k), some (.int sy), some (.int rs), some (.int x70), l8, l9] [] h82 Q from ez_Wp_at tl rfl
          refine h_F234 (n := n) S87 (by rw [(show ez_I h82 71 6 = ez_I h 71 6 from zW_f F88 x73_5 x73_6)]; exact hN) hn6 (by omega) (by rw [(show ez_I h82 71 59 = ez_I h 71 59 from zW_f F88 x73_5 x73_7)]; exact hp) hnn (by omega) (fun h90 F91 k92 k93 => ?_)
          have F94 := zW_tr (zW_mono F88 x73_8 x73_9 x73_2) (zW_mono F91 x73_3 x73_4 x73_2)
          exact K _ F94 k92 k93
      · have c72 : ¬ (sy.toInt ≠ x71.toInt) := c72
        exfalso; omega
  · have c3 : ¬ (x2.toInt ≤ sy.toInt) := c3
    refine gw_ld rfl rfl ?_
    refine z_gR (q := 123) (zT S (by decide) rfl) (zRf S (by decide) (by decide) rfl) (by decide) ?_
    refine gw_ld rfl rfl ?_
    refine gw_ld rfl rfl ?_
    refine z_is (n := 330) (zT S (by decide) rfl) (zN S (by decide) rfl) (by omega) (fun h95 e96 => ?_)
    have S97 := zSh_set S e96
    have F98 := zW_setA F e96 (by decide)
    have f99 : ez_I h95 71 61 = (ez_I h 71 61) := (zI_ne e96 (by omega)).trans (rfl)
    refine z_inc rfl (by rw [show (1 : Int32).toInt = 1 from rfl]; omega) (fun x100 ex100 => ?_)
    rw [show (1 : Int32).toInt = 1 from rfl] at ex100
    show ez_gw _ _ _ _ _ _ _ _ [some (.ref 71), some (.int nl), some (.int nd), some (.int mn), some (.int x100), some (.int sy), some (.int rs), l7, l8, l9] _ _ _
    refine z_go ?_
    have t101 := congrArg Int32.toInt (f99)
    refine h_F127 (n := n) S97 (by rw [(show ez_I h95 71 6 = ez_I h 71 6 from zW_f F98 x73_5 x73_6)]; exact hN) hn6 (by omega) (by rw [(show ez_I h95 71 59 = ez_I h 71 59 from zW_f F98 x73_5 x73_7)]; exact hp) hnn (fun h102 F103 k104 k105 => ?_)
    have F106 := zW_tr (zW_mono F98 x73_8 x73_9 x73_2) (zW_mono F103 x73_3 x73_4 x73_2)
    exact K _ F106 k104 k105
theorem x73_12 : ¬ (71 = 71 ∧ 6 = 59 ∨ 71 = 71 ∧ 6 = 61) := by omega
set_option maxRecDepth 4000 in
set_option maxHeartbeats 2000000 in
theorem h_F154 {E : Nat → Nat × (Nat → Int32)} {d : Nat} {Q : ez_Q} {h : ez_H} {nl : Int32} {nd : Int32} {mn : Int32} {k : Int32} {sy : Int32} {l6 : Option Value} {l7 : Option Value} {l8 : Option Value} {l9 : Option Value} (S : zSh h) {n : Nat} (hN : (ez_I h 71 6).toInt = (n : Nat)) (hn6 : n ≤ 6000) (hf : 1 ≤ (ez_I h 71 61).toInt) (hp : 0 ≤ (ez_I h 71 59).toInt ∧ (ez_I h 71 59).toInt ≤ 8 * (n : Int)) (hnn : 0 ≤ nl.toInt ∧ nl.toInt ≤ 400 ∧ 0 ≤ nd.toInt ∧ nd.toInt ≤ 400) (hk : 0 ≤ k.toInt ∧ k.toInt ≤ 320) (hs : sy.toInt = 0) (K : ∀ h2, zW (fun q k => q = 71 ∧ k = 59 ∨ q = 71 ∧ k = 61) (fun q => q = 115 ∨ q = 120 ∨ q = 121 ∨ q = 122 ∨ q = 123) (fun _ => False) h h2 → 1 ≤ (ez_I h2 71 61).toInt → (0 ≤ (ez_I h2 71 59).toInt ∧ (ez_I h2 71 59).toInt ≤ 8 * (n : Int)) → Q (.inl none) h2) : pw E (d + 2) 58 154 [some (.ref 71), some (.int nl), some (.int nd), some (.int mn), some (.int k), some (.int sy), l6, l7, l8, l9] [] h Q := by
  have gnl := z_rng nl
  have gnd := z_rng nd
  have gmn := z_rng mn
  have gk := z_rng k
  have gsy := z_rng sy
  have F := zW_refl (fun q k => q = 71 ∧ k = 59 ∨ q = 71 ∧ k = 61) (fun _ => False) (fun _ => False) h
  apply ez_Wp_in
  show ez_gw _ _ _ _ _ _ (cz_58) _ _ _ _ _
  refine gw_skip _ ?_
  have r1 := z_rng (ez_I h 71 59)
  have r2 := z_rng (ez_I h 71 61)
  refine gw_ld rfl rfl ?_
  refine gw_ld rfl rfl ?_
  refine z_cl rfl rfl rfl rfl rfl rfl rfl rfl rfl rfl rfl (trivial) ?_
  refine d_rest (y := sy) S (by omega) (fun x3 k4 => ?_)
  have rx3 := z_rng x3
  rw [show sy.toInt.toNat = 0 by omega, show rEf 0 = 0 from rfl] at k4
  refine z_cl rfl rfl rfl rfl rfl rfl rfl rfl rfl rfl rfl (zT S (by decide) rfl) ?_
  refine d_tbF (v := x3) (n := n) (N := 0) S (by rw [(show ez_I h 71 6 = ez_I h 71 6 from zW_f F (fun c => c) x73_12)]; exact hN) hn6 (by omega) (by omega) (by omega) (by omega) (fun h5 x6 F7 k8 k9 k10 k11 => ?_)
  have rx6 := z_rng x6
  have S12 := zW_sh F7 S
  have F13 := zW_tr F (zW_mono F7 (x73_3) (x73_2) (x73_2))
  have r14 := z_rng (ez_I h5 71 59)
  have r15 := z_rng (ez_I h5 71 61)
  refine gw_st rfl rfl rfl ?_
  show ez_gw _ _ _ _ _ _ _ _ [some (.ref 71), some (.int nl), some (.int nd), some (.int mn), some (.int k), some (.int sy), some (.int x6), l7, l8, l9] _ _ _
  suffices tl : pw E (d + 2) 58 165 [some (.ref 71), some (.int nl), some (.int nd), some (.int mn), some (.int k), some (.int sy), some (.int x6), l7, l8, l9] [] h5 Q from ez_Wp_at tl rfl
  refine h_F165 (n := n) S12 (by rw [(show ez_I h5 71 6 = ez_I h 71 6 from zW_f F13 (fun c => c) x73_12)]; exact hN) hn6 (by omega) (by omega) hnn (by omega) (by have q0 : (2 ^ 0 : Nat) = 1 := rfl; omega) (fun h16 F17 k18 k19 => ?_)
  have F20 := zW_tr (zW_mono F13 x73_3 x73_1 x73_2) (zW_mono F17 x73_3 x73_4 x73_2)
  exact K _ F20 k18 k19
theorem x73_13 : ∀ k : Nat, ¬ (122 = 71 ∧ k = 61) := fun k c => by omega
set_option maxRecDepth 4000 in
set_option maxHeartbeats 2000000 in
theorem h_F71 {E : Nat → Nat × (Nat → Int32)} {d : Nat} {Q : ez_Q} {h : ez_H} {nl : Int32} {nd : Int32} {mn : Int32} {k : Int32} {l5 : Option Value} {l6 : Option Value} {l7 : Option Value} {l8 : Option Value} {l9 : Option Value} (S : zSh h) {n : Nat} (hN : (ez_I h 71 6).toInt = (n : Nat)) (hn6 : n ≤ 6000) (hf : 1 ≤ (ez_I h 71 61).toInt) (hp : 0 ≤ (ez_I h 71 59).toInt ∧ (ez_I h 71 59).toInt ≤ 8 * (n : Int)) (hnn : 0 ≤ nl.toInt ∧ nl.toInt ≤ 400 ∧ 0 ≤ nd.toInt ∧ nd.toInt ≤ 400) (ar : aR (ez_I h 122) 19 0 15) (K : ∀ h2, zW (fun q k => q = 71 ∧ k = 59 ∨ q = 71 ∧ k = 61) (fun q => q = 115 ∨ q = 120 ∨ q = 121 ∨ q = 122 ∨ q = 123) (fun _ => False) h h2 → 1 ≤ (ez_I h2 71 61).toInt → (0 ≤ (ez_I h2 71 59).toInt ∧ (ez_I h2 71 59).toInt ≤ 8 * (n : Int)) → Q (.inl none) h2) : pw E (d + 2) 58 71 [some (.ref 71), some (.int nl), some (.int nd), some (.int mn), some (.int k), l5, l6, l7, l8, l9] [] h Q := by
  have gnl := z_rng nl
  have gnd := z_rng nd
  have gmn := z_rng mn
  have gk := z_rng k
  have F := zW_refl (fun q k => q = 71 ∧ k = 61) (fun _ => False) (fun _ => False) h
  apply ez_Wp_in
  show ez_gw _ _ _ _ _ _ (cz_58) _ _ _ _ _
  refine gw_skip _ ?_
  have r1 := z_rng (ez_I h 71 61)
  refine gw_ld rfl rfl ?_
  refine gw_ld rfl rfl ?_
  refine z_b2 (fun c2 => ?_) (fun c2 => ?_)
  · have c2 : mn.toInt ≤ k.toInt := c2
    refine gw_skip _ ?_
    refine gw_ld rfl rfl ?_
    refine z_gR (q := 122) (zT S (by decide) rfl) (zRf S (by decide) (by decide) rfl) (by decide) ?_
    refine z_C (m := 19) rfl rfl (fun x3 ex3 => ?_)
    refine z_cl rfl rfl rfl rfl rfl rfl rfl rfl rfl rfl rfl (trivial) ?_
    refine d_whole (u := 122) (n := x3) S (nu := 19) (fun _ S => ⟨zT S (by decide) rfl, zN S (by decide) rfl⟩) (by omega) (by rw [show x3.toInt.toNat = 19 by omega, (show ez_I h 122 = ez_I h 122 from zW_fn F 122 (fun c => c) x73_13)]; exact ar) (fun x4 k5 => ?_)
    have rx4 := z_rng x4
    clear k5
    refine z_b1 (fun c6 => ?_) (fun c6 => ?_)
    · have c6 : x4.toInt ≠ 0 := c6
      refine gw_skip _ ?_
      refine z_C (m := 0) rfl rfl (fun x7 ex7 => ?_)
      refine gw_st rfl rfl rfl ?_
      show ez_gw _ _ _ _ _ _ _ _ [some (.ref 71), some (.int nl), some (.int nd), some (.int mn), some (.int x7), l5, l6, l7, l8, l9] _ _ _
      suffices tl : pw E (d + 2) 58 127 [some (.ref 71), some (.int nl), some (.int nd), some (.int mn), some (.int x7), l5, l6, l7, l8, l9] [] h Q from ez_Wp_at tl rfl
      refine h_F127 (n := n) S (by rw [(show ez_I h 71 6 = ez_I h 71 6 from zW_f F (fun c => c) x73_6)]; exact hN) hn6 (by omega) (by rw [(show ez_I h 71 59 = ez_I h 71 59 from zW_f F (fun c => c) x73_7)]; exact hp) hnn (fun h8 F9 k10 k11 => ?_)
      have F12 := zW_tr (zW_mono F x73_8 x73_1 x73_2) (zW_mono F9 x73_3 x73_4 x73_2)
      exact K _ F12 k10 k11
    · have c6 : ¬ (x4.toInt ≠ 0) := c6
      refine gw_ld rfl rfl ?_
      refine z_C (m := 5) rfl rfl (fun x13 ex13 => ?_)
      refine z_cl rfl rfl rfl rfl rfl rfl rfl rfl rfl rfl rfl (zT S (by decide) rfl) ?_
      refine d_wrong (n := x13) S (fun h14 F15 k16 k17 => ?_)
      have kw18 := k17 (by omega)
      clear k16 k17
      have S19 := zW_sh F15 S
      have F20 := zW_tr F (zW_mono F15 (x73_10) (x73_2) (x73_2))
      have r21 := z_rng (ez_I h14 71 61)
      refine z_C (m := 0) rfl rfl (fun x22 ex22 => ?_)
      refine gw_st rfl rfl rfl ?_
      show ez_gw _ _ _ _ _ _ _ _ [some (.ref 71), some (.int nl), some (.int nd), some (.int mn), some (.int x22), l5, l6, l7, l8, l9] _ _ _
      suffices tl : pw E (d + 2) 58 127 [some (.ref 71), some (.int nl), some (.int nd), some (.int mn), some (.int x22), l5, l6, l7, l8, l9] [] h14 Q from ez_Wp_at tl rfl
      refine h_F127 (n := n) S19 (by rw [(show ez_I h14 71 6 = ez_I h 71 6 from zW_f F20 (fun c => c) x73_6)]; exact hN) hn6 (by omega) (by rw [(show ez_I h14 71 59 = ez_I h 71 59 from zW_f F20 (fun c => c) x73_7)]; exact hp) hnn (fun h23 F24 k25 k26 => ?_)
      have F27 := zW_tr (zW_mono F20 x73_8 x73_1 x73_2) (zW_mono F24 x73_3 x73_4 x73_2)
      exact K _ F27 k25 k26
  · have c2 : ¬ (mn.toInt ≤ k.toInt) := c2
    refine gw_ld rfl rfl ?_
    refine z_gI2 (by decide) (zT S (by decide) rfl) (rfl) ?_
    refine z_b1 (fun c28 => ?_) (fun c28 => ?_)
    · have c28 : ((ez_I h 71 61)).toInt ≠ 0 := c28
      refine gw_skip _ ?_
      refine gw_ld rfl rfl ?_
      refine z_gR (q := 122) (zT S (by decide) rfl) (zRf S (by decide) (by decide) rfl) (by decide) ?_
      refine z_C (m := 19) rfl rfl (fun x29 ex29 => ?_)
      refine z_cl rfl rfl rfl rfl rfl rfl rfl rfl rfl rfl rfl (trivial) ?_
      refine d_whole (u := 122) (n := x29) S (nu := 19) (fun _ S => ⟨zT S (by decide) rfl, zN S (by decide) rfl⟩) (by omega) (by rw [show x29.toInt.toNat = 19 by omega, (show ez_I h 122 = ez_I h 122 from zW_fn F 122 (fun c => c) x73_13)]; exact ar) (fun x30 k31 => ?_)
      have rx30 := z_rng x30
      clear k31
      refine z_b1 (fun c32 => ?_) (fun c32 => ?_)
      · have c32 : x30.toInt ≠ 0 := c32
        refine gw_skip _ ?_
        refine z_C (m := 0) rfl rfl (fun x33 ex33 => ?_)
        refine gw_st rfl rfl rfl ?_
        show ez_gw _ _ _ _ _ _ _ _ [some (.ref 71), some (.int nl), some (.int nd), some (.int mn), some (.int x33), l5, l6, l7, l8, l9] _ _ _
        suffices tl : pw E (d + 2) 58 127 [some (.ref 71), some (.int nl), some (.int nd), some (.int mn), some (.int x33), l5, l6, l7, l8, l9] [] h Q from ez_Wp_at tl rfl
        refine h_F127 (n := n) S (by rw [(show ez_I h 71 6 = ez_I h 71 6 from zW_f F (fun c => c) x73_6)]; exact hN) hn6 (by omega) (by rw [(show ez_I h 71 59 = ez_I h 71 59 from zW_f F (fun c => c) x73_7)]; exact hp) hnn (fun h34 F35 k36 k37 => ?_)
        have F38 := zW_tr (zW_mono F x73_8 x73_1 x73_2) (zW_mono F35 x73_3 x73_4 x73_2)
        exact K _ F38 k36 k37
      · have c32 : ¬ (x30.toInt ≠ 0) := c32
        refine gw_ld rfl rfl ?_
        refine z_C (m := 5) rfl rfl (fun x39 ex39 => ?_)
        refine z_cl rfl rfl rfl rfl rfl rfl rfl rfl rfl rfl rfl (zT S (by decide) rfl) ?_
        refine d_wrong (n := x39) S (fun h40 F41 k42 k43 => ?_)
        have kw44 := k43 (by omega)
        clear k42 k43
        have S45 := zW_sh F41 S
        have F46 := zW_tr F (zW_mono F41 (x73_10) (x73_2) (x73_2))
        have r47 := z_rng (ez_I h40 71 61)
        refine z_C (m := 0) rfl rfl (fun x48 ex48 => ?_)
        refine gw_st rfl rfl rfl ?_
        show ez_gw _ _ _ _ _ _ _ _ [some (.ref 71), some (.int nl), some (.int nd), some (.int mn), some (.int x48), l5, l6, l7, l8, l9] _ _ _
        suffices tl : pw E (d + 2) 58 127 [some (.ref 71), some (.int nl), some (.int nd), some (.int mn), some (.int x48), l5, l6, l7, l8, l9] [] h40 Q from ez_Wp_at tl rfl
        refine h_F127 (n := n) S45 (by rw [(show ez_I h40 71 6 = ez_I h 71 6 from zW_f F46 (fun c => c) x73_6)]; exact hN) hn6 (by omega) (by rw [(show ez_I h40 71 59 = ez_I h 71 59 from zW_f F46 (fun c => c) x73_7)]; exact hp) hnn (fun h49 F50 k51 k52 => ?_)
        have F53 := zW_tr (zW_mono F46 x73_8 x73_1 x73_2) (zW_mono F50 x73_3 x73_4 x73_2)
        exact K _ F53 k51 k52
    · have c28 : ¬ (((ez_I h 71 61)).toInt ≠ 0) := c28
      exfalso; omega
theorem x73_14 : ¬ (71 = 122) := by omega
theorem x73_15 : ∀ q : Nat, (q = 122) → (q = 115 ∨ q = 120 ∨ q = 121 ∨ q = 122 ∨ q = 123) := fun q hk => (.inr (.inr (.inr (.inl hk))))
set_option maxRecDepth 4000 in
set_option maxHeartbeats 2000000 in
theorem h_F44_L0 {E : Nat → Nat × (Nat → Int32)} {d : Nat} {Q : ez_Q} {h : ez_H} {nl : Int32} {nd : Int32} {mn : Int32} {l4 : Option Value} {l5 : Option Value} {l6 : Option Value} {l7 : Option Value} {l8 : Option Value} {l9 : Option Value} (S : zSh h) {n : Nat} (hN : (ez_I h 71 6).toInt = (n : Nat)) (hn6 : n ≤ 6000) (hf : 1 ≤ (ez_I h 71 61).toInt) (hp : 0 ≤ (ez_I h 71 59).toInt ∧ (ez_I h 71 59).toInt ≤ 8 * (n : Int)) (hnn : 0 ≤ nl.toInt ∧ nl.toInt ≤ 400 ∧ 0 ≤ nd.toInt ∧ nd.toInt ≤ 400) (K : ∀ h2, zW (fun q k => q = 71 ∧ k = 59 ∨ q = 71 ∧ k = 61) (fun q => q = 115 ∨ q = 120 ∨ q = 121 ∨ q = 122 ∨ q = 123) (fun _ => False) h h2 → 1 ≤ (ez_I h2 71 61).toInt → (0 ≤ (ez_I h2 71 59).toInt ∧ (ez_I h2 71 59).toInt ≤ 8 * (n : Int)) → Q (.inl none) h2) : ∀ N : Nat, (∀ (h2 : ez_H) (k : Int32) , zW (fun _ _ => False) (fun q => q = 122) (fun _ => False) h h2 → (0 ≤ k.toInt ∧ k.toInt ≤ 19) → (zrP (ez_I h2 122) k.toInt.toNat) → (100 - k.toInt) < (N : Int) → pw E (d + 2) 58 47 [some (.ref 71), some (.int nl), some (.int nd), some (.int mn), some (.int k), l5, l6, l7, l8, l9] [] h2 Q) := by
  intro N
  induction N with
  | zero => exact fun h2 k  F hinv A_z0 hm => absurd hm (by have w_k := z_rng k; have gnl := z_rng nl; have gnd := z_rng nd; have gmn := z_rng mn; omega)
  | succ N ih =>
    refine fun h2 k  F hinv A_z0 hm => ?_
    · skip
      have w_k := z_rng k
      have gnl := z_rng nl
      have gnd := z_rng nd
      have gmn := z_rng mn
      have S2 := zW_sh F S
      apply ez_Wp_in
      show ez_gw _ _ _ _ _ _ (cz_58) _ _ _ _ _
      refine gw_skip _ ?_
      refine gw_ld rfl rfl ?_
      refine z_C (m := 19) rfl rfl (fun x1 ex1 => ?_)
      refine z_b2 (fun c2 => ?_) (fun c2 => ?_)
      · have c2 : x1.toInt ≤ k.toInt := c2
        refine gw_skip _ ?_
        refine z_C (m := 0) rfl rfl (fun x3 ex3 => ?_)
        refine gw_st rfl rfl rfl ?_
        show ez_gw _ _ _ _ _ _ _ _ [some (.ref 71), some (.int nl), some (.int nd), some (.int mn), some (.int x3), l5, l6, l7, l8, l9] _ _ _
        suffices tl : pw E (d + 2) 58 71 [some (.ref 71), some (.int nl), some (.int nd), some (.int mn), some (.int x3), l5, l6, l7, l8, l9] [] h2 Q from ez_Wp_at tl rfl
        refine h_F71 (n := n) S2 (by rw [(show ez_I h2 71 6 = ez_I h 71 6 from zW_f F x73_14 (fun c => c))]; exact hN) hn6 (by rw [(show ez_I h2 71 61 = ez_I h 71 61 from zW_f F x73_14 (fun c => c))]; exact hf) (by rw [(show ez_I h2 71 59 = ez_I h 71 59 from zW_f F x73_14 (fun c => c))]; exact hp) hnn (fun q hq => by have b1 := A_z0 q (by omega); omega) (fun h4 F5 k6 k7 => ?_)
        have F8 := zW_tr (zW_mono F x73_0 x73_15 x73_2) (zW_mono F5 x73_3 x73_4 x73_2)
        exact K _ F8 k6 k7
      · have c2 : ¬ (x1.toInt ≤ k.toInt) := c2
        refine gw_ld rfl rfl ?_
        refine z_gR (q := 122) (zT S2 (by decide) rfl) (zRf S2 (by decide) (by decide) rfl) (by decide) ?_
        refine gw_ld rfl rfl ?_
        refine z_C (m := 0) rfl rfl (fun x9 ex9 => ?_)
        refine z_is (n := 19) (zT S2 (by decide) rfl) (zN S2 (by decide) rfl) (by omega) (fun h10 e11 => ?_)
        have S12 := zSh_set S2 e11
        have F13 := zW_setA F e11 (by decide)
        have A14 : zrP (ez_I h10 122) (k.toInt.toNat + 1) := z0_s A_z0 e11 (by omega) (by omega) rfl
        refine z_inc rfl (by rw [show (1 : Int32).toInt = 1 from rfl]; omega) (fun x15 ex15 => ?_)
        rw [show (1 : Int32).toInt = 1 from rfl] at ex15
        show ez_gw _ _ _ _ _ _ _ _ [some (.ref 71), some (.int nl), some (.int nd), some (.int mn), some (.int x15), l5, l6, l7, l8, l9] _ _ _
        refine z_go ?_
        exact ih h10 x15 F13 (by omega) ((by rw [show x15.toInt.toNat = k.toInt.toNat + 1 by omega]; exact A14)) (by omega)
set_option maxRecDepth 4000 in
set_option maxHeartbeats 2000000 in
theorem h_F44 {E : Nat → Nat × (Nat → Int32)} {d : Nat} {Q : ez_Q} {h : ez_H} {nl : Int32} {nd : Int32} {mn : Int32} {l4 : Option Value} {l5 : Option Value} {l6 : Option Value} {l7 : Option Value} {l8 : Option Value} {l9 : Option Value} (S : zSh h) {n : Nat} (hN : (ez_I h 71 6).toInt = (n : Nat)) (hn6 : n ≤ 6000) (hf : 1 ≤ (ez_I h 71 61).toInt) (hp : 0 ≤ (ez_I h 71 59).toInt ∧ (ez_I h 71 59).toInt ≤ 8 * (n : Int)) (hnn : 0 ≤ nl.toInt ∧ nl.toInt ≤ 400 ∧ 0 ≤ nd.toInt ∧ nd.toInt ≤ 400) (K : ∀ h2, zW (fun q k => q = 71 ∧ k = 59 ∨ q = 71 ∧ k = 61) (fun q => q = 115 ∨ q = 120 ∨ q = 121 ∨ q = 122 ∨ q = 123) (fun _ => False) h h2 → 1 ≤ (ez_I h2 71 61).toInt → (0 ≤ (ez_I h2 71 59).toInt ∧ (ez_I h2 71 59).toInt ≤ 8 * (n : Int)) → Q (.inl none) h2) : pw E (d + 2) 58 44 [some (.ref 71), some (.int nl), some (.int nd), some (.int mn), l4, l5, l6, l7, l8, l9] [] h Q := by
  have gnl := z_rng nl
  have gnd := z_rng nd
  have gmn := z_rng mn
  have F := zW_refl (fun _ _ => False) (fun q => q = 122) (fun _ => False) h
  apply ez_Wp_in
  show ez_gw _ _ _ _ _ _ (cz_58) _ _ _ _ _
  refine gw_skip _ ?_
  refine z_C (m := 0) rfl rfl (fun x1 ex1 => ?_)
  refine gw_st rfl rfl rfl ?_
  show ez_gw _ _ _ _ _ _ _ _ [some (.ref 71), some (.int nl), some (.int nd), some (.int mn), some (.int x1), l5, l6, l7, l8, l9] _ _ _
  exact ez_Wp_at ((h_F44_L0 (nl := nl) (nd := nd) (mn := mn) (l4 := l4) (l5 := l5) (l6 := l6) (l7 := l7) (l8 := l8) (l9 := l9) S hN hn6 hf hp hnn K (((100 - x1.toInt)).toNat + 1)) h x1 F (by omega) ((fun q hq => by omega)) (by omega)) rfl
set_option maxRecDepth 4000 in
set_option maxHeartbeats 2000000 in
theorem h_F26 {E : Nat → Nat × (Nat → Int32)} {d : Nat} {Q : ez_Q} {h : ez_H} {nl : Int32} {nd : Int32} {mn : Int32} {l4 : Option Value} {l5 : Option Value} {l6 : Option Value} {l7 : Option Value} {l8 : Option Value} {l9 : Option Value} (S : zSh h) {n : Nat} (hN : (ez_I h 71 6).toInt = (n : Nat)) (hn6 : n ≤ 6000) (hf : 1 ≤ (ez_I h 71 61).toInt) (hp : 0 ≤ (ez_I h 71 59).toInt ∧ (ez_I h 71 59).toInt ≤ 8 * (n : Int)) (hnn : 0 ≤ nl.toInt ∧ nl.toInt ≤ 400 ∧ 0 ≤ nd.toInt ∧ nd.toInt ≤ 400) (K : ∀ h2, zW (fun q k => q = 71 ∧ k = 59 ∨ q = 71 ∧ k = 61) (fun q => q = 115 ∨ q = 120 ∨ q = 121 ∨ q = 122 ∨ q = 123) (fun _ => False) h h2 → 1 ≤ (ez_I h2 71 61).toInt → (0 ≤ (ez_I h2 71 59).toInt ∧ (ez_I h2 71 59).toInt ≤ 8 * (n : Int)) → Q (.inl none) h2) : pw E (d + 2) 58 26 [some (.ref 71), some (.int nl), some (.int nd), some (.int mn), l4, l5, l6, l7, l8, l9] [] h Q := by
  have gnl := z_rng nl
  have gnd := z_rng nd
  have gmn := z_rng mn
  have F := zW_refl (fun q k => q = 71 ∧ k = 61) (fun _ => False) (fun _ => False) h
  apply ez_Wp_in
  show ez_gw _ _ _ _ _ _ (cz_58) _ _ _ _ _
  refine gw_skip _ ?_
  have r1 := z_rng (ez_I h 71 61)
  refine gw_ld rfl rfl ?_
  refine z_C (m := 286) rfl rfl (fun x2 ex2 => ?_)
  refine z_b2 (fun c3 => ?_) (fun c3 => ?_)
  · have c3 : x2.toInt < nl.toInt := c3
    refine gw_skip _ ?_
    refine gw_ld rfl rfl ?_
    refine z_C (m := 4) rfl rfl (fun x4 ex4 => ?_)
    refine z_cl rfl rfl rfl rfl rfl rfl rfl rfl rfl rfl rfl (zT S (by decide) rfl) ?_
    refine d_wrong (n := x4) S (fun h5 F6 k7 k8 => ?_)
    have kw9 := k8 (by omega)
    clear k7 k8
    have S10 := zW_sh F6 S
    have F11 := zW_tr F (zW_mono F6 (x73_10) (x73_2) (x73_2))
    have r12 := z_rng (ez_I h5 71 61)
    suffices tl : pw E (d + 2) 58 44 [some (.ref 71), some (.int nl), some (.int nd), some (.int mn), l4, l5, l6, l7, l8, l9] [] h5 Q from ez_Wp_at tl rfl
    refine h_F44 (n := n) S10 (by rw [(show ez_I h5 71 6 = ez_I h 71 6 from zW_f F11 (fun c => c) x73_6)]; exact hN) hn6 (by omega) (by rw [(show ez_I h5 71 59 = ez_I h 71 59 from zW_f F11 (fun c => c) x73_7)]; exact hp) hnn (fun h13 F14 k15 k16 => ?_)
    have F17 := zW_tr (zW_mono F11 x73_8 x73_1 x73_2) (zW_mono F14 x73_3 x73_4 x73_2)
    exact K _ F17 k15 k16
  · have c3 : ¬ (x2.toInt < nl.toInt) := c3
    refine gw_ld rfl rfl ?_
    refine z_C (m := 30) rfl rfl (fun x18 ex18 => ?_)
    refine z_b2 (fun c19 => ?_) (fun c19 => ?_)
    · have c19 : nd.toInt ≤ x18.toInt := c19
      suffices tl : pw E (d + 2) 58 44 [some (.ref 71), some (.int nl), some (.int nd), some (.int mn), l4, l5, l6, l7, l8, l9] [] h Q from gw_skip _ (ez_Wp_at tl rfl)
      refine h_F44 (n := n) S (by rw [(show ez_I h 71 6 = ez_I h 71 6 from zW_f F (fun c => c) x73_6)]; exact hN) hn6 (by omega) (by rw [(show ez_I h 71 59 = ez_I h 71 59 from zW_f F (fun c => c) x73_7)]; exact hp) hnn (fun h20 F21 k22 k23 => ?_)
      have F24 := zW_tr (zW_mono F x73_8 x73_1 x73_2) (zW_mono F21 x73_3 x73_4 x73_2)
      exact K _ F24 k22 k23
    · have c19 : ¬ (nd.toInt ≤ x18.toInt) := c19
      refine gw_ld rfl rfl ?_
      refine z_C (m := 4) rfl rfl (fun x25 ex25 => ?_)
      refine z_cl rfl rfl rfl rfl rfl rfl rfl rfl rfl rfl rfl (zT S (by decide) rfl) ?_
      refine d_wrong (n := x25) S (fun h26 F27 k28 k29 => ?_)
      have kw30 := k29 (by omega)
      clear k28 k29
      have S31 := zW_sh F27 S
      have F32 := zW_tr F (zW_mono F27 (x73_10) (x73_2) (x73_2))
      have r33 := z_rng (ez_I h26 71 61)
      suffices tl : pw E (d + 2) 58 44 [some (.ref 71), some (.int nl), some (.int nd), some (.int mn), l4, l5, l6, l7, l8, l9] [] h26 Q from ez_Wp_at tl rfl
      refine h_F44 (n := n) S31 (by rw [(show ez_I h26 71 6 = ez_I h 71 6 from zW_f F32 (fun c => c) x73_6)]; exact hN) hn6 (by omega) (by rw [(show ez_I h26 71 59 = ez_I h 71 59 from zW_f F32 (fun c => c) x73_7)]; exact hp) hnn (fun h34 F35 k36 k37 => ?_)
      have F38 := zW_tr (zW_mono F32 x73_8 x73_1 x73_2) (zW_mono F35 x73_3 x73_4 x73_2)
      exact K _ F38 k36 k37
set_option maxRecDepth 4000 in
set_option maxHeartbeats 2000000 in
theorem h_F18 {E : Nat → Nat × (Nat → Int32)} {d : Nat} {Q : ez_Q} {h : ez_H} {nl : Int32} {nd : Int32} {l3 : Option Value} {l4 : Option Value} {l5 : Option Value} {l6 : Option Value} {l7 : Option Value} {l8 : Option Value} {l9 : Option Value} (S : zSh h) {n : Nat} (hN : (ez_I h 71 6).toInt = (n : Nat)) (hn6 : n ≤ 6000) (hf : 1 ≤ (ez_I h 71 61).toInt) (hp : 0 ≤ (ez_I h 71 59).toInt ∧ (ez_I h 71 59).toInt ≤ 8 * (n : Int)) (hnn : 0 ≤ nl.toInt ∧ nl.toInt ≤ 400 ∧ 0 ≤ nd.toInt ∧ nd.toInt ≤ 400) (K : ∀ h2, zW (fun q k => q = 71 ∧ k = 59 ∨ q = 71 ∧ k = 61) (fun q => q = 115 ∨ q = 120 ∨ q = 121 ∨ q = 122 ∨ q = 123) (fun _ => False) h h2 → 1 ≤ (ez_I h2 71 61).toInt → (0 ≤ (ez_I h2 71 59).toInt ∧ (ez_I h2 71 59).toInt ≤ 8 * (n : Int)) → Q (.inl none) h2) : pw E (d + 2) 58 18 [some (.ref 71), some (.int nl), some (.int nd), l3, l4, l5, l6, l7, l8, l9] [] h Q := by
  have gnl := z_rng nl
  have gnd := z_rng nd
  have F := zW_refl (fun q k => q = 71 ∧ k = 59 ∨ q = 71 ∧ k = 61) (fun _ => False) (fun _ => False) h
  apply ez_Wp_in
  show ez_gw _ _ _ _ _ _ (cz_58) _ _ _ _ _
  refine gw_skip _ ?_
  have r1 := z_rng (ez_I h 71 59)
  have r2 := z_rng (ez_I h 71 61)
  refine gw_ld rfl rfl ?_
  refine z_C (m := 4) rfl rfl (fun x3 ex3 => ?_)
  refine z_cl rfl rfl rfl rfl rfl rfl rfl rfl rfl rfl rfl (zT S (by decide) rfl) ?_
  refine d_tbF (v := x3) (n := n) (N := 4) S (by rw [(show ez_I h 71 6 = ez_I h 71 6 from zW_f F (fun c => c) x73_12)]; exact hN) hn6 (by omega) (by omega) (by omega) (by omega) (fun h4 x5 F6 k7 k8 k9 k10 => ?_)
  have rx5 := z_rng x5
  have S11 := zW_sh F6 S
  have F12 := zW_tr F (zW_mono F6 (x73_3) (x73_2) (x73_2))
  have r13 := z_rng (ez_I h4 71 59)
  have r14 := z_rng (ez_I h4 71 61)
  refine z_C (m := 4) rfl rfl (fun x15 ex15 => ?_)
  refine z_add (by omega) (fun x16 ex16 => ?_)
  refine gw_st rfl rfl rfl ?_
  show ez_gw _ _ _ _ _ _ _ _ [some (.ref 71), some (.int nl), some (.int nd), some (.int x16), l4, l5, l6, l7, l8, l9] _ _ _
  suffices tl : pw E (d + 2) 58 26 [some (.ref 71), some (.int nl), some (.int nd), some (.int x16), l4, l5, l6, l7, l8, l9] [] h4 Q from ez_Wp_at tl rfl
  refine h_F26 (n := n) S11 (by rw [(show ez_I h4 71 6 = ez_I h 71 6 from zW_f F12 (fun c => c) x73_12)]; exact hN) hn6 (by omega) (by omega) hnn (fun h17 F18 k19 k20 => ?_)
  have F21 := zW_tr (zW_mono F12 x73_3 x73_1 x73_2) (zW_mono F18 x73_3 x73_4 x73_2)
  exact K _ F21 k19 k20
set_option maxRecDepth 4000 in
set_option maxHeartbeats 2000000 in
theorem h_F10 {E : Nat → Nat × (Nat → Int32)} {d : Nat} {Q : ez_Q} {h : ez_H} {nl : Int32} {l2 : Option Value} {l3 : Option Value} {l4 : Option Value} {l5 : Option Value} {l6 : Option Value} {l7 : Option Value} {l8 : Option Value} {l9 : Option Value} (S : zSh h) {n : Nat} (hN : (ez_I h 71 6).toInt = (n : Nat)) (hn6 : n ≤ 6000) (hf : 1 ≤ (ez_I h 71 61).toInt) (hp : 0 ≤ (ez_I h 71 59).toInt ∧ (ez_I h 71 59).toInt ≤ 8 * (n : Int)) (hnn : 0 ≤ nl.toInt ∧ nl.toInt ≤ 400) (K : ∀ h2, zW (fun q k => q = 71 ∧ k = 59 ∨ q = 71 ∧ k = 61) (fun q => q = 115 ∨ q = 120 ∨ q = 121 ∨ q = 122 ∨ q = 123) (fun _ => False) h h2 → 1 ≤ (ez_I h2 71 61).toInt → (0 ≤ (ez_I h2 71 59).toInt ∧ (ez_I h2 71 59).toInt ≤ 8 * (n : Int)) → Q (.inl none) h2) : pw E (d + 2) 58 10 [some (.ref 71), some (.int nl), l2, l3, l4, l5, l6, l7, l8, l9] [] h Q := by
  have gnl := z_rng nl
  have F := zW_refl (fun q k => q = 71 ∧ k = 59 ∨ q = 71 ∧ k = 61) (fun _ => False) (fun _ => False) h
  apply ez_Wp_in
  show ez_gw _ _ _ _ _ _ (cz_58) _ _ _ _ _
  refine gw_skip _ ?_
  have r1 := z_rng (ez_I h 71 59)
  have r2 := z_rng (ez_I h 71 61)
  refine gw_ld rfl rfl ?_
  refine z_C (m := 5) rfl rfl (fun x3 ex3 => ?_)
  refine z_cl rfl rfl rfl rfl rfl rfl rfl rfl rfl rfl rfl (zT S (by decide) rfl) ?_
  refine d_tbF (v := x3) (n := n) (N := 5) S (by rw [(show ez_I h 71 6 = ez_I h 71 6 from zW_f F (fun c => c) x73_12)]; exact hN) hn6 (by omega) (by omega) (by omega) (by omega) (fun h4 x5 F6 k7 k8 k9 k10 => ?_)
  have rx5 := z_rng x5
  have S11 := zW_sh F6 S
  have F12 := zW_tr F (zW_mono F6 (x73_3) (x73_2) (x73_2))
  have r13 := z_rng (ez_I h4 71 59)
  have r14 := z_rng (ez_I h4 71 61)
  refine z_C (m := 1) rfl rfl (fun x15 ex15 => ?_)
  refine z_add (by omega) (fun x16 ex16 => ?_)
  refine gw_st rfl rfl rfl ?_
  show ez_gw _ _ _ _ _ _ _ _ [some (.ref 71), some (.int nl), some (.int x16), l3, l4, l5, l6, l7, l8, l9] _ _ _
  suffices tl : pw E (d + 2) 58 18 [some (.ref 71), some (.int nl), some (.int x16), l3, l4, l5, l6, l7, l8, l9] [] h4 Q from ez_Wp_at tl rfl
  refine h_F18 (n := n) S11 (by rw [(show ez_I h4 71 6 = ez_I h 71 6 from zW_f F12 (fun c => c) x73_12)]; exact hN) hn6 (by omega) (by omega) (by omega) (fun h17 F18 k19 k20 => ?_)
  have F21 := zW_tr (zW_mono F12 x73_3 x73_1 x73_2) (zW_mono F18 x73_3 x73_4 x73_2)
  exact K _ F21 k19 k20
