def codP (p : Nat) : Prop := p = 15 ∨ p = 22 ∨ p = 29 ∨ p = 36 ∨ p = 43
/-! PRINTED by wip/pack: the class: symbols put, parts written -/
theorem x37_5 : ∀ q k : Nat, (q = 68 ∧ k = 1 ∨ q = 68 ∧ k = 2 ∨ q = 50 ∧ k = 1) → (q = 68 ∧ k = 1 ∨ q = 68 ∧ k = 2 ∨ q = 50 ∧ k = 1) := fun q k hk => hk.elim (fun g => (.inl g)) (fun hk => hk.elim (fun g => (.inr (.inl g))) (fun hk => (.inr (.inr hk))))
theorem x37_6 : ∀ q : Nat, (q = 51) → (q = 51) := fun q hk => hk
theorem x37_7 : ∀ q : Nat, (False) → (False) := fun q hk => hk.elim
set_option maxRecDepth 4000 in
set_option maxHeartbeats 2000000 in
theorem c_putS {E : Nat → Nat × (Nat → Int32)} {d : Nat} {Q : ez_Q} {h : ez_H} {p : Nat} {i : Int32} (S : zSh h) {s : Nat × Nat} (hp : p = 15 ∨ p = 22 ∨ p = 29 ∨ p = 36 ∨ p = 43) (hs : stC (ez_I h 51) (ez_I h 50 1).toInt (ez_I h 68 1).toInt (ez_I h 68 2).toInt s) (h7 : (ez_I h 68 2).toInt ≤ 7) (hi : 0 ≤ i.toInt ∧ i.toInt < 288) (hl : 0 ≤ (ez_I h (p + 1) i.toInt.toNat).toInt ∧ (ez_I h (p + 1) i.toInt.toNat).toInt ≤ 15) (hw : 0 ≤ (ez_I h (p + 2) i.toInt.toNat).toInt ∧ (ez_I h (p + 2) i.toInt.toNat).toInt < 2 ^ (ez_I h (p + 1) i.toInt.toNat).toInt.toNat) (hr : s.2 + (ez_I h (p + 1) i.toInt.toNat).toInt.toNat ≤ 48800) (K : ∀ h2, zW (fun q k => q = 68 ∧ k = 1 ∨ q = 68 ∧ k = 2 ∨ q = 50 ∧ k = 1) (fun q => q = 51) (fun _ => False) h h2 → stC (ez_I h2 51) (ez_I h2 50 1).toInt (ez_I h2 68 1).toInt (ez_I h2 68 2).toInt (wr s (ez_I h (p + 2) i.toInt.toNat).toInt.toNat (ez_I h (p + 1) i.toInt.toNat).toInt.toNat) → (ez_I h2 68 2).toInt ≤ 7 → Q (.inl none) h2) : pw E (d + 2) 72 0 [some (.ref 68), some (.ref p), some (.int i)] [] h Q := by
  have gi := z_rng i
  have hpB : 15 ≤ p ∧ p ≤ 43 := (by omega)
  replace hp : codP p := hp
  have F := zW_refl (fun q k => q = 68 ∧ k = 1 ∨ q = 68 ∧ k = 2 ∨ q = 50 ∧ k = 1) (fun q => q = 51) (fun _ => False) h
  apply ez_Wp_in
  show ez_gw _ _ _ _ _ _ (cz_72) _ _ _ _ _
  refine gw_skip _ ?_
  have r1 := z_rng (ez_I h 68 1)
  have r2 := z_rng (ez_I h 68 2)
  have r3 := z_rng (ez_I h 50 1)
  refine gw_ld rfl rfl ?_
  refine z_b1 (fun c4 => ?_) (fun c4 => ?_)
  · have c4 : i.toInt < 0 := c4
    refine gw_skip _ ?_
    refine z_rv ?_
    exfalso; omega
  · have c4 : ¬ (i.toInt < 0) := c4
    refine gw_ld rfl rfl ?_
    refine z_C (m := 288) rfl rfl (fun x5 ex5 => ?_)
    refine z_b2 (fun c6 => ?_) (fun c6 => ?_)
    · have c6 : x5.toInt ≤ i.toInt := c6
      refine gw_skip _ ?_
      refine z_rv ?_
      exfalso; omega
    · have c6 : ¬ (x5.toInt ≤ i.toInt) := c6
      refine gw_ld rfl rfl ?_
      refine gw_ld rfl rfl ?_
      refine z_gR (q := (p + 2)) ((zCode S hp).1) ((zCode S hp).2.1.2.1) (by omega) ?_
      refine gw_ld rfl rfl ?_
      refine z_iaV (n := 288) ((zCode S hp).2.2.1.2.1) ((zCode S hp).2.2.2.2.1) (by omega) (zW_f F (by omega) (by omega)) ?_
      generalize ex7 : ez_I h (p + 2) i.toInt.toNat = x7
      have rx7 := z_rng x7
      refine gw_ld rfl rfl ?_
      refine z_gR (q := (p + 1)) ((zCode S hp).1) ((zCode S hp).2.1.1) (by omega) ?_
      refine gw_ld rfl rfl ?_
      refine z_iaV (n := 288) ((zCode S hp).2.2.1.1) ((zCode S hp).2.2.2.1) (by omega) (zW_f F (by omega) (by omega)) ?_
      generalize ex8 : ez_I h (p + 1) i.toInt.toNat = x8
      have rx8 := z_rng x8
      refine z_cl rfl rfl rfl rfl rfl rfl rfl rfl rfl rfl rfl (zT S (by decide) rfl) ?_
      rw [ex8] at hl hw hr K
      rw [ex7] at hw K
      refine c_put (s := s) (v := x7) (n := x8) S hs (by omega) (by omega) (by omega) (by omega) (fun h9 F10 k11 k12 => ?_)
      have S13 := zW_sh F10 S
      have F14 := zW_tr F (zW_mono F10 (x37_5) (x37_6) (x37_7))
      have r15 := z_rng (ez_I h9 68 1)
      have r16 := z_rng (ez_I h9 68 2)
      have r17 := z_rng (ez_I h9 50 1)
      refine z_rv ?_
      exact K _ F14 k11 k12
set_option maxRecDepth 4000 in
set_option maxHeartbeats 2000000 in
theorem c_miss {E : Nat → Nat × (Nat → Int32)} {d : Nat} {Q : ez_Q} {h : ez_H} {m : Int32} (S : zSh h) (hb : 0 ≤ (ez_I h 68 2).toInt ∧ (ez_I h 68 2).toInt ≤ 7) (hm : 0 ≤ m.toInt ∧ m.toInt ≤ 100) (K : ∀ x : Int32, x.toInt = (-((ez_I h 68 2).toInt + m.toInt)) % 8 → Q (.inl (some (.int x))) h) : pw E d 69 0 [some (.ref 68), some (.int m)] [] h Q := by
  have gm := z_rng m
  have F := zW_refl (fun _ _ => False) (fun _ => False) (fun _ => False) h
  apply ez_Wp_in
  show ez_gw _ _ _ _ _ _ (cz_69) _ _ _ _ _
  refine gw_skip _ ?_
  refine gw_ld rfl rfl ?_
  have r1 := z_rng (ez_I h 68 2)
  refine z_gI2 (by decide) (zT S (by decide) rfl) (zW_f F (fun c => c) (fun c => c)) ?_
  refine gw_ld rfl rfl ?_
  refine z_add (by omega) (fun x2 ex2 => ?_)
  refine z_1 rfl (fun x3 ex3 => ?_)
  have rx3 := z_rng x3
  have vx3 := n_neg (by omega) ex3
  refine z_C (m := 7) rfl rfl (fun x4 ex4 => ?_)
  refine z_and (fun x5 ex5 ux5 wx5 => ?_)
  have rx5 := z_rng x5
  replace ux5 := ux5 (by omega)
  clear wx5
  have vx5 := n_mask (k := 3) (by decide) (by omega) ex5
  rw [show (2 : Int) ^ 3 = 8 from rfl] at vx5
  refine z_ri ?_
  exact zW_Q F (K _ (by omega))
set_option maxRecDepth 4000 in
set_option maxHeartbeats 2000000 in
theorem c_fillB {E : Nat → Nat × (Nat → Int32)} {d : Nat} {Q : ez_Q} {h : ez_H}  (S : zSh h) {s : Nat × Nat} (hs : stC (ez_I h 51) (ez_I h 50 1).toInt (ez_I h 68 1).toInt (ez_I h 68 2).toInt s) (h7 : (ez_I h 68 2).toInt ≤ 7) (hr : s.2 + 7 ≤ 48800) (K : ∀ h2, zW (fun q k => q = 68 ∧ k = 1 ∨ q = 68 ∧ k = 2 ∨ q = 50 ∧ k = 1) (fun q => q = 51) (fun _ => False) h h2 → stC (ez_I h2 51) (ez_I h2 50 1).toInt (ez_I h2 68 1).toInt (ez_I h2 68 2).toInt (s.1, (s.2 + 7) / 8 * 8) → (ez_I h2 68 2).toInt ≤ 7 → Q (.inl none) h2) : pw E (d + 2) 71 0 [some (.ref 68)] [] h Q := by
  have F := zW_refl (fun q k => q = 68 ∧ k = 1 ∨ q = 68 ∧ k = 2 ∨ q = 50 ∧ k = 1) (fun q => q = 51) (fun _ => False) h
  apply ez_Wp_in
  show ez_gw _ _ _ _ _ _ (cz_71) _ _ _ _ _
  refine gw_skip _ ?_
  have r1 := z_rng (ez_I h 68 1)
  have r2 := z_rng (ez_I h 68 2)
  have r3 := z_rng (ez_I h 50 1)
  refine gw_ld rfl rfl ?_
  refine z_C (m := 0) rfl rfl (fun x4 ex4 => ?_)
  refine gw_ld rfl rfl ?_
  refine z_C (m := 0) rfl rfl (fun x5 ex5 => ?_)
  refine z_cl rfl rfl rfl rfl rfl rfl rfl rfl rfl rfl rfl (zT S (by decide) rfl) ?_
  refine c_miss (m := x5) S (by have := hs.1; omega) (by omega) (fun x6 k7 => ?_)
  have rx6 := z_rng x6
  refine z_cl rfl rfl rfl rfl rfl rfl rfl rfl rfl rfl rfl (zT S (by decide) rfl) ?_
  refine c_put (s := s) (v := x4) (n := x6) S hs (by omega) (by have := pw0 x6.toInt.toNat; omega) (by omega) (by omega) (fun h8 F9 k10 k11 => ?_)
  have S12 := zW_sh F9 S
  have F13 := zW_tr F (zW_mono F9 (x37_5) (x37_6) (x37_7))
  have r14 := z_rng (ez_I h8 68 1)
  have r15 := z_rng (ez_I h8 68 2)
  have r16 := z_rng (ez_I h8 50 1)
  refine z_rv ?_
  have e : wr s x4.toInt.toNat x6.toInt.toNat = (s.1, (s.2 + 7) / 8 * 8) := by
    have hq := hs.2.1
    have hq0 := hs.1
    unfold wr
    rw [show x4.toInt.toNat = 0 by omega, Nat.zero_mul]
    congr 1
    omega
  rw [← e] at K
  exact K _ F13 k10 k11
set_option maxRecDepth 4000 in
set_option maxHeartbeats 2000000 in
theorem c_wbegin {E : Nat → Nat × (Nat → Int32)} {d : Nat} {Q : ez_Q} {h : ez_H}  (S : zSh h)  (K : ∀ h2, zW (fun q k => q = 68 ∧ k = 1 ∨ q = 68 ∧ k = 2 ∨ q = 50 ∧ k = 1) (fun _ => False) (fun _ => False) h h2 → stC (ez_I h2 51) (ez_I h2 50 1).toInt (ez_I h2 68 1).toInt (ez_I h2 68 2).toInt (0, 0) → (ez_I h2 68 2).toInt ≤ 7 → Q (.inl none) h2) : pw E d 68 0 [some (.ref 68)] [] h Q := by
  have F := zW_refl (fun q k => q = 68 ∧ k = 1 ∨ q = 68 ∧ k = 2 ∨ q = 50 ∧ k = 1) (fun _ => False) (fun _ => False) h
  apply ez_Wp_in
  show ez_gw _ _ _ _ _ _ (cz_68) _ _ _ _ _
  refine gw_skip _ ?_
  have r1 := z_rng (ez_I h 68 1)
  have r2 := z_rng (ez_I h 68 2)
  have r3 := z_rng (ez_I h 50 1)
  refine gw_ld rfl rfl ?_
  refine z_gR (q := 50) (zT S (by decide) rfl) (zRf S (by decide) (by decide) rfl) (by decide) ?_
  refine z_C (m := 0) rfl rfl (fun x4 ex4 => ?_)
  refine z_pI (zT S (by decide) rfl) (fun h5 e6 => ?_)
  have S7 := zSh_set S e6
  have F8 := zW_setF F e6 (by decide)
  have f9 : ez_I h5 68 1 = (ez_I h 68 1) := (zI_ne e6 (by decide)).trans (rfl)
  have f10 : ez_I h5 68 2 = (ez_I h 68 2) := (zI_ne e6 (by decide)).trans (rfl)
  have f11 : ez_I h5 50 1 = x4 := zI_eq e6
  refine gw_ld rfl rfl ?_
  refine z_C (m := 0) rfl rfl (fun x12 ex12 => ?_)
  refine z_pI (zT S7 (by decide) rfl) (fun h13 e14 => ?_)
  have S15 := zSh_set S7 e14
  have F16 := zW_setF F8 e14 (by decide)
  have f17 : ez_I h13 68 1 = x12 := zI_eq e14
  have f18 : ez_I h13 68 2 = (ez_I h 68 2) := (zI_ne e14 (by decide)).trans (f10)
  have f19 : ez_I h13 50 1 = x4 := (zI_ne e14 (by decide)).trans (f11)
  refine gw_ld rfl rfl ?_
  refine z_C (m := 0) rfl rfl (fun x20 ex20 => ?_)
  refine z_pI (zT S15 (by decide) rfl) (fun h21 e22 => ?_)
  have S23 := zSh_set S15 e22
  have F24 := zW_setF F16 e22 (by decide)
  have f25 : ez_I h21 68 1 = x12 := (zI_ne e22 (by decide)).trans (f17)
  have f26 : ez_I h21 68 2 = x20 := zI_eq e22
  have f27 : ez_I h21 50 1 = x4 := (zI_ne e22 (by decide)).trans (f19)
  refine z_rv ?_
  have t28 := congrArg Int32.toInt (f25)
  have t29 := congrArg Int32.toInt (f26)
  have t30 := congrArg Int32.toInt (f27)
  exact K _ F24 ⟨by omega, by show 0 = _; omega, by rw [show (ez_I h21 50 1).toInt.toNat = 0 by omega]; show _ = ((0 / 256 ^ 0 : Nat) : Int); omega, by decide, fun i hi => by omega⟩ (by omega)
theorem x37_8 : ¬ (54 = 51) := by omega
theorem x37_9 : ∀ k : Nat, ¬ (54 = 68 ∧ k = 1 ∨ 54 = 68 ∧ k = 2 ∨ 54 = 50 ∧ k = 1) := fun k c => by omega
set_option maxRecDepth 4000 in
set_option maxHeartbeats 2000000 in
theorem c_wParts_L0 {E : Nat → Nat × (Nat → Int32)} {d : Nat} {Q : ez_Q} {h : ez_H} {fr : Int32} {to : Int32} {p : Nat} {q : Nat} (S : zSh h) {am di : Nat → Nat} {c : Nat} {s : Nat × Nat} (hE : zE E) (hp : p = 15 ∨ p = 22 ∨ p = 29 ∨ p = 36 ∨ p = 43) (hq : q = 15 ∨ q = 22 ∨ q = 29 ∨ q = 36 ∨ q = 43) (hs : stC (ez_I h 51) (ez_I h 50 1).toInt (ez_I h 68 1).toInt (ez_I h 68 2).toInt s) (h7 : (ez_I h 68 2).toInt ≤ 7) (hc : (ez_I h 53 1).toInt = c ∧ c ≤ 6000) (hpq : pqG (ez_I h 54) am di c) (hf : 0 ≤ fr.toInt ∧ fr.toInt ≤ to.toInt ∧ to.toInt ≤ c) (hL : aR (ez_I h (p + 1)) 288 0 15) (hM : aR (ez_I h (q + 1)) 288 0 15) (hW : ∀ k, k < 288 → 1 ≤ nL (ez_I h (p + 1)) k → 0 ≤ (ez_I h (p + 2) k).toInt ∧ (ez_I h (p + 2) k).toInt < 2 ^ (ez_I h (p + 1) k).toInt.toNat) (hV : ∀ k, k < 288 → 1 ≤ nL (ez_I h (q + 1)) k → 0 ≤ (ez_I h (q + 2) k).toInt ∧ (ez_I h (q + 2) k).toInt < 2 ^ (ez_I h (q + 1) k).toInt.toNat) (hu : ∀ k, (fr.toInt.toNat ≤ k ∧ k < to.toInt.toNat) → 1 ≤ (nL (ez_I h (p + 1))) (lSy am di k) ∧ (di k ≠ 0 → 1 ≤ (nL (ez_I h (q + 1))) (kD (di k)))) (hu6 : 1 ≤ (nL (ez_I h (p + 1))) 256) (hr : (wr (wps am di (nL (ez_I h (p + 2))) (nL (ez_I h (p + 1))) (nL (ez_I h (q + 2))) (nL (ez_I h (q + 1))) s fr.toInt.toNat (to.toInt.toNat - fr.toInt.toNat)) (nL (ez_I h (p + 2)) 256) (nL (ez_I h (p + 1)) 256)).2 ≤ 48800) (K : ∀ h2, zW (fun q k => q = 68 ∧ k = 1 ∨ q = 68 ∧ k = 2 ∨ q = 50 ∧ k = 1) (fun q => q = 51) (fun _ => False) h h2 → stC (ez_I h2 51) (ez_I h2 50 1).toInt (ez_I h2 68 1).toInt (ez_I h2 68 2).toInt (wr (wps am di (nL (ez_I h (p + 2))) (nL (ez_I h (p + 1))) (nL (ez_I h (q + 2))) (nL (ez_I h (q + 1))) s fr.toInt.toNat (to.toInt.toNat - fr.toInt.toNat)) (nL (ez_I h (p + 2)) 256) (nL (ez_I h (p + 1)) 256)) → (ez_I h2 68 2).toInt ≤ 7 → Q (.inl none) h2) : ∀ N : Nat, (∀ (h2 : ez_H) (i : Int32) (l6 : Option Value) (l7 : Option Value) (l8 : Option Value) (l9 : Option Value) , zW (fun q k => q = 68 ∧ k = 1 ∨ q = 68 ∧ k = 2 ∨ q = 50 ∧ k = 1) (fun q => q = 51) (fun _ => False) h h2 → (fr.toInt ≤ i.toInt ∧ i.toInt ≤ to.toInt ∧ (ez_I h2 68 2).toInt ≤ 7) → (stC (ez_I h2 51) (ez_I h2 50 1).toInt (ez_I h2 68 1).toInt (ez_I h2 68 2).toInt (wps am di (nL (ez_I h (p + 2))) (nL (ez_I h (p + 1))) (nL (ez_I h (q + 2))) (nL (ez_I h (q + 1))) s fr.toInt.toNat (i.toInt.toNat - fr.toInt.toNat))) → (100000 - i.toInt) < (N : Int) → pw E (d + 3) 121 3 [some (.ref 52), some (.int fr), some (.int to), some (.ref p), some (.ref q), some (.int i), l6, l7, l8, l9] [] h2 Q) := by
  intro N
  induction N with
  | zero => exact fun h2 i l6 l7 l8 l9  F hinv A_st hm => absurd hm (by have w_i := z_rng i; have gfr := z_rng fr; have gto := z_rng to; have hpB : 15 ≤ p ∧ p ≤ 43 := (by omega); replace hp : codP p := hp; have hqB : 15 ≤ q ∧ q ≤ 43 := (by omega); replace hq : codP q := hq; omega)
  | succ N ih =>
    refine fun h2 i l6 l7 l8 l9  F hinv A_st hm => ?_
    · skip
      have w_i := z_rng i
      have gfr := z_rng fr
      have gto := z_rng to
      have hpB : 15 ≤ p ∧ p ≤ 43 := (by omega)
      replace hp : codP p := hp
      have hqB : 15 ≤ q ∧ q ≤ 43 := (by omega)
      replace hq : codP q := hq
      have S2 := zW_sh F S
      have hr2 : (wps am di (nL (ez_I h (p + 2))) (nL (ez_I h (p + 1))) (nL (ez_I h (q + 2))) (nL (ez_I h (q + 1))) s fr.toInt.toNat (to.toInt.toNat - fr.toInt.toNat)).2 + nL (ez_I h (p + 1)) 256 ≤ 48800 := hr
      apply ez_Wp_in
      show ez_gw _ _ _ _ _ _ (cz_121) _ _ _ _ _
      refine gw_skip _ ?_
      have r1 := z_rng (ez_I h2 68 1)
      have r2 := z_rng (ez_I h2 68 2)
      have r3 := z_rng (ez_I h2 50 1)
      refine gw_ld rfl rfl ?_
      refine gw_ld rfl rfl ?_
      refine z_b2 (fun c4 => ?_) (fun c4 => ?_)
      · have c4 : to.toInt ≤ i.toInt := c4
        refine gw_skip _ ?_
        refine gw_ld rfl rfl ?_
        refine z_gR (q := 68) (zT S2 (by decide) rfl) (zRf S2 (by decide) (by decide) rfl) (by decide) ?_
        refine gw_ld rfl rfl ?_
        refine z_C (m := 256) rfl rfl (fun x5 ex5 => ?_)
        refine z_cl rfl rfl rfl rfl rfl rfl rfl rfl rfl rfl rfl (zT S2 (by decide) rfl) ?_
        have y10L := hL x5.toInt.toNat (by omega)
        have y10P : 1 ≤ nL (ez_I h (p + 1)) x5.toInt.toNat := (by rw [show x5.toInt.toNat = 256 by omega]; exact hu6)
        have y10W := hW x5.toInt.toNat (by omega) y10P
        have y10N : nL (ez_I h (p + 1)) x5.toInt.toNat = (ez_I h (p + 1) x5.toInt.toNat).toInt.toNat := rfl
        refine c_putS (s := (wps am di (nL (ez_I h (p + 2))) (nL (ez_I h (p + 1))) (nL (ez_I h (q + 2))) (nL (ez_I h (q + 1))) s fr.toInt.toNat (i.toInt.toNat - fr.toInt.toNat))) (p := p) (i := x5) S2 hp A_st (by omega) (by omega) (by rw [(show ez_I h2 (p + 1) = ez_I h (p + 1) from zW_fn F (p + 1) (by omega) (fun k c => by omega))]; exact y10L) (by rw [(show ez_I h2 (p + 1) = ez_I h (p + 1) from zW_fn F (p + 1) (by omega) (fun k c => by omega)), (show ez_I h2 (p + 2) = ez_I h (p + 2) from zW_fn F (p + 2) (by omega) (fun k c => by omega))]; exact y10W) (by rw [(show ez_I h2 (p + 1) = ez_I h (p + 1) from zW_fn F (p + 1) (by omega) (fun k c => by omega))]; rw [show x5.toInt.toNat = 256 by omega, show (i.toInt.toNat - fr.toInt.toNat) = (to.toInt.toNat - fr.toInt.toNat) by omega]; exact hr2) (fun h6 F7 k8 k9 => ?_)
        rw [(show ez_I h2 (p + 1) = ez_I h (p + 1) from zW_fn F (p + 1) (by omega) (fun k c => by omega)), (show ez_I h2 (p + 2) = ez_I h (p + 2) from zW_fn F (p + 2) (by omega) (fun k c => by omega))] at k8
        have S11 := zW_sh F7 S2
        have F12 := zW_tr F (zW_mono F7 (x37_5) (x37_6) (x37_7))
        have r13 := z_rng (ez_I h6 68 1)
        have r14 := z_rng (ez_I h6 68 2)
        have r15 := z_rng (ez_I h6 50 1)
        refine z_rv ?_
        rw [show (to.toInt.toNat - fr.toInt.toNat) = (i.toInt.toNat - fr.toInt.toNat) by omega] at K
        exact K _ F12 (by rw [show (256 : Nat) = x5.toInt.toNat by omega]; exact k8) k9
      · have c4 : ¬ (to.toInt ≤ i.toInt) := c4
        refine gw_ld rfl rfl ?_
        refine z_gR (q := 53) (zT S2 (by decide) rfl) (zRf S2 (by decide) (by decide) rfl) (by decide) ?_
        refine gw_ld rfl rfl ?_
        refine z_cl rfl rfl rfl rfl rfl rfl rfl rfl rfl rfl rfl (zT S2 (by decide) rfl) ?_
        refine c_pamount (k := i) S2 (by rw [(show ez_I h2 53 1 = ez_I h 53 1 from zW_f F (by decide) (by decide))]; omega) (fun x16 k17 => ?_)
        rw [(show ez_I h2 54 = ez_I h 54 from zW_fn F 54 x37_8 x37_9)] at k17
        have rx16 := z_rng x16
        obtain ⟨pk1, pk2⟩ := hpq i.toInt.toNat (by omega)
        have hus := hu i.toInt.toNat (by omega)
        have hib := wpt_2 am di (nL (ez_I h (p + 2))) (nL (ez_I h (p + 1))) (nL (ez_I h (q + 2))) (nL (ez_I h (q + 1))) (wps am di (nL (ez_I h (p + 2))) (nL (ez_I h (p + 1))) (nL (ez_I h (q + 2))) (nL (ez_I h (q + 1))) s fr.toInt.toNat (i.toInt.toNat - fr.toInt.toNat)) i.toInt.toNat
        have hmo := sN_mono (f := fun z => ibN am di (nL (ez_I h (p + 1))) (nL (ez_I h (q + 1))) (fr.toInt.toNat + z)) (n := (i.toInt.toNat - fr.toInt.toNat) + 1) (to.toInt.toNat - fr.toInt.toNat) (by omega)
        have hsu : sN (fun z => ibN am di (nL (ez_I h (p + 1))) (nL (ez_I h (q + 1))) (fr.toInt.toNat + z)) ((i.toInt.toNat - fr.toInt.toNat) + 1) = sN (fun z => ibN am di (nL (ez_I h (p + 1))) (nL (ez_I h (q + 1))) (fr.toInt.toNat + z)) (i.toInt.toNat - fr.toInt.toNat) + ibN am di (nL (ez_I h (p + 1))) (nL (ez_I h (q + 1))) i.toInt.toNat := by show _ + ibN am di (nL (ez_I h (p + 1))) (nL (ez_I h (q + 1))) (fr.toInt.toNat + (i.toInt.toNat - fr.toInt.toNat)) = _; rw [show fr.toInt.toNat + (i.toInt.toNat - fr.toInt.toNat) = i.toInt.toNat by omega]
        have hw2 := wps_2 am di (nL (ez_I h (p + 2))) (nL (ez_I h (p + 1))) (nL (ez_I h (q + 2))) (nL (ez_I h (q + 1))) s fr.toInt.toNat (i.toInt.toNat - fr.toInt.toNat)
        have hw3 := wps_2 am di (nL (ez_I h (p + 2))) (nL (ez_I h (p + 1))) (nL (ez_I h (q + 2))) (nL (ez_I h (q + 1))) s fr.toInt.toNat (to.toInt.toNat - fr.toInt.toNat)
        refine gw_st rfl rfl rfl ?_
        show ez_gw _ _ _ _ _ _ _ _ [some (.ref 52), some (.int fr), some (.int to), some (.ref p), some (.ref q), some (.int i), some (.int x16), l7, l8, l9] _ _ _
        refine gw_ld rfl rfl ?_
        refine z_gR (q := 53) (zT S2 (by decide) rfl) (zRf S2 (by decide) (by decide) rfl) (by decide) ?_
        refine gw_ld rfl rfl ?_
        refine z_cl rfl rfl rfl rfl rfl rfl rfl rfl rfl rfl rfl (zT S2 (by decide) rfl) ?_
        refine c_pdistance (k := i) S2 (by rw [(show ez_I h2 53 1 = ez_I h 53 1 from zW_f F (by decide) (by decide))]; omega) (fun x18 k19 => ?_)
        rw [(show ez_I h2 54 = ez_I h 54 from zW_fn F 54 x37_8 x37_9)] at k19
        have rx18 := z_rng x18
        refine gw_st rfl rfl rfl ?_
        show ez_gw _ _ _ _ _ _ _ _ [some (.ref 52), some (.int fr), some (.int to), some (.ref p), some (.ref q), some (.int i), some (.int x16), some (.int x18), l8, l9] _ _ _
        refine gw_ld rfl rfl ?_
        refine z_b1 (fun c20 => ?_) (fun c20 => ?_)
        · have c20 : x18.toInt ≤ 0 := c20
          refine gw_skip _ ?_
          have ham : x16.toInt.toNat = am i.toInt.toNat := by omega
          have hsy : lSy am di i.toInt.toNat = x16.toInt.toNat := by unfold lSy; rw [if_pos (by omega), ham]
          have hibm : ibN am di (nL (ez_I h (p + 1))) (nL (ez_I h (q + 1))) i.toInt.toNat = (nL (ez_I h (p + 1))) x16.toInt.toNat := by unfold ibN; rw [if_pos (by omega), ham]
          rw [hsy] at hus
          refine gw_ld rfl rfl ?_
          refine z_gR (q := 68) (zT S2 (by decide) rfl) (zRf S2 (by decide) (by decide) rfl) (by decide) ?_
          refine gw_ld rfl rfl ?_
          refine gw_ld rfl rfl ?_
          refine z_cl rfl rfl rfl rfl rfl rfl rfl rfl rfl rfl rfl (zT S2 (by decide) rfl) ?_
          have y25L := hL x16.toInt.toNat (by omega)
          have y25P : 1 ≤ nL (ez_I h (p + 1)) x16.toInt.toNat := hus.1
          have y25W := hW x16.toInt.toNat (by omega) y25P
          have y25N : nL (ez_I h (p + 1)) x16.toInt.toNat = (ez_I h (p + 1) x16.toInt.toNat).toInt.toNat := rfl
          refine c_putS (s := (wps am di (nL (ez_I h (p + 2))) (nL (ez_I h (p + 1))) (nL (ez_I h (q + 2))) (nL (ez_I h (q + 1))) s fr.toInt.toNat (i.toInt.toNat - fr.toInt.toNat))) (p := p) (i := x16) S2 hp A_st (by omega) (by omega) (by rw [(show ez_I h2 (p + 1) = ez_I h (p + 1) from zW_fn F (p + 1) (by omega) (fun k c => by omega))]; exact y25L) (by rw [(show ez_I h2 (p + 1) = ez_I h (p + 1) from zW_fn F (p + 1) (by omega) (fun k c => by omega)), (show ez_I h2 (p + 2) = ez_I h (p + 2) from zW_fn F (p + 2) (by omega) (fun k c => by omega))]; exact y25W) (by rw [(show ez_I h2 (p + 1) = ez_I h (p + 1) from zW_fn F (p + 1) (by omega) (fun k c => by omega))]; omega) (fun h21 F22 k23 k24 => ?_)
          rw [(show ez_I h2 (p + 1) = ez_I h (p + 1) from zW_fn F (p + 1) (by omega) (fun k c => by omega)), (show ez_I h2 (p + 2) = ez_I h (p + 2) from zW_fn F (p + 2) (by omega) (fun k c => by omega))] at k23
          have S26 := zW_sh F22 S2
          have F27 := zW_tr F (zW_mono F22 (x37_5) (x37_6) (x37_7))
          have r28 := z_rng (ez_I h21 68 1)
          have r29 := z_rng (ez_I h21 68 2)
          have r30 := z_rng (ez_I h21 50 1)
          have hfin : (wps am di (nL (ez_I h (p + 2))) (nL (ez_I h (p + 1))) (nL (ez_I h (q + 2))) (nL (ez_I h (q + 1))) s fr.toInt.toNat ((i.toInt.toNat - fr.toInt.toNat) + 1)) = (wr (wps am di (nL (ez_I h (p + 2))) (nL (ez_I h (p + 1))) (nL (ez_I h (q + 2))) (nL (ez_I h (q + 1))) s fr.toInt.toNat (i.toInt.toNat - fr.toInt.toNat)) (nL (ez_I h (p + 2)) x16.toInt.toNat) (nL (ez_I h (p + 1)) x16.toInt.toNat)) := by
            show wpt am di (nL (ez_I h (p + 2))) (nL (ez_I h (p + 1))) (nL (ez_I h (q + 2))) (nL (ez_I h (q + 1))) (wps am di (nL (ez_I h (p + 2))) (nL (ez_I h (p + 1))) (nL (ez_I h (q + 2))) (nL (ez_I h (q + 1))) s fr.toInt.toNat (i.toInt.toNat - fr.toInt.toNat)) (fr.toInt.toNat + (i.toInt.toNat - fr.toInt.toNat)) = _
            rw [show fr.toInt.toNat + (i.toInt.toNat - fr.toInt.toNat) = i.toInt.toNat by omega]
            unfold wpt
            rw [if_pos (by omega), ← ham]
          refine z_inc rfl (by rw [show (1 : Int32).toInt = 1 from rfl]; omega) (fun x31 ex31 => ?_)
          rw [show (1 : Int32).toInt = 1 from rfl] at ex31
          show ez_gw _ _ _ _ _ _ _ _ [some (.ref 52), some (.int fr), some (.int to), some (.ref p), some (.ref q), some (.int x31), some (.int x16), some (.int x18), l8, l9] _ _ _
          refine z_go ?_
          exact ih h21 x31 (some (.int x16)) (some (.int x18)) (l8) (l9) F27 (by omega) ((by rw [show x31.toInt.toNat - fr.toInt.toNat = (i.toInt.toNat - fr.toInt.toNat) + 1 by omega, show (wps am di (nL (ez_I h (p + 2))) (nL (ez_I h (p + 1))) (nL (ez_I h (q + 2))) (nL (ez_I h (q + 1))) s fr.toInt.toNat ((i.toInt.toNat - fr.toInt.toNat) + 1)) = (wr (wps am di (nL (ez_I h (p + 2))) (nL (ez_I h (p + 1))) (nL (ez_I h (q + 2))) (nL (ez_I h (q + 1))) s fr.toInt.toNat (i.toInt.toNat - fr.toInt.toNat)) (nL (ez_I h (p + 2)) x16.toInt.toNat) (nL (ez_I h (p + 1)) x16.toInt.toNat)) from hfin]; exact k23)) (by omega)
        · have c20 : ¬ (x18.toInt ≤ 0) := c20
          refine z_gs ?_
          refine gw_ld rfl rfl ?_
          refine z_cl rfl rfl rfl rfl rfl rfl rfl rfl rfl rfl rfl (trivial) ?_
          refine c_kL S2 hE (v := x16) (by omega) (fun x32 k33 => ?_)
          have rx32 := z_rng x32
          refine gw_st rfl rfl rfl ?_
          show ez_gw _ _ _ _ _ _ _ _ [some (.ref 52), some (.int fr), some (.int to), some (.ref p), some (.ref q), some (.int i), some (.int x16), some (.int x18), some (.int x32), l9] _ _ _
          refine z_gs ?_
          refine gw_ld rfl rfl ?_
          refine z_cl rfl rfl rfl rfl rfl rfl rfl rfl rfl rfl rfl (trivial) ?_
          refine c_kD S2 hE (v := x18) (by omega) (fun x34 k35 => ?_)
          have rx34 := z_rng x34
          refine gw_st rfl rfl rfl ?_
          show ez_gw _ _ _ _ _ _ _ _ [some (.ref 52), some (.int fr), some (.int to), some (.ref p), some (.ref q), some (.int i), some (.int x16), some (.int x18), some (.int x32), some (.int x34)] _ _ _
          have ham : x16.toInt.toNat = am i.toInt.toNat := by omega
          have hdi : x18.toInt.toNat = di i.toInt.toNat := by omega
          have hk8 : x32.toInt.toNat = kL (am i.toInt.toNat) := by rw [← ham]; omega
          have hk9 : x34.toInt.toNat = kD (di i.toInt.toNat) := by rw [← hdi]; omega
          have hkl := kL_ok (v := am i.toInt.toNat) (by omega)
          have hkd := kD_ok (v := di i.toInt.toNat) (by omega)
          rw [← hk8] at hkl
          rw [← hk9] at hkd
          have hle := LE_5 x32.toInt.toNat
          have hde := DE_13 x34.toInt.toNat
          have hsy : lSy am di i.toInt.toNat = 257 + x32.toInt.toNat := by unfold lSy; rw [if_neg (by omega), hk8]
          have hibm : ibN am di (nL (ez_I h (p + 1))) (nL (ez_I h (q + 1))) i.toInt.toNat = (nL (ez_I h (p + 1))) (257 + x32.toInt.toNat) + LEf x32.toInt.toNat + (nL (ez_I h (q + 1))) x34.toInt.toNat + DEf x34.toInt.toNat := by unfold ibN; rw [if_neg (by omega), hk8, hk9]
          rw [hsy, ← hk9] at hus
          refine gw_ld rfl rfl ?_
          refine z_gR (q := 68) (zT S2 (by decide) rfl) (zRf S2 (by decide) (by decide) rfl) (by decide) ?_
          refine gw_ld rfl rfl ?_
          refine z_C (m := 257) rfl rfl (fun x36 ex36 => ?_)
          refine gw_ld rfl rfl ?_
          refine z_add (by omega) (fun x37 ex37 => ?_)
          refine z_cl rfl rfl rfl rfl rfl rfl rfl rfl rfl rfl rfl (zT S2 (by decide) rfl) ?_
          rw [show 257 + x32.toInt.toNat = x37.toInt.toNat by omega] at hibm
          have y42L := hL x37.toInt.toNat (by omega)
          have y42P : 1 ≤ nL (ez_I h (p + 1)) x37.toInt.toNat := (by rw [show x37.toInt.toNat = 257 + x32.toInt.toNat by omega]; exact hus.1)
          have y42W := hW x37.toInt.toNat (by omega) y42P
          have y42N : nL (ez_I h (p + 1)) x37.toInt.toNat = (ez_I h (p + 1) x37.toInt.toNat).toInt.toNat := rfl
          refine c_putS (s := (wps am di (nL (ez_I h (p + 2))) (nL (ez_I h (p + 1))) (nL (ez_I h (q + 2))) (nL (ez_I h (q + 1))) s fr.toInt.toNat (i.toInt.toNat - fr.toInt.toNat))) (p := p) (i := x37) S2 hp A_st (by omega) (by omega) (by rw [(show ez_I h2 (p + 1) = ez_I h (p + 1) from zW_fn F (p + 1) (by omega) (fun k c => by omega))]; exact y42L) (by rw [(show ez_I h2 (p + 1) = ez_I h (p + 1) from zW_fn F (p + 1) (by omega) (fun k c => by omega)), (show ez_I h2 (p + 2) = ez_I h (p + 2) from zW_fn F (p + 2) (by omega) (fun k c => by omega))]; exact y42W) (by rw [(show ez_I h2 (p + 1) = ez_I h (p + 1) from zW_fn F (p + 1) (by omega) (fun k c => by omega))]; omega) (fun h38 F39 k40 k41 => ?_)
          rw [(show ez_I h2 (p + 1) = ez_I h (p + 1) from zW_fn F (p + 1) (by omega) (fun k c => by omega)), (show ez_I h2 (p + 2) = ez_I h (p + 2) from zW_fn F (p + 2) (by omega) (fun k c => by omega))] at k40
          have S43 := zW_sh F39 S2
          have F44 := zW_tr F (zW_mono F39 (x37_5) (x37_6) (x37_7))
          have r45 := z_rng (ez_I h38 68 1)
          have r46 := z_rng (ez_I h38 68 2)
          have r47 := z_rng (ez_I h38 50 1)
          refine gw_ld rfl rfl ?_
          refine z_gR (q := 68) (zT S43 (by decide) rfl) (zRf S43 (by decide) (by decide) rfl) (by decide) ?_
          refine gw_ld rfl rfl ?_
          refine z_gs ?_
          refine gw_ld rfl rfl ?_
          refine z_iaE (n := 29) (hE 1) (by omega) ?_
          generalize ex48 : (tz_ar (1 + 1)).getD x32.toInt.toNat 0 = x48
          have rx48 := z_rng x48
          have ox48 := tz_LB (n := x32.toInt.toNat) (by omega)
          rw [ex48] at ox48
          refine z_sub (by omega) (fun x49 ex49 => ?_)
          refine z_gs ?_
          refine gw_ld rfl rfl ?_
          refine z_iaE (n := 29) (hE 3) (by omega) ?_
          generalize ex50 : (tz_ar (3 + 1)).getD x32.toInt.toNat 0 = x50
          have rx50 := z_rng x50
          have ox50 := tz_LE (n := x32.toInt.toNat) (by omega)
          rw [ex50] at ox50
          refine z_cl rfl rfl rfl rfl rfl rfl rfl rfl rfl rfl rfl (zT S43 (by decide) rfl) ?_
          have hq55 : ((wr (wps am di (nL (ez_I h (p + 2))) (nL (ez_I h (p + 1))) (nL (ez_I h (q + 2))) (nL (ez_I h (q + 1))) s fr.toInt.toNat (i.toInt.toNat - fr.toInt.toNat)) (nL (ez_I h (p + 2)) x37.toInt.toNat) (nL (ez_I h (p + 1)) x37.toInt.toNat))).2 = ((wps am di (nL (ez_I h (p + 2))) (nL (ez_I h (p + 1))) (nL (ez_I h (q + 2))) (nL (ez_I h (q + 1))) s fr.toInt.toNat (i.toInt.toNat - fr.toInt.toNat))).2 + nL (ez_I h (p + 1)) x37.toInt.toNat := rfl
          refine c_put (s := (wr (wps am di (nL (ez_I h (p + 2))) (nL (ez_I h (p + 1))) (nL (ez_I h (q + 2))) (nL (ez_I h (q + 1))) s fr.toInt.toNat (i.toInt.toNat - fr.toInt.toNat)) (nL (ez_I h (p + 2)) x37.toInt.toNat) (nL (ez_I h (p + 1)) x37.toInt.toNat))) (v := x49) (n := x50) S43 k40 (by omega) (by rw [show x50.toInt.toNat = LEf x32.toInt.toNat by omega, n_pow]; omega) (by omega) (by omega) (fun h51 F52 k53 k54 => ?_)
          have S56 := zW_sh F52 S43
          have F57 := zW_tr F44 (zW_mono F52 (x37_5) (x37_6) (x37_7))
          have r58 := z_rng (ez_I h51 68 1)
          have r59 := z_rng (ez_I h51 68 2)
          have r60 := z_rng (ez_I h51 50 1)
          refine gw_ld rfl rfl ?_
          refine z_gR (q := 68) (zT S56 (by decide) rfl) (zRf S56 (by decide) (by decide) rfl) (by decide) ?_
          refine gw_ld rfl rfl ?_
          refine gw_ld rfl rfl ?_
          refine z_cl rfl rfl rfl rfl rfl rfl rfl rfl rfl rfl rfl (zT S56 (by decide) rfl) ?_
          have hq66 : ((wr (wr (wps am di (nL (ez_I h (p + 2))) (nL (ez_I h (p + 1))) (nL (ez_I h (q + 2))) (nL (ez_I h (q + 1))) s fr.toInt.toNat (i.toInt.toNat - fr.toInt.toNat)) (nL (ez_I h (p + 2)) x37.toInt.toNat) (nL (ez_I h (p + 1)) x37.toInt.toNat)) x49.toInt.toNat x50.toInt.toNat)).2 = ((wps am di (nL (ez_I h (p + 2))) (nL (ez_I h (p + 1))) (nL (ez_I h (q + 2))) (nL (ez_I h (q + 1))) s fr.toInt.toNat (i.toInt.toNat - fr.toInt.toNat))).2 + nL (ez_I h (p + 1)) x37.toInt.toNat + x50.toInt.toNat := rfl
          have y65L := hM x34.toInt.toNat (by omega)
          have y65P : 1 ≤ nL (ez_I h (q + 1)) x34.toInt.toNat := hus.2 (by omega)
          have y65W := hV x34.toInt.toNat (by omega) y65P
          have y65N : nL (ez_I h (q + 1)) x34.toInt.toNat = (ez_I h (q + 1) x34.toInt.toNat).toInt.toNat := rfl
          refine c_putS (s := (wr (wr (wps am di (nL (ez_I h (p + 2))) (nL (ez_I h (p + 1))) (nL (ez_I h (q + 2))) (nL (ez_I h (q + 1))) s fr.toInt.toNat (i.toInt.toNat - fr.toInt.toNat)) (nL (ez_I h (p + 2)) x37.toInt.toNat) (nL (ez_I h (p + 1)) x37.toInt.toNat)) x49.toInt.toNat x50.toInt.toNat)) (p := q) (i := x34) S56 hq k53 (by omega) (by omega) (by rw [(show ez_I h51 (q + 1) = ez_I h (q + 1) from zW_fn F57 (q + 1) (by omega) (fun k c => by omega))]; exact y65L) (by rw [(show ez_I h51 (q + 1) = ez_I h (q + 1) from zW_fn F57 (q + 1) (by omega) (fun k c => by omega)), (show ez_I h51 (q + 2) = ez_I h (q + 2) from zW_fn F57 (q + 2) (by omega) (fun k c => by omega))]; exact y65W) (by rw [(show ez_I h51 (q + 1) = ez_I h (q + 1) from zW_fn F57 (q + 1) (by omega) (fun k c => by omega))]; omega) (fun h61 F62 k63 k64 => ?_)
          rw [(show ez_I h51 (q + 1) = ez_I h (q + 1) from zW_fn F57 (q + 1) (by omega) (fun k c => by omega)), (show ez_I h51 (q + 2) = ez_I h (q + 2) from zW_fn F57 (q + 2) (by omega) (fun k c => by omega))] at k63
          have S67 := zW_sh F62 S56
          have F68 := zW_tr F57 (zW_mono F62 (x37_5) (x37_6) (x37_7))
          have r69 := z_rng (ez_I h61 68 1)
          have r70 := z_rng (ez_I h61 68 2)
          have r71 := z_rng (ez_I h61 50 1)
          refine gw_ld rfl rfl ?_
          refine z_gR (q := 68) (zT S67 (by decide) rfl) (zRf S67 (by decide) (by decide) rfl) (by decide) ?_
          refine gw_ld rfl rfl ?_
          refine z_gs ?_
          refine gw_ld rfl rfl ?_
          refine z_iaE (n := 30) (hE 2) (by omega) ?_
          generalize ex72 : (tz_ar (2 + 1)).getD x34.toInt.toNat 0 = x72
          have rx72 := z_rng x72
          have ox72 := tz_DB (n := x34.toInt.toNat) (by omega)
          rw [ex72] at ox72
          refine z_sub (by omega) (fun x73 ex73 => ?_)
          refine z_gs ?_
          refine gw_ld rfl rfl ?_
          refine z_iaE (n := 30) (hE 4) (by omega) ?_
          generalize ex74 : (tz_ar (4 + 1)).getD x34.toInt.toNat 0 = x74
          have rx74 := z_rng x74
          have ox74 := tz_DE (n := x34.toInt.toNat) (by omega)
          rw [ex74] at ox74
          refine z_cl rfl rfl rfl rfl rfl rfl rfl rfl rfl rfl rfl (zT S67 (by decide) rfl) ?_
          have hq79 : ((wr (wr (wr (wps am di (nL (ez_I h (p + 2))) (nL (ez_I h (p + 1))) (nL (ez_I h (q + 2))) (nL (ez_I h (q + 1))) s fr.toInt.toNat (i.toInt.toNat - fr.toInt.toNat)) (nL (ez_I h (p + 2)) x37.toInt.toNat) (nL (ez_I h (p + 1)) x37.toInt.toNat)) x49.toInt.toNat x50.toInt.toNat) (nL (ez_I h (q + 2)) x34.toInt.toNat) (nL (ez_I h (q + 1)) x34.toInt.toNat))).2 = ((wps am di (nL (ez_I h (p + 2))) (nL (ez_I h (p + 1))) (nL (ez_I h (q + 2))) (nL (ez_I h (q + 1))) s fr.toInt.toNat (i.toInt.toNat - fr.toInt.toNat))).2 + nL (ez_I h (p + 1)) x37.toInt.toNat + x50.toInt.toNat + nL (ez_I h (q + 1)) x34.toInt.toNat := rfl
          refine c_put (s := (wr (wr (wr (wps am di (nL (ez_I h (p + 2))) (nL (ez_I h (p + 1))) (nL (ez_I h (q + 2))) (nL (ez_I h (q + 1))) s fr.toInt.toNat (i.toInt.toNat - fr.toInt.toNat)) (nL (ez_I h (p + 2)) x37.toInt.toNat) (nL (ez_I h (p + 1)) x37.toInt.toNat)) x49.toInt.toNat x50.toInt.toNat) (nL (ez_I h (q + 2)) x34.toInt.toNat) (nL (ez_I h (q + 1)) x34.toInt.toNat))) (v := x73) (n := x74) S67 k63 (by omega) (by rw [show x74.toInt.toNat = DEf x34.toInt.toNat by omega, n_pow]; omega) (by omega) (by omega) (fun h75 F76 k77 k78 => ?_)
          have S80 := zW_sh F76 S67
          have F81 := zW_tr F68 (zW_mono F76 (x37_5) (x37_6) (x37_7))
          have r82 := z_rng (ez_I h75 68 1)
          have r83 := z_rng (ez_I h75 68 2)
          have r84 := z_rng (ez_I h75 50 1)
          refine z_go ?_
          refine gw_skip _ ?_
          have hfin : (wps am di (nL (ez_I h (p + 2))) (nL (ez_I h (p + 1))) (nL (ez_I h (q + 2))) (nL (ez_I h (q + 1))) s fr.toInt.toNat ((i.toInt.toNat - fr.toInt.toNat) + 1)) = (wr (wr (wr (wr (wps am di (nL (ez_I h (p + 2))) (nL (ez_I h (p + 1))) (nL (ez_I h (q + 2))) (nL (ez_I h (q + 1))) s fr.toInt.toNat (i.toInt.toNat - fr.toInt.toNat)) (nL (ez_I h (p + 2)) x37.toInt.toNat) (nL (ez_I h (p + 1)) x37.toInt.toNat)) x49.toInt.toNat x50.toInt.toNat) (nL (ez_I h (q + 2)) x34.toInt.toNat) (nL (ez_I h (q + 1)) x34.toInt.toNat)) x73.toInt.toNat x74.toInt.toNat) := by
            show wpt am di (nL (ez_I h (p + 2))) (nL (ez_I h (p + 1))) (nL (ez_I h (q + 2))) (nL (ez_I h (q + 1))) (wps am di (nL (ez_I h (p + 2))) (nL (ez_I h (p + 1))) (nL (ez_I h (q + 2))) (nL (ez_I h (q + 1))) s fr.toInt.toNat (i.toInt.toNat - fr.toInt.toNat)) (fr.toInt.toNat + (i.toInt.toNat - fr.toInt.toNat)) = _
            rw [show fr.toInt.toNat + (i.toInt.toNat - fr.toInt.toNat) = i.toInt.toNat by omega]
            unfold wpt
            rw [if_neg (by omega), ← hk8, ← hk9, ← ham, ← hdi]
            rw [show 257 + x32.toInt.toNat = x37.toInt.toNat by omega, show x16.toInt.toNat - LBf x32.toInt.toNat = x49.toInt.toNat by omega, show LEf x32.toInt.toNat = x50.toInt.toNat by omega, show x18.toInt.toNat - DBf x34.toInt.toNat = x73.toInt.toNat by omega, show DEf x34.toInt.toNat = x74.toInt.toNat by omega]
          refine z_inc rfl (by rw [show (1 : Int32).toInt = 1 from rfl]; omega) (fun x85 ex85 => ?_)
          rw [show (1 : Int32).toInt = 1 from rfl] at ex85
          show ez_gw _ _ _ _ _ _ _ _ [some (.ref 52), some (.int fr), some (.int to), some (.ref p), some (.ref q), some (.int x85), some (.int x16), some (.int x18), some (.int x32), some (.int x34)] _ _ _
          refine z_go ?_
          exact ih h75 x85 (some (.int x16)) (some (.int x18)) (some (.int x32)) (some (.int x34)) F81 (by omega) ((by rw [show x85.toInt.toNat - fr.toInt.toNat = (i.toInt.toNat - fr.toInt.toNat) + 1 by omega, show (wps am di (nL (ez_I h (p + 2))) (nL (ez_I h (p + 1))) (nL (ez_I h (q + 2))) (nL (ez_I h (q + 1))) s fr.toInt.toNat ((i.toInt.toNat - fr.toInt.toNat) + 1)) = (wr (wr (wr (wr (wps am di (nL (ez_I h (p + 2))) (nL (ez_I h (p + 1))) (nL (ez_I h (q + 2))) (nL (ez_I h (q + 1))) s fr.toInt.toNat (i.toInt.toNat - fr.toInt.toNat)) (nL (ez_I h (p + 2)) x37.toInt.toNat) (nL (ez_I h (p + 1)) x37.toInt.toNat)) x49.toInt.toNat x50.toInt.toNat) (nL (ez_I h (q + 2)) x34.toInt.toNat) (nL (ez_I h (q + 1)) x34.toInt.toNat)) x73.toInt.toNat x74.toInt.toNat) from hfin]; exact k77)) (by omega)
set_option maxRecDepth 4000 in
set_option maxHeartbeats 2000000 in
theorem c_wParts {E : Nat → Nat × (Nat → Int32)} {d : Nat} {Q : ez_Q} {h : ez_H} {fr : Int32} {to : Int32} {p : Nat} {q : Nat} (S : zSh h) {am di : Nat → Nat} {c : Nat} {s : Nat × Nat} (hE : zE E) (hp : p = 15 ∨ p = 22 ∨ p = 29 ∨ p = 36 ∨ p = 43) (hq : q = 15 ∨ q = 22 ∨ q = 29 ∨ q = 36 ∨ q = 43) (hs : stC (ez_I h 51) (ez_I h 50 1).toInt (ez_I h 68 1).toInt (ez_I h 68 2).toInt s) (h7 : (ez_I h 68 2).toInt ≤ 7) (hc : (ez_I h 53 1).toInt = c ∧ c ≤ 6000) (hpq : pqG (ez_I h 54) am di c) (hf : 0 ≤ fr.toInt ∧ fr.toInt ≤ to.toInt ∧ to.toInt ≤ c) (hL : aR (ez_I h (p + 1)) 288 0 15) (hM : aR (ez_I h (q + 1)) 288 0 15) (hW : ∀ k, k < 288 → 1 ≤ nL (ez_I h (p + 1)) k → 0 ≤ (ez_I h (p + 2) k).toInt ∧ (ez_I h (p + 2) k).toInt < 2 ^ (ez_I h (p + 1) k).toInt.toNat) (hV : ∀ k, k < 288 → 1 ≤ nL (ez_I h (q + 1)) k → 0 ≤ (ez_I h (q + 2) k).toInt ∧ (ez_I h (q + 2) k).toInt < 2 ^ (ez_I h (q + 1) k).toInt.toNat) (hu : ∀ k, (fr.toInt.toNat ≤ k ∧ k < to.toInt.toNat) → 1 ≤ (nL (ez_I h (p + 1))) (lSy am di k) ∧ (di k ≠ 0 → 1 ≤ (nL (ez_I h (q + 1))) (kD (di k)))) (hu6 : 1 ≤ (nL (ez_I h (p + 1))) 256) (hr : (wr (wps am di (nL (ez_I h (p + 2))) (nL (ez_I h (p + 1))) (nL (ez_I h (q + 2))) (nL (ez_I h (q + 1))) s fr.toInt.toNat (to.toInt.toNat - fr.toInt.toNat)) (nL (ez_I h (p + 2)) 256) (nL (ez_I h (p + 1)) 256)).2 ≤ 48800) (K : ∀ h2, zW (fun q k => q = 68 ∧ k = 1 ∨ q = 68 ∧ k = 2 ∨ q = 50 ∧ k = 1) (fun q => q = 51) (fun _ => False) h h2 → stC (ez_I h2 51) (ez_I h2 50 1).toInt (ez_I h2 68 1).toInt (ez_I h2 68 2).toInt (wr (wps am di (nL (ez_I h (p + 2))) (nL (ez_I h (p + 1))) (nL (ez_I h (q + 2))) (nL (ez_I h (q + 1))) s fr.toInt.toNat (to.toInt.toNat - fr.toInt.toNat)) (nL (ez_I h (p + 2)) 256) (nL (ez_I h (p + 1)) 256)) → (ez_I h2 68 2).toInt ≤ 7 → Q (.inl none) h2) : pw E (d + 3) 121 0 [some (.ref 52), some (.int fr), some (.int to), some (.ref p), some (.ref q), none, none, none, none, none] [] h Q := by
  have gfr := z_rng fr
  have gto := z_rng to
  have hpB : 15 ≤ p ∧ p ≤ 43 := (by omega)
  replace hp : codP p := hp
  have hqB : 15 ≤ q ∧ q ≤ 43 := (by omega)
  replace hq : codP q := hq
  have F := zW_refl (fun q k => q = 68 ∧ k = 1 ∨ q = 68 ∧ k = 2 ∨ q = 50 ∧ k = 1) (fun q => q = 51) (fun _ => False) h
  apply ez_Wp_in
  show ez_gw _ _ _ _ _ _ (cz_121) _ _ _ _ _
  refine gw_skip _ ?_
  have r1 := z_rng (ez_I h 68 1)
  have r2 := z_rng (ez_I h 68 2)
  have r3 := z_rng (ez_I h 50 1)
  refine gw_ld rfl rfl ?_
  refine gw_st rfl rfl rfl ?_
  show ez_gw _ _ _ _ _ _ _ _ [some (.ref 52), some (.int fr), some (.int to), some (.ref p), some (.ref q), some (.int fr), none, none, none, none] _ _ _
  exact ez_Wp_at ((c_wParts_L0 (fr := fr) (to := to) (p := p) (q := q) S hE hp hq hs h7 hc hpq hf hL hM hW hV hu hu6 hr K (((100000 - fr.toInt)).toNat + 1)) h fr (none) (none) (none) (none) F (by omega) ((by rw [show fr.toInt.toNat - fr.toInt.toNat = 0 by omega]; exact hs)) (by omega)) rfl
