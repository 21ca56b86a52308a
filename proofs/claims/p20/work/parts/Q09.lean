section
/-! PRINTED by wip/pack: the class: STORED -/
set_option maxRecDepth 4000 in
set_option maxHeartbeats 20000000 in
theorem c_wStored_L0 {E : Nat → Nat × (Nat → Int32)} {d : Nat} {Q : ez_Q} {h : ez_H} {b : Int32} (S : zSh h) {s : Nat × Nat} (hs : stC (ez_I h 51) (ez_I h 50 1).toInt (ez_I h 68 1).toInt (ez_I h 68 2).toInt s) (h7 : (ez_I h 68 2).toInt ≤ 7) (hz : 0 ≤ (ez_I h 2 1).toInt ∧ (ez_I h 2 1).toInt ≤ 6000) (hb : aR (ez_I h 3) (ez_I h 2 1).toInt.toNat 0 255) (hm : 0 ≤ (ez_I h 52 11).toInt ∧ 0 ≤ b.toInt ∧ b.toInt + (ez_I h 52 11).toInt ≤ (ez_I h 2 1).toInt) (hr : s.2 + 39 + 8 * (ez_I h 52 11).toInt.toNat ≤ 48800) (K : ∀ h2, zW (fun q k => q = 68 ∧ k = 1 ∨ q = 68 ∧ k = 2 ∨ q = 50 ∧ k = 1) (fun q => q = 51) (fun _ => False) h h2 → stC (ez_I h2 51) (ez_I h2 50 1).toInt (ez_I h2 68 1).toInt (ez_I h2 68 2).toInt (bS (tI (ez_I h 3)) b.toInt.toNat (wr (wr (s.1, (s.2 + 7) / 8 * 8) (ez_I h 52 11).toInt.toNat 16) (65535 - (ez_I h 52 11).toInt.toNat) 16) ((ez_I h 52 11).toInt.toNat)) → (ez_I h2 68 2).toInt ≤ 7 → Q (.inl none) h2) : ∀ N : Nat, (∀ (h2 : ez_H) (i : Int32) , zW (fun q k => q = 68 ∧ k = 1 ∨ q = 68 ∧ k = 2 ∨ q = 50 ∧ k = 1) (fun q => q = 51) (fun _ => False) h h2 → (b.toInt ≤ i.toInt ∧ i.toInt ≤ b.toInt + (ez_I h 52 11).toInt ∧ True ∧ (ez_I h2 68 2).toInt ≤ 7) → stC (ez_I h2 51) (ez_I h2 50 1).toInt (ez_I h2 68 1).toInt (ez_I h2 68 2).toInt (bS (tI (ez_I h 3)) b.toInt.toNat (wr (wr (s.1, (s.2 + 7) / 8 * 8) (ez_I h 52 11).toInt.toNat 16) (65535 - (ez_I h 52 11).toInt.toNat) 16) (i.toInt.toNat - b.toInt.toNat)) → (100000 - i.toInt) < (N : Int) → pw E (d + 3) 120 40 [some (.ref 52), some (.ref 2), some (.int b), some (.int i)] [] h2 Q) := by
  intro N
  induction N with
  | zero => exact fun h2 i  F hinv A_st hm => absurd hm (by have w_i := z_rng i; have gb := z_rng b; omega)
  | succ N ih =>
    refine fun h2 i  F hinv A_st hm => ?_
    · skip
      have w_i := z_rng i
      have gb := z_rng b
      have S2 := zW_sh F S
      apply ez_Wp_in
      show ez_gw _ _ _ _ _ _ (cz_120) _ _ _ _ _
      refine gw_skip _ ?_
      have r1 := z_rng (ez_I h2 68 1)
      have r2 := z_rng (ez_I h2 68 2)
      have r3 := z_rng (ez_I h2 50 1)
      refine gw_ld rfl rfl ?_
      refine gw_ld rfl rfl ?_
      refine gw_ld rfl rfl ?_
      have r4 := z_rng (ez_I h 52 11)
      refine z_gI2 (by decide) (zT S2 (by decide) rfl) (zW_f F (by decide) (by decide)) ?_
      refine z_add (by omega) (fun x5 ex5 => ?_)
      refine z_b2 (fun c6 => ?_) (fun c6 => ?_)
      · have c6 : x5.toInt ≤ i.toInt := c6
        refine gw_skip _ ?_
        refine z_rv ?_
        have b1 := A_st
        rw [show i.toInt.toNat - b.toInt.toNat = (ez_I h 52 11).toInt.toNat by omega] at b1
        exact K _ F b1 (by omega)
      · have c6 : ¬ (x5.toInt ≤ i.toInt) := c6
        refine gw_ld rfl rfl ?_
        refine gw_ld rfl rfl ?_
        refine z_cl rfl rfl rfl rfl rfl rfl rfl rfl rfl rfl rfl (zT S2 (by decide) rfl) ?_
        refine c_has (p := 2) (i := i) S2 (by decide) (fun x7 k8 k9 k10 => ?_)
        rw [show ez_I h2 2 1 = ez_I h 2 1 from zW_f F (by decide) (by decide)] at k9 k10
        have rx7 := z_rng x7
        refine z_b1 (fun c11 => ?_) (fun c11 => ?_)
        · have c11 : x7.toInt = 0 := c11
          refine gw_skip _ ?_
          refine z_rv ?_
          have b1 := A_st
          rw [show i.toInt.toNat - b.toInt.toNat = (ez_I h 52 11).toInt.toNat by omega] at b1
          exact K _ F b1 (by omega)
        · have c11 : ¬ (x7.toInt = 0) := c11
          refine gw_ld rfl rfl ?_
          refine z_gR (q := 68) (zT S2 (by decide) rfl) (zRf S2 (by decide) (by decide) rfl) (by decide) ?_
          refine gw_ld rfl rfl ?_
          refine z_gR (q := 3) (zT S2 (by decide) rfl) (zRf S2 (by decide) (by decide) rfl) (by decide) ?_
          refine gw_ld rfl rfl ?_
          refine z_iaV (n := 6100) (zT S2 (by decide) rfl) (zN S2 (by decide) rfl) (by omega) (zW_f F (by decide) (by omega)) ?_
          generalize ex12 : ez_I h 3 i.toInt.toNat = x12
          have rx12 := z_rng x12
          have yx12 := hb i.toInt.toNat (by omega)
          rw [ex12] at yx12
          refine z_C (m := 8) rfl rfl (fun x13 ex13 => ?_)
          refine z_cl rfl rfl rfl rfl rfl rfl rfl rfl rfl rfl rfl (zT S2 (by decide) rfl) ?_
          have hpw : (2 : Int) ^ x13.toInt.toNat = 256 := by rw [show x13.toInt.toNat = 8 by omega]; rfl
          have hb2 := bS_2 (tI (ez_I h 3)) b.toInt.toNat (wr (wr (s.1, (s.2 + 7) / 8 * 8) (ez_I h 52 11).toInt.toNat 16) (65535 - (ez_I h 52 11).toInt.toNat) 16) (i.toInt.toNat - b.toInt.toNat)
          have hb3 : ((wr (wr (s.1, (s.2 + 7) / 8 * 8) (ez_I h 52 11).toInt.toNat 16) (65535 - (ez_I h 52 11).toInt.toNat) 16)).2 = (s.2 + 7) / 8 * 8 + 16 + 16 := rfl
          refine c_put (s := (bS (tI (ez_I h 3)) b.toInt.toNat (wr (wr (s.1, (s.2 + 7) / 8 * 8) (ez_I h 52 11).toInt.toNat 16) (65535 - (ez_I h 52 11).toInt.toNat) 16) (i.toInt.toNat - b.toInt.toNat))) (v := x12) (n := x13) S2 A_st (by omega) (by omega) (by omega) (by omega) (fun h14 F15 k16 k17 => ?_)
          have S18 := zW_sh F15 S2
          have F19 := zW_tr F (zW_mono F15 (fun q k hk => by first | omega | exact False.elim hk) (fun q hk => by first | omega | exact False.elim hk) (fun q hk => by first | omega | exact False.elim hk))
          have r20 := z_rng (ez_I h14 68 1)
          have r21 := z_rng (ez_I h14 68 2)
          have r22 := z_rng (ez_I h14 50 1)
          refine z_inc rfl (by rw [show (1 : Int32).toInt = 1 from rfl]; omega) (fun x23 ex23 => ?_)
          rw [show (1 : Int32).toInt = 1 from rfl] at ex23
          show ez_gw _ _ _ _ _ _ _ _ [some (.ref 52), some (.ref 2), some (.int b), some (.int x23)] _ _ _
          refine z_go ?_
          exact ih h14 x23 F19 (⟨by omega, by omega, trivial, by omega⟩) ((by rw [show x23.toInt.toNat - b.toInt.toNat = (i.toInt.toNat - b.toInt.toNat) + 1 by omega]; have e : ((tI (ez_I h 3)) (b.toInt.toNat + (i.toInt.toNat - b.toInt.toNat))).toNat = x12.toInt.toNat := (by rw [show b.toInt.toNat + (i.toInt.toNat - b.toInt.toNat) = i.toInt.toNat by omega]; show (ez_I h 3 i.toInt.toNat).toInt.toNat = _; rw [ex12]); have b1 := k16; rw [show x13.toInt.toNat = 8 by omega, ← e] at b1; exact b1)) (by omega)
set_option maxRecDepth 4000 in
set_option maxHeartbeats 20000000 in
theorem c_wStored {E : Nat → Nat × (Nat → Int32)} {d : Nat} {Q : ez_Q} {h : ez_H} {b : Int32} (S : zSh h) {s : Nat × Nat} (hs : stC (ez_I h 51) (ez_I h 50 1).toInt (ez_I h 68 1).toInt (ez_I h 68 2).toInt s) (h7 : (ez_I h 68 2).toInt ≤ 7) (hz : 0 ≤ (ez_I h 2 1).toInt ∧ (ez_I h 2 1).toInt ≤ 6000) (hb : aR (ez_I h 3) (ez_I h 2 1).toInt.toNat 0 255) (hm : 0 ≤ (ez_I h 52 11).toInt ∧ 0 ≤ b.toInt ∧ b.toInt + (ez_I h 52 11).toInt ≤ (ez_I h 2 1).toInt) (hr : s.2 + 39 + 8 * (ez_I h 52 11).toInt.toNat ≤ 48800) (K : ∀ h2, zW (fun q k => q = 68 ∧ k = 1 ∨ q = 68 ∧ k = 2 ∨ q = 50 ∧ k = 1) (fun q => q = 51) (fun _ => False) h h2 → stC (ez_I h2 51) (ez_I h2 50 1).toInt (ez_I h2 68 1).toInt (ez_I h2 68 2).toInt (bS (tI (ez_I h 3)) b.toInt.toNat (wr (wr (s.1, (s.2 + 7) / 8 * 8) (ez_I h 52 11).toInt.toNat 16) (65535 - (ez_I h 52 11).toInt.toNat) 16) ((ez_I h 52 11).toInt.toNat)) → (ez_I h2 68 2).toInt ≤ 7 → Q (.inl none) h2) : pw E (d + 3) 120 0 [some (.ref 52), some (.ref 2), some (.int b), none] [] h Q := by
  have gb := z_rng b
  have F := zW_refl (fun q k => q = 68 ∧ k = 1 ∨ q = 68 ∧ k = 2 ∨ q = 50 ∧ k = 1) (fun q => q = 51) (fun _ => False) h
  apply ez_Wp_in
  show ez_gw _ _ _ _ _ _ (cz_120) _ _ _ _ _
  refine gw_skip _ ?_
  have r1 := z_rng (ez_I h 68 1)
  have r2 := z_rng (ez_I h 68 2)
  have r3 := z_rng (ez_I h 50 1)
  refine gw_ld rfl rfl ?_
  refine z_gR (q := 68) (zT S (by decide) rfl) (zRf S (by decide) (by decide) rfl) (by decide) ?_
  refine z_cl rfl rfl rfl rfl rfl rfl rfl rfl rfl rfl rfl (zT S (by decide) rfl) ?_
  refine c_fillB (s := s) S hs h7 (by omega) (fun h4 F5 k6 k7 => ?_)
  have S8 := zW_sh F5 S
  have F9 := zW_tr F (zW_mono F5 (fun q k hk => by first | omega | exact False.elim hk) (fun q hk => by first | omega | exact False.elim hk) (fun q hk => by first | omega | exact False.elim hk))
  have r10 := z_rng (ez_I h4 68 1)
  have r11 := z_rng (ez_I h4 68 2)
  have r12 := z_rng (ez_I h4 50 1)
  refine gw_ld rfl rfl ?_
  refine z_gR (q := 68) (zT S8 (by decide) rfl) (zRf S8 (by decide) (by decide) rfl) (by decide) ?_
  refine gw_ld rfl rfl ?_
  have r13 := z_rng (ez_I h 52 11)
  refine z_gI2 (by decide) (zT S8 (by decide) rfl) (zW_f F9 (by decide) (by decide)) ?_
  refine z_C (m := 16) rfl rfl (fun x14 ex14 => ?_)
  refine z_cl rfl rfl rfl rfl rfl rfl rfl rfl rfl rfl rfl (zT S8 (by decide) rfl) ?_
  have hpw : (2 : Int) ^ x14.toInt.toNat = 65536 := by rw [show x14.toInt.toNat = 16 by omega]; rfl
  have hSl : ((s.1, (s.2 + 7) / 8 * 8) : Nat × Nat).2 = (s.2 + 7) / 8 * 8 := rfl
  refine c_put (s := (s.1, (s.2 + 7) / 8 * 8)) (v := (ez_I h 52 11)) (n := x14) S8 k6 (by omega) (by omega) (by omega) (by omega) (fun h15 F16 k17 k18 => ?_)
  have S19 := zW_sh F16 S8
  have F20 := zW_tr F9 (zW_mono F16 (fun q k hk => by first | omega | exact False.elim hk) (fun q hk => by first | omega | exact False.elim hk) (fun q hk => by first | omega | exact False.elim hk))
  have r21 := z_rng (ez_I h15 68 1)
  have r22 := z_rng (ez_I h15 68 2)
  have r23 := z_rng (ez_I h15 50 1)
  refine gw_ld rfl rfl ?_
  refine z_gR (q := 68) (zT S19 (by decide) rfl) (zRf S19 (by decide) (by decide) rfl) (by decide) ?_
  refine gw_ld rfl rfl ?_
  refine z_gI2 (by decide) (zT S19 (by decide) rfl) (zW_f F20 (by decide) (by decide)) ?_
  refine z_C (m := -1) rfl rfl (fun x24 ex24 => ?_)
  refine z_2 rfl (fun x25 ex25 => ?_)
  have rx25 := z_rng x25
  have vx25 := n_not (by omega) ex25
  refine z_C (m := 65535) rfl rfl (fun x26 ex26 => ?_)
  refine z_and (fun x27 ex27 ux27 wx27 => ?_)
  have rx27 := z_rng x27
  replace ux27 := ux27 (by omega)
  clear wx27
  have vx27 := n_mask (k := 16) (by decide) (by omega) ex27
  rw [show (2 : Int) ^ 16 = 65536 from rfl] at vx27
  refine z_C (m := 16) rfl rfl (fun x28 ex28 => ?_)
  refine z_cl rfl rfl rfl rfl rfl rfl rfl rfl rfl rfl rfl (zT S19 (by decide) rfl) ?_
  have hpw : (2 : Int) ^ x28.toInt.toNat = 65536 := by rw [show x28.toInt.toNat = 16 by omega]; rfl
  have hSl2 : ((wr (s.1, (s.2 + 7) / 8 * 8) (ez_I h 52 11).toInt.toNat x14.toInt.toNat)).2 = (s.2 + 7) / 8 * 8 + x14.toInt.toNat := rfl
  have hq33 : ((wr (s.1, (s.2 + 7) / 8 * 8) (ez_I h 52 11).toInt.toNat x14.toInt.toNat)).2 = ((s.1, (s.2 + 7) / 8 * 8)).2 + x14.toInt.toNat := rfl
  refine c_put (s := (wr (s.1, (s.2 + 7) / 8 * 8) (ez_I h 52 11).toInt.toNat x14.toInt.toNat)) (v := x27) (n := x28) S19 k17 (by omega) (by omega) (by omega) (by omega) (fun h29 F30 k31 k32 => ?_)
  have S34 := zW_sh F30 S19
  have F35 := zW_tr F20 (zW_mono F30 (fun q k hk => by first | omega | exact False.elim hk) (fun q hk => by first | omega | exact False.elim hk) (fun q hk => by first | omega | exact False.elim hk))
  have r36 := z_rng (ez_I h29 68 1)
  have r37 := z_rng (ez_I h29 68 2)
  have r38 := z_rng (ez_I h29 50 1)
  have hS2 : (wr (wr (s.1, (s.2 + 7) / 8 * 8) (ez_I h 52 11).toInt.toNat x14.toInt.toNat) x27.toInt.toNat x28.toInt.toNat) = (wr (wr (s.1, (s.2 + 7) / 8 * 8) (ez_I h 52 11).toInt.toNat 16) (65535 - (ez_I h 52 11).toInt.toNat) 16) := by rw [show x27.toInt.toNat = 65535 - (ez_I h 52 11).toInt.toNat by omega, show x28.toInt.toNat = 16 by omega, show x14.toInt.toNat = 16 by omega]
  rw [hS2] at k31
  refine gw_ld rfl rfl ?_
  refine gw_st rfl rfl rfl ?_
  show ez_gw _ _ _ _ _ _ _ _ [some (.ref 52), some (.ref 2), some (.int b), some (.int b)] _ _ _
  exact ez_Wp_at ((c_wStored_L0 (b := b) S hs h7 hz hb hm hr K (((100000 - b.toInt)).toNat + 1)) h29 b F35 (⟨by omega, by omega, trivial, by omega⟩) ((by rw [show b.toInt.toNat - b.toInt.toNat = 0 by omega]; exact k31)) (by omega)) rfl
end
section
/-! lengths: nought behind the last symbol -/
theorem syK_le {K : Nat → Int32} {n al m : Nat} (S : syK K n al) (h : al ≤ m) : syK K n m := fun j hj => ⟨⟨(S j hj).1.1, by have := (S j hj).1.2; omega⟩, (S j hj).2⟩
theorem cdI_le {R K : Nat → Int32} {n al m : Nat} {c : Nat → Int} (A : cdI R K n m c) (h : al ≤ m) : cdI R K n al c := ⟨A.1, fun s hs q => A.2 s (by omega) q⟩
theorem cdI_z {R K : Nat → Int32} {n al m : Nat} {c : Nat → Int} (A : cdI R K n m c) (S : syK K n al) : ∀ s : Nat, al ≤ s → s < m → (R s).toInt = 0 := fun s h1 h2 => A.2 s h2 (fun j hj e => by
  have := (S j hj).1.2
  omega)
/-! PRINTED by wip/pack/con22z.py: the maker of lengths, with the noughts behind -/
set_option maxRecDepth 4000 in
set_option maxHeartbeats 20000000 in
theorem f_makeZ_L0 {E : Nat → Nat × (Nat → Int32)} {d : Nat} {Q : ez_Q} {h : ez_H} {u : Nat} {al : Int32} {li : Int32} {w : Nat} (S : zSh h) {nu nw : Nat} {mx : Int} (hE : zE E) (hu : zA u nu) (hw : zA w nw) (hd : u ≠ 10 ∧ u ≠ 13 ∧ u ≠ w ∧ w ≠ 10 ∧ w ≠ 13) (hn : 1 ≤ al.toInt ∧ al.toInt ≤ nu ∧ al.toInt ≤ nw ∧ al.toInt ≤ 288 ∧ nu ≤ 1000 ∧ nw ≤ 1000) (hl : 1 ≤ li.toInt ∧ li.toInt ≤ 15) (hU : aR (ez_I h u) al.toInt.toNat 0 mx) (hmx : 0 ≤ mx ∧ mx ≤ 1000000) (hmB : (al.toInt.toNat : Int) * mx ≤ 100000000) (hP : (poC (ez_I h u) al.toInt.toNat : Int) ≤ 2 ^ li.toInt.toNat) (K : ∀ h2, zK (fun q => q = 10 ∨ q = 13 ∨ q = w) (fun k => k = 11 ∨ k = 12) h h2 → lnP (ez_I h u) (ez_I h2 w) al.toInt.toNat li.toInt.toNat → (∀ s : Nat, al.toInt.toNat ≤ s → s < nw → (ez_I h2 w s).toInt = 0) → Q (.inl none) h2) : ∀ N : Nat, (∀ (h2 : ez_H) (cm : Int32) (ln : Int32) (i : Int32) (l9 : Option Value) , zK (fun q => q = 10 ∨ q = 13 ∨ q = w) (fun k => k = 11 ∨ k = 12) h h2 → (0 ≤ cm.toInt ∧ cm.toInt ≤ al.toInt ∧ ln.toInt = 6 ∧ 0 ≤ i.toInt ∧ i.toInt ≤ 6) → cK (ez_I h u) (ez_I h2 10) cm.toInt.toNat al.toInt.toNat → (i.toInt = 6 → soS (kfn (ez_I h2 10)) cm.toInt.toNat) → aR (ez_I h2 w) nw 0 0 → (100 - i.toInt) < (N : Int) → pw E (d + 2) 101 33 [some (.ref 9), some (.ref u), some (.int al), some (.int li), some (.ref w), some (.int cm), some (.retAddr 6), some (.int ln), some (.int i), l9] [] h2 Q) := by
  intro N
  induction N with
  | zero => exact fun h2 cm ln i l9  F hinv A_ck A_so A_z0 hm => absurd hm (by have w_cm := z_rng cm; have w_ln := z_rng ln; have w_i := z_rng i; have gal := z_rng al; have gli := z_rng li; omega)
  | succ N ih =>
    refine fun h2 cm ln i l9  F hinv A_ck A_so A_z0 hm => ?_
    · skip
      have w_cm := z_rng cm
      have w_ln := z_rng ln
      have w_i := z_rng i
      have gal := z_rng al
      have gli := z_rng li
      have S2 := zK_sh F S
      apply ez_Wp_in
      show ez_gw _ _ _ _ _ _ (cz_101) _ _ _ _ _
      refine gw_skip _ ?_
      refine gw_ld rfl rfl ?_
      refine gw_ld rfl rfl ?_
      refine z_b2 (fun c1 => ?_) (fun c1 => ?_)
      · have c1 : ln.toInt ≤ i.toInt := c1
        refine gw_skip _ ?_
        refine gw_ld rfl rfl ?_
        refine z_C (m := 1) rfl rfl (fun x2 ex2 => ?_)
        refine z_b2 (fun c3 => ?_) (fun c3 => ?_)
        · have c3 : cm.toInt ≠ x2.toInt := c3
          refine gw_skip _ ?_
          refine gw_ld rfl rfl ?_
          refine z_C (m := 1) rfl rfl (fun x4 ex4 => ?_)
          refine z_b2 (fun c5 => ?_) (fun c5 => ?_)
          · have c5 : cm.toInt ≤ x4.toInt := c5
            refine gw_skip _ ?_
            refine z_rv ?_
            have hcd := cdI_0 (c := fun j => if cm.toInt.toNat = 1 then 1 else FF (WK (ez_I h2 10) cm.toInt.toNat) cm.toInt.toNat (li.toInt.toNat - 1) (2 * cm.toInt.toNat - 2) j) A_z0 (syK_le (cK_sy A_ck (by omega) (fun a ha => (hU a ha).1)) (by omega)) (fun j hj => by exfalso; omega)
            exact K _ F (lnP_K (K := ez_I h2 10) A_ck (fun q => by exfalso; omega) (cdI_le hcd (by omega))) (cdI_z hcd (cK_sy A_ck (by omega) (fun a ha => (hU a ha).1)))
          · have c5 : ¬ (cm.toInt ≤ x4.toInt) := c5
            refine gw_ld rfl rfl ?_
            refine gw_ld rfl rfl ?_
            refine gw_ld rfl rfl ?_
            refine z_cl rfl rfl rfl rfl rfl rfl rfl rfl rfl rfl rfl (zT S2 (by decide) rfl) ?_
            have hkw := cK_kw A_ck (by omega) hU
            have hpo := A_ck.1
            have hpl := poC_le (ez_I h u) al.toInt.toNat
            refine f_rounds (n := cm) (li := li) (W := WK (ez_I h2 10) cm.toInt.toNat) S2 (by omega) (by omega) (WK_kw (fun j hj => (hkw j hj).2)) (WK_b A_ck (by omega) hU (by omega) hmx.1 hmB) (fun h6 F7 k8 => ?_)
            have S9 := zK_sh F7 S2
            have F10 := zK_tr F (zK_mono F7 (fun k hk => by first | omega | exact False.elim hk) (fun k hk => by first | omega | exact False.elim hk))
            have A11 : cK (ez_I h u) (ez_I h6 10) cm.toInt.toNat al.toInt.toNat := by rw [zK_fn F7 10 (by first | omega | exact fun c => c)]; exact A_ck
            have A12 : (i.toInt = 6 → soS (kfn (ez_I h6 10)) cm.toInt.toNat) := by rw [zK_fn F7 10 (by first | omega | exact fun c => c)]; exact A_so
            have A13 : aR (ez_I h6 w) nw 0 0 := by rw [zK_fn F7 w (by first | omega | exact fun c => c)]; exact A_z0
            refine gw_ld rfl rfl ?_
            refine gw_ld rfl rfl ?_
            refine gw_ld rfl rfl ?_
            refine gw_ld rfl rfl ?_
            refine z_cl rfl rfl rfl rfl rfl rfl rfl rfl rfl rfl rfl (zT S9 (by decide) rfl) ?_
            refine f_down (n := cm) (li := li) (w := w) (W := WK (ez_I h2 10) cm.toInt.toNat) (al := nw) S9 hw (by omega) (by omega) (by omega) k8 (rz_end (by omega) (by omega)) (by rw [(show ez_I h6 10 = ez_I h2 10 from zK_fn F7 10 (by decide))]; exact syK_le (cK_sy A_ck (by omega) (fun a ha => (hU a ha).1)) (by omega)) A13 (fun h14 F15 k16 => ?_)
            rw [(show ez_I h6 10 = ez_I h2 10 from zK_fn F7 10 (by decide))] at k16
            have S17 := zK_sh F15 S9
            have F18 := zK_tr F10 (zK_mono F15 (fun k hk => by first | omega | exact False.elim hk) (fun k hk => by first | omega | exact False.elim hk))
            have A19 : cK (ez_I h u) (ez_I h14 10) cm.toInt.toNat al.toInt.toNat := by rw [zK_fn F15 10 (by first | omega | exact fun c => c)]; exact A11
            have A20 : (i.toInt = 6 → soS (kfn (ez_I h14 10)) cm.toInt.toNat) := by rw [zK_fn F15 10 (by first | omega | exact fun c => c)]; exact A12
            have A21 : alB (ez_I h14 13) (WK (ez_I h2 10) cm.toInt.toNat) cm.toInt.toNat li.toInt.toNat := by rw [zK_fn F15 13 (by first | omega | exact fun c => c)]; exact k8
            refine z_rv ?_
            have hcd := cdI_c (c' := fun j => if cm.toInt.toNat = 1 then 1 else FF (WK (ez_I h2 10) cm.toInt.toNat) cm.toInt.toNat (li.toInt.toNat - 1) (2 * cm.toInt.toNat - 2) j) k16 (fun j _ => by rw [if_neg (by omega)])
            exact K _ F18 (lnP_K (K := ez_I h2 10) A_ck (fun _ => A_so (by omega)) (cdI_le hcd (by omega))) (cdI_z hcd (cK_sy A_ck (by omega) (fun a ha => (hU a ha).1)))
        · have c3 : ¬ (cm.toInt ≠ x2.toInt) := c3
          refine gw_ld rfl rfl ?_
          refine gw_ld rfl rfl ?_
          refine z_C (m := 0) rfl rfl (fun x22 ex22 => ?_)
          refine z_cl rfl rfl rfl rfl rfl rfl rfl rfl rfl rfl rfl (zT S2 (by decide) rfl) ?_
          have hsy := (cK_sy A_ck (by omega) (fun a ha => (hU a ha).1))
          have hs0 := hsy 0 (by omega)
          have hz0 : 0 ≤ kS (ez_I h2 10) 0 := by unfold kS; omega
          have hr0 := A_z0 (kS (ez_I h2 10) 0).toNat (by omega)
          refine f_lengthen (w := w) (k := x22) S2 hw (by omega) (by omega) (by rw [show x22.toInt.toNat = 0 by omega]; exact ⟨hs0.1.1, by omega⟩) (by rw [show x22.toInt.toNat = 0 by omega]; omega) (fun h23 F24 k25 => ?_)
          rw [show x22.toInt.toNat = 0 by omega] at k25
          have S26 := zK_sh F24 S2
          have F27 := zK_tr F (zK_mono F24 (fun k hk => by first | omega | exact False.elim hk) (fun k hk => by first | omega | exact False.elim hk))
          have A28 : cK (ez_I h u) (ez_I h23 10) cm.toInt.toNat al.toInt.toNat := by rw [zK_fn F24 10 (by first | omega | exact fun c => c)]; exact A_ck
          have A29 : (i.toInt = 6 → soS (kfn (ez_I h23 10)) cm.toInt.toNat) := by rw [zK_fn F24 10 (by first | omega | exact fun c => c)]; exact A_so
          refine z_go ?_
          refine gw_skip _ ?_
          refine z_rv ?_
          have hcd : cdI (ez_I h23 w) (ez_I h2 10) cm.toInt.toNat nw (fun j => if cm.toInt.toNat = 1 then 1 else FF (WK (ez_I h2 10) cm.toInt.toNat) cm.toInt.toNat (li.toInt.toNat - 1) (2 * cm.toInt.toNat - 2) j) := (cdI_s (cdI_0 (c := fun _ => 0) A_z0 (syK_le hsy (by omega)) (fun _ _ => rfl)) (syK_le hsy (by omega)) k25 (by omega) (fun j hj => by rw [if_pos (by omega), show j = 0 by omega]; rfl))
          exact K _ F27 (lnP_K (K := ez_I h2 10) A_ck (fun _ => A_so (by omega)) (cdI_le hcd (by omega))) (cdI_z hcd hsy)
      · have c1 : ¬ (ln.toInt ≤ i.toInt) := c1
        refine gw_ld rfl rfl ?_
        refine gw_ld rfl rfl ?_
        refine z_iaE (n := 6) (hE 5) (by omega) ?_
        generalize ex30 : (tz_ar (5 + 1)).getD i.toInt.toNat 0 = x30
        have rx30 := z_rng x30
        have ox30 := z_gap2 (n := i.toInt.toNat) (by omega)
        rw [ex30] at ox30
        refine gw_st rfl rfl rfl ?_
        show ez_gw _ _ _ _ _ _ _ _ [some (.ref 9), some (.ref u), some (.int al), some (.int li), some (.ref w), some (.int cm), some (.retAddr 6), some (.int ln), some (.int i), some (.int x30)] _ _ _
        refine gw_ld rfl rfl ?_
        refine gw_ld rfl rfl ?_
        refine gw_ld rfl rfl ?_
        refine z_cl rfl rfl rfl rfl rfl rfl rfl rfl rfl rfl rfl (zT S2 (by decide) rfl) ?_
        refine f_sort (n := cm) (gp := x30) S2 (by omega) (by omega) (fun h31 F32 k33 k34 => ?_)
        have S35 := zK_sh F32 S2
        have F36 := zK_tr F (zK_mono F32 (fun k hk => by first | omega | exact False.elim hk) (fun k hk => by first | omega | exact False.elim hk))
        have A37 : aR (ez_I h31 w) nw 0 0 := by rw [zK_fn F32 w (by first | omega | exact fun c => c)]; exact A_z0
        refine z_inc rfl (by rw [show (1 : Int32).toInt = 1 from rfl]; omega) (fun x38 ex38 => ?_)
        rw [show (1 : Int32).toInt = 1 from rfl] at ex38
        show ez_gw _ _ _ _ _ _ _ _ [some (.ref 9), some (.ref u), some (.int al), some (.int li), some (.ref w), some (.int cm), some (.retAddr 6), some (.int ln), some (.int x38), some (.int x30)] _ _ _
        refine z_go ?_
        exact ih h31 cm ln x38 (some (.int x30)) F36 (by omega) (cK_cS A_ck k33) (fun q => k34 (ox30.2 (by omega))) A37 (by omega)
set_option maxRecDepth 4000 in
set_option maxHeartbeats 20000000 in
theorem f_makeZ {E : Nat → Nat × (Nat → Int32)} {d : Nat} {Q : ez_Q} {h : ez_H} {u : Nat} {al : Int32} {li : Int32} {w : Nat} (S : zSh h) {nu nw : Nat} {mx : Int} (hE : zE E) (hu : zA u nu) (hw : zA w nw) (hd : u ≠ 10 ∧ u ≠ 13 ∧ u ≠ w ∧ w ≠ 10 ∧ w ≠ 13) (hn : 1 ≤ al.toInt ∧ al.toInt ≤ nu ∧ al.toInt ≤ nw ∧ al.toInt ≤ 288 ∧ nu ≤ 1000 ∧ nw ≤ 1000) (hl : 1 ≤ li.toInt ∧ li.toInt ≤ 15) (hU : aR (ez_I h u) al.toInt.toNat 0 mx) (hmx : 0 ≤ mx ∧ mx ≤ 1000000) (hmB : (al.toInt.toNat : Int) * mx ≤ 100000000) (hP : (poC (ez_I h u) al.toInt.toNat : Int) ≤ 2 ^ li.toInt.toNat) (K : ∀ h2, zK (fun q => q = 10 ∨ q = 13 ∨ q = w) (fun k => k = 11 ∨ k = 12) h h2 → lnP (ez_I h u) (ez_I h2 w) al.toInt.toNat li.toInt.toNat → (∀ s : Nat, al.toInt.toNat ≤ s → s < nw → (ez_I h2 w s).toInt = 0) → Q (.inl none) h2) : pw E (d + 2) 101 0 [some (.ref 9), some (.ref u), some (.int al), some (.int li), some (.ref w), none, none, none, none, none] [] h Q := by
  have gal := z_rng al
  have gli := z_rng li
  have F := zK_refl (fun q => q = 10 ∨ q = 13 ∨ q = w) (fun k => k = 11 ∨ k = 12) h
  apply ez_Wp_in
  show ez_gw _ _ _ _ _ _ (cz_101) _ _ _ _ _
  refine gw_skip _ ?_
  refine gw_ld rfl rfl ?_
  refine z_C (m := 0) rfl rfl (fun x1 ex1 => ?_)
  refine z_cl rfl rfl rfl rfl rfl rfl rfl rfl rfl rfl rfl (trivial) ?_
  refine wp_fill ((hw _ S).1) (by rw [show ez_l h w = nw from (hw _ S).2]; omega) ?_
  generalize e3 : ez_rowI h w (pf_fill (ez_I h w) (ez_l h w) x1) = h2
  have e3 := e3.symm
  have S4 := zSh_row S e3
  have F5 := zK_row F e3 (by omega)
  have A6 := zIr_at e3 (show ez_l h w = nw from (hw _ S).2)
  refine gw_ld rfl rfl ?_
  refine gw_ld rfl rfl ?_
  refine gw_ld rfl rfl ?_
  refine gw_ld rfl rfl ?_
  refine z_al (n := nw) (.inl ((hw _ S4).1)) ((hw _ S4).2) (by omega) (fun x7 ex7 => ?_)
  refine z_min rfl (fun x8 ex8 => ?_)
  refine z_cl rfl rfl rfl rfl rfl rfl rfl rfl rfl rfl rfl (zT S4 (by decide) rfl) ?_
  refine f_gather (u := u) (n := x8) S4 hu (by omega) (by omega) (by rw [zK_fn F5 u (by omega), show x8.toInt.toNat = al.toInt.toNat by omega]; exact aR_le hU (by omega)) (fun h9 x11 F10 k12 k13 => ?_)
  have rx11 := z_rng x11
  rw [zK_fn F5 u (by omega), show x8.toInt.toNat = al.toInt.toNat by omega] at k13
  have S14 := zK_sh F10 S4
  have F15 := zK_tr F5 (zK_mono F10 (fun k hk => by first | omega | exact False.elim hk) (fun k hk => by first | omega | exact False.elim hk))
  have A16 : aR (ez_I h9 w) nw 0 0 := by rw [zK_fn F10 w (by first | omega | exact fun c => c)]; exact (aR_fill A6 (by omega) (by omega))
  refine gw_st rfl rfl rfl ?_
  show ez_gw _ _ _ _ _ _ _ _ [some (.ref 9), some (.ref u), some (.int al), some (.int li), some (.ref w), some (.int x11), none, none, none, none] _ _ _
  refine z_gs ?_
  refine gw_st rfl rfl rfl ?_
  show ez_gw _ _ _ _ _ _ _ _ [some (.ref 9), some (.ref u), some (.int al), some (.int li), some (.ref w), some (.int x11), some (.retAddr 6), none, none, none] _ _ _
  refine gw_ld rfl rfl ?_
  refine z_alE (n := 6) (by rw [hE 5]; rfl) (by omega) (fun x17 ex17 => ?_)
  refine gw_st rfl rfl rfl ?_
  show ez_gw _ _ _ _ _ _ _ _ [some (.ref 9), some (.ref u), some (.int al), some (.int li), some (.ref w), some (.int x11), some (.retAddr 6), some (.int x17), none, none] _ _ _
  refine z_C (m := 0) rfl rfl (fun x18 ex18 => ?_)
  refine gw_st rfl rfl rfl ?_
  show ez_gw _ _ _ _ _ _ _ _ [some (.ref 9), some (.ref u), some (.int al), some (.int li), some (.ref w), some (.int x11), some (.retAddr 6), some (.int x17), some (.int x18), none] _ _ _
  exact ez_Wp_at ((f_makeZ_L0 (u := u) (al := al) (li := li) (w := w) S hE hu hw hd hn hl hU hmx hmB hP K (((100 - x18.toInt)).toNat + 1)) h9 x11 x17 x18 (none) F15 (by omega) k13 (fun q => by exfalso; omega) A16 (by omega)) rfl
end
section
/-! rows copied; the row of lengths by two codes -/
theorem zIr_cp {h h2 : ez_H} {p q sp dp n : Nat} (e : h2 = ez_rowI h q (va_cpy (ez_I h p) (ez_I h q) sp dp n)) : (∀ k, k < n → ez_I h2 q (dp + k) = ez_I h p (sp + k)) ∧ ∀ k, ¬ (dp ≤ k ∧ k < dp + n) → ez_I h2 q k = ez_I h q k := by
  have e0 : ∀ k, ez_I h2 q k = va_cpy (ez_I h p) (ez_I h q) sp dp n k := fun k => by
    subst e
    show ez_row (ez_I h) q (va_cpy (ez_I h p) (ez_I h q) sp dp n) q k = _
    unfold ez_row
    simp only [↓reduceIte]
  refine ⟨fun k hk => ?_, fun k hk => ?_⟩
  · rw [e0]
    unfold va_cpy
    rw [if_pos (by omega), show dp + k - dp = k by omega]
  · rw [e0]
    unfold va_cpy
    rw [if_neg hk]
theorem rn_congr {f g : Nat → Nat} {N a v : Nat} (h : ∀ k, k < N → f k = g k) : ∀ m, rn f N a v m = rn g N a v m := by
  intro m
  induction m with
  | zero => rfl
  | succ m ih =>
    by_cases c : rn f N a v m = m ∧ a + m < N ∧ f (a + m) = v
    · rw [rn_y c, rn_y ⟨by rw [← ih]; exact c.1, c.2.1, by rw [← h _ c.2.1]; exact c.2.2⟩]
    · rw [rn_n c, rn_n (fun q => c ⟨by rw [ih]; exact q.1, q.2.1, by rw [h _ q.2.1]; exact q.2.2⟩), ih]
theorem tk_congr {f g : Nat → Nat} {N a : Nat} (h : ∀ k, k < N → f k = g k) (ha : a < N) : tk f N a = tk g N a := by
  unfold tk
  rw [rn_congr h 138, rn_congr (v := f (a - 1)) h 6, h (a - 1) (by omega), h a ha]
theorem tp_congr {f g : Nat → Nat} {N : Nat} (h : ∀ k, k < N → f k = g k) : ∀ c, ltT f N c → (∀ i, i ≤ c → tp f N i = tp g N i) := by
  intro c
  induction c with
  | zero => intro _ i hi; have : i = 0 := by omega
            subst this; rfl
  | succ c ih =>
    intro A i hi
    have a := ih (fun j hj => A j (by omega))
    by_cases e : i = c + 1
    · subst e
      show tp f N c + (tk f N (tp f N c)).2.2 = tp g N c + (tk g N (tp g N c)).2.2
      rw [tk_congr h (A c (by omega)), a c (Nat.le_refl c)]
    · exact a i (by omega)
theorem tSX_congr {f g : Nat → Nat} {N c : Nat} (h : ∀ k, k < N → f k = g k) (A : ltT f N c) {i : Nat} (hi : i < c) : tS f N i = tS g N i ∧ tX f N i = tX g N i := by
  have a := tp_congr h c A i (by omega)
  unfold tS tX
  rw [tk_congr h (A i hi), a]
  exact ⟨rfl, rfl⟩
theorem tC_congr {f g : Nat → Nat} {N c : Nat} (h : ∀ k, k < N → f k = g k) (A : ltT f N c) : ∀ i s, i ≤ c → tC f N i s = tC g N i s := by
  intro i
  induction i with
  | zero => intro s _; rfl
  | succ i ih =>
    intro s hi
    show tC f N i s + (if tS f N i = s then 1 else 0) = tC g N i s + (if tS g N i = s then 1 else 0)
    rw [ih s (by omega), (tSX_congr h A (show i < c by omega)).1]
theorem ltT_congr {f g : Nat → Nat} {N c : Nat} (h : ∀ k, k < N → f k = g k) (A : ltT f N c) : ltT g N c := fun j hj => by
  rw [← tp_congr h c A j (by omega)]
  exact A j hj
/-- two codes' lengths as one row -/
noncomputable def rwF (L1 L2 : Nat → Nat) (nl : Nat) : Nat → Nat := fun k => if k < nl then L1 k else L2 (k - nl)
theorem rEf_7 (y : Nat) : rEf y ≤ 7 := by
  unfold rEf
  by_cases c : 16 ≤ y ∧ y < 19
  · rw [if_pos c]
    rcases (by omega : y = 16 ∨ y = 17 ∨ y = 18) with q | q | q <;> subst q <;> decide
  · rw [if_neg c]; omega
/-! lengths made, in a row -/
theorem ln_all {U R : Nat → Int32} {c : Nat → Nat} {al li nw : Nat} (A : lnP U R al li) (Z : ∀ s : Nat, al ≤ s → s < nw → (R s).toInt = 0) (C : ctI U c al) (hb : ∀ i, i < al → c i < 2147483648) (hal : al ≤ 512) (hl : 1 ≤ li) : (∀ k, k < nw → nL R k = LNf c al li k) ∧ aR R nw 0 li ∧ (∀ k, k < al → 1 ≤ c k → 1 ≤ nL R k) ∧ (∀ k, k < al → c k = 0 → nL R k = 0) := by
  have r := lnP_rng A hal hl (fun s hs => by have := C s hs; omega)
  have e := LNf_of A C hb hal
  refine ⟨fun k hk => ?_, fun k hk => ?_, fun k hk h1 => ?_, fun k hk h1 => ?_⟩
  · by_cases q : k < al
    · exact e k q
    · show (R k).toInt.toNat = _
      rw [Z k (by omega) hk, LNf_out (by omega)]
      rfl
  · by_cases q : k < al
    · exact (r k q).1
    · have := Z k (by omega) hk
      omega
  · have a := r k hk
    have b := C k hk
    have := a.2.1 (by omega)
    show 1 ≤ (R k).toInt.toNat
    omega
  · have a := r k hk
    have b := C k hk
    have := a.2.2 (by omega)
    show (R k).toInt.toNat = 0
    omega
theorem poC_le2 (U : Nat → Int32) : ∀ n, poC U n ≤ n := by
  intro n
  induction n with
  | zero => exact Nat.le_refl 0
  | succ n ih =>
    show poC U n + (if 0 < (U n).toInt then 1 else 0) ≤ n + 1
    split <;> omega
theorem rw_62b {h h0 h1 h2 : ez_H} {s1 d1 n1 s2 d2 n2 nl nd : Nat} (e1 : h1 = ez_rowI h0 62 (va_cpy (ez_I h0 30) (ez_I h0 62) s1 d1 n1)) (e2 : h2 = ez_rowI h1 62 (va_cpy (ez_I h1 37) (ez_I h1 62) s2 d2 n2)) (f3 : ez_I h0 30 = ez_I h 30) (f7 : ez_I h1 37 = ez_I h 37) (q : s1 = 0 ∧ d1 = 0 ∧ n1 = nl ∧ s2 = 0 ∧ d2 = nl ∧ n2 = nd) (hL1 : aR (ez_I h 30) 288 0 15) (hL2 : aR (ez_I h 37) 288 0 15) (hb : nl ≤ 288 ∧ nd ≤ 288) : (∀ k, k < nl + nd → nL (ez_I h2 62) k = rwF (nL (ez_I h 30)) (nL (ez_I h 37)) nl k) ∧ aR (ez_I h2 62) (nl + nd) 0 15 := by
  obtain ⟨q1, q2, q3, q4, q5, q6⟩ := q
  subst q1; subst q2; subst q3; subst q4; subst q5; subst q6
  have a := zIr_cp e1
  have b := zIr_cp e2
  have v : ∀ k, k < d2 + n2 → ez_I h2 62 k = if k < d2 then ez_I h 30 k else ez_I h 37 (k - d2) := fun k hk => by
    by_cases c : k < d2
    · rw [if_pos c, b.2 k (by omega)]
      have := a.1 k c
      rw [show 0 + k = k by omega, f3] at this
      exact this
    · rw [if_neg c]
      have := b.1 (k - d2) (by omega)
      rw [show d2 + (k - d2) = k by omega, show 0 + (k - d2) = k - d2 by omega, f7] at this
      exact this
  refine ⟨fun k hk => ?_, fun k hk => ?_⟩
  · unfold rwF
    show (ez_I h2 62 k).toInt.toNat = _
    rw [v k hk]
    by_cases c : k < d2
    · rw [if_pos c, if_pos c]; rfl
    · rw [if_neg c, if_neg c]; rfl
  · rw [v k hk]
    by_cases c : k < d2
    · rw [if_pos c]; exact hL1 k (by omega)
    · rw [if_neg c]; exact hL2 (k - d2) (by omega)
/-! PRINTED by wip/pack: the class: rows, the book, the head written -/
set_option maxRecDepth 4000 in
set_option maxHeartbeats 2000000 in
theorem c_become {E : Nat → Nat × (Nat → Int32)} {d : Nat} {Q : ez_Q} {h : ez_H} {p : Nat} {q : Nat} (S : zSh h) (hp : p = 2 ∨ p = 4 ∨ p = 50) (hq : q = 2 ∨ q = 4 ∨ q = 50) (hpq : p ≠ q) (hz : 0 ≤ (ez_I h q 1).toInt ∧ (ez_I h q 1).toInt ≤ 6100) (K : ∀ h2, zW (fun q k => q = p ∧ k = 1) (fun q => q = (p + 1)) (fun _ => False) h h2 → (ez_I h2 p 1).toInt = (ez_I h q 1).toInt → (∀ k : Nat, (k : Int) < (ez_I h q 1).toInt → ez_I h2 (p + 1) k = ez_I h (q + 1) k) → Q (.inl none) h2) : pw E d 130 0 [some (.ref p), some (.ref q)] [] h Q := by
  have F := zW_refl (fun q k => q = p ∧ k = 1) (fun q => q = (p + 1)) (fun _ => False) h
  apply ez_Wp_in
  show ez_gw _ _ _ _ _ _ (cz_130) _ _ _ _ _
  refine gw_skip _ ?_
  have r1 := z_rng (ez_I h p 1)
  refine gw_ld rfl rfl ?_
  refine z_C (m := 0) rfl rfl (fun x2 ex2 => ?_)
  refine gw_ld rfl rfl ?_
  have r3 := z_rng (ez_I h q 1)
  refine z_gI2 (by decide) ((zRow S hq).1) (zW_f F (by omega) (by omega)) ?_
  refine z_C (m := 6100) rfl rfl (fun x4 ex4 => ?_)
  refine z_min rfl (fun x5 ex5 => ?_)
  refine z_max rfl (fun x6 ex6 => ?_)
  refine z_pI ((zRow S hp).1) (fun h7 e8 => ?_)
  have S9 := zSh_set S e8
  have F10 := zW_setF F e8 (by omega)
  have f11 : ez_I h7 p 1 = x6 := zI_eq e8
  refine gw_ld rfl rfl ?_
  refine z_gR (q := (q + 1)) ((zRow S9 hq).1) ((zRow S9 hq).2.1) (by omega) ?_
  refine z_C (m := 0) rfl rfl (fun x12 ex12 => ?_)
  refine gw_ld rfl rfl ?_
  refine z_gR (q := (p + 1)) ((zRow S9 hp).1) ((zRow S9 hp).2.1) (by omega) ?_
  refine z_C (m := 0) rfl rfl (fun x13 ex13 => ?_)
  refine gw_ld rfl rfl ?_
  refine z_gI2 (by decide) ((zRow S9 hp).1) (f11) ?_
  refine z_ac (n := 6100) (m := 6100) rfl ((zRow S9 hq).2.2.1) ((zRow S9 hp).2.2.1) ((zRow S9 hq).2.2.2) ((zRow S9 hp).2.2.2) (by omega) (fun h14 e15 => ?_)
  have S16 := zSh_row S9 e15
  have F17 := zW_row F10 e15 (by omega)
  have f18 : ez_I h14 p 1 = x6 := (zI_row e15 (by omega)).trans (f11)
  have A19 : ((∀ k, k < x6.toInt.toNat → ez_I h14 (p + 1) (x13.toInt.toNat + k) = ez_I h7 (q + 1) (x12.toInt.toNat + k)) ∧ ∀ k, ¬ (x13.toInt.toNat ≤ k ∧ k < x13.toInt.toNat + x6.toInt.toNat) → ez_I h14 (p + 1) k = ez_I h7 (p + 1) k) := zIr_cp e15
  refine z_rv ?_
  have t20 := congrArg Int32.toInt (f18)
  exact K _ F17 (by omega) (fun k hk => by have a := A19.1 k (by omega); rw [show (x13.toInt.toNat + k) = k by omega, show (x12.toInt.toNat + k) = k by omega] at a; exact a.trans (zI_ne e8 (by omega)))
set_option maxRecDepth 4000 in
set_option maxHeartbeats 2000000 in
theorem c_bhas {E : Nat → Nat × (Nat → Int32)} {d : Nat} {Q : ez_Q} {h : ez_H} {k : Int32} (S : zSh h)  (K : ∀ x : Int32, (x.toInt = 0 ∨ x.toInt = 1) → (x.toInt = 1 → 0 ≤ k.toInt ∧ k.toInt < (ez_I h 55 2).toInt ∧ k.toInt < 10) → (x.toInt = 0 → ¬ (0 ≤ k.toInt ∧ k.toInt < (ez_I h 55 2).toInt ∧ k.toInt < 10)) → Q (.inl (some (.int x))) h) : pw E d 79 0 [some (.ref 55), some (.int k)] [] h Q := by
  have gk := z_rng k
  have F := zW_refl (fun _ _ => False) (fun _ => False) (fun _ => False) h
  apply ez_Wp_in
  show ez_gw _ _ _ _ _ _ (cz_79) _ _ _ _ _
  refine gw_skip _ ?_
  refine gw_ld rfl rfl ?_
  refine z_b1 (fun c1 => ?_) (fun c1 => ?_)
  · have c1 : k.toInt < 0 := c1
    refine gw_skip _ ?_
    refine z_C (m := 0) rfl rfl (fun x2 ex2 => ?_)
    refine z_rz (by omega) ?_
    exact zW_Q F (K x2 (by omega) (by omega) (by omega))
  · have c1 : ¬ (k.toInt < 0) := c1
    refine gw_ld rfl rfl ?_
    refine gw_ld rfl rfl ?_
    have r3 := z_rng (ez_I h 55 2)
    refine z_gI2 (by decide) (zT S (by decide) rfl) (zW_f F (fun c => c) (fun c => c)) ?_
    refine z_b2 (fun c4 => ?_) (fun c4 => ?_)
    · have c4 : ((ez_I h 55 2)).toInt ≤ k.toInt := c4
      refine gw_skip _ ?_
      refine z_C (m := 0) rfl rfl (fun x5 ex5 => ?_)
      refine z_rz (by omega) ?_
      exact zW_Q F (K x5 (by omega) (by omega) (by omega))
    · have c4 : ¬ (((ez_I h 55 2)).toInt ≤ k.toInt) := c4
      refine gw_ld rfl rfl ?_
      refine z_C (m := 10) rfl rfl (fun x6 ex6 => ?_)
      refine z_b2 (fun c7 => ?_) (fun c7 => ?_)
      · have c7 : x6.toInt ≤ k.toInt := c7
        refine gw_skip _ ?_
        refine z_C (m := 0) rfl rfl (fun x8 ex8 => ?_)
        refine z_rz (by omega) ?_
        exact zW_Q F (K x8 (by omega) (by omega) (by omega))
      · have c7 : ¬ (x6.toInt ≤ k.toInt) := c7
        refine z_C (m := 1) rfl rfl (fun x9 ex9 => ?_)
        refine z_go ?_
        refine gw_skip _ ?_
        refine z_rz (by omega) ?_
        exact zW_Q F (K x9 (by omega) (by omega) (by omega))
set_option maxRecDepth 4000 in
set_option maxHeartbeats 2000000 in
theorem c_bbegin {E : Nat → Nat × (Nat → Int32)} {d : Nat} {Q : ez_Q} {h : ez_H} {n : Int32} (S : zSh h) (hn : 0 ≤ n.toInt ∧ n.toInt ≤ 6000) (K : ∀ h2, zW (fun q k => q = 55 ∧ k = 2) (fun _ => False) (fun _ => False) h h2 → (n.toInt = 0 ∧ (ez_I h2 55 2).toInt = 1 ∨ 0 < n.toInt ∧ (ez_I h2 55 2).toInt = (n.toInt + 599) / 600) → Q (.inl none) h2) : pw E d 74 0 [some (.ref 55), some (.int n)] [] h Q := by
  have gn := z_rng n
  have F := zW_refl (fun q k => q = 55 ∧ k = 2) (fun _ => False) (fun _ => False) h
  apply ez_Wp_in
  show ez_gw _ _ _ _ _ _ (cz_74) _ _ _ _ _
  refine gw_skip _ ?_
  have r1 := z_rng (ez_I h 55 2)
  refine gw_ld rfl rfl ?_
  refine z_C (m := 1) rfl rfl (fun x2 ex2 => ?_)
  refine z_C (m := 10) rfl rfl (fun x3 ex3 => ?_)
  refine gw_ld rfl rfl ?_
  refine z_C (m := 600) rfl rfl (fun x4 ex4 => ?_)
  refine z_add (by omega) (fun x5 ex5 => ?_)
  refine z_C (m := 1) rfl rfl (fun x6 ex6 => ?_)
  refine z_sub (by omega) (fun x7 ex7 => ?_)
  refine z_C (m := 600) rfl rfl (fun x8 ex8 => ?_)
  refine z_dvP (c := 600) ex8 (by decide) (by omega) (fun x9 ex9 => ?_)
  refine z_min rfl (fun x10 ex10 => ?_)
  refine z_max rfl (fun x11 ex11 => ?_)
  refine z_pI (zT S (by decide) rfl) (fun h12 e13 => ?_)
  have S14 := zSh_set S e13
  have F15 := zW_setF F e13 (by omega)
  have f16 : ez_I h12 55 2 = x11 := zI_eq e13
  refine z_rv ?_
  have t17 := congrArg Int32.toInt (f16)
  exact K _ F15 (by omega)
set_option maxRecDepth 4000 in
set_option maxHeartbeats 2000000 in
theorem c_note {E : Nat → Nat × (Nat → Int32)} {d : Nat} {Q : ez_Q} {h : ez_H} {k : Int32} {w : Int32} {v : Int32} (S : zSh h) (hk : 0 ≤ k.toInt ∧ k.toInt < (ez_I h 55 2).toInt ∧ (ez_I h 55 2).toInt ≤ 10) (hw : 0 ≤ w.toInt ∧ w.toInt < 6) (K : ∀ h2, zW (fun _ _ => False) (fun q => q = 56) (fun _ => False) h h2 → ez_I h2 56 (6 * k.toInt + w.toInt).toNat = v → (∀ j, j ≠ (6 * k.toInt + w.toInt).toNat → ez_I h2 56 j = ez_I h 56 j) → Q (.inl none) h2) : pw E (d + 1) 75 0 [some (.ref 55), some (.int k), some (.int w), some (.int v)] [] h Q := by
  have gk := z_rng k
  have gw := z_rng w
  have gv := z_rng v
  have F := zW_refl (fun _ _ => False) (fun q => q = 56) (fun _ => False) h
  apply ez_Wp_in
  show ez_gw _ _ _ _ _ _ (cz_75) _ _ _ _ _
  refine gw_skip _ ?_
  refine gw_ld rfl rfl ?_
  refine gw_ld rfl rfl ?_
  refine z_cl rfl rfl rfl rfl rfl rfl rfl rfl rfl rfl rfl (zT S (by decide) rfl) ?_
  refine c_bhas S (k := k) (fun x1 k2 k3 k4 => ?_)
  have rx1 := z_rng x1
  refine z_b1 (fun c5 => ?_) (fun c5 => ?_)
  · have c5 : x1.toInt = 0 := c5
    refine gw_skip _ ?_
    refine z_rv ?_
    exfalso; omega
  · have c5 : ¬ (x1.toInt = 0) := c5
    refine gw_ld rfl rfl ?_
    refine z_b1 (fun c6 => ?_) (fun c6 => ?_)
    · have c6 : w.toInt < 0 := c6
      refine gw_skip _ ?_
      refine z_rv ?_
      exfalso; omega
    · have c6 : ¬ (w.toInt < 0) := c6
      refine gw_ld rfl rfl ?_
      refine z_C (m := 6) rfl rfl (fun x7 ex7 => ?_)
      refine z_b2 (fun c8 => ?_) (fun c8 => ?_)
      · have c8 : x7.toInt ≤ w.toInt := c8
        refine gw_skip _ ?_
        refine z_rv ?_
        exfalso; omega
      · have c8 : ¬ (x7.toInt ≤ w.toInt) := c8
        refine gw_ld rfl rfl ?_
        refine z_gR (q := 56) (zT S (by decide) rfl) (zRf S (by decide) (by decide) rfl) (by decide) ?_
        refine gw_ld rfl rfl ?_
        refine z_C (m := 6) rfl rfl (fun x9 ex9 => ?_)
        refine z_mulR (c := 6) ex9 (by omega) (fun x10 ex10 => ?_)
        refine gw_ld rfl rfl ?_
        refine z_add (by omega) (fun x11 ex11 => ?_)
        refine gw_ld rfl rfl ?_
        refine z_is (n := 60) (zT S (by decide) rfl) (zN S (by decide) rfl) (by omega) (fun h12 e13 => ?_)
        have S14 := zSh_set S e13
        have F15 := zW_setA F e13 (by omega)
        have A16 : (ez_I h12 56 (6 * k.toInt + w.toInt).toNat = v ∧ ∀ j, j ≠ (6 * k.toInt + w.toInt).toNat → ez_I h12 56 j = ez_I h 56 j) := ⟨by rw [show (6 * k.toInt + w.toInt).toNat = x11.toInt.toNat by omega]; exact zI_eq e13, fun j hj => zI_ne e13 (by omega)⟩
        refine z_rv ?_
        exact K _ F15 A16.1 A16.2
set_option maxRecDepth 4000 in
set_option maxHeartbeats 2000000 in
theorem c_fact {E : Nat → Nat × (Nat → Int32)} {d : Nat} {Q : ez_Q} {h : ez_H} {k : Int32} {w : Int32} (S : zSh h) (hb : 0 ≤ (ez_I h 55 2).toInt ∧ (ez_I h 55 2).toInt ≤ 10) (K : ∀ x : Int32, ((0 ≤ k.toInt ∧ k.toInt < (ez_I h 55 2).toInt ∧ 0 ≤ w.toInt ∧ w.toInt < 6) → x = ez_I h 56 (6 * k.toInt + w.toInt).toNat) → (¬ (0 ≤ k.toInt ∧ k.toInt < (ez_I h 55 2).toInt ∧ 0 ≤ w.toInt ∧ w.toInt < 6) → x.toInt = -1) → Q (.inl (some (.int x))) h) : pw E (d + 1) 76 0 [some (.ref 55), some (.int k), some (.int w)] [] h Q := by
  have gk := z_rng k
  have gw := z_rng w
  have F := zW_refl (fun _ _ => False) (fun _ => False) (fun _ => False) h
  apply ez_Wp_in
  show ez_gw _ _ _ _ _ _ (cz_76) _ _ _ _ _
  refine gw_skip _ ?_
  refine gw_ld rfl rfl ?_
  refine gw_ld rfl rfl ?_
  refine z_cl rfl rfl rfl rfl rfl rfl rfl rfl rfl rfl rfl (zT S (by decide) rfl) ?_
  refine c_bhas S (k := k) (fun x1 k2 k3 k4 => ?_)
  have rx1 := z_rng x1
  refine z_b1 (fun c5 => ?_) (fun c5 => ?_)
  · have c5 : x1.toInt = 0 := c5
    refine gw_skip _ ?_
    refine z_C (m := -1) rfl rfl (fun x6 ex6 => ?_)
    refine z_ri ?_
    exact zW_Q F (K _ (fun q => by exfalso; omega) (fun _ => by omega))
  · have c5 : ¬ (x1.toInt = 0) := c5
    refine gw_ld rfl rfl ?_
    refine z_b1 (fun c7 => ?_) (fun c7 => ?_)
    · have c7 : w.toInt < 0 := c7
      refine gw_skip _ ?_
      refine z_C (m := -1) rfl rfl (fun x8 ex8 => ?_)
      refine z_ri ?_
      exact zW_Q F (K _ (fun q => by exfalso; omega) (fun _ => by omega))
    · have c7 : ¬ (w.toInt < 0) := c7
      refine gw_ld rfl rfl ?_
      refine z_C (m := 6) rfl rfl (fun x9 ex9 => ?_)
      refine z_b2 (fun c10 => ?_) (fun c10 => ?_)
      · have c10 : x9.toInt ≤ w.toInt := c10
        refine gw_skip _ ?_
        refine z_C (m := -1) rfl rfl (fun x11 ex11 => ?_)
        refine z_ri ?_
        exact zW_Q F (K _ (fun q => by exfalso; omega) (fun _ => by omega))
      · have c10 : ¬ (x9.toInt ≤ w.toInt) := c10
        refine gw_ld rfl rfl ?_
        refine z_gR (q := 56) (zT S (by decide) rfl) (zRf S (by decide) (by decide) rfl) (by decide) ?_
        refine gw_ld rfl rfl ?_
        refine z_C (m := 6) rfl rfl (fun x12 ex12 => ?_)
        refine z_mulR (c := 6) ex12 (by omega) (fun x13 ex13 => ?_)
        refine gw_ld rfl rfl ?_
        refine z_add (by omega) (fun x14 ex14 => ?_)
        refine z_iaV (n := 60) (zT S (by decide) rfl) (zN S (by decide) rfl) (by omega) (zW_f F (fun c => c) (fun c => c)) ?_
        generalize ex15 : ez_I h 56 x14.toInt.toNat = x15
        have rx15 := z_rng x15
        refine z_go ?_
        refine gw_skip _ ?_
        refine z_ri ?_
        exact zW_Q F (K _ (fun q => by rw [← ex15]; congr 1; omega) (fun q => by exfalso; omega))
set_option maxRecDepth 4000 in
set_option maxHeartbeats 2000000 in
theorem c_hwrite_L1 {E : Nat → Nat × (Nat → Int32)} {d : Nat} {Q : ez_Q} {h : ez_H}  (S : zSh h) {s : Nat × Nat} {f : Nat → Nat} {M c : Nat} (hE : zE E) (hs : stC (ez_I h 51) (ez_I h 50 1).toInt (ez_I h 68 1).toInt (ez_I h 68 2).toInt s) (h7 : (ez_I h 68 2).toInt ≤ 7) (hn : 257 ≤ (ez_I h 61 1).toInt ∧ (ez_I h 61 1).toInt ≤ 286 ∧ 1 ≤ (ez_I h 61 2).toInt ∧ (ez_I h 61 2).toInt ≤ 30 ∧ 4 ≤ (ez_I h 61 7).toInt ∧ (ez_I h 61 7).toInt ≤ 19) (hc : (ez_I h 61 5).toInt = c ∧ c ≤ 316) (hte : teI (ez_I h 63) (ez_I h 64) f M c) (ht : ∀ i, i < c → tS f M i ≤ 18 ∧ tX f M i < 2 ^ rEf (tS f M i)) (hL : aR (ez_I h 44) 288 0 15) (hA : aR (ez_I h 44) 19 0 7) (hW : ∀ k, k < 288 → 1 ≤ nL (ez_I h 44) k → 0 ≤ (ez_I h 45 k).toInt ∧ (ez_I h 45 k).toInt < 2 ^ (ez_I h 44 k).toInt.toNat) (hu : ∀ i, i < c → 1 ≤ (nL (ez_I h 44)) (tS f M i)) (hr : (sS (nL (ez_I h 45)) (nL (ez_I h 44)) f M (oS (nL (ez_I h 44)) (hdS (ez_I h 61 1).toInt.toNat (ez_I h 61 2).toInt.toNat (ez_I h 61 7).toInt.toNat s) (ez_I h 61 7).toInt.toNat) c).2 ≤ 48800) (K : ∀ h2, zW (fun q k => q = 68 ∧ k = 1 ∨ q = 68 ∧ k = 2 ∨ q = 50 ∧ k = 1) (fun q => q = 51) (fun _ => False) h h2 → stC (ez_I h2 51) (ez_I h2 50 1).toInt (ez_I h2 68 1).toInt (ez_I h2 68 2).toInt (sS (nL (ez_I h 45)) (nL (ez_I h 44)) f M (oS (nL (ez_I h 44)) (hdS (ez_I h 61 1).toInt.toNat (ez_I h 61 2).toInt.toNat (ez_I h 61 7).toInt.toNat s) (ez_I h 61 7).toInt.toNat) c) → (ez_I h2 68 2).toInt ≤ 7 → Q (.inl none) h2) : ∀ N : Nat, (∀ (h2 : ez_H) (i : Int32) , zW (fun q k => q = 68 ∧ k = 1 ∨ q = 68 ∧ k = 2 ∨ q = 50 ∧ k = 1) (fun q => q = 51) (fun _ => False) h h2 → (0 ≤ i.toInt ∧ i.toInt ≤ c ∧ (ez_I h2 68 2).toInt ≤ 7) → stC (ez_I h2 51) (ez_I h2 50 1).toInt (ez_I h2 68 1).toInt (ez_I h2 68 2).toInt (sS (nL (ez_I h 45)) (nL (ez_I h 44)) f M (oS (nL (ez_I h 44)) (hdS (ez_I h 61 1).toInt.toNat (ez_I h 61 2).toInt.toNat (ez_I h 61 7).toInt.toNat s) (ez_I h 61 7).toInt.toNat) i.toInt.toNat) → (1000 - i.toInt) < (N : Int) → pw E (d + 3) 90 74 [some (.ref 61), some (.ref 43), some (.ref 68), some (.int i)] [] h2 Q) := by
  intro N
  induction N with
  | zero => exact fun h2 i  F hinv A_st hm => absurd hm (by have w_i := z_rng i; have hof := oS_2 (nL (ez_I h 44)) (hdS (ez_I h 61 1).toInt.toNat (ez_I h 61 2).toInt.toNat (ez_I h 61 7).toInt.toNat s) (ez_I h 61 7).toInt.toNat; have hhd : (hdS (ez_I h 61 1).toInt.toNat (ez_I h 61 2).toInt.toNat (ez_I h 61 7).toInt.toNat s).2 = s.2 + 5 + 5 + 4 := rfl; have hfs := sS_2 (nL (ez_I h 45)) (nL (ez_I h 44)) f M (oS (nL (ez_I h 44)) (hdS (ez_I h 61 1).toInt.toNat (ez_I h 61 2).toInt.toNat (ez_I h 61 7).toInt.toNat s) (ez_I h 61 7).toInt.toNat) c; omega)
  | succ N ih =>
    refine fun h2 i  F hinv A_st hm => ?_
    · skip
      have w_i := z_rng i
      have hof := oS_2 (nL (ez_I h 44)) (hdS (ez_I h 61 1).toInt.toNat (ez_I h 61 2).toInt.toNat (ez_I h 61 7).toInt.toNat s) (ez_I h 61 7).toInt.toNat
      have hhd : (hdS (ez_I h 61 1).toInt.toNat (ez_I h 61 2).toInt.toNat (ez_I h 61 7).toInt.toNat s).2 = s.2 + 5 + 5 + 4 := rfl
      have hfs := sS_2 (nL (ez_I h 45)) (nL (ez_I h 44)) f M (oS (nL (ez_I h 44)) (hdS (ez_I h 61 1).toInt.toNat (ez_I h 61 2).toInt.toNat (ez_I h 61 7).toInt.toNat s) (ez_I h 61 7).toInt.toNat) c
      have S2 := zW_sh F S
      have hs2 := sS_2 (nL (ez_I h 45)) (nL (ez_I h 44)) f M (oS (nL (ez_I h 44)) (hdS (ez_I h 61 1).toInt.toNat (ez_I h 61 2).toInt.toNat (ez_I h 61 7).toInt.toNat s) (ez_I h 61 7).toInt.toNat) i.toInt.toNat
      have hs3 := sS_2 (nL (ez_I h 45)) (nL (ez_I h 44)) f M (oS (nL (ez_I h 44)) (hdS (ez_I h 61 1).toInt.toNat (ez_I h 61 2).toInt.toNat (ez_I h 61 7).toInt.toNat s) (ez_I h 61 7).toInt.toNat) c
      have hmo : i.toInt.toNat < c → _ := fun q => sN_mono (f := fun k => (nL (ez_I h 44)) (tS f M k) + rEf (tS f M k)) (n := i.toInt.toNat + 1) c (by omega)
      have hsu : sN (fun k => (nL (ez_I h 44)) (tS f M k) + rEf (tS f M k)) (i.toInt.toNat + 1) = sN (fun k => (nL (ez_I h 44)) (tS f M k) + rEf (tS f M k)) i.toInt.toNat + ((nL (ez_I h 44)) (tS f M i.toInt.toNat) + rEf (tS f M i.toInt.toNat)) := rfl
      apply ez_Wp_in
      show ez_gw _ _ _ _ _ _ (cz_90) _ _ _ _ _
      refine gw_skip _ ?_
      have r1 := z_rng (ez_I h2 68 1)
      have r2 := z_rng (ez_I h2 68 2)
      have r3 := z_rng (ez_I h2 50 1)
      refine gw_ld rfl rfl ?_
      refine gw_ld rfl rfl ?_
      have r4 := z_rng (ez_I h 61 5)
      refine z_gI2 (by decide) (zT S2 (by decide) rfl) (zW_f F (by decide) (by decide)) ?_
      refine z_b2 (fun c5 => ?_) (fun c5 => ?_)
      · have c5 : ((ez_I h 61 5)).toInt ≤ i.toInt := c5
        refine gw_skip _ ?_
        refine z_rv ?_
        have b1 := A_st
        rw [show i.toInt.toNat = c by omega] at b1
        exact K _ F b1 (by omega)
      · have c5 : ¬ (((ez_I h 61 5)).toInt ≤ i.toInt) := c5
        refine gw_ld rfl rfl ?_
        refine gw_ld rfl rfl ?_
        refine gw_ld rfl rfl ?_
        refine z_gR (q := 63) (zT S2 (by decide) rfl) (zRf S2 (by decide) (by decide) rfl) (by decide) ?_
        refine gw_ld rfl rfl ?_
        refine z_iaV (n := 316) (zT S2 (by decide) rfl) (zN S2 (by decide) rfl) (by omega) (zW_f F (by decide) (by omega)) ?_
        generalize ex6 : ez_I h 63 i.toInt.toNat = x6
        have rx6 := z_rng x6
        obtain ⟨te1, te2⟩ := hte i.toInt.toNat (by omega)
        rw [ex6] at te1
        obtain ⟨ht1, ht2⟩ := ht i.toInt.toNat (by omega)
        have hsy : x6.toInt.toNat = tS f M i.toInt.toNat := by omega
        have hmo1 := hmo (by omega)
        have hsyL : nL (ez_I h 44) x6.toInt.toNat = nL (ez_I h 44) (tS f M i.toInt.toNat) := by rw [hsy]
        have hr7 := rEf_7 (tS f M i.toInt.toNat)
        refine z_cl rfl rfl rfl rfl rfl rfl rfl rfl rfl rfl rfl (zT S2 (by decide) rfl) ?_
        have yL := hL x6.toInt.toNat (by omega)
        have yP : 1 ≤ nL (ez_I h 44) x6.toInt.toNat := by rw [hsy]; exact hu i.toInt.toNat (by omega)
        have yW := hW x6.toInt.toNat (by omega) yP
        have yN : nL (ez_I h 44) x6.toInt.toNat = (ez_I h 44 x6.toInt.toNat).toInt.toNat := rfl
        refine c_putS (s := (sS (nL (ez_I h 45)) (nL (ez_I h 44)) f M (oS (nL (ez_I h 44)) (hdS (ez_I h 61 1).toInt.toNat (ez_I h 61 2).toInt.toNat (ez_I h 61 7).toInt.toNat s) (ez_I h 61 7).toInt.toNat) i.toInt.toNat)) (p := 43) (i := x6) S2 (by decide) A_st (by omega) (by omega) (by rw [show ez_I h2 (43 + 1) = ez_I h 44 from (show ez_I h2 44 = ez_I h 44 from zW_fn F 44 (by omega) (fun k c => by omega))]; exact yL) (by rw [show ez_I h2 (43 + 1) = ez_I h 44 from (show ez_I h2 44 = ez_I h 44 from zW_fn F 44 (by omega) (fun k c => by omega)), show ez_I h2 (43 + 2) = ez_I h 45 from (show ez_I h2 45 = ez_I h 45 from zW_fn F 45 (by omega) (fun k c => by omega))]; exact yW) (by rw [show ez_I h2 (43 + 1) = ez_I h 44 from (show ez_I h2 44 = ez_I h 44 from zW_fn F 44 (by omega) (fun k c => by omega))]; omega) (fun h7 F8 k9 k10 => ?_)
        rw [show ez_I h2 (43 + 1) = ez_I h 44 from (show ez_I h2 44 = ez_I h 44 from zW_fn F 44 (by omega) (fun k c => by omega)), show ez_I h2 (43 + 2) = ez_I h 45 from (show ez_I h2 45 = ez_I h 45 from zW_fn F 45 (by omega) (fun k c => by omega))] at k9
        have S11 := zW_sh F8 S2
        have F12 := zW_tr F (zW_mono F8 (fun q k hk => by first | omega | exact False.elim hk) (fun q hk => by first | omega | exact False.elim hk) (fun q hk => by first | omega | exact False.elim hk))
        have r13 := z_rng (ez_I h7 68 1)
        have r14 := z_rng (ez_I h7 68 2)
        have r15 := z_rng (ez_I h7 50 1)
        refine gw_ld rfl rfl ?_
        refine gw_ld rfl rfl ?_
        refine z_gR (q := 64) (zT S11 (by decide) rfl) (zRf S11 (by decide) (by decide) rfl) (by decide) ?_
        refine gw_ld rfl rfl ?_
        refine z_iaV (n := 316) (zT S11 (by decide) rfl) (zN S11 (by decide) rfl) (by omega) (zW_f F12 (by decide) (by omega)) ?_
        generalize ex16 : ez_I h 64 i.toInt.toNat = x16
        have rx16 := z_rng x16
        rw [ex16] at te2
        refine gw_ld rfl rfl ?_
        refine z_gR (q := 63) (zT S11 (by decide) rfl) (zRf S11 (by decide) (by decide) rfl) (by decide) ?_
        refine gw_ld rfl rfl ?_
        refine z_iaV (n := 316) (zT S11 (by decide) rfl) (zN S11 (by decide) rfl) (by omega) ((zW_f F12 (by decide) (by omega)).trans ex6) ?_
        refine z_cl rfl rfl rfl rfl rfl rfl rfl rfl rfl rfl rfl (trivial) ?_
        refine c_xbo S11 (y := x6) hE (by omega) (fun x18 k19 => ?_)
        have rx18 := z_rng x18
        refine z_cl rfl rfl rfl rfl rfl rfl rfl rfl rfl rfl rfl (zT S11 (by decide) rfl) ?_
        have hxn : x18.toInt.toNat = rEf (tS f M i.toInt.toNat) := by rw [← hsy]; omega
        have hq24 : ((wr (sS (nL (ez_I h 45)) (nL (ez_I h 44)) f M (oS (nL (ez_I h 44)) (hdS (ez_I h 61 1).toInt.toNat (ez_I h 61 2).toInt.toNat (ez_I h 61 7).toInt.toNat s) (ez_I h 61 7).toInt.toNat) i.toInt.toNat) (nL (ez_I h 45) x6.toInt.toNat) (nL (ez_I h 44) x6.toInt.toNat))).2 = ((sS (nL (ez_I h 45)) (nL (ez_I h 44)) f M (oS (nL (ez_I h 44)) (hdS (ez_I h 61 1).toInt.toNat (ez_I h 61 2).toInt.toNat (ez_I h 61 7).toInt.toNat s) (ez_I h 61 7).toInt.toNat) i.toInt.toNat)).2 + nL (ez_I h 44) x6.toInt.toNat := rfl
        refine c_put (s := (wr (sS (nL (ez_I h 45)) (nL (ez_I h 44)) f M (oS (nL (ez_I h 44)) (hdS (ez_I h 61 1).toInt.toNat (ez_I h 61 2).toInt.toNat (ez_I h 61 7).toInt.toNat s) (ez_I h 61 7).toInt.toNat) i.toInt.toNat) (nL (ez_I h 45) x6.toInt.toNat) (nL (ez_I h 44) x6.toInt.toNat))) (v := x16) (n := x18) S11 k9 (by omega) (by rw [hxn, n_pow]; omega) (by omega) (by omega) (fun h20 F21 k22 k23 => ?_)
        have S25 := zW_sh F21 S11
        have F26 := zW_tr F12 (zW_mono F21 (fun q k hk => by first | omega | exact False.elim hk) (fun q hk => by first | omega | exact False.elim hk) (fun q hk => by first | omega | exact False.elim hk))
        have r27 := z_rng (ez_I h20 68 1)
        have r28 := z_rng (ez_I h20 68 2)
        have r29 := z_rng (ez_I h20 50 1)
        refine z_inc rfl (by rw [show (1 : Int32).toInt = 1 from rfl]; omega) (fun x30 ex30 => ?_)
        rw [show (1 : Int32).toInt = 1 from rfl] at ex30
        show ez_gw _ _ _ _ _ _ _ _ [some (.ref 61), some (.ref 43), some (.ref 68), some (.int x30)] _ _ _
        refine z_go ?_
        exact ih h20 x30 F26 (by omega) ((by rw [show x30.toInt.toNat = i.toInt.toNat + 1 by omega]; have b1 := k22; rw [hsy, show x16.toInt.toNat = tX f M i.toInt.toNat by omega, hxn] at b1; exact b1)) (by omega)
set_option maxRecDepth 4000 in
set_option maxHeartbeats 2000000 in
theorem c_hwrite_L0 {E : Nat → Nat × (Nat → Int32)} {d : Nat} {Q : ez_Q} {h : ez_H}  (S : zSh h) {s : Nat × Nat} {f : Nat → Nat} {M c : Nat} (hE : zE E) (hs : stC (ez_I h 51) (ez_I h 50 1).toInt (ez_I h 68 1).toInt (ez_I h 68 2).toInt s) (h7 : (ez_I h 68 2).toInt ≤ 7) (hn : 257 ≤ (ez_I h 61 1).toInt ∧ (ez_I h 61 1).toInt ≤ 286 ∧ 1 ≤ (ez_I h 61 2).toInt ∧ (ez_I h 61 2).toInt ≤ 30 ∧ 4 ≤ (ez_I h 61 7).toInt ∧ (ez_I h 61 7).toInt ≤ 19) (hc : (ez_I h 61 5).toInt = c ∧ c ≤ 316) (hte : teI (ez_I h 63) (ez_I h 64) f M c) (ht : ∀ i, i < c → tS f M i ≤ 18 ∧ tX f M i < 2 ^ rEf (tS f M i)) (hL : aR (ez_I h 44) 288 0 15) (hA : aR (ez_I h 44) 19 0 7) (hW : ∀ k, k < 288 → 1 ≤ nL (ez_I h 44) k → 0 ≤ (ez_I h 45 k).toInt ∧ (ez_I h 45 k).toInt < 2 ^ (ez_I h 44 k).toInt.toNat) (hu : ∀ i, i < c → 1 ≤ (nL (ez_I h 44)) (tS f M i)) (hr : (sS (nL (ez_I h 45)) (nL (ez_I h 44)) f M (oS (nL (ez_I h 44)) (hdS (ez_I h 61 1).toInt.toNat (ez_I h 61 2).toInt.toNat (ez_I h 61 7).toInt.toNat s) (ez_I h 61 7).toInt.toNat) c).2 ≤ 48800) (K : ∀ h2, zW (fun q k => q = 68 ∧ k = 1 ∨ q = 68 ∧ k = 2 ∨ q = 50 ∧ k = 1) (fun q => q = 51) (fun _ => False) h h2 → stC (ez_I h2 51) (ez_I h2 50 1).toInt (ez_I h2 68 1).toInt (ez_I h2 68 2).toInt (sS (nL (ez_I h 45)) (nL (ez_I h 44)) f M (oS (nL (ez_I h 44)) (hdS (ez_I h 61 1).toInt.toNat (ez_I h 61 2).toInt.toNat (ez_I h 61 7).toInt.toNat s) (ez_I h 61 7).toInt.toNat) c) → (ez_I h2 68 2).toInt ≤ 7 → Q (.inl none) h2) : ∀ N : Nat, (∀ (h2 : ez_H) (i : Int32) , zW (fun q k => q = 68 ∧ k = 1 ∨ q = 68 ∧ k = 2 ∨ q = 50 ∧ k = 1) (fun q => q = 51) (fun _ => False) h h2 → (0 ≤ i.toInt ∧ i.toInt ≤ (ez_I h 61 7).toInt ∧ (ez_I h2 68 2).toInt ≤ 7) → stC (ez_I h2 51) (ez_I h2 50 1).toInt (ez_I h2 68 1).toInt (ez_I h2 68 2).toInt (oS (nL (ez_I h 44)) (hdS (ez_I h 61 1).toInt.toNat (ez_I h 61 2).toInt.toNat (ez_I h 61 7).toInt.toNat s) i.toInt.toNat) → (100 - i.toInt) < (N : Int) → pw E (d + 3) 90 37 [some (.ref 61), some (.ref 43), some (.ref 68), some (.int i)] [] h2 Q) := by
  intro N
  induction N with
  | zero => exact fun h2 i  F hinv A_st hm => absurd hm (by have w_i := z_rng i; have hof := oS_2 (nL (ez_I h 44)) (hdS (ez_I h 61 1).toInt.toNat (ez_I h 61 2).toInt.toNat (ez_I h 61 7).toInt.toNat s) (ez_I h 61 7).toInt.toNat; have hhd : (hdS (ez_I h 61 1).toInt.toNat (ez_I h 61 2).toInt.toNat (ez_I h 61 7).toInt.toNat s).2 = s.2 + 5 + 5 + 4 := rfl; have hfs := sS_2 (nL (ez_I h 45)) (nL (ez_I h 44)) f M (oS (nL (ez_I h 44)) (hdS (ez_I h 61 1).toInt.toNat (ez_I h 61 2).toInt.toNat (ez_I h 61 7).toInt.toNat s) (ez_I h 61 7).toInt.toNat) c; omega)
  | succ N ih =>
    refine fun h2 i  F hinv A_st hm => ?_
    · skip
      have w_i := z_rng i
      have hof := oS_2 (nL (ez_I h 44)) (hdS (ez_I h 61 1).toInt.toNat (ez_I h 61 2).toInt.toNat (ez_I h 61 7).toInt.toNat s) (ez_I h 61 7).toInt.toNat
      have hhd : (hdS (ez_I h 61 1).toInt.toNat (ez_I h 61 2).toInt.toNat (ez_I h 61 7).toInt.toNat s).2 = s.2 + 5 + 5 + 4 := rfl
      have hfs := sS_2 (nL (ez_I h 45)) (nL (ez_I h 44)) f M (oS (nL (ez_I h 44)) (hdS (ez_I h 61 1).toInt.toNat (ez_I h 61 2).toInt.toNat (ez_I h 61 7).toInt.toNat s) (ez_I h 61 7).toInt.toNat) c
      have S2 := zW_sh F S
      have ho2 := oS_2 (nL (ez_I h 44)) (hdS (ez_I h 61 1).toInt.toNat (ez_I h 61 2).toInt.toNat (ez_I h 61 7).toInt.toNat s) i.toInt.toNat
      apply ez_Wp_in
      show ez_gw _ _ _ _ _ _ (cz_90) _ _ _ _ _
      refine gw_skip _ ?_
      have r1 := z_rng (ez_I h2 68 1)
      have r2 := z_rng (ez_I h2 68 2)
      have r3 := z_rng (ez_I h2 50 1)
      refine gw_ld rfl rfl ?_
      refine gw_ld rfl rfl ?_
      have r4 := z_rng (ez_I h 61 7)
      refine z_gI2 (by decide) (zT S2 (by decide) rfl) (zW_f F (by decide) (by decide)) ?_
      refine z_b2 (fun c5 => ?_) (fun c5 => ?_)
      · have c5 : ((ez_I h 61 7)).toInt ≤ i.toInt := c5
        refine gw_skip _ ?_
        refine z_C (m := 0) rfl rfl (fun x6 ex6 => ?_)
        refine gw_st rfl rfl rfl ?_
        show ez_gw _ _ _ _ _ _ _ _ [some (.ref 61), some (.ref 43), some (.ref 68), some (.int x6)] _ _ _
        exact ez_Wp_at ((c_hwrite_L1  S hE hs h7 hn hc hte ht hL hA hW hu hr K (((1000 - x6.toInt)).toNat + 1)) h2 x6 F (by omega) ((by rw [show x6.toInt.toNat = 0 by omega]; have b1 := A_st; rw [show i.toInt.toNat = (ez_I h 61 7).toInt.toNat by omega] at b1; exact b1)) (by omega)) rfl
      · have c5 : ¬ (((ez_I h 61 7)).toInt ≤ i.toInt) := c5
        refine gw_ld rfl rfl ?_
        refine z_C (m := 19) rfl rfl (fun x7 ex7 => ?_)
        refine z_b2 (fun c8 => ?_) (fun c8 => ?_)
        · have c8 : x7.toInt ≤ i.toInt := c8
          refine gw_skip _ ?_
          refine z_C (m := 0) rfl rfl (fun x9 ex9 => ?_)
          refine gw_st rfl rfl rfl ?_
          show ez_gw _ _ _ _ _ _ _ _ [some (.ref 61), some (.ref 43), some (.ref 68), some (.int x9)] _ _ _
          exact ez_Wp_at ((c_hwrite_L1  S hE hs h7 hn hc hte ht hL hA hW hu hr K (((1000 - x9.toInt)).toNat + 1)) h2 x9 F (by omega) ((by rw [show x9.toInt.toNat = 0 by omega]; have b1 := A_st; rw [show i.toInt.toNat = (ez_I h 61 7).toInt.toNat by omega] at b1; exact b1)) (by omega)) rfl
        · have c8 : ¬ (x7.toInt ≤ i.toInt) := c8
          refine gw_ld rfl rfl ?_
          refine gw_ld rfl rfl ?_
          refine z_gR (q := 44) (zT S2 (by decide) rfl) (zRf S2 (by decide) (by decide) rfl) (by decide) ?_
          refine z_gs ?_
          refine gw_ld rfl rfl ?_
          refine z_iaE (n := 19) (hE 7) (by omega) ?_
          generalize ex10 : (tz_ar (7 + 1)).getD i.toInt.toNat 0 = x10
          have rx10 := z_rng x10
          have ox10 := tz_OR (n := i.toInt.toNat) (by omega)
          rw [ex10] at ox10
          have uo := OR_lt i.toInt.toNat
          refine z_iaV (n := 288) (zT S2 (by decide) rfl) (zN S2 (by decide) rfl) (by omega) (zW_f F (by decide) (by omega)) ?_
          generalize ex11 : ez_I h 44 x10.toInt.toNat = x11
          have rx11 := z_rng x11
          have yx11 := hA x10.toInt.toNat (by omega)
          rw [ex11] at yx11
          have hla : (nL (ez_I h 44)) (ORf i.toInt.toNat) = x11.toInt.toNat := by show (ez_I h 44 (ORf i.toInt.toNat)).toInt.toNat = _; rw [show ORf i.toInt.toNat = x10.toInt.toNat by omega, ex11]
          refine z_C (m := 3) rfl rfl (fun x12 ex12 => ?_)
          refine z_cl rfl rfl rfl rfl rfl rfl rfl rfl rfl rfl rfl (zT S2 (by decide) rfl) ?_
          have hpw : (2 : Int) ^ x12.toInt.toNat = 8 := by rw [show x12.toInt.toNat = 3 by omega]; rfl
          refine c_put (s := (oS (nL (ez_I h 44)) (hdS (ez_I h 61 1).toInt.toNat (ez_I h 61 2).toInt.toNat (ez_I h 61 7).toInt.toNat s) i.toInt.toNat)) (v := x11) (n := x12) S2 A_st (by omega) (by omega) (by omega) (by omega) (fun h13 F14 k15 k16 => ?_)
          rw [show x11.toInt.toNat = ((nL (ez_I h 44)) (ORf i.toInt.toNat)) by omega, show x12.toInt.toNat = 3 by omega] at k15
          clear hpw
          have S17 := zW_sh F14 S2
          have F18 := zW_tr F (zW_mono F14 (fun q k hk => by first | omega | exact False.elim hk) (fun q hk => by first | omega | exact False.elim hk) (fun q hk => by first | omega | exact False.elim hk))
          have r19 := z_rng (ez_I h13 68 1)
          have r20 := z_rng (ez_I h13 68 2)
          have r21 := z_rng (ez_I h13 50 1)
          refine z_inc rfl (by rw [show (1 : Int32).toInt = 1 from rfl]; omega) (fun x22 ex22 => ?_)
          rw [show (1 : Int32).toInt = 1 from rfl] at ex22
          show ez_gw _ _ _ _ _ _ _ _ [some (.ref 61), some (.ref 43), some (.ref 68), some (.int x22)] _ _ _
          refine z_go ?_
          exact ih h13 x22 F18 (by omega) ((by rw [show x22.toInt.toNat = i.toInt.toNat + 1 by omega]; exact k15)) (by omega)
set_option maxRecDepth 4000 in
set_option maxHeartbeats 2000000 in
theorem c_hwrite {E : Nat → Nat × (Nat → Int32)} {d : Nat} {Q : ez_Q} {h : ez_H}  (S : zSh h) {s : Nat × Nat} {f : Nat → Nat} {M c : Nat} (hE : zE E) (hs : stC (ez_I h 51) (ez_I h 50 1).toInt (ez_I h 68 1).toInt (ez_I h 68 2).toInt s) (h7 : (ez_I h 68 2).toInt ≤ 7) (hn : 257 ≤ (ez_I h 61 1).toInt ∧ (ez_I h 61 1).toInt ≤ 286 ∧ 1 ≤ (ez_I h 61 2).toInt ∧ (ez_I h 61 2).toInt ≤ 30 ∧ 4 ≤ (ez_I h 61 7).toInt ∧ (ez_I h 61 7).toInt ≤ 19) (hc : (ez_I h 61 5).toInt = c ∧ c ≤ 316) (hte : teI (ez_I h 63) (ez_I h 64) f M c) (ht : ∀ i, i < c → tS f M i ≤ 18 ∧ tX f M i < 2 ^ rEf (tS f M i)) (hL : aR (ez_I h 44) 288 0 15) (hA : aR (ez_I h 44) 19 0 7) (hW : ∀ k, k < 288 → 1 ≤ nL (ez_I h 44) k → 0 ≤ (ez_I h 45 k).toInt ∧ (ez_I h 45 k).toInt < 2 ^ (ez_I h 44 k).toInt.toNat) (hu : ∀ i, i < c → 1 ≤ (nL (ez_I h 44)) (tS f M i)) (hr : (sS (nL (ez_I h 45)) (nL (ez_I h 44)) f M (oS (nL (ez_I h 44)) (hdS (ez_I h 61 1).toInt.toNat (ez_I h 61 2).toInt.toNat (ez_I h 61 7).toInt.toNat s) (ez_I h 61 7).toInt.toNat) c).2 ≤ 48800) (K : ∀ h2, zW (fun q k => q = 68 ∧ k = 1 ∨ q = 68 ∧ k = 2 ∨ q = 50 ∧ k = 1) (fun q => q = 51) (fun _ => False) h h2 → stC (ez_I h2 51) (ez_I h2 50 1).toInt (ez_I h2 68 1).toInt (ez_I h2 68 2).toInt (sS (nL (ez_I h 45)) (nL (ez_I h 44)) f M (oS (nL (ez_I h 44)) (hdS (ez_I h 61 1).toInt.toNat (ez_I h 61 2).toInt.toNat (ez_I h 61 7).toInt.toNat s) (ez_I h 61 7).toInt.toNat) c) → (ez_I h2 68 2).toInt ≤ 7 → Q (.inl none) h2) : pw E (d + 3) 90 0 [some (.ref 61), some (.ref 43), some (.ref 68), none] [] h Q := by
  have hof := oS_2 (nL (ez_I h 44)) (hdS (ez_I h 61 1).toInt.toNat (ez_I h 61 2).toInt.toNat (ez_I h 61 7).toInt.toNat s) (ez_I h 61 7).toInt.toNat
  have hhd : (hdS (ez_I h 61 1).toInt.toNat (ez_I h 61 2).toInt.toNat (ez_I h 61 7).toInt.toNat s).2 = s.2 + 5 + 5 + 4 := rfl
  have hfs := sS_2 (nL (ez_I h 45)) (nL (ez_I h 44)) f M (oS (nL (ez_I h 44)) (hdS (ez_I h 61 1).toInt.toNat (ez_I h 61 2).toInt.toNat (ez_I h 61 7).toInt.toNat s) (ez_I h 61 7).toInt.toNat) c
  have F := zW_refl (fun q k => q = 68 ∧ k = 1 ∨ q = 68 ∧ k = 2 ∨ q = 50 ∧ k = 1) (fun q => q = 51) (fun _ => False) h
  apply ez_Wp_in
  show ez_gw _ _ _ _ _ _ (cz_90) _ _ _ _ _
  refine gw_skip _ ?_
  have r1 := z_rng (ez_I h 68 1)
  have r2 := z_rng (ez_I h 68 2)
  have r3 := z_rng (ez_I h 50 1)
  refine gw_ld rfl rfl ?_
  refine gw_ld rfl rfl ?_
  have r4 := z_rng (ez_I h 61 1)
  refine z_gI2 (by decide) (zT S (by decide) rfl) (zW_f F (by decide) (by decide)) ?_
  refine z_C (m := 257) rfl rfl (fun x5 ex5 => ?_)
  refine z_sub (by omega) (fun x6 ex6 => ?_)
  refine z_C (m := 5) rfl rfl (fun x7 ex7 => ?_)
  refine z_cl rfl rfl rfl rfl rfl rfl rfl rfl rfl rfl rfl (zT S (by decide) rfl) ?_
  have hq12 : (s).2 = s.2 := rfl
  have hpw : (2 : Int) ^ x7.toInt.toNat = 32 := by rw [show x7.toInt.toNat = 5 by omega]; rfl
  refine c_put (s := s) (v := x6) (n := x7) S hs (by omega) (by omega) (by omega) (by omega) (fun h8 F9 k10 k11 => ?_)
  rw [show x6.toInt.toNat = ((ez_I h 61 1).toInt.toNat - 257) by omega, show x7.toInt.toNat = 5 by omega] at k10
  clear hpw
  have S13 := zW_sh F9 S
  have F14 := zW_tr F (zW_mono F9 (fun q k hk => by first | omega | exact False.elim hk) (fun q hk => by first | omega | exact False.elim hk) (fun q hk => by first | omega | exact False.elim hk))
  have r15 := z_rng (ez_I h8 68 1)
  have r16 := z_rng (ez_I h8 68 2)
  have r17 := z_rng (ez_I h8 50 1)
  refine gw_ld rfl rfl ?_
  refine gw_ld rfl rfl ?_
  have r18 := z_rng (ez_I h 61 2)
  refine z_gI2 (by decide) (zT S13 (by decide) rfl) (zW_f F14 (by decide) (by decide)) ?_
  refine z_C (m := 1) rfl rfl (fun x19 ex19 => ?_)
  refine z_sub (by omega) (fun x20 ex20 => ?_)
  refine z_C (m := 5) rfl rfl (fun x21 ex21 => ?_)
  refine z_cl rfl rfl rfl rfl rfl rfl rfl rfl rfl rfl rfl (zT S13 (by decide) rfl) ?_
  have hq26 : ((wr s ((ez_I h 61 1).toInt.toNat - 257) 5)).2 = s.2 + 5 := rfl
  have hpw : (2 : Int) ^ x21.toInt.toNat = 32 := by rw [show x21.toInt.toNat = 5 by omega]; rfl
  refine c_put (s := (wr s ((ez_I h 61 1).toInt.toNat - 257) 5)) (v := x20) (n := x21) S13 k10 (by omega) (by omega) (by omega) (by omega) (fun h22 F23 k24 k25 => ?_)
  rw [show x20.toInt.toNat = ((ez_I h 61 2).toInt.toNat - 1) by omega, show x21.toInt.toNat = 5 by omega] at k24
  clear hpw
  have S27 := zW_sh F23 S13
  have F28 := zW_tr F14 (zW_mono F23 (fun q k hk => by first | omega | exact False.elim hk) (fun q hk => by first | omega | exact False.elim hk) (fun q hk => by first | omega | exact False.elim hk))
  have r29 := z_rng (ez_I h22 68 1)
  have r30 := z_rng (ez_I h22 68 2)
  have r31 := z_rng (ez_I h22 50 1)
  refine gw_ld rfl rfl ?_
  refine gw_ld rfl rfl ?_
  have r32 := z_rng (ez_I h 61 7)
  refine z_gI2 (by decide) (zT S27 (by decide) rfl) (zW_f F28 (by decide) (by decide)) ?_
  refine z_C (m := 4) rfl rfl (fun x33 ex33 => ?_)
  refine z_sub (by omega) (fun x34 ex34 => ?_)
  refine z_C (m := 4) rfl rfl (fun x35 ex35 => ?_)
  refine z_cl rfl rfl rfl rfl rfl rfl rfl rfl rfl rfl rfl (zT S27 (by decide) rfl) ?_
  have hq40 : ((wr (wr s ((ez_I h 61 1).toInt.toNat - 257) 5) ((ez_I h 61 2).toInt.toNat - 1) 5)).2 = s.2 + 5 + 5 := rfl
  have hpw : (2 : Int) ^ x35.toInt.toNat = 16 := by rw [show x35.toInt.toNat = 4 by omega]; rfl
  refine c_put (s := (wr (wr s ((ez_I h 61 1).toInt.toNat - 257) 5) ((ez_I h 61 2).toInt.toNat - 1) 5)) (v := x34) (n := x35) S27 k24 (by omega) (by omega) (by omega) (by omega) (fun h36 F37 k38 k39 => ?_)
  rw [show x34.toInt.toNat = ((ez_I h 61 7).toInt.toNat - 4) by omega, show x35.toInt.toNat = 4 by omega] at k38
  clear hpw
  have S41 := zW_sh F37 S27
  have F42 := zW_tr F28 (zW_mono F37 (fun q k hk => by first | omega | exact False.elim hk) (fun q hk => by first | omega | exact False.elim hk) (fun q hk => by first | omega | exact False.elim hk))
  have r43 := z_rng (ez_I h36 68 1)
  have r44 := z_rng (ez_I h36 68 2)
  have r45 := z_rng (ez_I h36 50 1)
  refine z_C (m := 0) rfl rfl (fun x46 ex46 => ?_)
  refine gw_st rfl rfl rfl ?_
  show ez_gw _ _ _ _ _ _ _ _ [some (.ref 61), some (.ref 43), some (.ref 68), some (.int x46)] _ _ _
  exact ez_Wp_at ((c_hwrite_L0  S hE hs h7 hn hc hte ht hL hA hW hu hr K (((100 - x46.toInt)).toNat + 1)) h36 x46 F42 (by omega) ((by rw [show x46.toInt.toNat = 0 by omega]; exact k38)) (by omega)) rfl

end
