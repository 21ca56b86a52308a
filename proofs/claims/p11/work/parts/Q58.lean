/-! PRINTED by wip/pack: the model writes a block: counts -/
theorem x71_328 : ¬ (72 = 97 ∨ 72 = 98) := by omega
theorem x71_329 : ¬ (77 = 97 ∨ 77 = 98) := by omega
theorem x71_330 : ¬ (78 = 97 ∨ 78 = 98) := by omega
theorem x71_331 : ¬ (79 = 97 ∨ 79 = 98) := by omega
theorem x71_332 : ¬ (80 = 97 ∨ 80 = 98) := by omega
theorem x71_333 : ¬ (92 = 97 ∨ 92 = 98) := by omega
theorem x71_334 : ¬ (93 = 97 ∨ 93 = 98) := by omega
theorem x71_335 : ¬ (94 = 97 ∨ 94 = 98) := by omega
theorem x71_336 : ¬ (95 = 97 ∨ 95 = 98) := by omega
theorem x71_337 : ¬ (96 = 97 ∨ 96 = 98) := by omega
theorem x71_338 : ¬ (75 = 97 ∨ 75 = 98) := by omega
theorem x71_339 : ¬ (71 = 97 ∨ 71 = 98) := by omega
theorem x71_340 : ∀ q k : Nat, (False) → (q = 71 ∧ k = 15 ∨ q = 71 ∧ k = 16 ∨ q = 71 ∧ k = 56 ∨ q = 71 ∧ k = 57 ∨ q = 71 ∧ k = 58) := fun q k hk => hk.elim
theorem x71_341 : ∀ q : Nat, (q = 97 ∨ q = 98) → (q = 75 ∨ 83 ≤ q ∧ q ≤ 91 ∨ 97 ≤ q ∧ q ≤ 119) := fun q hk => hk.elim (fun g => (.inr (.inr (show 97 ≤ q ∧ q ≤ 119 by omega)))) (fun hk => (.inr (.inr (show 97 ≤ q ∧ q ≤ 119 by omega))))
theorem x71_342 : ∀ q : Nat, (False) → (False) := fun q hk => hk.elim
theorem x71_343 : ∀ q k : Nat, (q = 71 ∧ k = 15 ∨ q = 71 ∧ k = 16 ∨ q = 71 ∧ k = 56 ∨ q = 71 ∧ k = 57 ∨ q = 71 ∧ k = 58) → (q = 71 ∧ k = 15 ∨ q = 71 ∧ k = 16 ∨ q = 71 ∧ k = 56 ∨ q = 71 ∧ k = 57 ∨ q = 71 ∧ k = 58) := fun q k hk => hk.elim (fun g => (.inl g)) (fun hk => hk.elim (fun g => (.inr (.inl g))) (fun hk => hk.elim (fun g => (.inr (.inr (.inl g)))) (fun hk => hk.elim (fun g => (.inr (.inr (.inr (.inl g))))) (fun hk => (.inr (.inr (.inr (.inr hk))))))))
theorem x71_344 : ∀ q : Nat, (q = 75 ∨ 83 ≤ q ∧ q ≤ 91 ∨ 99 ≤ q ∧ q ≤ 119) → (q = 75 ∨ 83 ≤ q ∧ q ≤ 91 ∨ 97 ≤ q ∧ q ≤ 119) := fun q hk => hk.elim (fun g => (.inl g)) (fun hk => hk.elim (fun g => (.inr (.inl g))) (fun hk => (.inr (.inr (show 97 ≤ q ∧ q ≤ 119 by omega)))))
theorem x71_345 : ¬ (83 = 97 ∨ 83 = 98) := by omega
theorem x71_346 : ¬ (84 = 97 ∨ 84 = 98) := by omega
theorem x71_347 : ¬ (85 = 97 ∨ 85 = 98) := by omega
theorem x71_348 : ¬ (86 = 97 ∨ 86 = 98) := by omega
theorem x71_349 : ¬ (87 = 97 ∨ 87 = 98) := by omega
theorem x71_350 : ¬ (88 = 97 ∨ 88 = 98) := by omega
theorem x71_351 : ¬ (89 = 97 ∨ 89 = 98) := by omega
theorem x71_352 : ¬ (90 = 97 ∨ 90 = 98) := by omega
theorem x71_353 : ¬ (91 = 97 ∨ 91 = 98) := by omega
set_option maxRecDepth 4000 in
set_option maxHeartbeats 2000000 in
theorem d_wBlock_L2 {E : Nat → Nat × (Nat → Int32)} {d : Nat} {Q : ez_Q} {h : ez_H} {fr : Int32} {to : Int32} {pl : Int32} {my : Int32} {ls : Int32} (S : zSh h) {T : Nat → Int} {n c a J : Nat} {l bn : Nat} {s0 : Nat × Nat} (hC : mbC (ez_I h 72) (ez_I h 77) (ez_I h 78) (ez_I h 79) (ez_I h 80) (ez_I h 92) (ez_I h 93) (ez_I h 94) (ez_I h 95) (ez_I h 96) T n c) (hA : mbA fr to pl my T n c a J) (hls : ls.toInt = (l : Nat) ∧ l ≤ 1) (hs : mS (ez_I h 75) s0) (hb : (ez_I h 71 16).toInt = (s0.2 : Nat)) (hg : aR (ez_I h 75) 8000 (-128) 127) (hbn : (ez_I h 71 15).toInt = (bn : Nat) ∧ bn ≤ 9) (hr : s0.2 + 50 + 8 * (bkY T n a J) ≤ 48800) (K : ∀ h2, zW (fun q k => q = 71 ∧ k = 15 ∨ q = 71 ∧ k = 16 ∨ q = 71 ∧ k = 56 ∨ q = 71 ∧ k = 57 ∨ q = 71 ∧ k = 58) (fun q => q = 75 ∨ 83 ≤ q ∧ q ≤ 91 ∨ 97 ≤ q ∧ q ≤ 119) (fun _ => False) h h2 → (bkS T n a J l s0).2 ≤ s0.2 + 42 + 8 * (bkY T n a J) → mst (ez_I h2 75) (ez_I h2 71 16).toInt (bkS T n a J l s0) → aR (ez_I h2 75) 8000 (-128) 127 → (ez_I h2 71 15).toInt = (bn : Int) + 1 → mbk (ez_I h2 83) (ez_I h2 84) (ez_I h2 85) (ez_I h2 86) (ez_I h2 87) (ez_I h2 88) (ez_I h2 89) (ez_I h2 90) (ez_I h2 91) (ez_I h 83) (ez_I h 84) (ez_I h 85) (ez_I h 86) (ez_I h 87) (ez_I h 88) (ez_I h 89) (ez_I h 90) (ez_I h 91) T n a J s0.2 bn → Q (.inl none) h2) : ∀ N : Nat, (∀ (h2 : ez_H) (k : Int32) (l7 : Option Value) (l8 : Option Value) (l9 : Option Value) (l10 : Option Value) (l11 : Option Value) (l12 : Option Value) (l13 : Option Value) (l14 : Option Value) (l15 : Option Value) (l16 : Option Value) (j : Nat), zW (fun _ _ => False) (fun q => q = 97 ∨ q = 98) (fun _ => False) h h2 → (k.toInt = ((a + j : Nat) : Int) ∧ j ≤ J) → (ctJ (ez_I h2 97) (cL (aM T n) (dI T n) a j)) → (ctI (ez_I h2 98) (cD (dI T n) a j) 30) → (10000 - k.toInt) < (N : Int) → pw E (d + 2) 44 52 [some (.ref 71), some (.int fr), some (.int to), some (.int pl), some (.int my), some (.int ls), some (.int k), l7, l8, l9, l10, l11, l12, l13, l14, l15, l16] [] h2 Q) := by
  intro N
  induction N with
  | zero => exact fun h2 k l7 l8 l9 l10 l11 l12 l13 l14 l15 l16 j F hinv A_c7 A_c8 hm => absurd hm (by have aj5 := hA.2.2.1; have c6 := hC.2.1; have w_k := z_rng k; have gfr := z_rng fr; have gto := z_rng to; have gpl := z_rng pl; have gmy := z_rng my; have gls := z_rng ls; omega)
  | succ N ih =>
    refine fun h2 k l7 l8 l9 l10 l11 l12 l13 l14 l15 l16 j F hinv A_c7 A_c8 hm => ?_
    · skip
      have aj5 := hA.2.2.1
      have c6 := hC.2.1
      have w_k := z_rng k
      have gfr := z_rng fr
      have gto := z_rng to
      have gpl := z_rng pl
      have gmy := z_rng my
      have gls := z_rng ls
      have S2 := zW_sh F S
      obtain ⟨cn, cc, hT0, hB, hpm, hlt, hpe, t92, t93, t94, t95, t96⟩ := id hC
      obtain ⟨afr, ato, ajc, aj6, apl, amy, apn⟩ := id hA
      clear hB t93 t95 t96 amy apl apn
      have hcl9 : ∀ q, cL (aM T n) (dI T n) a j q ≤ 601 := fun q => by have := cL_le (aM T n) (dI T n) a j q; omega
      have hcd9 : ∀ q, cD (dI T n) a j q ≤ 601 := fun q => by have := cD_le (dI T n) a j q; omega
      apply ez_Wp_in
      show ez_gw _ _ _ _ _ _ (cz_44) _ _ _ _ _
      refine gw_skip _ ?_
      refine gw_ld rfl rfl ?_
      refine gw_ld rfl rfl ?_
      refine z_b2 (fun c1 => ?_) (fun c1 => ?_)
      · have c1 : to.toInt ≤ k.toInt := c1
        refine gw_skip _ ?_
        refine gw_ld rfl rfl ?_
        refine z_gR (q := 97) (zT S2 (by decide) rfl) (zRf S2 (by decide) (by decide) rfl) (by decide) ?_
        refine z_C (m := 256) rfl rfl (fun x2 ex2 => ?_)
        refine gw_op rfl ?_
        refine z_ia (n := 288) (zT S2 (by decide) rfl) (zN S2 (by decide) rfl) (by omega) ?_
        generalize ex3 : ez_I h2 97 x2.toInt.toNat = x3
        have rx3 := z_rng x3
        have yx3 := A_c7 256 (by decide)
        rw [if_pos rfl, show (256 : Nat) = x2.toInt.toNat by omega, ex3] at yx3
        have yc := hcl9 x2.toInt.toNat
        refine z_C (m := 1) rfl rfl (fun x4 ex4 => ?_)
        refine z_add (by omega) (fun x5 ex5 => ?_)
        refine z_is (n := 288) (zT S2 (by decide) rfl) (zN S2 (by decide) rfl) (by omega) (fun h6 e7 => ?_)
        have S8 := zSh_set S2 e7
        have F9 := zW_setA F e7 (by decide)
        have A10 : ctI (ez_I h6 97) (bkC T n a J) 286 := (by have b1 := ctJ_e A_c7 e7 (by omega) ex3 (by omega); rw [show j = J by omega] at b1; exact b1)
        have A11 : ctI (ez_I h6 98) (cD (dI T n) a j) 30 := by rw [zI_fn e7 98 (by decide)]; exact A_c8
        suffices tl : pw E (d + 2) 44 149 [some (.ref 71), some (.int fr), some (.int to), some (.int pl), some (.int my), some (.int ls), some (.int k), l7, l8, l9, l10, l11, l12, l13, l14, l15, l16] [] h6 Q from ez_Wp_at tl rfl
        refine w_B1 (T := T) (n := n) (c := c) (a := a) (J := J) (l := l) (bn := bn) (s0 := s0) (fr := fr) (to := to) (pl := pl) (my := my) (ls := ls) (l6 := some (.int k)) (l7 := l7) (l8 := l8) (l9 := l9) (l10 := l10) (l11 := l11) (l12 := l12) (l13 := l13) (l14 := l14) (l15 := l15) (l16 := l16) S8 (by rw [(show ez_I h6 72 = ez_I h 72 from zW_fn F9 72 x71_328 (fun _ c => c)), (show ez_I h6 77 = ez_I h 77 from zW_fn F9 77 x71_329 (fun _ c => c)), (show ez_I h6 78 = ez_I h 78 from zW_fn F9 78 x71_330 (fun _ c => c)), (show ez_I h6 79 = ez_I h 79 from zW_fn F9 79 x71_331 (fun _ c => c)), (show ez_I h6 80 = ez_I h 80 from zW_fn F9 80 x71_332 (fun _ c => c)), (show ez_I h6 92 = ez_I h 92 from zW_fn F9 92 x71_333 (fun _ c => c)), (show ez_I h6 93 = ez_I h 93 from zW_fn F9 93 x71_334 (fun _ c => c)), (show ez_I h6 94 = ez_I h 94 from zW_fn F9 94 x71_335 (fun _ c => c)), (show ez_I h6 95 = ez_I h 95 from zW_fn F9 95 x71_336 (fun _ c => c)), (show ez_I h6 96 = ez_I h 96 from zW_fn F9 96 x71_337 (fun _ c => c))]; exact hC) hA A10 (by have b1 := A11; rw [show j = J by omega] at b1; exact b1) hls (by rw [(show ez_I h6 75 = ez_I h 75 from zW_fn F9 75 x71_338 (fun _ c => c))]; exact hs) (by rw [(show ez_I h6 71 16 = ez_I h 71 16 from zW_f F9 x71_339 (fun c => c))]; exact hb) (by rw [(show ez_I h6 75 = ez_I h 75 from zW_fn F9 75 x71_338 (fun _ c => c))]; exact hg) (by rw [(show ez_I h6 71 15 = ez_I h 71 15 from zW_f F9 x71_339 (fun c => c))]; exact hbn) hr (fun h12 F13 k14 k15 k16 k17 k18 => ?_)
        have F19 := zW_tr (zW_mono F9 x71_340 x71_341 x71_342) (zW_mono F13 x71_343 x71_344 x71_342)
        exact K _ F19 k14 k15 k16 k17 (by have b1 := k18; rw [(show ez_I h6 83 = ez_I h 83 from zW_fn F9 83 x71_345 (fun _ c => c)), (show ez_I h6 84 = ez_I h 84 from zW_fn F9 84 x71_346 (fun _ c => c)), (show ez_I h6 85 = ez_I h 85 from zW_fn F9 85 x71_347 (fun _ c => c)), (show ez_I h6 86 = ez_I h 86 from zW_fn F9 86 x71_348 (fun _ c => c)), (show ez_I h6 87 = ez_I h 87 from zW_fn F9 87 x71_349 (fun _ c => c)), (show ez_I h6 88 = ez_I h 88 from zW_fn F9 88 x71_350 (fun _ c => c)), (show ez_I h6 89 = ez_I h 89 from zW_fn F9 89 x71_351 (fun _ c => c)), (show ez_I h6 90 = ez_I h 90 from zW_fn F9 90 x71_352 (fun _ c => c)), (show ez_I h6 91 = ez_I h 91 from zW_fn F9 91 x71_353 (fun _ c => c))] at b1; exact b1)
      · have c1 : ¬ (to.toInt ≤ k.toInt) := c1
        refine gw_ld rfl rfl ?_
        refine z_gR (q := 78) (zT S2 (by decide) rfl) (zRf S2 (by decide) (by decide) rfl) (by decide) ?_
        refine gw_ld rfl rfl ?_
        refine z_iaV (n := 6000) (zT S2 (by decide) rfl) (zN S2 (by decide) rfl) (by omega) (zW_f F (by decide) (fun c => c)) ?_
        generalize ex20 : ez_I h 78 k.toInt.toNat = x20
        have rx20 := z_rng x20
        have yx20 := (hpm (a + j) (by omega)).2.1
        rw [show a + j = k.toInt.toNat by omega, ex20] at yx20
        rw [show k.toInt.toNat = a + j by omega] at yx20
        refine z_b1 (fun c21 => ?_) (fun c21 => ?_)
        · have c21 : x20.toInt ≠ 0 := c21
          refine gw_skip _ ?_
          have hd1 : 1 ≤ (dI T n (a + j)) := by omega
          have hp1 := wp_1 hT0 hlt (show a + j < c by omega) hd1
          refine gw_ld rfl rfl ?_
          refine z_gR (q := 97) (zT S2 (by decide) rfl) (zRf S2 (by decide) (by decide) rfl) (by decide) ?_
          refine z_C (m := 257) rfl rfl (fun x22 ex22 => ?_)
          refine gw_ld rfl rfl ?_
          refine gw_ld rfl rfl ?_
          refine z_gR (q := 77) (zT S2 (by decide) rfl) (zRf S2 (by decide) (by decide) rfl) (by decide) ?_
          refine gw_ld rfl rfl ?_
          refine z_iaV (n := 6000) (zT S2 (by decide) rfl) (zN S2 (by decide) rfl) (by omega) (zW_f F (by decide) (fun c => c)) ?_
          generalize ex23 : ez_I h 77 k.toInt.toNat = x23
          have rx23 := z_rng x23
          have yx23 := (hpm (a + j) (by omega)).1
          rw [show a + j = k.toInt.toNat by omega, ex23] at yx23
          rw [show k.toInt.toNat = a + j by omega] at yx23
          refine z_cl rfl rfl rfl rfl rfl rfl rfl rfl rfl rfl rfl (zT S2 (by decide) rfl) ?_
          have ham : x23.toInt.toNat = (aM T n (a + j)) := by omega
          refine d_kL (n := x23) S2 (by rw [(show ez_I h2 92 = ez_I h 92 from zW_fn F 92 x71_333 (fun _ c => c))]; exact t92) (by omega) (fun x24 k25 => ?_)
          rw [ham] at k25
          have rx24 := z_rng x24
          have hkl := (kL_ok (v := (aM T n (a + j))) (by omega)).1
          refine z_add (by omega) (fun x26 ex26 => ?_)
          refine gw_op rfl ?_
          refine z_ia (n := 288) (zT S2 (by decide) rfl) (zN S2 (by decide) rfl) (by omega) ?_
          generalize ex27 : ez_I h2 97 x26.toInt.toNat = x27
          have rx27 := z_rng x27
          have yx27 := A_c7 x26.toInt.toNat (by omega)
          rw [ex27] at yx27
          have ycx27 := hcl9 x26.toInt.toNat
          refine z_C (m := 1) rfl rfl (fun x28 ex28 => ?_)
          refine z_add (by omega) (fun x29 ex29 => ?_)
          refine z_is (n := 288) (zT S2 (by decide) rfl) (zN S2 (by decide) rfl) (by omega) (fun h30 e31 => ?_)
          have S32 := zSh_set S2 e31
          have F33 := zW_setA F e31 (by decide)
          have A34 : ctJ (ez_I h30 97) (cL (aM T n) (dI T n) a (j + 1)) := ctJ_y (x0 := (lSy (aM T n) (dI T n) (a + j))) A_c7 e31 (by rw [lSy_1 hd1]; omega) ex27 (by omega) (cLm_y _ _ _ _) (fun q hq => cLm_n hq)
          have A35 : ctI (ez_I h30 98) (cD (dI T n) a j) 30 := by rw [zI_fn e31 98 (by decide)]; exact A_c8
          refine gw_ld rfl rfl ?_
          refine z_gR (q := 98) (zT S32 (by decide) rfl) (zRf S32 (by decide) (by decide) rfl) (by decide) ?_
          refine gw_ld rfl rfl ?_
          refine gw_ld rfl rfl ?_
          refine z_gR (q := 78) (zT S32 (by decide) rfl) (zRf S32 (by decide) (by decide) rfl) (by decide) ?_
          refine gw_ld rfl rfl ?_
          refine z_iaV (n := 6000) (zT S32 (by decide) rfl) (zN S32 (by decide) rfl) (by omega) ((zW_f F33 (by decide) (fun c => c)).trans ex20) ?_
          refine z_cl rfl rfl rfl rfl rfl rfl rfl rfl rfl rfl rfl (zT S32 (by decide) rfl) ?_
          have hdi : x20.toInt.toNat = (dI T n (a + j)) := by omega
          refine d_kD (n := x20) S32 (by rw [(show ez_I h30 94 = ez_I h 94 from zW_fn F33 94 x71_335 (fun _ c => c))]; exact t94) (by omega) (fun x37 k38 => ?_)
          rw [hdi] at k38
          have rx37 := z_rng x37
          have hkd := (kD_ok (v := (dI T n (a + j))) (by omega)).1
          refine gw_op rfl ?_
          refine z_ia (n := 30) (zT S32 (by decide) rfl) (zN S32 (by decide) rfl) (by omega) ?_
          generalize ex39 : ez_I h30 98 x37.toInt.toNat = x39
          have rx39 := z_rng x39
          have yx39 := A35 x37.toInt.toNat (by omega)
          rw [ex39] at yx39
          have ycx39 := hcd9 x37.toInt.toNat
          refine z_C (m := 1) rfl rfl (fun x40 ex40 => ?_)
          refine z_add (by omega) (fun x41 ex41 => ?_)
          refine z_is (n := 30) (zT S32 (by decide) rfl) (zN S32 (by decide) rfl) (by omega) (fun h42 e43 => ?_)
          have S44 := zSh_set S32 e43
          have F45 := zW_setA F33 e43 (by decide)
          have A46 : ctJ (ez_I h42 97) (cL (aM T n) (dI T n) a (j + 1)) := by rw [zI_fn e43 97 (by decide)]; exact A34
          have A47 : ctI (ez_I h42 98) (cD (dI T n) a (j + 1)) 30 := ctI_y (x0 := kD (dI T n (a + j))) A35 e43 (by omega) ex39 (by omega) (cDm_y (by omega)) (fun q hq => cDm_n hq)
          clear A34
          clear A35
          refine z_inc rfl (by rw [show (1 : Int32).toInt = 1 from rfl]; omega) (fun x48 ex48 => ?_)
          rw [show (1 : Int32).toInt = 1 from rfl] at ex48
          show ez_gw _ _ _ _ _ _ _ _ [some (.ref 71), some (.int fr), some (.int to), some (.int pl), some (.int my), some (.int ls), some (.int x48), l7, l8, l9, l10, l11, l12, l13, l14, l15, l16] _ _ _
          refine z_go ?_
          exact ih h42 x48 (l7) (l8) (l9) (l10) (l11) (l12) (l13) (l14) (l15) (l16) (j + 1) F45 (by omega) (A46) (A47) (by omega)
        · have c21 : ¬ (x20.toInt ≠ 0) := c21
          have hd0 : (dI T n (a + j)) = 0 := by omega
          have hp0 := wp_0 hT0 hlt (show a + j < c by omega) hd0
          refine gw_ld rfl rfl ?_
          refine z_gR (q := 97) (zT S2 (by decide) rfl) (zRf S2 (by decide) (by decide) rfl) (by decide) ?_
          refine gw_ld rfl rfl ?_
          refine z_gR (q := 79) (zT S2 (by decide) rfl) (zRf S2 (by decide) (by decide) rfl) (by decide) ?_
          refine gw_ld rfl rfl ?_
          refine z_iaV (n := 6000) (zT S2 (by decide) rfl) (zN S2 (by decide) rfl) (by omega) (zW_f F (by decide) (fun c => c)) ?_
          generalize ex49 : ez_I h 79 k.toInt.toNat = x49
          have rx49 := z_rng x49
          have yx49 := (hpm (a + j) (by omega)).2.2.1
          rw [show a + j = k.toInt.toNat by omega, ex49] at yx49
          rw [show k.toInt.toNat = a + j by omega] at yx49
          refine gw_op rfl ?_
          refine z_ia (n := 288) (zT S2 (by decide) rfl) (zN S2 (by decide) rfl) (by omega) ?_
          generalize ex50 : ez_I h2 97 x49.toInt.toNat = x50
          have rx50 := z_rng x50
          have yx50 := A_c7 x49.toInt.toNat (by omega)
          rw [ex50] at yx50
          have ycx50 := hcl9 x49.toInt.toNat
          refine z_C (m := 1) rfl rfl (fun x51 ex51 => ?_)
          refine z_add (by omega) (fun x52 ex52 => ?_)
          refine z_is (n := 288) (zT S2 (by decide) rfl) (zN S2 (by decide) rfl) (by omega) (fun h53 e54 => ?_)
          have S55 := zSh_set S2 e54
          have F56 := zW_setA F e54 (by decide)
          have A57 : ctJ (ez_I h53 97) (cL (aM T n) (dI T n) a (j + 1)) := ctJ_y (x0 := (lSy (aM T n) (dI T n) (a + j))) A_c7 e54 (by rw [lSy_0 hd0]; omega) ex50 (by omega) (cLm_y _ _ _ _) (fun q hq => cLm_n hq)
          have A58 : ctI (ez_I h53 98) (cD (dI T n) a j) 30 := by rw [zI_fn e54 98 (by decide)]; exact A_c8
          refine z_go ?_
          refine gw_skip _ ?_
          refine z_inc rfl (by rw [show (1 : Int32).toInt = 1 from rfl]; omega) (fun x59 ex59 => ?_)
          rw [show (1 : Int32).toInt = 1 from rfl] at ex59
          show ez_gw _ _ _ _ _ _ _ _ [some (.ref 71), some (.int fr), some (.int to), some (.int pl), some (.int my), some (.int ls), some (.int x59), l7, l8, l9, l10, l11, l12, l13, l14, l15, l16] _ _ _
          refine z_go ?_
          exact ih h53 x59 (l7) (l8) (l9) (l10) (l11) (l12) (l13) (l14) (l15) (l16) (j + 1) F56 (by omega) (A57) ((by show ctI _ (cD (dI T n) a (j + 1)) 30; rw [cD_z hd0]; exact A58)) (by omega)
set_option maxRecDepth 4000 in
set_option maxHeartbeats 2000000 in
theorem d_wBlock_L1 {E : Nat → Nat × (Nat → Int32)} {d : Nat} {Q : ez_Q} {h : ez_H} {fr : Int32} {to : Int32} {pl : Int32} {my : Int32} {ls : Int32} (S : zSh h) {T : Nat → Int} {n c a J : Nat} {l bn : Nat} {s0 : Nat × Nat} (hC : mbC (ez_I h 72) (ez_I h 77) (ez_I h 78) (ez_I h 79) (ez_I h 80) (ez_I h 92) (ez_I h 93) (ez_I h 94) (ez_I h 95) (ez_I h 96) T n c) (hA : mbA fr to pl my T n c a J) (hls : ls.toInt = (l : Nat) ∧ l ≤ 1) (hs : mS (ez_I h 75) s0) (hb : (ez_I h 71 16).toInt = (s0.2 : Nat)) (hg : aR (ez_I h 75) 8000 (-128) 127) (hbn : (ez_I h 71 15).toInt = (bn : Nat) ∧ bn ≤ 9) (hr : s0.2 + 50 + 8 * (bkY T n a J) ≤ 48800) (K : ∀ h2, zW (fun q k => q = 71 ∧ k = 15 ∨ q = 71 ∧ k = 16 ∨ q = 71 ∧ k = 56 ∨ q = 71 ∧ k = 57 ∨ q = 71 ∧ k = 58) (fun q => q = 75 ∨ 83 ≤ q ∧ q ≤ 91 ∨ 97 ≤ q ∧ q ≤ 119) (fun _ => False) h h2 → (bkS T n a J l s0).2 ≤ s0.2 + 42 + 8 * (bkY T n a J) → mst (ez_I h2 75) (ez_I h2 71 16).toInt (bkS T n a J l s0) → aR (ez_I h2 75) 8000 (-128) 127 → (ez_I h2 71 15).toInt = (bn : Int) + 1 → mbk (ez_I h2 83) (ez_I h2 84) (ez_I h2 85) (ez_I h2 86) (ez_I h2 87) (ez_I h2 88) (ez_I h2 89) (ez_I h2 90) (ez_I h2 91) (ez_I h 83) (ez_I h 84) (ez_I h 85) (ez_I h 86) (ez_I h 87) (ez_I h 88) (ez_I h 89) (ez_I h 90) (ez_I h 91) T n a J s0.2 bn → Q (.inl none) h2) : ∀ N : Nat, (∀ (h2 : ez_H) (k : Int32) (l7 : Option Value) (l8 : Option Value) (l9 : Option Value) (l10 : Option Value) (l11 : Option Value) (l12 : Option Value) (l13 : Option Value) (l14 : Option Value) (l15 : Option Value) (l16 : Option Value) , zW (fun _ _ => False) (fun q => q = 97 ∨ q = 98) (fun _ => False) h h2 → (0 ≤ k.toInt ∧ k.toInt ≤ 30) → (zrP (ez_I h2 97) (288)) → (zrP (ez_I h2 98) (k.toInt.toNat)) → (1000 - k.toInt) < (N : Int) → pw E (d + 2) 44 28 [some (.ref 71), some (.int fr), some (.int to), some (.int pl), some (.int my), some (.int ls), some (.int k), l7, l8, l9, l10, l11, l12, l13, l14, l15, l16] [] h2 Q) := by
  intro N
  induction N with
  | zero => exact fun h2 k l7 l8 l9 l10 l11 l12 l13 l14 l15 l16  F hinv A_z7 A_z8 hm => absurd hm (by have w_k := z_rng k; have gfr := z_rng fr; have gto := z_rng to; have gpl := z_rng pl; have gmy := z_rng my; have gls := z_rng ls; omega)
  | succ N ih =>
    refine fun h2 k l7 l8 l9 l10 l11 l12 l13 l14 l15 l16  F hinv A_z7 A_z8 hm => ?_
    · skip
      have w_k := z_rng k
      have gfr := z_rng fr
      have gto := z_rng to
      have gpl := z_rng pl
      have gmy := z_rng my
      have gls := z_rng ls
      have S2 := zW_sh F S
      apply ez_Wp_in
      show ez_gw _ _ _ _ _ _ (cz_44) _ _ _ _ _
      refine gw_skip _ ?_
      refine gw_ld rfl rfl ?_
      refine z_C (m := 30) rfl rfl (fun x1 ex1 => ?_)
      refine z_b2 (fun c2 => ?_) (fun c2 => ?_)
      · have c2 : x1.toInt ≤ k.toInt := c2
        refine gw_skip _ ?_
        refine gw_ld rfl rfl ?_
        refine gw_st rfl rfl rfl ?_
        show ez_gw _ _ _ _ _ _ _ _ [some (.ref 71), some (.int fr), some (.int to), some (.int pl), some (.int my), some (.int ls), some (.int fr), l7, l8, l9, l10, l11, l12, l13, l14, l15, l16] _ _ _
        exact ez_Wp_at ((d_wBlock_L2 (fr := fr) (to := to) (pl := pl) (my := my) (ls := ls) S hC hA hls hs hb hg hbn hr K (((10000 - fr.toInt)).toNat + 1)) h2 fr (l7) (l8) (l9) (l10) (l11) (l12) (l13) (l14) (l15) (l16) 0 F ((by have q1 := hA.1; omega)) (ctJ_0 (by have b1 := A_z7; exact b1)) ((fun q hq => by rw [A_z8 q (by omega)]; rfl)) (by omega)) rfl
      · have c2 : ¬ (x1.toInt ≤ k.toInt) := c2
        refine gw_ld rfl rfl ?_
        refine z_gR (q := 98) (zT S2 (by decide) rfl) (zRf S2 (by decide) (by decide) rfl) (by decide) ?_
        refine gw_ld rfl rfl ?_
        refine z_C (m := 0) rfl rfl (fun x3 ex3 => ?_)
        refine z_is (n := 30) (zT S2 (by decide) rfl) (zN S2 (by decide) rfl) (by omega) (fun h4 e5 => ?_)
        have S6 := zSh_set S2 e5
        have F7 := zW_setA F e5 (by decide)
        have A8 : zrP (ez_I h4 97) (288) := by rw [zI_fn e5 97 (by decide)]; exact A_z7
        have A9 : zrP (ez_I h4 98) (k.toInt.toNat + 1) := z0_s A_z8 e5 (by omega) (by omega) rfl
        refine z_inc rfl (by rw [show (1 : Int32).toInt = 1 from rfl]; omega) (fun x10 ex10 => ?_)
        rw [show (1 : Int32).toInt = 1 from rfl] at ex10
        show ez_gw _ _ _ _ _ _ _ _ [some (.ref 71), some (.int fr), some (.int to), some (.int pl), some (.int my), some (.int ls), some (.int x10), l7, l8, l9, l10, l11, l12, l13, l14, l15, l16] _ _ _
        refine z_go ?_
        exact ih h4 x10 (l7) (l8) (l9) (l10) (l11) (l12) (l13) (l14) (l15) (l16) F7 (by omega) (A8) ((by rw [show x10.toInt.toNat = k.toInt.toNat + 1 by omega]; exact A9)) (by omega)
set_option maxRecDepth 4000 in
set_option maxHeartbeats 2000000 in
theorem d_wBlock_L0 {E : Nat → Nat × (Nat → Int32)} {d : Nat} {Q : ez_Q} {h : ez_H} {fr : Int32} {to : Int32} {pl : Int32} {my : Int32} {ls : Int32} (S : zSh h) {T : Nat → Int} {n c a J : Nat} {l bn : Nat} {s0 : Nat × Nat} (hC : mbC (ez_I h 72) (ez_I h 77) (ez_I h 78) (ez_I h 79) (ez_I h 80) (ez_I h 92) (ez_I h 93) (ez_I h 94) (ez_I h 95) (ez_I h 96) T n c) (hA : mbA fr to pl my T n c a J) (hls : ls.toInt = (l : Nat) ∧ l ≤ 1) (hs : mS (ez_I h 75) s0) (hb : (ez_I h 71 16).toInt = (s0.2 : Nat)) (hg : aR (ez_I h 75) 8000 (-128) 127) (hbn : (ez_I h 71 15).toInt = (bn : Nat) ∧ bn ≤ 9) (hr : s0.2 + 50 + 8 * (bkY T n a J) ≤ 48800) (K : ∀ h2, zW (fun q k => q = 71 ∧ k = 15 ∨ q = 71 ∧ k = 16 ∨ q = 71 ∧ k = 56 ∨ q = 71 ∧ k = 57 ∨ q = 71 ∧ k = 58) (fun q => q = 75 ∨ 83 ≤ q ∧ q ≤ 91 ∨ 97 ≤ q ∧ q ≤ 119) (fun _ => False) h h2 → (bkS T n a J l s0).2 ≤ s0.2 + 42 + 8 * (bkY T n a J) → mst (ez_I h2 75) (ez_I h2 71 16).toInt (bkS T n a J l s0) → aR (ez_I h2 75) 8000 (-128) 127 → (ez_I h2 71 15).toInt = (bn : Int) + 1 → mbk (ez_I h2 83) (ez_I h2 84) (ez_I h2 85) (ez_I h2 86) (ez_I h2 87) (ez_I h2 88) (ez_I h2 89) (ez_I h2 90) (ez_I h2 91) (ez_I h 83) (ez_I h 84) (ez_I h 85) (ez_I h 86) (ez_I h 87) (ez_I h 88) (ez_I h 89) (ez_I h 90) (ez_I h 91) T n a J s0.2 bn → Q (.inl none) h2) : ∀ N : Nat, (∀ (h2 : ez_H) (k : Int32) (l7 : Option Value) (l8 : Option Value) (l9 : Option Value) (l10 : Option Value) (l11 : Option Value) (l12 : Option Value) (l13 : Option Value) (l14 : Option Value) (l15 : Option Value) (l16 : Option Value) , zW (fun _ _ => False) (fun q => q = 97 ∨ q = 98) (fun _ => False) h h2 → (0 ≤ k.toInt ∧ k.toInt ≤ 288) → (zrP (ez_I h2 97) (k.toInt.toNat)) → (1000 - k.toInt) < (N : Int) → pw E (d + 2) 44 3 [some (.ref 71), some (.int fr), some (.int to), some (.int pl), some (.int my), some (.int ls), some (.int k), l7, l8, l9, l10, l11, l12, l13, l14, l15, l16] [] h2 Q) := by
  intro N
  induction N with
  | zero => exact fun h2 k l7 l8 l9 l10 l11 l12 l13 l14 l15 l16  F hinv A_z7 hm => absurd hm (by have w_k := z_rng k; have gfr := z_rng fr; have gto := z_rng to; have gpl := z_rng pl; have gmy := z_rng my; have gls := z_rng ls; omega)
  | succ N ih =>
    refine fun h2 k l7 l8 l9 l10 l11 l12 l13 l14 l15 l16  F hinv A_z7 hm => ?_
    · skip
      have w_k := z_rng k
      have gfr := z_rng fr
      have gto := z_rng to
      have gpl := z_rng pl
      have gmy := z_rng my
      have gls := z_rng ls
      have S2 := zW_sh F S
      apply ez_Wp_in
      show ez_gw _ _ _ _ _ _ (cz_44) _ _ _ _ _
      refine gw_skip _ ?_
      refine gw_ld rfl rfl ?_
      refine z_C (m := 288) rfl rfl (fun x1 ex1 => ?_)
      refine z_b2 (fun c2 => ?_) (fun c2 => ?_)
      · have c2 : x1.toInt ≤ k.toInt := c2
        refine gw_skip _ ?_
        refine z_C (m := 0) rfl rfl (fun x3 ex3 => ?_)
        refine gw_st rfl rfl rfl ?_
        show ez_gw _ _ _ _ _ _ _ _ [some (.ref 71), some (.int fr), some (.int to), some (.int pl), some (.int my), some (.int ls), some (.int x3), l7, l8, l9, l10, l11, l12, l13, l14, l15, l16] _ _ _
        exact ez_Wp_at ((d_wBlock_L1 (fr := fr) (to := to) (pl := pl) (my := my) (ls := ls) S hC hA hls hs hb hg hbn hr K (((1000 - x3.toInt)).toNat + 1)) h2 x3 (l7) (l8) (l9) (l10) (l11) (l12) (l13) (l14) (l15) (l16) F (by omega) ((by have b1 := A_z7; rw [show k.toInt.toNat = 288 by omega] at b1; exact b1)) ((fun q hq => by omega)) (by omega)) rfl
      · have c2 : ¬ (x1.toInt ≤ k.toInt) := c2
        refine gw_ld rfl rfl ?_
        refine z_gR (q := 97) (zT S2 (by decide) rfl) (zRf S2 (by decide) (by decide) rfl) (by decide) ?_
        refine gw_ld rfl rfl ?_
        refine z_C (m := 0) rfl rfl (fun x4 ex4 => ?_)
        refine z_is (n := 288) (zT S2 (by decide) rfl) (zN S2 (by decide) rfl) (by omega) (fun h5 e6 => ?_)
        have S7 := zSh_set S2 e6
        have F8 := zW_setA F e6 (by decide)
        have A9 : zrP (ez_I h5 97) (k.toInt.toNat + 1) := z0_s A_z7 e6 (by omega) (by omega) rfl
        refine z_inc rfl (by rw [show (1 : Int32).toInt = 1 from rfl]; omega) (fun x10 ex10 => ?_)
        rw [show (1 : Int32).toInt = 1 from rfl] at ex10
        show ez_gw _ _ _ _ _ _ _ _ [some (.ref 71), some (.int fr), some (.int to), some (.int pl), some (.int my), some (.int ls), some (.int x10), l7, l8, l9, l10, l11, l12, l13, l14, l15, l16] _ _ _
        refine z_go ?_
        exact ih h5 x10 (l7) (l8) (l9) (l10) (l11) (l12) (l13) (l14) (l15) (l16) F8 (by omega) ((by rw [show x10.toInt.toNat = k.toInt.toNat + 1 by omega]; exact A9)) (by omega)
set_option maxRecDepth 4000 in
set_option maxHeartbeats 2000000 in
theorem d_wBlock {E : Nat → Nat × (Nat → Int32)} {d : Nat} {Q : ez_Q} {h : ez_H} {fr : Int32} {to : Int32} {pl : Int32} {my : Int32} {ls : Int32} (S : zSh h) {T : Nat → Int} {n c a J : Nat} {l bn : Nat} {s0 : Nat × Nat} (hC : mbC (ez_I h 72) (ez_I h 77) (ez_I h 78) (ez_I h 79) (ez_I h 80) (ez_I h 92) (ez_I h 93) (ez_I h 94) (ez_I h 95) (ez_I h 96) T n c) (hA : mbA fr to pl my T n c a J) (hls : ls.toInt = (l : Nat) ∧ l ≤ 1) (hs : mS (ez_I h 75) s0) (hb : (ez_I h 71 16).toInt = (s0.2 : Nat)) (hg : aR (ez_I h 75) 8000 (-128) 127) (hbn : (ez_I h 71 15).toInt = (bn : Nat) ∧ bn ≤ 9) (hr : s0.2 + 50 + 8 * (bkY T n a J) ≤ 48800) (K : ∀ h2, zW (fun q k => q = 71 ∧ k = 15 ∨ q = 71 ∧ k = 16 ∨ q = 71 ∧ k = 56 ∨ q = 71 ∧ k = 57 ∨ q = 71 ∧ k = 58) (fun q => q = 75 ∨ 83 ≤ q ∧ q ≤ 91 ∨ 97 ≤ q ∧ q ≤ 119) (fun _ => False) h h2 → (bkS T n a J l s0).2 ≤ s0.2 + 42 + 8 * (bkY T n a J) → mst (ez_I h2 75) (ez_I h2 71 16).toInt (bkS T n a J l s0) → aR (ez_I h2 75) 8000 (-128) 127 → (ez_I h2 71 15).toInt = (bn : Int) + 1 → mbk (ez_I h2 83) (ez_I h2 84) (ez_I h2 85) (ez_I h2 86) (ez_I h2 87) (ez_I h2 88) (ez_I h2 89) (ez_I h2 90) (ez_I h2 91) (ez_I h 83) (ez_I h 84) (ez_I h 85) (ez_I h 86) (ez_I h 87) (ez_I h 88) (ez_I h 89) (ez_I h 90) (ez_I h 91) T n a J s0.2 bn → Q (.inl none) h2) : pw E (d + 2) 44 0 [some (.ref 71), some (.int fr), some (.int to), some (.int pl), some (.int my), some (.int ls), none, none, none, none, none, none, none, none, none, none, none] [] h Q := by
  have gfr := z_rng fr
  have gto := z_rng to
  have gpl := z_rng pl
  have gmy := z_rng my
  have gls := z_rng ls
  have F := zW_refl (fun _ _ => False) (fun q => q = 97 ∨ q = 98) (fun _ => False) h
  apply ez_Wp_in
  show ez_gw _ _ _ _ _ _ (cz_44) _ _ _ _ _
  refine gw_skip _ ?_
  refine z_C (m := 0) rfl rfl (fun x1 ex1 => ?_)
  refine gw_st rfl rfl rfl ?_
  show ez_gw _ _ _ _ _ _ _ _ [some (.ref 71), some (.int fr), some (.int to), some (.int pl), some (.int my), some (.int ls), some (.int x1), none, none, none, none, none, none, none, none, none, none] _ _ _
  exact ez_Wp_at ((d_wBlock_L0 (fr := fr) (to := to) (pl := pl) (my := my) (ls := ls) S hC hA hls hs hb hg hbn hr K (((1000 - x1.toInt)).toNat + 1)) h x1 (none) (none) (none) (none) (none) (none) (none) (none) (none) (none) F (by omega) ((fun q hq => by omega)) (by omega)) rfl
