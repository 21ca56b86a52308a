/-! PRINTED by wip/pack: the model writes parts, by its made codes -/
theorem x70_16 : ∀ k : Nat, ¬ (78 = 71 ∧ k = 16) := fun k c => by omega
theorem x70_17 : ∀ k : Nat, ¬ (72 = 71 ∧ k = 16) := fun k c => by omega
theorem x70_18 : ∀ k : Nat, ¬ (103 = 71 ∧ k = 16) := fun k c => by omega
theorem x70_19 : ∀ k : Nat, ¬ (100 = 71 ∧ k = 16) := fun k c => by omega
theorem x70_20 : ∀ q k : Nat, (q = 71 ∧ k = 16) → (q = 71 ∧ k = 16) := fun q k hk => hk
theorem x70_21 : ∀ q : Nat, (q = 75) → (q = 75) := fun q hk => hk
theorem x70_22 : ∀ q : Nat, (False) → (False) := fun q hk => hk.elim
theorem x70_23 : ∀ k : Nat, ¬ (77 = 71 ∧ k = 16) := fun k c => by omega
theorem x70_24 : ¬ (92 = 75) := by omega
theorem x70_25 : ∀ k : Nat, ¬ (92 = 71 ∧ k = 16) := fun k c => by omega
theorem x70_26 : ∀ k : Nat, ¬ (93 = 71 ∧ k = 16) := fun k c => by omega
theorem x70_27 : ¬ (94 = 75) := by omega
theorem x70_28 : ∀ k : Nat, ¬ (94 = 71 ∧ k = 16) := fun k c => by omega
theorem x70_29 : ∀ k : Nat, ¬ (104 = 71 ∧ k = 16) := fun k c => by omega
theorem x70_30 : ∀ k : Nat, ¬ (101 = 71 ∧ k = 16) := fun k c => by omega
theorem x70_31 : ∀ k : Nat, ¬ (95 = 71 ∧ k = 16) := fun k c => by omega
set_option maxRecDepth 4000 in
set_option maxHeartbeats 2000000 in
theorem d_wPartsB_L0 {E : Nat → Nat × (Nat → Int32)} {d : Nat} {Q : ez_Q} {h : ez_H} {fr : Int32} {to : Int32} {pl : Int32} (S : zSh h) {T : Nat → Int} {n : Nat} {nU nV nW nY : Nat → Nat} {s : Nat × Nat} {c a J : Nat} (hn : n ≤ 6000) (hT : ∀ i, i < n → 0 ≤ T i ∧ T i ≤ 255) (hB : ∀ i, i < n → (ez_I h 72 i).toInt % 256 = T i) (hs : mst (ez_I h 75) (ez_I h 71 16).toInt s) (hg : aR (ez_I h 75) 8000 (-128) 127) (hpm : pmI (ez_I h 77) (ez_I h 78) (ez_I h 79) (ez_I h 80) T n c) (hlt : ltP T n c) (hc : c ≤ 6000) (hf : fr.toInt = ((a : Nat) : Int) ∧ to.toInt = ((a + J : Nat) : Int) ∧ a + J ≤ c) (hpl : pl.toInt = (ptP T n a : Nat)) (hU : ∀ x, x < 286 → 1 ≤ nU x → swP (ez_I h 100) (ez_I h 103) nU nV x) (hW : ∀ x, x < 30 → 1 ≤ nW x → swP (ez_I h 101) (ez_I h 104) nW nY x) (hu_ : ∀ k, (a ≤ k ∧ k < a + J) → 1 ≤ nU (lSy (aM T n) (dI T n) k) ∧ (dI T n k ≠ 0 → 1 ≤ nW (kD (dI T n k)))) (hu6 : 1 ≤ nU 256) (hr : (wps (aM T n) (dI T n) nV nU nY nW s a J).2 + nU 256 ≤ 64000) (t92 : ctI (ez_I h 92) LBf 29) (t93 : ctI (ez_I h 93) LEf 29) (t94 : ctI (ez_I h 94) DBf 30) (t95 : ctI (ez_I h 95) DEf 30) (K : ∀ h2, zW (fun q k => q = 71 ∧ k = 16) (fun q => q = 75) (fun _ => False) h h2 → mst (ez_I h2 75) (ez_I h2 71 16).toInt (wr (wps (aM T n) (dI T n) nV nU nY nW s a J) (nV 256) (nU 256)) → aR (ez_I h2 75) 8000 (-128) 127 → Q (.inl none) h2) : ∀ N : Nat, (∀ (h2 : ez_H) (p : Int32) (k : Int32) (l10 : Option Value) (l11 : Option Value) (j : Nat), zW (fun q k => q = 71 ∧ k = 16) (fun q => q = 75) (fun _ => False) h h2 → (k.toInt = ((a + j : Nat) : Int) ∧ j ≤ J ∧ p.toInt = (ptP T n (a + j) : Nat) ∧ (ez_I h2 71 16).toInt = ((wps (aM T n) (dI T n) nV nU nY nW s a j).2 : Nat)) → (mS (ez_I h2 75) (wps (aM T n) (dI T n) nV nU nY nW s a j)) → (aR (ez_I h2 75) 8000 (-128) 127) → (10 * (100000 - k.toInt)) < (N : Int) → pw E (d + 1) 40 6 [some (.ref 71), some (.int fr), some (.int to), some (.int pl), some (.ref 100), some (.ref 103), some (.ref 101), some (.ref 104), some (.int p), some (.int k), l10, l11] [] h2 Q) ∧ (∀ (h2 : ez_H) (p : Int32) (k : Int32) (l10 : Option Value) (l11 : Option Value) (j : Nat), zW (fun q k => q = 71 ∧ k = 16) (fun q => q = 75) (fun _ => False) h h2 → (k.toInt = ((a + j : Nat) : Int) ∧ j < J ∧ p.toInt = (ptP T n (a + j) : Nat) ∧ 1 ≤ dI T n (a + j) ∧ (ez_I h2 71 16).toInt = ((wps (aM T n) (dI T n) nV nU nY nW s a j).2 : Nat)) → (mS (ez_I h2 75) (wps (aM T n) (dI T n) nV nU nY nW s a j)) → (aR (ez_I h2 75) 8000 (-128) 127) → (10 * (100000 - k.toInt) - 1) < (N : Int) → pw E (d + 1) 40 52 [some (.ref 71), some (.int fr), some (.int to), some (.int pl), some (.ref 100), some (.ref 103), some (.ref 101), some (.ref 104), some (.int p), some (.int k), l10, l11] [] h2 Q) ∧ (∀ (h2 : ez_H) (p : Int32) (k : Int32) (l : Int32) (l11 : Option Value) (j : Nat), zW (fun q k => q = 71 ∧ k = 16) (fun q => q = 75) (fun _ => False) h h2 → (k.toInt = ((a + j : Nat) : Int) ∧ j < J ∧ p.toInt = (ptP T n (a + j) : Nat) ∧ 1 ≤ dI T n (a + j) ∧ l.toInt = (kL (aM T n (a + j)) : Nat) ∧ (ez_I h2 71 16).toInt = ((wr (wps (aM T n) (dI T n) nV nU nY nW s a j) (nV (257 + kL (aM T n (a + j)))) (nU (257 + kL (aM T n (a + j))))).2 : Nat)) → (mS (ez_I h2 75) (wr (wps (aM T n) (dI T n) nV nU nY nW s a j) (nV (257 + kL (aM T n (a + j)))) (nU (257 + kL (aM T n (a + j)))))) → (aR (ez_I h2 75) 8000 (-128) 127) → (10 * (100000 - k.toInt) - 2) < (N : Int) → pw E (d + 1) 40 87 [some (.ref 71), some (.int fr), some (.int to), some (.int pl), some (.ref 100), some (.ref 103), some (.ref 101), some (.ref 104), some (.int p), some (.int k), some (.int l), l11] [] h2 Q) ∧ (∀ (h2 : ez_H) (p : Int32) (k : Int32) (l : Int32) (l11 : Option Value) (j : Nat), zW (fun q k => q = 71 ∧ k = 16) (fun q => q = 75) (fun _ => False) h h2 → (k.toInt = ((a + j : Nat) : Int) ∧ j < J ∧ p.toInt = (ptP T n (a + j) : Nat) ∧ 1 ≤ dI T n (a + j) ∧ (ez_I h2 71 16).toInt = ((wr (wr (wps (aM T n) (dI T n) nV nU nY nW s a j) (nV (257 + kL (aM T n (a + j)))) (nU (257 + kL (aM T n (a + j))))) ((aM T n (a + j)) - LBf (kL (aM T n (a + j)))) (LEf (kL (aM T n (a + j))))).2 : Nat)) → (mS (ez_I h2 75) (wr (wr (wps (aM T n) (dI T n) nV nU nY nW s a j) (nV (257 + kL (aM T n (a + j)))) (nU (257 + kL (aM T n (a + j))))) ((aM T n (a + j)) - LBf (kL (aM T n (a + j)))) (LEf (kL (aM T n (a + j)))))) → (aR (ez_I h2 75) 8000 (-128) 127) → (10 * (100000 - k.toInt) - 3) < (N : Int) → pw E (d + 1) 40 113 [some (.ref 71), some (.int fr), some (.int to), some (.int pl), some (.ref 100), some (.ref 103), some (.ref 101), some (.ref 104), some (.int p), some (.int k), some (.int l), l11] [] h2 Q) ∧ (∀ (h2 : ez_H) (p : Int32) (k : Int32) (l10 : Option Value) (q : Int32) (j : Nat), zW (fun q k => q = 71 ∧ k = 16) (fun q => q = 75) (fun _ => False) h h2 → (k.toInt = ((a + j : Nat) : Int) ∧ j < J ∧ p.toInt = (ptP T n (a + j) : Nat) ∧ 1 ≤ dI T n (a + j) ∧ q.toInt = (kD (dI T n (a + j)) : Nat) ∧ (ez_I h2 71 16).toInt = ((wr (wr (wr (wps (aM T n) (dI T n) nV nU nY nW s a j) (nV (257 + kL (aM T n (a + j)))) (nU (257 + kL (aM T n (a + j))))) ((aM T n (a + j)) - LBf (kL (aM T n (a + j)))) (LEf (kL (aM T n (a + j))))) (nY (kD (dI T n (a + j)))) (nW (kD (dI T n (a + j))))).2 : Nat)) → (mS (ez_I h2 75) (wr (wr (wr (wps (aM T n) (dI T n) nV nU nY nW s a j) (nV (257 + kL (aM T n (a + j)))) (nU (257 + kL (aM T n (a + j))))) ((aM T n (a + j)) - LBf (kL (aM T n (a + j)))) (LEf (kL (aM T n (a + j))))) (nY (kD (dI T n (a + j)))) (nW (kD (dI T n (a + j)))))) → (aR (ez_I h2 75) 8000 (-128) 127) → (10 * (100000 - k.toInt) - 4) < (N : Int) → pw E (d + 1) 40 140 [some (.ref 71), some (.int fr), some (.int to), some (.int pl), some (.ref 100), some (.ref 103), some (.ref 101), some (.ref 104), some (.int p), some (.int k), l10, some (.int q)] [] h2 Q) ∧ (∀ (h2 : ez_H) (p : Int32) (k : Int32) (l10 : Option Value) (l11 : Option Value) (j : Nat), zW (fun q k => q = 71 ∧ k = 16) (fun q => q = 75) (fun _ => False) h h2 → (k.toInt = ((a + j : Nat) : Int) ∧ j < J ∧ p.toInt = (ptP T n (a + j) : Nat) ∧ (ez_I h2 71 16).toInt = ((wps (aM T n) (dI T n) nV nU nY nW s a (j + 1)).2 : Nat)) → (mS (ez_I h2 75) (wps (aM T n) (dI T n) nV nU nY nW s a (j + 1))) → (aR (ez_I h2 75) 8000 (-128) 127) → (10 * (100000 - k.toInt) - 5) < (N : Int) → pw E (d + 1) 40 166 [some (.ref 71), some (.int fr), some (.int to), some (.int pl), some (.ref 100), some (.ref 103), some (.ref 101), some (.ref 104), some (.int p), some (.int k), l10, l11] [] h2 Q) ∧ (∀ (h2 : ez_H) (l8 : Option Value) (l9 : Option Value) (l10 : Option Value) (l11 : Option Value) , zW (fun q k => q = 71 ∧ k = 16) (fun q => q = 75) (fun _ => False) h h2 → ((ez_I h2 71 16).toInt = ((wps (aM T n) (dI T n) nV nU nY nW s a J).2 : Nat)) → (mS (ez_I h2 75) (wps (aM T n) (dI T n) nV nU nY nW s a J)) → (aR (ez_I h2 75) 8000 (-128) 127) → 5 < (N : Int) → pw E (d + 1) 40 184 [some (.ref 71), some (.int fr), some (.int to), some (.int pl), some (.ref 100), some (.ref 103), some (.ref 101), some (.ref 104), l8, l9, l10, l11] [] h2 Q) := by
  intro N
  induction N with
  | zero => exact ⟨fun h2 p k l10 l11 j F hinv A_st A_hg hm => absurd hm (by have w_p := z_rng p; have w_k := z_rng k; have gfr := z_rng fr; have gto := z_rng to; have gpl := z_rng pl; omega), fun h2 p k l10 l11 j F hinv A_st A_hg hm => absurd hm (by have w_p := z_rng p; have w_k := z_rng k; have gfr := z_rng fr; have gto := z_rng to; have gpl := z_rng pl; omega), fun h2 p k l l11 j F hinv A_st A_hg hm => absurd hm (by have w_p := z_rng p; have w_k := z_rng k; have w_l := z_rng l; have gfr := z_rng fr; have gto := z_rng to; have gpl := z_rng pl; omega), fun h2 p k l l11 j F hinv A_st A_hg hm => absurd hm (by have w_p := z_rng p; have w_k := z_rng k; have w_l := z_rng l; have gfr := z_rng fr; have gto := z_rng to; have gpl := z_rng pl; omega), fun h2 p k l10 q j F hinv A_st A_hg hm => absurd hm (by have w_p := z_rng p; have w_k := z_rng k; have w_q := z_rng q; have gfr := z_rng fr; have gto := z_rng to; have gpl := z_rng pl; omega), fun h2 p k l10 l11 j F hinv A_st A_hg hm => absurd hm (by have w_p := z_rng p; have w_k := z_rng k; have gfr := z_rng fr; have gto := z_rng to; have gpl := z_rng pl; omega), fun h2 l8 l9 l10 l11  F hinv A_st A_hg hm => absurd hm (by have gfr := z_rng fr; have gto := z_rng to; have gpl := z_rng pl; omega)⟩
  | succ N ih =>
    refine ⟨fun h2 p k l10 l11 j F hinv A_st A_hg hm => ?_, fun h2 p k l10 l11 j F hinv A_st A_hg hm => ?_, fun h2 p k l l11 j F hinv A_st A_hg hm => ?_, fun h2 p k l l11 j F hinv A_st A_hg hm => ?_, fun h2 p k l10 q j F hinv A_st A_hg hm => ?_, fun h2 p k l10 l11 j F hinv A_st A_hg hm => ?_, fun h2 l8 l9 l10 l11  F hinv A_st A_hg hm => ?_⟩
    · skip
      have w_p := z_rng p
      have w_k := z_rng k
      have gfr := z_rng fr
      have gto := z_rng to
      have gpl := z_rng pl
      have S2 := zW_sh F S
      obtain ⟨hk, hj, hp, hbb⟩ := hinv
      apply ez_Wp_in
      show ez_gw _ _ _ _ _ _ (cz_40) _ _ _ _ _
      refine gw_skip _ ?_
      have r1 := z_rng (ez_I h2 71 16)
      refine gw_ld rfl rfl ?_
      refine gw_ld rfl rfl ?_
      refine z_b2 (fun c2 => ?_) (fun c2 => ?_)
      · have c2 : to.toInt ≤ k.toInt := c2
        exact gw_skip _ (ez_Wp_at (ih.2.2.2.2.2.2 h2 (some (.int p)) (some (.int k)) (l10) (l11) F (by rw [show J = j by omega]; exact hbb) ((by rw [show J = j by omega]; exact A_st)) (A_hg) (by omega)) rfl)
      · have c2 : ¬ (to.toInt ≤ k.toInt) := c2
        refine gw_ld rfl rfl ?_
        refine z_gR (q := 78) (zT S2 (by decide) rfl) (zRf S2 (by decide) (by decide) rfl) (by decide) ?_
        refine gw_ld rfl rfl ?_
        refine z_iaV (n := 6000) (zT S2 (by decide) rfl) (zN S2 (by decide) rfl) (by omega) (zW_f F (by decide) (x70_16 _)) ?_
        generalize ex3 : ez_I h 78 k.toInt.toNat = x3
        have rx3 := z_rng x3
        have yx3 := (hpm (a + j) (by omega)).2.1
        rw [show a + j = k.toInt.toNat by omega, ex3] at yx3
        rw [show k.toInt.toNat = a + j by omega] at yx3
        refine z_b1 (fun c4 => ?_) (fun c4 => ?_)
        · have c4 : x3.toInt ≠ 0 := c4
          exact gw_skip _ (ez_Wp_at (ih.2.1 h2 p k (l10) (l11) j F (⟨hk, by omega, hp, by omega, hbb⟩) (A_st) (A_hg) (by omega)) rfl)
        · have c4 : ¬ (x3.toInt ≠ 0) := c4
          have hd0 : dI T n (a + j) = 0 := by omega
          have hp0 := wp_0 hT hlt (show a + j < c by omega) hd0
          have hsw := hU (aM T n (a + j)) (by omega) (by have h9 := (hu_ (a + j) (by omega)).1; rw [lSy_0 hd0] at h9; exact h9)
          have hbd := wp_bd hr (show j < J by omega)
          rw [wpt_0 hd0] at hbd
          refine gw_ld rfl rfl ?_
          refine z_gR (q := 72) (zT S2 (by decide) rfl) (zRf S2 (by decide) (by decide) rfl) (by decide) ?_
          refine gw_ld rfl rfl ?_
          refine z_baV (n := 6000) (zT S2 (by decide) rfl) (zN S2 (by decide) rfl) (by omega) (zW_f F (by decide) (x70_17 _)) ?_
          generalize ex5 : ez_I h 72 p.toInt.toNat = x5
          have rx5 := z_rng x5
          have yx5 := hB (ptP T n (a + j)) hp0.2.2.2
          rw [show ptP T n (a + j) = p.toInt.toNat by omega, ex5] at yx5
          rw [show p.toInt.toNat = ptP T n (a + j) by omega] at yx5
          refine z_C (m := 255) rfl rfl (fun x6 ex6 => ?_)
          refine z_and (fun x7 ex7 ux7 wx7 => ?_)
          have rx7 := z_rng x7
          replace ux7 := ux7 (by omega)
          clear wx7
          have vx7 := n_mask (k := 8) (by decide) (by omega) ex7
          rw [show (2 : Int) ^ 8 = 256 from rfl] at vx7
          refine gw_st rfl rfl rfl ?_
          show ez_gw _ _ _ _ _ _ _ _ [some (.ref 71), some (.int fr), some (.int to), some (.int pl), some (.ref 100), some (.ref 103), some (.ref 101), some (.ref 104), some (.int p), some (.int k), some (.int x7), l11] _ _ _
          refine gw_ld rfl rfl ?_
          refine gw_ld rfl rfl ?_
          refine gw_ld rfl rfl ?_
          refine z_iaV (n := 288) (zT S2 (by decide) rfl) (zN S2 (by decide) rfl) (by omega) (zW_f F (by decide) (x70_18 _)) ?_
          generalize ex8 : ez_I h 103 x7.toInt.toNat = x8
          have rx8 := z_rng x8
          skip
          refine gw_ld rfl rfl ?_
          refine gw_ld rfl rfl ?_
          refine z_iaV (n := 288) (zT S2 (by decide) rfl) (zN S2 (by decide) rfl) (by omega) (zW_f F (by decide) (x70_19 _)) ?_
          generalize ex9 : ez_I h 100 x7.toInt.toNat = x9
          have rx9 := z_rng x9
          skip
          refine z_cl rfl rfl rfl rfl rfl rfl rfl rfl rfl rfl rfl (zT S2 (by decide) rfl) ?_
          refine d_wbV (s := (wps (aM T n) (dI T n) nV nU nY nW s a j)) (V := nV (aM T n (a + j))) (N := nU (aM T n (a + j))) (v := x8) (n := x9) S2 A_st (hbb) A_hg (by rw [← ex8, show x7.toInt.toNat = (aM T n (a + j)) by omega]; exact hsw.2.1) (by rw [← ex9, show x7.toInt.toNat = (aM T n (a + j)) by omega]; exact hsw.1) (hsw.2.2.1) (Nat.le_trans hsw.2.2.2 (by decide)) (Nat.le_trans (Nat.le_refl _) hbd) (fun h10 F11 k12 k13 k14 => ?_)
          have S15 := zW_sh F11 S2
          have F16 := zW_tr F (zW_mono F11 (x70_20) (x70_21) (x70_22))
          have r17 := z_rng (ez_I h10 71 16)
          refine z_go ?_
          exact gw_skip _ (ez_Wp_at (ih.2.2.2.2.2.1 h10 p k (some (.int x7)) (l11) j F16 (⟨hk, by omega, hp, by show _ = (((wpt (aM T n) (dI T n) nV nU nY nW (wps (aM T n) (dI T n) nV nU nY nW s a j) (a + j)).2 : Nat) : Int); rw [wpt_0 hd0]; exact k13⟩) ((by show mS _ (wpt (aM T n) (dI T n) nV nU nY nW (wps (aM T n) (dI T n) nV nU nY nW s a j) (a + j)); rw [wpt_0 hd0]; exact k12)) (k14) (by omega)) rfl)
    · skip
      have w_p := z_rng p
      have w_k := z_rng k
      have gfr := z_rng fr
      have gto := z_rng to
      have gpl := z_rng pl
      have S2 := zW_sh F S
      obtain ⟨hk, hj, hp, hd1, hbb⟩ := hinv
      have hp1 := wp_1 hT hlt (show a + j < c by omega) hd1
      have hbd := wp_bd hr (show j < J by omega)
      rw [wpt_1 hd1] at hbd
      have hb4 := wb4 hbd
      clear hbd
      have hkl := kL_ok (v := (aM T n (a + j))) (by omega)
      have hkl1 := hkl.1
      have hkl2 := hkl.2.1
      have hsw := hU (257 + kL (aM T n (a + j))) (by omega) (by have h9 := (hu_ (a + j) (by omega)).1; rw [lSy_1 hd1] at h9; exact h9)
      apply ez_Wp_in
      show ez_gw _ _ _ _ _ _ (cz_40) _ _ _ _ _
      refine gw_skip _ ?_
      have r18 := z_rng (ez_I h2 71 16)
      refine gw_ld rfl rfl ?_
      refine gw_ld rfl rfl ?_
      refine z_gR (q := 77) (zT S2 (by decide) rfl) (zRf S2 (by decide) (by decide) rfl) (by decide) ?_
      refine gw_ld rfl rfl ?_
      refine z_iaV (n := 6000) (zT S2 (by decide) rfl) (zN S2 (by decide) rfl) (by omega) (zW_f F (by decide) (x70_23 _)) ?_
      generalize ex19 : ez_I h 77 k.toInt.toNat = x19
      have rx19 := z_rng x19
      have yx19 := (hpm (a + j) (by omega)).1
      rw [show a + j = k.toInt.toNat by omega, ex19] at yx19
      rw [show k.toInt.toNat = a + j by omega] at yx19
      refine z_cl rfl rfl rfl rfl rfl rfl rfl rfl rfl rfl rfl (zT S2 (by decide) rfl) ?_
      have ham : x19.toInt.toNat = (aM T n (a + j)) := by omega
      refine d_kL (n := x19) S2 (by rw [(show ez_I h2 92 = ez_I h 92 from zW_fn F 92 x70_24 x70_25)]; exact t92) (by omega) (fun x20 k21 => ?_)
      rw [ham] at k21
      have rx20 := z_rng x20
      refine gw_st rfl rfl rfl ?_
      show ez_gw _ _ _ _ _ _ _ _ [some (.ref 71), some (.int fr), some (.int to), some (.int pl), some (.ref 100), some (.ref 103), some (.ref 101), some (.ref 104), some (.int p), some (.int k), some (.int x20), l11] _ _ _
      refine gw_ld rfl rfl ?_
      refine gw_ld rfl rfl ?_
      refine z_C (m := 257) rfl rfl (fun x22 ex22 => ?_)
      refine gw_ld rfl rfl ?_
      refine z_add (by omega) (fun x23 ex23 => ?_)
      refine z_iaV (n := 288) (zT S2 (by decide) rfl) (zN S2 (by decide) rfl) (by omega) (zW_f F (by decide) (x70_18 _)) ?_
      generalize ex24 : ez_I h 103 x23.toInt.toNat = x24
      have rx24 := z_rng x24
      skip
      refine gw_ld rfl rfl ?_
      refine z_C (m := 257) rfl rfl (fun x25 ex25 => ?_)
      refine gw_ld rfl rfl ?_
      refine z_add (by omega) (fun x26 ex26 => ?_)
      refine z_iaV (n := 288) (zT S2 (by decide) rfl) (zN S2 (by decide) rfl) (by omega) (zW_f F (by decide) (x70_19 _)) ?_
      generalize ex27 : ez_I h 100 x26.toInt.toNat = x27
      have rx27 := z_rng x27
      skip
      refine z_cl rfl rfl rfl rfl rfl rfl rfl rfl rfl rfl rfl (zT S2 (by decide) rfl) ?_
      refine d_wbV (s := (wps (aM T n) (dI T n) nV nU nY nW s a j)) (V := nV (257 + kL (aM T n (a + j)))) (N := nU (257 + kL (aM T n (a + j)))) (v := x24) (n := x27) S2 A_st (hbb) A_hg (by rw [← ex24, show x23.toInt.toNat = 257 + kL (aM T n (a + j)) by omega]; exact hsw.2.1) (by rw [← ex27, show x26.toInt.toNat = 257 + kL (aM T n (a + j)) by omega]; exact hsw.1) (hsw.2.2.1) (Nat.le_trans hsw.2.2.2 (by decide)) (hb4.1) (fun h28 F29 k30 k31 k32 => ?_)
      have S33 := zW_sh F29 S2
      have F34 := zW_tr F (zW_mono F29 (x70_20) (x70_21) (x70_22))
      have r35 := z_rng (ez_I h28 71 16)
      exact ez_Wp_at (ih.2.2.1 h28 p k x20 (l11) j F34 (⟨hk, by omega, hp, by omega, by omega, k31⟩) (k30) (k32) (by omega)) rfl
    · skip
      have w_p := z_rng p
      have w_k := z_rng k
      have w_l := z_rng l
      have gfr := z_rng fr
      have gto := z_rng to
      have gpl := z_rng pl
      have S2 := zW_sh F S
      obtain ⟨hk, hj, hp, hd1, hl, hbb⟩ := hinv
      have hp1 := wp_1 hT hlt (show a + j < c by omega) hd1
      have hbd := wp_bd hr (show j < J by omega)
      rw [wpt_1 hd1] at hbd
      have hb4 := wb4 hbd
      clear hbd
      have hkl := kL_ok (v := (aM T n (a + j))) (by omega)
      have hkl1 := hkl.1
      have hkl2 := hkl.2.1
      have hle := LE_5 (kL (aM T n (a + j)))
      apply ez_Wp_in
      show ez_gw _ _ _ _ _ _ (cz_40) _ _ _ _ _
      refine gw_skip _ ?_
      have r36 := z_rng (ez_I h2 71 16)
      refine gw_ld rfl rfl ?_
      refine gw_ld rfl rfl ?_
      refine z_gR (q := 77) (zT S2 (by decide) rfl) (zRf S2 (by decide) (by decide) rfl) (by decide) ?_
      refine gw_ld rfl rfl ?_
      refine z_iaV (n := 6000) (zT S2 (by decide) rfl) (zN S2 (by decide) rfl) (by omega) (zW_f F (by decide) (x70_23 _)) ?_
      generalize ex37 : ez_I h 77 k.toInt.toNat = x37
      have rx37 := z_rng x37
      have yx37 := (hpm (a + j) (by omega)).1
      rw [show a + j = k.toInt.toNat by omega, ex37] at yx37
      rw [show k.toInt.toNat = a + j by omega] at yx37
      refine gw_ld rfl rfl ?_
      refine z_gR (q := 92) (zT S2 (by decide) rfl) (zRf S2 (by decide) (by decide) rfl) (by decide) ?_
      refine gw_ld rfl rfl ?_
      refine z_iaV (n := 29) (zT S2 (by decide) rfl) (zN S2 (by decide) rfl) (by omega) (zW_f F (by decide) (x70_25 _)) ?_
      generalize ex38 : ez_I h 92 l.toInt.toNat = x38
      have rx38 := z_rng x38
      have yx38 := t92 (kL (aM T n (a + j))) (by omega)
      rw [show (kL (aM T n (a + j))) = l.toInt.toNat by omega, ex38] at yx38
      rw [show l.toInt.toNat = (kL (aM T n (a + j))) by omega] at yx38
      refine z_sub (by omega) (fun x39 ex39 => ?_)
      refine gw_ld rfl rfl ?_
      refine z_gR (q := 93) (zT S2 (by decide) rfl) (zRf S2 (by decide) (by decide) rfl) (by decide) ?_
      refine gw_ld rfl rfl ?_
      refine z_iaV (n := 29) (zT S2 (by decide) rfl) (zN S2 (by decide) rfl) (by omega) (zW_f F (by decide) (x70_26 _)) ?_
      generalize ex40 : ez_I h 93 l.toInt.toNat = x40
      have rx40 := z_rng x40
      have yx40 := t93 (kL (aM T n (a + j))) (by omega)
      rw [show (kL (aM T n (a + j))) = l.toInt.toNat by omega, ex40] at yx40
      rw [show l.toInt.toNat = (kL (aM T n (a + j))) by omega] at yx40
      refine z_cl rfl rfl rfl rfl rfl rfl rfl rfl rfl rfl rfl (zT S2 (by decide) rfl) ?_
      refine d_wbV (s := (wr (wps (aM T n) (dI T n) nV nU nY nW s a j) (nV (257 + kL (aM T n (a + j)))) (nU (257 + kL (aM T n (a + j)))))) (V := (aM T n (a + j)) - LBf (kL (aM T n (a + j)))) (N := LEf (kL (aM T n (a + j)))) (v := x39) (n := x40) S2 A_st (hbb) A_hg (by omega) (by omega) (hkl.2.2) (by omega) (hb4.2.1) (fun h41 F42 k43 k44 k45 => ?_)
      have S46 := zW_sh F42 S2
      have F47 := zW_tr F (zW_mono F42 (x70_20) (x70_21) (x70_22))
      have r48 := z_rng (ez_I h41 71 16)
      exact ez_Wp_at (ih.2.2.2.1 h41 p k l (l11) j F47 (⟨hk, by omega, hp, by omega, k44⟩) (k43) (k45) (by omega)) rfl
    · skip
      have w_p := z_rng p
      have w_k := z_rng k
      have w_l := z_rng l
      have gfr := z_rng fr
      have gto := z_rng to
      have gpl := z_rng pl
      have S2 := zW_sh F S
      obtain ⟨hk, hj, hp, hd1, hbb⟩ := hinv
      have hp1 := wp_1 hT hlt (show a + j < c by omega) hd1
      have hbd := wp_bd hr (show j < J by omega)
      rw [wpt_1 hd1] at hbd
      have hb4 := wb4 hbd
      clear hbd
      have hkd := kD_ok (v := (dI T n (a + j))) (by omega)
      have hkd1 := hkd.1
      have hkd2 := hkd.2.1
      have hsw := hW (kD (dI T n (a + j))) (by omega) ((hu_ (a + j) (by omega)).2 (by omega))
      apply ez_Wp_in
      show ez_gw _ _ _ _ _ _ (cz_40) _ _ _ _ _
      refine gw_skip _ ?_
      have r49 := z_rng (ez_I h2 71 16)
      refine gw_ld rfl rfl ?_
      refine gw_ld rfl rfl ?_
      refine z_gR (q := 78) (zT S2 (by decide) rfl) (zRf S2 (by decide) (by decide) rfl) (by decide) ?_
      refine gw_ld rfl rfl ?_
      refine z_iaV (n := 6000) (zT S2 (by decide) rfl) (zN S2 (by decide) rfl) (by omega) (zW_f F (by decide) (x70_16 _)) ?_
      generalize ex50 : ez_I h 78 k.toInt.toNat = x50
      have rx50 := z_rng x50
      have yx50 := (hpm (a + j) (by omega)).2.1
      rw [show a + j = k.toInt.toNat by omega, ex50] at yx50
      rw [show k.toInt.toNat = a + j by omega] at yx50
      refine z_cl rfl rfl rfl rfl rfl rfl rfl rfl rfl rfl rfl (zT S2 (by decide) rfl) ?_
      have hdi : x50.toInt.toNat = (dI T n (a + j)) := by omega
      refine d_kD (n := x50) S2 (by rw [(show ez_I h2 94 = ez_I h 94 from zW_fn F 94 x70_27 x70_28)]; exact t94) (by omega) (fun x51 k52 => ?_)
      rw [hdi] at k52
      have rx51 := z_rng x51
      refine gw_st rfl rfl rfl ?_
      show ez_gw _ _ _ _ _ _ _ _ [some (.ref 71), some (.int fr), some (.int to), some (.int pl), some (.ref 100), some (.ref 103), some (.ref 101), some (.ref 104), some (.int p), some (.int k), some (.int l), some (.int x51)] _ _ _
      refine gw_ld rfl rfl ?_
      refine gw_ld rfl rfl ?_
      refine gw_ld rfl rfl ?_
      refine z_iaV (n := 30) (zT S2 (by decide) rfl) (zN S2 (by decide) rfl) (by omega) (zW_f F (by decide) (x70_29 _)) ?_
      generalize ex53 : ez_I h 104 x51.toInt.toNat = x53
      have rx53 := z_rng x53
      skip
      refine gw_ld rfl rfl ?_
      refine gw_ld rfl rfl ?_
      refine z_iaV (n := 30) (zT S2 (by decide) rfl) (zN S2 (by decide) rfl) (by omega) (zW_f F (by decide) (x70_30 _)) ?_
      generalize ex54 : ez_I h 101 x51.toInt.toNat = x54
      have rx54 := z_rng x54
      skip
      refine z_cl rfl rfl rfl rfl rfl rfl rfl rfl rfl rfl rfl (zT S2 (by decide) rfl) ?_
      refine d_wbV (s := (wr (wr (wps (aM T n) (dI T n) nV nU nY nW s a j) (nV (257 + kL (aM T n (a + j)))) (nU (257 + kL (aM T n (a + j))))) ((aM T n (a + j)) - LBf (kL (aM T n (a + j)))) (LEf (kL (aM T n (a + j)))))) (V := nY (kD (dI T n (a + j)))) (N := nW (kD (dI T n (a + j)))) (v := x53) (n := x54) S2 A_st (hbb) A_hg (by rw [← ex53, show x51.toInt.toNat = kD (dI T n (a + j)) by omega]; exact hsw.2.1) (by rw [← ex54, show x51.toInt.toNat = kD (dI T n (a + j)) by omega]; exact hsw.1) (hsw.2.2.1) (Nat.le_trans hsw.2.2.2 (by decide)) (hb4.2.2.1) (fun h55 F56 k57 k58 k59 => ?_)
      have S60 := zW_sh F56 S2
      have F61 := zW_tr F (zW_mono F56 (x70_20) (x70_21) (x70_22))
      have r62 := z_rng (ez_I h55 71 16)
      exact ez_Wp_at (ih.2.2.2.2.1 h55 p k (some (.int l)) x51 j F61 (⟨hk, by omega, hp, by omega, by omega, k58⟩) (k57) (k59) (by omega)) rfl
    · skip
      have w_p := z_rng p
      have w_k := z_rng k
      have w_q := z_rng q
      have gfr := z_rng fr
      have gto := z_rng to
      have gpl := z_rng pl
      have S2 := zW_sh F S
      obtain ⟨hk, hj, hp, hd1, hq, hbb⟩ := hinv
      have hp1 := wp_1 hT hlt (show a + j < c by omega) hd1
      have hbd := wp_bd hr (show j < J by omega)
      rw [wpt_1 hd1] at hbd
      have hb4 := wb4 hbd
      clear hbd
      have hkd := kD_ok (v := (dI T n (a + j))) (by omega)
      have hkd1 := hkd.1
      have hkd2 := hkd.2.1
      have hde := DE_13 (kD (dI T n (a + j)))
      apply ez_Wp_in
      show ez_gw _ _ _ _ _ _ (cz_40) _ _ _ _ _
      refine gw_skip _ ?_
      have r63 := z_rng (ez_I h2 71 16)
      refine gw_ld rfl rfl ?_
      refine gw_ld rfl rfl ?_
      refine z_gR (q := 78) (zT S2 (by decide) rfl) (zRf S2 (by decide) (by decide) rfl) (by decide) ?_
      refine gw_ld rfl rfl ?_
      refine z_iaV (n := 6000) (zT S2 (by decide) rfl) (zN S2 (by decide) rfl) (by omega) (zW_f F (by decide) (x70_16 _)) ?_
      generalize ex64 : ez_I h 78 k.toInt.toNat = x64
      have rx64 := z_rng x64
      have yx64 := (hpm (a + j) (by omega)).2.1
      rw [show a + j = k.toInt.toNat by omega, ex64] at yx64
      rw [show k.toInt.toNat = a + j by omega] at yx64
      refine gw_ld rfl rfl ?_
      refine z_gR (q := 94) (zT S2 (by decide) rfl) (zRf S2 (by decide) (by decide) rfl) (by decide) ?_
      refine gw_ld rfl rfl ?_
      refine z_iaV (n := 30) (zT S2 (by decide) rfl) (zN S2 (by decide) rfl) (by omega) (zW_f F (by decide) (x70_28 _)) ?_
      generalize ex65 : ez_I h 94 q.toInt.toNat = x65
      have rx65 := z_rng x65
      have yx65 := t94 (kD (dI T n (a + j))) (by omega)
      rw [show (kD (dI T n (a + j))) = q.toInt.toNat by omega, ex65] at yx65
      rw [show q.toInt.toNat = (kD (dI T n (a + j))) by omega] at yx65
      refine z_sub (by omega) (fun x66 ex66 => ?_)
      refine gw_ld rfl rfl ?_
      refine z_gR (q := 95) (zT S2 (by decide) rfl) (zRf S2 (by decide) (by decide) rfl) (by decide) ?_
      refine gw_ld rfl rfl ?_
      refine z_iaV (n := 30) (zT S2 (by decide) rfl) (zN S2 (by decide) rfl) (by omega) (zW_f F (by decide) (x70_31 _)) ?_
      generalize ex67 : ez_I h 95 q.toInt.toNat = x67
      have rx67 := z_rng x67
      have yx67 := t95 (kD (dI T n (a + j))) (by omega)
      rw [show (kD (dI T n (a + j))) = q.toInt.toNat by omega, ex67] at yx67
      rw [show q.toInt.toNat = (kD (dI T n (a + j))) by omega] at yx67
      refine z_cl rfl rfl rfl rfl rfl rfl rfl rfl rfl rfl rfl (zT S2 (by decide) rfl) ?_
      refine d_wbV (s := (wr (wr (wr (wps (aM T n) (dI T n) nV nU nY nW s a j) (nV (257 + kL (aM T n (a + j)))) (nU (257 + kL (aM T n (a + j))))) ((aM T n (a + j)) - LBf (kL (aM T n (a + j)))) (LEf (kL (aM T n (a + j))))) (nY (kD (dI T n (a + j)))) (nW (kD (dI T n (a + j)))))) (V := (dI T n (a + j)) - DBf (kD (dI T n (a + j)))) (N := DEf (kD (dI T n (a + j)))) (v := x66) (n := x67) S2 A_st (hbb) A_hg (by omega) (by omega) (hkd.2.2) (by omega) (hb4.2.2.2) (fun h68 F69 k70 k71 k72 => ?_)
      have S73 := zW_sh F69 S2
      have F74 := zW_tr F (zW_mono F69 (x70_20) (x70_21) (x70_22))
      have r75 := z_rng (ez_I h68 71 16)
      exact ez_Wp_at (ih.2.2.2.2.2.1 h68 p k (l10) (some (.int q)) j F74 (⟨hk, by omega, hp, by show _ = (((wpt (aM T n) (dI T n) nV nU nY nW (wps (aM T n) (dI T n) nV nU nY nW s a j) (a + j)).2 : Nat) : Int); rw [wpt_1 hd1]; exact k71⟩) ((by show mS _ (wpt (aM T n) (dI T n) nV nU nY nW (wps (aM T n) (dI T n) nV nU nY nW s a j) (a + j)); rw [wpt_1 hd1]; exact k70)) (k72) (by omega)) rfl
    · skip
      have w_p := z_rng p
      have w_k := z_rng k
      have gfr := z_rng fr
      have gto := z_rng to
      have gpl := z_rng pl
      have S2 := zW_sh F S
      obtain ⟨hk, hj, hp, hbb⟩ := hinv
      have hpn := ptP_n T n (a + j)
      have hpc := ptP_k (T := T) (n := n) (a + j + 1) (fun q hq => hlt q (by omega))
      apply ez_Wp_in
      show ez_gw _ _ _ _ _ _ (cz_40) _ _ _ _ _
      refine gw_skip _ ?_
      have r76 := z_rng (ez_I h2 71 16)
      refine gw_ld rfl rfl ?_
      refine gw_ld rfl rfl ?_
      refine z_gR (q := 77) (zT S2 (by decide) rfl) (zRf S2 (by decide) (by decide) rfl) (by decide) ?_
      refine gw_ld rfl rfl ?_
      refine z_iaV (n := 6000) (zT S2 (by decide) rfl) (zN S2 (by decide) rfl) (by omega) (zW_f F (by decide) (x70_23 _)) ?_
      generalize ex77 : ez_I h 77 k.toInt.toNat = x77
      have rx77 := z_rng x77
      have yx77 := (hpm (a + j) (by omega)).1
      rw [show a + j = k.toInt.toNat by omega, ex77] at yx77
      rw [show k.toInt.toNat = a + j by omega] at yx77
      refine z_add (by omega) (fun x78 ex78 => ?_)
      refine gw_st rfl rfl rfl ?_
      show ez_gw _ _ _ _ _ _ _ _ [some (.ref 71), some (.int fr), some (.int to), some (.int pl), some (.ref 100), some (.ref 103), some (.ref 101), some (.ref 104), some (.int x78), some (.int k), l10, l11] _ _ _
      have hpp : x78.toInt = ((ptP T n (a + (j + 1)) : Nat) : Int) := by show _ = ((ptP T n (a + j + 1) : Nat) : Int); rw [hpn]; omega
      refine z_inc rfl (by rw [show (1 : Int32).toInt = 1 from rfl]; omega) (fun x79 ex79 => ?_)
      rw [show (1 : Int32).toInt = 1 from rfl] at ex79
      show ez_gw _ _ _ _ _ _ _ _ [some (.ref 71), some (.int fr), some (.int to), some (.int pl), some (.ref 100), some (.ref 103), some (.ref 101), some (.ref 104), some (.int x78), some (.int x79), l10, l11] _ _ _
      refine z_go ?_
      exact ih.1 h2 x78 x79 (l10) (l11) (j + 1) F (⟨by omega, by omega, hpp, hbb⟩) (A_st) (A_hg) (by omega)
    · skip
      have gfr := z_rng fr
      have gto := z_rng to
      have gpl := z_rng pl
      have S2 := zW_sh F S
      have hbb := hinv
      have hs6 := hU 256 (by decide) hu6
      apply ez_Wp_in
      show ez_gw _ _ _ _ _ _ (cz_40) _ _ _ _ _
      refine gw_skip _ ?_
      have r80 := z_rng (ez_I h2 71 16)
      refine gw_ld rfl rfl ?_
      refine gw_ld rfl rfl ?_
      refine z_C (m := 256) rfl rfl (fun x81 ex81 => ?_)
      refine z_iaV (n := 288) (zT S2 (by decide) rfl) (zN S2 (by decide) rfl) (by omega) (zW_f F (by decide) (x70_18 _)) ?_
      generalize ex82 : ez_I h 103 x81.toInt.toNat = x82
      have rx82 := z_rng x82
      skip
      refine gw_ld rfl rfl ?_
      refine z_C (m := 256) rfl rfl (fun x83 ex83 => ?_)
      refine z_iaV (n := 288) (zT S2 (by decide) rfl) (zN S2 (by decide) rfl) (by omega) (zW_f F (by decide) (x70_19 _)) ?_
      generalize ex84 : ez_I h 100 x83.toInt.toNat = x84
      have rx84 := z_rng x84
      skip
      refine z_cl rfl rfl rfl rfl rfl rfl rfl rfl rfl rfl rfl (zT S2 (by decide) rfl) ?_
      refine d_wbV (s := (wps (aM T n) (dI T n) nV nU nY nW s a J)) (V := nV 256) (N := nU 256) (v := x82) (n := x84) S2 A_st (hbb) A_hg (by rw [← ex82, show x81.toInt.toNat = 256 by omega]; exact hs6.2.1) (by rw [← ex84, show x83.toInt.toNat = 256 by omega]; exact hs6.1) (hs6.2.2.1) (Nat.le_trans hs6.2.2.2 (by decide)) (hr) (fun h85 F86 k87 k88 k89 => ?_)
      have S90 := zW_sh F86 S2
      have F91 := zW_tr F (zW_mono F86 (x70_20) (x70_21) (x70_22))
      have r92 := z_rng (ez_I h85 71 16)
      refine z_rv ?_
      exact K _ F91 (mS_m k87 k88) k89
set_option maxRecDepth 4000 in
set_option maxHeartbeats 2000000 in
theorem d_wPartsB {E : Nat → Nat × (Nat → Int32)} {d : Nat} {Q : ez_Q} {h : ez_H} {fr : Int32} {to : Int32} {pl : Int32} (S : zSh h) {T : Nat → Int} {n : Nat} {nU nV nW nY : Nat → Nat} {s : Nat × Nat} {c a J : Nat} (hn : n ≤ 6000) (hT : ∀ i, i < n → 0 ≤ T i ∧ T i ≤ 255) (hB : ∀ i, i < n → (ez_I h 72 i).toInt % 256 = T i) (hs : mst (ez_I h 75) (ez_I h 71 16).toInt s) (hg : aR (ez_I h 75) 8000 (-128) 127) (hpm : pmI (ez_I h 77) (ez_I h 78) (ez_I h 79) (ez_I h 80) T n c) (hlt : ltP T n c) (hc : c ≤ 6000) (hf : fr.toInt = ((a : Nat) : Int) ∧ to.toInt = ((a + J : Nat) : Int) ∧ a + J ≤ c) (hpl : pl.toInt = (ptP T n a : Nat)) (hU : ∀ x, x < 286 → 1 ≤ nU x → swP (ez_I h 100) (ez_I h 103) nU nV x) (hW : ∀ x, x < 30 → 1 ≤ nW x → swP (ez_I h 101) (ez_I h 104) nW nY x) (hu_ : ∀ k, (a ≤ k ∧ k < a + J) → 1 ≤ nU (lSy (aM T n) (dI T n) k) ∧ (dI T n k ≠ 0 → 1 ≤ nW (kD (dI T n k)))) (hu6 : 1 ≤ nU 256) (hr : (wps (aM T n) (dI T n) nV nU nY nW s a J).2 + nU 256 ≤ 64000) (t92 : ctI (ez_I h 92) LBf 29) (t93 : ctI (ez_I h 93) LEf 29) (t94 : ctI (ez_I h 94) DBf 30) (t95 : ctI (ez_I h 95) DEf 30) (K : ∀ h2, zW (fun q k => q = 71 ∧ k = 16) (fun q => q = 75) (fun _ => False) h h2 → mst (ez_I h2 75) (ez_I h2 71 16).toInt (wr (wps (aM T n) (dI T n) nV nU nY nW s a J) (nV 256) (nU 256)) → aR (ez_I h2 75) 8000 (-128) 127 → Q (.inl none) h2) : pw E (d + 1) 40 0 [some (.ref 71), some (.int fr), some (.int to), some (.int pl), some (.ref 100), some (.ref 103), some (.ref 101), some (.ref 104), none, none, none, none] [] h Q := by
  have gfr := z_rng fr
  have gto := z_rng to
  have gpl := z_rng pl
  have F := zW_refl (fun q k => q = 71 ∧ k = 16) (fun q => q = 75) (fun _ => False) h
  apply ez_Wp_in
  show ez_gw _ _ _ _ _ _ (cz_40) _ _ _ _ _
  refine gw_skip _ ?_
  have r1 := z_rng (ez_I h 71 16)
  refine gw_ld rfl rfl ?_
  refine gw_st rfl rfl rfl ?_
  show ez_gw _ _ _ _ _ _ _ _ [some (.ref 71), some (.int fr), some (.int to), some (.int pl), some (.ref 100), some (.ref 103), some (.ref 101), some (.ref 104), some (.int pl), none, none, none] _ _ _
  refine gw_ld rfl rfl ?_
  refine gw_st rfl rfl rfl ?_
  show ez_gw _ _ _ _ _ _ _ _ [some (.ref 71), some (.int fr), some (.int to), some (.int pl), some (.ref 100), some (.ref 103), some (.ref 101), some (.ref 104), some (.int pl), some (.int fr), none, none] _ _ _
  exact ez_Wp_at ((d_wPartsB_L0 (fr := fr) (to := to) (pl := pl) S hn hT hB hs hg hpm hlt hc hf hpl hU hW hu_ hu6 hr t92 t93 t94 t95 K (((10 * (100000 - fr.toInt))).toNat + 1)).1 h pl fr (none) (none) 0 F (⟨by omega, by omega, hpl, hs.1⟩) (m_mS hs) (hg) (by omega)) rfl
