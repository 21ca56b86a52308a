/-! PRINTED: parts written -/
theorem x63_0 : ∀ k : Nat, ¬ (107 = 71 ∧ k = 16) := fun k c => by omega
theorem x63_1 : ∀ k : Nat, ¬ (106 = 71 ∧ k = 16) := fun k c => by omega
theorem x63_2 : ∀ q k : Nat, (q = 71 ∧ k = 16) → (q = 71 ∧ k = 16) := fun q k hk => hk
theorem x63_3 : ∀ q : Nat, (q = 75) → (q = 75) := fun q hk => hk
theorem x63_4 : ∀ q : Nat, (False) → (False) := fun q hk => hk.elim
theorem x63_5 : ∀ k : Nat, ¬ (78 = 71 ∧ k = 16) := fun k c => by omega
theorem x63_6 : ∀ k : Nat, ¬ (77 = 71 ∧ k = 16) := fun k c => by omega
theorem x63_7 : ¬ (92 = 75) := by omega
theorem x63_8 : ∀ k : Nat, ¬ (92 = 71 ∧ k = 16) := fun k c => by omega
theorem x63_9 : ∀ k : Nat, ¬ (93 = 71 ∧ k = 16) := fun k c => by omega
theorem x63_10 : ¬ (94 = 75) := by omega
theorem x63_11 : ∀ k : Nat, ¬ (94 = 71 ∧ k = 16) := fun k c => by omega
theorem x63_12 : ∀ k : Nat, ¬ (109 = 71 ∧ k = 16) := fun k c => by omega
theorem x63_13 : ∀ k : Nat, ¬ (108 = 71 ∧ k = 16) := fun k c => by omega
theorem x63_14 : ∀ k : Nat, ¬ (95 = 71 ∧ k = 16) := fun k c => by omega
theorem x63_15 : ∀ k : Nat, ¬ (72 = 71 ∧ k = 16) := fun k c => by omega
set_option maxRecDepth 4000 in
set_option maxHeartbeats 2000000 in
theorem d_wPartsA_L0 {E : Nat → Nat × (Nat → Int32)} {d : Nat} {Q : ez_Q} {h : ez_H} {fr : Int32} {to : Int32} {pl : Int32} (S : zSh h) {s : Nat × Nat} {c : Nat} (hz : 0 ≤ (ez_I h 71 6).toInt ∧ (ez_I h 71 6).toInt ≤ 6000) (hT : ∀ i, i < (ez_I h 71 6).toInt.toNat → 0 ≤ (tB (ez_I h 72)) i ∧ (tB (ez_I h 72)) i ≤ 255) (hs : mst (ez_I h 75) (ez_I h 71 16).toInt s) (hg : aR (ez_I h 75) 8000 (-128) 127) (hpm : pmI (ez_I h 77) (ez_I h 78) (ez_I h 79) (ez_I h 80) (tB (ez_I h 72)) (ez_I h 71 6).toInt.toNat c) (hlt : ltP (tB (ez_I h 72)) (ez_I h 71 6).toInt.toNat c) (hc : c ≤ 6000) (hf : 0 ≤ fr.toInt ∧ fr.toInt ≤ to.toInt ∧ to.toInt ≤ c) (hpl : pl.toInt = (ptP (tB (ez_I h 72)) (ez_I h 71 6).toInt.toNat fr.toInt.toNat : Nat)) (hL : aR (ez_I h 106) 286 0 15) (hM : aR (ez_I h 108) 30 0 15) (hW : ∀ k, k < 286 → 1 ≤ nL (ez_I h 106) k → 0 ≤ (ez_I h 107 k).toInt ∧ nL (ez_I h 107) k < 2 ^ nL (ez_I h 106) k) (hV : ∀ k, k < 30 → 1 ≤ nL (ez_I h 108) k → 0 ≤ (ez_I h 109 k).toInt ∧ nL (ez_I h 109) k < 2 ^ nL (ez_I h 108) k) (hu_ : ∀ k, (fr.toInt.toNat ≤ k ∧ k < to.toInt.toNat) → 1 ≤ (nL (ez_I h 106)) (lSy (aM (tB (ez_I h 72)) (ez_I h 71 6).toInt.toNat) (dI (tB (ez_I h 72)) (ez_I h 71 6).toInt.toNat) k) ∧ ((dI (tB (ez_I h 72)) (ez_I h 71 6).toInt.toNat) k ≠ 0 → 1 ≤ (nL (ez_I h 108)) (kD ((dI (tB (ez_I h 72)) (ez_I h 71 6).toInt.toNat) k)))) (hu6 : 1 ≤ (nL (ez_I h 106)) 256) (hr : (wr (wps (aM (tB (ez_I h 72)) (ez_I h 71 6).toInt.toNat) (dI (tB (ez_I h 72)) (ez_I h 71 6).toInt.toNat) (nL (ez_I h 107)) (nL (ez_I h 106)) (nL (ez_I h 109)) (nL (ez_I h 108)) s fr.toInt.toNat (to.toInt.toNat - fr.toInt.toNat)) ((nL (ez_I h 107)) 256) ((nL (ez_I h 106)) 256)).2 ≤ 64000) (t92 : ctI (ez_I h 92) LBf 29) (t93 : ctI (ez_I h 93) LEf 29) (t94 : ctI (ez_I h 94) DBf 30) (t95 : ctI (ez_I h 95) DEf 30) (K : ∀ h2, zW (fun q k => q = 71 ∧ k = 16) (fun q => q = 75) (fun _ => False) h h2 → mst (ez_I h2 75) (ez_I h2 71 16).toInt (wr (wps (aM (tB (ez_I h 72)) (ez_I h 71 6).toInt.toNat) (dI (tB (ez_I h 72)) (ez_I h 71 6).toInt.toNat) (nL (ez_I h 107)) (nL (ez_I h 106)) (nL (ez_I h 109)) (nL (ez_I h 108)) s fr.toInt.toNat (to.toInt.toNat - fr.toInt.toNat)) ((nL (ez_I h 107)) 256) ((nL (ez_I h 106)) 256)) → aR (ez_I h2 75) 8000 (-128) 127 → Q (.inl none) h2) : ∀ N : Nat, (∀ (h2 : ez_H) (p : Int32) (k : Int32) (l10 : Option Value) (l11 : Option Value) , zW (fun q k => q = 71 ∧ k = 16) (fun q => q = 75) (fun _ => False) h h2 → (fr.toInt ≤ k.toInt ∧ k.toInt ≤ to.toInt ∧ p.toInt = (ptP (tB (ez_I h 72)) (ez_I h 71 6).toInt.toNat k.toInt.toNat : Nat) ∧ (ez_I h2 71 16).toInt = ((wps (aM (tB (ez_I h 72)) (ez_I h 71 6).toInt.toNat) (dI (tB (ez_I h 72)) (ez_I h 71 6).toInt.toNat) (nL (ez_I h 107)) (nL (ez_I h 106)) (nL (ez_I h 109)) (nL (ez_I h 108)) s fr.toInt.toNat (k.toInt.toNat - fr.toInt.toNat)).2 : Nat)) → (mS (ez_I h2 75) (wps (aM (tB (ez_I h 72)) (ez_I h 71 6).toInt.toNat) (dI (tB (ez_I h 72)) (ez_I h 71 6).toInt.toNat) (nL (ez_I h 107)) (nL (ez_I h 106)) (nL (ez_I h 109)) (nL (ez_I h 108)) s fr.toInt.toNat (k.toInt.toNat - fr.toInt.toNat))) → (aR (ez_I h2 75) 8000 (-128) 127) → (100000 - k.toInt) < (N : Int) → pw E (d + 1) 40 6 [some (.ref 71), some (.int fr), some (.int to), some (.int pl), some (.ref 106), some (.ref 107), some (.ref 108), some (.ref 109), some (.int p), some (.int k), l10, l11] [] h2 Q) := by
  intro N
  induction N with
  | zero => exact fun h2 p k l10 l11  F hinv A_st A_hg hm => absurd hm (by have w_p := z_rng p; have w_k := z_rng k; have gfr := z_rng fr; have gto := z_rng to; have gpl := z_rng pl; omega)
  | succ N ih =>
    refine fun h2 p k l10 l11  F hinv A_st A_hg hm => ?_
    · skip
      have w_p := z_rng p
      have w_k := z_rng k
      have gfr := z_rng fr
      have gto := z_rng to
      have gpl := z_rng pl
      have S2 := zW_sh F S
      obtain ⟨Sk, hSk⟩ : ∃ q, q = (wps (aM (tB (ez_I h 72)) (ez_I h 71 6).toInt.toNat) (dI (tB (ez_I h 72)) (ez_I h 71 6).toInt.toNat) (nL (ez_I h 107)) (nL (ez_I h 106)) (nL (ez_I h 109)) (nL (ez_I h 108)) s fr.toInt.toNat (k.toInt.toNat - fr.toInt.toNat)) := ⟨_, rfl⟩
      rw [← hSk] at hinv A_st
      have hr2 : (wps (aM (tB (ez_I h 72)) (ez_I h 71 6).toInt.toNat) (dI (tB (ez_I h 72)) (ez_I h 71 6).toInt.toNat) (nL (ez_I h 107)) (nL (ez_I h 106)) (nL (ez_I h 109)) (nL (ez_I h 108)) s fr.toInt.toNat (to.toInt.toNat - fr.toInt.toNat)).2 + (nL (ez_I h 106)) 256 ≤ 64000 := hr
      have hpk := ptP_k (T := (tB (ez_I h 72))) (n := (ez_I h 71 6).toInt.toNat) k.toInt.toNat (fun j hj => hlt j (by omega))
      have hpk2 : k.toInt < c → _ := fun q => hlt k.toInt.toNat (by omega)
      apply ez_Wp_in
      show ez_gw _ _ _ _ _ _ (cz_40) _ _ _ _ _
      refine gw_skip _ ?_
      have r1 := z_rng (ez_I h2 71 16)
      refine gw_ld rfl rfl ?_
      refine gw_ld rfl rfl ?_
      refine z_b2 (fun c2 => ?_) (fun c2 => ?_)
      · have c2 : to.toInt ≤ k.toInt := c2
        refine gw_skip _ ?_
        have hr3 := hr2
        rw [show (to.toInt.toNat - fr.toInt.toNat) = (k.toInt.toNat - fr.toInt.toNat) by omega, ← hSk] at hr3
        refine gw_ld rfl rfl ?_
        refine gw_ld rfl rfl ?_
        refine z_C (m := 256) rfl rfl (fun x3 ex3 => ?_)
        refine z_iaV (n := 288) (zT S2 (by decide) rfl) (zN S2 (by decide) rfl) (by omega) (zW_f F (by decide) (x63_0 _)) ?_
        generalize ex4 : ez_I h 107 x3.toInt.toNat = x4
        have rx4 := z_rng x4
        skip
        refine gw_ld rfl rfl ?_
        refine z_C (m := 256) rfl rfl (fun x5 ex5 => ?_)
        refine z_iaV (n := 288) (zT S2 (by decide) rfl) (zN S2 (by decide) rfl) (by omega) (zW_f F (by decide) (x63_1 _)) ?_
        generalize ex6 : ez_I h 106 x5.toInt.toNat = x6
        have rx6 := z_rng x6
        have yx6 := hL x5.toInt.toNat (by omega)
        rw [ex6] at yx6
        refine z_cl rfl rfl rfl rfl rfl rfl rfl rfl rfl rfl rfl (zT S2 (by decide) rfl) ?_
        rw [show (256 : Nat) = x3.toInt.toNat by omega] at hr3
        have y7P : 1 ≤ (nL (ez_I h 106)) (x3.toInt.toNat) := (by rw [show x3.toInt.toNat = 256 by omega]; exact hu6)
        have y7W := hW (x3.toInt.toNat) (by omega) y7P
        have y7N : (nL (ez_I h 106)) (x3.toInt.toNat) = x6.toInt.toNat := by show (ez_I h 106 _).toInt.toNat = _; rw [show (x3.toInt.toNat) = x5.toInt.toNat by omega, ex6]
        have y7V : (nL (ez_I h 107)) (x3.toInt.toNat) = x4.toInt.toNat := by show (ez_I h 107 _).toInt.toNat = _; rw [ex4]
        rw [ex4] at y7W
        have hq12 : (Sk).2 = Sk.2 := rfl
        have hv13 : (x4.toInt % 65536).toNat % 2 ^ x6.toInt.toNat = (nL (ez_I h 107)) (x3.toInt.toNat) := by rw [show x6.toInt.toNat = (nL (ez_I h 106)) (x3.toInt.toNat) by omega]; exact wv (by omega) (y7W.2) (by omega)
        refine d_wb (s := Sk) (v := x4) (n := x6) S2 (mS_m A_st (by omega)) A_hg (by omega) (by omega) (fun h8 F9 k10 k11 => ?_)
        rw [hv13, show x6.toInt.toNat = (nL (ez_I h 106)) (x3.toInt.toNat) by omega] at k10
        have hb15 : (ez_I h8 71 16).toInt = ((Sk.2 + (nL (ez_I h 106)) (x3.toInt.toNat) : Nat) : Int) := k10.1
        have A14 : mS (ez_I h8 75) (wr Sk ((nL (ez_I h 107)) (x3.toInt.toNat)) ((nL (ez_I h 106)) (x3.toInt.toNat))) := m_mS k10
        have S16 := zW_sh F9 S2
        have F17 := zW_tr F (zW_mono F9 (x63_2) (x63_3) (x63_4))
        have r18 := z_rng (ez_I h8 71 16)
        refine z_rv ?_
        exact K _ F17 (mS_m (by rw [show (to.toInt.toNat - fr.toInt.toNat) = (k.toInt.toNat - fr.toInt.toNat) by omega, ← hSk, show (256 : Nat) = x3.toInt.toNat by omega]; exact A14) (by show _ = ((((wps (aM (tB (ez_I h 72)) (ez_I h 71 6).toInt.toNat) (dI (tB (ez_I h 72)) (ez_I h 71 6).toInt.toNat) (nL (ez_I h 107)) (nL (ez_I h 106)) (nL (ez_I h 109)) (nL (ez_I h 108)) s fr.toInt.toNat (to.toInt.toNat - fr.toInt.toNat))).2 + (nL (ez_I h 106)) 256 : Nat) : Int); rw [show (to.toInt.toNat - fr.toInt.toNat) = (k.toInt.toNat - fr.toInt.toNat) by omega, ← hSk, show (256 : Nat) = x3.toInt.toNat by omega]; omega)) k11
      · have c2 : ¬ (to.toInt ≤ k.toInt) := c2
        refine gw_ld rfl rfl ?_
        refine z_gR (q := 78) (zT S2 (by decide) rfl) (zRf S2 (by decide) (by decide) rfl) (by decide) ?_
        refine gw_ld rfl rfl ?_
        refine z_iaV (n := 6000) (zT S2 (by decide) rfl) (zN S2 (by decide) rfl) (by omega) (zW_f F (by decide) (x63_5 _)) ?_
        generalize ex19 : ez_I h 78 k.toInt.toNat = x19
        have rx19 := z_rng x19
        obtain ⟨pm1, pm2, pm3, pm4⟩ := hpm k.toInt.toNat (by omega)
        rw [show k.toInt.toNat = k.toInt.toNat by omega, ex19] at pm2
        rw [show k.toInt.toNat = k.toInt.toNat by omega] at pm2
        have hrg := pk_rng hT hlt (k := k.toInt.toNat) (by omega)
        have hus := hu_ k.toInt.toNat (by omega)
        have hib := wpt_2 (aM (tB (ez_I h 72)) (ez_I h 71 6).toInt.toNat) (dI (tB (ez_I h 72)) (ez_I h 71 6).toInt.toNat) (nL (ez_I h 107)) (nL (ez_I h 106)) (nL (ez_I h 109)) (nL (ez_I h 108)) Sk k.toInt.toNat
        have hmo := sN_mono (f := fun z => ibN (aM (tB (ez_I h 72)) (ez_I h 71 6).toInt.toNat) (dI (tB (ez_I h 72)) (ez_I h 71 6).toInt.toNat) (nL (ez_I h 106)) (nL (ez_I h 108)) (fr.toInt.toNat + z)) (n := (k.toInt.toNat - fr.toInt.toNat) + 1) (to.toInt.toNat - fr.toInt.toNat) (by omega)
        have hsu : sN (fun z => ibN (aM (tB (ez_I h 72)) (ez_I h 71 6).toInt.toNat) (dI (tB (ez_I h 72)) (ez_I h 71 6).toInt.toNat) (nL (ez_I h 106)) (nL (ez_I h 108)) (fr.toInt.toNat + z)) ((k.toInt.toNat - fr.toInt.toNat) + 1) = sN (fun z => ibN (aM (tB (ez_I h 72)) (ez_I h 71 6).toInt.toNat) (dI (tB (ez_I h 72)) (ez_I h 71 6).toInt.toNat) (nL (ez_I h 106)) (nL (ez_I h 108)) (fr.toInt.toNat + z)) (k.toInt.toNat - fr.toInt.toNat) + ibN (aM (tB (ez_I h 72)) (ez_I h 71 6).toInt.toNat) (dI (tB (ez_I h 72)) (ez_I h 71 6).toInt.toNat) (nL (ez_I h 106)) (nL (ez_I h 108)) k.toInt.toNat := by show _ + ibN (aM (tB (ez_I h 72)) (ez_I h 71 6).toInt.toNat) (dI (tB (ez_I h 72)) (ez_I h 71 6).toInt.toNat) (nL (ez_I h 106)) (nL (ez_I h 108)) (fr.toInt.toNat + (k.toInt.toNat - fr.toInt.toNat)) = _; rw [show fr.toInt.toNat + (k.toInt.toNat - fr.toInt.toNat) = k.toInt.toNat by omega]
        have hw2 := wps_2 (aM (tB (ez_I h 72)) (ez_I h 71 6).toInt.toNat) (dI (tB (ez_I h 72)) (ez_I h 71 6).toInt.toNat) (nL (ez_I h 107)) (nL (ez_I h 106)) (nL (ez_I h 109)) (nL (ez_I h 108)) s fr.toInt.toNat (k.toInt.toNat - fr.toInt.toNat)
        have hw3 := wps_2 (aM (tB (ez_I h 72)) (ez_I h 71 6).toInt.toNat) (dI (tB (ez_I h 72)) (ez_I h 71 6).toInt.toNat) (nL (ez_I h 107)) (nL (ez_I h 106)) (nL (ez_I h 109)) (nL (ez_I h 108)) s fr.toInt.toNat (to.toInt.toNat - fr.toInt.toNat)
        rw [← hSk] at hw2
        have hpn := ptP_n (tB (ez_I h 72)) (ez_I h 71 6).toInt.toNat k.toInt.toNat
        replace hpk2 := hpk2 (by omega)
        refine z_b1 (fun c20 => ?_) (fun c20 => ?_)
        · have c20 : x19.toInt ≠ 0 := c20
          refine gw_skip _ ?_
          replace hrg := hrg.resolve_left (fun q => by omega)
          replace hus := And.intro hus.1 (hus.2 (by omega))
          refine gw_ld rfl rfl ?_
          refine gw_ld rfl rfl ?_
          refine z_gR (q := 77) (zT S2 (by decide) rfl) (zRf S2 (by decide) (by decide) rfl) (by decide) ?_
          refine gw_ld rfl rfl ?_
          refine z_iaV (n := 6000) (zT S2 (by decide) rfl) (zN S2 (by decide) rfl) (by omega) (zW_f F (by decide) (x63_6 _)) ?_
          generalize ex21 : ez_I h 77 k.toInt.toNat = x21
          have rx21 := z_rng x21
          rw [show k.toInt.toNat = k.toInt.toNat by omega, ex21] at pm1
          rw [show k.toInt.toNat = k.toInt.toNat by omega] at pm1
          refine z_cl rfl rfl rfl rfl rfl rfl rfl rfl rfl rfl rfl (zT S2 (by decide) rfl) ?_
          have ham : x21.toInt.toNat = ((aM (tB (ez_I h 72)) (ez_I h 71 6).toInt.toNat) k.toInt.toNat) := by omega
          refine d_kL (n := x21) S2 (by rw [(show ez_I h2 92 = ez_I h 92 from zW_fn F 92 x63_7 x63_8)]; exact t92) (by omega) (fun x22 k23 => ?_)
          have rx22 := z_rng x22
          have hk8 : x22.toInt.toNat = kL ((aM (tB (ez_I h 72)) (ez_I h 71 6).toInt.toNat) k.toInt.toNat) := by rw [← ham]; omega
          have hkl := kL_ok (v := ((aM (tB (ez_I h 72)) (ez_I h 71 6).toInt.toNat) k.toInt.toNat)) (by omega)
          rw [← hk8] at hkl
          have hle := LE_5 x22.toInt.toNat
          refine gw_st rfl rfl rfl ?_
          show ez_gw _ _ _ _ _ _ _ _ [some (.ref 71), some (.int fr), some (.int to), some (.int pl), some (.ref 106), some (.ref 107), some (.ref 108), some (.ref 109), some (.int p), some (.int k), some (.int x22), l11] _ _ _
          have hsy : lSy (aM (tB (ez_I h 72)) (ez_I h 71 6).toInt.toNat) (dI (tB (ez_I h 72)) (ez_I h 71 6).toInt.toNat) k.toInt.toNat = 257 + x22.toInt.toNat := by unfold lSy; rw [if_neg (by omega), hk8]
          have hibm : ibN (aM (tB (ez_I h 72)) (ez_I h 71 6).toInt.toNat) (dI (tB (ez_I h 72)) (ez_I h 71 6).toInt.toNat) (nL (ez_I h 106)) (nL (ez_I h 108)) k.toInt.toNat = (nL (ez_I h 106)) (257 + x22.toInt.toNat) + LEf x22.toInt.toNat + (nL (ez_I h 108)) (kD ((dI (tB (ez_I h 72)) (ez_I h 71 6).toInt.toNat) k.toInt.toNat)) + DEf (kD ((dI (tB (ez_I h 72)) (ez_I h 71 6).toInt.toNat) k.toInt.toNat)) := by unfold ibN; rw [if_neg (by omega), hk8]
          rw [hsy] at hus
          have hd13 := DE_13 (kD ((dI (tB (ez_I h 72)) (ez_I h 71 6).toInt.toNat) k.toInt.toNat))
          refine gw_ld rfl rfl ?_
          refine gw_ld rfl rfl ?_
          refine z_C (m := 257) rfl rfl (fun x24 ex24 => ?_)
          refine gw_ld rfl rfl ?_
          refine z_add (by omega) (fun x25 ex25 => ?_)
          refine z_iaV (n := 288) (zT S2 (by decide) rfl) (zN S2 (by decide) rfl) (by omega) (zW_f F (by decide) (x63_0 _)) ?_
          generalize ex26 : ez_I h 107 x25.toInt.toNat = x26
          have rx26 := z_rng x26
          skip
          refine gw_ld rfl rfl ?_
          refine z_C (m := 257) rfl rfl (fun x27 ex27 => ?_)
          refine gw_ld rfl rfl ?_
          refine z_add (by omega) (fun x28 ex28 => ?_)
          refine z_iaV (n := 288) (zT S2 (by decide) rfl) (zN S2 (by decide) rfl) (by omega) (zW_f F (by decide) (x63_1 _)) ?_
          generalize ex29 : ez_I h 106 x28.toInt.toNat = x29
          have rx29 := z_rng x29
          have yx29 := hL x28.toInt.toNat (by omega)
          rw [ex29] at yx29
          rw [show 257 + x22.toInt.toNat = x25.toInt.toNat by omega] at hibm
          refine z_cl rfl rfl rfl rfl rfl rfl rfl rfl rfl rfl rfl (zT S2 (by decide) rfl) ?_
          have y30P : 1 ≤ (nL (ez_I h 106)) (x25.toInt.toNat) := (by have h9 := hus.1; rw [show 257 + x22.toInt.toNat = x25.toInt.toNat by omega] at h9; exact h9)
          have y30W := hW (x25.toInt.toNat) (by omega) y30P
          have y30N : (nL (ez_I h 106)) (x25.toInt.toNat) = x29.toInt.toNat := by show (ez_I h 106 _).toInt.toNat = _; rw [show (x25.toInt.toNat) = x28.toInt.toNat by omega, ex29]
          have y30V : (nL (ez_I h 107)) (x25.toInt.toNat) = x26.toInt.toNat := by show (ez_I h 107 _).toInt.toNat = _; rw [ex26]
          rw [ex26] at y30W
          have hq35 : (Sk).2 = Sk.2 := rfl
          have hv36 : (x26.toInt % 65536).toNat % 2 ^ x29.toInt.toNat = (nL (ez_I h 107)) (x25.toInt.toNat) := by rw [show x29.toInt.toNat = (nL (ez_I h 106)) (x25.toInt.toNat) by omega]; exact wv (by omega) (y30W.2) (by omega)
          refine d_wb (s := Sk) (v := x26) (n := x29) S2 (mS_m A_st (by omega)) A_hg (by omega) (by omega) (fun h31 F32 k33 k34 => ?_)
          rw [hv36, show x29.toInt.toNat = (nL (ez_I h 106)) (x25.toInt.toNat) by omega] at k33
          have hb38 : (ez_I h31 71 16).toInt = ((Sk.2 + (nL (ez_I h 106)) (x25.toInt.toNat) : Nat) : Int) := k33.1
          have A37 : mS (ez_I h31 75) (wr Sk ((nL (ez_I h 107)) (x25.toInt.toNat)) ((nL (ez_I h 106)) (x25.toInt.toNat))) := m_mS k33
          have S39 := zW_sh F32 S2
          have F40 := zW_tr F (zW_mono F32 (x63_2) (x63_3) (x63_4))
          have r41 := z_rng (ez_I h31 71 16)
          refine gw_ld rfl rfl ?_
          refine gw_ld rfl rfl ?_
          refine z_gR (q := 77) (zT S39 (by decide) rfl) (zRf S39 (by decide) (by decide) rfl) (by decide) ?_
          refine gw_ld rfl rfl ?_
          refine z_iaV (n := 6000) (zT S39 (by decide) rfl) (zN S39 (by decide) rfl) (by omega) ((zW_f F40 (by decide) (x63_6 _)).trans ex21) ?_
          refine gw_ld rfl rfl ?_
          refine z_gR (q := 92) (zT S39 (by decide) rfl) (zRf S39 (by decide) (by decide) rfl) (by decide) ?_
          refine gw_ld rfl rfl ?_
          refine z_iaV (n := 29) (zT S39 (by decide) rfl) (zN S39 (by decide) rfl) (by omega) (zW_f F40 (by decide) (x63_8 _)) ?_
          generalize ex43 : ez_I h 92 x22.toInt.toNat = x43
          have rx43 := z_rng x43
          have yx43 := t92 x22.toInt.toNat (by omega)
          rw [ex43] at yx43
          refine z_sub (by omega) (fun x44 ex44 => ?_)
          refine gw_ld rfl rfl ?_
          refine z_gR (q := 93) (zT S39 (by decide) rfl) (zRf S39 (by decide) (by decide) rfl) (by decide) ?_
          refine gw_ld rfl rfl ?_
          refine z_iaV (n := 29) (zT S39 (by decide) rfl) (zN S39 (by decide) rfl) (by omega) (zW_f F40 (by decide) (x63_9 _)) ?_
          generalize ex45 : ez_I h 93 x22.toInt.toNat = x45
          have rx45 := z_rng x45
          have yx45 := t93 x22.toInt.toNat (by omega)
          rw [ex45] at yx45
          refine z_cl rfl rfl rfl rfl rfl rfl rfl rfl rfl rfl rfl (zT S39 (by decide) rfl) ?_
          have hq50 : ((wr Sk ((nL (ez_I h 107)) (x25.toInt.toNat)) ((nL (ez_I h 106)) (x25.toInt.toNat)))).2 = Sk.2 + (nL (ez_I h 106)) (x25.toInt.toNat) := rfl
          have hv51 : (x44.toInt % 65536).toNat % 2 ^ x45.toInt.toNat = ((aM (tB (ez_I h 72)) (ez_I h 71 6).toInt.toNat) k.toInt.toNat) - LBf x22.toInt.toNat := by rw [show x45.toInt.toNat = LEf x22.toInt.toNat by omega]; exact wv (by omega) (hkl.2.2) (by omega)
          refine d_wb (s := (wr Sk ((nL (ez_I h 107)) (x25.toInt.toNat)) ((nL (ez_I h 106)) (x25.toInt.toNat)))) (v := x44) (n := x45) S39 (mS_m A37 (by omega)) k34 (by omega) (by omega) (fun h46 F47 k48 k49 => ?_)
          rw [hv51, show x45.toInt.toNat = LEf x22.toInt.toNat by omega] at k48
          have hb53 : (ez_I h46 71 16).toInt = ((Sk.2 + (nL (ez_I h 106)) (x25.toInt.toNat) + LEf x22.toInt.toNat : Nat) : Int) := k48.1
          have A52 : mS (ez_I h46 75) (wr (wr Sk ((nL (ez_I h 107)) (x25.toInt.toNat)) ((nL (ez_I h 106)) (x25.toInt.toNat))) (((aM (tB (ez_I h 72)) (ez_I h 71 6).toInt.toNat) k.toInt.toNat) - LBf x22.toInt.toNat) (LEf x22.toInt.toNat)) := m_mS k48
          have S54 := zW_sh F47 S39
          have F55 := zW_tr F40 (zW_mono F47 (x63_2) (x63_3) (x63_4))
          have r56 := z_rng (ez_I h46 71 16)
          refine gw_ld rfl rfl ?_
          refine gw_ld rfl rfl ?_
          refine z_gR (q := 78) (zT S54 (by decide) rfl) (zRf S54 (by decide) (by decide) rfl) (by decide) ?_
          refine gw_ld rfl rfl ?_
          refine z_iaV (n := 6000) (zT S54 (by decide) rfl) (zN S54 (by decide) rfl) (by omega) ((zW_f F55 (by decide) (x63_5 _)).trans ex19) ?_
          refine z_cl rfl rfl rfl rfl rfl rfl rfl rfl rfl rfl rfl (zT S54 (by decide) rfl) ?_
          have hdi : x19.toInt.toNat = ((dI (tB (ez_I h 72)) (ez_I h 71 6).toInt.toNat) k.toInt.toNat) := by omega
          refine d_kD (n := x19) S54 (by rw [(show ez_I h46 94 = ez_I h 94 from zW_fn F55 94 x63_10 x63_11)]; exact t94) (by omega) (fun x58 k59 => ?_)
          have rx58 := z_rng x58
          have hk9b : x58.toInt.toNat = kD ((dI (tB (ez_I h 72)) (ez_I h 71 6).toInt.toNat) k.toInt.toNat) := by rw [← hdi]; omega
          have hk9 : x58.toInt.toNat = kD ((dI (tB (ez_I h 72)) (ez_I h 71 6).toInt.toNat) k.toInt.toNat) := hk9b
          have hkd := kD_ok (v := ((dI (tB (ez_I h 72)) (ez_I h 71 6).toInt.toNat) k.toInt.toNat)) (by omega)
          rw [← hk9] at hkd
          have hde := DE_13 x58.toInt.toNat
          rw [← hk9] at hibm
          refine gw_st rfl rfl rfl ?_
          show ez_gw _ _ _ _ _ _ _ _ [some (.ref 71), some (.int fr), some (.int to), some (.int pl), some (.ref 106), some (.ref 107), some (.ref 108), some (.ref 109), some (.int p), some (.int k), some (.int x22), some (.int x58)] _ _ _
          refine gw_ld rfl rfl ?_
          refine gw_ld rfl rfl ?_
          refine gw_ld rfl rfl ?_
          refine z_iaV (n := 30) (zT S54 (by decide) rfl) (zN S54 (by decide) rfl) (by omega) (zW_f F55 (by decide) (x63_12 _)) ?_
          generalize ex60 : ez_I h 109 x58.toInt.toNat = x60
          have rx60 := z_rng x60
          skip
          refine gw_ld rfl rfl ?_
          refine gw_ld rfl rfl ?_
          refine z_iaV (n := 30) (zT S54 (by decide) rfl) (zN S54 (by decide) rfl) (by omega) (zW_f F55 (by decide) (x63_13 _)) ?_
          generalize ex61 : ez_I h 108 x58.toInt.toNat = x61
          have rx61 := z_rng x61
          have yx61 := hM x58.toInt.toNat (by omega)
          rw [ex61] at yx61
          refine z_cl rfl rfl rfl rfl rfl rfl rfl rfl rfl rfl rfl (zT S54 (by decide) rfl) ?_
          have y62P : 1 ≤ (nL (ez_I h 108)) (x58.toInt.toNat) := (by rw [hk9]; exact hus.2)
          have y62W := hV (x58.toInt.toNat) (by omega) y62P
          have y62N : (nL (ez_I h 108)) (x58.toInt.toNat) = x61.toInt.toNat := by show (ez_I h 108 _).toInt.toNat = _; rw [ex61]
          have y62V : (nL (ez_I h 109)) (x58.toInt.toNat) = x60.toInt.toNat := by show (ez_I h 109 _).toInt.toNat = _; rw [ex60]
          rw [ex60] at y62W
          have hq67 : ((wr (wr Sk ((nL (ez_I h 107)) (x25.toInt.toNat)) ((nL (ez_I h 106)) (x25.toInt.toNat))) (((aM (tB (ez_I h 72)) (ez_I h 71 6).toInt.toNat) k.toInt.toNat) - LBf x22.toInt.toNat) (LEf x22.toInt.toNat))).2 = Sk.2 + (nL (ez_I h 106)) (x25.toInt.toNat) + LEf x22.toInt.toNat := rfl
          have hv68 : (x60.toInt % 65536).toNat % 2 ^ x61.toInt.toNat = (nL (ez_I h 109)) (x58.toInt.toNat) := by rw [show x61.toInt.toNat = (nL (ez_I h 108)) (x58.toInt.toNat) by omega]; exact wv (by omega) (y62W.2) (by omega)
          refine d_wb (s := (wr (wr Sk ((nL (ez_I h 107)) (x25.toInt.toNat)) ((nL (ez_I h 106)) (x25.toInt.toNat))) (((aM (tB (ez_I h 72)) (ez_I h 71 6).toInt.toNat) k.toInt.toNat) - LBf x22.toInt.toNat) (LEf x22.toInt.toNat))) (v := x60) (n := x61) S54 (mS_m A52 (by omega)) k49 (by omega) (by omega) (fun h63 F64 k65 k66 => ?_)
          rw [hv68, show x61.toInt.toNat = (nL (ez_I h 108)) (x58.toInt.toNat) by omega] at k65
          have hb70 : (ez_I h63 71 16).toInt = ((Sk.2 + (nL (ez_I h 106)) (x25.toInt.toNat) + LEf x22.toInt.toNat + (nL (ez_I h 108)) (x58.toInt.toNat) : Nat) : Int) := k65.1
          have A69 : mS (ez_I h63 75) (wr (wr (wr Sk ((nL (ez_I h 107)) (x25.toInt.toNat)) ((nL (ez_I h 106)) (x25.toInt.toNat))) (((aM (tB (ez_I h 72)) (ez_I h 71 6).toInt.toNat) k.toInt.toNat) - LBf x22.toInt.toNat) (LEf x22.toInt.toNat)) ((nL (ez_I h 109)) (x58.toInt.toNat)) ((nL (ez_I h 108)) (x58.toInt.toNat))) := m_mS k65
          have S71 := zW_sh F64 S54
          have F72 := zW_tr F55 (zW_mono F64 (x63_2) (x63_3) (x63_4))
          have r73 := z_rng (ez_I h63 71 16)
          refine gw_ld rfl rfl ?_
          refine gw_ld rfl rfl ?_
          refine z_gR (q := 78) (zT S71 (by decide) rfl) (zRf S71 (by decide) (by decide) rfl) (by decide) ?_
          refine gw_ld rfl rfl ?_
          refine z_iaV (n := 6000) (zT S71 (by decide) rfl) (zN S71 (by decide) rfl) (by omega) ((zW_f F72 (by decide) (x63_5 _)).trans ex19) ?_
          refine gw_ld rfl rfl ?_
          refine z_gR (q := 94) (zT S71 (by decide) rfl) (zRf S71 (by decide) (by decide) rfl) (by decide) ?_
          refine gw_ld rfl rfl ?_
          refine z_iaV (n := 30) (zT S71 (by decide) rfl) (zN S71 (by decide) rfl) (by omega) (zW_f F72 (by decide) (x63_11 _)) ?_
          generalize ex75 : ez_I h 94 x58.toInt.toNat = x75
          have rx75 := z_rng x75
          have yx75 := t94 x58.toInt.toNat (by omega)
          rw [ex75] at yx75
          refine z_sub (by omega) (fun x76 ex76 => ?_)
          refine gw_ld rfl rfl ?_
          refine z_gR (q := 95) (zT S71 (by decide) rfl) (zRf S71 (by decide) (by decide) rfl) (by decide) ?_
          refine gw_ld rfl rfl ?_
          refine z_iaV (n := 30) (zT S71 (by decide) rfl) (zN S71 (by decide) rfl) (by omega) (zW_f F72 (by decide) (x63_14 _)) ?_
          generalize ex77 : ez_I h 95 x58.toInt.toNat = x77
          have rx77 := z_rng x77
          have yx77 := t95 x58.toInt.toNat (by omega)
          rw [ex77] at yx77
          refine z_cl rfl rfl rfl rfl rfl rfl rfl rfl rfl rfl rfl (zT S71 (by decide) rfl) ?_
          have hq82 : ((wr (wr (wr Sk ((nL (ez_I h 107)) (x25.toInt.toNat)) ((nL (ez_I h 106)) (x25.toInt.toNat))) (((aM (tB (ez_I h 72)) (ez_I h 71 6).toInt.toNat) k.toInt.toNat) - LBf x22.toInt.toNat) (LEf x22.toInt.toNat)) ((nL (ez_I h 109)) (x58.toInt.toNat)) ((nL (ez_I h 108)) (x58.toInt.toNat)))).2 = Sk.2 + (nL (ez_I h 106)) (x25.toInt.toNat) + LEf x22.toInt.toNat + (nL (ez_I h 108)) (x58.toInt.toNat) := rfl
          have hv83 : (x76.toInt % 65536).toNat % 2 ^ x77.toInt.toNat = ((dI (tB (ez_I h 72)) (ez_I h 71 6).toInt.toNat) k.toInt.toNat) - DBf x58.toInt.toNat := by rw [show x77.toInt.toNat = DEf x58.toInt.toNat by omega]; exact wv (by omega) (hkd.2.2) (by omega)
          refine d_wb (s := (wr (wr (wr Sk ((nL (ez_I h 107)) (x25.toInt.toNat)) ((nL (ez_I h 106)) (x25.toInt.toNat))) (((aM (tB (ez_I h 72)) (ez_I h 71 6).toInt.toNat) k.toInt.toNat) - LBf x22.toInt.toNat) (LEf x22.toInt.toNat)) ((nL (ez_I h 109)) (x58.toInt.toNat)) ((nL (ez_I h 108)) (x58.toInt.toNat)))) (v := x76) (n := x77) S71 (mS_m A69 (by omega)) k66 (by omega) (by omega) (fun h78 F79 k80 k81 => ?_)
          rw [hv83, show x77.toInt.toNat = DEf x58.toInt.toNat by omega] at k80
          have hb85 : (ez_I h78 71 16).toInt = ((Sk.2 + (nL (ez_I h 106)) (x25.toInt.toNat) + LEf x22.toInt.toNat + (nL (ez_I h 108)) (x58.toInt.toNat) + DEf x58.toInt.toNat : Nat) : Int) := k80.1
          have A84 : mS (ez_I h78 75) (wr (wr (wr (wr Sk ((nL (ez_I h 107)) (x25.toInt.toNat)) ((nL (ez_I h 106)) (x25.toInt.toNat))) (((aM (tB (ez_I h 72)) (ez_I h 71 6).toInt.toNat) k.toInt.toNat) - LBf x22.toInt.toNat) (LEf x22.toInt.toNat)) ((nL (ez_I h 109)) (x58.toInt.toNat)) ((nL (ez_I h 108)) (x58.toInt.toNat))) (((dI (tB (ez_I h 72)) (ez_I h 71 6).toInt.toNat) k.toInt.toNat) - DBf x58.toInt.toNat) (DEf x58.toInt.toNat)) := m_mS k80
          have S86 := zW_sh F79 S71
          have F87 := zW_tr F72 (zW_mono F79 (x63_2) (x63_3) (x63_4))
          have r88 := z_rng (ez_I h78 71 16)
          have hfin : (wps (aM (tB (ez_I h 72)) (ez_I h 71 6).toInt.toNat) (dI (tB (ez_I h 72)) (ez_I h 71 6).toInt.toNat) (nL (ez_I h 107)) (nL (ez_I h 106)) (nL (ez_I h 109)) (nL (ez_I h 108)) s fr.toInt.toNat ((k.toInt.toNat - fr.toInt.toNat) + 1)) = (wr (wr (wr (wr Sk ((nL (ez_I h 107)) (x25.toInt.toNat)) ((nL (ez_I h 106)) (x25.toInt.toNat))) (((aM (tB (ez_I h 72)) (ez_I h 71 6).toInt.toNat) k.toInt.toNat) - LBf x22.toInt.toNat) (LEf x22.toInt.toNat)) ((nL (ez_I h 109)) (x58.toInt.toNat)) ((nL (ez_I h 108)) (x58.toInt.toNat))) (((dI (tB (ez_I h 72)) (ez_I h 71 6).toInt.toNat) k.toInt.toNat) - DBf x58.toInt.toNat) (DEf x58.toInt.toNat)) := by
            show wpt (aM (tB (ez_I h 72)) (ez_I h 71 6).toInt.toNat) (dI (tB (ez_I h 72)) (ez_I h 71 6).toInt.toNat) (nL (ez_I h 107)) (nL (ez_I h 106)) (nL (ez_I h 109)) (nL (ez_I h 108)) (wps (aM (tB (ez_I h 72)) (ez_I h 71 6).toInt.toNat) (dI (tB (ez_I h 72)) (ez_I h 71 6).toInt.toNat) (nL (ez_I h 107)) (nL (ez_I h 106)) (nL (ez_I h 109)) (nL (ez_I h 108)) s fr.toInt.toNat (k.toInt.toNat - fr.toInt.toNat)) (fr.toInt.toNat + (k.toInt.toNat - fr.toInt.toNat)) = _
            rw [← hSk, show fr.toInt.toNat + (k.toInt.toNat - fr.toInt.toNat) = k.toInt.toNat by omega]
            unfold wpt
            rw [if_neg (by omega), ← hk8, ← hk9, show 257 + x22.toInt.toNat = x25.toInt.toNat by omega]
          refine gw_ld rfl rfl ?_
          refine gw_ld rfl rfl ?_
          refine z_gR (q := 77) (zT S86 (by decide) rfl) (zRf S86 (by decide) (by decide) rfl) (by decide) ?_
          refine gw_ld rfl rfl ?_
          refine z_iaV (n := 6000) (zT S86 (by decide) rfl) (zN S86 (by decide) rfl) (by omega) ((zW_f F87 (by decide) (x63_6 _)).trans ex21) ?_
          refine z_add (by omega) (fun x90 ex90 => ?_)
          refine gw_st rfl rfl rfl ?_
          show ez_gw _ _ _ _ _ _ _ _ [some (.ref 71), some (.int fr), some (.int to), some (.int pl), some (.ref 106), some (.ref 107), some (.ref 108), some (.ref 109), some (.int x90), some (.int k), some (.int x22), some (.int x58)] _ _ _
          refine z_inc rfl (by rw [show (1 : Int32).toInt = 1 from rfl]; omega) (fun x91 ex91 => ?_)
          rw [show (1 : Int32).toInt = 1 from rfl] at ex91
          show ez_gw _ _ _ _ _ _ _ _ [some (.ref 71), some (.int fr), some (.int to), some (.int pl), some (.ref 106), some (.ref 107), some (.ref 108), some (.ref 109), some (.int x90), some (.int x91), some (.int x22), some (.int x58)] _ _ _
          refine z_go ?_
          exact ih h78 x90 x91 (some (.int x22)) (some (.int x58)) F87 (⟨by omega, by omega, by rw [show x91.toInt.toNat = k.toInt.toNat + 1 by omega, hpn]; omega, by rw [show x91.toInt.toNat - fr.toInt.toNat = (k.toInt.toNat - fr.toInt.toNat) + 1 by omega, show (wps (aM (tB (ez_I h 72)) (ez_I h 71 6).toInt.toNat) (dI (tB (ez_I h 72)) (ez_I h 71 6).toInt.toNat) (nL (ez_I h 107)) (nL (ez_I h 106)) (nL (ez_I h 109)) (nL (ez_I h 108)) s fr.toInt.toNat ((k.toInt.toNat - fr.toInt.toNat) + 1)) = (wr (wr (wr (wr Sk ((nL (ez_I h 107)) (x25.toInt.toNat)) ((nL (ez_I h 106)) (x25.toInt.toNat))) (((aM (tB (ez_I h 72)) (ez_I h 71 6).toInt.toNat) k.toInt.toNat) - LBf x22.toInt.toNat) (LEf x22.toInt.toNat)) ((nL (ez_I h 109)) (x58.toInt.toNat)) ((nL (ez_I h 108)) (x58.toInt.toNat))) (((dI (tB (ez_I h 72)) (ez_I h 71 6).toInt.toNat) k.toInt.toNat) - DBf x58.toInt.toNat) (DEf x58.toInt.toNat)) from hfin]; show _ = ((Sk.2 + (nL (ez_I h 106)) (x25.toInt.toNat) + LEf x22.toInt.toNat + (nL (ez_I h 108)) (x58.toInt.toNat) + DEf x58.toInt.toNat : Nat) : Int); omega⟩) ((by rw [show x91.toInt.toNat - fr.toInt.toNat = (k.toInt.toNat - fr.toInt.toNat) + 1 by omega, show (wps (aM (tB (ez_I h 72)) (ez_I h 71 6).toInt.toNat) (dI (tB (ez_I h 72)) (ez_I h 71 6).toInt.toNat) (nL (ez_I h 107)) (nL (ez_I h 106)) (nL (ez_I h 109)) (nL (ez_I h 108)) s fr.toInt.toNat ((k.toInt.toNat - fr.toInt.toNat) + 1)) = (wr (wr (wr (wr Sk ((nL (ez_I h 107)) (x25.toInt.toNat)) ((nL (ez_I h 106)) (x25.toInt.toNat))) (((aM (tB (ez_I h 72)) (ez_I h 71 6).toInt.toNat) k.toInt.toNat) - LBf x22.toInt.toNat) (LEf x22.toInt.toNat)) ((nL (ez_I h 109)) (x58.toInt.toNat)) ((nL (ez_I h 108)) (x58.toInt.toNat))) (((dI (tB (ez_I h 72)) (ez_I h 71 6).toInt.toNat) k.toInt.toNat) - DBf x58.toInt.toNat) (DEf x58.toInt.toNat)) from hfin]; exact A84)) (k81) (by omega)
        · have c20 : ¬ (x19.toInt ≠ 0) := c20
          replace hrg := hrg.resolve_right (fun q => by omega)
          replace hus := hus.1
          refine gw_ld rfl rfl ?_
          refine z_gR (q := 72) (zT S2 (by decide) rfl) (zRf S2 (by decide) (by decide) rfl) (by decide) ?_
          refine gw_ld rfl rfl ?_
          refine z_baV (n := 6000) (zT S2 (by decide) rfl) (zN S2 (by decide) rfl) (by omega) (zW_f F (by decide) (x63_15 _)) ?_
          generalize ex92 : ez_I h 72 p.toInt.toNat = x92
          have rx92 := z_rng x92
          refine z_C (m := 255) rfl rfl (fun x93 ex93 => ?_)
          refine z_and (fun x94 ex94 ux94 wx94 => ?_)
          have rx94 := z_rng x94
          replace ux94 := ux94 (by omega)
          clear wx94
          have vx94 := n_mask (k := 8) (by decide) (by omega) ex94
          rw [show (2 : Int) ^ 8 = 256 from rfl] at vx94
          have ham : x94.toInt.toNat = ((aM (tB (ez_I h 72)) (ez_I h 71 6).toInt.toNat) k.toInt.toNat) := by have q1 : x94.toInt = (tB (ez_I h 72)) (ptP (tB (ez_I h 72)) (ez_I h 71 6).toInt.toNat k.toInt.toNat) := (by show x94.toInt = (ez_I h 72 (ptP (tB (ez_I h 72)) (ez_I h 71 6).toInt.toNat k.toInt.toNat)).toInt % 256; rw [show ptP (tB (ez_I h 72)) (ez_I h 71 6).toInt.toNat k.toInt.toNat = p.toInt.toNat by omega, ex92]; exact vx94); omega
          have hsy : lSy (aM (tB (ez_I h 72)) (ez_I h 71 6).toInt.toNat) (dI (tB (ez_I h 72)) (ez_I h 71 6).toInt.toNat) k.toInt.toNat = x94.toInt.toNat := by unfold lSy; rw [if_pos (by omega), ham]
          have hibm : ibN (aM (tB (ez_I h 72)) (ez_I h 71 6).toInt.toNat) (dI (tB (ez_I h 72)) (ez_I h 71 6).toInt.toNat) (nL (ez_I h 106)) (nL (ez_I h 108)) k.toInt.toNat = (nL (ez_I h 106)) x94.toInt.toNat := by unfold ibN; rw [if_pos (by omega), ham]
          rw [hsy] at hus
          refine gw_st rfl rfl rfl ?_
          show ez_gw _ _ _ _ _ _ _ _ [some (.ref 71), some (.int fr), some (.int to), some (.int pl), some (.ref 106), some (.ref 107), some (.ref 108), some (.ref 109), some (.int p), some (.int k), some (.int x94), l11] _ _ _
          refine gw_ld rfl rfl ?_
          refine gw_ld rfl rfl ?_
          refine gw_ld rfl rfl ?_
          refine z_iaV (n := 288) (zT S2 (by decide) rfl) (zN S2 (by decide) rfl) (by omega) (zW_f F (by decide) (x63_0 _)) ?_
          generalize ex95 : ez_I h 107 x94.toInt.toNat = x95
          have rx95 := z_rng x95
          skip
          refine gw_ld rfl rfl ?_
          refine gw_ld rfl rfl ?_
          refine z_iaV (n := 288) (zT S2 (by decide) rfl) (zN S2 (by decide) rfl) (by omega) (zW_f F (by decide) (x63_1 _)) ?_
          generalize ex96 : ez_I h 106 x94.toInt.toNat = x96
          have rx96 := z_rng x96
          have yx96 := hL x94.toInt.toNat (by omega)
          rw [ex96] at yx96
          refine z_cl rfl rfl rfl rfl rfl rfl rfl rfl rfl rfl rfl (zT S2 (by decide) rfl) ?_
          have y97P : 1 ≤ (nL (ez_I h 106)) (x94.toInt.toNat) := hus
          have y97W := hW (x94.toInt.toNat) (by omega) y97P
          have y97N : (nL (ez_I h 106)) (x94.toInt.toNat) = x96.toInt.toNat := by show (ez_I h 106 _).toInt.toNat = _; rw [ex96]
          have y97V : (nL (ez_I h 107)) (x94.toInt.toNat) = x95.toInt.toNat := by show (ez_I h 107 _).toInt.toNat = _; rw [ex95]
          rw [ex95] at y97W
          have hq102 : (Sk).2 = Sk.2 := rfl
          have hv103 : (x95.toInt % 65536).toNat % 2 ^ x96.toInt.toNat = (nL (ez_I h 107)) (x94.toInt.toNat) := by rw [show x96.toInt.toNat = (nL (ez_I h 106)) (x94.toInt.toNat) by omega]; exact wv (by omega) (y97W.2) (by omega)
          refine d_wb (s := Sk) (v := x95) (n := x96) S2 (mS_m A_st (by omega)) A_hg (by omega) (by omega) (fun h98 F99 k100 k101 => ?_)
          rw [hv103, show x96.toInt.toNat = (nL (ez_I h 106)) (x94.toInt.toNat) by omega] at k100
          have hb105 : (ez_I h98 71 16).toInt = ((Sk.2 + (nL (ez_I h 106)) (x94.toInt.toNat) : Nat) : Int) := k100.1
          have A104 : mS (ez_I h98 75) (wr Sk ((nL (ez_I h 107)) (x94.toInt.toNat)) ((nL (ez_I h 106)) (x94.toInt.toNat))) := m_mS k100
          have S106 := zW_sh F99 S2
          have F107 := zW_tr F (zW_mono F99 (x63_2) (x63_3) (x63_4))
          have r108 := z_rng (ez_I h98 71 16)
          refine z_go ?_
          refine gw_skip _ ?_
          have hfin : (wps (aM (tB (ez_I h 72)) (ez_I h 71 6).toInt.toNat) (dI (tB (ez_I h 72)) (ez_I h 71 6).toInt.toNat) (nL (ez_I h 107)) (nL (ez_I h 106)) (nL (ez_I h 109)) (nL (ez_I h 108)) s fr.toInt.toNat ((k.toInt.toNat - fr.toInt.toNat) + 1)) = (wr Sk ((nL (ez_I h 107)) (x94.toInt.toNat)) ((nL (ez_I h 106)) (x94.toInt.toNat))) := by
            show wpt (aM (tB (ez_I h 72)) (ez_I h 71 6).toInt.toNat) (dI (tB (ez_I h 72)) (ez_I h 71 6).toInt.toNat) (nL (ez_I h 107)) (nL (ez_I h 106)) (nL (ez_I h 109)) (nL (ez_I h 108)) (wps (aM (tB (ez_I h 72)) (ez_I h 71 6).toInt.toNat) (dI (tB (ez_I h 72)) (ez_I h 71 6).toInt.toNat) (nL (ez_I h 107)) (nL (ez_I h 106)) (nL (ez_I h 109)) (nL (ez_I h 108)) s fr.toInt.toNat (k.toInt.toNat - fr.toInt.toNat)) (fr.toInt.toNat + (k.toInt.toNat - fr.toInt.toNat)) = _
            rw [← hSk, show fr.toInt.toNat + (k.toInt.toNat - fr.toInt.toNat) = k.toInt.toNat by omega]
            unfold wpt
            rw [if_pos (by omega), ← ham]
          refine gw_ld rfl rfl ?_
          refine gw_ld rfl rfl ?_
          refine z_gR (q := 77) (zT S106 (by decide) rfl) (zRf S106 (by decide) (by decide) rfl) (by decide) ?_
          refine gw_ld rfl rfl ?_
          refine z_iaV (n := 6000) (zT S106 (by decide) rfl) (zN S106 (by decide) rfl) (by omega) (zW_f F107 (by decide) (x63_6 _)) ?_
          generalize ex109 : ez_I h 77 k.toInt.toNat = x109
          have rx109 := z_rng x109
          rw [show k.toInt.toNat = k.toInt.toNat by omega, ex109] at pm1
          rw [show k.toInt.toNat = k.toInt.toNat by omega] at pm1
          refine z_add (by omega) (fun x110 ex110 => ?_)
          refine gw_st rfl rfl rfl ?_
          show ez_gw _ _ _ _ _ _ _ _ [some (.ref 71), some (.int fr), some (.int to), some (.int pl), some (.ref 106), some (.ref 107), some (.ref 108), some (.ref 109), some (.int x110), some (.int k), some (.int x94), l11] _ _ _
          refine z_inc rfl (by rw [show (1 : Int32).toInt = 1 from rfl]; omega) (fun x111 ex111 => ?_)
          rw [show (1 : Int32).toInt = 1 from rfl] at ex111
          show ez_gw _ _ _ _ _ _ _ _ [some (.ref 71), some (.int fr), some (.int to), some (.int pl), some (.ref 106), some (.ref 107), some (.ref 108), some (.ref 109), some (.int x110), some (.int x111), some (.int x94), l11] _ _ _
          refine z_go ?_
          exact ih h98 x110 x111 (some (.int x94)) (l11) F107 (⟨by omega, by omega, by rw [show x111.toInt.toNat = k.toInt.toNat + 1 by omega, hpn]; omega, by rw [show x111.toInt.toNat - fr.toInt.toNat = (k.toInt.toNat - fr.toInt.toNat) + 1 by omega, show (wps (aM (tB (ez_I h 72)) (ez_I h 71 6).toInt.toNat) (dI (tB (ez_I h 72)) (ez_I h 71 6).toInt.toNat) (nL (ez_I h 107)) (nL (ez_I h 106)) (nL (ez_I h 109)) (nL (ez_I h 108)) s fr.toInt.toNat ((k.toInt.toNat - fr.toInt.toNat) + 1)) = (wr Sk ((nL (ez_I h 107)) (x94.toInt.toNat)) ((nL (ez_I h 106)) (x94.toInt.toNat))) from hfin]; show _ = ((Sk.2 + (nL (ez_I h 106)) (x94.toInt.toNat) : Nat) : Int); omega⟩) ((by rw [show x111.toInt.toNat - fr.toInt.toNat = (k.toInt.toNat - fr.toInt.toNat) + 1 by omega, show (wps (aM (tB (ez_I h 72)) (ez_I h 71 6).toInt.toNat) (dI (tB (ez_I h 72)) (ez_I h 71 6).toInt.toNat) (nL (ez_I h 107)) (nL (ez_I h 106)) (nL (ez_I h 109)) (nL (ez_I h 108)) s fr.toInt.toNat ((k.toInt.toNat - fr.toInt.toNat) + 1)) = (wr Sk ((nL (ez_I h 107)) (x94.toInt.toNat)) ((nL (ez_I h 106)) (x94.toInt.toNat))) from hfin]; exact A104)) (k101) (by omega)
set_option maxRecDepth 4000 in
set_option maxHeartbeats 2000000 in
theorem d_wPartsA {E : Nat → Nat × (Nat → Int32)} {d : Nat} {Q : ez_Q} {h : ez_H} {fr : Int32} {to : Int32} {pl : Int32} (S : zSh h) {s : Nat × Nat} {c : Nat} (hz : 0 ≤ (ez_I h 71 6).toInt ∧ (ez_I h 71 6).toInt ≤ 6000) (hT : ∀ i, i < (ez_I h 71 6).toInt.toNat → 0 ≤ (tB (ez_I h 72)) i ∧ (tB (ez_I h 72)) i ≤ 255) (hs : mst (ez_I h 75) (ez_I h 71 16).toInt s) (hg : aR (ez_I h 75) 8000 (-128) 127) (hpm : pmI (ez_I h 77) (ez_I h 78) (ez_I h 79) (ez_I h 80) (tB (ez_I h 72)) (ez_I h 71 6).toInt.toNat c) (hlt : ltP (tB (ez_I h 72)) (ez_I h 71 6).toInt.toNat c) (hc : c ≤ 6000) (hf : 0 ≤ fr.toInt ∧ fr.toInt ≤ to.toInt ∧ to.toInt ≤ c) (hpl : pl.toInt = (ptP (tB (ez_I h 72)) (ez_I h 71 6).toInt.toNat fr.toInt.toNat : Nat)) (hL : aR (ez_I h 106) 286 0 15) (hM : aR (ez_I h 108) 30 0 15) (hW : ∀ k, k < 286 → 1 ≤ nL (ez_I h 106) k → 0 ≤ (ez_I h 107 k).toInt ∧ nL (ez_I h 107) k < 2 ^ nL (ez_I h 106) k) (hV : ∀ k, k < 30 → 1 ≤ nL (ez_I h 108) k → 0 ≤ (ez_I h 109 k).toInt ∧ nL (ez_I h 109) k < 2 ^ nL (ez_I h 108) k) (hu_ : ∀ k, (fr.toInt.toNat ≤ k ∧ k < to.toInt.toNat) → 1 ≤ (nL (ez_I h 106)) (lSy (aM (tB (ez_I h 72)) (ez_I h 71 6).toInt.toNat) (dI (tB (ez_I h 72)) (ez_I h 71 6).toInt.toNat) k) ∧ ((dI (tB (ez_I h 72)) (ez_I h 71 6).toInt.toNat) k ≠ 0 → 1 ≤ (nL (ez_I h 108)) (kD ((dI (tB (ez_I h 72)) (ez_I h 71 6).toInt.toNat) k)))) (hu6 : 1 ≤ (nL (ez_I h 106)) 256) (hr : (wr (wps (aM (tB (ez_I h 72)) (ez_I h 71 6).toInt.toNat) (dI (tB (ez_I h 72)) (ez_I h 71 6).toInt.toNat) (nL (ez_I h 107)) (nL (ez_I h 106)) (nL (ez_I h 109)) (nL (ez_I h 108)) s fr.toInt.toNat (to.toInt.toNat - fr.toInt.toNat)) ((nL (ez_I h 107)) 256) ((nL (ez_I h 106)) 256)).2 ≤ 64000) (t92 : ctI (ez_I h 92) LBf 29) (t93 : ctI (ez_I h 93) LEf 29) (t94 : ctI (ez_I h 94) DBf 30) (t95 : ctI (ez_I h 95) DEf 30) (K : ∀ h2, zW (fun q k => q = 71 ∧ k = 16) (fun q => q = 75) (fun _ => False) h h2 → mst (ez_I h2 75) (ez_I h2 71 16).toInt (wr (wps (aM (tB (ez_I h 72)) (ez_I h 71 6).toInt.toNat) (dI (tB (ez_I h 72)) (ez_I h 71 6).toInt.toNat) (nL (ez_I h 107)) (nL (ez_I h 106)) (nL (ez_I h 109)) (nL (ez_I h 108)) s fr.toInt.toNat (to.toInt.toNat - fr.toInt.toNat)) ((nL (ez_I h 107)) 256) ((nL (ez_I h 106)) 256)) → aR (ez_I h2 75) 8000 (-128) 127 → Q (.inl none) h2) : pw E (d + 1) 40 0 [some (.ref 71), some (.int fr), some (.int to), some (.int pl), some (.ref 106), some (.ref 107), some (.ref 108), some (.ref 109), none, none, none, none] [] h Q := by
  have gfr := z_rng fr
  have gto := z_rng to
  have gpl := z_rng pl
  have F := zW_refl (fun q k => q = 71 ∧ k = 16) (fun q => q = 75) (fun _ => False) h
  apply ez_Wp_in
  show ez_gw _ _ _ _ _ _ (cz_40) _ _ _ _ _
  refine gw_skip _ ?_
  have r1 := z_rng (ez_I h 71 16)
  refine gw_ld rfl rfl ?_
  refine gw_st rfl rfl rfl ?_
  show ez_gw _ _ _ _ _ _ _ _ [some (.ref 71), some (.int fr), some (.int to), some (.int pl), some (.ref 106), some (.ref 107), some (.ref 108), some (.ref 109), some (.int pl), none, none, none] _ _ _
  refine gw_ld rfl rfl ?_
  refine gw_st rfl rfl rfl ?_
  show ez_gw _ _ _ _ _ _ _ _ [some (.ref 71), some (.int fr), some (.int to), some (.int pl), some (.ref 106), some (.ref 107), some (.ref 108), some (.ref 109), some (.int pl), some (.int fr), none, none] _ _ _
  exact ez_Wp_at ((d_wPartsA_L0 (fr := fr) (to := to) (pl := pl) S hz hT hs hg hpm hlt hc hf hpl hL hM hW hV hu_ hu6 hr t92 t93 t94 t95 K (((100000 - fr.toInt)).toNat + 1)) h pl fr (none) (none) F (⟨by omega, by omega, by rw [show fr.toInt.toNat = fr.toInt.toNat by omega]; omega, by rw [show fr.toInt.toNat - fr.toInt.toNat = 0 by omega]; exact hs.1⟩) ((by rw [show fr.toInt.toNat - fr.toInt.toNat = 0 by omega]; exact m_mS hs)) (hg) (by omega)) rfl
