/-! PRINTED by wip/pack: the model writes a block: the head -/
theorem x71_52 : ¬ (72 = 75 ∨ 103 ≤ 72 ∧ 72 ≤ 105 ∨ 72 = 115 ∨ 72 = 116) := by omega
theorem x71_53 : ∀ k : Nat, ¬ (72 = 71 ∧ k = 16) := fun k c => by omega
theorem x71_54 : ¬ (77 = 75 ∨ 103 ≤ 77 ∧ 77 ≤ 105 ∨ 77 = 115 ∨ 77 = 116) := by omega
theorem x71_55 : ∀ k : Nat, ¬ (77 = 71 ∧ k = 16) := fun k c => by omega
theorem x71_56 : ¬ (78 = 75 ∨ 103 ≤ 78 ∧ 78 ≤ 105 ∨ 78 = 115 ∨ 78 = 116) := by omega
theorem x71_57 : ∀ k : Nat, ¬ (78 = 71 ∧ k = 16) := fun k c => by omega
theorem x71_58 : ¬ (79 = 75 ∨ 103 ≤ 79 ∧ 79 ≤ 105 ∨ 79 = 115 ∨ 79 = 116) := by omega
theorem x71_59 : ∀ k : Nat, ¬ (79 = 71 ∧ k = 16) := fun k c => by omega
theorem x71_60 : ¬ (80 = 75 ∨ 103 ≤ 80 ∧ 80 ≤ 105 ∨ 80 = 115 ∨ 80 = 116) := by omega
theorem x71_61 : ∀ k : Nat, ¬ (80 = 71 ∧ k = 16) := fun k c => by omega
theorem x71_62 : ¬ (92 = 75 ∨ 103 ≤ 92 ∧ 92 ≤ 105 ∨ 92 = 115 ∨ 92 = 116) := by omega
theorem x71_63 : ∀ k : Nat, ¬ (92 = 71 ∧ k = 16) := fun k c => by omega
theorem x71_64 : ¬ (93 = 75 ∨ 103 ≤ 93 ∧ 93 ≤ 105 ∨ 93 = 115 ∨ 93 = 116) := by omega
theorem x71_65 : ∀ k : Nat, ¬ (93 = 71 ∧ k = 16) := fun k c => by omega
theorem x71_66 : ¬ (94 = 75 ∨ 103 ≤ 94 ∧ 94 ≤ 105 ∨ 94 = 115 ∨ 94 = 116) := by omega
theorem x71_67 : ∀ k : Nat, ¬ (94 = 71 ∧ k = 16) := fun k c => by omega
theorem x71_68 : ¬ (95 = 75 ∨ 103 ≤ 95 ∧ 95 ≤ 105 ∨ 95 = 115 ∨ 95 = 116) := by omega
theorem x71_69 : ∀ k : Nat, ¬ (95 = 71 ∧ k = 16) := fun k c => by omega
theorem x71_70 : ¬ (96 = 75 ∨ 103 ≤ 96 ∧ 96 ≤ 105 ∨ 96 = 115 ∨ 96 = 116) := by omega
theorem x71_71 : ∀ k : Nat, ¬ (96 = 71 ∧ k = 16) := fun k c => by omega
theorem x71_72 : ¬ (100 = 75 ∨ 103 ≤ 100 ∧ 100 ≤ 105 ∨ 100 = 115 ∨ 100 = 116) := by omega
theorem x71_73 : ∀ k : Nat, ¬ (100 = 71 ∧ k = 16) := fun k c => by omega
theorem x71_74 : ¬ (101 = 75 ∨ 103 ≤ 101 ∧ 101 ≤ 105 ∨ 101 = 115 ∨ 101 = 116) := by omega
theorem x71_75 : ∀ k : Nat, ¬ (101 = 71 ∧ k = 16) := fun k c => by omega
theorem x71_76 : ¬ (102 = 75 ∨ 103 ≤ 102 ∧ 102 ≤ 105 ∨ 102 = 115 ∨ 102 = 116) := by omega
theorem x71_77 : ∀ k : Nat, ¬ (102 = 71 ∧ k = 16) := fun k c => by omega
theorem x71_78 : ¬ (117 = 75 ∨ 103 ≤ 117 ∧ 117 ≤ 105 ∨ 117 = 115 ∨ 117 = 116) := by omega
theorem x71_79 : ∀ k : Nat, ¬ (117 = 71 ∧ k = 16) := fun k c => by omega
theorem x71_80 : ¬ (118 = 75 ∨ 103 ≤ 118 ∧ 118 ≤ 105 ∨ 118 = 115 ∨ 118 = 116) := by omega
theorem x71_81 : ∀ k : Nat, ¬ (118 = 71 ∧ k = 16) := fun k c => by omega
theorem x71_82 : ∀ q k : Nat, (q = 71 ∧ k = 16) → (q = 71 ∧ k = 16) := fun q k hk => hk
theorem x71_83 : ∀ q : Nat, (q = 75 ∨ 103 ≤ q ∧ q ≤ 105 ∨ q = 115 ∨ q = 116) → (q = 75 ∨ 103 ≤ q ∧ q ≤ 105 ∨ q = 115 ∨ q = 116) := fun q hk => hk.elim (fun g => (.inl g)) (fun hk => hk.elim (fun g => (.inr (.inl g))) (fun hk => hk.elim (fun g => (.inr (.inr (.inl g)))) (fun hk => (.inr (.inr (.inr hk))))))
theorem x71_84 : ∀ q : Nat, (False) → (False) := fun q hk => hk.elim
theorem x71_85 : ∀ q : Nat, (q = 75 ∨ q = 103 ∨ q = 104 ∨ q = 115 ∨ q = 116) → (q = 75 ∨ 103 ≤ q ∧ q ≤ 105 ∨ q = 115 ∨ q = 116) := fun q hk => hk.elim (fun g => (.inl g)) (fun hk => hk.elim (fun g => (.inr (.inl (show 103 ≤ q ∧ q ≤ 105 by omega)))) (fun hk => hk.elim (fun g => (.inr (.inl (show 103 ≤ q ∧ q ≤ 105 by omega)))) (fun hk => hk.elim (fun g => (.inr (.inr (.inl g)))) (fun hk => (.inr (.inr (.inr hk)))))))
theorem x71_86 : ∀ q : Nat, (q = 75) → (q = 75 ∨ 103 ≤ q ∧ q ≤ 105 ∨ q = 115 ∨ q = 116) := fun q hk => (.inl hk)
theorem x71_87 : ∀ k : Nat, ¬ (105 = 71 ∧ k = 16) := fun k c => by omega
set_option maxRecDepth 4000 in
set_option maxHeartbeats 2000000 in
theorem w_s2_L1 {E : Nat → Nat × (Nat → Int32)} {d : Nat} {Q : ez_Q} {h : ez_H} {fr : Int32} {to : Int32} {pl : Int32} {my : Int32} {ls : Int32} {l6 : Option Value} {l7 : Option Value} {l8 : Option Value} {od : Int32} {l10 : Option Value} {l11 : Option Value} {l12 : Option Value} {l13 : Option Value} {l14 : Option Value} {b15 : Int32} {l16 : Option Value} (S : zSh h) {T : Nat → Int} {n c a J : Nat} {s1 : Nat × Nat} (hC : mbC (ez_I h 72) (ez_I h 77) (ez_I h 78) (ez_I h 79) (ez_I h 80) (ez_I h 92) (ez_I h 93) (ez_I h 94) (ez_I h 95) (ez_I h 96) T n c) (hA : mbA fr to pl my T n c a J) (hF : mbF (ez_I h 100) (ez_I h 101) (ez_I h 102) (ez_I h 117) (ez_I h 118) T n a J) (hT : mbT (ez_I h 71 56) (ez_I h 71 57) (ez_I h 71 58) T n a J) (hod : od.toInt = ((bkO T n a J) : Nat)) (hs : mS (ez_I h 75) s1) (hb : (ez_I h 71 16).toInt = (s1.2 : Nat)) (hg : aR (ez_I h 75) 8000 (-128) 127) (hr : (bkP T n a J (bkL T n a J) (bkE T n a J) (bkH T n a J s1)).2 ≤ 64000) (K : ∀ h2, zW (fun q k => q = 71 ∧ k = 16) (fun q => q = 75 ∨ 103 ≤ q ∧ q ≤ 105 ∨ q = 115 ∨ q = 116) (fun _ => False) h h2 → mst (ez_I h2 75) (ez_I h2 71 16).toInt (bkP T n a J (bkL T n a J) (bkE T n a J) (bkH T n a J s1)) → aR (ez_I h2 75) 8000 (-128) 127 → Q (.inl none) h2) : ∀ N : Nat, (∀ (h2 : ez_H) (k : Int32) , zW (fun q k => q = 71 ∧ k = 16) (fun q => q = 75 ∨ 103 ≤ q ∧ q ≤ 105 ∨ q = 115 ∨ q = 116) (fun _ => False) h h2 → (0 ≤ k.toInt ∧ k.toInt ≤ (bkR T n a J) ∧ (ez_I h2 71 16).toInt = ((sS (cdN (bkA T n a J) 288) (bkA T n a J) (rowF (bkL T n a J) (bkE T n a J)) (rowM (bkL T n a J) (bkE T n a J)) (oS (bkA T n a J) (hdS (tdM (bkL T n a J) 257 29) (tdM (bkE T n a J) 1 29) (bkO T n a J) s1) (bkO T n a J)) k.toInt.toNat).2 : Nat)) → (mS (ez_I h2 75) (sS (cdN (bkA T n a J) 288) (bkA T n a J) (rowF (bkL T n a J) (bkE T n a J)) (rowM (bkL T n a J) (bkE T n a J)) (oS (bkA T n a J) (hdS (tdM (bkL T n a J) 257 29) (tdM (bkE T n a J) 1 29) (bkO T n a J) s1) (bkO T n a J)) k.toInt.toNat)) → (aR (ez_I h2 75) 8000 (-128) 127) → (wdI (ez_I h2 105) (nL (ez_I h 102)) 19 19) → (1000 - k.toInt) < (N : Int) → pw E (d + 2) 44 1002 [some (.ref 71), some (.int fr), some (.int to), some (.int pl), some (.int my), some (.int ls), l6, l7, l8, some (.int od), l10, l11, l12, l13, l14, some (.int b15), some (.int k)] [] h2 Q) := by
  intro N
  induction N with
  | zero => exact fun h2 k  F hinv A_st A_hg A_wd105 hm => absurd hm (by have hr316 := hF.2.2.2.2.2; have w_k := z_rng k; have gfr := z_rng fr; have gto := z_rng to; have gpl := z_rng pl; have gmy := z_rng my; have gls := z_rng ls; have god := z_rng od; have gb15 := z_rng b15; omega)
  | succ N ih =>
    refine fun h2 k  F hinv A_st A_hg A_wd105 hm => ?_
    · skip
      have hr316 := hF.2.2.2.2.2
      have w_k := z_rng k
      have gfr := z_rng fr
      have gto := z_rng to
      have gpl := z_rng pl
      have gmy := z_rng my
      have gls := z_rng ls
      have god := z_rng od
      have gb15 := z_rng b15
      have S2 := zW_sh F S
      obtain ⟨hk0, hkO, hbb⟩ := hinv
      have hss : (sS (cdN (bkA T n a J) 288) (bkA T n a J) (rowF (bkL T n a J) (bkE T n a J)) (rowM (bkL T n a J) (bkE T n a J)) (oS (bkA T n a J) (hdS (tdM (bkL T n a J) 257 29) (tdM (bkE T n a J) 1 29) (bkO T n a J) s1) (bkO T n a J)) k.toInt.toNat).2 = s1.2 + 14 + 3 * (bkO T n a J) + sN (fun q => (bkA T n a J) (tS (rowF (bkL T n a J) (bkE T n a J)) (rowM (bkL T n a J) (bkE T n a J)) q) + rEf (tS (rowF (bkL T n a J) (bkE T n a J)) (rowM (bkL T n a J) (bkE T n a J)) q)) k.toInt.toNat := by rw [sS_2, oS_2]; show s1.2 + 5 + 5 + 4 + 3 * (bkO T n a J) + _ = _; omega
      obtain ⟨hx6, hx7, hx8⟩ := id hT
      have ho := tdM_rng (fun q => (bkA T n a J) (ORf q)) 4 15
      have ho2 : (bkO T n a J) = tdM (fun q => (bkA T n a J) (ORf q)) 4 15 := rfl
      have htd1 := tdM_rng (bkL T n a J) 257 29
      have htd2 := tdM_rng (bkE T n a J) 1 29
      have hhr := hd_bd hr
      apply ez_Wp_in
      show ez_gw _ _ _ _ _ _ (cz_44) _ _ _ _ _
      refine gw_skip _ ?_
      have r1 := z_rng (ez_I h2 71 16)
      refine gw_ld rfl rfl ?_
      refine gw_ld rfl rfl ?_
      have r2 := z_rng (ez_I h 71 56)
      refine z_gI2 (by decide) (zT S2 (by decide) rfl) (zW_f F (by decide) (by decide)) ?_
      refine z_b2 (fun c3 => ?_) (fun c3 => ?_)
      · have c3 : ((ez_I h 71 56)).toInt ≤ k.toInt := c3
        refine gw_skip _ (ez_Wp_at (w_s3  (T := T) (n := n) (c := c) (a := a) (J := J) (s1 := (bkH T n a J s1)) S2 (by rw [(show ez_I h2 72 = ez_I h 72 from zW_fn F 72 x71_52 x71_53), (show ez_I h2 77 = ez_I h 77 from zW_fn F 77 x71_54 x71_55), (show ez_I h2 78 = ez_I h 78 from zW_fn F 78 x71_56 x71_57), (show ez_I h2 79 = ez_I h 79 from zW_fn F 79 x71_58 x71_59), (show ez_I h2 80 = ez_I h 80 from zW_fn F 80 x71_60 x71_61), (show ez_I h2 92 = ez_I h 92 from zW_fn F 92 x71_62 x71_63), (show ez_I h2 93 = ez_I h 93 from zW_fn F 93 x71_64 x71_65), (show ez_I h2 94 = ez_I h 94 from zW_fn F 94 x71_66 x71_67), (show ez_I h2 95 = ez_I h 95 from zW_fn F 95 x71_68 x71_69), (show ez_I h2 96 = ez_I h 96 from zW_fn F 96 x71_70 x71_71)]; exact hC) hA (by rw [(show ez_I h2 100 = ez_I h 100 from zW_fn F 100 x71_72 x71_73), (show ez_I h2 101 = ez_I h 101 from zW_fn F 101 x71_74 x71_75), (show ez_I h2 102 = ez_I h 102 from zW_fn F 102 x71_76 x71_77), (show ez_I h2 117 = ez_I h 117 from zW_fn F 117 x71_78 x71_79), (show ez_I h2 118 = ez_I h 118 from zW_fn F 118 x71_80 x71_81)]; exact hF) (by have b1 := A_st; rw [show k.toInt.toNat = (bkR T n a J) by omega] at b1; exact b1) (by have b1 := hbb; rw [show k.toInt.toNat = (bkR T n a J) by omega] at b1; exact b1) A_hg hr (fun h4 F5 k6 k7 => ?_)) rfl)
        have F8 := zW_tr (zW_mono F x71_82 x71_83 x71_84) (zW_mono F5 x71_82 x71_85 x71_84)
        exact K _ F8 k6 k7
      · have c3 : ¬ (((ez_I h 71 56)).toInt ≤ k.toInt) := c3
        have hmo := sN_mono (f := fun q => (bkA T n a J) (tS (rowF (bkL T n a J) (bkE T n a J)) (rowM (bkL T n a J) (bkE T n a J)) q) + rEf (tS (rowF (bkL T n a J) (bkE T n a J)) (rowM (bkL T n a J) (bkE T n a J)) q)) (n := k.toInt.toNat + 1) (bkR T n a J) (by omega)
        have hsu : sN (fun q => (bkA T n a J) (tS (rowF (bkL T n a J) (bkE T n a J)) (rowM (bkL T n a J) (bkE T n a J)) q) + rEf (tS (rowF (bkL T n a J) (bkE T n a J)) (rowM (bkL T n a J) (bkE T n a J)) q)) (k.toInt.toNat + 1) = sN (fun q => (bkA T n a J) (tS (rowF (bkL T n a J) (bkE T n a J)) (rowM (bkL T n a J) (bkE T n a J)) q) + rEf (tS (rowF (bkL T n a J) (bkE T n a J)) (rowM (bkL T n a J) (bkE T n a J)) q)) k.toInt.toNat + ((bkA T n a J) (tS (rowF (bkL T n a J) (bkE T n a J)) (rowM (bkL T n a J) (bkE T n a J)) k.toInt.toNat) + rEf (tS (rowF (bkL T n a J) (bkE T n a J)) (rowM (bkL T n a J) (bkE T n a J)) k.toInt.toNat)) := rfl
        refine gw_ld rfl rfl ?_
        refine gw_ld rfl rfl ?_
        refine z_gR (q := 105) (zT S2 (by decide) rfl) (zRf S2 (by decide) (by decide) rfl) (by decide) ?_
        refine gw_ld rfl rfl ?_
        refine z_gR (q := 117) (zT S2 (by decide) rfl) (zRf S2 (by decide) (by decide) rfl) (by decide) ?_
        refine gw_ld rfl rfl ?_
        refine z_iaV (n := 330) (zT S2 (by decide) rfl) (zN S2 (by decide) rfl) (by omega) (zW_f F (by decide) (x71_79 _)) ?_
        generalize ex9 : ez_I h 117 k.toInt.toNat = x9
        have rx9 := z_rng x9
        obtain ⟨te1, te2⟩ := hF.2.2.2.1 k.toInt.toNat (by omega)
        rw [show k.toInt.toNat = k.toInt.toNat by omega, ex9] at te1
        rw [show k.toInt.toNat = k.toInt.toNat by omega] at te1
        have tso := mbF_ok hF k.toInt.toNat (by omega)
        have tso1 := tso.1
        have tsl := hF.2.2.1.1 (tS (rowF (bkL T n a J) (bkE T n a J)) (rowM (bkL T n a J) (bkE T n a J)) k.toInt.toNat) (by omega)
        have tsu := hF.2.2.1.2.2 (tS (rowF (bkL T n a J) (bkE T n a J)) (rowM (bkL T n a J) (bkE T n a J)) k.toInt.toNat) (by omega) (tC_pos (bkR T n a J) k.toInt.toNat (by omega))
        have hs7 := rEf_7 (tS (rowF (bkL T n a J) (bkE T n a J)) (rowM (bkL T n a J) (bkE T n a J)) k.toInt.toNat)
        refine z_ia (n := 19) (zT S2 (by decide) rfl) (zN S2 (by decide) rfl) (by omega) ?_
        generalize ex10 : ez_I h2 105 x9.toInt.toNat = x10
        have rx10 := z_rng x10
        have yw : x10.toInt = (cdN (bkA T n a J) 288 (tS (rowF (bkL T n a J) (bkE T n a J)) (rowM (bkL T n a J) (bkE T n a J)) k.toInt.toNat) : Nat) := by have h9 := A_wd105 (tS (rowF (bkL T n a J) (bkE T n a J)) (rowM (bkL T n a J) (bkE T n a J)) k.toInt.toNat) (by omega) (by omega); rw [show (tS (rowF (bkL T n a J) (bkE T n a J)) (rowM (bkL T n a J) (bkE T n a J)) k.toInt.toNat) = x9.toInt.toNat by omega, ex10] at h9; rw [h9, show x9.toInt.toNat = (tS (rowF (bkL T n a J) (bkE T n a J)) (rowM (bkL T n a J) (bkE T n a J)) k.toInt.toNat) by omega, cdN_congr (L' := (bkA T n a J)) (N' := 288) (fun l hl => (by rw [ctN_congr 19 hF.2.2.1.1, ← ctN_more hl 288 (by decide) (fun k a b => bkA_0 a)])) (fun j hj => hF.2.2.1.1 j (by omega))]
        refine gw_ld rfl rfl ?_
        refine z_gR (q := 102) (zT S2 (by decide) rfl) (zRf S2 (by decide) (by decide) rfl) (by decide) ?_
        refine gw_ld rfl rfl ?_
        refine z_gR (q := 117) (zT S2 (by decide) rfl) (zRf S2 (by decide) (by decide) rfl) (by decide) ?_
        refine gw_ld rfl rfl ?_
        refine z_iaV (n := 330) (zT S2 (by decide) rfl) (zN S2 (by decide) rfl) (by omega) ((zW_f F (by decide) (x71_79 _)).trans ex9) ?_
        refine z_iaV (n := 19) (zT S2 (by decide) rfl) (zN S2 (by decide) rfl) (by omega) (zW_f F (by decide) (x71_77 _)) ?_
        generalize ex12 : ez_I h 102 x9.toInt.toNat = x12
        have rx12 := z_rng x12
        have yx12 := hF.2.2.1.2.1 x9.toInt.toNat (by omega)
        rw [ex12] at yx12
        have yl : (bkA T n a J) (tS (rowF (bkL T n a J) (bkE T n a J)) (rowM (bkL T n a J) (bkE T n a J)) k.toInt.toNat) = x12.toInt.toNat := by rw [← tsl]; show (ez_I h 102 (tS (rowF (bkL T n a J) (bkE T n a J)) (rowM (bkL T n a J) (bkE T n a J)) k.toInt.toNat)).toInt.toNat = _; rw [show (tS (rowF (bkL T n a J) (bkE T n a J)) (rowM (bkL T n a J) (bkE T n a J)) k.toInt.toNat) = x9.toInt.toNat by omega, ex12]
        refine z_cl rfl rfl rfl rfl rfl rfl rfl rfl rfl rfl rfl (zT S2 (by decide) rfl) ?_
        refine d_wbV (s := (sS (cdN (bkA T n a J) 288) (bkA T n a J) (rowF (bkL T n a J) (bkE T n a J)) (rowM (bkL T n a J) (bkE T n a J)) (oS (bkA T n a J) (hdS (tdM (bkL T n a J) 257 29) (tdM (bkE T n a J) 1 29) (bkO T n a J) s1) (bkO T n a J)) k.toInt.toNat)) (V := cdN (bkA T n a J) 288 (tS (rowF (bkL T n a J) (bkE T n a J)) (rowM (bkL T n a J) (bkE T n a J)) k.toInt.toNat)) (N := (bkA T n a J) (tS (rowF (bkL T n a J) (bkE T n a J)) (rowM (bkL T n a J) (bkE T n a J)) k.toInt.toNat)) (v := x10) (n := x12) S2 A_st (hbb) A_hg (yw) (by omega) (cdN_lt _ _ _) (by omega) (by rw [hss]; omega) (fun h13 F14 k15 k16 k17 => ?_)
        have S18 := zW_sh F14 S2
        have F19 := zW_tr F (zW_mono F14 (x71_82) (x71_86) (x71_84))
        have r20 := z_rng (ez_I h13 71 16)
        have A21 : wdI (ez_I h13 105) (nL (ez_I h 102)) 19 19 := by rw [zW_fn F14 105 (by decide) (x71_87)]; exact A_wd105
        refine gw_ld rfl rfl ?_
        refine gw_ld rfl rfl ?_
        refine z_gR (q := 118) (zT S18 (by decide) rfl) (zRf S18 (by decide) (by decide) rfl) (by decide) ?_
        refine gw_ld rfl rfl ?_
        refine z_iaV (n := 330) (zT S18 (by decide) rfl) (zN S18 (by decide) rfl) (by omega) (zW_f F19 (by decide) (x71_81 _)) ?_
        generalize ex22 : ez_I h 118 k.toInt.toNat = x22
        have rx22 := z_rng x22
        rw [show k.toInt.toNat = k.toInt.toNat by omega, ex22] at te2
        rw [show k.toInt.toNat = k.toInt.toNat by omega] at te2
        refine gw_ld rfl rfl ?_
        refine z_gR (q := 117) (zT S18 (by decide) rfl) (zRf S18 (by decide) (by decide) rfl) (by decide) ?_
        refine gw_ld rfl rfl ?_
        refine z_iaV (n := 330) (zT S18 (by decide) rfl) (zN S18 (by decide) rfl) (by omega) ((zW_f F19 (by decide) (x71_79 _)).trans ex9) ?_
        refine z_cl rfl rfl rfl rfl rfl rfl rfl rfl rfl rfl rfl (trivial) ?_
        refine d_rest (y := x9) S18 (by omega) (fun x24 k25 => ?_)
        have rx24 := z_rng x24
        rw [show x9.toInt.toNat = (tS (rowF (bkL T n a J) (bkE T n a J)) (rowM (bkL T n a J) (bkE T n a J)) k.toInt.toNat) by omega] at k25
        refine z_cl rfl rfl rfl rfl rfl rfl rfl rfl rfl rfl rfl (zT S18 (by decide) rfl) ?_
        refine d_wbV (s := (wr (sS (cdN (bkA T n a J) 288) (bkA T n a J) (rowF (bkL T n a J) (bkE T n a J)) (rowM (bkL T n a J) (bkE T n a J)) (oS (bkA T n a J) (hdS (tdM (bkL T n a J) 257 29) (tdM (bkE T n a J) 1 29) (bkO T n a J) s1) (bkO T n a J)) k.toInt.toNat) (cdN (bkA T n a J) 288 (tS (rowF (bkL T n a J) (bkE T n a J)) (rowM (bkL T n a J) (bkE T n a J)) k.toInt.toNat)) ((bkA T n a J) (tS (rowF (bkL T n a J) (bkE T n a J)) (rowM (bkL T n a J) (bkE T n a J)) k.toInt.toNat)))) (V := (tX (rowF (bkL T n a J) (bkE T n a J)) (rowM (bkL T n a J) (bkE T n a J)) k.toInt.toNat)) (N := rEf (tS (rowF (bkL T n a J) (bkE T n a J)) (rowM (bkL T n a J) (bkE T n a J)) k.toInt.toNat)) (v := x22) (n := x24) S18 k15 (k16) k17 (by omega) (by omega) (tso.2) (by omega) (by show (sS (cdN (bkA T n a J) 288) (bkA T n a J) (rowF (bkL T n a J) (bkE T n a J)) (rowM (bkL T n a J) (bkE T n a J)) (oS (bkA T n a J) (hdS (tdM (bkL T n a J) 257 29) (tdM (bkE T n a J) 1 29) (bkO T n a J) s1) (bkO T n a J)) k.toInt.toNat).2 + (bkA T n a J) (tS (rowF (bkL T n a J) (bkE T n a J)) (rowM (bkL T n a J) (bkE T n a J)) k.toInt.toNat) + _ ≤ _; rw [hss]; omega) (fun h26 F27 k28 k29 k30 => ?_)
        have S31 := zW_sh F27 S18
        have F32 := zW_tr F19 (zW_mono F27 (x71_82) (x71_86) (x71_84))
        have r33 := z_rng (ez_I h26 71 16)
        have A34 : wdI (ez_I h26 105) (nL (ez_I h 102)) 19 19 := by rw [zW_fn F27 105 (by decide) (x71_87)]; exact A21
        clear A21
        refine z_inc rfl (by rw [show (1 : Int32).toInt = 1 from rfl]; omega) (fun x35 ex35 => ?_)
        rw [show (1 : Int32).toInt = 1 from rfl] at ex35
        show ez_gw _ _ _ _ _ _ _ _ [some (.ref 71), some (.int fr), some (.int to), some (.int pl), some (.int my), some (.int ls), l6, l7, l8, some (.int od), l10, l11, l12, l13, l14, some (.int b15), some (.int x35)] _ _ _
        refine z_go ?_
        exact ih h26 x35 F32 (⟨by omega, by omega, by rw [show x35.toInt.toNat = k.toInt.toNat + 1 by omega]; exact k29⟩) ((by rw [show x35.toInt.toNat = k.toInt.toNat + 1 by omega]; exact k28)) k30 A34 (by omega)
theorem x71_88 : ∀ q k : Nat, (False) → (q = 71 ∧ k = 16) := fun q k hk => hk.elim
theorem x71_89 : ∀ q : Nat, (q = 115 ∨ q = 116 ∨ q = 105) → (q = 75 ∨ 103 ≤ q ∧ q ≤ 105 ∨ q = 115 ∨ q = 116) := fun q hk => hk.elim (fun g => (.inr (.inr (.inl g)))) (fun hk => hk.elim (fun g => (.inr (.inr (.inr g)))) (fun hk => (.inr (.inl (show 103 ≤ q ∧ q ≤ 105 by omega)))))
set_option maxRecDepth 4000 in
set_option maxHeartbeats 2000000 in
theorem w_s2_L0 {E : Nat → Nat × (Nat → Int32)} {d : Nat} {Q : ez_Q} {h : ez_H} {fr : Int32} {to : Int32} {pl : Int32} {my : Int32} {ls : Int32} {l6 : Option Value} {l7 : Option Value} {l8 : Option Value} {od : Int32} {l10 : Option Value} {l11 : Option Value} {l12 : Option Value} {l13 : Option Value} {l14 : Option Value} {b15 : Int32} {l16 : Option Value} (S : zSh h) {T : Nat → Int} {n c a J : Nat} {s1 : Nat × Nat} (hC : mbC (ez_I h 72) (ez_I h 77) (ez_I h 78) (ez_I h 79) (ez_I h 80) (ez_I h 92) (ez_I h 93) (ez_I h 94) (ez_I h 95) (ez_I h 96) T n c) (hA : mbA fr to pl my T n c a J) (hF : mbF (ez_I h 100) (ez_I h 101) (ez_I h 102) (ez_I h 117) (ez_I h 118) T n a J) (hT : mbT (ez_I h 71 56) (ez_I h 71 57) (ez_I h 71 58) T n a J) (hod : od.toInt = ((bkO T n a J) : Nat)) (hs : mS (ez_I h 75) s1) (hb : (ez_I h 71 16).toInt = (s1.2 : Nat)) (hg : aR (ez_I h 75) 8000 (-128) 127) (hr : (bkP T n a J (bkL T n a J) (bkE T n a J) (bkH T n a J s1)).2 ≤ 64000) (K : ∀ h2, zW (fun q k => q = 71 ∧ k = 16) (fun q => q = 75 ∨ 103 ≤ q ∧ q ≤ 105 ∨ q = 115 ∨ q = 116) (fun _ => False) h h2 → mst (ez_I h2 75) (ez_I h2 71 16).toInt (bkP T n a J (bkL T n a J) (bkE T n a J) (bkH T n a J s1)) → aR (ez_I h2 75) 8000 (-128) 127 → Q (.inl none) h2) : ∀ N : Nat, (∀ (h2 : ez_H) (k : Int32) , zW (fun q k => q = 71 ∧ k = 16) (fun q => q = 75 ∨ 103 ≤ q ∧ q ≤ 105 ∨ q = 115 ∨ q = 116) (fun _ => False) h h2 → (0 ≤ k.toInt ∧ k.toInt ≤ (bkO T n a J) ∧ (ez_I h2 71 16).toInt = ((oS (bkA T n a J) (hdS (tdM (bkL T n a J) 257 29) (tdM (bkE T n a J) 1 29) (bkO T n a J) s1) k.toInt.toNat).2 : Nat)) → (mS (ez_I h2 75) (oS (bkA T n a J) (hdS (tdM (bkL T n a J) 257 29) (tdM (bkE T n a J) 1 29) (bkO T n a J) s1) k.toInt.toNat)) → (aR (ez_I h2 75) 8000 (-128) 127) → (1000 - k.toInt) < (N : Int) → pw E (d + 2) 44 955 [some (.ref 71), some (.int fr), some (.int to), some (.int pl), some (.int my), some (.int ls), l6, l7, l8, some (.int od), l10, l11, l12, l13, l14, some (.int b15), some (.int k)] [] h2 Q) := by
  intro N
  induction N with
  | zero => exact fun h2 k  F hinv A_st A_hg hm => absurd hm (by have ho := tdM_rng (fun q => (bkA T n a J) (ORf q)) 4 15; have ho2 : (bkO T n a J) = tdM (fun q => (bkA T n a J) (ORf q)) 4 15 := rfl; have w_k := z_rng k; have gfr := z_rng fr; have gto := z_rng to; have gpl := z_rng pl; have gmy := z_rng my; have gls := z_rng ls; have god := z_rng od; have gb15 := z_rng b15; omega)
  | succ N ih =>
    refine fun h2 k  F hinv A_st A_hg hm => ?_
    · skip
      have ho := tdM_rng (fun q => (bkA T n a J) (ORf q)) 4 15
      have ho2 : (bkO T n a J) = tdM (fun q => (bkA T n a J) (ORf q)) 4 15 := rfl
      have w_k := z_rng k
      have gfr := z_rng fr
      have gto := z_rng to
      have gpl := z_rng pl
      have gmy := z_rng my
      have gls := z_rng ls
      have god := z_rng od
      have gb15 := z_rng b15
      have S2 := zW_sh F S
      obtain ⟨hk0, hkO, hbb⟩ := hinv
      have t96 := hC.2.2.2.2.2.2.2.2.2.2.2
      have ho9 : (oS (bkA T n a J) (hdS (tdM (bkL T n a J) 257 29) (tdM (bkE T n a J) 1 29) (bkO T n a J) s1) k.toInt.toNat).2 = s1.2 + 5 + 5 + 4 + 3 * k.toInt.toNat := oS_2 _ _ _
      have ha7 := (mbF_15 hF).2.2
      obtain ⟨hx6, hx7, hx8⟩ := id hT
      have ho := tdM_rng (fun q => (bkA T n a J) (ORf q)) 4 15
      have ho2 : (bkO T n a J) = tdM (fun q => (bkA T n a J) (ORf q)) 4 15 := rfl
      have htd1 := tdM_rng (bkL T n a J) 257 29
      have htd2 := tdM_rng (bkE T n a J) 1 29
      have hhr := hd_bd hr
      apply ez_Wp_in
      show ez_gw _ _ _ _ _ _ (cz_44) _ _ _ _ _
      refine gw_skip _ ?_
      have r1 := z_rng (ez_I h2 71 16)
      refine gw_ld rfl rfl ?_
      refine gw_ld rfl rfl ?_
      refine z_b2 (fun c2 => ?_) (fun c2 => ?_)
      · have c2 : od.toInt ≤ k.toInt := c2
        refine gw_skip _ ?_
        refine gw_ld rfl rfl ?_
        refine gw_ld rfl rfl ?_
        refine z_gR (q := 102) (zT S2 (by decide) rfl) (zRf S2 (by decide) (by decide) rfl) (by decide) ?_
        refine z_C (m := 19) rfl rfl (fun x3 ex3 => ?_)
        refine gw_ld rfl rfl ?_
        refine z_gR (q := 105) (zT S2 (by decide) rfl) (zRf S2 (by decide) (by decide) rfl) (by decide) ?_
        refine z_cl rfl rfl rfl rfl rfl rfl rfl rfl rfl rfl rfl (zT S2 (by decide) rfl) ?_
        refine d_cds (u := 102) (n := x3) (w := 105) S2 (nu := 19) (nw := 19) (fun _ S => ⟨zT S (by decide) rfl, zN S (by decide) rfl⟩) (fun _ S => ⟨zT S (by decide) rfl, zN S (by decide) rfl⟩) (by decide) (by omega) (by rw [show x3.toInt.toNat = 19 by omega, (show ez_I h2 102 = ez_I h 102 from zW_fn F 102 x71_76 x71_77)]; exact aR_le hF.2.2.1.2.1 (by decide)) (fun h4 F5 k6 => ?_)
        rw [show x3.toInt.toNat = 19 by omega, (show ez_I h2 102 = ez_I h 102 from zW_fn F 102 x71_76 x71_77)] at k6
        have S7 := zW_sh F5 S2
        have F8 := zW_tr F (zW_mono F5 (x71_88) (x71_89) (x71_84))
        have f9 : ez_I h4 71 16 = (ez_I h2 71 16) := (zW_f F5 (by decide) (fun c => c)).trans (rfl)
        have A10 : mS (ez_I h4 75) (oS (bkA T n a J) (hdS (tdM (bkL T n a J) 257 29) (tdM (bkE T n a J) 1 29) (bkO T n a J) s1) k.toInt.toNat) := by rw [zW_fn F5 75 (by decide) (fun _ c => c)]; exact A_st
        have A11 : aR (ez_I h4 75) 8000 (-128) 127 := by rw [zW_fn F5 75 (by decide) (fun _ c => c)]; exact A_hg
        refine z_C (m := 0) rfl rfl (fun x12 ex12 => ?_)
        refine gw_st rfl rfl rfl ?_
        show ez_gw _ _ _ _ _ _ _ _ [some (.ref 71), some (.int fr), some (.int to), some (.int pl), some (.int my), some (.int ls), l6, l7, l8, some (.int od), l10, l11, l12, l13, l14, some (.int b15), some (.int x12)] _ _ _
        have t13 := congrArg Int32.toInt (f9)
        exact ez_Wp_at ((w_s2_L1 (fr := fr) (to := to) (pl := pl) (my := my) (ls := ls) (l6 := l6) (l7 := l7) (l8 := l8) (od := od) (l10 := l10) (l11 := l11) (l12 := l12) (l13 := l13) (l14 := l14) (b15 := b15) (l16 := l16) S hC hA hF hT hod hs hb hg hr K (((1000 - x12.toInt)).toNat + 1)) h4 x12 F8 (⟨by omega, by omega, by rw [show x12.toInt.toNat = 0 by omega]; exact (by have b1 := hbb; rw [show k.toInt.toNat = (bkO T n a J) by omega] at b1; rw [f9]; exact b1)⟩) ((by rw [show x12.toInt.toNat = 0 by omega]; have b1 := A10; rw [show k.toInt.toNat = (bkO T n a J) by omega] at b1; exact b1)) A11 k6 (by omega)) rfl
      · have c2 : ¬ (od.toInt ≤ k.toInt) := c2
        refine gw_ld rfl rfl ?_
        refine gw_ld rfl rfl ?_
        refine z_gR (q := 102) (zT S2 (by decide) rfl) (zRf S2 (by decide) (by decide) rfl) (by decide) ?_
        refine gw_ld rfl rfl ?_
        refine z_gR (q := 96) (zT S2 (by decide) rfl) (zRf S2 (by decide) (by decide) rfl) (by decide) ?_
        refine gw_ld rfl rfl ?_
        refine z_iaV (n := 19) (zT S2 (by decide) rfl) (zN S2 (by decide) rfl) (by omega) (zW_f F (by decide) (x71_71 _)) ?_
        generalize ex14 : ez_I h 96 k.toInt.toNat = x14
        have rx14 := z_rng x14
        have yx14 := t96 k.toInt.toNat (by omega)
        rw [ex14, show k.toInt.toNat = k.toInt.toNat by omega] at yx14
        have uo := OR_18 k.toInt.toNat (by omega)
        refine z_iaV (n := 19) (zT S2 (by decide) rfl) (zN S2 (by decide) rfl) (by omega) (zW_f F (by decide) (x71_77 _)) ?_
        generalize ex15 : ez_I h 102 x14.toInt.toNat = x15
        have rx15 := z_rng x15
        have yx : x14.toInt.toNat = ORf k.toInt.toNat := by omega
        have yx15 := hF.2.2.1.2.1 x14.toInt.toNat (by omega)
        have yl := hF.2.2.1.1 x14.toInt.toNat (by omega)
        have ym : nL (ez_I h 102) x14.toInt.toNat = x15.toInt.toNat := by show (ez_I h 102 _).toInt.toNat = _; rw [ex15]
        rw [ex15] at yx15
        rw [ym, yx] at yl
        refine z_C (m := 3) rfl rfl (fun x16 ex16 => ?_)
        refine z_cl rfl rfl rfl rfl rfl rfl rfl rfl rfl rfl rfl (zT S2 (by decide) rfl) ?_
        refine d_wbV (s := (oS (bkA T n a J) (hdS (tdM (bkL T n a J) 257 29) (tdM (bkE T n a J) 1 29) (bkO T n a J) s1) k.toInt.toNat)) (V := (bkA T n a J) (ORf k.toInt.toNat)) (N := 3) (v := x15) (n := x16) S2 A_st (hbb) A_hg (by omega) (by omega) (by show _ < 8; omega) (by decide) (by rw [ho9]; omega) (fun h17 F18 k19 k20 k21 => ?_)
        have S22 := zW_sh F18 S2
        have F23 := zW_tr F (zW_mono F18 (x71_82) (x71_86) (x71_84))
        have r24 := z_rng (ez_I h17 71 16)
        refine z_inc rfl (by rw [show (1 : Int32).toInt = 1 from rfl]; omega) (fun x25 ex25 => ?_)
        rw [show (1 : Int32).toInt = 1 from rfl] at ex25
        show ez_gw _ _ _ _ _ _ _ _ [some (.ref 71), some (.int fr), some (.int to), some (.int pl), some (.int my), some (.int ls), l6, l7, l8, some (.int od), l10, l11, l12, l13, l14, some (.int b15), some (.int x25)] _ _ _
        refine z_go ?_
        exact ih h17 x25 F23 (⟨by omega, by omega, by rw [show x25.toInt.toNat = k.toInt.toNat + 1 by omega]; exact k20⟩) ((by rw [show x25.toInt.toNat = k.toInt.toNat + 1 by omega]; exact k19)) k21 (by omega)
set_option maxRecDepth 4000 in
set_option maxHeartbeats 2000000 in
theorem w_s2 {E : Nat → Nat × (Nat → Int32)} {d : Nat} {Q : ez_Q} {h : ez_H} {fr : Int32} {to : Int32} {pl : Int32} {my : Int32} {ls : Int32} {l6 : Option Value} {l7 : Option Value} {l8 : Option Value} {od : Int32} {l10 : Option Value} {l11 : Option Value} {l12 : Option Value} {l13 : Option Value} {l14 : Option Value} {b15 : Int32} {l16 : Option Value} (S : zSh h) {T : Nat → Int} {n c a J : Nat} {s1 : Nat × Nat} (hC : mbC (ez_I h 72) (ez_I h 77) (ez_I h 78) (ez_I h 79) (ez_I h 80) (ez_I h 92) (ez_I h 93) (ez_I h 94) (ez_I h 95) (ez_I h 96) T n c) (hA : mbA fr to pl my T n c a J) (hF : mbF (ez_I h 100) (ez_I h 101) (ez_I h 102) (ez_I h 117) (ez_I h 118) T n a J) (hT : mbT (ez_I h 71 56) (ez_I h 71 57) (ez_I h 71 58) T n a J) (hod : od.toInt = ((bkO T n a J) : Nat)) (hs : mS (ez_I h 75) s1) (hb : (ez_I h 71 16).toInt = (s1.2 : Nat)) (hg : aR (ez_I h 75) 8000 (-128) 127) (hr : (bkP T n a J (bkL T n a J) (bkE T n a J) (bkH T n a J s1)).2 ≤ 64000) (K : ∀ h2, zW (fun q k => q = 71 ∧ k = 16) (fun q => q = 75 ∨ 103 ≤ q ∧ q ≤ 105 ∨ q = 115 ∨ q = 116) (fun _ => False) h h2 → mst (ez_I h2 75) (ez_I h2 71 16).toInt (bkP T n a J (bkL T n a J) (bkE T n a J) (bkH T n a J s1)) → aR (ez_I h2 75) 8000 (-128) 127 → Q (.inl none) h2) : pw E (d + 2) 44 919 [some (.ref 71), some (.int fr), some (.int to), some (.int pl), some (.int my), some (.int ls), l6, l7, l8, some (.int od), l10, l11, l12, l13, l14, some (.int b15), l16] [] h Q := by
  have gfr := z_rng fr
  have gto := z_rng to
  have gpl := z_rng pl
  have gmy := z_rng my
  have gls := z_rng ls
  have god := z_rng od
  have gb15 := z_rng b15
  obtain ⟨hx6, hx7, hx8⟩ := id hT
  have ho := tdM_rng (fun q => (bkA T n a J) (ORf q)) 4 15
  have ho2 : (bkO T n a J) = tdM (fun q => (bkA T n a J) (ORf q)) 4 15 := rfl
  have htd1 := tdM_rng (bkL T n a J) 257 29
  have htd2 := tdM_rng (bkE T n a J) 1 29
  have hhr := hd_bd hr
  have F := zW_refl (fun q k => q = 71 ∧ k = 16) (fun q => q = 75 ∨ 103 ≤ q ∧ q ≤ 105 ∨ q = 115 ∨ q = 116) (fun _ => False) h
  apply ez_Wp_in
  show ez_gw _ _ _ _ _ _ (cz_44) _ _ _ _ _
  refine gw_skip _ ?_
  have r1 := z_rng (ez_I h 71 16)
  refine gw_ld rfl rfl ?_
  refine gw_ld rfl rfl ?_
  have r2 := z_rng (ez_I h 71 57)
  refine z_gI2 (by decide) (zT S (by decide) rfl) (zW_f F (by decide) (by decide)) ?_
  refine z_C (m := 257) rfl rfl (fun x3 ex3 => ?_)
  refine z_sub (by omega) (fun x4 ex4 => ?_)
  refine z_C (m := 5) rfl rfl (fun x5 ex5 => ?_)
  refine z_cl rfl rfl rfl rfl rfl rfl rfl rfl rfl rfl rfl (zT S (by decide) rfl) ?_
  refine d_wbV (s := s1) (V := tdM (bkL T n a J) 257 29 - 257) (N := 5) (v := x4) (n := x5) S hs (hb) hg (by omega) (by omega) (by show _ < 32; omega) (by decide) (by omega) (fun h6 F7 k8 k9 k10 => ?_)
  have S11 := zW_sh F7 S
  have F12 := zW_tr F (zW_mono F7 (x71_82) (x71_86) (x71_84))
  have r13 := z_rng (ez_I h6 71 16)
  refine gw_ld rfl rfl ?_
  refine gw_ld rfl rfl ?_
  have r14 := z_rng (ez_I h 71 58)
  refine z_gI2 (by decide) (zT S11 (by decide) rfl) (zW_f F12 (by decide) (by decide)) ?_
  refine z_C (m := 1) rfl rfl (fun x15 ex15 => ?_)
  refine z_sub (by omega) (fun x16 ex16 => ?_)
  refine z_C (m := 5) rfl rfl (fun x17 ex17 => ?_)
  refine z_cl rfl rfl rfl rfl rfl rfl rfl rfl rfl rfl rfl (zT S11 (by decide) rfl) ?_
  refine d_wbV (s := (wr s1 (tdM (bkL T n a J) 257 29 - 257) 5)) (V := tdM (bkE T n a J) 1 29 - 1) (N := 5) (v := x16) (n := x17) S11 k8 (k9) k10 (by omega) (by omega) (by show _ < 32; omega) (by decide) (by show s1.2 + 5 + 5 ≤ _; omega) (fun h18 F19 k20 k21 k22 => ?_)
  have S23 := zW_sh F19 S11
  have F24 := zW_tr F12 (zW_mono F19 (x71_82) (x71_86) (x71_84))
  have r25 := z_rng (ez_I h18 71 16)
  refine gw_ld rfl rfl ?_
  refine gw_ld rfl rfl ?_
  refine z_C (m := 4) rfl rfl (fun x26 ex26 => ?_)
  refine z_sub (by omega) (fun x27 ex27 => ?_)
  refine z_C (m := 4) rfl rfl (fun x28 ex28 => ?_)
  refine z_cl rfl rfl rfl rfl rfl rfl rfl rfl rfl rfl rfl (zT S23 (by decide) rfl) ?_
  refine d_wbV (s := (wr (wr s1 (tdM (bkL T n a J) 257 29 - 257) 5) (tdM (bkE T n a J) 1 29 - 1) 5)) (V := (bkO T n a J) - 4) (N := 4) (v := x27) (n := x28) S23 k20 (k21) k22 (by omega) (by omega) (by show _ < 16; omega) (by decide) (by show s1.2 + 5 + 5 + 4 ≤ _; omega) (fun h29 F30 k31 k32 k33 => ?_)
  have S34 := zW_sh F30 S23
  have F35 := zW_tr F24 (zW_mono F30 (x71_82) (x71_86) (x71_84))
  have r36 := z_rng (ez_I h29 71 16)
  refine z_C (m := 0) rfl rfl (fun x37 ex37 => ?_)
  refine gw_st rfl rfl rfl ?_
  show ez_gw _ _ _ _ _ _ _ _ [some (.ref 71), some (.int fr), some (.int to), some (.int pl), some (.int my), some (.int ls), l6, l7, l8, some (.int od), l10, l11, l12, l13, l14, some (.int b15), some (.int x37)] _ _ _
  exact ez_Wp_at ((w_s2_L0 (fr := fr) (to := to) (pl := pl) (my := my) (ls := ls) (l6 := l6) (l7 := l7) (l8 := l8) (od := od) (l10 := l10) (l11 := l11) (l12 := l12) (l13 := l13) (l14 := l14) (b15 := b15) (l16 := l16) S hC hA hF hT hod hs hb hg hr K (((1000 - x37.toInt)).toNat + 1)) h29 x37 F35 (⟨by omega, by omega, by rw [show x37.toInt.toNat = 0 by omega]; exact k32⟩) ((by rw [show x37.toInt.toNat = 0 by omega]; exact k31)) k33 (by omega)) rfl
