/-! PRINTED by wip/pack: the model writes a block: parts -/
theorem x71_4 : ¬ (106 = 75 ∨ 106 = 107 ∨ 106 = 109 ∨ 106 = 115 ∨ 106 = 116) := by omega
theorem x71_5 : ∀ k : Nat, ¬ (106 = 71 ∧ k = 16) := fun k c => by omega
theorem x71_6 : ∀ q k : Nat, (False) → (q = 71 ∧ k = 16) := fun q k hk => hk.elim
theorem x71_7 : ∀ q : Nat, (q = 115 ∨ q = 116 ∨ q = 107) → (q = 75 ∨ q = 107 ∨ q = 109 ∨ q = 115 ∨ q = 116) := fun q hk => hk.elim (fun g => (.inr (.inr (.inr (.inl g))))) (fun hk => hk.elim (fun g => (.inr (.inr (.inr (.inr g))))) (fun hk => (.inr (.inl hk))))
theorem x71_8 : ∀ q : Nat, (False) → (False) := fun q hk => hk.elim
theorem x71_9 : ¬ (108 = 75 ∨ 108 = 107 ∨ 108 = 109 ∨ 108 = 115 ∨ 108 = 116) := by omega
theorem x71_10 : ∀ k : Nat, ¬ (108 = 71 ∧ k = 16) := fun k c => by omega
theorem x71_11 : ∀ q : Nat, (q = 115 ∨ q = 116 ∨ q = 109) → (q = 75 ∨ q = 107 ∨ q = 109 ∨ q = 115 ∨ q = 116) := fun q hk => hk.elim (fun g => (.inr (.inr (.inr (.inl g))))) (fun hk => hk.elim (fun g => (.inr (.inr (.inr (.inr g))))) (fun hk => (.inr (.inr (.inl hk)))))
theorem x71_12 : ¬ (72 = 75 ∨ 72 = 107 ∨ 72 = 109 ∨ 72 = 115 ∨ 72 = 116) := by omega
theorem x71_13 : ∀ k : Nat, ¬ (72 = 71 ∧ k = 16) := fun k c => by omega
theorem x71_14 : ¬ (77 = 75 ∨ 77 = 107 ∨ 77 = 109 ∨ 77 = 115 ∨ 77 = 116) := by omega
theorem x71_15 : ∀ k : Nat, ¬ (77 = 71 ∧ k = 16) := fun k c => by omega
theorem x71_16 : ¬ (78 = 75 ∨ 78 = 107 ∨ 78 = 109 ∨ 78 = 115 ∨ 78 = 116) := by omega
theorem x71_17 : ∀ k : Nat, ¬ (78 = 71 ∧ k = 16) := fun k c => by omega
theorem x71_18 : ¬ (79 = 75 ∨ 79 = 107 ∨ 79 = 109 ∨ 79 = 115 ∨ 79 = 116) := by omega
theorem x71_19 : ∀ k : Nat, ¬ (79 = 71 ∧ k = 16) := fun k c => by omega
theorem x71_20 : ¬ (80 = 75 ∨ 80 = 107 ∨ 80 = 109 ∨ 80 = 115 ∨ 80 = 116) := by omega
theorem x71_21 : ∀ k : Nat, ¬ (80 = 71 ∧ k = 16) := fun k c => by omega
theorem x71_22 : ¬ (92 = 75 ∨ 92 = 107 ∨ 92 = 109 ∨ 92 = 115 ∨ 92 = 116) := by omega
theorem x71_23 : ∀ k : Nat, ¬ (92 = 71 ∧ k = 16) := fun k c => by omega
theorem x71_24 : ¬ (93 = 75 ∨ 93 = 107 ∨ 93 = 109 ∨ 93 = 115 ∨ 93 = 116) := by omega
theorem x71_25 : ∀ k : Nat, ¬ (93 = 71 ∧ k = 16) := fun k c => by omega
theorem x71_26 : ¬ (94 = 75 ∨ 94 = 107 ∨ 94 = 109 ∨ 94 = 115 ∨ 94 = 116) := by omega
theorem x71_27 : ∀ k : Nat, ¬ (94 = 71 ∧ k = 16) := fun k c => by omega
theorem x71_28 : ¬ (95 = 75 ∨ 95 = 107 ∨ 95 = 109 ∨ 95 = 115 ∨ 95 = 116) := by omega
theorem x71_29 : ∀ k : Nat, ¬ (95 = 71 ∧ k = 16) := fun k c => by omega
theorem x71_30 : ∀ q k : Nat, (q = 71 ∧ k = 16) → (q = 71 ∧ k = 16) := fun q k hk => hk
theorem x71_31 : ∀ q : Nat, (q = 75) → (q = 75 ∨ q = 107 ∨ q = 109 ∨ q = 115 ∨ q = 116) := fun q hk => (.inl hk)
theorem x71_32 : ∀ k : Nat, ¬ (107 = 71 ∧ k = 16) := fun k c => by omega
theorem x71_33 : ∀ k : Nat, ¬ (109 = 71 ∧ k = 16) := fun k c => by omega
set_option maxRecDepth 4000 in
set_option maxHeartbeats 2000000 in
theorem w_s1 {E : Nat → Nat × (Nat → Int32)} {d : Nat} {Q : ez_Q} {h : ez_H} {fr : Int32} {to : Int32} {pl : Int32} {my : Int32} {ls : Int32} {l6 : Option Value} {l7 : Option Value} {l8 : Option Value} {l9 : Option Value} {l10 : Option Value} {l11 : Option Value} {l12 : Option Value} {l13 : Option Value} {l14 : Option Value} {l15 : Option Value} {l16 : Option Value} (S : zSh h) {T : Nat → Int} {n c a J : Nat} {s1 : Nat × Nat} (hC : mbC (ez_I h 72) (ez_I h 77) (ez_I h 78) (ez_I h 79) (ez_I h 80) (ez_I h 92) (ez_I h 93) (ez_I h 94) (ez_I h 95) (ez_I h 96) T n c) (hA : mbA fr to pl my T n c a J) (hX : mbX (ez_I h 106) (ez_I h 108)) (hs : mS (ez_I h 75) s1) (hb : (ez_I h 71 16).toInt = (s1.2 : Nat)) (hg : aR (ez_I h 75) 8000 (-128) 127) (hr : (bkP T n a J fxL fxD s1).2 ≤ 64000) (K : ∀ h2, zW (fun q k => q = 71 ∧ k = 16) (fun q => q = 75 ∨ q = 107 ∨ q = 109 ∨ q = 115 ∨ q = 116) (fun _ => False) h h2 → mst (ez_I h2 75) (ez_I h2 71 16).toInt (bkP T n a J fxL fxD s1) → aR (ez_I h2 75) 8000 (-128) 127 → Q (.inl none) h2) : pw E (d + 2) 44 864 [some (.ref 71), some (.int fr), some (.int to), some (.int pl), some (.int my), some (.int ls), l6, l7, l8, l9, l10, l11, l12, l13, l14, l15, l16] [] h Q := by
  have gfr := z_rng fr
  have gto := z_rng to
  have gpl := z_rng pl
  have gmy := z_rng my
  have gls := z_rng ls
  obtain ⟨cn, cc, hT0, hB, hpm, hlt, hpe, t92, t93, t94, t95, t96⟩ := hC
  obtain ⟨afr, ato, ajc, aj6, apl, amy, apn⟩ := hA
  have F := zW_refl (fun q k => q = 71 ∧ k = 16) (fun q => q = 75 ∨ q = 107 ∨ q = 109 ∨ q = 115 ∨ q = 116) (fun _ => False) h
  apply ez_Wp_in
  show ez_gw _ _ _ _ _ _ (cz_44) _ _ _ _ _
  refine gw_skip _ ?_
  have r1 := z_rng (ez_I h 71 16)
  refine gw_ld rfl rfl ?_
  refine gw_ld rfl rfl ?_
  refine z_gR (q := 106) (zT S (by decide) rfl) (zRf S (by decide) (by decide) rfl) (by decide) ?_
  refine z_C (m := 288) rfl rfl (fun x2 ex2 => ?_)
  refine gw_ld rfl rfl ?_
  refine z_gR (q := 107) (zT S (by decide) rfl) (zRf S (by decide) (by decide) rfl) (by decide) ?_
  refine z_cl rfl rfl rfl rfl rfl rfl rfl rfl rfl rfl rfl (zT S (by decide) rfl) ?_
  refine d_cds (u := 106) (n := x2) (w := 107) S (nu := 288) (nw := 288) (fun _ S => ⟨zT S (by decide) rfl, zN S (by decide) rfl⟩) (fun _ S => ⟨zT S (by decide) rfl, zN S (by decide) rfl⟩) (by decide) (by omega) (by rw [show x2.toInt.toNat = 288 by omega, (show ez_I h 106 = ez_I h 106 from zW_fn F 106 x71_4 x71_5)]; exact cpN_aR hX.1 (fun k _ => (fxL_1 k).2)) (fun h3 F4 k5 => ?_)
  rw [show x2.toInt.toNat = 288 by omega, (show ez_I h 106 = ez_I h 106 from zW_fn F 106 x71_4 x71_5)] at k5
  have S6 := zW_sh F4 S
  have F7 := zW_tr F (zW_mono F4 (x71_6) (x71_7) (x71_8))
  have f8 : ez_I h3 71 16 = (ez_I h 71 16) := (zW_f F4 (by decide) (fun c => c)).trans (rfl)
  have A9 : mS (ez_I h3 75) s1 := by rw [zW_fn F4 75 (by decide) (fun _ c => c)]; exact hs
  have A10 : aR (ez_I h3 75) 8000 (-128) 127 := by rw [zW_fn F4 75 (by decide) (fun _ c => c)]; exact hg
  refine gw_ld rfl rfl ?_
  refine gw_ld rfl rfl ?_
  refine z_gR (q := 108) (zT S6 (by decide) rfl) (zRf S6 (by decide) (by decide) rfl) (by decide) ?_
  refine z_C (m := 30) rfl rfl (fun x11 ex11 => ?_)
  refine gw_ld rfl rfl ?_
  refine z_gR (q := 109) (zT S6 (by decide) rfl) (zRf S6 (by decide) (by decide) rfl) (by decide) ?_
  have t12 := congrArg Int32.toInt (f8)
  refine z_cl rfl rfl rfl rfl rfl rfl rfl rfl rfl rfl rfl (zT S6 (by decide) rfl) ?_
  refine d_cds (u := 108) (n := x11) (w := 109) S6 (nu := 30) (nw := 30) (fun _ S => ⟨zT S (by decide) rfl, zN S (by decide) rfl⟩) (fun _ S => ⟨zT S (by decide) rfl, zN S (by decide) rfl⟩) (by decide) (by omega) (by rw [show x11.toInt.toNat = 30 by omega, (show ez_I h3 108 = ez_I h 108 from zW_fn F7 108 x71_9 x71_10)]; exact cpN_aR hX.2 (fun k _ => fxD_5 k)) (fun h13 F14 k15 => ?_)
  rw [show x11.toInt.toNat = 30 by omega, (show ez_I h3 108 = ez_I h 108 from zW_fn F7 108 x71_9 x71_10)] at k15
  have S16 := zW_sh F14 S6
  have F17 := zW_tr F7 (zW_mono F14 (x71_6) (x71_11) (x71_8))
  have f18 : ez_I h13 71 16 = (ez_I h 71 16) := (zW_f F14 (by decide) (fun c => c)).trans (f8)
  have A19 : mS (ez_I h13 75) s1 := by rw [zW_fn F14 75 (by decide) (fun _ c => c)]; exact A9
  have A20 : aR (ez_I h13 75) 8000 (-128) 127 := by rw [zW_fn F14 75 (by decide) (fun _ c => c)]; exact A10
  have A21 : wdI (ez_I h13 107) (nL (ez_I h 106)) 288 288 := by rw [zW_fn F14 107 (by decide) (fun _ c => c)]; exact k5
  clear A9
  clear A10
  refine gw_ld rfl rfl ?_
  refine gw_ld rfl rfl ?_
  refine gw_ld rfl rfl ?_
  refine gw_ld rfl rfl ?_
  refine gw_ld rfl rfl ?_
  refine z_gR (q := 106) (zT S16 (by decide) rfl) (zRf S16 (by decide) (by decide) rfl) (by decide) ?_
  refine gw_ld rfl rfl ?_
  refine z_gR (q := 107) (zT S16 (by decide) rfl) (zRf S16 (by decide) (by decide) rfl) (by decide) ?_
  refine gw_ld rfl rfl ?_
  refine z_gR (q := 108) (zT S16 (by decide) rfl) (zRf S16 (by decide) (by decide) rfl) (by decide) ?_
  refine gw_ld rfl rfl ?_
  refine z_gR (q := 109) (zT S16 (by decide) rfl) (zRf S16 (by decide) (by decide) rfl) (by decide) ?_
  have t22 := congrArg Int32.toInt (f18)
  refine z_cl rfl rfl rfl rfl rfl rfl rfl rfl rfl rfl rfl (zT S16 (by decide) rfl) ?_
  have hsl : ∀ x, x < 286 → 1 ≤ fxL x → swP (ez_I h13 106) (ez_I h13 107) fxL (cdN fxL 288) x := fun x hx h1 => by rw [(show ez_I h13 106 = ez_I h 106 from zW_fn F17 106 x71_4 x71_5)]; exact sw_c A21 (fun k hk => cpN_nL hX.1 k hk) (fun k hk h1 => wd_nL A21 (by decide) (by decide) (cpN_nL hX.1) (fun l _ => ctN_congr 288 (cpN_nL hX.1)) k hk h1) (cpN_aR hX.1 (fun k _ => (fxL_1 k).2)) x (by omega) h1
  have hse : ∀ x, x < 30 → 1 ≤ fxD x → swP (ez_I h13 108) (ez_I h13 109) fxD (cdN fxD 288) x := fun x hx h1 => by rw [(show ez_I h13 108 = ez_I h 108 from zW_fn F17 108 x71_9 x71_10)]; exact sw_c k15 (cpN_nL hX.2) (fxd_w k15 (cpN_nL hX.2)) (cpN_aR hX.2 (fun k _ => fxD_5 k)) x hx h1
  refine d_wPartsA (fr := fr) (to := to) (pl := pl) (T := T) (n := n) (nU := fxL) (nV := cdN fxL 288) (nW := fxD) (nY := cdN fxD 288) (s := s1) (c := c) (a := a) (J := J) S16 cn hT0 (by rw [(show ez_I h13 72 = ez_I h 72 from zW_fn F17 72 x71_12 x71_13)]; exact hB) (mS_m A19 (by rw [f18]; exact hb)) A20 (by rw [(show ez_I h13 77 = ez_I h 77 from zW_fn F17 77 x71_14 x71_15), (show ez_I h13 78 = ez_I h 78 from zW_fn F17 78 x71_16 x71_17), (show ez_I h13 79 = ez_I h 79 from zW_fn F17 79 x71_18 x71_19), (show ez_I h13 80 = ez_I h 80 from zW_fn F17 80 x71_20 x71_21)]; exact hpm) hlt cc ⟨afr, ato, ajc⟩ apl hsl hse (fun q hq => ⟨(fxL_1 _).1, fun z => fxD_1 ((lSy_lt hT0 hlt (k := q) (by omega)).2 z)⟩) ((fxL_1 256).1) (hr) (by rw [(show ez_I h13 92 = ez_I h 92 from zW_fn F17 92 x71_22 x71_23)]; exact t92) (by rw [(show ez_I h13 93 = ez_I h 93 from zW_fn F17 93 x71_24 x71_25)]; exact t93) (by rw [(show ez_I h13 94 = ez_I h 94 from zW_fn F17 94 x71_26 x71_27)]; exact t94) (by rw [(show ez_I h13 95 = ez_I h 95 from zW_fn F17 95 x71_28 x71_29)]; exact t95) (fun h23 F24 k25 k26 => ?_)
  have S27 := zW_sh F24 S16
  have F28 := zW_tr F17 (zW_mono F24 (x71_30) (x71_31) (x71_8))
  have r29 := z_rng (ez_I h23 71 16)
  have A30 : wdI (ez_I h23 107) (nL (ez_I h 106)) 288 288 := by rw [zW_fn F24 107 (by decide) (x71_32)]; exact A21
  have A31 : wdI (ez_I h23 109) (nL (ez_I h 108)) 30 30 := by rw [zW_fn F24 109 (by decide) (x71_33)]; exact k15
  clear A21
  refine z_go ?_
  refine gw_skip _ ?_
  refine z_rv ?_
  exact K _ F28 k25 k26
theorem x71_34 : ¬ (100 = 75 ∨ 100 = 103 ∨ 100 = 104 ∨ 100 = 115 ∨ 100 = 116) := by omega
theorem x71_35 : ∀ k : Nat, ¬ (100 = 71 ∧ k = 16) := fun k c => by omega
theorem x71_36 : ∀ q : Nat, (q = 115 ∨ q = 116 ∨ q = 103) → (q = 75 ∨ q = 103 ∨ q = 104 ∨ q = 115 ∨ q = 116) := fun q hk => hk.elim (fun g => (.inr (.inr (.inr (.inl g))))) (fun hk => hk.elim (fun g => (.inr (.inr (.inr (.inr g))))) (fun hk => (.inr (.inl hk))))
theorem x71_37 : ¬ (101 = 75 ∨ 101 = 103 ∨ 101 = 104 ∨ 101 = 115 ∨ 101 = 116) := by omega
theorem x71_38 : ∀ k : Nat, ¬ (101 = 71 ∧ k = 16) := fun k c => by omega
theorem x71_39 : ∀ q : Nat, (q = 115 ∨ q = 116 ∨ q = 104) → (q = 75 ∨ q = 103 ∨ q = 104 ∨ q = 115 ∨ q = 116) := fun q hk => hk.elim (fun g => (.inr (.inr (.inr (.inl g))))) (fun hk => hk.elim (fun g => (.inr (.inr (.inr (.inr g))))) (fun hk => (.inr (.inr (.inl hk)))))
theorem x71_40 : ¬ (72 = 75 ∨ 72 = 103 ∨ 72 = 104 ∨ 72 = 115 ∨ 72 = 116) := by omega
theorem x71_41 : ¬ (77 = 75 ∨ 77 = 103 ∨ 77 = 104 ∨ 77 = 115 ∨ 77 = 116) := by omega
theorem x71_42 : ¬ (78 = 75 ∨ 78 = 103 ∨ 78 = 104 ∨ 78 = 115 ∨ 78 = 116) := by omega
theorem x71_43 : ¬ (79 = 75 ∨ 79 = 103 ∨ 79 = 104 ∨ 79 = 115 ∨ 79 = 116) := by omega
theorem x71_44 : ¬ (80 = 75 ∨ 80 = 103 ∨ 80 = 104 ∨ 80 = 115 ∨ 80 = 116) := by omega
theorem x71_45 : ¬ (92 = 75 ∨ 92 = 103 ∨ 92 = 104 ∨ 92 = 115 ∨ 92 = 116) := by omega
theorem x71_46 : ¬ (93 = 75 ∨ 93 = 103 ∨ 93 = 104 ∨ 93 = 115 ∨ 93 = 116) := by omega
theorem x71_47 : ¬ (94 = 75 ∨ 94 = 103 ∨ 94 = 104 ∨ 94 = 115 ∨ 94 = 116) := by omega
theorem x71_48 : ¬ (95 = 75 ∨ 95 = 103 ∨ 95 = 104 ∨ 95 = 115 ∨ 95 = 116) := by omega
theorem x71_49 : ∀ q : Nat, (q = 75) → (q = 75 ∨ q = 103 ∨ q = 104 ∨ q = 115 ∨ q = 116) := fun q hk => (.inl hk)
theorem x71_50 : ∀ k : Nat, ¬ (103 = 71 ∧ k = 16) := fun k c => by omega
theorem x71_51 : ∀ k : Nat, ¬ (104 = 71 ∧ k = 16) := fun k c => by omega
set_option maxRecDepth 4000 in
set_option maxHeartbeats 2000000 in
theorem w_s3 {E : Nat → Nat × (Nat → Int32)} {d : Nat} {Q : ez_Q} {h : ez_H} {fr : Int32} {to : Int32} {pl : Int32} {my : Int32} {ls : Int32} {l6 : Option Value} {l7 : Option Value} {l8 : Option Value} {l9 : Option Value} {l10 : Option Value} {l11 : Option Value} {l12 : Option Value} {l13 : Option Value} {l14 : Option Value} {l15 : Option Value} {l16 : Option Value} (S : zSh h) {T : Nat → Int} {n c a J : Nat} {s1 : Nat × Nat} (hC : mbC (ez_I h 72) (ez_I h 77) (ez_I h 78) (ez_I h 79) (ez_I h 80) (ez_I h 92) (ez_I h 93) (ez_I h 94) (ez_I h 95) (ez_I h 96) T n c) (hA : mbA fr to pl my T n c a J) (hF : mbF (ez_I h 100) (ez_I h 101) (ez_I h 102) (ez_I h 117) (ez_I h 118) T n a J) (hs : mS (ez_I h 75) s1) (hb : (ez_I h 71 16).toInt = (s1.2 : Nat)) (hg : aR (ez_I h 75) 8000 (-128) 127) (hr : (bkP T n a J (bkL T n a J) (bkE T n a J) s1).2 ≤ 64000) (K : ∀ h2, zW (fun q k => q = 71 ∧ k = 16) (fun q => q = 75 ∨ q = 103 ∨ q = 104 ∨ q = 115 ∨ q = 116) (fun _ => False) h h2 → mst (ez_I h2 75) (ez_I h2 71 16).toInt (bkP T n a J (bkL T n a J) (bkE T n a J) s1) → aR (ez_I h2 75) 8000 (-128) 127 → Q (.inl none) h2) : pw E (d + 2) 44 1066 [some (.ref 71), some (.int fr), some (.int to), some (.int pl), some (.int my), some (.int ls), l6, l7, l8, l9, l10, l11, l12, l13, l14, l15, l16] [] h Q := by
  have gfr := z_rng fr
  have gto := z_rng to
  have gpl := z_rng pl
  have gmy := z_rng my
  have gls := z_rng ls
  obtain ⟨cn, cc, hT0, hB, hpm, hlt, hpe, t92, t93, t94, t95, t96⟩ := hC
  obtain ⟨afr, ato, ajc, aj6, apl, amy, apn⟩ := hA
  have F := zW_refl (fun q k => q = 71 ∧ k = 16) (fun q => q = 75 ∨ q = 103 ∨ q = 104 ∨ q = 115 ∨ q = 116) (fun _ => False) h
  apply ez_Wp_in
  show ez_gw _ _ _ _ _ _ (cz_44) _ _ _ _ _
  refine gw_skip _ ?_
  have r1 := z_rng (ez_I h 71 16)
  refine gw_ld rfl rfl ?_
  refine gw_ld rfl rfl ?_
  refine z_gR (q := 100) (zT S (by decide) rfl) (zRf S (by decide) (by decide) rfl) (by decide) ?_
  refine z_C (m := 286) rfl rfl (fun x2 ex2 => ?_)
  refine gw_ld rfl rfl ?_
  refine z_gR (q := 103) (zT S (by decide) rfl) (zRf S (by decide) (by decide) rfl) (by decide) ?_
  refine z_cl rfl rfl rfl rfl rfl rfl rfl rfl rfl rfl rfl (zT S (by decide) rfl) ?_
  refine d_cds (u := 100) (n := x2) (w := 103) S (nu := 288) (nw := 288) (fun _ S => ⟨zT S (by decide) rfl, zN S (by decide) rfl⟩) (fun _ S => ⟨zT S (by decide) rfl, zN S (by decide) rfl⟩) (by decide) (by omega) (by rw [show x2.toInt.toNat = 286 by omega, (show ez_I h 100 = ez_I h 100 from zW_fn F 100 x71_34 x71_35)]; exact hF.1.2.1) (fun h3 F4 k5 => ?_)
  rw [show x2.toInt.toNat = 286 by omega, (show ez_I h 100 = ez_I h 100 from zW_fn F 100 x71_34 x71_35)] at k5
  have S6 := zW_sh F4 S
  have F7 := zW_tr F (zW_mono F4 (x71_6) (x71_36) (x71_8))
  have f8 : ez_I h3 71 16 = (ez_I h 71 16) := (zW_f F4 (by decide) (fun c => c)).trans (rfl)
  have A9 : mS (ez_I h3 75) s1 := by rw [zW_fn F4 75 (by decide) (fun _ c => c)]; exact hs
  have A10 : aR (ez_I h3 75) 8000 (-128) 127 := by rw [zW_fn F4 75 (by decide) (fun _ c => c)]; exact hg
  refine gw_ld rfl rfl ?_
  refine gw_ld rfl rfl ?_
  refine z_gR (q := 101) (zT S6 (by decide) rfl) (zRf S6 (by decide) (by decide) rfl) (by decide) ?_
  refine z_C (m := 30) rfl rfl (fun x11 ex11 => ?_)
  refine gw_ld rfl rfl ?_
  refine z_gR (q := 104) (zT S6 (by decide) rfl) (zRf S6 (by decide) (by decide) rfl) (by decide) ?_
  have t12 := congrArg Int32.toInt (f8)
  refine z_cl rfl rfl rfl rfl rfl rfl rfl rfl rfl rfl rfl (zT S6 (by decide) rfl) ?_
  refine d_cds (u := 101) (n := x11) (w := 104) S6 (nu := 30) (nw := 30) (fun _ S => ⟨zT S (by decide) rfl, zN S (by decide) rfl⟩) (fun _ S => ⟨zT S (by decide) rfl, zN S (by decide) rfl⟩) (by decide) (by omega) (by rw [show x11.toInt.toNat = 30 by omega, (show ez_I h3 101 = ez_I h 101 from zW_fn F7 101 x71_37 x71_38)]; exact hF.2.1.2.1) (fun h13 F14 k15 => ?_)
  rw [show x11.toInt.toNat = 30 by omega, (show ez_I h3 101 = ez_I h 101 from zW_fn F7 101 x71_37 x71_38)] at k15
  have S16 := zW_sh F14 S6
  have F17 := zW_tr F7 (zW_mono F14 (x71_6) (x71_39) (x71_8))
  have f18 : ez_I h13 71 16 = (ez_I h 71 16) := (zW_f F14 (by decide) (fun c => c)).trans (f8)
  have A19 : mS (ez_I h13 75) s1 := by rw [zW_fn F14 75 (by decide) (fun _ c => c)]; exact A9
  have A20 : aR (ez_I h13 75) 8000 (-128) 127 := by rw [zW_fn F14 75 (by decide) (fun _ c => c)]; exact A10
  have A21 : wdI (ez_I h13 103) (nL (ez_I h 100)) 286 286 := by rw [zW_fn F14 103 (by decide) (fun _ c => c)]; exact k5
  clear A9
  clear A10
  refine gw_ld rfl rfl ?_
  refine gw_ld rfl rfl ?_
  refine gw_ld rfl rfl ?_
  refine gw_ld rfl rfl ?_
  refine gw_ld rfl rfl ?_
  refine z_gR (q := 100) (zT S16 (by decide) rfl) (zRf S16 (by decide) (by decide) rfl) (by decide) ?_
  refine gw_ld rfl rfl ?_
  refine z_gR (q := 103) (zT S16 (by decide) rfl) (zRf S16 (by decide) (by decide) rfl) (by decide) ?_
  refine gw_ld rfl rfl ?_
  refine z_gR (q := 101) (zT S16 (by decide) rfl) (zRf S16 (by decide) (by decide) rfl) (by decide) ?_
  refine gw_ld rfl rfl ?_
  refine z_gR (q := 104) (zT S16 (by decide) rfl) (zRf S16 (by decide) (by decide) rfl) (by decide) ?_
  have t22 := congrArg Int32.toInt (f18)
  refine z_cl rfl rfl rfl rfl rfl rfl rfl rfl rfl rfl rfl (zT S16 (by decide) rfl) ?_
  have hsl : ∀ x, x < 286 → 1 ≤ (bkL T n a J) x → swP (ez_I h13 100) (ez_I h13 103) (bkL T n a J) (cdN (bkL T n a J) 288) x := fun x hx h1 => by rw [(show ez_I h13 100 = ez_I h 100 from zW_fn F17 100 x71_34 x71_35)]; exact sw_c A21 (hF.1.1) (wd_nL2 A21 hF.1.1 (by decide) (fun k a b => LNf_out a)) (hF.1.2.1) x (by omega) h1
  have hse : ∀ x, x < 30 → 1 ≤ (bkE T n a J) x → swP (ez_I h13 101) (ez_I h13 104) (bkE T n a J) (cdN (bkE T n a J) 288) x := fun x hx h1 => by rw [(show ez_I h13 101 = ez_I h 101 from zW_fn F17 101 x71_37 x71_38)]; exact sw_c k15 (hF.2.1.1) (wd_nL2 k15 hF.2.1.1 (by decide) (fun k a b => bkE_0 a)) (hF.2.1.2.1) x hx h1
  refine d_wPartsB (fr := fr) (to := to) (pl := pl) (T := T) (n := n) (nU := (bkL T n a J)) (nV := cdN (bkL T n a J) 288) (nW := (bkE T n a J)) (nY := cdN (bkE T n a J) 288) (s := s1) (c := c) (a := a) (J := J) S16 cn hT0 (by rw [(show ez_I h13 72 = ez_I h 72 from zW_fn F17 72 x71_40 x71_13)]; exact hB) (mS_m A19 (by rw [f18]; exact hb)) A20 (by rw [(show ez_I h13 77 = ez_I h 77 from zW_fn F17 77 x71_41 x71_15), (show ez_I h13 78 = ez_I h 78 from zW_fn F17 78 x71_42 x71_17), (show ez_I h13 79 = ez_I h 79 from zW_fn F17 79 x71_43 x71_19), (show ez_I h13 80 = ez_I h 80 from zW_fn F17 80 x71_44 x71_21)]; exact hpm) hlt cc ⟨afr, ato, ajc⟩ apl hsl hse (fun q hq => ⟨by have h8 := (lSy_lt hT0 hlt (k := q) (by omega)).1; rw [← hF.1.1 _ h8]; exact hF.1.2.2 _ h8 (by have h7 := bkC_pos (T := T) (n := n) (a := a) (j := J) (i := q - a) (by omega); rw [show a + (q - a) = q by omega] at h7; exact h7), fun z => by have h8 := (lSy_lt hT0 hlt (k := q) (by omega)).2 z; rw [← hF.2.1.1 _ h8]; exact hF.2.1.2.2 _ h8 (by have h7 := bkD_pos (T := T) (n := n) (a := a) (j := J) (i := q - a) (by omega) (by rw [show a + (q - a) = q by omega]; exact z); rw [show a + (q - a) = q by omega] at h7; exact h7)⟩) (by rw [← hF.1.1 256 (by decide)]; exact hF.1.2.2 256 (by decide) (cL_256 _ _ _ _)) (hr) (by rw [(show ez_I h13 92 = ez_I h 92 from zW_fn F17 92 x71_45 x71_23)]; exact t92) (by rw [(show ez_I h13 93 = ez_I h 93 from zW_fn F17 93 x71_46 x71_25)]; exact t93) (by rw [(show ez_I h13 94 = ez_I h 94 from zW_fn F17 94 x71_47 x71_27)]; exact t94) (by rw [(show ez_I h13 95 = ez_I h 95 from zW_fn F17 95 x71_48 x71_29)]; exact t95) (fun h23 F24 k25 k26 => ?_)
  have S27 := zW_sh F24 S16
  have F28 := zW_tr F17 (zW_mono F24 (x71_30) (x71_49) (x71_8))
  have r29 := z_rng (ez_I h23 71 16)
  have A30 : wdI (ez_I h23 103) (nL (ez_I h 100)) 286 286 := by rw [zW_fn F24 103 (by decide) (x71_50)]; exact A21
  have A31 : wdI (ez_I h23 104) (nL (ez_I h 101)) 30 30 := by rw [zW_fn F24 104 (by decide) (x71_51)]; exact k15
  clear A21
  refine z_rv ?_
  exact K _ F28 k25 k26
