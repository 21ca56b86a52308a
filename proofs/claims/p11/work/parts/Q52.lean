/-! PRINTED by wip/pack: the model writes a block: its bits -/
theorem x71_90 : ∀ q k : Nat, (q = 71 ∧ k = 16) → (q = 71 ∧ k = 16) := fun q k hk => hk
theorem x71_91 : ∀ q : Nat, (q = 75) → (q = 75 ∨ 103 ≤ q ∧ q ≤ 105 ∨ q = 107 ∨ q = 109 ∨ q = 115 ∨ q = 116) := fun q hk => (.inl hk)
theorem x71_92 : ∀ q : Nat, (False) → (False) := fun q hk => hk.elim
theorem x71_93 : ¬ (72 = 75 ∨ 103 ≤ 72 ∧ 72 ≤ 105 ∨ 72 = 107 ∨ 72 = 109 ∨ 72 = 115 ∨ 72 = 116) := by omega
theorem x71_94 : ∀ k : Nat, ¬ (72 = 71 ∧ k = 16) := fun k c => by omega
theorem x71_95 : ¬ (77 = 75 ∨ 103 ≤ 77 ∧ 77 ≤ 105 ∨ 77 = 107 ∨ 77 = 109 ∨ 77 = 115 ∨ 77 = 116) := by omega
theorem x71_96 : ∀ k : Nat, ¬ (77 = 71 ∧ k = 16) := fun k c => by omega
theorem x71_97 : ¬ (78 = 75 ∨ 103 ≤ 78 ∧ 78 ≤ 105 ∨ 78 = 107 ∨ 78 = 109 ∨ 78 = 115 ∨ 78 = 116) := by omega
theorem x71_98 : ∀ k : Nat, ¬ (78 = 71 ∧ k = 16) := fun k c => by omega
theorem x71_99 : ¬ (79 = 75 ∨ 103 ≤ 79 ∧ 79 ≤ 105 ∨ 79 = 107 ∨ 79 = 109 ∨ 79 = 115 ∨ 79 = 116) := by omega
theorem x71_100 : ∀ k : Nat, ¬ (79 = 71 ∧ k = 16) := fun k c => by omega
theorem x71_101 : ¬ (80 = 75 ∨ 103 ≤ 80 ∧ 80 ≤ 105 ∨ 80 = 107 ∨ 80 = 109 ∨ 80 = 115 ∨ 80 = 116) := by omega
theorem x71_102 : ∀ k : Nat, ¬ (80 = 71 ∧ k = 16) := fun k c => by omega
theorem x71_103 : ¬ (92 = 75 ∨ 103 ≤ 92 ∧ 92 ≤ 105 ∨ 92 = 107 ∨ 92 = 109 ∨ 92 = 115 ∨ 92 = 116) := by omega
theorem x71_104 : ∀ k : Nat, ¬ (92 = 71 ∧ k = 16) := fun k c => by omega
theorem x71_105 : ¬ (93 = 75 ∨ 103 ≤ 93 ∧ 93 ≤ 105 ∨ 93 = 107 ∨ 93 = 109 ∨ 93 = 115 ∨ 93 = 116) := by omega
theorem x71_106 : ∀ k : Nat, ¬ (93 = 71 ∧ k = 16) := fun k c => by omega
theorem x71_107 : ¬ (94 = 75 ∨ 103 ≤ 94 ∧ 94 ≤ 105 ∨ 94 = 107 ∨ 94 = 109 ∨ 94 = 115 ∨ 94 = 116) := by omega
theorem x71_108 : ∀ k : Nat, ¬ (94 = 71 ∧ k = 16) := fun k c => by omega
theorem x71_109 : ¬ (95 = 75 ∨ 103 ≤ 95 ∧ 95 ≤ 105 ∨ 95 = 107 ∨ 95 = 109 ∨ 95 = 115 ∨ 95 = 116) := by omega
theorem x71_110 : ∀ k : Nat, ¬ (95 = 71 ∧ k = 16) := fun k c => by omega
theorem x71_111 : ¬ (96 = 75 ∨ 103 ≤ 96 ∧ 96 ≤ 105 ∨ 96 = 107 ∨ 96 = 109 ∨ 96 = 115 ∨ 96 = 116) := by omega
theorem x71_112 : ∀ k : Nat, ¬ (96 = 71 ∧ k = 16) := fun k c => by omega
theorem x71_113 : ¬ (100 = 75 ∨ 103 ≤ 100 ∧ 100 ≤ 105 ∨ 100 = 107 ∨ 100 = 109 ∨ 100 = 115 ∨ 100 = 116) := by omega
theorem x71_114 : ∀ k : Nat, ¬ (100 = 71 ∧ k = 16) := fun k c => by omega
theorem x71_115 : ¬ (101 = 75 ∨ 103 ≤ 101 ∧ 101 ≤ 105 ∨ 101 = 107 ∨ 101 = 109 ∨ 101 = 115 ∨ 101 = 116) := by omega
theorem x71_116 : ∀ k : Nat, ¬ (101 = 71 ∧ k = 16) := fun k c => by omega
theorem x71_117 : ¬ (102 = 75 ∨ 103 ≤ 102 ∧ 102 ≤ 105 ∨ 102 = 107 ∨ 102 = 109 ∨ 102 = 115 ∨ 102 = 116) := by omega
theorem x71_118 : ∀ k : Nat, ¬ (102 = 71 ∧ k = 16) := fun k c => by omega
theorem x71_119 : ¬ (117 = 75 ∨ 103 ≤ 117 ∧ 117 ≤ 105 ∨ 117 = 107 ∨ 117 = 109 ∨ 117 = 115 ∨ 117 = 116) := by omega
theorem x71_120 : ∀ k : Nat, ¬ (117 = 71 ∧ k = 16) := fun k c => by omega
theorem x71_121 : ¬ (118 = 75 ∨ 103 ≤ 118 ∧ 118 ≤ 105 ∨ 118 = 107 ∨ 118 = 109 ∨ 118 = 115 ∨ 118 = 116) := by omega
theorem x71_122 : ∀ k : Nat, ¬ (118 = 71 ∧ k = 16) := fun k c => by omega
theorem x71_123 : ¬ (71 = 75 ∨ 103 ≤ 71 ∧ 71 ≤ 105 ∨ 71 = 107 ∨ 71 = 109 ∨ 71 = 115 ∨ 71 = 116) := by omega
theorem x71_124 : ¬ (71 = 71 ∧ 56 = 16) := by omega
theorem x71_125 : ¬ (71 = 71 ∧ 57 = 16) := by omega
theorem x71_126 : ¬ (71 = 71 ∧ 58 = 16) := by omega
theorem x71_127 : ∀ q : Nat, (q = 75 ∨ 103 ≤ q ∧ q ≤ 105 ∨ q = 107 ∨ q = 109 ∨ q = 115 ∨ q = 116) → (q = 75 ∨ 103 ≤ q ∧ q ≤ 105 ∨ q = 107 ∨ q = 109 ∨ q = 115 ∨ q = 116) := fun q hk => hk.elim (fun g => (.inl g)) (fun hk => hk.elim (fun g => (.inr (.inl g))) (fun hk => hk.elim (fun g => (.inr (.inr (.inl g)))) (fun hk => hk.elim (fun g => (.inr (.inr (.inr (.inl g))))) (fun hk => hk.elim (fun g => (.inr (.inr (.inr (.inr (.inl g)))))) (fun hk => (.inr (.inr (.inr (.inr (.inr hk))))))))))
theorem x71_128 : ∀ q : Nat, (q = 75 ∨ 103 ≤ q ∧ q ≤ 105 ∨ q = 115 ∨ q = 116) → (q = 75 ∨ 103 ≤ q ∧ q ≤ 105 ∨ q = 107 ∨ q = 109 ∨ q = 115 ∨ q = 116) := fun q hk => hk.elim (fun g => (.inl g)) (fun hk => hk.elim (fun g => (.inr (.inl g))) (fun hk => hk.elim (fun g => (.inr (.inr (.inr (.inr (.inl g)))))) (fun hk => (.inr (.inr (.inr (.inr (.inr hk))))))))
theorem x71_129 : ¬ (106 = 75 ∨ 103 ≤ 106 ∧ 106 ≤ 105 ∨ 106 = 107 ∨ 106 = 109 ∨ 106 = 115 ∨ 106 = 116) := by omega
theorem x71_130 : ∀ k : Nat, ¬ (106 = 71 ∧ k = 16) := fun k c => by omega
theorem x71_131 : ¬ (108 = 75 ∨ 103 ≤ 108 ∧ 108 ≤ 105 ∨ 108 = 107 ∨ 108 = 109 ∨ 108 = 115 ∨ 108 = 116) := by omega
theorem x71_132 : ∀ k : Nat, ¬ (108 = 71 ∧ k = 16) := fun k c => by omega
theorem x71_133 : ∀ q : Nat, (q = 75 ∨ q = 107 ∨ q = 109 ∨ q = 115 ∨ q = 116) → (q = 75 ∨ 103 ≤ q ∧ q ≤ 105 ∨ q = 107 ∨ q = 109 ∨ q = 115 ∨ q = 116) := fun q hk => hk.elim (fun g => (.inl g)) (fun hk => hk.elim (fun g => (.inr (.inr (.inl g)))) (fun hk => hk.elim (fun g => (.inr (.inr (.inr (.inl g))))) (fun hk => hk.elim (fun g => (.inr (.inr (.inr (.inr (.inl g)))))) (fun hk => (.inr (.inr (.inr (.inr (.inr hk)))))))))
set_option maxRecDepth 4000 in
set_option maxHeartbeats 2000000 in
theorem w_s {E : Nat → Nat × (Nat → Int32)} {d : Nat} {Q : ez_Q} {h : ez_H} {fr : Int32} {to : Int32} {pl : Int32} {my : Int32} {ls : Int32} {l6 : Option Value} {l7 : Option Value} {l8 : Option Value} {od : Int32} {l10 : Option Value} {l11 : Option Value} {l12 : Option Value} {l13 : Option Value} {wy : Int32} {b15 : Int32} {l16 : Option Value} (S : zSh h) {T : Nat → Int} {n c a J : Nat} {l : Nat} {s0 : Nat × Nat} (hC : mbC (ez_I h 72) (ez_I h 77) (ez_I h 78) (ez_I h 79) (ez_I h 80) (ez_I h 92) (ez_I h 93) (ez_I h 94) (ez_I h 95) (ez_I h 96) T n c) (hA : mbA fr to pl my T n c a J) (hF : mbF (ez_I h 100) (ez_I h 101) (ez_I h 102) (ez_I h 117) (ez_I h 118) T n a J) (hT : mbT (ez_I h 71 56) (ez_I h 71 57) (ez_I h 71 58) T n a J) (hX : mbX (ez_I h 106) (ez_I h 108)) (hod : od.toInt = ((bkO T n a J) : Nat)) (hwy : wy.toInt = ((bkW T n a J s0.2) : Nat)) (hls : ls.toInt = (l : Nat) ∧ l ≤ 1) (hs : mS (ez_I h 75) s0) (hb : (ez_I h 71 16).toInt = (s0.2 : Nat)) (hg : aR (ez_I h 75) 8000 (-128) 127) (hr : s0.2 + 50 + 8 * (bkY T n a J) ≤ 48800) (K : ∀ h2, zW (fun q k => q = 71 ∧ k = 16) (fun q => q = 75 ∨ 103 ≤ q ∧ q ≤ 105 ∨ q = 107 ∨ q = 109 ∨ q = 115 ∨ q = 116) (fun _ => False) h h2 → (bkS T n a J l s0).2 ≤ s0.2 + 42 + 8 * (bkY T n a J) → mst (ez_I h2 75) (ez_I h2 71 16).toInt (bkS T n a J l s0) → aR (ez_I h2 75) 8000 (-128) 127 → Q (.inl none) h2) : pw E (d + 2) 44 756 [some (.ref 71), some (.int fr), some (.int to), some (.int pl), some (.int my), some (.int ls), l6, l7, l8, some (.int od), l10, l11, l12, l13, some (.int wy), some (.int b15), l16] [] h Q := by
  have gfr := z_rng fr
  have gto := z_rng to
  have gpl := z_rng pl
  have gmy := z_rng my
  have gls := z_rng ls
  have god := z_rng od
  have gwy := z_rng wy
  have gb15 := z_rng b15
  obtain ⟨cn, cc, hT0, hB, hpm, hlt, hpe, t92, t93, t94, t95, t96⟩ := id hC
  obtain ⟨afr, ato, ajc, aj6, apl, amy, apn⟩ := id hA
  have hfl := mbF_le hF hT0 hlt ajc l s0
  have hw9 := bkW_2 T n a J s0.2
  have F := zW_refl (fun q k => q = 71 ∧ k = 16) (fun q => q = 75 ∨ 103 ≤ q ∧ q ≤ 105 ∨ q = 107 ∨ q = 109 ∨ q = 115 ∨ q = 116) (fun _ => False) h
  apply ez_Wp_in
  show ez_gw _ _ _ _ _ _ (cz_44) _ _ _ _ _
  refine gw_skip _ ?_
  have r1 := z_rng (ez_I h 71 16)
  refine gw_ld rfl rfl ?_
  refine gw_ld rfl rfl ?_
  refine z_b1 (fun c2 => ?_) (fun c2 => ?_)
  · have c2 : ls.toInt = 0 := c2
    refine gw_skip _ ?_
    refine z_C (m := 0) rfl rfl (fun x3 ex3 => ?_)
    refine z_C (m := 1) rfl rfl (fun x4 ex4 => ?_)
    refine z_cl rfl rfl rfl rfl rfl rfl rfl rfl rfl rfl rfl (zT S (by decide) rfl) ?_
    refine d_wbV (s := s0) (V := l) (N := 1) (v := x3) (n := x4) S hs (hb) hg (by omega) (by omega) (by show l < 2; omega) (by decide) (by omega) (fun h5 F6 k7 k8 k9 => ?_)
    have S10 := zW_sh F6 S
    have F11 := zW_tr F (zW_mono F6 (x71_90) (x71_91) (x71_92))
    have r12 := z_rng (ez_I h5 71 16)
    refine gw_ld rfl rfl ?_
    refine gw_ld rfl rfl ?_
    refine z_C (m := 2) rfl rfl (fun x13 ex13 => ?_)
    refine z_cl rfl rfl rfl rfl rfl rfl rfl rfl rfl rfl rfl (zT S10 (by decide) rfl) ?_
    refine d_wbV (s := (wr s0 (l) (1))) (V := bkW T n a J s0.2) (N := 2) (v := wy) (n := x13) S10 k7 (k8) k9 (by omega) (by omega) (by show _ < 4; omega) (by decide) (by show s0.2 + 1 + 2 ≤ _; omega) (fun h14 F15 k16 k17 k18 => ?_)
    have S19 := zW_sh F15 S10
    have F20 := zW_tr F11 (zW_mono F15 (x71_90) (x71_91) (x71_92))
    have r21 := z_rng (ez_I h14 71 16)
    refine gw_ld rfl rfl ?_
    refine z_b1 (fun c22 => ?_) (fun c22 => ?_)
    · have c22 : wy.toInt ≠ 0 := c22
      refine gw_skip _ ?_
      refine gw_ld rfl rfl ?_
      refine z_C (m := 1) rfl rfl (fun x23 ex23 => ?_)
      refine z_b2 (fun c24 => ?_) (fun c24 => ?_)
      · have c24 : wy.toInt ≠ x23.toInt := c24
        have hw2 : (bkW T n a J s0.2) = 2 := by omega
        refine gw_skip _ (ez_Wp_at (w_s2 (T := T) (n := n) (c := c) (a := a) (J := J) (s1 := (bk1 T n a J l s0)) S19 (by rw [(show ez_I h14 72 = ez_I h 72 from zW_fn F20 72 x71_93 x71_94), (show ez_I h14 77 = ez_I h 77 from zW_fn F20 77 x71_95 x71_96), (show ez_I h14 78 = ez_I h 78 from zW_fn F20 78 x71_97 x71_98), (show ez_I h14 79 = ez_I h 79 from zW_fn F20 79 x71_99 x71_100), (show ez_I h14 80 = ez_I h 80 from zW_fn F20 80 x71_101 x71_102), (show ez_I h14 92 = ez_I h 92 from zW_fn F20 92 x71_103 x71_104), (show ez_I h14 93 = ez_I h 93 from zW_fn F20 93 x71_105 x71_106), (show ez_I h14 94 = ez_I h 94 from zW_fn F20 94 x71_107 x71_108), (show ez_I h14 95 = ez_I h 95 from zW_fn F20 95 x71_109 x71_110), (show ez_I h14 96 = ez_I h 96 from zW_fn F20 96 x71_111 x71_112)]; exact hC) hA (by rw [(show ez_I h14 100 = ez_I h 100 from zW_fn F20 100 x71_113 x71_114), (show ez_I h14 101 = ez_I h 101 from zW_fn F20 101 x71_115 x71_116), (show ez_I h14 102 = ez_I h 102 from zW_fn F20 102 x71_117 x71_118), (show ez_I h14 117 = ez_I h 117 from zW_fn F20 117 x71_119 x71_120), (show ez_I h14 118 = ez_I h 118 from zW_fn F20 118 x71_121 x71_122)]; exact hF) (by rw [(show ez_I h14 71 56 = ez_I h 71 56 from zW_f F20 x71_123 x71_124), (show ez_I h14 71 57 = ez_I h 71 57 from zW_f F20 x71_123 x71_125), (show ez_I h14 71 58 = ez_I h 71 58 from zW_f F20 x71_123 x71_126)]; exact hT) hod k16 k17 k18 (by rw [← (bk_w2 (l := l) (s := s0) hw2).1]; omega) (fun h25 F26 k27 k28 => ?_)) rfl)
        have F29 := zW_tr (zW_mono F20 x71_90 x71_127 x71_92) (zW_mono F26 x71_90 x71_128 x71_92)
        exact K _ F29 hfl (by rw [(bk_w2 hw2).1]; exact k27) k28
      · have c24 : ¬ (wy.toInt ≠ x23.toInt) := c24
        have hw1 : (bkW T n a J s0.2) = 1 := by omega
        refine ez_Wp_at (w_s1 (T := T) (n := n) (c := c) (a := a) (J := J) (s1 := (bk1 T n a J l s0)) S19 (by rw [(show ez_I h14 72 = ez_I h 72 from zW_fn F20 72 x71_93 x71_94), (show ez_I h14 77 = ez_I h 77 from zW_fn F20 77 x71_95 x71_96), (show ez_I h14 78 = ez_I h 78 from zW_fn F20 78 x71_97 x71_98), (show ez_I h14 79 = ez_I h 79 from zW_fn F20 79 x71_99 x71_100), (show ez_I h14 80 = ez_I h 80 from zW_fn F20 80 x71_101 x71_102), (show ez_I h14 92 = ez_I h 92 from zW_fn F20 92 x71_103 x71_104), (show ez_I h14 93 = ez_I h 93 from zW_fn F20 93 x71_105 x71_106), (show ez_I h14 94 = ez_I h 94 from zW_fn F20 94 x71_107 x71_108), (show ez_I h14 95 = ez_I h 95 from zW_fn F20 95 x71_109 x71_110), (show ez_I h14 96 = ez_I h 96 from zW_fn F20 96 x71_111 x71_112)]; exact hC) hA (by rw [(show ez_I h14 106 = ez_I h 106 from zW_fn F20 106 x71_129 x71_130), (show ez_I h14 108 = ez_I h 108 from zW_fn F20 108 x71_131 x71_132)]; exact hX) k16 k17 k18 (by rw [← (bk_w1 (l := l) (s := s0) hw1).1]; omega) (fun h30 F31 k32 k33 => ?_)) rfl
        have F34 := zW_tr (zW_mono F20 x71_90 x71_127 x71_92) (zW_mono F31 x71_90 x71_133 x71_92)
        exact K _ F34 hfl (by rw [(bk_w1 hw1).1]; exact k32) k33
    · have c22 : ¬ (wy.toInt ≠ 0) := c22
      have hw0 : (bkW T n a J s0.2) = 0 := by omega
      refine ez_Wp_at (w_s0 (T := T) (n := n) (P := ptP T n a) (Y := (bkY T n a J)) (s1 := (bk1 T n a J l s0)) S19 cn hT0 (by rw [(show ez_I h14 72 = ez_I h 72 from zW_fn F20 72 x71_93 x71_94)]; exact hB) apl amy apn k16 k17 k18 (by have h8 : (bk1 T n a J l s0).2 = s0.2 + 3 := rfl; omega) (fun h35 F36 k37 k38 => ?_)) rfl
      have F39 := zW_tr (zW_mono F20 x71_90 x71_127 x71_92) (zW_mono F36 x71_90 x71_91 x71_92)
      exact K _ F39 hfl (by rw [(bk_w0 hw0).1]; exact k37) k38
  · have c2 : ¬ (ls.toInt = 0) := c2
    refine z_C (m := 1) rfl rfl (fun x40 ex40 => ?_)
    refine z_go ?_
    refine gw_skip _ ?_
    refine z_C (m := 1) rfl rfl (fun x41 ex41 => ?_)
    refine z_cl rfl rfl rfl rfl rfl rfl rfl rfl rfl rfl rfl (zT S (by decide) rfl) ?_
    refine d_wbV (s := s0) (V := l) (N := 1) (v := x40) (n := x41) S hs (hb) hg (by omega) (by omega) (by show l < 2; omega) (by decide) (by omega) (fun h42 F43 k44 k45 k46 => ?_)
    have S47 := zW_sh F43 S
    have F48 := zW_tr F (zW_mono F43 (x71_90) (x71_91) (x71_92))
    have r49 := z_rng (ez_I h42 71 16)
    refine gw_ld rfl rfl ?_
    refine gw_ld rfl rfl ?_
    refine z_C (m := 2) rfl rfl (fun x50 ex50 => ?_)
    refine z_cl rfl rfl rfl rfl rfl rfl rfl rfl rfl rfl rfl (zT S47 (by decide) rfl) ?_
    refine d_wbV (s := (wr s0 (l) (1))) (V := bkW T n a J s0.2) (N := 2) (v := wy) (n := x50) S47 k44 (k45) k46 (by omega) (by omega) (by show _ < 4; omega) (by decide) (by show s0.2 + 1 + 2 ≤ _; omega) (fun h51 F52 k53 k54 k55 => ?_)
    have S56 := zW_sh F52 S47
    have F57 := zW_tr F48 (zW_mono F52 (x71_90) (x71_91) (x71_92))
    have r58 := z_rng (ez_I h51 71 16)
    refine gw_ld rfl rfl ?_
    refine z_b1 (fun c59 => ?_) (fun c59 => ?_)
    · have c59 : wy.toInt ≠ 0 := c59
      refine gw_skip _ ?_
      refine gw_ld rfl rfl ?_
      refine z_C (m := 1) rfl rfl (fun x60 ex60 => ?_)
      refine z_b2 (fun c61 => ?_) (fun c61 => ?_)
      · have c61 : wy.toInt ≠ x60.toInt := c61
        have hw2 : (bkW T n a J s0.2) = 2 := by omega
        refine gw_skip _ (ez_Wp_at (w_s2 (T := T) (n := n) (c := c) (a := a) (J := J) (s1 := (bk1 T n a J l s0)) S56 (by rw [(show ez_I h51 72 = ez_I h 72 from zW_fn F57 72 x71_93 x71_94), (show ez_I h51 77 = ez_I h 77 from zW_fn F57 77 x71_95 x71_96), (show ez_I h51 78 = ez_I h 78 from zW_fn F57 78 x71_97 x71_98), (show ez_I h51 79 = ez_I h 79 from zW_fn F57 79 x71_99 x71_100), (show ez_I h51 80 = ez_I h 80 from zW_fn F57 80 x71_101 x71_102), (show ez_I h51 92 = ez_I h 92 from zW_fn F57 92 x71_103 x71_104), (show ez_I h51 93 = ez_I h 93 from zW_fn F57 93 x71_105 x71_106), (show ez_I h51 94 = ez_I h 94 from zW_fn F57 94 x71_107 x71_108), (show ez_I h51 95 = ez_I h 95 from zW_fn F57 95 x71_109 x71_110), (show ez_I h51 96 = ez_I h 96 from zW_fn F57 96 x71_111 x71_112)]; exact hC) hA (by rw [(show ez_I h51 100 = ez_I h 100 from zW_fn F57 100 x71_113 x71_114), (show ez_I h51 101 = ez_I h 101 from zW_fn F57 101 x71_115 x71_116), (show ez_I h51 102 = ez_I h 102 from zW_fn F57 102 x71_117 x71_118), (show ez_I h51 117 = ez_I h 117 from zW_fn F57 117 x71_119 x71_120), (show ez_I h51 118 = ez_I h 118 from zW_fn F57 118 x71_121 x71_122)]; exact hF) (by rw [(show ez_I h51 71 56 = ez_I h 71 56 from zW_f F57 x71_123 x71_124), (show ez_I h51 71 57 = ez_I h 71 57 from zW_f F57 x71_123 x71_125), (show ez_I h51 71 58 = ez_I h 71 58 from zW_f F57 x71_123 x71_126)]; exact hT) hod k53 k54 k55 (by rw [← (bk_w2 (l := l) (s := s0) hw2).1]; omega) (fun h62 F63 k64 k65 => ?_)) rfl)
        have F66 := zW_tr (zW_mono F57 x71_90 x71_127 x71_92) (zW_mono F63 x71_90 x71_128 x71_92)
        exact K _ F66 hfl (by rw [(bk_w2 hw2).1]; exact k64) k65
      · have c61 : ¬ (wy.toInt ≠ x60.toInt) := c61
        have hw1 : (bkW T n a J s0.2) = 1 := by omega
        refine ez_Wp_at (w_s1 (T := T) (n := n) (c := c) (a := a) (J := J) (s1 := (bk1 T n a J l s0)) S56 (by rw [(show ez_I h51 72 = ez_I h 72 from zW_fn F57 72 x71_93 x71_94), (show ez_I h51 77 = ez_I h 77 from zW_fn F57 77 x71_95 x71_96), (show ez_I h51 78 = ez_I h 78 from zW_fn F57 78 x71_97 x71_98), (show ez_I h51 79 = ez_I h 79 from zW_fn F57 79 x71_99 x71_100), (show ez_I h51 80 = ez_I h 80 from zW_fn F57 80 x71_101 x71_102), (show ez_I h51 92 = ez_I h 92 from zW_fn F57 92 x71_103 x71_104), (show ez_I h51 93 = ez_I h 93 from zW_fn F57 93 x71_105 x71_106), (show ez_I h51 94 = ez_I h 94 from zW_fn F57 94 x71_107 x71_108), (show ez_I h51 95 = ez_I h 95 from zW_fn F57 95 x71_109 x71_110), (show ez_I h51 96 = ez_I h 96 from zW_fn F57 96 x71_111 x71_112)]; exact hC) hA (by rw [(show ez_I h51 106 = ez_I h 106 from zW_fn F57 106 x71_129 x71_130), (show ez_I h51 108 = ez_I h 108 from zW_fn F57 108 x71_131 x71_132)]; exact hX) k53 k54 k55 (by rw [← (bk_w1 (l := l) (s := s0) hw1).1]; omega) (fun h67 F68 k69 k70 => ?_)) rfl
        have F71 := zW_tr (zW_mono F57 x71_90 x71_127 x71_92) (zW_mono F68 x71_90 x71_133 x71_92)
        exact K _ F71 hfl (by rw [(bk_w1 hw1).1]; exact k69) k70
    · have c59 : ¬ (wy.toInt ≠ 0) := c59
      have hw0 : (bkW T n a J s0.2) = 0 := by omega
      refine ez_Wp_at (w_s0 (T := T) (n := n) (P := ptP T n a) (Y := (bkY T n a J)) (s1 := (bk1 T n a J l s0)) S56 cn hT0 (by rw [(show ez_I h51 72 = ez_I h 72 from zW_fn F57 72 x71_93 x71_94)]; exact hB) apl amy apn k53 k54 k55 (by have h8 : (bk1 T n a J l s0).2 = s0.2 + 3 := rfl; omega) (fun h72 F73 k74 k75 => ?_)) rfl
      have F76 := zW_tr (zW_mono F57 x71_90 x71_127 x71_92) (zW_mono F73 x71_90 x71_91 x71_92)
      exact K _ F76 hfl (by rw [(bk_w0 hw0).1]; exact k74) k75
