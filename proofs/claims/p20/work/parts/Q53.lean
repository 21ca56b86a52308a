/-! PRINTED by wip/pack: the model writes a block: the book -/
theorem x71_134 : ¬ (83 ≤ 72 ∧ 72 ≤ 91) := by omega
theorem x71_135 : ∀ k : Nat, ¬ (72 = 71 ∧ k = 15) := fun k c => by omega
theorem x71_136 : ¬ (83 ≤ 77 ∧ 77 ≤ 91) := by omega
theorem x71_137 : ∀ k : Nat, ¬ (77 = 71 ∧ k = 15) := fun k c => by omega
theorem x71_138 : ¬ (83 ≤ 78 ∧ 78 ≤ 91) := by omega
theorem x71_139 : ∀ k : Nat, ¬ (78 = 71 ∧ k = 15) := fun k c => by omega
theorem x71_140 : ¬ (83 ≤ 79 ∧ 79 ≤ 91) := by omega
theorem x71_141 : ∀ k : Nat, ¬ (79 = 71 ∧ k = 15) := fun k c => by omega
theorem x71_142 : ¬ (83 ≤ 80 ∧ 80 ≤ 91) := by omega
theorem x71_143 : ∀ k : Nat, ¬ (80 = 71 ∧ k = 15) := fun k c => by omega
theorem x71_144 : ¬ (83 ≤ 92 ∧ 92 ≤ 91) := by omega
theorem x71_145 : ∀ k : Nat, ¬ (92 = 71 ∧ k = 15) := fun k c => by omega
theorem x71_146 : ¬ (83 ≤ 93 ∧ 93 ≤ 91) := by omega
theorem x71_147 : ∀ k : Nat, ¬ (93 = 71 ∧ k = 15) := fun k c => by omega
theorem x71_148 : ¬ (83 ≤ 94 ∧ 94 ≤ 91) := by omega
theorem x71_149 : ∀ k : Nat, ¬ (94 = 71 ∧ k = 15) := fun k c => by omega
theorem x71_150 : ¬ (83 ≤ 95 ∧ 95 ≤ 91) := by omega
theorem x71_151 : ∀ k : Nat, ¬ (95 = 71 ∧ k = 15) := fun k c => by omega
theorem x71_152 : ¬ (83 ≤ 96 ∧ 96 ≤ 91) := by omega
theorem x71_153 : ∀ k : Nat, ¬ (96 = 71 ∧ k = 15) := fun k c => by omega
theorem x71_154 : ¬ (83 ≤ 100 ∧ 100 ≤ 91) := by omega
theorem x71_155 : ∀ k : Nat, ¬ (100 = 71 ∧ k = 15) := fun k c => by omega
theorem x71_156 : ¬ (83 ≤ 101 ∧ 101 ≤ 91) := by omega
theorem x71_157 : ∀ k : Nat, ¬ (101 = 71 ∧ k = 15) := fun k c => by omega
theorem x71_158 : ¬ (83 ≤ 102 ∧ 102 ≤ 91) := by omega
theorem x71_159 : ∀ k : Nat, ¬ (102 = 71 ∧ k = 15) := fun k c => by omega
theorem x71_160 : ¬ (83 ≤ 117 ∧ 117 ≤ 91) := by omega
theorem x71_161 : ∀ k : Nat, ¬ (117 = 71 ∧ k = 15) := fun k c => by omega
theorem x71_162 : ¬ (83 ≤ 118 ∧ 118 ≤ 91) := by omega
theorem x71_163 : ∀ k : Nat, ¬ (118 = 71 ∧ k = 15) := fun k c => by omega
theorem x71_164 : ¬ (83 ≤ 71 ∧ 71 ≤ 91) := by omega
theorem x71_165 : ¬ (71 = 71 ∧ 56 = 15) := by omega
theorem x71_166 : ¬ (71 = 71 ∧ 57 = 15) := by omega
theorem x71_167 : ¬ (71 = 71 ∧ 58 = 15) := by omega
theorem x71_168 : ¬ (83 ≤ 106 ∧ 106 ≤ 91) := by omega
theorem x71_169 : ∀ k : Nat, ¬ (106 = 71 ∧ k = 15) := fun k c => by omega
theorem x71_170 : ¬ (83 ≤ 108 ∧ 108 ≤ 91) := by omega
theorem x71_171 : ∀ k : Nat, ¬ (108 = 71 ∧ k = 15) := fun k c => by omega
theorem x71_172 : ¬ (83 ≤ 75 ∧ 75 ≤ 91) := by omega
theorem x71_173 : ∀ k : Nat, ¬ (75 = 71 ∧ k = 15) := fun k c => by omega
theorem x71_174 : ¬ (71 = 71 ∧ 16 = 15) := by omega
theorem x71_175 : ∀ q k : Nat, (q = 71 ∧ k = 15) → (q = 71 ∧ k = 15 ∨ q = 71 ∧ k = 16) := fun q k hk => (.inl hk)
theorem x71_176 : ∀ q : Nat, (83 ≤ q ∧ q ≤ 91) → (q = 75 ∨ 83 ≤ q ∧ q ≤ 91 ∨ 103 ≤ q ∧ q ≤ 105 ∨ q = 107 ∨ q = 109 ∨ q = 115 ∨ q = 116) := fun q hk => (.inr (.inl hk))
theorem x71_177 : ∀ q : Nat, (False) → (False) := fun q hk => hk.elim
theorem x71_178 : ∀ q k : Nat, (q = 71 ∧ k = 16) → (q = 71 ∧ k = 15 ∨ q = 71 ∧ k = 16) := fun q k hk => (.inr hk)
theorem x71_179 : ∀ q : Nat, (q = 75 ∨ 103 ≤ q ∧ q ≤ 105 ∨ q = 107 ∨ q = 109 ∨ q = 115 ∨ q = 116) → (q = 75 ∨ 83 ≤ q ∧ q ≤ 91 ∨ 103 ≤ q ∧ q ≤ 105 ∨ q = 107 ∨ q = 109 ∨ q = 115 ∨ q = 116) := fun q hk => hk.elim (fun g => (.inl g)) (fun hk => hk.elim (fun g => (.inr (.inr (.inl g)))) (fun hk => hk.elim (fun g => (.inr (.inr (.inr (.inl g))))) (fun hk => hk.elim (fun g => (.inr (.inr (.inr (.inr (.inl g)))))) (fun hk => hk.elim (fun g => (.inr (.inr (.inr (.inr (.inr (.inl g))))))) (fun hk => (.inr (.inr (.inr (.inr (.inr (.inr hk)))))))))))
theorem x71_180 : ¬ (71 = 75 ∨ 103 ≤ 71 ∧ 71 ≤ 105 ∨ 71 = 107 ∨ 71 = 109 ∨ 71 = 115 ∨ 71 = 116) := by omega
theorem x71_181 : ¬ (71 = 71 ∧ 15 = 16) := by omega
theorem x71_182 : ¬ (83 = 75 ∨ 103 ≤ 83 ∧ 83 ≤ 105 ∨ 83 = 107 ∨ 83 = 109 ∨ 83 = 115 ∨ 83 = 116) := by omega
theorem x71_183 : ∀ k : Nat, ¬ (83 = 71 ∧ k = 16) := fun k c => by omega
theorem x71_184 : ¬ (84 = 75 ∨ 103 ≤ 84 ∧ 84 ≤ 105 ∨ 84 = 107 ∨ 84 = 109 ∨ 84 = 115 ∨ 84 = 116) := by omega
theorem x71_185 : ∀ k : Nat, ¬ (84 = 71 ∧ k = 16) := fun k c => by omega
theorem x71_186 : ¬ (85 = 75 ∨ 103 ≤ 85 ∧ 85 ≤ 105 ∨ 85 = 107 ∨ 85 = 109 ∨ 85 = 115 ∨ 85 = 116) := by omega
theorem x71_187 : ∀ k : Nat, ¬ (85 = 71 ∧ k = 16) := fun k c => by omega
theorem x71_188 : ¬ (86 = 75 ∨ 103 ≤ 86 ∧ 86 ≤ 105 ∨ 86 = 107 ∨ 86 = 109 ∨ 86 = 115 ∨ 86 = 116) := by omega
theorem x71_189 : ∀ k : Nat, ¬ (86 = 71 ∧ k = 16) := fun k c => by omega
theorem x71_190 : ¬ (87 = 75 ∨ 103 ≤ 87 ∧ 87 ≤ 105 ∨ 87 = 107 ∨ 87 = 109 ∨ 87 = 115 ∨ 87 = 116) := by omega
theorem x71_191 : ∀ k : Nat, ¬ (87 = 71 ∧ k = 16) := fun k c => by omega
theorem x71_192 : ¬ (88 = 75 ∨ 103 ≤ 88 ∧ 88 ≤ 105 ∨ 88 = 107 ∨ 88 = 109 ∨ 88 = 115 ∨ 88 = 116) := by omega
theorem x71_193 : ∀ k : Nat, ¬ (88 = 71 ∧ k = 16) := fun k c => by omega
theorem x71_194 : ¬ (89 = 75 ∨ 103 ≤ 89 ∧ 89 ≤ 105 ∨ 89 = 107 ∨ 89 = 109 ∨ 89 = 115 ∨ 89 = 116) := by omega
theorem x71_195 : ∀ k : Nat, ¬ (89 = 71 ∧ k = 16) := fun k c => by omega
theorem x71_196 : ¬ (90 = 75 ∨ 103 ≤ 90 ∧ 90 ≤ 105 ∨ 90 = 107 ∨ 90 = 109 ∨ 90 = 115 ∨ 90 = 116) := by omega
theorem x71_197 : ∀ k : Nat, ¬ (90 = 71 ∧ k = 16) := fun k c => by omega
theorem x71_198 : ¬ (91 = 75 ∨ 103 ≤ 91 ∧ 91 ≤ 105 ∨ 91 = 107 ∨ 91 = 109 ∨ 91 = 115 ∨ 91 = 116) := by omega
theorem x71_199 : ∀ k : Nat, ¬ (91 = 71 ∧ k = 16) := fun k c => by omega
set_option maxRecDepth 4000 in
set_option maxHeartbeats 2000000 in
theorem w_D_L2 {E : Nat → Nat × (Nat → Int32)} {d : Nat} {Q : ez_Q} {h : ez_H} {fr : Int32} {to : Int32} {pl : Int32} {my : Int32} {ls : Int32} {l6 : Option Value} {dy : Int64} {od : Int32} {fx : Int64} {st : Int64} {wy : Int32} {l15 : Option Value} {l16 : Option Value} (S : zSh h) {T : Nat → Int} {n c a J : Nat} {l bn : Nat} {s0 : Nat × Nat} (hC : mbC (ez_I h 72) (ez_I h 77) (ez_I h 78) (ez_I h 79) (ez_I h 80) (ez_I h 92) (ez_I h 93) (ez_I h 94) (ez_I h 95) (ez_I h 96) T n c) (hA : mbA fr to pl my T n c a J) (hF : mbF (ez_I h 100) (ez_I h 101) (ez_I h 102) (ez_I h 117) (ez_I h 118) T n a J) (hT : mbT (ez_I h 71 56) (ez_I h 71 57) (ez_I h 71 58) T n a J) (hX : mbX (ez_I h 106) (ez_I h 108)) (hod : od.toInt = ((bkO T n a J) : Nat)) (hwy : wy.toInt = ((bkW T n a J s0.2) : Nat)) (hdy : dy.toInt = ((bkDY T n a J) : Nat)) (hfx : fx.toInt = ((bkFX T n a J) : Nat)) (hst : st.toInt = (bkST T n a J s0.2 : Nat)) (hbg : (bkDY T n a J) ≤ 9000000 ∧ (bkFX T n a J) ≤ 9000000 ∧ bkST T n a J s0.2 ≤ 9000000) (hls : ls.toInt = (l : Nat) ∧ l ≤ 1) (hs : mS (ez_I h 75) s0) (hb : (ez_I h 71 16).toInt = (s0.2 : Nat)) (hg : aR (ez_I h 75) 8000 (-128) 127) (hbn : (ez_I h 71 15).toInt = (bn : Nat) ∧ bn ≤ 9) (hr : s0.2 + 50 + 8 * (bkY T n a J) ≤ 48800) (K : ∀ h2, zW (fun q k => q = 71 ∧ k = 15 ∨ q = 71 ∧ k = 16) (fun q => q = 75 ∨ 83 ≤ q ∧ q ≤ 91 ∨ 103 ≤ q ∧ q ≤ 105 ∨ q = 107 ∨ q = 109 ∨ q = 115 ∨ q = 116) (fun _ => False) h h2 → (bkS T n a J l s0).2 ≤ s0.2 + 42 + 8 * (bkY T n a J) → mst (ez_I h2 75) (ez_I h2 71 16).toInt (bkS T n a J l s0) → aR (ez_I h2 75) 8000 (-128) 127 → (ez_I h2 71 15).toInt = (bn : Int) + 1 → mbk (ez_I h2 83) (ez_I h2 84) (ez_I h2 85) (ez_I h2 86) (ez_I h2 87) (ez_I h2 88) (ez_I h2 89) (ez_I h2 90) (ez_I h2 91) (ez_I h 83) (ez_I h 84) (ez_I h 85) (ez_I h 86) (ez_I h 87) (ez_I h 88) (ez_I h 89) (ez_I h 90) (ez_I h 91) T n a J s0.2 bn → Q (.inl none) h2) : ∀ N : Nat, (∀ (h2 : ez_H) (l8 : Option Value) (l11 : Option Value) (l13 : Option Value) (b : Int32) (k : Int32) , zW (fun q k => q = 71 ∧ k = 15) (fun q => 83 ≤ q ∧ q ≤ 91) (fun _ => False) h h2 → (0 ≤ k.toInt ∧ k.toInt ≤ 19 ∧ b.toInt = (bn : Nat) ∧ (ez_I h2 71 15).toInt = (bn : Nat)) → (onE (ez_I h2 83) (ez_I h 83) bn (((bkW T n a J s0.2) : Nat) : Int)) → (onE (ez_I h2 84) (ez_I h 84) bn ((J : Nat) : Int)) → (onE (ez_I h2 85) (ez_I h 85) bn (((bkY T n a J) : Nat) : Int)) → (onE (ez_I h2 86) (ez_I h 86) bn (((bkB T n a J s0.2) : Nat) : Int)) → (onE (ez_I h2 87) (ez_I h 87) bn (((bkFX T n a J) : Nat) : Int)) → (onE (ez_I h2 88) (ez_I h 88) bn (((bkDY T n a J) : Nat) : Int)) → (kpN (ez_I h2 89) (ez_I h 89) (bkL T n a J) (288 * bn) 288 286 288) → (kpN (ez_I h2 90) (ez_I h 90) (bkE T n a J) (30 * bn) 30 30 30) → (kpN (ez_I h2 91) (ez_I h 91) (bkA T n a J) (19 * bn) 19 19 k.toInt.toNat) → (1000 - k.toInt) < (N : Int) → pw E (d + 2) 44 713 [some (.ref 71), some (.int fr), some (.int to), some (.int pl), some (.int my), some (.int ls), l6, some (.long dy), l8, some (.int od), some (.long fx), l11, some (.long st), l13, some (.int wy), some (.int b), some (.int k)] [] h2 Q) := by
  intro N
  induction N with
  | zero => exact fun h2 l8 l11 l13 b k  F hinv A_o83 A_o84 A_o85 A_o86 A_o87 A_o88 A_k9 A_k10 A_k11 hm => absurd hm (by have w_b := z_rng b; have w_k := z_rng k; have gfr := z_rng fr; have gto := z_rng to; have gpl := z_rng pl; have gmy := z_rng my; have gls := z_rng ls; have god := z_rng od; have gwy := z_rng wy; have hto : to.toInt - fr.toInt = (J : Nat) ∧ 0 ≤ fr.toInt ∧ to.toInt ≤ 6000 := (by have q1 := hA.1; have q2 := hA.2.1; have q3 := hA.2.2.1; have q4 := hC.2.1; omega); have hmy := hA.2.2.2.2.2.1; omega)
  | succ N ih =>
    refine fun h2 l8 l11 l13 b k  F hinv A_o83 A_o84 A_o85 A_o86 A_o87 A_o88 A_k9 A_k10 A_k11 hm => ?_
    · skip
      have w_b := z_rng b
      have w_k := z_rng k
      have gfr := z_rng fr
      have gto := z_rng to
      have gpl := z_rng pl
      have gmy := z_rng my
      have gls := z_rng ls
      have god := z_rng od
      have gwy := z_rng wy
      have hto : to.toInt - fr.toInt = (J : Nat) ∧ 0 ≤ fr.toInt ∧ to.toInt ≤ 6000 := (by have q1 := hA.1; have q2 := hA.2.1; have q3 := hA.2.2.1; have q4 := hC.2.1; omega)
      have hmy := hA.2.2.2.2.2.1
      have S2 := zW_sh F S
      apply ez_Wp_in
      show ez_gw _ _ _ _ _ _ (cz_44) _ _ _ _ _
      refine gw_skip _ ?_
      have r1 := z_rng (ez_I h2 71 15)
      refine gw_ld rfl rfl ?_
      refine z_C (m := 19) rfl rfl (fun x2 ex2 => ?_)
      refine z_b2 (fun c3 => ?_) (fun c3 => ?_)
      · have c3 : x2.toInt ≤ k.toInt := c3
        refine gw_skip _ ?_
        refine gw_ld rfl rfl ?_
        refine gw_op rfl ?_
        refine z_gI2 (by decide) (zT S2 (by decide) rfl) (rfl) ?_
        refine z_C (m := 1) rfl rfl (fun x4 ex4 => ?_)
        refine z_add (by omega) (fun x5 ex5 => ?_)
        refine z_pI (zT S2 (by decide) rfl) (fun h6 e7 => ?_)
        have S8 := zSh_set S2 e7
        have F9 := zW_setF F e7 (by decide)
        have f10 : ez_I h6 71 15 = x5 := zI_eq e7
        have A11 : onE (ez_I h6 83) (ez_I h 83) bn (((bkW T n a J s0.2) : Nat) : Int) := by rw [zI_fn e7 83 (by decide)]; exact A_o83
        have A12 : onE (ez_I h6 84) (ez_I h 84) bn ((J : Nat) : Int) := by rw [zI_fn e7 84 (by decide)]; exact A_o84
        have A13 : onE (ez_I h6 85) (ez_I h 85) bn (((bkY T n a J) : Nat) : Int) := by rw [zI_fn e7 85 (by decide)]; exact A_o85
        have A14 : onE (ez_I h6 86) (ez_I h 86) bn (((bkB T n a J s0.2) : Nat) : Int) := by rw [zI_fn e7 86 (by decide)]; exact A_o86
        have A15 : onE (ez_I h6 87) (ez_I h 87) bn (((bkFX T n a J) : Nat) : Int) := by rw [zI_fn e7 87 (by decide)]; exact A_o87
        have A16 : onE (ez_I h6 88) (ez_I h 88) bn (((bkDY T n a J) : Nat) : Int) := by rw [zI_fn e7 88 (by decide)]; exact A_o88
        have A17 : kpN (ez_I h6 89) (ez_I h 89) (bkL T n a J) (288 * bn) 288 286 288 := by rw [zI_fn e7 89 (by decide)]; exact A_k9
        have A18 : kpN (ez_I h6 90) (ez_I h 90) (bkE T n a J) (30 * bn) 30 30 30 := by rw [zI_fn e7 90 (by decide)]; exact A_k10
        have A19 : kpN (ez_I h6 91) (ez_I h 91) (bkA T n a J) (19 * bn) 19 19 k.toInt.toNat := by rw [zI_fn e7 91 (by decide)]; exact A_k11
        have t20 := congrArg Int32.toInt (f10)
        refine ez_Wp_at (w_s (T := T) (n := n) (c := c) (a := a) (J := J) (l := l) (s0 := s0) S8 (by rw [(show ez_I h6 72 = ez_I h 72 from zW_fn F9 72 x71_134 x71_135), (show ez_I h6 77 = ez_I h 77 from zW_fn F9 77 x71_136 x71_137), (show ez_I h6 78 = ez_I h 78 from zW_fn F9 78 x71_138 x71_139), (show ez_I h6 79 = ez_I h 79 from zW_fn F9 79 x71_140 x71_141), (show ez_I h6 80 = ez_I h 80 from zW_fn F9 80 x71_142 x71_143), (show ez_I h6 92 = ez_I h 92 from zW_fn F9 92 x71_144 x71_145), (show ez_I h6 93 = ez_I h 93 from zW_fn F9 93 x71_146 x71_147), (show ez_I h6 94 = ez_I h 94 from zW_fn F9 94 x71_148 x71_149), (show ez_I h6 95 = ez_I h 95 from zW_fn F9 95 x71_150 x71_151), (show ez_I h6 96 = ez_I h 96 from zW_fn F9 96 x71_152 x71_153)]; exact hC) hA (by rw [(show ez_I h6 100 = ez_I h 100 from zW_fn F9 100 x71_154 x71_155), (show ez_I h6 101 = ez_I h 101 from zW_fn F9 101 x71_156 x71_157), (show ez_I h6 102 = ez_I h 102 from zW_fn F9 102 x71_158 x71_159), (show ez_I h6 117 = ez_I h 117 from zW_fn F9 117 x71_160 x71_161), (show ez_I h6 118 = ez_I h 118 from zW_fn F9 118 x71_162 x71_163)]; exact hF) (by rw [(show ez_I h6 71 56 = ez_I h 71 56 from zW_f F9 x71_164 x71_165), (show ez_I h6 71 57 = ez_I h 71 57 from zW_f F9 x71_164 x71_166), (show ez_I h6 71 58 = ez_I h 71 58 from zW_f F9 x71_164 x71_167)]; exact hT) (by rw [(show ez_I h6 106 = ez_I h 106 from zW_fn F9 106 x71_168 x71_169), (show ez_I h6 108 = ez_I h 108 from zW_fn F9 108 x71_170 x71_171)]; exact hX) hod hwy hls (by rw [(show ez_I h6 75 = ez_I h 75 from zW_fn F9 75 x71_172 x71_173)]; exact hs) (by rw [(show ez_I h6 71 16 = ez_I h 71 16 from zW_f F9 x71_164 x71_174)]; exact hb) (by rw [(show ez_I h6 75 = ez_I h 75 from zW_fn F9 75 x71_172 x71_173)]; exact hg) hr (fun h21 F22 k23 k24 k25 => ?_)) rfl
        have F26 := zW_tr (zW_mono F9 x71_175 x71_176 x71_177) (zW_mono F22 x71_178 x71_179 x71_177)
        exact K _ F26 k23 k24 k25 (by rw [(show ez_I h21 71 15 = ez_I h6 71 15 from zW_f F22 x71_180 x71_181)]; omega) ⟨(by rw [(show ez_I h21 83 = ez_I h6 83 from zW_fn F22 83 x71_182 x71_183)]; exact A11), (by rw [(show ez_I h21 84 = ez_I h6 84 from zW_fn F22 84 x71_184 x71_185)]; exact A12), (by rw [(show ez_I h21 85 = ez_I h6 85 from zW_fn F22 85 x71_186 x71_187)]; exact A13), (by rw [(show ez_I h21 86 = ez_I h6 86 from zW_fn F22 86 x71_188 x71_189)]; exact A14), (by rw [(show ez_I h21 87 = ez_I h6 87 from zW_fn F22 87 x71_190 x71_191)]; exact A15), (by rw [(show ez_I h21 88 = ez_I h6 88 from zW_fn F22 88 x71_192 x71_193)]; exact A16), (by rw [(show ez_I h21 89 = ez_I h6 89 from zW_fn F22 89 x71_194 x71_195)]; exact A17), (by rw [(show ez_I h21 90 = ez_I h6 90 from zW_fn F22 90 x71_196 x71_197)]; exact A18), (by rw [(show ez_I h21 91 = ez_I h6 91 from zW_fn F22 91 x71_198 x71_199)]; have b1 := A19; rw [show k.toInt.toNat = 19 by omega] at b1; exact b1)⟩
      · have c3 : ¬ (x2.toInt ≤ k.toInt) := c3
        refine gw_ld rfl rfl ?_
        refine z_gR (q := 91) (zT S2 (by decide) rfl) (zRf S2 (by decide) (by decide) rfl) (by decide) ?_
        refine z_C (m := 19) rfl rfl (fun x27 ex27 => ?_)
        refine gw_ld rfl rfl ?_
        refine z_mulL (c := 19) ex27 (by omega) (fun x28 ex28 => ?_)
        refine gw_ld rfl rfl ?_
        refine z_add (by omega) (fun x29 ex29 => ?_)
        refine gw_ld rfl rfl ?_
        refine z_gR (q := 102) (zT S2 (by decide) rfl) (zRf S2 (by decide) (by decide) rfl) (by decide) ?_
        refine gw_ld rfl rfl ?_
        refine z_iaV (n := 19) (zT S2 (by decide) rfl) (zN S2 (by decide) rfl) (by omega) (zW_f F (by decide) (x71_159 _)) ?_
        generalize ex30 : ez_I h 102 k.toInt.toNat = x30
        have rx30 := z_rng x30
        have yk : k.toInt.toNat < 19 → x30.toInt = ((bkA T n a J) k.toInt.toNat : Nat) := fun q => (lb_rd hF.2.2.1 q ex30).1
        refine z_is (n := 228) (zT S2 (by decide) rfl) (zN S2 (by decide) rfl) (by omega) (fun h31 e32 => ?_)
        have S33 := zSh_set S2 e32
        have F34 := zW_setA F e32 (by decide)
        have f35 : ez_I h31 71 15 = (ez_I h2 71 15) := (zI_ne e32 (by omega)).trans (rfl)
        have A36 : onE (ez_I h31 83) (ez_I h 83) bn (((bkW T n a J s0.2) : Nat) : Int) := by rw [zI_fn e32 83 (by decide)]; exact A_o83
        have A37 : onE (ez_I h31 84) (ez_I h 84) bn ((J : Nat) : Int) := by rw [zI_fn e32 84 (by decide)]; exact A_o84
        have A38 : onE (ez_I h31 85) (ez_I h 85) bn (((bkY T n a J) : Nat) : Int) := by rw [zI_fn e32 85 (by decide)]; exact A_o85
        have A39 : onE (ez_I h31 86) (ez_I h 86) bn (((bkB T n a J s0.2) : Nat) : Int) := by rw [zI_fn e32 86 (by decide)]; exact A_o86
        have A40 : onE (ez_I h31 87) (ez_I h 87) bn (((bkFX T n a J) : Nat) : Int) := by rw [zI_fn e32 87 (by decide)]; exact A_o87
        have A41 : onE (ez_I h31 88) (ez_I h 88) bn (((bkDY T n a J) : Nat) : Int) := by rw [zI_fn e32 88 (by decide)]; exact A_o88
        have A42 : kpN (ez_I h31 89) (ez_I h 89) (bkL T n a J) (288 * bn) 288 286 288 := by rw [zI_fn e32 89 (by decide)]; exact A_k9
        have A43 : kpN (ez_I h31 90) (ez_I h 90) (bkE T n a J) (30 * bn) 30 30 30 := by rw [zI_fn e32 90 (by decide)]; exact A_k10
        have A44 : kpN (ez_I h31 91) (ez_I h 91) (bkA T n a J) (19 * bn) 19 19 (k.toInt.toNat + 1) := kpN_s A_k11 e32 (by omega) (by omega) (fun q => yk q) rfl
        refine z_inc rfl (by rw [show (1 : Int32).toInt = 1 from rfl]; omega) (fun x45 ex45 => ?_)
        rw [show (1 : Int32).toInt = 1 from rfl] at ex45
        show ez_gw _ _ _ _ _ _ _ _ [some (.ref 71), some (.int fr), some (.int to), some (.int pl), some (.int my), some (.int ls), l6, some (.long dy), l8, some (.int od), some (.long fx), l11, some (.long st), l13, some (.int wy), some (.int b), some (.int x45)] _ _ _
        refine z_go ?_
        have t46 := congrArg Int32.toInt (f35)
        exact ih h31 (l8) (l11) (l13) b x45 F34 (by omega) A36 A37 A38 A39 A40 A41 A42 (A43) ((by rw [show x45.toInt.toNat = k.toInt.toNat + 1 by omega]; exact A44)) (by omega)
set_option maxRecDepth 4000 in
set_option maxHeartbeats 2000000 in
theorem w_D_L1 {E : Nat → Nat × (Nat → Int32)} {d : Nat} {Q : ez_Q} {h : ez_H} {fr : Int32} {to : Int32} {pl : Int32} {my : Int32} {ls : Int32} {l6 : Option Value} {dy : Int64} {od : Int32} {fx : Int64} {st : Int64} {wy : Int32} {l15 : Option Value} {l16 : Option Value} (S : zSh h) {T : Nat → Int} {n c a J : Nat} {l bn : Nat} {s0 : Nat × Nat} (hC : mbC (ez_I h 72) (ez_I h 77) (ez_I h 78) (ez_I h 79) (ez_I h 80) (ez_I h 92) (ez_I h 93) (ez_I h 94) (ez_I h 95) (ez_I h 96) T n c) (hA : mbA fr to pl my T n c a J) (hF : mbF (ez_I h 100) (ez_I h 101) (ez_I h 102) (ez_I h 117) (ez_I h 118) T n a J) (hT : mbT (ez_I h 71 56) (ez_I h 71 57) (ez_I h 71 58) T n a J) (hX : mbX (ez_I h 106) (ez_I h 108)) (hod : od.toInt = ((bkO T n a J) : Nat)) (hwy : wy.toInt = ((bkW T n a J s0.2) : Nat)) (hdy : dy.toInt = ((bkDY T n a J) : Nat)) (hfx : fx.toInt = ((bkFX T n a J) : Nat)) (hst : st.toInt = (bkST T n a J s0.2 : Nat)) (hbg : (bkDY T n a J) ≤ 9000000 ∧ (bkFX T n a J) ≤ 9000000 ∧ bkST T n a J s0.2 ≤ 9000000) (hls : ls.toInt = (l : Nat) ∧ l ≤ 1) (hs : mS (ez_I h 75) s0) (hb : (ez_I h 71 16).toInt = (s0.2 : Nat)) (hg : aR (ez_I h 75) 8000 (-128) 127) (hbn : (ez_I h 71 15).toInt = (bn : Nat) ∧ bn ≤ 9) (hr : s0.2 + 50 + 8 * (bkY T n a J) ≤ 48800) (K : ∀ h2, zW (fun q k => q = 71 ∧ k = 15 ∨ q = 71 ∧ k = 16) (fun q => q = 75 ∨ 83 ≤ q ∧ q ≤ 91 ∨ 103 ≤ q ∧ q ≤ 105 ∨ q = 107 ∨ q = 109 ∨ q = 115 ∨ q = 116) (fun _ => False) h h2 → (bkS T n a J l s0).2 ≤ s0.2 + 42 + 8 * (bkY T n a J) → mst (ez_I h2 75) (ez_I h2 71 16).toInt (bkS T n a J l s0) → aR (ez_I h2 75) 8000 (-128) 127 → (ez_I h2 71 15).toInt = (bn : Int) + 1 → mbk (ez_I h2 83) (ez_I h2 84) (ez_I h2 85) (ez_I h2 86) (ez_I h2 87) (ez_I h2 88) (ez_I h2 89) (ez_I h2 90) (ez_I h2 91) (ez_I h 83) (ez_I h 84) (ez_I h 85) (ez_I h 86) (ez_I h 87) (ez_I h 88) (ez_I h 89) (ez_I h 90) (ez_I h 91) T n a J s0.2 bn → Q (.inl none) h2) : ∀ N : Nat, (∀ (h2 : ez_H) (l8 : Option Value) (l11 : Option Value) (l13 : Option Value) (b : Int32) (k : Int32) , zW (fun q k => q = 71 ∧ k = 15) (fun q => 83 ≤ q ∧ q ≤ 91) (fun _ => False) h h2 → (0 ≤ k.toInt ∧ k.toInt ≤ 30 ∧ b.toInt = (bn : Nat) ∧ (ez_I h2 71 15).toInt = (bn : Nat)) → (onE (ez_I h2 83) (ez_I h 83) bn (((bkW T n a J s0.2) : Nat) : Int)) → (onE (ez_I h2 84) (ez_I h 84) bn ((J : Nat) : Int)) → (onE (ez_I h2 85) (ez_I h 85) bn (((bkY T n a J) : Nat) : Int)) → (onE (ez_I h2 86) (ez_I h 86) bn (((bkB T n a J s0.2) : Nat) : Int)) → (onE (ez_I h2 87) (ez_I h 87) bn (((bkFX T n a J) : Nat) : Int)) → (onE (ez_I h2 88) (ez_I h 88) bn (((bkDY T n a J) : Nat) : Int)) → (kpN (ez_I h2 89) (ez_I h 89) (bkL T n a J) (288 * bn) 288 286 288) → (kpN (ez_I h2 90) (ez_I h 90) (bkE T n a J) (30 * bn) 30 30 k.toInt.toNat) → (ez_I h2 91 = ez_I h 91) → (1000 - k.toInt) < (N : Int) → pw E (d + 2) 44 677 [some (.ref 71), some (.int fr), some (.int to), some (.int pl), some (.int my), some (.int ls), l6, some (.long dy), l8, some (.int od), some (.long fx), l11, some (.long st), l13, some (.int wy), some (.int b), some (.int k)] [] h2 Q) := by
  intro N
  induction N with
  | zero => exact fun h2 l8 l11 l13 b k  F hinv A_o83 A_o84 A_o85 A_o86 A_o87 A_o88 A_k9 A_k10 A_b91 hm => absurd hm (by have w_b := z_rng b; have w_k := z_rng k; have gfr := z_rng fr; have gto := z_rng to; have gpl := z_rng pl; have gmy := z_rng my; have gls := z_rng ls; have god := z_rng od; have gwy := z_rng wy; have hto : to.toInt - fr.toInt = (J : Nat) ∧ 0 ≤ fr.toInt ∧ to.toInt ≤ 6000 := (by have q1 := hA.1; have q2 := hA.2.1; have q3 := hA.2.2.1; have q4 := hC.2.1; omega); have hmy := hA.2.2.2.2.2.1; omega)
  | succ N ih =>
    refine fun h2 l8 l11 l13 b k  F hinv A_o83 A_o84 A_o85 A_o86 A_o87 A_o88 A_k9 A_k10 A_b91 hm => ?_
    · skip
      have w_b := z_rng b
      have w_k := z_rng k
      have gfr := z_rng fr
      have gto := z_rng to
      have gpl := z_rng pl
      have gmy := z_rng my
      have gls := z_rng ls
      have god := z_rng od
      have gwy := z_rng wy
      have hto : to.toInt - fr.toInt = (J : Nat) ∧ 0 ≤ fr.toInt ∧ to.toInt ≤ 6000 := (by have q1 := hA.1; have q2 := hA.2.1; have q3 := hA.2.2.1; have q4 := hC.2.1; omega)
      have hmy := hA.2.2.2.2.2.1
      have S2 := zW_sh F S
      apply ez_Wp_in
      show ez_gw _ _ _ _ _ _ (cz_44) _ _ _ _ _
      refine gw_skip _ ?_
      have r1 := z_rng (ez_I h2 71 15)
      refine gw_ld rfl rfl ?_
      refine z_C (m := 30) rfl rfl (fun x2 ex2 => ?_)
      refine z_b2 (fun c3 => ?_) (fun c3 => ?_)
      · have c3 : x2.toInt ≤ k.toInt := c3
        refine gw_skip _ ?_
        refine z_C (m := 0) rfl rfl (fun x4 ex4 => ?_)
        refine gw_st rfl rfl rfl ?_
        show ez_gw _ _ _ _ _ _ _ _ [some (.ref 71), some (.int fr), some (.int to), some (.int pl), some (.int my), some (.int ls), l6, some (.long dy), l8, some (.int od), some (.long fx), l11, some (.long st), l13, some (.int wy), some (.int b), some (.int x4)] _ _ _
        exact ez_Wp_at ((w_D_L2 (fr := fr) (to := to) (pl := pl) (my := my) (ls := ls) (l6 := l6) (dy := dy) (od := od) (fx := fx) (st := st) (wy := wy) (l15 := l15) (l16 := l16) S hC hA hF hT hX hod hwy hdy hfx hst hbg hls hs hb hg hbn hr K (((1000 - x4.toInt)).toNat + 1)) h2 (l8) (l11) (l13) b x4 F (by omega) A_o83 A_o84 A_o85 A_o86 A_o87 A_o88 A_k9 ((by have b1 := A_k10; rw [show k.toInt.toNat = 30 by omega] at b1; exact b1)) ((by rw [show x4.toInt.toNat = 0 by omega]; exact kpN_0 A_b91)) (by omega)) rfl
      · have c3 : ¬ (x2.toInt ≤ k.toInt) := c3
        refine gw_ld rfl rfl ?_
        refine z_gR (q := 90) (zT S2 (by decide) rfl) (zRf S2 (by decide) (by decide) rfl) (by decide) ?_
        refine z_C (m := 30) rfl rfl (fun x5 ex5 => ?_)
        refine gw_ld rfl rfl ?_
        refine z_mulL (c := 30) ex5 (by omega) (fun x6 ex6 => ?_)
        refine gw_ld rfl rfl ?_
        refine z_add (by omega) (fun x7 ex7 => ?_)
        refine gw_ld rfl rfl ?_
        refine z_gR (q := 101) (zT S2 (by decide) rfl) (zRf S2 (by decide) (by decide) rfl) (by decide) ?_
        refine gw_ld rfl rfl ?_
        refine z_iaV (n := 30) (zT S2 (by decide) rfl) (zN S2 (by decide) rfl) (by omega) (zW_f F (by decide) (x71_157 _)) ?_
        generalize ex8 : ez_I h 101 k.toInt.toNat = x8
        have rx8 := z_rng x8
        have yk : k.toInt.toNat < 30 → x8.toInt = ((bkE T n a J) k.toInt.toNat : Nat) := fun q => (lb_rd hF.2.1 q ex8).1
        refine z_is (n := 360) (zT S2 (by decide) rfl) (zN S2 (by decide) rfl) (by omega) (fun h9 e10 => ?_)
        have S11 := zSh_set S2 e10
        have F12 := zW_setA F e10 (by decide)
        have f13 : ez_I h9 71 15 = (ez_I h2 71 15) := (zI_ne e10 (by omega)).trans (rfl)
        have A14 : onE (ez_I h9 83) (ez_I h 83) bn (((bkW T n a J s0.2) : Nat) : Int) := by rw [zI_fn e10 83 (by decide)]; exact A_o83
        have A15 : onE (ez_I h9 84) (ez_I h 84) bn ((J : Nat) : Int) := by rw [zI_fn e10 84 (by decide)]; exact A_o84
        have A16 : onE (ez_I h9 85) (ez_I h 85) bn (((bkY T n a J) : Nat) : Int) := by rw [zI_fn e10 85 (by decide)]; exact A_o85
        have A17 : onE (ez_I h9 86) (ez_I h 86) bn (((bkB T n a J s0.2) : Nat) : Int) := by rw [zI_fn e10 86 (by decide)]; exact A_o86
        have A18 : onE (ez_I h9 87) (ez_I h 87) bn (((bkFX T n a J) : Nat) : Int) := by rw [zI_fn e10 87 (by decide)]; exact A_o87
        have A19 : onE (ez_I h9 88) (ez_I h 88) bn (((bkDY T n a J) : Nat) : Int) := by rw [zI_fn e10 88 (by decide)]; exact A_o88
        have A20 : kpN (ez_I h9 89) (ez_I h 89) (bkL T n a J) (288 * bn) 288 286 288 := by rw [zI_fn e10 89 (by decide)]; exact A_k9
        have A21 : kpN (ez_I h9 90) (ez_I h 90) (bkE T n a J) (30 * bn) 30 30 (k.toInt.toNat + 1) := kpN_s A_k10 e10 (by omega) (by omega) (fun q => yk q) rfl
        have A22 : ez_I h9 91 = ez_I h 91 := by rw [zI_fn e10 91 (by decide)]; exact A_b91
        refine z_inc rfl (by rw [show (1 : Int32).toInt = 1 from rfl]; omega) (fun x23 ex23 => ?_)
        rw [show (1 : Int32).toInt = 1 from rfl] at ex23
        show ez_gw _ _ _ _ _ _ _ _ [some (.ref 71), some (.int fr), some (.int to), some (.int pl), some (.int my), some (.int ls), l6, some (.long dy), l8, some (.int od), some (.long fx), l11, some (.long st), l13, some (.int wy), some (.int b), some (.int x23)] _ _ _
        refine z_go ?_
        have t24 := congrArg Int32.toInt (f13)
        exact ih h9 (l8) (l11) (l13) b x23 F12 (by omega) A14 A15 A16 A17 A18 A19 (A20) ((by rw [show x23.toInt.toNat = k.toInt.toNat + 1 by omega]; exact A21)) A22 (by omega)
set_option maxRecDepth 4000 in
set_option maxHeartbeats 2000000 in
theorem w_D_L0 {E : Nat → Nat × (Nat → Int32)} {d : Nat} {Q : ez_Q} {h : ez_H} {fr : Int32} {to : Int32} {pl : Int32} {my : Int32} {ls : Int32} {l6 : Option Value} {dy : Int64} {od : Int32} {fx : Int64} {st : Int64} {wy : Int32} {l15 : Option Value} {l16 : Option Value} (S : zSh h) {T : Nat → Int} {n c a J : Nat} {l bn : Nat} {s0 : Nat × Nat} (hC : mbC (ez_I h 72) (ez_I h 77) (ez_I h 78) (ez_I h 79) (ez_I h 80) (ez_I h 92) (ez_I h 93) (ez_I h 94) (ez_I h 95) (ez_I h 96) T n c) (hA : mbA fr to pl my T n c a J) (hF : mbF (ez_I h 100) (ez_I h 101) (ez_I h 102) (ez_I h 117) (ez_I h 118) T n a J) (hT : mbT (ez_I h 71 56) (ez_I h 71 57) (ez_I h 71 58) T n a J) (hX : mbX (ez_I h 106) (ez_I h 108)) (hod : od.toInt = ((bkO T n a J) : Nat)) (hwy : wy.toInt = ((bkW T n a J s0.2) : Nat)) (hdy : dy.toInt = ((bkDY T n a J) : Nat)) (hfx : fx.toInt = ((bkFX T n a J) : Nat)) (hst : st.toInt = (bkST T n a J s0.2 : Nat)) (hbg : (bkDY T n a J) ≤ 9000000 ∧ (bkFX T n a J) ≤ 9000000 ∧ bkST T n a J s0.2 ≤ 9000000) (hls : ls.toInt = (l : Nat) ∧ l ≤ 1) (hs : mS (ez_I h 75) s0) (hb : (ez_I h 71 16).toInt = (s0.2 : Nat)) (hg : aR (ez_I h 75) 8000 (-128) 127) (hbn : (ez_I h 71 15).toInt = (bn : Nat) ∧ bn ≤ 9) (hr : s0.2 + 50 + 8 * (bkY T n a J) ≤ 48800) (K : ∀ h2, zW (fun q k => q = 71 ∧ k = 15 ∨ q = 71 ∧ k = 16) (fun q => q = 75 ∨ 83 ≤ q ∧ q ≤ 91 ∨ 103 ≤ q ∧ q ≤ 105 ∨ q = 107 ∨ q = 109 ∨ q = 115 ∨ q = 116) (fun _ => False) h h2 → (bkS T n a J l s0).2 ≤ s0.2 + 42 + 8 * (bkY T n a J) → mst (ez_I h2 75) (ez_I h2 71 16).toInt (bkS T n a J l s0) → aR (ez_I h2 75) 8000 (-128) 127 → (ez_I h2 71 15).toInt = (bn : Int) + 1 → mbk (ez_I h2 83) (ez_I h2 84) (ez_I h2 85) (ez_I h2 86) (ez_I h2 87) (ez_I h2 88) (ez_I h2 89) (ez_I h2 90) (ez_I h2 91) (ez_I h 83) (ez_I h 84) (ez_I h 85) (ez_I h 86) (ez_I h 87) (ez_I h 88) (ez_I h 89) (ez_I h 90) (ez_I h 91) T n a J s0.2 bn → Q (.inl none) h2) : ∀ N : Nat, (∀ (h2 : ez_H) (l8 : Option Value) (l11 : Option Value) (l13 : Option Value) (b : Int32) (k : Int32) , zW (fun q k => q = 71 ∧ k = 15) (fun q => 83 ≤ q ∧ q ≤ 91) (fun _ => False) h h2 → (0 ≤ k.toInt ∧ k.toInt ≤ 288 ∧ b.toInt = (bn : Nat) ∧ (ez_I h2 71 15).toInt = (bn : Nat)) → (onE (ez_I h2 83) (ez_I h 83) bn (((bkW T n a J s0.2) : Nat) : Int)) → (onE (ez_I h2 84) (ez_I h 84) bn ((J : Nat) : Int)) → (onE (ez_I h2 85) (ez_I h 85) bn (((bkY T n a J) : Nat) : Int)) → (onE (ez_I h2 86) (ez_I h 86) bn (((bkB T n a J s0.2) : Nat) : Int)) → (onE (ez_I h2 87) (ez_I h 87) bn (((bkFX T n a J) : Nat) : Int)) → (onE (ez_I h2 88) (ez_I h 88) bn (((bkDY T n a J) : Nat) : Int)) → (kpN (ez_I h2 89) (ez_I h 89) (bkL T n a J) (288 * bn) 288 286 k.toInt.toNat) → (ez_I h2 90 = ez_I h 90) → (ez_I h2 91 = ez_I h 91) → (1000 - k.toInt) < (N : Int) → pw E (d + 2) 44 639 [some (.ref 71), some (.int fr), some (.int to), some (.int pl), some (.int my), some (.int ls), l6, some (.long dy), l8, some (.int od), some (.long fx), l11, some (.long st), l13, some (.int wy), some (.int b), some (.int k)] [] h2 Q) := by
  intro N
  induction N with
  | zero => exact fun h2 l8 l11 l13 b k  F hinv A_o83 A_o84 A_o85 A_o86 A_o87 A_o88 A_k9 A_b90 A_b91 hm => absurd hm (by have w_b := z_rng b; have w_k := z_rng k; have gfr := z_rng fr; have gto := z_rng to; have gpl := z_rng pl; have gmy := z_rng my; have gls := z_rng ls; have god := z_rng od; have gwy := z_rng wy; have hto : to.toInt - fr.toInt = (J : Nat) ∧ 0 ≤ fr.toInt ∧ to.toInt ≤ 6000 := (by have q1 := hA.1; have q2 := hA.2.1; have q3 := hA.2.2.1; have q4 := hC.2.1; omega); have hmy := hA.2.2.2.2.2.1; omega)
  | succ N ih =>
    refine fun h2 l8 l11 l13 b k  F hinv A_o83 A_o84 A_o85 A_o86 A_o87 A_o88 A_k9 A_b90 A_b91 hm => ?_
    · skip
      have w_b := z_rng b
      have w_k := z_rng k
      have gfr := z_rng fr
      have gto := z_rng to
      have gpl := z_rng pl
      have gmy := z_rng my
      have gls := z_rng ls
      have god := z_rng od
      have gwy := z_rng wy
      have hto : to.toInt - fr.toInt = (J : Nat) ∧ 0 ≤ fr.toInt ∧ to.toInt ≤ 6000 := (by have q1 := hA.1; have q2 := hA.2.1; have q3 := hA.2.2.1; have q4 := hC.2.1; omega)
      have hmy := hA.2.2.2.2.2.1
      have S2 := zW_sh F S
      apply ez_Wp_in
      show ez_gw _ _ _ _ _ _ (cz_44) _ _ _ _ _
      refine gw_skip _ ?_
      have r1 := z_rng (ez_I h2 71 15)
      refine gw_ld rfl rfl ?_
      refine z_C (m := 288) rfl rfl (fun x2 ex2 => ?_)
      refine z_b2 (fun c3 => ?_) (fun c3 => ?_)
      · have c3 : x2.toInt ≤ k.toInt := c3
        refine gw_skip _ ?_
        refine z_C (m := 0) rfl rfl (fun x4 ex4 => ?_)
        refine gw_st rfl rfl rfl ?_
        show ez_gw _ _ _ _ _ _ _ _ [some (.ref 71), some (.int fr), some (.int to), some (.int pl), some (.int my), some (.int ls), l6, some (.long dy), l8, some (.int od), some (.long fx), l11, some (.long st), l13, some (.int wy), some (.int b), some (.int x4)] _ _ _
        exact ez_Wp_at ((w_D_L1 (fr := fr) (to := to) (pl := pl) (my := my) (ls := ls) (l6 := l6) (dy := dy) (od := od) (fx := fx) (st := st) (wy := wy) (l15 := l15) (l16 := l16) S hC hA hF hT hX hod hwy hdy hfx hst hbg hls hs hb hg hbn hr K (((1000 - x4.toInt)).toNat + 1)) h2 (l8) (l11) (l13) b x4 F (by omega) A_o83 A_o84 A_o85 A_o86 A_o87 A_o88 ((by have b1 := A_k9; rw [show k.toInt.toNat = 288 by omega] at b1; exact b1)) ((by rw [show x4.toInt.toNat = 0 by omega]; exact kpN_0 A_b90)) A_b91 (by omega)) rfl
      · have c3 : ¬ (x2.toInt ≤ k.toInt) := c3
        refine gw_ld rfl rfl ?_
        refine z_gR (q := 89) (zT S2 (by decide) rfl) (zRf S2 (by decide) (by decide) rfl) (by decide) ?_
        refine z_C (m := 288) rfl rfl (fun x5 ex5 => ?_)
        refine gw_ld rfl rfl ?_
        refine z_mulL (c := 288) ex5 (by omega) (fun x6 ex6 => ?_)
        refine gw_ld rfl rfl ?_
        refine z_add (by omega) (fun x7 ex7 => ?_)
        refine gw_ld rfl rfl ?_
        refine z_gR (q := 100) (zT S2 (by decide) rfl) (zRf S2 (by decide) (by decide) rfl) (by decide) ?_
        refine gw_ld rfl rfl ?_
        refine z_iaV (n := 288) (zT S2 (by decide) rfl) (zN S2 (by decide) rfl) (by omega) (zW_f F (by decide) (x71_155 _)) ?_
        generalize ex8 : ez_I h 100 k.toInt.toNat = x8
        have rx8 := z_rng x8
        have yk : k.toInt.toNat < 286 → x8.toInt = ((bkL T n a J) k.toInt.toNat : Nat) := fun q => (lb_rd hF.1 q ex8).1
        refine z_is (n := 3456) (zT S2 (by decide) rfl) (zN S2 (by decide) rfl) (by omega) (fun h9 e10 => ?_)
        have S11 := zSh_set S2 e10
        have F12 := zW_setA F e10 (by decide)
        have f13 : ez_I h9 71 15 = (ez_I h2 71 15) := (zI_ne e10 (by omega)).trans (rfl)
        have A14 : onE (ez_I h9 83) (ez_I h 83) bn (((bkW T n a J s0.2) : Nat) : Int) := by rw [zI_fn e10 83 (by decide)]; exact A_o83
        have A15 : onE (ez_I h9 84) (ez_I h 84) bn ((J : Nat) : Int) := by rw [zI_fn e10 84 (by decide)]; exact A_o84
        have A16 : onE (ez_I h9 85) (ez_I h 85) bn (((bkY T n a J) : Nat) : Int) := by rw [zI_fn e10 85 (by decide)]; exact A_o85
        have A17 : onE (ez_I h9 86) (ez_I h 86) bn (((bkB T n a J s0.2) : Nat) : Int) := by rw [zI_fn e10 86 (by decide)]; exact A_o86
        have A18 : onE (ez_I h9 87) (ez_I h 87) bn (((bkFX T n a J) : Nat) : Int) := by rw [zI_fn e10 87 (by decide)]; exact A_o87
        have A19 : onE (ez_I h9 88) (ez_I h 88) bn (((bkDY T n a J) : Nat) : Int) := by rw [zI_fn e10 88 (by decide)]; exact A_o88
        have A20 : kpN (ez_I h9 89) (ez_I h 89) (bkL T n a J) (288 * bn) 288 286 (k.toInt.toNat + 1) := kpN_s A_k9 e10 (by omega) (by omega) (fun q => yk q) rfl
        have A21 : ez_I h9 90 = ez_I h 90 := by rw [zI_fn e10 90 (by decide)]; exact A_b90
        have A22 : ez_I h9 91 = ez_I h 91 := by rw [zI_fn e10 91 (by decide)]; exact A_b91
        refine z_inc rfl (by rw [show (1 : Int32).toInt = 1 from rfl]; omega) (fun x23 ex23 => ?_)
        rw [show (1 : Int32).toInt = 1 from rfl] at ex23
        show ez_gw _ _ _ _ _ _ _ _ [some (.ref 71), some (.int fr), some (.int to), some (.int pl), some (.int my), some (.int ls), l6, some (.long dy), l8, some (.int od), some (.long fx), l11, some (.long st), l13, some (.int wy), some (.int b), some (.int x23)] _ _ _
        refine z_go ?_
        have t24 := congrArg Int32.toInt (f13)
        exact ih h9 (l8) (l11) (l13) b x23 F12 (by omega) A14 A15 A16 A17 A18 A19 ((by rw [show x23.toInt.toNat = k.toInt.toNat + 1 by omega]; exact A20)) A21 A22 (by omega)
set_option maxRecDepth 4000 in
set_option maxHeartbeats 2000000 in
theorem w_D {E : Nat → Nat × (Nat → Int32)} {d : Nat} {Q : ez_Q} {h : ez_H} {fr : Int32} {to : Int32} {pl : Int32} {my : Int32} {ls : Int32} {l6 : Option Value} {dy : Int64} {od : Int32} {fx : Int64} {st : Int64} {wy : Int32} {l15 : Option Value} {l16 : Option Value} (S : zSh h) {T : Nat → Int} {n c a J : Nat} {l bn : Nat} {s0 : Nat × Nat} (hC : mbC (ez_I h 72) (ez_I h 77) (ez_I h 78) (ez_I h 79) (ez_I h 80) (ez_I h 92) (ez_I h 93) (ez_I h 94) (ez_I h 95) (ez_I h 96) T n c) (hA : mbA fr to pl my T n c a J) (hF : mbF (ez_I h 100) (ez_I h 101) (ez_I h 102) (ez_I h 117) (ez_I h 118) T n a J) (hT : mbT (ez_I h 71 56) (ez_I h 71 57) (ez_I h 71 58) T n a J) (hX : mbX (ez_I h 106) (ez_I h 108)) (hod : od.toInt = ((bkO T n a J) : Nat)) (hwy : wy.toInt = ((bkW T n a J s0.2) : Nat)) (hdy : dy.toInt = ((bkDY T n a J) : Nat)) (hfx : fx.toInt = ((bkFX T n a J) : Nat)) (hst : st.toInt = (bkST T n a J s0.2 : Nat)) (hbg : (bkDY T n a J) ≤ 9000000 ∧ (bkFX T n a J) ≤ 9000000 ∧ bkST T n a J s0.2 ≤ 9000000) (hls : ls.toInt = (l : Nat) ∧ l ≤ 1) (hs : mS (ez_I h 75) s0) (hb : (ez_I h 71 16).toInt = (s0.2 : Nat)) (hg : aR (ez_I h 75) 8000 (-128) 127) (hbn : (ez_I h 71 15).toInt = (bn : Nat) ∧ bn ≤ 9) (hr : s0.2 + 50 + 8 * (bkY T n a J) ≤ 48800) (K : ∀ h2, zW (fun q k => q = 71 ∧ k = 15 ∨ q = 71 ∧ k = 16) (fun q => q = 75 ∨ 83 ≤ q ∧ q ≤ 91 ∨ 103 ≤ q ∧ q ≤ 105 ∨ q = 107 ∨ q = 109 ∨ q = 115 ∨ q = 116) (fun _ => False) h h2 → (bkS T n a J l s0).2 ≤ s0.2 + 42 + 8 * (bkY T n a J) → mst (ez_I h2 75) (ez_I h2 71 16).toInt (bkS T n a J l s0) → aR (ez_I h2 75) 8000 (-128) 127 → (ez_I h2 71 15).toInt = (bn : Int) + 1 → mbk (ez_I h2 83) (ez_I h2 84) (ez_I h2 85) (ez_I h2 86) (ez_I h2 87) (ez_I h2 88) (ez_I h2 89) (ez_I h2 90) (ez_I h2 91) (ez_I h 83) (ez_I h 84) (ez_I h 85) (ez_I h 86) (ez_I h 87) (ez_I h 88) (ez_I h 89) (ez_I h 90) (ez_I h 91) T n a J s0.2 bn → Q (.inl none) h2) : pw E (d + 2) 44 551 [some (.ref 71), some (.int fr), some (.int to), some (.int pl), some (.int my), some (.int ls), l6, some (.long dy), none, some (.int od), some (.long fx), none, some (.long st), none, some (.int wy), l15, l16] [] h Q := by
  have gfr := z_rng fr
  have gto := z_rng to
  have gpl := z_rng pl
  have gmy := z_rng my
  have gls := z_rng ls
  have god := z_rng od
  have gwy := z_rng wy
  have hto : to.toInt - fr.toInt = (J : Nat) ∧ 0 ≤ fr.toInt ∧ to.toInt ≤ 6000 := (by have q1 := hA.1; have q2 := hA.2.1; have q3 := hA.2.2.1; have q4 := hC.2.1; omega)
  have hmy := hA.2.2.2.2.2.1
  have F := zW_refl (fun q k => q = 71 ∧ k = 15) (fun q => 83 ≤ q ∧ q ≤ 91) (fun _ => False) h
  apply ez_Wp_in
  show ez_gw _ _ _ _ _ _ (cz_44) _ _ _ _ _
  refine gw_skip _ ?_
  have r1 := z_rng (ez_I h 71 15)
  refine gw_ld rfl rfl ?_
  refine z_gI2 (by decide) (zT S (by decide) rfl) (rfl) ?_
  refine gw_st rfl rfl rfl ?_
  show ez_gw _ _ _ _ _ _ _ _ [some (.ref 71), some (.int fr), some (.int to), some (.int pl), some (.int my), some (.int ls), l6, some (.long dy), none, some (.int od), some (.long fx), none, some (.long st), none, some (.int wy), some (.int (ez_I h 71 15)), l16] _ _ _
  refine gw_ld rfl rfl ?_
  refine z_gR (q := 83) (zT S (by decide) rfl) (zRf S (by decide) (by decide) rfl) (by decide) ?_
  refine gw_ld rfl rfl ?_
  refine gw_ld rfl rfl ?_
  refine z_is (n := 12) (zT S (by decide) rfl) (zN S (by decide) rfl) (by omega) (fun h2 e3 => ?_)
  have S4 := zSh_set S e3
  have F5 := zW_setA F e3 (by decide)
  have f6 : ez_I h2 71 15 = (ez_I h 71 15) := (zI_ne e3 (by omega)).trans (rfl)
  have A7 : ez_I h2 84 = ez_I h 84 := by rw [zI_fn e3 84 (by decide)]
  have A8 : ez_I h2 85 = ez_I h 85 := by rw [zI_fn e3 85 (by decide)]
  have A9 : ez_I h2 86 = ez_I h 86 := by rw [zI_fn e3 86 (by decide)]
  have A10 : ez_I h2 87 = ez_I h 87 := by rw [zI_fn e3 87 (by decide)]
  have A11 : ez_I h2 88 = ez_I h 88 := by rw [zI_fn e3 88 (by decide)]
  have A12 : ez_I h2 89 = ez_I h 89 := by rw [zI_fn e3 89 (by decide)]
  have A13 : ez_I h2 90 = ez_I h 90 := by rw [zI_fn e3 90 (by decide)]
  have A14 : ez_I h2 91 = ez_I h 91 := by rw [zI_fn e3 91 (by decide)]
  have A15 : onE (ez_I h2 83) (ez_I h 83) bn (((bkW T n a J s0.2) : Nat) : Int) := onE_s rfl e3 (by omega) (by omega)
  refine gw_ld rfl rfl ?_
  refine z_gR (q := 84) (zT S4 (by decide) rfl) (zRf S4 (by decide) (by decide) rfl) (by decide) ?_
  refine gw_ld rfl rfl ?_
  refine gw_ld rfl rfl ?_
  refine gw_ld rfl rfl ?_
  refine z_sub (by omega) (fun x16 ex16 => ?_)
  refine z_is (n := 12) (zT S4 (by decide) rfl) (zN S4 (by decide) rfl) (by omega) (fun h17 e18 => ?_)
  have S19 := zSh_set S4 e18
  have F20 := zW_setA F5 e18 (by decide)
  have f21 : ez_I h17 71 15 = (ez_I h 71 15) := (zI_ne e18 (by omega)).trans (f6)
  have A22 : ez_I h17 85 = ez_I h 85 := by rw [zI_fn e18 85 (by decide)]; exact A8
  have A23 : ez_I h17 86 = ez_I h 86 := by rw [zI_fn e18 86 (by decide)]; exact A9
  have A24 : ez_I h17 87 = ez_I h 87 := by rw [zI_fn e18 87 (by decide)]; exact A10
  have A25 : ez_I h17 88 = ez_I h 88 := by rw [zI_fn e18 88 (by decide)]; exact A11
  have A26 : ez_I h17 89 = ez_I h 89 := by rw [zI_fn e18 89 (by decide)]; exact A12
  have A27 : ez_I h17 90 = ez_I h 90 := by rw [zI_fn e18 90 (by decide)]; exact A13
  have A28 : ez_I h17 91 = ez_I h 91 := by rw [zI_fn e18 91 (by decide)]; exact A14
  have A29 : onE (ez_I h17 83) (ez_I h 83) bn (((bkW T n a J s0.2) : Nat) : Int) := by rw [zI_fn e18 83 (by decide)]; exact A15
  have A30 : onE (ez_I h17 84) (ez_I h 84) bn ((J : Nat) : Int) := onE_s A7 e18 (by omega) (by omega)
  clear A8
  clear A9
  clear A10
  clear A11
  clear A12
  clear A13
  clear A14
  clear A15
  refine gw_ld rfl rfl ?_
  refine z_gR (q := 85) (zT S19 (by decide) rfl) (zRf S19 (by decide) (by decide) rfl) (by decide) ?_
  refine gw_ld rfl rfl ?_
  refine gw_ld rfl rfl ?_
  refine z_is (n := 12) (zT S19 (by decide) rfl) (zN S19 (by decide) rfl) (by omega) (fun h31 e32 => ?_)
  have S33 := zSh_set S19 e32
  have F34 := zW_setA F20 e32 (by decide)
  have f35 : ez_I h31 71 15 = (ez_I h 71 15) := (zI_ne e32 (by omega)).trans (f21)
  have A36 : ez_I h31 86 = ez_I h 86 := by rw [zI_fn e32 86 (by decide)]; exact A23
  have A37 : ez_I h31 87 = ez_I h 87 := by rw [zI_fn e32 87 (by decide)]; exact A24
  have A38 : ez_I h31 88 = ez_I h 88 := by rw [zI_fn e32 88 (by decide)]; exact A25
  have A39 : ez_I h31 89 = ez_I h 89 := by rw [zI_fn e32 89 (by decide)]; exact A26
  have A40 : ez_I h31 90 = ez_I h 90 := by rw [zI_fn e32 90 (by decide)]; exact A27
  have A41 : ez_I h31 91 = ez_I h 91 := by rw [zI_fn e32 91 (by decide)]; exact A28
  have A42 : onE (ez_I h31 83) (ez_I h 83) bn (((bkW T n a J s0.2) : Nat) : Int) := by rw [zI_fn e32 83 (by decide)]; exact A29
  have A43 : onE (ez_I h31 84) (ez_I h 84) bn ((J : Nat) : Int) := by rw [zI_fn e32 84 (by decide)]; exact A30
  have A44 : onE (ez_I h31 85) (ez_I h 85) bn (((bkY T n a J) : Nat) : Int) := onE_s A22 e32 (by omega) (by omega)
  clear A23
  clear A24
  clear A25
  clear A26
  clear A27
  clear A28
  clear A29
  clear A30
  refine gw_ld rfl rfl ?_
  refine z_gR (q := 86) (zT S33 (by decide) rfl) (zRf S33 (by decide) (by decide) rfl) (by decide) ?_
  refine gw_ld rfl rfl ?_
  refine gw_ld rfl rfl ?_
  refine z_b1 (fun c45 => ?_) (fun c45 => ?_)
  · have c45 : wy.toInt ≠ 0 := c45
    refine gw_skip _ ?_
    refine gw_ld rfl rfl ?_
    refine z_C (m := 1) rfl rfl (fun x46 ex46 => ?_)
    refine z_b2 (fun c47 => ?_) (fun c47 => ?_)
    · have c47 : wy.toInt ≠ x46.toInt := c47
      refine gw_skip _ ?_
      have hw9 := bkW_2 T n a J s0.2
      have hbB := (bk_w2 (T := T) (n := n) (a := a) (j := J) (l := l) (s := s0) (by omega)).2
      refine gw_ld rfl rfl ?_
      refine gw_op rfl ?_
      generalize ex48 : (dy : Int64).toInt32 = x48
      have rx48 := z_rng x48
      have vx48 := n_l2i ex48 (by omega)
      refine z_is (n := 12) (zT S33 (by decide) rfl) (zN S33 (by decide) rfl) (by omega) (fun h49 e50 => ?_)
      have S51 := zSh_set S33 e50
      have F52 := zW_setA F34 e50 (by decide)
      have f53 : ez_I h49 71 15 = (ez_I h 71 15) := (zI_ne e50 (by omega)).trans (f35)
      have A54 : ez_I h49 87 = ez_I h 87 := by rw [zI_fn e50 87 (by decide)]; exact A37
      have A55 : ez_I h49 88 = ez_I h 88 := by rw [zI_fn e50 88 (by decide)]; exact A38
      have A56 : ez_I h49 89 = ez_I h 89 := by rw [zI_fn e50 89 (by decide)]; exact A39
      have A57 : ez_I h49 90 = ez_I h 90 := by rw [zI_fn e50 90 (by decide)]; exact A40
      have A58 : ez_I h49 91 = ez_I h 91 := by rw [zI_fn e50 91 (by decide)]; exact A41
      have A59 : onE (ez_I h49 83) (ez_I h 83) bn (((bkW T n a J s0.2) : Nat) : Int) := by rw [zI_fn e50 83 (by decide)]; exact A42
      have A60 : onE (ez_I h49 84) (ez_I h 84) bn ((J : Nat) : Int) := by rw [zI_fn e50 84 (by decide)]; exact A43
      have A61 : onE (ez_I h49 85) (ez_I h 85) bn (((bkY T n a J) : Nat) : Int) := by rw [zI_fn e50 85 (by decide)]; exact A44
      have A62 : onE (ez_I h49 86) (ez_I h 86) bn (((bkB T n a J s0.2) : Nat) : Int) := onE_s A36 e50 (by omega) (by omega)
      clear A37
      clear A38
      clear A39
      clear A40
      clear A41
      clear A42
      clear A43
      clear A44
      refine gw_ld rfl rfl ?_
      refine z_gR (q := 87) (zT S51 (by decide) rfl) (zRf S51 (by decide) (by decide) rfl) (by decide) ?_
      refine gw_ld rfl rfl ?_
      refine gw_ld rfl rfl ?_
      refine gw_op rfl ?_
      generalize ex63 : (fx : Int64).toInt32 = x63
      have rx63 := z_rng x63
      have vx63 := n_l2i ex63 (by omega)
      refine z_is (n := 12) (zT S51 (by decide) rfl) (zN S51 (by decide) rfl) (by omega) (fun h64 e65 => ?_)
      have S66 := zSh_set S51 e65
      have F67 := zW_setA F52 e65 (by decide)
      have f68 : ez_I h64 71 15 = (ez_I h 71 15) := (zI_ne e65 (by omega)).trans (f53)
      have A69 : ez_I h64 88 = ez_I h 88 := by rw [zI_fn e65 88 (by decide)]; exact A55
      have A70 : ez_I h64 89 = ez_I h 89 := by rw [zI_fn e65 89 (by decide)]; exact A56
      have A71 : ez_I h64 90 = ez_I h 90 := by rw [zI_fn e65 90 (by decide)]; exact A57
      have A72 : ez_I h64 91 = ez_I h 91 := by rw [zI_fn e65 91 (by decide)]; exact A58
      have A73 : onE (ez_I h64 83) (ez_I h 83) bn (((bkW T n a J s0.2) : Nat) : Int) := by rw [zI_fn e65 83 (by decide)]; exact A59
      have A74 : onE (ez_I h64 84) (ez_I h 84) bn ((J : Nat) : Int) := by rw [zI_fn e65 84 (by decide)]; exact A60
      have A75 : onE (ez_I h64 85) (ez_I h 85) bn (((bkY T n a J) : Nat) : Int) := by rw [zI_fn e65 85 (by decide)]; exact A61
      have A76 : onE (ez_I h64 86) (ez_I h 86) bn (((bkB T n a J s0.2) : Nat) : Int) := by rw [zI_fn e65 86 (by decide)]; exact A62
      have A77 : onE (ez_I h64 87) (ez_I h 87) bn (((bkFX T n a J) : Nat) : Int) := onE_s A54 e65 (by omega) (by omega)
      clear A55
      clear A56
      clear A57
      clear A58
      clear A59
      clear A60
      clear A61
      clear A62
      refine gw_ld rfl rfl ?_
      refine z_gR (q := 88) (zT S66 (by decide) rfl) (zRf S66 (by decide) (by decide) rfl) (by decide) ?_
      refine gw_ld rfl rfl ?_
      refine gw_ld rfl rfl ?_
      refine gw_op rfl ?_
      generalize ex78 : (dy : Int64).toInt32 = x78
      have rx78 := z_rng x78
      have vx78 := n_l2i ex78 (by omega)
      refine z_is (n := 12) (zT S66 (by decide) rfl) (zN S66 (by decide) rfl) (by omega) (fun h79 e80 => ?_)
      have S81 := zSh_set S66 e80
      have F82 := zW_setA F67 e80 (by decide)
      have f83 : ez_I h79 71 15 = (ez_I h 71 15) := (zI_ne e80 (by omega)).trans (f68)
      have A84 : ez_I h79 89 = ez_I h 89 := by rw [zI_fn e80 89 (by decide)]; exact A70
      have A85 : ez_I h79 90 = ez_I h 90 := by rw [zI_fn e80 90 (by decide)]; exact A71
      have A86 : ez_I h79 91 = ez_I h 91 := by rw [zI_fn e80 91 (by decide)]; exact A72
      have A87 : onE (ez_I h79 83) (ez_I h 83) bn (((bkW T n a J s0.2) : Nat) : Int) := by rw [zI_fn e80 83 (by decide)]; exact A73
      have A88 : onE (ez_I h79 84) (ez_I h 84) bn ((J : Nat) : Int) := by rw [zI_fn e80 84 (by decide)]; exact A74
      have A89 : onE (ez_I h79 85) (ez_I h 85) bn (((bkY T n a J) : Nat) : Int) := by rw [zI_fn e80 85 (by decide)]; exact A75
      have A90 : onE (ez_I h79 86) (ez_I h 86) bn (((bkB T n a J s0.2) : Nat) : Int) := by rw [zI_fn e80 86 (by decide)]; exact A76
      have A91 : onE (ez_I h79 87) (ez_I h 87) bn (((bkFX T n a J) : Nat) : Int) := by rw [zI_fn e80 87 (by decide)]; exact A77
      have A92 : onE (ez_I h79 88) (ez_I h 88) bn (((bkDY T n a J) : Nat) : Int) := onE_s A69 e80 (by omega) (by omega)
      clear A70
      clear A71
      clear A72
      clear A73
      clear A74
      clear A75
      clear A76
      clear A77
      refine z_C (m := 0) rfl rfl (fun x93 ex93 => ?_)
      refine gw_st rfl rfl rfl ?_
      show ez_gw _ _ _ _ _ _ _ _ [some (.ref 71), some (.int fr), some (.int to), some (.int pl), some (.int my), some (.int ls), l6, some (.long dy), none, some (.int od), some (.long fx), none, some (.long st), none, some (.int wy), some (.int (ez_I h 71 15)), some (.int x93)] _ _ _
      have t94 := congrArg Int32.toInt (f83)
      exact ez_Wp_at ((w_D_L0 (fr := fr) (to := to) (pl := pl) (my := my) (ls := ls) (l6 := l6) (dy := dy) (od := od) (fx := fx) (st := st) (wy := wy) (l15 := l15) (l16 := l16) S hC hA hF hT hX hod hwy hdy hfx hst hbg hls hs hb hg hbn hr K (((1000 - x93.toInt)).toNat + 1)) h79 (none) (none) (none) (ez_I h 71 15) x93 F82 (by omega) A87 A88 A89 A90 A91 A92 ((by rw [show x93.toInt.toNat = 0 by omega]; exact kpN_0 A84)) A85 A86 (by omega)) rfl
    · have c47 : ¬ (wy.toInt ≠ x46.toInt) := c47
      have hbB := (bk_w1 (T := T) (n := n) (a := a) (j := J) (l := l) (s := s0) (by omega)).2
      refine gw_ld rfl rfl ?_
      refine z_go ?_
      refine gw_skip _ ?_
      refine gw_op rfl ?_
      generalize ex95 : (fx : Int64).toInt32 = x95
      have rx95 := z_rng x95
      have vx95 := n_l2i ex95 (by omega)
      refine z_is (n := 12) (zT S33 (by decide) rfl) (zN S33 (by decide) rfl) (by omega) (fun h96 e97 => ?_)
      have S98 := zSh_set S33 e97
      have F99 := zW_setA F34 e97 (by decide)
      have f100 : ez_I h96 71 15 = (ez_I h 71 15) := (zI_ne e97 (by omega)).trans (f35)
      have A101 : ez_I h96 87 = ez_I h 87 := by rw [zI_fn e97 87 (by decide)]; exact A37
      have A102 : ez_I h96 88 = ez_I h 88 := by rw [zI_fn e97 88 (by decide)]; exact A38
      have A103 : ez_I h96 89 = ez_I h 89 := by rw [zI_fn e97 89 (by decide)]; exact A39
      have A104 : ez_I h96 90 = ez_I h 90 := by rw [zI_fn e97 90 (by decide)]; exact A40
      have A105 : ez_I h96 91 = ez_I h 91 := by rw [zI_fn e97 91 (by decide)]; exact A41
      have A106 : onE (ez_I h96 83) (ez_I h 83) bn (((bkW T n a J s0.2) : Nat) : Int) := by rw [zI_fn e97 83 (by decide)]; exact A42
      have A107 : onE (ez_I h96 84) (ez_I h 84) bn ((J : Nat) : Int) := by rw [zI_fn e97 84 (by decide)]; exact A43
      have A108 : onE (ez_I h96 85) (ez_I h 85) bn (((bkY T n a J) : Nat) : Int) := by rw [zI_fn e97 85 (by decide)]; exact A44
      have A109 : onE (ez_I h96 86) (ez_I h 86) bn (((bkB T n a J s0.2) : Nat) : Int) := onE_s A36 e97 (by omega) (by omega)
      clear A37
      clear A38
      clear A39
      clear A40
      clear A41
      clear A42
      clear A43
      clear A44
      refine gw_ld rfl rfl ?_
      refine z_gR (q := 87) (zT S98 (by decide) rfl) (zRf S98 (by decide) (by decide) rfl) (by decide) ?_
      refine gw_ld rfl rfl ?_
      refine gw_ld rfl rfl ?_
      refine gw_op rfl ?_
      generalize ex110 : (fx : Int64).toInt32 = x110
      have rx110 := z_rng x110
      have vx110 := n_l2i ex110 (by omega)
      refine z_is (n := 12) (zT S98 (by decide) rfl) (zN S98 (by decide) rfl) (by omega) (fun h111 e112 => ?_)
      have S113 := zSh_set S98 e112
      have F114 := zW_setA F99 e112 (by decide)
      have f115 : ez_I h111 71 15 = (ez_I h 71 15) := (zI_ne e112 (by omega)).trans (f100)
      have A116 : ez_I h111 88 = ez_I h 88 := by rw [zI_fn e112 88 (by decide)]; exact A102
      have A117 : ez_I h111 89 = ez_I h 89 := by rw [zI_fn e112 89 (by decide)]; exact A103
      have A118 : ez_I h111 90 = ez_I h 90 := by rw [zI_fn e112 90 (by decide)]; exact A104
      have A119 : ez_I h111 91 = ez_I h 91 := by rw [zI_fn e112 91 (by decide)]; exact A105
      have A120 : onE (ez_I h111 83) (ez_I h 83) bn (((bkW T n a J s0.2) : Nat) : Int) := by rw [zI_fn e112 83 (by decide)]; exact A106
      have A121 : onE (ez_I h111 84) (ez_I h 84) bn ((J : Nat) : Int) := by rw [zI_fn e112 84 (by decide)]; exact A107
      have A122 : onE (ez_I h111 85) (ez_I h 85) bn (((bkY T n a J) : Nat) : Int) := by rw [zI_fn e112 85 (by decide)]; exact A108
      have A123 : onE (ez_I h111 86) (ez_I h 86) bn (((bkB T n a J s0.2) : Nat) : Int) := by rw [zI_fn e112 86 (by decide)]; exact A109
      have A124 : onE (ez_I h111 87) (ez_I h 87) bn (((bkFX T n a J) : Nat) : Int) := onE_s A101 e112 (by omega) (by omega)
      clear A102
      clear A103
      clear A104
      clear A105
      clear A106
      clear A107
      clear A108
      clear A109
      refine gw_ld rfl rfl ?_
      refine z_gR (q := 88) (zT S113 (by decide) rfl) (zRf S113 (by decide) (by decide) rfl) (by decide) ?_
      refine gw_ld rfl rfl ?_
      refine gw_ld rfl rfl ?_
      refine gw_op rfl ?_
      generalize ex125 : (dy : Int64).toInt32 = x125
      have rx125 := z_rng x125
      have vx125 := n_l2i ex125 (by omega)
      refine z_is (n := 12) (zT S113 (by decide) rfl) (zN S113 (by decide) rfl) (by omega) (fun h126 e127 => ?_)
      have S128 := zSh_set S113 e127
      have F129 := zW_setA F114 e127 (by decide)
      have f130 : ez_I h126 71 15 = (ez_I h 71 15) := (zI_ne e127 (by omega)).trans (f115)
      have A131 : ez_I h126 89 = ez_I h 89 := by rw [zI_fn e127 89 (by decide)]; exact A117
      have A132 : ez_I h126 90 = ez_I h 90 := by rw [zI_fn e127 90 (by decide)]; exact A118
      have A133 : ez_I h126 91 = ez_I h 91 := by rw [zI_fn e127 91 (by decide)]; exact A119
      have A134 : onE (ez_I h126 83) (ez_I h 83) bn (((bkW T n a J s0.2) : Nat) : Int) := by rw [zI_fn e127 83 (by decide)]; exact A120
      have A135 : onE (ez_I h126 84) (ez_I h 84) bn ((J : Nat) : Int) := by rw [zI_fn e127 84 (by decide)]; exact A121
      have A136 : onE (ez_I h126 85) (ez_I h 85) bn (((bkY T n a J) : Nat) : Int) := by rw [zI_fn e127 85 (by decide)]; exact A122
      have A137 : onE (ez_I h126 86) (ez_I h 86) bn (((bkB T n a J s0.2) : Nat) : Int) := by rw [zI_fn e127 86 (by decide)]; exact A123
      have A138 : onE (ez_I h126 87) (ez_I h 87) bn (((bkFX T n a J) : Nat) : Int) := by rw [zI_fn e127 87 (by decide)]; exact A124
      have A139 : onE (ez_I h126 88) (ez_I h 88) bn (((bkDY T n a J) : Nat) : Int) := onE_s A116 e127 (by omega) (by omega)
      clear A117
      clear A118
      clear A119
      clear A120
      clear A121
      clear A122
      clear A123
      clear A124
      refine z_C (m := 0) rfl rfl (fun x140 ex140 => ?_)
      refine gw_st rfl rfl rfl ?_
      show ez_gw _ _ _ _ _ _ _ _ [some (.ref 71), some (.int fr), some (.int to), some (.int pl), some (.int my), some (.int ls), l6, some (.long dy), none, some (.int od), some (.long fx), none, some (.long st), none, some (.int wy), some (.int (ez_I h 71 15)), some (.int x140)] _ _ _
      have t141 := congrArg Int32.toInt (f130)
      exact ez_Wp_at ((w_D_L0 (fr := fr) (to := to) (pl := pl) (my := my) (ls := ls) (l6 := l6) (dy := dy) (od := od) (fx := fx) (st := st) (wy := wy) (l15 := l15) (l16 := l16) S hC hA hF hT hX hod hwy hdy hfx hst hbg hls hs hb hg hbn hr K (((1000 - x140.toInt)).toNat + 1)) h126 (none) (none) (none) (ez_I h 71 15) x140 F129 (by omega) A134 A135 A136 A137 A138 A139 ((by rw [show x140.toInt.toNat = 0 by omega]; exact kpN_0 A131)) A132 A133 (by omega)) rfl
  · have c45 : ¬ (wy.toInt ≠ 0) := c45
    have hbB := (bk_w0 (T := T) (n := n) (a := a) (j := J) (l := l) (s := s0) (by omega)).2
    refine gw_ld rfl rfl ?_
    refine z_go ?_
    refine gw_skip _ ?_
    refine gw_op rfl ?_
    generalize ex142 : (st : Int64).toInt32 = x142
    have rx142 := z_rng x142
    have vx142 := n_l2i ex142 (by omega)
    refine z_is (n := 12) (zT S33 (by decide) rfl) (zN S33 (by decide) rfl) (by omega) (fun h143 e144 => ?_)
    have S145 := zSh_set S33 e144
    have F146 := zW_setA F34 e144 (by decide)
    have f147 : ez_I h143 71 15 = (ez_I h 71 15) := (zI_ne e144 (by omega)).trans (f35)
    have A148 : ez_I h143 87 = ez_I h 87 := by rw [zI_fn e144 87 (by decide)]; exact A37
    have A149 : ez_I h143 88 = ez_I h 88 := by rw [zI_fn e144 88 (by decide)]; exact A38
    have A150 : ez_I h143 89 = ez_I h 89 := by rw [zI_fn e144 89 (by decide)]; exact A39
    have A151 : ez_I h143 90 = ez_I h 90 := by rw [zI_fn e144 90 (by decide)]; exact A40
    have A152 : ez_I h143 91 = ez_I h 91 := by rw [zI_fn e144 91 (by decide)]; exact A41
    have A153 : onE (ez_I h143 83) (ez_I h 83) bn (((bkW T n a J s0.2) : Nat) : Int) := by rw [zI_fn e144 83 (by decide)]; exact A42
    have A154 : onE (ez_I h143 84) (ez_I h 84) bn ((J : Nat) : Int) := by rw [zI_fn e144 84 (by decide)]; exact A43
    have A155 : onE (ez_I h143 85) (ez_I h 85) bn (((bkY T n a J) : Nat) : Int) := by rw [zI_fn e144 85 (by decide)]; exact A44
    have A156 : onE (ez_I h143 86) (ez_I h 86) bn (((bkB T n a J s0.2) : Nat) : Int) := onE_s A36 e144 (by omega) (by omega)
    clear A37
    clear A38
    clear A39
    clear A40
    clear A41
    clear A42
    clear A43
    clear A44
    refine gw_ld rfl rfl ?_
    refine z_gR (q := 87) (zT S145 (by decide) rfl) (zRf S145 (by decide) (by decide) rfl) (by decide) ?_
    refine gw_ld rfl rfl ?_
    refine gw_ld rfl rfl ?_
    refine gw_op rfl ?_
    generalize ex157 : (fx : Int64).toInt32 = x157
    have rx157 := z_rng x157
    have vx157 := n_l2i ex157 (by omega)
    refine z_is (n := 12) (zT S145 (by decide) rfl) (zN S145 (by decide) rfl) (by omega) (fun h158 e159 => ?_)
    have S160 := zSh_set S145 e159
    have F161 := zW_setA F146 e159 (by decide)
    have f162 : ez_I h158 71 15 = (ez_I h 71 15) := (zI_ne e159 (by omega)).trans (f147)
    have A163 : ez_I h158 88 = ez_I h 88 := by rw [zI_fn e159 88 (by decide)]; exact A149
    have A164 : ez_I h158 89 = ez_I h 89 := by rw [zI_fn e159 89 (by decide)]; exact A150
    have A165 : ez_I h158 90 = ez_I h 90 := by rw [zI_fn e159 90 (by decide)]; exact A151
    have A166 : ez_I h158 91 = ez_I h 91 := by rw [zI_fn e159 91 (by decide)]; exact A152
    have A167 : onE (ez_I h158 83) (ez_I h 83) bn (((bkW T n a J s0.2) : Nat) : Int) := by rw [zI_fn e159 83 (by decide)]; exact A153
    have A168 : onE (ez_I h158 84) (ez_I h 84) bn ((J : Nat) : Int) := by rw [zI_fn e159 84 (by decide)]; exact A154
    have A169 : onE (ez_I h158 85) (ez_I h 85) bn (((bkY T n a J) : Nat) : Int) := by rw [zI_fn e159 85 (by decide)]; exact A155
    have A170 : onE (ez_I h158 86) (ez_I h 86) bn (((bkB T n a J s0.2) : Nat) : Int) := by rw [zI_fn e159 86 (by decide)]; exact A156
    have A171 : onE (ez_I h158 87) (ez_I h 87) bn (((bkFX T n a J) : Nat) : Int) := onE_s A148 e159 (by omega) (by omega)
    clear A149
    clear A150
    clear A151
    clear A152
    clear A153
    clear A154
    clear A155
    clear A156
    refine gw_ld rfl rfl ?_
    refine z_gR (q := 88) (zT S160 (by decide) rfl) (zRf S160 (by decide) (by decide) rfl) (by decide) ?_
    refine gw_ld rfl rfl ?_
    refine gw_ld rfl rfl ?_
    refine gw_op rfl ?_
    generalize ex172 : (dy : Int64).toInt32 = x172
    have rx172 := z_rng x172
    have vx172 := n_l2i ex172 (by omega)
    refine z_is (n := 12) (zT S160 (by decide) rfl) (zN S160 (by decide) rfl) (by omega) (fun h173 e174 => ?_)
    have S175 := zSh_set S160 e174
    have F176 := zW_setA F161 e174 (by decide)
    have f177 : ez_I h173 71 15 = (ez_I h 71 15) := (zI_ne e174 (by omega)).trans (f162)
    have A178 : ez_I h173 89 = ez_I h 89 := by rw [zI_fn e174 89 (by decide)]; exact A164
    have A179 : ez_I h173 90 = ez_I h 90 := by rw [zI_fn e174 90 (by decide)]; exact A165
    have A180 : ez_I h173 91 = ez_I h 91 := by rw [zI_fn e174 91 (by decide)]; exact A166
    have A181 : onE (ez_I h173 83) (ez_I h 83) bn (((bkW T n a J s0.2) : Nat) : Int) := by rw [zI_fn e174 83 (by decide)]; exact A167
    have A182 : onE (ez_I h173 84) (ez_I h 84) bn ((J : Nat) : Int) := by rw [zI_fn e174 84 (by decide)]; exact A168
    have A183 : onE (ez_I h173 85) (ez_I h 85) bn (((bkY T n a J) : Nat) : Int) := by rw [zI_fn e174 85 (by decide)]; exact A169
    have A184 : onE (ez_I h173 86) (ez_I h 86) bn (((bkB T n a J s0.2) : Nat) : Int) := by rw [zI_fn e174 86 (by decide)]; exact A170
    have A185 : onE (ez_I h173 87) (ez_I h 87) bn (((bkFX T n a J) : Nat) : Int) := by rw [zI_fn e174 87 (by decide)]; exact A171
    have A186 : onE (ez_I h173 88) (ez_I h 88) bn (((bkDY T n a J) : Nat) : Int) := onE_s A163 e174 (by omega) (by omega)
    clear A164
    clear A165
    clear A166
    clear A167
    clear A168
    clear A169
    clear A170
    clear A171
    refine z_C (m := 0) rfl rfl (fun x187 ex187 => ?_)
    refine gw_st rfl rfl rfl ?_
    show ez_gw _ _ _ _ _ _ _ _ [some (.ref 71), some (.int fr), some (.int to), some (.int pl), some (.int my), some (.int ls), l6, some (.long dy), none, some (.int od), some (.long fx), none, some (.long st), none, some (.int wy), some (.int (ez_I h 71 15)), some (.int x187)] _ _ _
    have t188 := congrArg Int32.toInt (f177)
    exact ez_Wp_at ((w_D_L0 (fr := fr) (to := to) (pl := pl) (my := my) (ls := ls) (l6 := l6) (dy := dy) (od := od) (fx := fx) (st := st) (wy := wy) (l15 := l15) (l16 := l16) S hC hA hF hT hX hod hwy hdy hfx hst hbg hls hs hb hg hbn hr K (((1000 - x187.toInt)).toNat + 1)) h173 (none) (none) (none) (ez_I h 71 15) x187 F176 (by omega) A181 A182 A183 A184 A185 A186 ((by rw [show x187.toInt.toNat = 0 by omega]; exact kpN_0 A178)) A179 A180 (by omega)) rfl
