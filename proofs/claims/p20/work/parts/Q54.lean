/-! PRINTED by wip/pack: the model writes a block: ways -/
theorem x71_200 : ¬ (97 = 106 ∨ 97 = 108) := by omega
theorem x71_201 : ¬ (98 = 106 ∨ 98 = 108) := by omega
theorem x71_202 : ¬ (93 = 106 ∨ 93 = 108) := by omega
theorem x71_203 : ¬ (95 = 106 ∨ 95 = 108) := by omega
theorem x71_204 : ¬ (72 = 106 ∨ 72 = 108) := by omega
theorem x71_205 : ¬ (77 = 106 ∨ 77 = 108) := by omega
theorem x71_206 : ¬ (78 = 106 ∨ 78 = 108) := by omega
theorem x71_207 : ¬ (79 = 106 ∨ 79 = 108) := by omega
theorem x71_208 : ¬ (80 = 106 ∨ 80 = 108) := by omega
theorem x71_209 : ¬ (92 = 106 ∨ 92 = 108) := by omega
theorem x71_210 : ¬ (94 = 106 ∨ 94 = 108) := by omega
theorem x71_211 : ¬ (96 = 106 ∨ 96 = 108) := by omega
theorem x71_212 : ¬ (100 = 106 ∨ 100 = 108) := by omega
theorem x71_213 : ¬ (101 = 106 ∨ 101 = 108) := by omega
theorem x71_214 : ¬ (102 = 106 ∨ 102 = 108) := by omega
theorem x71_215 : ¬ (117 = 106 ∨ 117 = 108) := by omega
theorem x71_216 : ¬ (118 = 106 ∨ 118 = 108) := by omega
theorem x71_217 : ¬ (71 = 106 ∨ 71 = 108) := by omega
theorem x71_218 : ¬ (75 = 106 ∨ 75 = 108) := by omega
theorem x71_219 : ∀ q k : Nat, (False) → (q = 71 ∧ k = 15 ∨ q = 71 ∧ k = 16) := fun q k hk => hk.elim
theorem x71_220 : ∀ q : Nat, (q = 106 ∨ q = 108) → (q = 75 ∨ 83 ≤ q ∧ q ≤ 91 ∨ 103 ≤ q ∧ q ≤ 109 ∨ q = 115 ∨ q = 116) := fun q hk => hk.elim (fun g => (.inr (.inr (.inl (show 103 ≤ q ∧ q ≤ 109 by omega))))) (fun hk => (.inr (.inr (.inl (show 103 ≤ q ∧ q ≤ 109 by omega)))))
theorem x71_221 : ∀ q : Nat, (False) → (False) := fun q hk => hk.elim
theorem x71_222 : ∀ q k : Nat, (q = 71 ∧ k = 15 ∨ q = 71 ∧ k = 16) → (q = 71 ∧ k = 15 ∨ q = 71 ∧ k = 16) := fun q k hk => hk.elim (fun g => (.inl g)) (fun hk => (.inr hk))
theorem x71_223 : ∀ q : Nat, (q = 75 ∨ 83 ≤ q ∧ q ≤ 91 ∨ 103 ≤ q ∧ q ≤ 105 ∨ q = 107 ∨ q = 109 ∨ q = 115 ∨ q = 116) → (q = 75 ∨ 83 ≤ q ∧ q ≤ 91 ∨ 103 ≤ q ∧ q ≤ 109 ∨ q = 115 ∨ q = 116) := fun q hk => hk.elim (fun g => (.inl g)) (fun hk => hk.elim (fun g => (.inr (.inl g))) (fun hk => hk.elim (fun g => (.inr (.inr (.inl (show 103 ≤ q ∧ q ≤ 109 by omega))))) (fun hk => hk.elim (fun g => (.inr (.inr (.inl (show 103 ≤ q ∧ q ≤ 109 by omega))))) (fun hk => hk.elim (fun g => (.inr (.inr (.inl (show 103 ≤ q ∧ q ≤ 109 by omega))))) (fun hk => hk.elim (fun g => (.inr (.inr (.inr (.inl g))))) (fun hk => (.inr (.inr (.inr (.inr hk))))))))))
theorem x71_224 : ¬ (83 = 106 ∨ 83 = 108) := by omega
theorem x71_225 : ¬ (84 = 106 ∨ 84 = 108) := by omega
theorem x71_226 : ¬ (85 = 106 ∨ 85 = 108) := by omega
theorem x71_227 : ¬ (86 = 106 ∨ 86 = 108) := by omega
theorem x71_228 : ¬ (87 = 106 ∨ 87 = 108) := by omega
theorem x71_229 : ¬ (88 = 106 ∨ 88 = 108) := by omega
theorem x71_230 : ¬ (89 = 106 ∨ 89 = 108) := by omega
theorem x71_231 : ¬ (90 = 106 ∨ 90 = 108) := by omega
theorem x71_232 : ¬ (91 = 106 ∨ 91 = 108) := by omega
set_option maxRecDepth 4000 in
set_option maxHeartbeats 2000000 in
theorem w_C2_L1 {E : Nat → Nat × (Nat → Int32)} {d : Nat} {Q : ez_Q} {h : ez_H} {fr : Int32} {to : Int32} {pl : Int32} {my : Int32} {ls : Int32} {l6 : Option Value} {dy : Int64} {od : Int32} {l10 : Option Value} {l11 : Option Value} {l12 : Option Value} {l13 : Option Value} {l14 : Option Value} {l15 : Option Value} {l16 : Option Value} (S : zSh h) {T : Nat → Int} {n c a J : Nat} {l bn : Nat} {s0 : Nat × Nat} (hC : mbC (ez_I h 72) (ez_I h 77) (ez_I h 78) (ez_I h 79) (ez_I h 80) (ez_I h 92) (ez_I h 93) (ez_I h 94) (ez_I h 95) (ez_I h 96) T n c) (hA : mbA fr to pl my T n c a J) (hF : mbF (ez_I h 100) (ez_I h 101) (ez_I h 102) (ez_I h 117) (ez_I h 118) T n a J) (hT : mbT (ez_I h 71 56) (ez_I h 71 57) (ez_I h 71 58) T n a J) (hod : od.toInt = ((bkO T n a J) : Nat)) (hdy : dy.toInt = ((bkDY T n a J) : Nat)) (c7 : ctI (ez_I h 97) (bkC T n a J) 286) (c8 : ctI (ez_I h 98) (bkD T n a J) 30) (hls : ls.toInt = (l : Nat) ∧ l ≤ 1) (hs : mS (ez_I h 75) s0) (hb : (ez_I h 71 16).toInt = (s0.2 : Nat)) (hg : aR (ez_I h 75) 8000 (-128) 127) (hbn : (ez_I h 71 15).toInt = (bn : Nat) ∧ bn ≤ 9) (hr : s0.2 + 50 + 8 * (bkY T n a J) ≤ 48800) (K : ∀ h2, zW (fun q k => q = 71 ∧ k = 15 ∨ q = 71 ∧ k = 16) (fun q => q = 75 ∨ 83 ≤ q ∧ q ≤ 91 ∨ 103 ≤ q ∧ q ≤ 109 ∨ q = 115 ∨ q = 116) (fun _ => False) h h2 → (bkS T n a J l s0).2 ≤ s0.2 + 42 + 8 * (bkY T n a J) → mst (ez_I h2 75) (ez_I h2 71 16).toInt (bkS T n a J l s0) → aR (ez_I h2 75) 8000 (-128) 127 → (ez_I h2 71 15).toInt = (bn : Int) + 1 → mbk (ez_I h2 83) (ez_I h2 84) (ez_I h2 85) (ez_I h2 86) (ez_I h2 87) (ez_I h2 88) (ez_I h2 89) (ez_I h2 90) (ez_I h2 91) (ez_I h 83) (ez_I h 84) (ez_I h 85) (ez_I h 86) (ez_I h 87) (ez_I h 88) (ez_I h 89) (ez_I h 90) (ez_I h 91) T n a J s0.2 bn → Q (.inl none) h2) : ∀ N : Nat, (∀ (h2 : ez_H) (k : Int32) , zW (fun _ _ => False) (fun q => q = 106 ∨ q = 108) (fun _ => False) h h2 → (0 ≤ k.toInt ∧ k.toInt ≤ 30) → (cpN (ez_I h2 106) fxL 288) → (cpN (ez_I h2 108) fxD k.toInt.toNat) → (1000 - k.toInt) < (N : Int) → pw E (d + 2) 44 442 [some (.ref 71), some (.int fr), some (.int to), some (.int pl), some (.int my), some (.int ls), l6, some (.long dy), none, some (.int od), some (.int k), l11, l12, l13, l14, l15, l16] [] h2 Q) := by
  intro N
  induction N with
  | zero => exact fun h2 k  F hinv A_f6 A_f8 hm => absurd hm (by have w_k := z_rng k; have gfr := z_rng fr; have gto := z_rng to; have gpl := z_rng pl; have gmy := z_rng my; have gls := z_rng ls; have god := z_rng od; omega)
  | succ N ih =>
    refine fun h2 k  F hinv A_f6 A_f8 hm => ?_
    · skip
      have w_k := z_rng k
      have gfr := z_rng fr
      have gto := z_rng to
      have gpl := z_rng pl
      have gmy := z_rng my
      have gls := z_rng ls
      have god := z_rng od
      have S2 := zW_sh F S
      apply ez_Wp_in
      show ez_gw _ _ _ _ _ _ (cz_44) _ _ _ _ _
      refine gw_skip _ ?_
      refine gw_ld rfl rfl ?_
      refine z_C (m := 30) rfl rfl (fun x1 ex1 => ?_)
      refine z_b2 (fun c2 => ?_) (fun c2 => ?_)
      · have c2 : x1.toInt ≤ k.toInt := c2
        refine gw_skip _ ?_
        have hf8 : cpN (ez_I h2 108) fxD 30 := by have b1 := A_f8; rw [show k.toInt.toNat = 30 by omega] at b1; exact b1
        obtain ⟨cn, cc, hT0, hB, hpm, hlt, hpe, t92, t93, t94, t95, t96⟩ := id hC
        obtain ⟨afr, ato, ajc, aj6, apl, amy, apn⟩ := id hA
        clear hB hpm t92 t94 t96
        have hbc : ∀ z, (bkC T n a J) z ≤ 601 := fun z => by have h9 := cL_le (aM T n) (dI T n) a J z; have h8 : (bkC T n a J) z = cL (aM T n) (dI T n) a J z := rfl; omega
        have hbd : ∀ z, (bkD T n a J) z ≤ 601 := fun z => by have h9 := cD_le (dI T n) a J z; have h8 : (bkD T n a J) z = cD (dI T n) a J z := rfl; omega
        obtain ⟨_, _, _, _, bg5, bg6⟩ := mbF_big hF hT0 hlt ajc aj6
        have hfi := fx_is (T := T) (n := n) (c := c) (a := a) (j := J) hT0 hlt ajc
        have hsi : bkST T n a J s0.2 = 3 + (8 - (s0.2 + 3) % 8) % 8 + 32 + 8 * (bkY T n a J) := rfl
        refine z_lC (m := 3) rfl rfl (fun lg3 elg3 => ?_)
        refine gw_ld rfl rfl ?_
        refine gw_ld rfl rfl ?_
        refine z_gR (q := 106) (zT S2 (by decide) rfl) (zRf S2 (by decide) (by decide) rfl) (by decide) ?_
        refine gw_ld rfl rfl ?_
        refine z_gR (q := 108) (zT S2 (by decide) rfl) (zRf S2 (by decide) (by decide) rfl) (by decide) ?_
        refine z_cl rfl rfl rfl rfl rfl rfl rfl rfl rfl rfl rfl (zT S2 (by decide) rfl) ?_
        refine d_cost (u := 106) (w := 108) (cl := (bkC T n a J)) (cd := (bkD T n a J)) S2 (nu := 288) (nw := 30) (fun _ S => ⟨zT S (by decide) rfl, zN S (by decide) rfl⟩) (fun _ S => ⟨zT S (by decide) rfl, zN S (by decide) rfl⟩) (by omega) (by rw [(show ez_I h2 97 = ez_I h 97 from zW_fn F 97 x71_200 (fun _ c => c))]; exact c7) (by rw [(show ez_I h2 98 = ez_I h 98 from zW_fn F 98 x71_201 (fun _ c => c))]; exact c8) hbc hbd (cpN_aR (cpN_up A_f6 (by omega)) (fun k _ => (fxL_1 k).2)) (cpN_aR hf8 (fun k _ => fxD_5 k)) (by rw [(show ez_I h2 93 = ez_I h 93 from zW_fn F 93 x71_202 (fun _ c => c))]; exact t93) (by rw [(show ez_I h2 95 = ez_I h 95 from zW_fn F 95 x71_203 (fun _ c => c))]; exact t95) (fun lg4 k5 => ?_)
        rw [sNm_eq (c := (bkC T n a J)) (f := fun i => nL (ez_I h2 106) i + exL i) (g := fun i => fxL i + exL i) (n := 286) (fun q hq => by show nL (ez_I h2 106) q + exL q = _; rw [cpN_nL A_f6 q (by omega)]), sNm_eq (c := (bkD T n a J)) (f := fun i => nL (ez_I h2 108) i + DEf i) (g := fun i => fxD i + DEf i) (n := 30) (fun q hq => by show nL (ez_I h2 108) q + DEf q = _; rw [cpN_nL hf8 q hq])] at k5
        refine z_ladd (by omega) (fun lg6 elg6 => ?_)
        refine gw_st rfl rfl rfl ?_
        show ez_gw _ _ _ _ _ _ _ _ [some (.ref 71), some (.int fr), some (.int to), some (.int pl), some (.int my), some (.int ls), l6, some (.long dy), none, some (.int od), some (.long lg6), none, l12, l13, l14, l15, l16] _ _ _
        refine gw_ld rfl rfl ?_
        have r7 := z_rng (ez_I h 71 16)
        refine z_gI2 (by decide) (zT S2 (by decide) rfl) (zW_f F (by decide) (fun c => c)) ?_
        refine z_C (m := 3) rfl rfl (fun x8 ex8 => ?_)
        refine z_add (by omega) (fun x9 ex9 => ?_)
        refine z_C (m := 7) rfl rfl (fun x10 ex10 => ?_)
        refine z_add (by omega) (fun x11 ex11 => ?_)
        refine z_C (m := 8) rfl rfl (fun x12 ex12 => ?_)
        refine z_dvP (c := 8) ex12 (by decide) (by omega) (fun x13 ex13 => ?_)
        refine z_C (m := 8) rfl rfl (fun x14 ex14 => ?_)
        refine z_mulR (c := 8) ex14 (by omega) (fun x15 ex15 => ?_)
        refine gw_ld rfl rfl ?_
        refine z_gI2 (by decide) (zT S2 (by decide) rfl) (zW_f F (by decide) (fun c => c)) ?_
        refine z_sub (by omega) (fun x16 ex16 => ?_)
        refine z_i2l (fun lg17 elg17 => ?_)
        refine z_lC (m := 32) rfl rfl (fun lg18 elg18 => ?_)
        refine z_ladd (by omega) (fun lg19 elg19 => ?_)
        refine z_lC (m := 8) rfl rfl (fun lg20 elg20 => ?_)
        refine gw_ld rfl rfl ?_
        refine z_i2l (fun lg21 elg21 => ?_)
        refine z_lmul (B := 800000) (by omega) (by omega) (fun p23 ep23 np23 mp23 lg22 elg22 => ?_) (fun p hp => by rw [hp]; exact (mulB (a := 8) (b := 100000) (c := 800000) (by omega) (by omega) (by decide)).2)
        have hp8 : p23 = 8 * my.toInt := by rw [ep23, show lg20.toInt = 8 by omega, show lg21.toInt = my.toInt by omega]
        refine z_ladd (by omega) (fun lg24 elg24 => ?_)
        refine gw_st rfl rfl rfl ?_
        show ez_gw _ _ _ _ _ _ _ _ [some (.ref 71), some (.int fr), some (.int to), some (.int pl), some (.int my), some (.int ls), l6, some (.long dy), none, some (.int od), some (.long lg6), none, some (.long lg24), none, l14, l15, l16] _ _ _
        refine gw_ld rfl rfl ?_
        refine gw_ld rfl rfl ?_
        refine z_lcmp (fun x25 ex25 => ?_)
        refine z_b1 (fun c26 => ?_) (fun c26 => ?_)
        · have c26 : 0 < x25.toInt := c26
          refine gw_skip _ ?_
          refine gw_ld rfl rfl ?_
          refine gw_ld rfl rfl ?_
          refine z_lcmp (fun x27 ex27 => ?_)
          refine z_b1 (fun c28 => ?_) (fun c28 => ?_)
          · have c28 : 0 < x27.toInt := c28
            refine gw_skip _ ?_
            refine z_C (m := 2) rfl rfl (fun x29 ex29 => ?_)
            refine gw_st rfl rfl rfl ?_
            show ez_gw _ _ _ _ _ _ _ _ [some (.ref 71), some (.int fr), some (.int to), some (.int pl), some (.int my), some (.int ls), l6, some (.long dy), none, some (.int od), some (.long lg6), none, some (.long lg24), none, some (.int x29), l15, l16] _ _ _
            have hwy : x29.toInt = ((bkW T n a J s0.2) : Nat) := by
              unfold bkW
              rw [if_neg (by omega), if_neg (by omega)]; omega
            suffices tl : pw E (d + 2) 44 551 [some (.ref 71), some (.int fr), some (.int to), some (.int pl), some (.int my), some (.int ls), l6, some (.long dy), none, some (.int od), some (.long lg6), none, some (.long lg24), none, some (.int x29), l15, l16] [] h2 Q from ez_Wp_at tl rfl
            refine w_D (T := T) (n := n) (c := c) (a := a) (J := J) (l := l) (bn := bn) (s0 := s0) (fr := fr) (to := to) (pl := pl) (my := my) (ls := ls) (l6 := l6) (dy := dy) (od := od) (fx := lg6) (st := lg24) (wy := x29) (l15 := l15) (l16 := l16) S2 (by rw [(show ez_I h2 72 = ez_I h 72 from zW_fn F 72 x71_204 (fun _ c => c)), (show ez_I h2 77 = ez_I h 77 from zW_fn F 77 x71_205 (fun _ c => c)), (show ez_I h2 78 = ez_I h 78 from zW_fn F 78 x71_206 (fun _ c => c)), (show ez_I h2 79 = ez_I h 79 from zW_fn F 79 x71_207 (fun _ c => c)), (show ez_I h2 80 = ez_I h 80 from zW_fn F 80 x71_208 (fun _ c => c)), (show ez_I h2 92 = ez_I h 92 from zW_fn F 92 x71_209 (fun _ c => c)), (show ez_I h2 93 = ez_I h 93 from zW_fn F 93 x71_202 (fun _ c => c)), (show ez_I h2 94 = ez_I h 94 from zW_fn F 94 x71_210 (fun _ c => c)), (show ez_I h2 95 = ez_I h 95 from zW_fn F 95 x71_203 (fun _ c => c)), (show ez_I h2 96 = ez_I h 96 from zW_fn F 96 x71_211 (fun _ c => c))]; exact hC) hA (by rw [(show ez_I h2 100 = ez_I h 100 from zW_fn F 100 x71_212 (fun _ c => c)), (show ez_I h2 101 = ez_I h 101 from zW_fn F 101 x71_213 (fun _ c => c)), (show ez_I h2 102 = ez_I h 102 from zW_fn F 102 x71_214 (fun _ c => c)), (show ez_I h2 117 = ez_I h 117 from zW_fn F 117 x71_215 (fun _ c => c)), (show ez_I h2 118 = ez_I h 118 from zW_fn F 118 x71_216 (fun _ c => c))]; exact hF) (by rw [(show ez_I h2 71 56 = ez_I h 71 56 from zW_f F x71_217 (fun c => c)), (show ez_I h2 71 57 = ez_I h 71 57 from zW_f F x71_217 (fun c => c)), (show ez_I h2 71 58 = ez_I h 71 58 from zW_f F x71_217 (fun c => c))]; exact hT) (show mbX (ez_I h2 106) (ez_I h2 108) from ⟨A_f6, hf8⟩) hod hwy hdy (by omega) (by omega) (by omega) hls (by rw [(show ez_I h2 75 = ez_I h 75 from zW_fn F 75 x71_218 (fun _ c => c))]; exact hs) (by rw [(show ez_I h2 71 16 = ez_I h 71 16 from zW_f F x71_217 (fun c => c))]; exact hb) (by rw [(show ez_I h2 75 = ez_I h 75 from zW_fn F 75 x71_218 (fun _ c => c))]; exact hg) (by rw [(show ez_I h2 71 15 = ez_I h 71 15 from zW_f F x71_217 (fun c => c))]; exact hbn) hr (fun h30 F31 k32 k33 k34 k35 k36 => ?_)
            have F37 := zW_tr (zW_mono F x71_219 x71_220 x71_221) (zW_mono F31 x71_222 x71_223 x71_221)
            exact K _ F37 k32 k33 k34 k35 (by have b1 := k36; rw [(show ez_I h2 83 = ez_I h 83 from zW_fn F 83 x71_224 (fun _ c => c)), (show ez_I h2 84 = ez_I h 84 from zW_fn F 84 x71_225 (fun _ c => c)), (show ez_I h2 85 = ez_I h 85 from zW_fn F 85 x71_226 (fun _ c => c)), (show ez_I h2 86 = ez_I h 86 from zW_fn F 86 x71_227 (fun _ c => c)), (show ez_I h2 87 = ez_I h 87 from zW_fn F 87 x71_228 (fun _ c => c)), (show ez_I h2 88 = ez_I h 88 from zW_fn F 88 x71_229 (fun _ c => c)), (show ez_I h2 89 = ez_I h 89 from zW_fn F 89 x71_230 (fun _ c => c)), (show ez_I h2 90 = ez_I h 90 from zW_fn F 90 x71_231 (fun _ c => c)), (show ez_I h2 91 = ez_I h 91 from zW_fn F 91 x71_232 (fun _ c => c))] at b1; exact b1)
          · have c28 : ¬ (0 < x27.toInt) := c28
            refine z_C (m := 1) rfl rfl (fun x38 ex38 => ?_)
            refine z_go ?_
            refine gw_skip _ ?_
            refine gw_st rfl rfl rfl ?_
            show ez_gw _ _ _ _ _ _ _ _ [some (.ref 71), some (.int fr), some (.int to), some (.int pl), some (.int my), some (.int ls), l6, some (.long dy), none, some (.int od), some (.long lg6), none, some (.long lg24), none, some (.int x38), l15, l16] _ _ _
            have hwy : x38.toInt = ((bkW T n a J s0.2) : Nat) := by
              unfold bkW
              rw [if_neg (by omega), if_pos (by omega)]; omega
            suffices tl : pw E (d + 2) 44 551 [some (.ref 71), some (.int fr), some (.int to), some (.int pl), some (.int my), some (.int ls), l6, some (.long dy), none, some (.int od), some (.long lg6), none, some (.long lg24), none, some (.int x38), l15, l16] [] h2 Q from ez_Wp_at tl rfl
            refine w_D (T := T) (n := n) (c := c) (a := a) (J := J) (l := l) (bn := bn) (s0 := s0) (fr := fr) (to := to) (pl := pl) (my := my) (ls := ls) (l6 := l6) (dy := dy) (od := od) (fx := lg6) (st := lg24) (wy := x38) (l15 := l15) (l16 := l16) S2 (by rw [(show ez_I h2 72 = ez_I h 72 from zW_fn F 72 x71_204 (fun _ c => c)), (show ez_I h2 77 = ez_I h 77 from zW_fn F 77 x71_205 (fun _ c => c)), (show ez_I h2 78 = ez_I h 78 from zW_fn F 78 x71_206 (fun _ c => c)), (show ez_I h2 79 = ez_I h 79 from zW_fn F 79 x71_207 (fun _ c => c)), (show ez_I h2 80 = ez_I h 80 from zW_fn F 80 x71_208 (fun _ c => c)), (show ez_I h2 92 = ez_I h 92 from zW_fn F 92 x71_209 (fun _ c => c)), (show ez_I h2 93 = ez_I h 93 from zW_fn F 93 x71_202 (fun _ c => c)), (show ez_I h2 94 = ez_I h 94 from zW_fn F 94 x71_210 (fun _ c => c)), (show ez_I h2 95 = ez_I h 95 from zW_fn F 95 x71_203 (fun _ c => c)), (show ez_I h2 96 = ez_I h 96 from zW_fn F 96 x71_211 (fun _ c => c))]; exact hC) hA (by rw [(show ez_I h2 100 = ez_I h 100 from zW_fn F 100 x71_212 (fun _ c => c)), (show ez_I h2 101 = ez_I h 101 from zW_fn F 101 x71_213 (fun _ c => c)), (show ez_I h2 102 = ez_I h 102 from zW_fn F 102 x71_214 (fun _ c => c)), (show ez_I h2 117 = ez_I h 117 from zW_fn F 117 x71_215 (fun _ c => c)), (show ez_I h2 118 = ez_I h 118 from zW_fn F 118 x71_216 (fun _ c => c))]; exact hF) (by rw [(show ez_I h2 71 56 = ez_I h 71 56 from zW_f F x71_217 (fun c => c)), (show ez_I h2 71 57 = ez_I h 71 57 from zW_f F x71_217 (fun c => c)), (show ez_I h2 71 58 = ez_I h 71 58 from zW_f F x71_217 (fun c => c))]; exact hT) (show mbX (ez_I h2 106) (ez_I h2 108) from ⟨A_f6, hf8⟩) hod hwy hdy (by omega) (by omega) (by omega) hls (by rw [(show ez_I h2 75 = ez_I h 75 from zW_fn F 75 x71_218 (fun _ c => c))]; exact hs) (by rw [(show ez_I h2 71 16 = ez_I h 71 16 from zW_f F x71_217 (fun c => c))]; exact hb) (by rw [(show ez_I h2 75 = ez_I h 75 from zW_fn F 75 x71_218 (fun _ c => c))]; exact hg) (by rw [(show ez_I h2 71 15 = ez_I h 71 15 from zW_f F x71_217 (fun c => c))]; exact hbn) hr (fun h39 F40 k41 k42 k43 k44 k45 => ?_)
            have F46 := zW_tr (zW_mono F x71_219 x71_220 x71_221) (zW_mono F40 x71_222 x71_223 x71_221)
            exact K _ F46 k41 k42 k43 k44 (by have b1 := k45; rw [(show ez_I h2 83 = ez_I h 83 from zW_fn F 83 x71_224 (fun _ c => c)), (show ez_I h2 84 = ez_I h 84 from zW_fn F 84 x71_225 (fun _ c => c)), (show ez_I h2 85 = ez_I h 85 from zW_fn F 85 x71_226 (fun _ c => c)), (show ez_I h2 86 = ez_I h 86 from zW_fn F 86 x71_227 (fun _ c => c)), (show ez_I h2 87 = ez_I h 87 from zW_fn F 87 x71_228 (fun _ c => c)), (show ez_I h2 88 = ez_I h 88 from zW_fn F 88 x71_229 (fun _ c => c)), (show ez_I h2 89 = ez_I h 89 from zW_fn F 89 x71_230 (fun _ c => c)), (show ez_I h2 90 = ez_I h 90 from zW_fn F 90 x71_231 (fun _ c => c)), (show ez_I h2 91 = ez_I h 91 from zW_fn F 91 x71_232 (fun _ c => c))] at b1; exact b1)
        · have c26 : ¬ (0 < x25.toInt) := c26
          refine gw_ld rfl rfl ?_
          refine gw_ld rfl rfl ?_
          refine z_lcmp (fun x47 ex47 => ?_)
          refine z_b1 (fun c48 => ?_) (fun c48 => ?_)
          · have c48 : 0 < x47.toInt := c48
            refine gw_skip _ ?_
            refine gw_ld rfl rfl ?_
            refine gw_ld rfl rfl ?_
            refine z_lcmp (fun x49 ex49 => ?_)
            refine z_b1 (fun c50 => ?_) (fun c50 => ?_)
            · have c50 : 0 < x49.toInt := c50
              refine gw_skip _ ?_
              refine z_C (m := 2) rfl rfl (fun x51 ex51 => ?_)
              refine gw_st rfl rfl rfl ?_
              show ez_gw _ _ _ _ _ _ _ _ [some (.ref 71), some (.int fr), some (.int to), some (.int pl), some (.int my), some (.int ls), l6, some (.long dy), none, some (.int od), some (.long lg6), none, some (.long lg24), none, some (.int x51), l15, l16] _ _ _
              have hwy : x51.toInt = ((bkW T n a J s0.2) : Nat) := by
                unfold bkW
                rw [if_neg (by omega), if_neg (by omega)]; omega
              suffices tl : pw E (d + 2) 44 551 [some (.ref 71), some (.int fr), some (.int to), some (.int pl), some (.int my), some (.int ls), l6, some (.long dy), none, some (.int od), some (.long lg6), none, some (.long lg24), none, some (.int x51), l15, l16] [] h2 Q from ez_Wp_at tl rfl
              refine w_D (T := T) (n := n) (c := c) (a := a) (J := J) (l := l) (bn := bn) (s0 := s0) (fr := fr) (to := to) (pl := pl) (my := my) (ls := ls) (l6 := l6) (dy := dy) (od := od) (fx := lg6) (st := lg24) (wy := x51) (l15 := l15) (l16 := l16) S2 (by rw [(show ez_I h2 72 = ez_I h 72 from zW_fn F 72 x71_204 (fun _ c => c)), (show ez_I h2 77 = ez_I h 77 from zW_fn F 77 x71_205 (fun _ c => c)), (show ez_I h2 78 = ez_I h 78 from zW_fn F 78 x71_206 (fun _ c => c)), (show ez_I h2 79 = ez_I h 79 from zW_fn F 79 x71_207 (fun _ c => c)), (show ez_I h2 80 = ez_I h 80 from zW_fn F 80 x71_208 (fun _ c => c)), (show ez_I h2 92 = ez_I h 92 from zW_fn F 92 x71_209 (fun _ c => c)), (show ez_I h2 93 = ez_I h 93 from zW_fn F 93 x71_202 (fun _ c => c)), (show ez_I h2 94 = ez_I h 94 from zW_fn F 94 x71_210 (fun _ c => c)), (show ez_I h2 95 = ez_I h 95 from zW_fn F 95 x71_203 (fun _ c => c)), (show ez_I h2 96 = ez_I h 96 from zW_fn F 96 x71_211 (fun _ c => c))]; exact hC) hA (by rw [(show ez_I h2 100 = ez_I h 100 from zW_fn F 100 x71_212 (fun _ c => c)), (show ez_I h2 101 = ez_I h 101 from zW_fn F 101 x71_213 (fun _ c => c)), (show ez_I h2 102 = ez_I h 102 from zW_fn F 102 x71_214 (fun _ c => c)), (show ez_I h2 117 = ez_I h 117 from zW_fn F 117 x71_215 (fun _ c => c)), (show ez_I h2 118 = ez_I h 118 from zW_fn F 118 x71_216 (fun _ c => c))]; exact hF) (by rw [(show ez_I h2 71 56 = ez_I h 71 56 from zW_f F x71_217 (fun c => c)), (show ez_I h2 71 57 = ez_I h 71 57 from zW_f F x71_217 (fun c => c)), (show ez_I h2 71 58 = ez_I h 71 58 from zW_f F x71_217 (fun c => c))]; exact hT) (show mbX (ez_I h2 106) (ez_I h2 108) from ⟨A_f6, hf8⟩) hod hwy hdy (by omega) (by omega) (by omega) hls (by rw [(show ez_I h2 75 = ez_I h 75 from zW_fn F 75 x71_218 (fun _ c => c))]; exact hs) (by rw [(show ez_I h2 71 16 = ez_I h 71 16 from zW_f F x71_217 (fun c => c))]; exact hb) (by rw [(show ez_I h2 75 = ez_I h 75 from zW_fn F 75 x71_218 (fun _ c => c))]; exact hg) (by rw [(show ez_I h2 71 15 = ez_I h 71 15 from zW_f F x71_217 (fun c => c))]; exact hbn) hr (fun h52 F53 k54 k55 k56 k57 k58 => ?_)
              have F59 := zW_tr (zW_mono F x71_219 x71_220 x71_221) (zW_mono F53 x71_222 x71_223 x71_221)
              exact K _ F59 k54 k55 k56 k57 (by have b1 := k58; rw [(show ez_I h2 83 = ez_I h 83 from zW_fn F 83 x71_224 (fun _ c => c)), (show ez_I h2 84 = ez_I h 84 from zW_fn F 84 x71_225 (fun _ c => c)), (show ez_I h2 85 = ez_I h 85 from zW_fn F 85 x71_226 (fun _ c => c)), (show ez_I h2 86 = ez_I h 86 from zW_fn F 86 x71_227 (fun _ c => c)), (show ez_I h2 87 = ez_I h 87 from zW_fn F 87 x71_228 (fun _ c => c)), (show ez_I h2 88 = ez_I h 88 from zW_fn F 88 x71_229 (fun _ c => c)), (show ez_I h2 89 = ez_I h 89 from zW_fn F 89 x71_230 (fun _ c => c)), (show ez_I h2 90 = ez_I h 90 from zW_fn F 90 x71_231 (fun _ c => c)), (show ez_I h2 91 = ez_I h 91 from zW_fn F 91 x71_232 (fun _ c => c))] at b1; exact b1)
            · have c50 : ¬ (0 < x49.toInt) := c50
              refine z_C (m := 1) rfl rfl (fun x60 ex60 => ?_)
              refine z_go ?_
              refine gw_skip _ ?_
              refine gw_st rfl rfl rfl ?_
              show ez_gw _ _ _ _ _ _ _ _ [some (.ref 71), some (.int fr), some (.int to), some (.int pl), some (.int my), some (.int ls), l6, some (.long dy), none, some (.int od), some (.long lg6), none, some (.long lg24), none, some (.int x60), l15, l16] _ _ _
              have hwy : x60.toInt = ((bkW T n a J s0.2) : Nat) := by
                unfold bkW
                rw [if_neg (by omega), if_pos (by omega)]; omega
              suffices tl : pw E (d + 2) 44 551 [some (.ref 71), some (.int fr), some (.int to), some (.int pl), some (.int my), some (.int ls), l6, some (.long dy), none, some (.int od), some (.long lg6), none, some (.long lg24), none, some (.int x60), l15, l16] [] h2 Q from ez_Wp_at tl rfl
              refine w_D (T := T) (n := n) (c := c) (a := a) (J := J) (l := l) (bn := bn) (s0 := s0) (fr := fr) (to := to) (pl := pl) (my := my) (ls := ls) (l6 := l6) (dy := dy) (od := od) (fx := lg6) (st := lg24) (wy := x60) (l15 := l15) (l16 := l16) S2 (by rw [(show ez_I h2 72 = ez_I h 72 from zW_fn F 72 x71_204 (fun _ c => c)), (show ez_I h2 77 = ez_I h 77 from zW_fn F 77 x71_205 (fun _ c => c)), (show ez_I h2 78 = ez_I h 78 from zW_fn F 78 x71_206 (fun _ c => c)), (show ez_I h2 79 = ez_I h 79 from zW_fn F 79 x71_207 (fun _ c => c)), (show ez_I h2 80 = ez_I h 80 from zW_fn F 80 x71_208 (fun _ c => c)), (show ez_I h2 92 = ez_I h 92 from zW_fn F 92 x71_209 (fun _ c => c)), (show ez_I h2 93 = ez_I h 93 from zW_fn F 93 x71_202 (fun _ c => c)), (show ez_I h2 94 = ez_I h 94 from zW_fn F 94 x71_210 (fun _ c => c)), (show ez_I h2 95 = ez_I h 95 from zW_fn F 95 x71_203 (fun _ c => c)), (show ez_I h2 96 = ez_I h 96 from zW_fn F 96 x71_211 (fun _ c => c))]; exact hC) hA (by rw [(show ez_I h2 100 = ez_I h 100 from zW_fn F 100 x71_212 (fun _ c => c)), (show ez_I h2 101 = ez_I h 101 from zW_fn F 101 x71_213 (fun _ c => c)), (show ez_I h2 102 = ez_I h 102 from zW_fn F 102 x71_214 (fun _ c => c)), (show ez_I h2 117 = ez_I h 117 from zW_fn F 117 x71_215 (fun _ c => c)), (show ez_I h2 118 = ez_I h 118 from zW_fn F 118 x71_216 (fun _ c => c))]; exact hF) (by rw [(show ez_I h2 71 56 = ez_I h 71 56 from zW_f F x71_217 (fun c => c)), (show ez_I h2 71 57 = ez_I h 71 57 from zW_f F x71_217 (fun c => c)), (show ez_I h2 71 58 = ez_I h 71 58 from zW_f F x71_217 (fun c => c))]; exact hT) (show mbX (ez_I h2 106) (ez_I h2 108) from ⟨A_f6, hf8⟩) hod hwy hdy (by omega) (by omega) (by omega) hls (by rw [(show ez_I h2 75 = ez_I h 75 from zW_fn F 75 x71_218 (fun _ c => c))]; exact hs) (by rw [(show ez_I h2 71 16 = ez_I h 71 16 from zW_f F x71_217 (fun c => c))]; exact hb) (by rw [(show ez_I h2 75 = ez_I h 75 from zW_fn F 75 x71_218 (fun _ c => c))]; exact hg) (by rw [(show ez_I h2 71 15 = ez_I h 71 15 from zW_f F x71_217 (fun c => c))]; exact hbn) hr (fun h61 F62 k63 k64 k65 k66 k67 => ?_)
              have F68 := zW_tr (zW_mono F x71_219 x71_220 x71_221) (zW_mono F62 x71_222 x71_223 x71_221)
              exact K _ F68 k63 k64 k65 k66 (by have b1 := k67; rw [(show ez_I h2 83 = ez_I h 83 from zW_fn F 83 x71_224 (fun _ c => c)), (show ez_I h2 84 = ez_I h 84 from zW_fn F 84 x71_225 (fun _ c => c)), (show ez_I h2 85 = ez_I h 85 from zW_fn F 85 x71_226 (fun _ c => c)), (show ez_I h2 86 = ez_I h 86 from zW_fn F 86 x71_227 (fun _ c => c)), (show ez_I h2 87 = ez_I h 87 from zW_fn F 87 x71_228 (fun _ c => c)), (show ez_I h2 88 = ez_I h 88 from zW_fn F 88 x71_229 (fun _ c => c)), (show ez_I h2 89 = ez_I h 89 from zW_fn F 89 x71_230 (fun _ c => c)), (show ez_I h2 90 = ez_I h 90 from zW_fn F 90 x71_231 (fun _ c => c)), (show ez_I h2 91 = ez_I h 91 from zW_fn F 91 x71_232 (fun _ c => c))] at b1; exact b1)
          · have c48 : ¬ (0 < x47.toInt) := c48
            refine z_C (m := 0) rfl rfl (fun x69 ex69 => ?_)
            refine z_go ?_
            refine gw_skip _ ?_
            refine gw_st rfl rfl rfl ?_
            show ez_gw _ _ _ _ _ _ _ _ [some (.ref 71), some (.int fr), some (.int to), some (.int pl), some (.int my), some (.int ls), l6, some (.long dy), none, some (.int od), some (.long lg6), none, some (.long lg24), none, some (.int x69), l15, l16] _ _ _
            have hwy : x69.toInt = ((bkW T n a J s0.2) : Nat) := by
              unfold bkW
              rw [if_pos (by omega)]; omega
            suffices tl : pw E (d + 2) 44 551 [some (.ref 71), some (.int fr), some (.int to), some (.int pl), some (.int my), some (.int ls), l6, some (.long dy), none, some (.int od), some (.long lg6), none, some (.long lg24), none, some (.int x69), l15, l16] [] h2 Q from ez_Wp_at tl rfl
            refine w_D (T := T) (n := n) (c := c) (a := a) (J := J) (l := l) (bn := bn) (s0 := s0) (fr := fr) (to := to) (pl := pl) (my := my) (ls := ls) (l6 := l6) (dy := dy) (od := od) (fx := lg6) (st := lg24) (wy := x69) (l15 := l15) (l16 := l16) S2 (by rw [(show ez_I h2 72 = ez_I h 72 from zW_fn F 72 x71_204 (fun _ c => c)), (show ez_I h2 77 = ez_I h 77 from zW_fn F 77 x71_205 (fun _ c => c)), (show ez_I h2 78 = ez_I h 78 from zW_fn F 78 x71_206 (fun _ c => c)), (show ez_I h2 79 = ez_I h 79 from zW_fn F 79 x71_207 (fun _ c => c)), (show ez_I h2 80 = ez_I h 80 from zW_fn F 80 x71_208 (fun _ c => c)), (show ez_I h2 92 = ez_I h 92 from zW_fn F 92 x71_209 (fun _ c => c)), (show ez_I h2 93 = ez_I h 93 from zW_fn F 93 x71_202 (fun _ c => c)), (show ez_I h2 94 = ez_I h 94 from zW_fn F 94 x71_210 (fun _ c => c)), (show ez_I h2 95 = ez_I h 95 from zW_fn F 95 x71_203 (fun _ c => c)), (show ez_I h2 96 = ez_I h 96 from zW_fn F 96 x71_211 (fun _ c => c))]; exact hC) hA (by rw [(show ez_I h2 100 = ez_I h 100 from zW_fn F 100 x71_212 (fun _ c => c)), (show ez_I h2 101 = ez_I h 101 from zW_fn F 101 x71_213 (fun _ c => c)), (show ez_I h2 102 = ez_I h 102 from zW_fn F 102 x71_214 (fun _ c => c)), (show ez_I h2 117 = ez_I h 117 from zW_fn F 117 x71_215 (fun _ c => c)), (show ez_I h2 118 = ez_I h 118 from zW_fn F 118 x71_216 (fun _ c => c))]; exact hF) (by rw [(show ez_I h2 71 56 = ez_I h 71 56 from zW_f F x71_217 (fun c => c)), (show ez_I h2 71 57 = ez_I h 71 57 from zW_f F x71_217 (fun c => c)), (show ez_I h2 71 58 = ez_I h 71 58 from zW_f F x71_217 (fun c => c))]; exact hT) (show mbX (ez_I h2 106) (ez_I h2 108) from ⟨A_f6, hf8⟩) hod hwy hdy (by omega) (by omega) (by omega) hls (by rw [(show ez_I h2 75 = ez_I h 75 from zW_fn F 75 x71_218 (fun _ c => c))]; exact hs) (by rw [(show ez_I h2 71 16 = ez_I h 71 16 from zW_f F x71_217 (fun c => c))]; exact hb) (by rw [(show ez_I h2 75 = ez_I h 75 from zW_fn F 75 x71_218 (fun _ c => c))]; exact hg) (by rw [(show ez_I h2 71 15 = ez_I h 71 15 from zW_f F x71_217 (fun c => c))]; exact hbn) hr (fun h70 F71 k72 k73 k74 k75 k76 => ?_)
            have F77 := zW_tr (zW_mono F x71_219 x71_220 x71_221) (zW_mono F71 x71_222 x71_223 x71_221)
            exact K _ F77 k72 k73 k74 k75 (by have b1 := k76; rw [(show ez_I h2 83 = ez_I h 83 from zW_fn F 83 x71_224 (fun _ c => c)), (show ez_I h2 84 = ez_I h 84 from zW_fn F 84 x71_225 (fun _ c => c)), (show ez_I h2 85 = ez_I h 85 from zW_fn F 85 x71_226 (fun _ c => c)), (show ez_I h2 86 = ez_I h 86 from zW_fn F 86 x71_227 (fun _ c => c)), (show ez_I h2 87 = ez_I h 87 from zW_fn F 87 x71_228 (fun _ c => c)), (show ez_I h2 88 = ez_I h 88 from zW_fn F 88 x71_229 (fun _ c => c)), (show ez_I h2 89 = ez_I h 89 from zW_fn F 89 x71_230 (fun _ c => c)), (show ez_I h2 90 = ez_I h 90 from zW_fn F 90 x71_231 (fun _ c => c)), (show ez_I h2 91 = ez_I h 91 from zW_fn F 91 x71_232 (fun _ c => c))] at b1; exact b1)
      · have c2 : ¬ (x1.toInt ≤ k.toInt) := c2
        refine gw_ld rfl rfl ?_
        refine z_gR (q := 108) (zT S2 (by decide) rfl) (zRf S2 (by decide) (by decide) rfl) (by decide) ?_
        refine gw_ld rfl rfl ?_
        refine z_C (m := 5) rfl rfl (fun x78 ex78 => ?_)
        refine z_is (n := 30) (zT S2 (by decide) rfl) (zN S2 (by decide) rfl) (by omega) (fun h79 e80 => ?_)
        have S81 := zSh_set S2 e80
        have F82 := zW_setA F e80 (by decide)
        have A83 : cpN (ez_I h79 106) fxL 288 := by rw [zI_fn e80 106 (by decide)]; exact A_f6
        have A84 : cpN (ez_I h79 108) fxD (k.toInt.toNat + 1) := cpN_s A_f8 e80 (by omega) (by show x78.toInt = ((if k.toInt.toNat < 32 then 5 else 0 : Nat) : Int); rw [if_pos (by omega)]; omega) rfl
        refine z_inc rfl (by rw [show (1 : Int32).toInt = 1 from rfl]; omega) (fun x85 ex85 => ?_)
        rw [show (1 : Int32).toInt = 1 from rfl] at ex85
        show ez_gw _ _ _ _ _ _ _ _ [some (.ref 71), some (.int fr), some (.int to), some (.int pl), some (.int my), some (.int ls), l6, some (.long dy), none, some (.int od), some (.int x85), l11, l12, l13, l14, l15, l16] _ _ _
        refine z_go ?_
        exact ih h79 x85 F82 (by omega) (A83) ((by rw [show x85.toInt.toNat = k.toInt.toNat + 1 by omega]; exact A84)) (by omega)
set_option maxRecDepth 4000 in
set_option maxHeartbeats 2000000 in
theorem w_C2_L0 {E : Nat → Nat × (Nat → Int32)} {d : Nat} {Q : ez_Q} {h : ez_H} {fr : Int32} {to : Int32} {pl : Int32} {my : Int32} {ls : Int32} {l6 : Option Value} {dy : Int64} {od : Int32} {l10 : Option Value} {l11 : Option Value} {l12 : Option Value} {l13 : Option Value} {l14 : Option Value} {l15 : Option Value} {l16 : Option Value} (S : zSh h) {T : Nat → Int} {n c a J : Nat} {l bn : Nat} {s0 : Nat × Nat} (hC : mbC (ez_I h 72) (ez_I h 77) (ez_I h 78) (ez_I h 79) (ez_I h 80) (ez_I h 92) (ez_I h 93) (ez_I h 94) (ez_I h 95) (ez_I h 96) T n c) (hA : mbA fr to pl my T n c a J) (hF : mbF (ez_I h 100) (ez_I h 101) (ez_I h 102) (ez_I h 117) (ez_I h 118) T n a J) (hT : mbT (ez_I h 71 56) (ez_I h 71 57) (ez_I h 71 58) T n a J) (hod : od.toInt = ((bkO T n a J) : Nat)) (hdy : dy.toInt = ((bkDY T n a J) : Nat)) (c7 : ctI (ez_I h 97) (bkC T n a J) 286) (c8 : ctI (ez_I h 98) (bkD T n a J) 30) (hls : ls.toInt = (l : Nat) ∧ l ≤ 1) (hs : mS (ez_I h 75) s0) (hb : (ez_I h 71 16).toInt = (s0.2 : Nat)) (hg : aR (ez_I h 75) 8000 (-128) 127) (hbn : (ez_I h 71 15).toInt = (bn : Nat) ∧ bn ≤ 9) (hr : s0.2 + 50 + 8 * (bkY T n a J) ≤ 48800) (K : ∀ h2, zW (fun q k => q = 71 ∧ k = 15 ∨ q = 71 ∧ k = 16) (fun q => q = 75 ∨ 83 ≤ q ∧ q ≤ 91 ∨ 103 ≤ q ∧ q ≤ 109 ∨ q = 115 ∨ q = 116) (fun _ => False) h h2 → (bkS T n a J l s0).2 ≤ s0.2 + 42 + 8 * (bkY T n a J) → mst (ez_I h2 75) (ez_I h2 71 16).toInt (bkS T n a J l s0) → aR (ez_I h2 75) 8000 (-128) 127 → (ez_I h2 71 15).toInt = (bn : Int) + 1 → mbk (ez_I h2 83) (ez_I h2 84) (ez_I h2 85) (ez_I h2 86) (ez_I h2 87) (ez_I h2 88) (ez_I h2 89) (ez_I h2 90) (ez_I h2 91) (ez_I h 83) (ez_I h 84) (ez_I h 85) (ez_I h 86) (ez_I h 87) (ez_I h 88) (ez_I h 89) (ez_I h 90) (ez_I h 91) T n a J s0.2 bn → Q (.inl none) h2) : ∀ N : Nat, (∀ (h2 : ez_H) (k : Int32) , zW (fun _ _ => False) (fun q => q = 106 ∨ q = 108) (fun _ => False) h h2 → (0 ≤ k.toInt ∧ k.toInt ≤ 288) → (cpN (ez_I h2 106) fxL k.toInt.toNat) → (1000 - k.toInt) < (N : Int) → pw E (d + 2) 44 377 [some (.ref 71), some (.int fr), some (.int to), some (.int pl), some (.int my), some (.int ls), l6, some (.long dy), none, some (.int od), some (.int k), l11, l12, l13, l14, l15, l16] [] h2 Q) := by
  intro N
  induction N with
  | zero => exact fun h2 k  F hinv A_f6 hm => absurd hm (by have w_k := z_rng k; have gfr := z_rng fr; have gto := z_rng to; have gpl := z_rng pl; have gmy := z_rng my; have gls := z_rng ls; have god := z_rng od; omega)
  | succ N ih =>
    refine fun h2 k  F hinv A_f6 hm => ?_
    · skip
      have w_k := z_rng k
      have gfr := z_rng fr
      have gto := z_rng to
      have gpl := z_rng pl
      have gmy := z_rng my
      have gls := z_rng ls
      have god := z_rng od
      have S2 := zW_sh F S
      apply ez_Wp_in
      show ez_gw _ _ _ _ _ _ (cz_44) _ _ _ _ _
      refine gw_skip _ ?_
      refine gw_ld rfl rfl ?_
      refine z_C (m := 288) rfl rfl (fun x1 ex1 => ?_)
      refine z_b2 (fun c2 => ?_) (fun c2 => ?_)
      · have c2 : x1.toInt ≤ k.toInt := c2
        refine gw_skip _ ?_
        refine z_C (m := 0) rfl rfl (fun x3 ex3 => ?_)
        refine gw_st rfl rfl rfl ?_
        show ez_gw _ _ _ _ _ _ _ _ [some (.ref 71), some (.int fr), some (.int to), some (.int pl), some (.int my), some (.int ls), l6, some (.long dy), none, some (.int od), some (.int x3), l11, l12, l13, l14, l15, l16] _ _ _
        exact ez_Wp_at ((w_C2_L1 (fr := fr) (to := to) (pl := pl) (my := my) (ls := ls) (l6 := l6) (dy := dy) (od := od) (l10 := l10) (l11 := l11) (l12 := l12) (l13 := l13) (l14 := l14) (l15 := l15) (l16 := l16) S hC hA hF hT hod hdy c7 c8 hls hs hb hg hbn hr K (((1000 - x3.toInt)).toNat + 1)) h2 x3 F (by omega) ((by have b1 := A_f6; rw [show k.toInt.toNat = 288 by omega] at b1; exact b1)) ((fun j hj => by omega)) (by omega)) rfl
      · have c2 : ¬ (x1.toInt ≤ k.toInt) := c2
        refine gw_ld rfl rfl ?_
        refine z_gR (q := 106) (zT S2 (by decide) rfl) (zRf S2 (by decide) (by decide) rfl) (by decide) ?_
        refine gw_ld rfl rfl ?_
        refine gw_ld rfl rfl ?_
        refine z_C (m := 144) rfl rfl (fun x4 ex4 => ?_)
        refine z_b2 (fun c5 => ?_) (fun c5 => ?_)
        · have c5 : x4.toInt ≤ k.toInt := c5
          refine gw_skip _ ?_
          refine gw_ld rfl rfl ?_
          refine z_C (m := 256) rfl rfl (fun x6 ex6 => ?_)
          refine z_b2 (fun c7 => ?_) (fun c7 => ?_)
          · have c7 : x6.toInt ≤ k.toInt := c7
            refine gw_skip _ ?_
            refine gw_ld rfl rfl ?_
            refine z_C (m := 280) rfl rfl (fun x8 ex8 => ?_)
            refine z_b2 (fun c9 => ?_) (fun c9 => ?_)
            · have c9 : x8.toInt ≤ k.toInt := c9
              refine gw_skip _ ?_
              refine z_C (m := 8) rfl rfl (fun x10 ex10 => ?_)
              refine z_is (n := 288) (zT S2 (by decide) rfl) (zN S2 (by decide) rfl) (by omega) (fun h11 e12 => ?_)
              have S13 := zSh_set S2 e12
              have F14 := zW_setA F e12 (by decide)
              have A15 : cpN (ez_I h11 106) fxL (k.toInt.toNat + 1) := cpN_s A_f6 e12 (by omega) (by show x10.toInt = ((if k.toInt.toNat < 144 then 8 else if k.toInt.toNat < 256 then 9 else if k.toInt.toNat < 280 then 7 else 8 : Nat) : Int); rw [if_neg (by omega), if_neg (by omega), if_neg (by omega)]; omega) rfl
              refine z_inc rfl (by rw [show (1 : Int32).toInt = 1 from rfl]; omega) (fun x16 ex16 => ?_)
              rw [show (1 : Int32).toInt = 1 from rfl] at ex16
              show ez_gw _ _ _ _ _ _ _ _ [some (.ref 71), some (.int fr), some (.int to), some (.int pl), some (.int my), some (.int ls), l6, some (.long dy), none, some (.int od), some (.int x16), l11, l12, l13, l14, l15, l16] _ _ _
              refine z_go ?_
              exact ih h11 x16 F14 (by omega) ((by rw [show x16.toInt.toNat = k.toInt.toNat + 1 by omega]; exact A15)) (by omega)
            · have c9 : ¬ (x8.toInt ≤ k.toInt) := c9
              refine z_C (m := 7) rfl rfl (fun x17 ex17 => ?_)
              refine z_go ?_
              refine gw_skip _ ?_
              refine z_is (n := 288) (zT S2 (by decide) rfl) (zN S2 (by decide) rfl) (by omega) (fun h18 e19 => ?_)
              have S20 := zSh_set S2 e19
              have F21 := zW_setA F e19 (by decide)
              have A22 : cpN (ez_I h18 106) fxL (k.toInt.toNat + 1) := cpN_s A_f6 e19 (by omega) (by show x17.toInt = ((if k.toInt.toNat < 144 then 8 else if k.toInt.toNat < 256 then 9 else if k.toInt.toNat < 280 then 7 else 8 : Nat) : Int); rw [if_neg (by omega), if_neg (by omega), if_pos (by omega)]; omega) rfl
              refine z_inc rfl (by rw [show (1 : Int32).toInt = 1 from rfl]; omega) (fun x23 ex23 => ?_)
              rw [show (1 : Int32).toInt = 1 from rfl] at ex23
              show ez_gw _ _ _ _ _ _ _ _ [some (.ref 71), some (.int fr), some (.int to), some (.int pl), some (.int my), some (.int ls), l6, some (.long dy), none, some (.int od), some (.int x23), l11, l12, l13, l14, l15, l16] _ _ _
              refine z_go ?_
              exact ih h18 x23 F21 (by omega) ((by rw [show x23.toInt.toNat = k.toInt.toNat + 1 by omega]; exact A22)) (by omega)
          · have c7 : ¬ (x6.toInt ≤ k.toInt) := c7
            refine z_C (m := 9) rfl rfl (fun x24 ex24 => ?_)
            refine z_go ?_
            refine gw_skip _ ?_
            refine z_is (n := 288) (zT S2 (by decide) rfl) (zN S2 (by decide) rfl) (by omega) (fun h25 e26 => ?_)
            have S27 := zSh_set S2 e26
            have F28 := zW_setA F e26 (by decide)
            have A29 : cpN (ez_I h25 106) fxL (k.toInt.toNat + 1) := cpN_s A_f6 e26 (by omega) (by show x24.toInt = ((if k.toInt.toNat < 144 then 8 else if k.toInt.toNat < 256 then 9 else if k.toInt.toNat < 280 then 7 else 8 : Nat) : Int); rw [if_neg (by omega), if_pos (by omega)]; omega) rfl
            refine z_inc rfl (by rw [show (1 : Int32).toInt = 1 from rfl]; omega) (fun x30 ex30 => ?_)
            rw [show (1 : Int32).toInt = 1 from rfl] at ex30
            show ez_gw _ _ _ _ _ _ _ _ [some (.ref 71), some (.int fr), some (.int to), some (.int pl), some (.int my), some (.int ls), l6, some (.long dy), none, some (.int od), some (.int x30), l11, l12, l13, l14, l15, l16] _ _ _
            refine z_go ?_
            exact ih h25 x30 F28 (by omega) ((by rw [show x30.toInt.toNat = k.toInt.toNat + 1 by omega]; exact A29)) (by omega)
        · have c5 : ¬ (x4.toInt ≤ k.toInt) := c5
          refine z_C (m := 8) rfl rfl (fun x31 ex31 => ?_)
          refine z_go ?_
          refine gw_skip _ ?_
          refine z_is (n := 288) (zT S2 (by decide) rfl) (zN S2 (by decide) rfl) (by omega) (fun h32 e33 => ?_)
          have S34 := zSh_set S2 e33
          have F35 := zW_setA F e33 (by decide)
          have A36 : cpN (ez_I h32 106) fxL (k.toInt.toNat + 1) := cpN_s A_f6 e33 (by omega) (by show x31.toInt = ((if k.toInt.toNat < 144 then 8 else if k.toInt.toNat < 256 then 9 else if k.toInt.toNat < 280 then 7 else 8 : Nat) : Int); rw [if_pos (by omega)]; omega) rfl
          refine z_inc rfl (by rw [show (1 : Int32).toInt = 1 from rfl]; omega) (fun x37 ex37 => ?_)
          rw [show (1 : Int32).toInt = 1 from rfl] at ex37
          show ez_gw _ _ _ _ _ _ _ _ [some (.ref 71), some (.int fr), some (.int to), some (.int pl), some (.int my), some (.int ls), l6, some (.long dy), none, some (.int od), some (.int x37), l11, l12, l13, l14, l15, l16] _ _ _
          refine z_go ?_
          exact ih h32 x37 F35 (by omega) ((by rw [show x37.toInt.toNat = k.toInt.toNat + 1 by omega]; exact A36)) (by omega)
set_option maxRecDepth 4000 in
set_option maxHeartbeats 2000000 in
theorem w_C2 {E : Nat → Nat × (Nat → Int32)} {d : Nat} {Q : ez_Q} {h : ez_H} {fr : Int32} {to : Int32} {pl : Int32} {my : Int32} {ls : Int32} {l6 : Option Value} {dy : Int64} {od : Int32} {l10 : Option Value} {l11 : Option Value} {l12 : Option Value} {l13 : Option Value} {l14 : Option Value} {l15 : Option Value} {l16 : Option Value} (S : zSh h) {T : Nat → Int} {n c a J : Nat} {l bn : Nat} {s0 : Nat × Nat} (hC : mbC (ez_I h 72) (ez_I h 77) (ez_I h 78) (ez_I h 79) (ez_I h 80) (ez_I h 92) (ez_I h 93) (ez_I h 94) (ez_I h 95) (ez_I h 96) T n c) (hA : mbA fr to pl my T n c a J) (hF : mbF (ez_I h 100) (ez_I h 101) (ez_I h 102) (ez_I h 117) (ez_I h 118) T n a J) (hT : mbT (ez_I h 71 56) (ez_I h 71 57) (ez_I h 71 58) T n a J) (hod : od.toInt = ((bkO T n a J) : Nat)) (hdy : dy.toInt = ((bkDY T n a J) : Nat)) (c7 : ctI (ez_I h 97) (bkC T n a J) 286) (c8 : ctI (ez_I h 98) (bkD T n a J) 30) (hls : ls.toInt = (l : Nat) ∧ l ≤ 1) (hs : mS (ez_I h 75) s0) (hb : (ez_I h 71 16).toInt = (s0.2 : Nat)) (hg : aR (ez_I h 75) 8000 (-128) 127) (hbn : (ez_I h 71 15).toInt = (bn : Nat) ∧ bn ≤ 9) (hr : s0.2 + 50 + 8 * (bkY T n a J) ≤ 48800) (K : ∀ h2, zW (fun q k => q = 71 ∧ k = 15 ∨ q = 71 ∧ k = 16) (fun q => q = 75 ∨ 83 ≤ q ∧ q ≤ 91 ∨ 103 ≤ q ∧ q ≤ 109 ∨ q = 115 ∨ q = 116) (fun _ => False) h h2 → (bkS T n a J l s0).2 ≤ s0.2 + 42 + 8 * (bkY T n a J) → mst (ez_I h2 75) (ez_I h2 71 16).toInt (bkS T n a J l s0) → aR (ez_I h2 75) 8000 (-128) 127 → (ez_I h2 71 15).toInt = (bn : Int) + 1 → mbk (ez_I h2 83) (ez_I h2 84) (ez_I h2 85) (ez_I h2 86) (ez_I h2 87) (ez_I h2 88) (ez_I h2 89) (ez_I h2 90) (ez_I h2 91) (ez_I h 83) (ez_I h 84) (ez_I h 85) (ez_I h 86) (ez_I h 87) (ez_I h 88) (ez_I h 89) (ez_I h 90) (ez_I h 91) T n a J s0.2 bn → Q (.inl none) h2) : pw E (d + 2) 44 374 [some (.ref 71), some (.int fr), some (.int to), some (.int pl), some (.int my), some (.int ls), l6, some (.long dy), none, some (.int od), l10, l11, l12, l13, l14, l15, l16] [] h Q := by
  have gfr := z_rng fr
  have gto := z_rng to
  have gpl := z_rng pl
  have gmy := z_rng my
  have gls := z_rng ls
  have god := z_rng od
  have F := zW_refl (fun _ _ => False) (fun q => q = 106 ∨ q = 108) (fun _ => False) h
  apply ez_Wp_in
  show ez_gw _ _ _ _ _ _ (cz_44) _ _ _ _ _
  refine gw_skip _ ?_
  refine z_C (m := 0) rfl rfl (fun x1 ex1 => ?_)
  refine gw_st rfl rfl rfl ?_
  show ez_gw _ _ _ _ _ _ _ _ [some (.ref 71), some (.int fr), some (.int to), some (.int pl), some (.int my), some (.int ls), l6, some (.long dy), none, some (.int od), some (.int x1), l11, l12, l13, l14, l15, l16] _ _ _
  exact ez_Wp_at ((w_C2_L0 (fr := fr) (to := to) (pl := pl) (my := my) (ls := ls) (l6 := l6) (dy := dy) (od := od) (l10 := l10) (l11 := l11) (l12 := l12) (l13 := l13) (l14 := l14) (l15 := l15) (l16 := l16) S hC hA hF hT hod hdy c7 c8 hls hs hb hg hbn hr K (((1000 - x1.toInt)).toNat + 1)) h x1 F (by omega) ((fun j hj => by omega)) (by omega)) rfl
