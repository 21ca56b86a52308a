section
/-! PRINTED by wip/pack: the model writes a block: costs -/
theorem x71_233 : ∀ q k : Nat, (False) → (q = 71 ∧ k = 15 ∨ q = 71 ∧ k = 16) := fun q k hk => hk.elim
theorem x71_234 : ∀ q : Nat, (False) → (q = 75 ∨ 83 ≤ q ∧ q ≤ 91 ∨ 103 ≤ q ∧ q ≤ 109 ∨ q = 115 ∨ q = 116) := fun q hk => hk.elim
theorem x71_235 : ∀ q : Nat, (False) → (False) := fun q hk => hk.elim
theorem x71_236 : ∀ q k : Nat, (q = 71 ∧ k = 15 ∨ q = 71 ∧ k = 16) → (q = 71 ∧ k = 15 ∨ q = 71 ∧ k = 16) := fun q k hk => hk.elim (fun g => (.inl g)) (fun hk => (.inr hk))
theorem x71_237 : ∀ q : Nat, (q = 75 ∨ 83 ≤ q ∧ q ≤ 91 ∨ 103 ≤ q ∧ q ≤ 109 ∨ q = 115 ∨ q = 116) → (q = 75 ∨ 83 ≤ q ∧ q ≤ 91 ∨ 103 ≤ q ∧ q ≤ 109 ∨ q = 115 ∨ q = 116) := fun q hk => hk.elim (fun g => (.inl g)) (fun hk => hk.elim (fun g => (.inr (.inl g))) (fun hk => hk.elim (fun g => (.inr (.inr (.inl g)))) (fun hk => hk.elim (fun g => (.inr (.inr (.inr (.inl g))))) (fun hk => (.inr (.inr (.inr (.inr hk))))))))
set_option maxRecDepth 4000 in
set_option maxHeartbeats 2000000 in
theorem w_C1_L1 {E : Nat → Nat × (Nat → Int32)} {d : Nat} {Q : ez_Q} {h : ez_H} {fr : Int32} {to : Int32} {pl : Int32} {my : Int32} {ls : Int32} {nn6 : Int32} {dy : Int64} {l9 : Option Value} {l10 : Option Value} {l11 : Option Value} {l12 : Option Value} {l13 : Option Value} {l14 : Option Value} {l15 : Option Value} {l16 : Option Value} (S : zSh h) {T : Nat → Int} {n c a J : Nat} {l bn : Nat} {s0 : Nat × Nat} (hC : mbC (ez_I h 72) (ez_I h 77) (ez_I h 78) (ez_I h 79) (ez_I h 80) (ez_I h 92) (ez_I h 93) (ez_I h 94) (ez_I h 95) (ez_I h 96) T n c) (hA : mbA fr to pl my T n c a J) (hF : mbF (ez_I h 100) (ez_I h 101) (ez_I h 102) (ez_I h 117) (ez_I h 118) T n a J) (hT : mbT (ez_I h 71 56) (ez_I h 71 57) (ez_I h 71 58) T n a J) (hdy : dy.toInt = ((sN (fun i => (bkC T n a J) i * ((bkL T n a J) i + exL i)) 286 + sN (fun i => (bkD T n a J) i * (LNf (bkD T n a J) 30 15 i + DEf i)) 30) : Nat)) (tc : ctI (ez_I h 99) (tC (rowF (bkL T n a J) (bkE T n a J)) (rowM (bkL T n a J) (bkE T n a J)) (bkR T n a J)) 19) (c7 : ctI (ez_I h 97) (bkC T n a J) 286) (c8 : ctI (ez_I h 98) (bkD T n a J) 30) (hls : ls.toInt = (l : Nat) ∧ l ≤ 1) (hs : mS (ez_I h 75) s0) (hb : (ez_I h 71 16).toInt = (s0.2 : Nat)) (hg : aR (ez_I h 75) 8000 (-128) 127) (hbn : (ez_I h 71 15).toInt = (bn : Nat) ∧ bn ≤ 9) (hr : s0.2 + 50 + 8 * (bkY T n a J) ≤ 48800) (K : ∀ h2, zW (fun q k => q = 71 ∧ k = 15 ∨ q = 71 ∧ k = 16) (fun q => q = 75 ∨ 83 ≤ q ∧ q ≤ 91 ∨ 103 ≤ q ∧ q ≤ 109 ∨ q = 115 ∨ q = 116) (fun _ => False) h h2 → (bkS T n a J l s0).2 ≤ s0.2 + 42 + 8 * (bkY T n a J) → mst (ez_I h2 75) (ez_I h2 71 16).toInt (bkS T n a J l s0) → aR (ez_I h2 75) 8000 (-128) 127 → (ez_I h2 71 15).toInt = (bn : Int) + 1 → mbk (ez_I h2 83) (ez_I h2 84) (ez_I h2 85) (ez_I h2 86) (ez_I h2 87) (ez_I h2 88) (ez_I h2 89) (ez_I h2 90) (ez_I h2 91) (ez_I h 83) (ez_I h 84) (ez_I h 85) (ez_I h 86) (ez_I h 87) (ez_I h 88) (ez_I h 89) (ez_I h 90) (ez_I h 91) T n a J s0.2 bn → Q (.inl none) h2) : ∀ N : Nat, (∀ (h2 : ez_H) (dz : Int64) (od : Int32) (k : Int32) , zW (fun _ _ => False) (fun _ => False) (fun _ => False) h h2 → (0 ≤ k.toInt ∧ k.toInt ≤ 19 ∧ od.toInt = ((bkO T n a J) : Nat) ∧ dz.toInt = (((sN (fun i => (bkC T n a J) i * ((bkL T n a J) i + exL i)) 286 + sN (fun i => (bkD T n a J) i * (LNf (bkD T n a J) 30 15 i + DEf i)) 30) + 17 + 3 * (bkO T n a J) + (sN (fun s => (tC (rowF (bkL T n a J) (bkE T n a J)) (rowM (bkL T n a J) (bkE T n a J)) (bkR T n a J)) s * ((bkA T n a J) s + rEf s)) k.toInt.toNat) : Nat) : Int)) → (1000 - k.toInt) < (N : Int) → pw E (d + 2) 44 333 [some (.ref 71), some (.int fr), some (.int to), some (.int pl), some (.int my), some (.int ls), some (.int nn6), some (.long dz), none, some (.int od), some (.int k), l11, l12, l13, l14, l15, l16] [] h2 Q) := by
  intro N
  induction N with
  | zero => exact fun h2 dz od k  F hinv  hm => absurd hm (by have w_od := z_rng od; have w_k := z_rng k; have gfr := z_rng fr; have gto := z_rng to; have gpl := z_rng pl; have gmy := z_rng my; have gls := z_rng ls; have gnn6 := z_rng nn6; omega)
  | succ N ih =>
    refine fun h2 dz od k  F hinv  hm => ?_
    · skip
      have w_od := z_rng od
      have w_k := z_rng k
      have gfr := z_rng fr
      have gto := z_rng to
      have gpl := z_rng pl
      have gmy := z_rng my
      have gls := z_rng ls
      have gnn6 := z_rng nn6
      have S2 := zW_sh F S
      obtain ⟨hk0, hk19, hod, hdy⟩ := hinv
      have hq6 := sN_mono (f := fun s => (tC (rowF (bkL T n a J) (bkE T n a J)) (rowM (bkL T n a J) (bkE T n a J)) (bkR T n a J)) s * ((bkA T n a J) s + rEf s)) (n := k.toInt.toNat) 19 (by omega)
      have hdi := dy_is (T := T) (n := n) (c := c) (a := a) (j := J) hC.2.2.1 hC.2.2.2.2.2.1 hA.2.2.1
      obtain ⟨bg1, bg2, bg3, bg4, bg5, bg6⟩ := mbF_big hF hC.2.2.1 hC.2.2.2.2.2.1 hA.2.2.1 hA.2.2.2.1
      apply ez_Wp_in
      show ez_gw _ _ _ _ _ _ (cz_44) _ _ _ _ _
      refine gw_skip _ ?_
      refine gw_ld rfl rfl ?_
      refine z_C (m := 19) rfl rfl (fun x1 ex1 => ?_)
      refine z_b2 (fun c2 => ?_) (fun c2 => ?_)
      · have c2 : x1.toInt ≤ k.toInt := c2
        suffices tl : pw E (d + 2) 44 374 [some (.ref 71), some (.int fr), some (.int to), some (.int pl), some (.int my), some (.int ls), some (.int nn6), some (.long dz), none, some (.int od), some (.int k), l11, l12, l13, l14, l15, l16] [] h2 Q from gw_skip _ (ez_Wp_at tl rfl)
        refine w_C2 (T := T) (n := n) (c := c) (a := a) (J := J) (l := l) (bn := bn) (s0 := s0) (fr := fr) (to := to) (pl := pl) (my := my) (ls := ls) (l6 := some (.int nn6)) (dy := dz) (od := od) (l10 := some (.int k)) (l11 := l11) (l12 := l12) (l13 := l13) (l14 := l14) (l15 := l15) (l16 := l16) S2 (by rw [(show ez_I h2 72 = ez_I h 72 from zW_fn F 72 (fun c => c) (fun _ c => c)), (show ez_I h2 77 = ez_I h 77 from zW_fn F 77 (fun c => c) (fun _ c => c)), (show ez_I h2 78 = ez_I h 78 from zW_fn F 78 (fun c => c) (fun _ c => c)), (show ez_I h2 79 = ez_I h 79 from zW_fn F 79 (fun c => c) (fun _ c => c)), (show ez_I h2 80 = ez_I h 80 from zW_fn F 80 (fun c => c) (fun _ c => c)), (show ez_I h2 92 = ez_I h 92 from zW_fn F 92 (fun c => c) (fun _ c => c)), (show ez_I h2 93 = ez_I h 93 from zW_fn F 93 (fun c => c) (fun _ c => c)), (show ez_I h2 94 = ez_I h 94 from zW_fn F 94 (fun c => c) (fun _ c => c)), (show ez_I h2 95 = ez_I h 95 from zW_fn F 95 (fun c => c) (fun _ c => c)), (show ez_I h2 96 = ez_I h 96 from zW_fn F 96 (fun c => c) (fun _ c => c))]; exact hC) hA (by rw [(show ez_I h2 100 = ez_I h 100 from zW_fn F 100 (fun c => c) (fun _ c => c)), (show ez_I h2 101 = ez_I h 101 from zW_fn F 101 (fun c => c) (fun _ c => c)), (show ez_I h2 102 = ez_I h 102 from zW_fn F 102 (fun c => c) (fun _ c => c)), (show ez_I h2 117 = ez_I h 117 from zW_fn F 117 (fun c => c) (fun _ c => c)), (show ez_I h2 118 = ez_I h 118 from zW_fn F 118 (fun c => c) (fun _ c => c))]; exact hF) (by rw [(show ez_I h2 71 56 = ez_I h 71 56 from zW_f F (fun c => c) (fun c => c)), (show ez_I h2 71 57 = ez_I h 71 57 from zW_f F (fun c => c) (fun c => c)), (show ez_I h2 71 58 = ez_I h 71 58 from zW_f F (fun c => c) (fun c => c))]; exact hT) (by omega) (by rw [hdi]; rw [show k.toInt.toNat = 19 by omega] at hdy; omega) (by rw [(show ez_I h2 97 = ez_I h 97 from zW_fn F 97 (fun c => c) (fun _ c => c))]; exact c7) (by rw [(show ez_I h2 98 = ez_I h 98 from zW_fn F 98 (fun c => c) (fun _ c => c))]; exact c8) hls (by rw [(show ez_I h2 75 = ez_I h 75 from zW_fn F 75 (fun c => c) (fun _ c => c))]; exact hs) (by rw [(show ez_I h2 71 16 = ez_I h 71 16 from zW_f F (fun c => c) (fun c => c))]; exact hb) (by rw [(show ez_I h2 75 = ez_I h 75 from zW_fn F 75 (fun c => c) (fun _ c => c))]; exact hg) (by rw [(show ez_I h2 71 15 = ez_I h 71 15 from zW_f F (fun c => c) (fun c => c))]; exact hbn) hr (fun h3 F4 k5 k6 k7 k8 k9 => ?_)
        have F10 := zW_tr (zW_mono F x71_233 x71_234 x71_235) (zW_mono F4 x71_236 x71_237 x71_235)
        exact K _ F10 k5 k6 k7 k8 (by have b1 := k9; rw [(show ez_I h2 83 = ez_I h 83 from zW_fn F 83 (fun c => c) (fun _ c => c)), (show ez_I h2 84 = ez_I h 84 from zW_fn F 84 (fun c => c) (fun _ c => c)), (show ez_I h2 85 = ez_I h 85 from zW_fn F 85 (fun c => c) (fun _ c => c)), (show ez_I h2 86 = ez_I h 86 from zW_fn F 86 (fun c => c) (fun _ c => c)), (show ez_I h2 87 = ez_I h 87 from zW_fn F 87 (fun c => c) (fun _ c => c)), (show ez_I h2 88 = ez_I h 88 from zW_fn F 88 (fun c => c) (fun _ c => c)), (show ez_I h2 89 = ez_I h 89 from zW_fn F 89 (fun c => c) (fun _ c => c)), (show ez_I h2 90 = ez_I h 90 from zW_fn F 90 (fun c => c) (fun _ c => c)), (show ez_I h2 91 = ez_I h 91 from zW_fn F 91 (fun c => c) (fun _ c => c))] at b1; exact b1)
      · have c2 : ¬ (x1.toInt ≤ k.toInt) := c2
        refine gw_ld rfl rfl ?_
        refine gw_ld rfl rfl ?_
        refine z_gR (q := 99) (zT S2 (by decide) rfl) (zRf S2 (by decide) (by decide) rfl) (by decide) ?_
        refine gw_ld rfl rfl ?_
        refine z_iaV (n := 19) (zT S2 (by decide) rfl) (zN S2 (by decide) rfl) (by omega) (zW_f F (fun c => c) (fun c => c)) ?_
        generalize ex11 : ez_I h 99 k.toInt.toNat = x11
        have rx11 := z_rng x11
        have yx11 := tc k.toInt.toNat (by omega)
        rw [ex11, show k.toInt.toNat = k.toInt.toNat by omega] at yx11
        have ytc := Nat.le_trans (tC_le (rowF (bkL T n a J) (bkE T n a J)) (rowM (bkL T n a J) (bkE T n a J)) (bkR T n a J) k.toInt.toNat) hF.2.2.2.2.2
        refine z_i2l (fun lg12 elg12 => ?_)
        refine gw_ld rfl rfl ?_
        refine z_gR (q := 102) (zT S2 (by decide) rfl) (zRf S2 (by decide) (by decide) rfl) (by decide) ?_
        refine gw_ld rfl rfl ?_
        refine z_iaV (n := 19) (zT S2 (by decide) rfl) (zN S2 (by decide) rfl) (by omega) (zW_f F (fun c => c) (fun c => c)) ?_
        generalize ex13 : ez_I h 102 k.toInt.toNat = x13
        have rx13 := z_rng x13
        have yx13 := lb_rd hF.2.2.1 (k := k.toInt.toNat) (by omega) ex13
        rw [show k.toInt.toNat = k.toInt.toNat by omega] at yx13
        refine gw_ld rfl rfl ?_
        refine z_cl rfl rfl rfl rfl rfl rfl rfl rfl rfl rfl rfl (trivial) ?_
        refine d_rest (y := k) S2 (by omega) (fun x14 k15 => ?_)
        have rx14 := z_rng x14
        have hr7 := rEf_7 k.toInt.toNat
        refine z_add (by omega) (fun x16 ex16 => ?_)
        refine z_i2l (fun lg17 elg17 => ?_)
        refine z_lmul (B := 4424) (by omega) (by omega) (fun p19 ep19 np19 mp19 lg18 elg18 => ?_) (fun p hp => by rw [hp]; exact (mulB (a := 316) (b := 14) (c := 4424) (by omega) (by omega) (by decide)).2)
        have hpv : p19 = (((tC (rowF (bkL T n a J) (bkE T n a J)) (rowM (bkL T n a J) (bkE T n a J)) (bkR T n a J)) k.toInt.toNat * ((bkA T n a J) k.toInt.toNat + rEf k.toInt.toNat) : Nat) : Int) := by rw [ep19, Int.natCast_mul, show lg12.toInt = (((tC (rowF (bkL T n a J) (bkE T n a J)) (rowM (bkL T n a J) (bkE T n a J)) (bkR T n a J)) k.toInt.toNat : Nat) : Int) by omega, show lg17.toInt = (((bkA T n a J) k.toInt.toNat + rEf k.toInt.toNat : Nat) : Int) by omega]
        have hse : (sN (fun s => (tC (rowF (bkL T n a J) (bkE T n a J)) (rowM (bkL T n a J) (bkE T n a J)) (bkR T n a J)) s * ((bkA T n a J) s + rEf s)) (k.toInt.toNat + 1)) = (sN (fun s => (tC (rowF (bkL T n a J) (bkE T n a J)) (rowM (bkL T n a J) (bkE T n a J)) (bkR T n a J)) s * ((bkA T n a J) s + rEf s)) k.toInt.toNat) + (tC (rowF (bkL T n a J) (bkE T n a J)) (rowM (bkL T n a J) (bkE T n a J)) (bkR T n a J)) k.toInt.toNat * ((bkA T n a J) k.toInt.toNat + rEf k.toInt.toNat) := rfl
        refine z_ladd (by omega) (fun lg20 elg20 => ?_)
        refine gw_st rfl rfl rfl ?_
        show ez_gw _ _ _ _ _ _ _ _ [some (.ref 71), some (.int fr), some (.int to), some (.int pl), some (.int my), some (.int ls), some (.int nn6), some (.long lg20), none, some (.int od), some (.int k), l11, l12, l13, l14, l15, l16] _ _ _
        refine z_inc rfl (by rw [show (1 : Int32).toInt = 1 from rfl]; omega) (fun x21 ex21 => ?_)
        rw [show (1 : Int32).toInt = 1 from rfl] at ex21
        show ez_gw _ _ _ _ _ _ _ _ [some (.ref 71), some (.int fr), some (.int to), some (.int pl), some (.int my), some (.int ls), some (.int nn6), some (.long lg20), none, some (.int od), some (.int x21), l11, l12, l13, l14, l15, l16] _ _ _
        refine z_go ?_
        exact ih h2 lg20 od x21 F (⟨by omega, by omega, by omega, by rw [show x21.toInt.toNat = k.toInt.toNat + 1 by omega, hse]; omega⟩)  (by omega)
set_option maxRecDepth 4000 in
set_option maxHeartbeats 2000000 in
theorem w_C1_L0 {E : Nat → Nat × (Nat → Int32)} {d : Nat} {Q : ez_Q} {h : ez_H} {fr : Int32} {to : Int32} {pl : Int32} {my : Int32} {ls : Int32} {nn6 : Int32} {dy : Int64} {l9 : Option Value} {l10 : Option Value} {l11 : Option Value} {l12 : Option Value} {l13 : Option Value} {l14 : Option Value} {l15 : Option Value} {l16 : Option Value} (S : zSh h) {T : Nat → Int} {n c a J : Nat} {l bn : Nat} {s0 : Nat × Nat} (hC : mbC (ez_I h 72) (ez_I h 77) (ez_I h 78) (ez_I h 79) (ez_I h 80) (ez_I h 92) (ez_I h 93) (ez_I h 94) (ez_I h 95) (ez_I h 96) T n c) (hA : mbA fr to pl my T n c a J) (hF : mbF (ez_I h 100) (ez_I h 101) (ez_I h 102) (ez_I h 117) (ez_I h 118) T n a J) (hT : mbT (ez_I h 71 56) (ez_I h 71 57) (ez_I h 71 58) T n a J) (hdy : dy.toInt = ((sN (fun i => (bkC T n a J) i * ((bkL T n a J) i + exL i)) 286 + sN (fun i => (bkD T n a J) i * (LNf (bkD T n a J) 30 15 i + DEf i)) 30) : Nat)) (tc : ctI (ez_I h 99) (tC (rowF (bkL T n a J) (bkE T n a J)) (rowM (bkL T n a J) (bkE T n a J)) (bkR T n a J)) 19) (c7 : ctI (ez_I h 97) (bkC T n a J) 286) (c8 : ctI (ez_I h 98) (bkD T n a J) 30) (hls : ls.toInt = (l : Nat) ∧ l ≤ 1) (hs : mS (ez_I h 75) s0) (hb : (ez_I h 71 16).toInt = (s0.2 : Nat)) (hg : aR (ez_I h 75) 8000 (-128) 127) (hbn : (ez_I h 71 15).toInt = (bn : Nat) ∧ bn ≤ 9) (hr : s0.2 + 50 + 8 * (bkY T n a J) ≤ 48800) (K : ∀ h2, zW (fun q k => q = 71 ∧ k = 15 ∨ q = 71 ∧ k = 16) (fun q => q = 75 ∨ 83 ≤ q ∧ q ≤ 91 ∨ 103 ≤ q ∧ q ≤ 109 ∨ q = 115 ∨ q = 116) (fun _ => False) h h2 → (bkS T n a J l s0).2 ≤ s0.2 + 42 + 8 * (bkY T n a J) → mst (ez_I h2 75) (ez_I h2 71 16).toInt (bkS T n a J l s0) → aR (ez_I h2 75) 8000 (-128) 127 → (ez_I h2 71 15).toInt = (bn : Int) + 1 → mbk (ez_I h2 83) (ez_I h2 84) (ez_I h2 85) (ez_I h2 86) (ez_I h2 87) (ez_I h2 88) (ez_I h2 89) (ez_I h2 90) (ez_I h2 91) (ez_I h 83) (ez_I h 84) (ez_I h 85) (ez_I h 86) (ez_I h 87) (ez_I h 88) (ez_I h 89) (ez_I h 90) (ez_I h 91) T n a J s0.2 bn → Q (.inl none) h2) : ∀ N : Nat, (∀ (h2 : ez_H) (dz : Int64) (od : Int32) (k : Int32) , zW (fun _ _ => False) (fun _ => False) (fun _ => False) h h2 → (4 ≤ k.toInt ∧ k.toInt ≤ 19 ∧ dz.toInt = ((sN (fun i => (bkC T n a J) i * ((bkL T n a J) i + exL i)) 286 + sN (fun i => (bkD T n a J) i * (LNf (bkD T n a J) 30 15 i + DEf i)) 30) : Nat) ∧ od.toInt = ((tdM (fun q => (bkA T n a J) (ORf q)) 4 (k.toInt.toNat - 4)) : Nat)) → (1000 - k.toInt) < (N : Int) → pw E (d + 2) 44 275 [some (.ref 71), some (.int fr), some (.int to), some (.int pl), some (.int my), some (.int ls), some (.int nn6), some (.long dz), none, some (.int od), some (.int k), l11, l12, l13, l14, l15, l16] [] h2 Q) := by
  intro N
  induction N with
  | zero => exact fun h2 dz od k  F hinv  hm => absurd hm (by have w_od := z_rng od; have w_k := z_rng k; have gfr := z_rng fr; have gto := z_rng to; have gpl := z_rng pl; have gmy := z_rng my; have gls := z_rng ls; have gnn6 := z_rng nn6; omega)
  | succ N ih =>
    refine fun h2 dz od k  F hinv  hm => ?_
    · skip
      have w_od := z_rng od
      have w_k := z_rng k
      have gfr := z_rng fr
      have gto := z_rng to
      have gpl := z_rng pl
      have gmy := z_rng my
      have gls := z_rng ls
      have gnn6 := z_rng nn6
      have S2 := zW_sh F S
      obtain ⟨hk4, hk19, hdz, hod⟩ := hinv
      have htr := tdM_rng (fun q => (bkA T n a J) (ORf q)) 4 (k.toInt.toNat - 4)
      have t96 := hC.2.2.2.2.2.2.2.2.2.2.2
      obtain ⟨bg1, bg2, bg3, bg4, bg5, bg6⟩ := mbF_big hF hC.2.2.1 hC.2.2.2.2.2.1 hA.2.2.1 hA.2.2.2.1
      apply ez_Wp_in
      show ez_gw _ _ _ _ _ _ (cz_44) _ _ _ _ _
      refine gw_skip _ ?_
      refine gw_ld rfl rfl ?_
      refine z_C (m := 19) rfl rfl (fun x1 ex1 => ?_)
      refine z_b2 (fun c2 => ?_) (fun c2 => ?_)
      · have c2 : x1.toInt ≤ k.toInt := c2
        refine gw_skip _ ?_
        have hodB : od.toInt = ((bkO T n a J) : Nat) := by rw [show (bkO T n a J) = tdM (fun q => (bkA T n a J) (ORf q)) 4 15 from rfl, show (15 : Nat) = k.toInt.toNat - 4 by omega]; exact hod
        refine gw_ld rfl rfl ?_
        refine z_lC (m := 17) rfl rfl (fun lg3 elg3 => ?_)
        refine z_lC (m := 3) rfl rfl (fun lg4 elg4 => ?_)
        refine gw_ld rfl rfl ?_
        refine z_i2l (fun lg5 elg5 => ?_)
        refine z_lmul (B := 300) (by omega) (by omega) (fun p7 ep7 np7 mp7 lg6 elg6 => ?_) (fun p hp => by rw [hp]; exact (mulB (a := 3) (b := 100) (c := 300) (by omega) (by omega) (by decide)).2)
        have hp3 : p7 = 3 * od.toInt := by rw [ep7, show lg4.toInt = 3 by omega, show lg5.toInt = od.toInt by omega]
        refine z_ladd (by omega) (fun lg8 elg8 => ?_)
        refine z_ladd (by omega) (fun lg9 elg9 => ?_)
        refine gw_st rfl rfl rfl ?_
        show ez_gw _ _ _ _ _ _ _ _ [some (.ref 71), some (.int fr), some (.int to), some (.int pl), some (.int my), some (.int ls), some (.int nn6), some (.long lg9), none, some (.int od), some (.int k), l11, l12, l13, l14, l15, l16] _ _ _
        refine z_C (m := 0) rfl rfl (fun x10 ex10 => ?_)
        refine gw_st rfl rfl rfl ?_
        show ez_gw _ _ _ _ _ _ _ _ [some (.ref 71), some (.int fr), some (.int to), some (.int pl), some (.int my), some (.int ls), some (.int nn6), some (.long lg9), none, some (.int od), some (.int x10), l11, l12, l13, l14, l15, l16] _ _ _
        exact ez_Wp_at ((w_C1_L1 (fr := fr) (to := to) (pl := pl) (my := my) (ls := ls) (nn6 := nn6) (dy := dy) (l9 := l9) (l10 := l10) (l11 := l11) (l12 := l12) (l13 := l13) (l14 := l14) (l15 := l15) (l16 := l16) S hC hA hF hT hdy tc c7 c8 hls hs hb hg hbn hr K (((1000 - x10.toInt)).toNat + 1)) h2 lg9 od x10 F (⟨by omega, by omega, hodB, by rw [show x10.toInt.toNat = 0 by omega]; show _ = (((sN (fun i => (bkC T n a J) i * ((bkL T n a J) i + exL i)) 286 + sN (fun i => (bkD T n a J) i * (LNf (bkD T n a J) 30 15 i + DEf i)) 30) + 17 + 3 * (bkO T n a J) + 0 : Nat) : Int); omega⟩)  (by omega)) rfl
      · have c2 : ¬ (x1.toInt ≤ k.toInt) := c2
        refine gw_ld rfl rfl ?_
        refine z_gR (q := 102) (zT S2 (by decide) rfl) (zRf S2 (by decide) (by decide) rfl) (by decide) ?_
        refine gw_ld rfl rfl ?_
        refine z_gR (q := 96) (zT S2 (by decide) rfl) (zRf S2 (by decide) (by decide) rfl) (by decide) ?_
        refine gw_ld rfl rfl ?_
        refine z_iaV (n := 19) (zT S2 (by decide) rfl) (zN S2 (by decide) rfl) (by omega) (zW_f F (fun c => c) (fun c => c)) ?_
        generalize ex11 : ez_I h 96 k.toInt.toNat = x11
        have rx11 := z_rng x11
        have yx11 := t96 k.toInt.toNat (by omega)
        rw [ex11, show k.toInt.toNat = k.toInt.toNat by omega] at yx11
        have uo := OR_18 k.toInt.toNat (by omega)
        refine z_iaV (n := 19) (zT S2 (by decide) rfl) (zN S2 (by decide) rfl) (by omega) (zW_f F (fun c => c) (fun c => c)) ?_
        generalize ex12 : ez_I h 102 x11.toInt.toNat = x12
        have rx12 := z_rng x12
        have yx12 := lb_rd hF.2.2.1 (k := x11.toInt.toNat) (by omega) ex12
        rw [show x11.toInt.toNat = ORf k.toInt.toNat by omega] at yx12
        refine z_b1 (fun c13 => ?_) (fun c13 => ?_)
        · have c13 : x12.toInt ≤ 0 := c13
          refine gw_skip _ ?_
          refine gw_ld rfl rfl ?_
          refine gw_st rfl rfl rfl ?_
          show ez_gw _ _ _ _ _ _ _ _ [some (.ref 71), some (.int fr), some (.int to), some (.int pl), some (.int my), some (.int ls), some (.int nn6), some (.long dz), none, some (.int od), some (.int k), l11, l12, l13, l14, l15, l16] _ _ _
          refine z_inc rfl (by rw [show (1 : Int32).toInt = 1 from rfl]; omega) (fun x14 ex14 => ?_)
          rw [show (1 : Int32).toInt = 1 from rfl] at ex14
          show ez_gw _ _ _ _ _ _ _ _ [some (.ref 71), some (.int fr), some (.int to), some (.int pl), some (.int my), some (.int ls), some (.int nn6), some (.long dz), none, some (.int od), some (.int x14), l11, l12, l13, l14, l15, l16] _ _ _
          refine z_go ?_
          exact ih h2 dz od x14 F (⟨by omega, by omega, by omega, by rw [show x14.toInt.toNat - 4 = (k.toInt.toNat - 4) + 1 by omega, tdM_0 (by show (bkA T n a J) (ORf (4 + (k.toInt.toNat - 4))) = 0; rw [show 4 + (k.toInt.toNat - 4) = k.toInt.toNat by omega]; omega)]; omega⟩)  (by omega)
        · have c13 : ¬ (x12.toInt ≤ 0) := c13
          refine gw_ld rfl rfl ?_
          refine z_C (m := 1) rfl rfl (fun x15 ex15 => ?_)
          refine z_add (by omega) (fun x16 ex16 => ?_)
          refine z_go ?_
          refine gw_skip _ ?_
          refine gw_st rfl rfl rfl ?_
          show ez_gw _ _ _ _ _ _ _ _ [some (.ref 71), some (.int fr), some (.int to), some (.int pl), some (.int my), some (.int ls), some (.int nn6), some (.long dz), none, some (.int x16), some (.int k), l11, l12, l13, l14, l15, l16] _ _ _
          refine z_inc rfl (by rw [show (1 : Int32).toInt = 1 from rfl]; omega) (fun x17 ex17 => ?_)
          rw [show (1 : Int32).toInt = 1 from rfl] at ex17
          show ez_gw _ _ _ _ _ _ _ _ [some (.ref 71), some (.int fr), some (.int to), some (.int pl), some (.int my), some (.int ls), some (.int nn6), some (.long dz), none, some (.int x16), some (.int x17), l11, l12, l13, l14, l15, l16] _ _ _
          refine z_go ?_
          exact ih h2 dz x16 x17 F (⟨by omega, by omega, by omega, by rw [show x17.toInt.toNat - 4 = (k.toInt.toNat - 4) + 1 by omega, tdM_1 (by show (bkA T n a J) (ORf (4 + (k.toInt.toNat - 4))) ≠ 0; rw [show 4 + (k.toInt.toNat - 4) = k.toInt.toNat by omega]; omega)]; omega⟩)  (by omega)
set_option maxRecDepth 4000 in
set_option maxHeartbeats 2000000 in
theorem w_C1 {E : Nat → Nat × (Nat → Int32)} {d : Nat} {Q : ez_Q} {h : ez_H} {fr : Int32} {to : Int32} {pl : Int32} {my : Int32} {ls : Int32} {nn6 : Int32} {dy : Int64} {l9 : Option Value} {l10 : Option Value} {l11 : Option Value} {l12 : Option Value} {l13 : Option Value} {l14 : Option Value} {l15 : Option Value} {l16 : Option Value} (S : zSh h) {T : Nat → Int} {n c a J : Nat} {l bn : Nat} {s0 : Nat × Nat} (hC : mbC (ez_I h 72) (ez_I h 77) (ez_I h 78) (ez_I h 79) (ez_I h 80) (ez_I h 92) (ez_I h 93) (ez_I h 94) (ez_I h 95) (ez_I h 96) T n c) (hA : mbA fr to pl my T n c a J) (hF : mbF (ez_I h 100) (ez_I h 101) (ez_I h 102) (ez_I h 117) (ez_I h 118) T n a J) (hT : mbT (ez_I h 71 56) (ez_I h 71 57) (ez_I h 71 58) T n a J) (hdy : dy.toInt = ((sN (fun i => (bkC T n a J) i * ((bkL T n a J) i + exL i)) 286 + sN (fun i => (bkD T n a J) i * (LNf (bkD T n a J) 30 15 i + DEf i)) 30) : Nat)) (tc : ctI (ez_I h 99) (tC (rowF (bkL T n a J) (bkE T n a J)) (rowM (bkL T n a J) (bkE T n a J)) (bkR T n a J)) 19) (c7 : ctI (ez_I h 97) (bkC T n a J) 286) (c8 : ctI (ez_I h 98) (bkD T n a J) 30) (hls : ls.toInt = (l : Nat) ∧ l ≤ 1) (hs : mS (ez_I h 75) s0) (hb : (ez_I h 71 16).toInt = (s0.2 : Nat)) (hg : aR (ez_I h 75) 8000 (-128) 127) (hbn : (ez_I h 71 15).toInt = (bn : Nat) ∧ bn ≤ 9) (hr : s0.2 + 50 + 8 * (bkY T n a J) ≤ 48800) (K : ∀ h2, zW (fun q k => q = 71 ∧ k = 15 ∨ q = 71 ∧ k = 16) (fun q => q = 75 ∨ 83 ≤ q ∧ q ≤ 91 ∨ 103 ≤ q ∧ q ≤ 109 ∨ q = 115 ∨ q = 116) (fun _ => False) h h2 → (bkS T n a J l s0).2 ≤ s0.2 + 42 + 8 * (bkY T n a J) → mst (ez_I h2 75) (ez_I h2 71 16).toInt (bkS T n a J l s0) → aR (ez_I h2 75) 8000 (-128) 127 → (ez_I h2 71 15).toInt = (bn : Int) + 1 → mbk (ez_I h2 83) (ez_I h2 84) (ez_I h2 85) (ez_I h2 86) (ez_I h2 87) (ez_I h2 88) (ez_I h2 89) (ez_I h2 90) (ez_I h2 91) (ez_I h 83) (ez_I h 84) (ez_I h 85) (ez_I h 86) (ez_I h 87) (ez_I h 88) (ez_I h 89) (ez_I h 90) (ez_I h 91) T n a J s0.2 bn → Q (.inl none) h2) : pw E (d + 2) 44 269 [some (.ref 71), some (.int fr), some (.int to), some (.int pl), some (.int my), some (.int ls), some (.int nn6), some (.long dy), none, l9, l10, l11, l12, l13, l14, l15, l16] [] h Q := by
  have gfr := z_rng fr
  have gto := z_rng to
  have gpl := z_rng pl
  have gmy := z_rng my
  have gls := z_rng ls
  have gnn6 := z_rng nn6
  have F := zW_refl (fun _ _ => False) (fun _ => False) (fun _ => False) h
  apply ez_Wp_in
  show ez_gw _ _ _ _ _ _ (cz_44) _ _ _ _ _
  refine gw_skip _ ?_
  refine z_C (m := 4) rfl rfl (fun x1 ex1 => ?_)
  refine gw_st rfl rfl rfl ?_
  show ez_gw _ _ _ _ _ _ _ _ [some (.ref 71), some (.int fr), some (.int to), some (.int pl), some (.int my), some (.int ls), some (.int nn6), some (.long dy), none, some (.int x1), l10, l11, l12, l13, l14, l15, l16] _ _ _
  refine z_C (m := 4) rfl rfl (fun x2 ex2 => ?_)
  refine gw_st rfl rfl rfl ?_
  show ez_gw _ _ _ _ _ _ _ _ [some (.ref 71), some (.int fr), some (.int to), some (.int pl), some (.int my), some (.int ls), some (.int nn6), some (.long dy), none, some (.int x1), some (.int x2), l11, l12, l13, l14, l15, l16] _ _ _
  exact ez_Wp_at ((w_C1_L0 (fr := fr) (to := to) (pl := pl) (my := my) (ls := ls) (nn6 := nn6) (dy := dy) (l9 := l9) (l10 := l10) (l11 := l11) (l12 := l12) (l13 := l13) (l14 := l14) (l15 := l15) (l16 := l16) S hC hA hF hT hdy tc c7 c8 hls hs hb hg hbn hr K (((1000 - x2.toInt)).toNat + 1)) h dy x1 x2 F (⟨by omega, by omega, by omega, by rw [show x2.toInt.toNat - 4 = 0 by omega]; show _ = ((4 : Nat) : Int); omega⟩)  (by omega)) rfl
end
section
/-! PRINTED by wip/pack: the model writes a block: the row -/
theorem x71_238 : ¬ (97 = 99 ∨ 97 = 101 ∨ 97 = 102 ∨ 110 ≤ 97 ∧ 97 ≤ 114 ∨ 117 ≤ 97 ∧ 97 ≤ 119) := by omega
theorem x71_239 : ∀ k : Nat, ¬ (97 = 71 ∧ k = 56 ∨ 97 = 71 ∧ k = 57 ∨ 97 = 71 ∧ k = 58) := fun k c => by omega
theorem x71_240 : ¬ (98 = 99 ∨ 98 = 101 ∨ 98 = 102 ∨ 110 ≤ 98 ∧ 98 ≤ 114 ∨ 117 ≤ 98 ∧ 98 ≤ 119) := by omega
theorem x71_241 : ∀ k : Nat, ¬ (98 = 71 ∧ k = 56 ∨ 98 = 71 ∧ k = 57 ∨ 98 = 71 ∧ k = 58) := fun k c => by omega
theorem x71_242 : ¬ (93 = 99 ∨ 93 = 101 ∨ 93 = 102 ∨ 110 ≤ 93 ∧ 93 ≤ 114 ∨ 117 ≤ 93 ∧ 93 ≤ 119) := by omega
theorem x71_243 : ∀ k : Nat, ¬ (93 = 71 ∧ k = 56 ∨ 93 = 71 ∧ k = 57 ∨ 93 = 71 ∧ k = 58) := fun k c => by omega
theorem x71_244 : ¬ (95 = 99 ∨ 95 = 101 ∨ 95 = 102 ∨ 110 ≤ 95 ∧ 95 ≤ 114 ∨ 117 ≤ 95 ∧ 95 ≤ 119) := by omega
theorem x71_245 : ∀ k : Nat, ¬ (95 = 71 ∧ k = 56 ∨ 95 = 71 ∧ k = 57 ∨ 95 = 71 ∧ k = 58) := fun k c => by omega
theorem x71_246 : ¬ (100 = 99 ∨ 100 = 101 ∨ 100 = 102 ∨ 110 ≤ 100 ∧ 100 ≤ 114 ∨ 117 ≤ 100 ∧ 100 ≤ 119) := by omega
theorem x71_247 : ∀ k : Nat, ¬ (100 = 71 ∧ k = 56 ∨ 100 = 71 ∧ k = 57 ∨ 100 = 71 ∧ k = 58) := fun k c => by omega
theorem x71_248 : ∀ q k : Nat, (q = 71 ∧ k = 56 ∨ q = 71 ∧ k = 57 ∨ q = 71 ∧ k = 58) → (q = 71 ∧ k = 56 ∨ q = 71 ∧ k = 57 ∨ q = 71 ∧ k = 58) := fun q k hk => hk.elim (fun g => (.inl g)) (fun hk => hk.elim (fun g => (.inr (.inl g))) (fun hk => (.inr (.inr hk))))
theorem x71_249 : ∀ q : Nat, (q = 99 ∨ q = 117 ∨ q = 118 ∨ q = 119) → (q = 99 ∨ q = 101 ∨ q = 102 ∨ 110 ≤ q ∧ q ≤ 114 ∨ 117 ≤ q ∧ q ≤ 119) := fun q hk => hk.elim (fun g => (.inl g)) (fun hk => hk.elim (fun g => (.inr (.inr (.inr (.inr (show 117 ≤ q ∧ q ≤ 119 by omega)))))) (fun hk => hk.elim (fun g => (.inr (.inr (.inr (.inr (show 117 ≤ q ∧ q ≤ 119 by omega)))))) (fun hk => (.inr (.inr (.inr (.inr (show 117 ≤ q ∧ q ≤ 119 by omega))))))))
theorem x71_250 : ∀ q : Nat, (False) → (False) := fun q hk => hk.elim
theorem x71_251 : ∀ k : Nat, ¬ (101 = 71 ∧ k = 56 ∨ 101 = 71 ∧ k = 57 ∨ 101 = 71 ∧ k = 58) := fun k c => by omega
theorem x71_252 : ∀ q k : Nat, (False) → (q = 71 ∧ k = 56 ∨ q = 71 ∧ k = 57 ∨ q = 71 ∧ k = 58) := fun q k hk => hk.elim
theorem x71_253 : ∀ q : Nat, (110 ≤ q ∧ q ≤ 114 ∨ q = 102) → (q = 99 ∨ q = 101 ∨ q = 102 ∨ 110 ≤ q ∧ q ≤ 114 ∨ 117 ≤ q ∧ q ≤ 119) := fun q hk => hk.elim (fun g => (.inr (.inr (.inr (.inl g))))) (fun hk => (.inr (.inr (.inl hk))))
theorem x71_254 : ¬ (72 = 99 ∨ 72 = 101 ∨ 72 = 102 ∨ 110 ≤ 72 ∧ 72 ≤ 114 ∨ 117 ≤ 72 ∧ 72 ≤ 119) := by omega
theorem x71_255 : ∀ k : Nat, ¬ (72 = 71 ∧ k = 56 ∨ 72 = 71 ∧ k = 57 ∨ 72 = 71 ∧ k = 58) := fun k c => by omega
theorem x71_256 : ¬ (77 = 99 ∨ 77 = 101 ∨ 77 = 102 ∨ 110 ≤ 77 ∧ 77 ≤ 114 ∨ 117 ≤ 77 ∧ 77 ≤ 119) := by omega
theorem x71_257 : ∀ k : Nat, ¬ (77 = 71 ∧ k = 56 ∨ 77 = 71 ∧ k = 57 ∨ 77 = 71 ∧ k = 58) := fun k c => by omega
theorem x71_258 : ¬ (78 = 99 ∨ 78 = 101 ∨ 78 = 102 ∨ 110 ≤ 78 ∧ 78 ≤ 114 ∨ 117 ≤ 78 ∧ 78 ≤ 119) := by omega
theorem x71_259 : ∀ k : Nat, ¬ (78 = 71 ∧ k = 56 ∨ 78 = 71 ∧ k = 57 ∨ 78 = 71 ∧ k = 58) := fun k c => by omega
theorem x71_260 : ¬ (79 = 99 ∨ 79 = 101 ∨ 79 = 102 ∨ 110 ≤ 79 ∧ 79 ≤ 114 ∨ 117 ≤ 79 ∧ 79 ≤ 119) := by omega
theorem x71_261 : ∀ k : Nat, ¬ (79 = 71 ∧ k = 56 ∨ 79 = 71 ∧ k = 57 ∨ 79 = 71 ∧ k = 58) := fun k c => by omega
theorem x71_262 : ¬ (80 = 99 ∨ 80 = 101 ∨ 80 = 102 ∨ 110 ≤ 80 ∧ 80 ≤ 114 ∨ 117 ≤ 80 ∧ 80 ≤ 119) := by omega
theorem x71_263 : ∀ k : Nat, ¬ (80 = 71 ∧ k = 56 ∨ 80 = 71 ∧ k = 57 ∨ 80 = 71 ∧ k = 58) := fun k c => by omega
theorem x71_264 : ¬ (92 = 99 ∨ 92 = 101 ∨ 92 = 102 ∨ 110 ≤ 92 ∧ 92 ≤ 114 ∨ 117 ≤ 92 ∧ 92 ≤ 119) := by omega
theorem x71_265 : ∀ k : Nat, ¬ (92 = 71 ∧ k = 56 ∨ 92 = 71 ∧ k = 57 ∨ 92 = 71 ∧ k = 58) := fun k c => by omega
theorem x71_266 : ¬ (94 = 99 ∨ 94 = 101 ∨ 94 = 102 ∨ 110 ≤ 94 ∧ 94 ≤ 114 ∨ 117 ≤ 94 ∧ 94 ≤ 119) := by omega
theorem x71_267 : ∀ k : Nat, ¬ (94 = 71 ∧ k = 56 ∨ 94 = 71 ∧ k = 57 ∨ 94 = 71 ∧ k = 58) := fun k c => by omega
theorem x71_268 : ¬ (96 = 99 ∨ 96 = 101 ∨ 96 = 102 ∨ 110 ≤ 96 ∧ 96 ≤ 114 ∨ 117 ≤ 96 ∧ 96 ≤ 119) := by omega
theorem x71_269 : ∀ k : Nat, ¬ (96 = 71 ∧ k = 56 ∨ 96 = 71 ∧ k = 57 ∨ 96 = 71 ∧ k = 58) := fun k c => by omega
theorem x71_270 : ¬ (75 = 99 ∨ 75 = 101 ∨ 75 = 102 ∨ 110 ≤ 75 ∧ 75 ≤ 114 ∨ 117 ≤ 75 ∧ 75 ≤ 119) := by omega
theorem x71_271 : ∀ k : Nat, ¬ (75 = 71 ∧ k = 56 ∨ 75 = 71 ∧ k = 57 ∨ 75 = 71 ∧ k = 58) := fun k c => by omega
theorem x71_272 : ¬ (71 = 99 ∨ 71 = 101 ∨ 71 = 102 ∨ 110 ≤ 71 ∧ 71 ≤ 114 ∨ 117 ≤ 71 ∧ 71 ≤ 119) := by omega
theorem x71_273 : ¬ (71 = 71 ∧ 16 = 56 ∨ 71 = 71 ∧ 16 = 57 ∨ 71 = 71 ∧ 16 = 58) := by omega
theorem x71_274 : ¬ (71 = 71 ∧ 15 = 56 ∨ 71 = 71 ∧ 15 = 57 ∨ 71 = 71 ∧ 15 = 58) := by omega
theorem x71_275 : ∀ q k : Nat, (q = 71 ∧ k = 56 ∨ q = 71 ∧ k = 57 ∨ q = 71 ∧ k = 58) → (q = 71 ∧ k = 15 ∨ q = 71 ∧ k = 16 ∨ q = 71 ∧ k = 56 ∨ q = 71 ∧ k = 57 ∨ q = 71 ∧ k = 58) := fun q k hk => hk.elim (fun g => (.inr (.inr (.inl g)))) (fun hk => hk.elim (fun g => (.inr (.inr (.inr (.inl g))))) (fun hk => (.inr (.inr (.inr (.inr hk))))))
theorem x71_276 : ∀ q : Nat, (q = 99 ∨ q = 101 ∨ q = 102 ∨ 110 ≤ q ∧ q ≤ 114 ∨ 117 ≤ q ∧ q ≤ 119) → (q = 75 ∨ 83 ≤ q ∧ q ≤ 91 ∨ q = 99 ∨ 101 ≤ q ∧ q ≤ 119) := fun q hk => hk.elim (fun g => (.inr (.inr (.inl g)))) (fun hk => hk.elim (fun g => (.inr (.inr (.inr (show 101 ≤ q ∧ q ≤ 119 by omega))))) (fun hk => hk.elim (fun g => (.inr (.inr (.inr (show 101 ≤ q ∧ q ≤ 119 by omega))))) (fun hk => hk.elim (fun g => (.inr (.inr (.inr (show 101 ≤ q ∧ q ≤ 119 by omega))))) (fun hk => (.inr (.inr (.inr (show 101 ≤ q ∧ q ≤ 119 by omega))))))))
theorem x71_277 : ∀ q k : Nat, (q = 71 ∧ k = 15 ∨ q = 71 ∧ k = 16) → (q = 71 ∧ k = 15 ∨ q = 71 ∧ k = 16 ∨ q = 71 ∧ k = 56 ∨ q = 71 ∧ k = 57 ∨ q = 71 ∧ k = 58) := fun q k hk => hk.elim (fun g => (.inl g)) (fun hk => (.inr (.inl hk)))
theorem x71_278 : ∀ q : Nat, (q = 75 ∨ 83 ≤ q ∧ q ≤ 91 ∨ 103 ≤ q ∧ q ≤ 109 ∨ q = 115 ∨ q = 116) → (q = 75 ∨ 83 ≤ q ∧ q ≤ 91 ∨ q = 99 ∨ 101 ≤ q ∧ q ≤ 119) := fun q hk => hk.elim (fun g => (.inl g)) (fun hk => hk.elim (fun g => (.inr (.inl g))) (fun hk => hk.elim (fun g => (.inr (.inr (.inr (show 101 ≤ q ∧ q ≤ 119 by omega))))) (fun hk => hk.elim (fun g => (.inr (.inr (.inr (show 101 ≤ q ∧ q ≤ 119 by omega))))) (fun hk => (.inr (.inr (.inr (show 101 ≤ q ∧ q ≤ 119 by omega))))))))
theorem x71_279 : ¬ (83 = 99 ∨ 83 = 101 ∨ 83 = 102 ∨ 110 ≤ 83 ∧ 83 ≤ 114 ∨ 117 ≤ 83 ∧ 83 ≤ 119) := by omega
theorem x71_280 : ∀ k : Nat, ¬ (83 = 71 ∧ k = 56 ∨ 83 = 71 ∧ k = 57 ∨ 83 = 71 ∧ k = 58) := fun k c => by omega
theorem x71_281 : ¬ (84 = 99 ∨ 84 = 101 ∨ 84 = 102 ∨ 110 ≤ 84 ∧ 84 ≤ 114 ∨ 117 ≤ 84 ∧ 84 ≤ 119) := by omega
theorem x71_282 : ∀ k : Nat, ¬ (84 = 71 ∧ k = 56 ∨ 84 = 71 ∧ k = 57 ∨ 84 = 71 ∧ k = 58) := fun k c => by omega
theorem x71_283 : ¬ (85 = 99 ∨ 85 = 101 ∨ 85 = 102 ∨ 110 ≤ 85 ∧ 85 ≤ 114 ∨ 117 ≤ 85 ∧ 85 ≤ 119) := by omega
theorem x71_284 : ∀ k : Nat, ¬ (85 = 71 ∧ k = 56 ∨ 85 = 71 ∧ k = 57 ∨ 85 = 71 ∧ k = 58) := fun k c => by omega
theorem x71_285 : ¬ (86 = 99 ∨ 86 = 101 ∨ 86 = 102 ∨ 110 ≤ 86 ∧ 86 ≤ 114 ∨ 117 ≤ 86 ∧ 86 ≤ 119) := by omega
theorem x71_286 : ∀ k : Nat, ¬ (86 = 71 ∧ k = 56 ∨ 86 = 71 ∧ k = 57 ∨ 86 = 71 ∧ k = 58) := fun k c => by omega
theorem x71_287 : ¬ (87 = 99 ∨ 87 = 101 ∨ 87 = 102 ∨ 110 ≤ 87 ∧ 87 ≤ 114 ∨ 117 ≤ 87 ∧ 87 ≤ 119) := by omega
theorem x71_288 : ∀ k : Nat, ¬ (87 = 71 ∧ k = 56 ∨ 87 = 71 ∧ k = 57 ∨ 87 = 71 ∧ k = 58) := fun k c => by omega
theorem x71_289 : ¬ (88 = 99 ∨ 88 = 101 ∨ 88 = 102 ∨ 110 ≤ 88 ∧ 88 ≤ 114 ∨ 117 ≤ 88 ∧ 88 ≤ 119) := by omega
theorem x71_290 : ∀ k : Nat, ¬ (88 = 71 ∧ k = 56 ∨ 88 = 71 ∧ k = 57 ∨ 88 = 71 ∧ k = 58) := fun k c => by omega
theorem x71_291 : ¬ (89 = 99 ∨ 89 = 101 ∨ 89 = 102 ∨ 110 ≤ 89 ∧ 89 ≤ 114 ∨ 117 ≤ 89 ∧ 89 ≤ 119) := by omega
theorem x71_292 : ∀ k : Nat, ¬ (89 = 71 ∧ k = 56 ∨ 89 = 71 ∧ k = 57 ∨ 89 = 71 ∧ k = 58) := fun k c => by omega
theorem x71_293 : ¬ (90 = 99 ∨ 90 = 101 ∨ 90 = 102 ∨ 110 ≤ 90 ∧ 90 ≤ 114 ∨ 117 ≤ 90 ∧ 90 ≤ 119) := by omega
theorem x71_294 : ∀ k : Nat, ¬ (90 = 71 ∧ k = 56 ∨ 90 = 71 ∧ k = 57 ∨ 90 = 71 ∧ k = 58) := fun k c => by omega
theorem x71_295 : ¬ (91 = 99 ∨ 91 = 101 ∨ 91 = 102 ∨ 110 ≤ 91 ∧ 91 ≤ 114 ∨ 117 ≤ 91 ∧ 91 ≤ 119) := by omega
theorem x71_296 : ∀ k : Nat, ¬ (91 = 71 ∧ k = 56 ∨ 91 = 71 ∧ k = 57 ∨ 91 = 71 ∧ k = 58) := fun k c => by omega
set_option maxRecDepth 4000 in
set_option maxHeartbeats 2000000 in
theorem w_B2 {E : Nat → Nat × (Nat → Int32)} {d : Nat} {Q : ez_Q} {h : ez_H} {fr : Int32} {to : Int32} {pl : Int32} {my : Int32} {ls : Int32} {nn : Int32} {l7 : Option Value} {l8 : Option Value} {l9 : Option Value} {l10 : Option Value} {l11 : Option Value} {l12 : Option Value} {l13 : Option Value} {l14 : Option Value} {l15 : Option Value} {l16 : Option Value} (S : zSh h) {T : Nat → Int} {n c a J : Nat} {l bn : Nat} {s0 : Nat × Nat} (hC : mbC (ez_I h 72) (ez_I h 77) (ez_I h 78) (ez_I h 79) (ez_I h 80) (ez_I h 92) (ez_I h 93) (ez_I h 94) (ez_I h 95) (ez_I h 96) T n c) (hA : mbA fr to pl my T n c a J) (c7 : ctI (ez_I h 97) (bkC T n a J) 286) (c8 : ctI (ez_I h 98) (bkD T n a J) 30) (hlb : lbP (ez_I h 100) (bkL T n a J) (bkC T n a J) 286 15) (hdb : dbP (ez_I h 101) (bkD T n a J)) (hno : (nn.toInt = 1 → sN (bkD T n a J) 30 = 0) ∧ (nn.toInt = 0 → sN (bkD T n a J) 30 ≠ 0)) (hn01 : nn.toInt = 0 ∨ nn.toInt = 1) (hls : ls.toInt = (l : Nat) ∧ l ≤ 1) (hs : mS (ez_I h 75) s0) (hb : (ez_I h 71 16).toInt = (s0.2 : Nat)) (hg : aR (ez_I h 75) 8000 (-128) 127) (hbn : (ez_I h 71 15).toInt = (bn : Nat) ∧ bn ≤ 9) (hr : s0.2 + 50 + 8 * (bkY T n a J) ≤ 48800) (K : ∀ h2, zW (fun q k => q = 71 ∧ k = 15 ∨ q = 71 ∧ k = 16 ∨ q = 71 ∧ k = 56 ∨ q = 71 ∧ k = 57 ∨ q = 71 ∧ k = 58) (fun q => q = 75 ∨ 83 ≤ q ∧ q ≤ 91 ∨ q = 99 ∨ 101 ≤ q ∧ q ≤ 119) (fun _ => False) h h2 → (bkS T n a J l s0).2 ≤ s0.2 + 42 + 8 * (bkY T n a J) → mst (ez_I h2 75) (ez_I h2 71 16).toInt (bkS T n a J l s0) → aR (ez_I h2 75) 8000 (-128) 127 → (ez_I h2 71 15).toInt = (bn : Int) + 1 → mbk (ez_I h2 83) (ez_I h2 84) (ez_I h2 85) (ez_I h2 86) (ez_I h2 87) (ez_I h2 88) (ez_I h2 89) (ez_I h2 90) (ez_I h2 91) (ez_I h 83) (ez_I h 84) (ez_I h 85) (ez_I h 86) (ez_I h 87) (ez_I h 88) (ez_I h 89) (ez_I h 90) (ez_I h 91) T n a J s0.2 bn → Q (.inl none) h2) : pw E (d + 2) 44 223 [some (.ref 71), some (.int fr), some (.int to), some (.int pl), some (.int my), some (.int ls), some (.int nn), l7, l8, l9, l10, l11, l12, l13, l14, l15, l16] [] h Q := by
  have gfr := z_rng fr
  have gto := z_rng to
  have gpl := z_rng pl
  have gmy := z_rng my
  have gls := z_rng ls
  have gnn := z_rng nn
  have t93 := hC.2.2.2.2.2.2.2.2.1
  have t95 := hC.2.2.2.2.2.2.2.2.2.2.1
  obtain ⟨_, _, _, aj6, _⟩ := id hA
  have hbc : ∀ z, (bkC T n a J) z ≤ 601 := fun z => by have h9 := cL_le (aM T n) (dI T n) a J z; have h8 : (bkC T n a J) z = cL (aM T n) (dI T n) a J z := rfl; omega
  have hbd : ∀ z, (bkD T n a J) z ≤ 601 := fun z => by have h9 := cD_le (dI T n) a J z; have h8 : (bkD T n a J) z = cD (dI T n) a J z := rfl; omega
  obtain ⟨hn1, hn0⟩ := hno
  have F := zW_refl (fun q k => q = 71 ∧ k = 56 ∨ q = 71 ∧ k = 57 ∨ q = 71 ∧ k = 58) (fun q => q = 99 ∨ q = 101 ∨ q = 102 ∨ 110 ≤ q ∧ q ≤ 114 ∨ 117 ≤ q ∧ q ≤ 119) (fun _ => False) h
  apply ez_Wp_in
  show ez_gw _ _ _ _ _ _ (cz_44) _ _ _ _ _
  refine gw_skip _ ?_
  have r1 := z_rng (ez_I h 71 56)
  have r2 := z_rng (ez_I h 71 57)
  have r3 := z_rng (ez_I h 71 58)
  refine gw_ld rfl rfl ?_
  refine gw_ld rfl rfl ?_
  refine z_gR (q := 100) (zT S (by decide) rfl) (zRf S (by decide) (by decide) rfl) (by decide) ?_
  refine gw_ld rfl rfl ?_
  refine z_gR (q := 101) (zT S (by decide) rfl) (zRf S (by decide) (by decide) rfl) (by decide) ?_
  refine z_cl rfl rfl rfl rfl rfl rfl rfl rfl rfl rfl rfl (zT S (by decide) rfl) ?_
  refine d_cost (u := 100) (w := 101) (cl := (bkC T n a J)) (cd := (bkD T n a J)) S (nu := 288) (nw := 30) (fun _ S => ⟨zT S (by decide) rfl, zN S (by decide) rfl⟩) (fun _ S => ⟨zT S (by decide) rfl, zN S (by decide) rfl⟩) (by omega) (by rw [(show ez_I h 97 = ez_I h 97 from zW_fn F 97 x71_238 x71_239)]; exact c7) (by rw [(show ez_I h 98 = ez_I h 98 from zW_fn F 98 x71_240 x71_241)]; exact c8) hbc hbd (hlb.2.1) (hdb.2.1) (by rw [(show ez_I h 93 = ez_I h 93 from zW_fn F 93 x71_242 x71_243)]; exact t93) (by rw [(show ez_I h 95 = ez_I h 95 from zW_fn F 95 x71_244 x71_245)]; exact t95) (fun lg4 k5 => ?_)
  rw [sNm_eq (c := (bkC T n a J)) (f := fun i => nL (ez_I h 100) i + exL i) (g := fun i => (bkL T n a J) i + exL i) (n := 286) (fun q hq => by show nL (ez_I h 100) q + exL q = _; rw [hlb.1 q hq]), sNm_eq (c := (bkD T n a J)) (f := fun i => nL (ez_I h 101) i + DEf i) (g := fun i => LNf (bkD T n a J) 30 15 i + DEf i) (n := 30) (fun q hq => by show nL (ez_I h 101) q + DEf q = _; rw [hdb.1 q hq])] at k5
  refine gw_st rfl rfl rfl ?_
  show ez_gw _ _ _ _ _ _ _ _ [some (.ref 71), some (.int fr), some (.int to), some (.int pl), some (.int my), some (.int ls), some (.int nn), some (.long lg4), none, l9, l10, l11, l12, l13, l14, l15, l16] _ _ _
  refine gw_ld rfl rfl ?_
  refine z_b1 (fun c6 => ?_) (fun c6 => ?_)
  · have c6 : nn.toInt = 0 := c6
    refine gw_skip _ ?_
    have A_eb : lbP (ez_I h 101) (bkE T n a J) (bkD T n a J) 30 15 := dbP_z hdb (hn0 (by omega))
    refine gw_ld rfl rfl ?_
    refine z_cl rfl rfl rfl rfl rfl rfl rfl rfl rfl rfl rfl (zT S (by decide) rfl) ?_
    have hl0 : lbP (ez_I h 100) (bkL T n a J) (bkC T n a J) 286 15 := by rw [(show ez_I h 100 = ez_I h 100 from zW_fn F 100 x71_246 x71_247)]; exact hlb
    refine d_tellL S hl0.2.1 A_eb.2.1 (fun h7 F8 c9 k10 k11 k12 k13 k14 k15 k16 k17 => ?_)
    have hre := row_eq (L1 := nL (ez_I h 100)) (L2 := nL (ez_I h 101)) (M1 := (bkL T n a J)) (M2 := (bkE T n a J)) hl0.1 A_eb.1 k14
    have hcr : c9 = (bkR T n a J) := row_R hl0.1 A_eb.1 k14 k13 (by omega)
    rw [hre.2.2.2.2, hcr] at k16
    have hte : teI (ez_I h7 117) (ez_I h7 118) (rowF (bkL T n a J) (bkE T n a J)) (rowM (bkL T n a J) (bkE T n a J)) (bkR T n a J) := by
      rw [← hcr]
      exact fun i hi => by rw [← (hre.2.2.2.1 i hi).1, ← (hre.2.2.2.1 i hi).2]; exact k15 i hi
    have hltr : ltrP (rowF (bkL T n a J) (bkE T n a J)) (rowM (bkL T n a J) (bkE T n a J)) (bkR T n a J) := ⟨by rw [← hcr]; exact hre.2.2.1, by omega⟩
    have hmt : mbT (ez_I h7 71 56) (ez_I h7 71 57) (ez_I h7 71 58) T n a J := ⟨by omega, k11.trans (by rw [hre.1.1]), k12.trans (by rw [hre.1.2.1])⟩
    clear hre k11 k12 k13 k14 k15
    have S18 := zW_sh F8 S
    have F19 := zW_tr F (zW_mono F8 (x71_248) (x71_249) (x71_250))
    have r20 := z_rng (ez_I h7 71 56)
    have r21 := z_rng (ez_I h7 71 57)
    have r22 := z_rng (ez_I h7 71 58)
    have A23 : dbP (ez_I h7 101) (bkD T n a J) := by rw [zW_fn F8 101 (by decide) (x71_251)]; exact hdb
    have A24 : lbP (ez_I h7 101) (bkE T n a J) (bkD T n a J) 30 15 := by rw [zW_fn F8 101 (by decide) (x71_251)]; exact A_eb
    have htc9 : ∀ z, (tC (rowF (bkL T n a J) (bkE T n a J)) (rowM (bkL T n a J) (bkE T n a J)) (bkR T n a J)) z ≤ 316 := fun z => Nat.le_trans (tC_le _ _ _ z) hltr.2
    refine gw_ld rfl rfl ?_
    refine gw_ld rfl rfl ?_
    refine z_gR (q := 99) (zT S18 (by decide) rfl) (zRf S18 (by decide) (by decide) rfl) (by decide) ?_
    refine z_C (m := 19) rfl rfl (fun x25 ex25 => ?_)
    refine z_C (m := 7) rfl rfl (fun x26 ex26 => ?_)
    refine gw_ld rfl rfl ?_
    refine z_gR (q := 102) (zT S18 (by decide) rfl) (zRf S18 (by decide) (by decide) rfl) (by decide) ?_
    refine z_cl rfl rfl rfl rfl rfl rfl rfl rfl rfl rfl rfl (zT S18 (by decide) rfl) ?_
    have hct : ctI (ez_I h7 99) (tC (rowF (bkL T n a J) (bkE T n a J)) (rowM (bkL T n a J) (bkE T n a J)) (bkR T n a J)) 19 := k16
    refine m_lenF (u := 99) (w := 102) (al := x25) (li := x26) (mx := 1000) S18 (nu := 19) (nw := 19) (fun _ S => ⟨zT S (by decide) rfl, zN S (by decide) rfl⟩) (fun _ S => ⟨zT S (by decide) rfl, zN S (by decide) rfl⟩) (by decide) (by omega) (by omega) (by rw [show x25.toInt.toNat = 19 by omega]; exact ctI_aR hct (fun z => by have := htc9 z; omega)) (by decide) (by rw [show x25.toInt.toNat = 19 by omega]; decide) (by rw [show x25.toInt.toNat = 19 by omega, show x26.toInt.toNat = 7 by omega]; have := poC_le2 (ez_I h7 99) 19; show _ ≤ (128 : Int); omega) (fun h27 K28 k30 => ?_)
    rw [show x25.toInt.toNat = 19 by omega, show x26.toInt.toNat = 7 by omega] at k30
    have F29 := zW_ofG K28
    obtain ⟨ln31, ln32, ln33, ln34⟩ := ln_all (nw := 19) k30 (fun q a b => by omega) hct (fun q _ => by have := htc9 q; omega) (by decide) (by decide)
    clear hct
    have F35 : zW (fun _ _ => False) (fun q => 110 ≤ q ∧ q ≤ 114 ∨ q = 102) (fun _ => False) h7 h27 := zW_mono F29 (fun q k hk => hk.2.elim) (fun q hk => hk) (fun q hk => hk)
    have S36 := zW_sh F35 S18
    have F37 := zW_tr F19 (zW_mono F35 (x71_252) (x71_253) (x71_250))
    have f38 : ez_I h27 71 56 = (ez_I h7 71 56) := (zW_f F35 (by decide) (fun c => c)).trans (rfl)
    have f39 : ez_I h27 71 57 = (ez_I h7 71 57) := (zW_f F35 (by decide) (fun c => c)).trans (rfl)
    have f40 : ez_I h27 71 58 = (ez_I h7 71 58) := (zW_f F35 (by decide) (fun c => c)).trans (rfl)
    have A41 : dbP (ez_I h27 101) (bkD T n a J) := by rw [zW_fn F35 101 (by decide) (fun _ c => c)]; exact A23
    have A42 : lbP (ez_I h27 101) (bkE T n a J) (bkD T n a J) 30 15 := by rw [zW_fn F35 101 (by decide) (fun _ c => c)]; exact A24
    have A43 : teI (ez_I h27 117) (ez_I h27 118) (rowF (bkL T n a J) (bkE T n a J)) (rowM (bkL T n a J) (bkE T n a J)) (bkR T n a J) := by rw [zW_fn F35 117 (by decide) (fun _ c => c), zW_fn F35 118 (by decide) (fun _ c => c)]; exact hte
    have A44 : ctI (ez_I h27 99) (tC (rowF (bkL T n a J) (bkE T n a J)) (rowM (bkL T n a J) (bkE T n a J)) (bkR T n a J)) 19 := by rw [zW_fn F35 99 (by decide) (fun _ c => c)]; exact k16
    clear A23
    clear A24
    have A_rb : lbP (ez_I h27 102) (bkA T n a J) (tC (rowF (bkL T n a J) (bkE T n a J)) (rowM (bkL T n a J) (bkE T n a J)) (bkR T n a J)) 19 7 := ⟨ln31, ln32, ln33⟩
    have t45 := congrArg Int32.toInt (f38)
    have t46 := congrArg Int32.toInt (f39)
    have t47 := congrArg Int32.toInt (f40)
    suffices tl : pw E (d + 2) 44 269 [some (.ref 71), some (.int fr), some (.int to), some (.int pl), some (.int my), some (.int ls), some (.int nn), some (.long lg4), none, l9, l10, l11, l12, l13, l14, l15, l16] [] h27 Q from ez_Wp_at tl rfl
    refine w_C1 (T := T) (n := n) (c := c) (a := a) (J := J) (l := l) (bn := bn) (s0 := s0) (fr := fr) (to := to) (pl := pl) (my := my) (ls := ls) (nn6 := nn) (dy := lg4) (l9 := l9) (l10 := l10) (l11 := l11) (l12 := l12) (l13 := l13) (l14 := l14) (l15 := l15) (l16 := l16) S36 (by rw [(show ez_I h27 72 = ez_I h 72 from zW_fn F37 72 x71_254 x71_255), (show ez_I h27 77 = ez_I h 77 from zW_fn F37 77 x71_256 x71_257), (show ez_I h27 78 = ez_I h 78 from zW_fn F37 78 x71_258 x71_259), (show ez_I h27 79 = ez_I h 79 from zW_fn F37 79 x71_260 x71_261), (show ez_I h27 80 = ez_I h 80 from zW_fn F37 80 x71_262 x71_263), (show ez_I h27 92 = ez_I h 92 from zW_fn F37 92 x71_264 x71_265), (show ez_I h27 93 = ez_I h 93 from zW_fn F37 93 x71_242 x71_243), (show ez_I h27 94 = ez_I h 94 from zW_fn F37 94 x71_266 x71_267), (show ez_I h27 95 = ez_I h 95 from zW_fn F37 95 x71_244 x71_245), (show ez_I h27 96 = ez_I h 96 from zW_fn F37 96 x71_268 x71_269)]; exact hC) hA (show mbF (ez_I h27 100) (ez_I h27 101) (ez_I h27 102) (ez_I h27 117) (ez_I h27 118) T n a J from ⟨by rw [(show ez_I h27 100 = ez_I h 100 from zW_fn F37 100 x71_246 x71_247)]; exact hlb, A42, A_rb, A43, hltr⟩) (by rw [(show ez_I h27 71 56 = (ez_I h7 71 56) from f38), (show ez_I h27 71 57 = (ez_I h7 71 57) from f39), (show ez_I h27 71 58 = (ez_I h7 71 58) from f40)]; exact hmt) (by omega) A44 (by rw [(show ez_I h27 97 = ez_I h 97 from zW_fn F37 97 x71_238 x71_239)]; exact c7) (by rw [(show ez_I h27 98 = ez_I h 98 from zW_fn F37 98 x71_240 x71_241)]; exact c8) hls (by rw [(show ez_I h27 75 = ez_I h 75 from zW_fn F37 75 x71_270 x71_271)]; exact hs) (by rw [(show ez_I h27 71 16 = ez_I h 71 16 from zW_f F37 x71_272 x71_273)]; exact hb) (by rw [(show ez_I h27 75 = ez_I h 75 from zW_fn F37 75 x71_270 x71_271)]; exact hg) (by rw [(show ez_I h27 71 15 = ez_I h 71 15 from zW_f F37 x71_272 x71_274)]; exact hbn) hr (fun h48 F49 k50 k51 k52 k53 k54 => ?_)
    have F55 := zW_tr (zW_mono F37 x71_275 x71_276 x71_250) (zW_mono F49 x71_277 x71_278 x71_250)
    exact K _ F55 k50 k51 k52 k53 (by have b1 := k54; rw [(show ez_I h27 83 = ez_I h 83 from zW_fn F37 83 x71_279 x71_280), (show ez_I h27 84 = ez_I h 84 from zW_fn F37 84 x71_281 x71_282), (show ez_I h27 85 = ez_I h 85 from zW_fn F37 85 x71_283 x71_284), (show ez_I h27 86 = ez_I h 86 from zW_fn F37 86 x71_285 x71_286), (show ez_I h27 87 = ez_I h 87 from zW_fn F37 87 x71_287 x71_288), (show ez_I h27 88 = ez_I h 88 from zW_fn F37 88 x71_289 x71_290), (show ez_I h27 89 = ez_I h 89 from zW_fn F37 89 x71_291 x71_292), (show ez_I h27 90 = ez_I h 90 from zW_fn F37 90 x71_293 x71_294), (show ez_I h27 91 = ez_I h 91 from zW_fn F37 91 x71_295 x71_296)] at b1; exact b1)
  · have c6 : ¬ (nn.toInt = 0) := c6
    refine gw_ld rfl rfl ?_
    refine z_gR (q := 101) (zT S (by decide) rfl) (zRf S (by decide) (by decide) rfl) (by decide) ?_
    refine z_C (m := 0) rfl rfl (fun x56 ex56 => ?_)
    refine z_C (m := 1) rfl rfl (fun x57 ex57 => ?_)
    refine z_is (n := 30) (zT S (by decide) rfl) (zN S (by decide) rfl) (by omega) (fun h58 e59 => ?_)
    have S60 := zSh_set S e59
    have F61 := zW_setA F e59 (by decide)
    have f62 : ez_I h58 71 56 = (ez_I h 71 56) := (zI_ne e59 (by omega)).trans (rfl)
    have f63 : ez_I h58 71 57 = (ez_I h 71 57) := (zI_ne e59 (by omega)).trans (rfl)
    have f64 : ez_I h58 71 58 = (ez_I h 71 58) := (zI_ne e59 (by omega)).trans (rfl)
    have A65 : lbP (ez_I h58 101) (bkE T n a J) (bkD T n a J) 30 15 := eb_1 hdb (hn1 (by omega)) e59 (by omega) (by omega)
    refine gw_ld rfl rfl ?_
    have t66 := congrArg Int32.toInt (f62)
    have t67 := congrArg Int32.toInt (f63)
    have t68 := congrArg Int32.toInt (f64)
    refine z_cl rfl rfl rfl rfl rfl rfl rfl rfl rfl rfl rfl (zT S60 (by decide) rfl) ?_
    have hl0 : lbP (ez_I h58 100) (bkL T n a J) (bkC T n a J) 286 15 := by rw [(show ez_I h58 100 = ez_I h 100 from zW_fn F61 100 x71_246 x71_247)]; exact hlb
    refine d_tellL S60 hl0.2.1 A65.2.1 (fun h69 F70 c71 k72 k73 k74 k75 k76 k77 k78 k79 => ?_)
    have hre := row_eq (L1 := nL (ez_I h58 100)) (L2 := nL (ez_I h58 101)) (M1 := (bkL T n a J)) (M2 := (bkE T n a J)) hl0.1 A65.1 k76
    have hcr : c71 = (bkR T n a J) := row_R hl0.1 A65.1 k76 k75 (by omega)
    rw [hre.2.2.2.2, hcr] at k78
    have hte : teI (ez_I h69 117) (ez_I h69 118) (rowF (bkL T n a J) (bkE T n a J)) (rowM (bkL T n a J) (bkE T n a J)) (bkR T n a J) := by
      rw [← hcr]
      exact fun i hi => by rw [← (hre.2.2.2.1 i hi).1, ← (hre.2.2.2.1 i hi).2]; exact k77 i hi
    have hltr : ltrP (rowF (bkL T n a J) (bkE T n a J)) (rowM (bkL T n a J) (bkE T n a J)) (bkR T n a J) := ⟨by rw [← hcr]; exact hre.2.2.1, by omega⟩
    have hmt : mbT (ez_I h69 71 56) (ez_I h69 71 57) (ez_I h69 71 58) T n a J := ⟨by omega, k73.trans (by rw [hre.1.1]), k74.trans (by rw [hre.1.2.1])⟩
    clear hre k73 k74 k75 k76 k77
    have S80 := zW_sh F70 S60
    have F81 := zW_tr F61 (zW_mono F70 (x71_248) (x71_249) (x71_250))
    have r82 := z_rng (ez_I h69 71 56)
    have r83 := z_rng (ez_I h69 71 57)
    have r84 := z_rng (ez_I h69 71 58)
    have A85 : lbP (ez_I h69 101) (bkE T n a J) (bkD T n a J) 30 15 := by rw [zW_fn F70 101 (by decide) (x71_251)]; exact A65
    clear A65
    have htc9 : ∀ z, (tC (rowF (bkL T n a J) (bkE T n a J)) (rowM (bkL T n a J) (bkE T n a J)) (bkR T n a J)) z ≤ 316 := fun z => Nat.le_trans (tC_le _ _ _ z) hltr.2
    refine gw_ld rfl rfl ?_
    refine gw_ld rfl rfl ?_
    refine z_gR (q := 99) (zT S80 (by decide) rfl) (zRf S80 (by decide) (by decide) rfl) (by decide) ?_
    refine z_C (m := 19) rfl rfl (fun x86 ex86 => ?_)
    refine z_C (m := 7) rfl rfl (fun x87 ex87 => ?_)
    refine gw_ld rfl rfl ?_
    refine z_gR (q := 102) (zT S80 (by decide) rfl) (zRf S80 (by decide) (by decide) rfl) (by decide) ?_
    refine z_cl rfl rfl rfl rfl rfl rfl rfl rfl rfl rfl rfl (zT S80 (by decide) rfl) ?_
    have hct : ctI (ez_I h69 99) (tC (rowF (bkL T n a J) (bkE T n a J)) (rowM (bkL T n a J) (bkE T n a J)) (bkR T n a J)) 19 := k78
    refine m_lenF (u := 99) (w := 102) (al := x86) (li := x87) (mx := 1000) S80 (nu := 19) (nw := 19) (fun _ S => ⟨zT S (by decide) rfl, zN S (by decide) rfl⟩) (fun _ S => ⟨zT S (by decide) rfl, zN S (by decide) rfl⟩) (by decide) (by omega) (by omega) (by rw [show x86.toInt.toNat = 19 by omega]; exact ctI_aR hct (fun z => by have := htc9 z; omega)) (by decide) (by rw [show x86.toInt.toNat = 19 by omega]; decide) (by rw [show x86.toInt.toNat = 19 by omega, show x87.toInt.toNat = 7 by omega]; have := poC_le2 (ez_I h69 99) 19; show _ ≤ (128 : Int); omega) (fun h88 K89 k91 => ?_)
    rw [show x86.toInt.toNat = 19 by omega, show x87.toInt.toNat = 7 by omega] at k91
    have F90 := zW_ofG K89
    obtain ⟨ln92, ln93, ln94, ln95⟩ := ln_all (nw := 19) k91 (fun q a b => by omega) hct (fun q _ => by have := htc9 q; omega) (by decide) (by decide)
    clear hct
    have F96 : zW (fun _ _ => False) (fun q => 110 ≤ q ∧ q ≤ 114 ∨ q = 102) (fun _ => False) h69 h88 := zW_mono F90 (fun q k hk => hk.2.elim) (fun q hk => hk) (fun q hk => hk)
    have S97 := zW_sh F96 S80
    have F98 := zW_tr F81 (zW_mono F96 (x71_252) (x71_253) (x71_250))
    have f99 : ez_I h88 71 56 = (ez_I h69 71 56) := (zW_f F96 (by decide) (fun c => c)).trans (rfl)
    have f100 : ez_I h88 71 57 = (ez_I h69 71 57) := (zW_f F96 (by decide) (fun c => c)).trans (rfl)
    have f101 : ez_I h88 71 58 = (ez_I h69 71 58) := (zW_f F96 (by decide) (fun c => c)).trans (rfl)
    have A102 : lbP (ez_I h88 101) (bkE T n a J) (bkD T n a J) 30 15 := by rw [zW_fn F96 101 (by decide) (fun _ c => c)]; exact A85
    have A103 : teI (ez_I h88 117) (ez_I h88 118) (rowF (bkL T n a J) (bkE T n a J)) (rowM (bkL T n a J) (bkE T n a J)) (bkR T n a J) := by rw [zW_fn F96 117 (by decide) (fun _ c => c), zW_fn F96 118 (by decide) (fun _ c => c)]; exact hte
    have A104 : ctI (ez_I h88 99) (tC (rowF (bkL T n a J) (bkE T n a J)) (rowM (bkL T n a J) (bkE T n a J)) (bkR T n a J)) 19 := by rw [zW_fn F96 99 (by decide) (fun _ c => c)]; exact k78
    clear A85
    have A_rb : lbP (ez_I h88 102) (bkA T n a J) (tC (rowF (bkL T n a J) (bkE T n a J)) (rowM (bkL T n a J) (bkE T n a J)) (bkR T n a J)) 19 7 := ⟨ln92, ln93, ln94⟩
    have t105 := congrArg Int32.toInt (f99)
    have t106 := congrArg Int32.toInt (f100)
    have t107 := congrArg Int32.toInt (f101)
    suffices tl : pw E (d + 2) 44 269 [some (.ref 71), some (.int fr), some (.int to), some (.int pl), some (.int my), some (.int ls), some (.int nn), some (.long lg4), none, l9, l10, l11, l12, l13, l14, l15, l16] [] h88 Q from ez_Wp_at tl rfl
    refine w_C1 (T := T) (n := n) (c := c) (a := a) (J := J) (l := l) (bn := bn) (s0 := s0) (fr := fr) (to := to) (pl := pl) (my := my) (ls := ls) (nn6 := nn) (dy := lg4) (l9 := l9) (l10 := l10) (l11 := l11) (l12 := l12) (l13 := l13) (l14 := l14) (l15 := l15) (l16 := l16) S97 (by rw [(show ez_I h88 72 = ez_I h 72 from zW_fn F98 72 x71_254 x71_255), (show ez_I h88 77 = ez_I h 77 from zW_fn F98 77 x71_256 x71_257), (show ez_I h88 78 = ez_I h 78 from zW_fn F98 78 x71_258 x71_259), (show ez_I h88 79 = ez_I h 79 from zW_fn F98 79 x71_260 x71_261), (show ez_I h88 80 = ez_I h 80 from zW_fn F98 80 x71_262 x71_263), (show ez_I h88 92 = ez_I h 92 from zW_fn F98 92 x71_264 x71_265), (show ez_I h88 93 = ez_I h 93 from zW_fn F98 93 x71_242 x71_243), (show ez_I h88 94 = ez_I h 94 from zW_fn F98 94 x71_266 x71_267), (show ez_I h88 95 = ez_I h 95 from zW_fn F98 95 x71_244 x71_245), (show ez_I h88 96 = ez_I h 96 from zW_fn F98 96 x71_268 x71_269)]; exact hC) hA (show mbF (ez_I h88 100) (ez_I h88 101) (ez_I h88 102) (ez_I h88 117) (ez_I h88 118) T n a J from ⟨by rw [(show ez_I h88 100 = ez_I h 100 from zW_fn F98 100 x71_246 x71_247)]; exact hlb, A102, A_rb, A103, hltr⟩) (by rw [(show ez_I h88 71 56 = (ez_I h69 71 56) from f99), (show ez_I h88 71 57 = (ez_I h69 71 57) from f100), (show ez_I h88 71 58 = (ez_I h69 71 58) from f101)]; exact hmt) (by omega) A104 (by rw [(show ez_I h88 97 = ez_I h 97 from zW_fn F98 97 x71_238 x71_239)]; exact c7) (by rw [(show ez_I h88 98 = ez_I h 98 from zW_fn F98 98 x71_240 x71_241)]; exact c8) hls (by rw [(show ez_I h88 75 = ez_I h 75 from zW_fn F98 75 x71_270 x71_271)]; exact hs) (by rw [(show ez_I h88 71 16 = ez_I h 71 16 from zW_f F98 x71_272 x71_273)]; exact hb) (by rw [(show ez_I h88 75 = ez_I h 75 from zW_fn F98 75 x71_270 x71_271)]; exact hg) (by rw [(show ez_I h88 71 15 = ez_I h 71 15 from zW_f F98 x71_272 x71_274)]; exact hbn) hr (fun h108 F109 k110 k111 k112 k113 k114 => ?_)
    have F115 := zW_tr (zW_mono F98 x71_275 x71_276 x71_250) (zW_mono F109 x71_277 x71_278 x71_250)
    exact K _ F115 k110 k111 k112 k113 (by have b1 := k114; rw [(show ez_I h88 83 = ez_I h 83 from zW_fn F98 83 x71_279 x71_280), (show ez_I h88 84 = ez_I h 84 from zW_fn F98 84 x71_281 x71_282), (show ez_I h88 85 = ez_I h 85 from zW_fn F98 85 x71_283 x71_284), (show ez_I h88 86 = ez_I h 86 from zW_fn F98 86 x71_285 x71_286), (show ez_I h88 87 = ez_I h 87 from zW_fn F98 87 x71_287 x71_288), (show ez_I h88 88 = ez_I h 88 from zW_fn F98 88 x71_289 x71_290), (show ez_I h88 89 = ez_I h 89 from zW_fn F98 89 x71_291 x71_292), (show ez_I h88 90 = ez_I h 90 from zW_fn F98 90 x71_293 x71_294), (show ez_I h88 91 = ez_I h 91 from zW_fn F98 91 x71_295 x71_296)] at b1; exact b1)
end
section
/-! PRINTED by wip/pack: the model writes a block: lengths -/
theorem x71_297 : ¬ (72 = 100 ∨ 72 = 101 ∨ 110 ≤ 72 ∧ 72 ≤ 114) := by omega
theorem x71_298 : ¬ (77 = 100 ∨ 77 = 101 ∨ 110 ≤ 77 ∧ 77 ≤ 114) := by omega
theorem x71_299 : ¬ (78 = 100 ∨ 78 = 101 ∨ 110 ≤ 78 ∧ 78 ≤ 114) := by omega
theorem x71_300 : ¬ (79 = 100 ∨ 79 = 101 ∨ 110 ≤ 79 ∧ 79 ≤ 114) := by omega
theorem x71_301 : ¬ (80 = 100 ∨ 80 = 101 ∨ 110 ≤ 80 ∧ 80 ≤ 114) := by omega
theorem x71_302 : ¬ (92 = 100 ∨ 92 = 101 ∨ 110 ≤ 92 ∧ 92 ≤ 114) := by omega
theorem x71_303 : ¬ (93 = 100 ∨ 93 = 101 ∨ 110 ≤ 93 ∧ 93 ≤ 114) := by omega
theorem x71_304 : ¬ (94 = 100 ∨ 94 = 101 ∨ 110 ≤ 94 ∧ 94 ≤ 114) := by omega
theorem x71_305 : ¬ (95 = 100 ∨ 95 = 101 ∨ 110 ≤ 95 ∧ 95 ≤ 114) := by omega
theorem x71_306 : ¬ (96 = 100 ∨ 96 = 101 ∨ 110 ≤ 96 ∧ 96 ≤ 114) := by omega
theorem x71_307 : ¬ (97 = 100 ∨ 97 = 101 ∨ 110 ≤ 97 ∧ 97 ≤ 114) := by omega
theorem x71_308 : ¬ (98 = 100 ∨ 98 = 101 ∨ 110 ≤ 98 ∧ 98 ≤ 114) := by omega
theorem x71_309 : ¬ (75 = 100 ∨ 75 = 101 ∨ 110 ≤ 75 ∧ 75 ≤ 114) := by omega
theorem x71_310 : ¬ (71 = 100 ∨ 71 = 101 ∨ 110 ≤ 71 ∧ 71 ≤ 114) := by omega
theorem x71_311 : ∀ q k : Nat, (False) → (q = 71 ∧ k = 15 ∨ q = 71 ∧ k = 16 ∨ q = 71 ∧ k = 56 ∨ q = 71 ∧ k = 57 ∨ q = 71 ∧ k = 58) := fun q k hk => hk.elim
theorem x71_312 : ∀ q : Nat, (q = 100 ∨ q = 101 ∨ 110 ≤ q ∧ q ≤ 114) → (q = 75 ∨ 83 ≤ q ∧ q ≤ 91 ∨ 99 ≤ q ∧ q ≤ 119) := fun q hk => hk.elim (fun g => (.inr (.inr (show 99 ≤ q ∧ q ≤ 119 by omega)))) (fun hk => hk.elim (fun g => (.inr (.inr (show 99 ≤ q ∧ q ≤ 119 by omega)))) (fun hk => (.inr (.inr (show 99 ≤ q ∧ q ≤ 119 by omega)))))
theorem x71_313 : ∀ q : Nat, (False) → (False) := fun q hk => hk.elim
theorem x71_314 : ∀ q k : Nat, (q = 71 ∧ k = 15 ∨ q = 71 ∧ k = 16 ∨ q = 71 ∧ k = 56 ∨ q = 71 ∧ k = 57 ∨ q = 71 ∧ k = 58) → (q = 71 ∧ k = 15 ∨ q = 71 ∧ k = 16 ∨ q = 71 ∧ k = 56 ∨ q = 71 ∧ k = 57 ∨ q = 71 ∧ k = 58) := fun q k hk => hk.elim (fun g => (.inl g)) (fun hk => hk.elim (fun g => (.inr (.inl g))) (fun hk => hk.elim (fun g => (.inr (.inr (.inl g)))) (fun hk => hk.elim (fun g => (.inr (.inr (.inr (.inl g))))) (fun hk => (.inr (.inr (.inr (.inr hk))))))))
theorem x71_315 : ∀ q : Nat, (q = 75 ∨ 83 ≤ q ∧ q ≤ 91 ∨ q = 99 ∨ 101 ≤ q ∧ q ≤ 119) → (q = 75 ∨ 83 ≤ q ∧ q ≤ 91 ∨ 99 ≤ q ∧ q ≤ 119) := fun q hk => hk.elim (fun g => (.inl g)) (fun hk => hk.elim (fun g => (.inr (.inl g))) (fun hk => hk.elim (fun g => (.inr (.inr (show 99 ≤ q ∧ q ≤ 119 by omega)))) (fun hk => (.inr (.inr (show 99 ≤ q ∧ q ≤ 119 by omega))))))
theorem x71_316 : ¬ (83 = 100 ∨ 83 = 101 ∨ 110 ≤ 83 ∧ 83 ≤ 114) := by omega
theorem x71_317 : ¬ (84 = 100 ∨ 84 = 101 ∨ 110 ≤ 84 ∧ 84 ≤ 114) := by omega
theorem x71_318 : ¬ (85 = 100 ∨ 85 = 101 ∨ 110 ≤ 85 ∧ 85 ≤ 114) := by omega
theorem x71_319 : ¬ (86 = 100 ∨ 86 = 101 ∨ 110 ≤ 86 ∧ 86 ≤ 114) := by omega
theorem x71_320 : ¬ (87 = 100 ∨ 87 = 101 ∨ 110 ≤ 87 ∧ 87 ≤ 114) := by omega
theorem x71_321 : ¬ (88 = 100 ∨ 88 = 101 ∨ 110 ≤ 88 ∧ 88 ≤ 114) := by omega
theorem x71_322 : ¬ (89 = 100 ∨ 89 = 101 ∨ 110 ≤ 89 ∧ 89 ≤ 114) := by omega
theorem x71_323 : ¬ (90 = 100 ∨ 90 = 101 ∨ 110 ≤ 90 ∧ 90 ≤ 114) := by omega
theorem x71_324 : ¬ (91 = 100 ∨ 91 = 101 ∨ 110 ≤ 91 ∧ 91 ≤ 114) := by omega
set_option maxRecDepth 4000 in
set_option maxHeartbeats 2000000 in
theorem w_B1_L0 {E : Nat → Nat × (Nat → Int32)} {d : Nat} {Q : ez_Q} {h : ez_H} {fr : Int32} {to : Int32} {pl : Int32} {my : Int32} {ls : Int32} {l6 : Option Value} {l7 : Option Value} {l8 : Option Value} {l9 : Option Value} {l10 : Option Value} {l11 : Option Value} {l12 : Option Value} {l13 : Option Value} {l14 : Option Value} {l15 : Option Value} {l16 : Option Value} (S : zSh h) {T : Nat → Int} {n c a J : Nat} {l bn : Nat} {s0 : Nat × Nat} (hC : mbC (ez_I h 72) (ez_I h 77) (ez_I h 78) (ez_I h 79) (ez_I h 80) (ez_I h 92) (ez_I h 93) (ez_I h 94) (ez_I h 95) (ez_I h 96) T n c) (hA : mbA fr to pl my T n c a J) (c7 : ctI (ez_I h 97) (bkC T n a J) 286) (c8 : ctI (ez_I h 98) (bkD T n a J) 30) (hls : ls.toInt = (l : Nat) ∧ l ≤ 1) (hs : mS (ez_I h 75) s0) (hb : (ez_I h 71 16).toInt = (s0.2 : Nat)) (hg : aR (ez_I h 75) 8000 (-128) 127) (hbn : (ez_I h 71 15).toInt = (bn : Nat) ∧ bn ≤ 9) (hr : s0.2 + 50 + 8 * (bkY T n a J) ≤ 48800) (K : ∀ h2, zW (fun q k => q = 71 ∧ k = 15 ∨ q = 71 ∧ k = 16 ∨ q = 71 ∧ k = 56 ∨ q = 71 ∧ k = 57 ∨ q = 71 ∧ k = 58) (fun q => q = 75 ∨ 83 ≤ q ∧ q ≤ 91 ∨ 99 ≤ q ∧ q ≤ 119) (fun _ => False) h h2 → (bkS T n a J l s0).2 ≤ s0.2 + 42 + 8 * (bkY T n a J) → mst (ez_I h2 75) (ez_I h2 71 16).toInt (bkS T n a J l s0) → aR (ez_I h2 75) 8000 (-128) 127 → (ez_I h2 71 15).toInt = (bn : Int) + 1 → mbk (ez_I h2 83) (ez_I h2 84) (ez_I h2 85) (ez_I h2 86) (ez_I h2 87) (ez_I h2 88) (ez_I h2 89) (ez_I h2 90) (ez_I h2 91) (ez_I h 83) (ez_I h 84) (ez_I h 85) (ez_I h 86) (ez_I h 87) (ez_I h 88) (ez_I h 89) (ez_I h 90) (ez_I h 91) T n a J s0.2 bn → Q (.inl none) h2) : ∀ N : Nat, (∀ (h2 : ez_H) (nn : Int32) (k : Int32) , zW (fun _ _ => False) (fun q => q = 100 ∨ q = 101 ∨ 110 ≤ q ∧ q ≤ 114) (fun _ => False) h h2 → (0 ≤ k.toInt ∧ k.toInt ≤ 30 ∧ (nn.toInt = 0 ∨ nn.toInt = 1)) → (lbP (ez_I h2 100) (bkL T n a J) (bkC T n a J) 286 15) → (dbP (ez_I h2 101) (bkD T n a J)) → (noF (ez_I h2 101) nn.toInt k.toInt.toNat) → (1000 - k.toInt) < (N : Int) → pw E (d + 2) 44 188 [some (.ref 71), some (.int fr), some (.int to), some (.int pl), some (.int my), some (.int ls), some (.int nn), some (.int k), l8, l9, l10, l11, l12, l13, l14, l15, l16] [] h2 Q) := by
  intro N
  induction N with
  | zero => exact fun h2 nn k  F hinv A_lb A_db A_nz hm => absurd hm (by have w_nn := z_rng nn; have w_k := z_rng k; have gfr := z_rng fr; have gto := z_rng to; have gpl := z_rng pl; have gmy := z_rng my; have gls := z_rng ls; omega)
  | succ N ih =>
    refine fun h2 nn k  F hinv A_lb A_db A_nz hm => ?_
    · skip
      have w_nn := z_rng nn
      have w_k := z_rng k
      have gfr := z_rng fr
      have gto := z_rng to
      have gpl := z_rng pl
      have gmy := z_rng my
      have gls := z_rng ls
      have S2 := zW_sh F S
      apply ez_Wp_in
      show ez_gw _ _ _ _ _ _ (cz_44) _ _ _ _ _
      refine gw_skip _ ?_
      refine gw_ld rfl rfl ?_
      refine z_C (m := 30) rfl rfl (fun x1 ex1 => ?_)
      refine z_b2 (fun c2 => ?_) (fun c2 => ?_)
      · have c2 : x1.toInt ≤ k.toInt := c2
        have nosm := no_sum (by have b1 := A_nz; rw [show k.toInt.toNat = 30 by omega] at b1; exact b1) A_db.2.2.1 A_db.2.2.2
        suffices tl : pw E (d + 2) 44 223 [some (.ref 71), some (.int fr), some (.int to), some (.int pl), some (.int my), some (.int ls), some (.int nn), some (.int k), l8, l9, l10, l11, l12, l13, l14, l15, l16] [] h2 Q from gw_skip _ (ez_Wp_at tl rfl)
        refine w_B2 (T := T) (n := n) (c := c) (a := a) (J := J) (l := l) (bn := bn) (s0 := s0) (fr := fr) (to := to) (pl := pl) (my := my) (ls := ls) (nn := nn) (l7 := some (.int k)) (l8 := l8) (l9 := l9) (l10 := l10) (l11 := l11) (l12 := l12) (l13 := l13) (l14 := l14) (l15 := l15) (l16 := l16) S2 (by rw [(show ez_I h2 72 = ez_I h 72 from zW_fn F 72 x71_297 (fun _ c => c)), (show ez_I h2 77 = ez_I h 77 from zW_fn F 77 x71_298 (fun _ c => c)), (show ez_I h2 78 = ez_I h 78 from zW_fn F 78 x71_299 (fun _ c => c)), (show ez_I h2 79 = ez_I h 79 from zW_fn F 79 x71_300 (fun _ c => c)), (show ez_I h2 80 = ez_I h 80 from zW_fn F 80 x71_301 (fun _ c => c)), (show ez_I h2 92 = ez_I h 92 from zW_fn F 92 x71_302 (fun _ c => c)), (show ez_I h2 93 = ez_I h 93 from zW_fn F 93 x71_303 (fun _ c => c)), (show ez_I h2 94 = ez_I h 94 from zW_fn F 94 x71_304 (fun _ c => c)), (show ez_I h2 95 = ez_I h 95 from zW_fn F 95 x71_305 (fun _ c => c)), (show ez_I h2 96 = ez_I h 96 from zW_fn F 96 x71_306 (fun _ c => c))]; exact hC) hA (by rw [(show ez_I h2 97 = ez_I h 97 from zW_fn F 97 x71_307 (fun _ c => c))]; exact c7) (by rw [(show ez_I h2 98 = ez_I h 98 from zW_fn F 98 x71_308 (fun _ c => c))]; exact c8) A_lb A_db ⟨fun q => nosm.elim (fun z => z.2) (fun z => by omega), fun q => nosm.elim (fun z => by omega) (fun z => z.2)⟩ (by omega) hls (by rw [(show ez_I h2 75 = ez_I h 75 from zW_fn F 75 x71_309 (fun _ c => c))]; exact hs) (by rw [(show ez_I h2 71 16 = ez_I h 71 16 from zW_f F x71_310 (fun c => c))]; exact hb) (by rw [(show ez_I h2 75 = ez_I h 75 from zW_fn F 75 x71_309 (fun _ c => c))]; exact hg) (by rw [(show ez_I h2 71 15 = ez_I h 71 15 from zW_f F x71_310 (fun c => c))]; exact hbn) hr (fun h3 F4 k5 k6 k7 k8 k9 => ?_)
        have F10 := zW_tr (zW_mono F x71_311 x71_312 x71_313) (zW_mono F4 x71_314 x71_315 x71_313)
        exact K _ F10 k5 k6 k7 k8 (by have b1 := k9; rw [(show ez_I h2 83 = ez_I h 83 from zW_fn F 83 x71_316 (fun _ c => c)), (show ez_I h2 84 = ez_I h 84 from zW_fn F 84 x71_317 (fun _ c => c)), (show ez_I h2 85 = ez_I h 85 from zW_fn F 85 x71_318 (fun _ c => c)), (show ez_I h2 86 = ez_I h 86 from zW_fn F 86 x71_319 (fun _ c => c)), (show ez_I h2 87 = ez_I h 87 from zW_fn F 87 x71_320 (fun _ c => c)), (show ez_I h2 88 = ez_I h 88 from zW_fn F 88 x71_321 (fun _ c => c)), (show ez_I h2 89 = ez_I h 89 from zW_fn F 89 x71_322 (fun _ c => c)), (show ez_I h2 90 = ez_I h 90 from zW_fn F 90 x71_323 (fun _ c => c)), (show ez_I h2 91 = ez_I h 91 from zW_fn F 91 x71_324 (fun _ c => c))] at b1; exact b1)
      · have c2 : ¬ (x1.toInt ≤ k.toInt) := c2
        refine gw_ld rfl rfl ?_
        refine z_b1 (fun c11 => ?_) (fun c11 => ?_)
        · have c11 : nn.toInt = 0 := c11
          refine gw_skip _ ?_
          refine z_C (m := 0) rfl rfl (fun x12 ex12 => ?_)
          refine gw_st rfl rfl rfl ?_
          show ez_gw _ _ _ _ _ _ _ _ [some (.ref 71), some (.int fr), some (.int to), some (.int pl), some (.int my), some (.int ls), some (.int x12), some (.int k), l8, l9, l10, l11, l12, l13, l14, l15, l16] _ _ _
          refine z_inc rfl (by rw [show (1 : Int32).toInt = 1 from rfl]; omega) (fun x13 ex13 => ?_)
          rw [show (1 : Int32).toInt = 1 from rfl] at ex13
          show ez_gw _ _ _ _ _ _ _ _ [some (.ref 71), some (.int fr), some (.int to), some (.int pl), some (.int my), some (.int ls), some (.int x12), some (.int x13), l8, l9, l10, l11, l12, l13, l14, l15, l16] _ _ _
          refine z_go ?_
          exact ih h2 x12 x13 F (by omega) A_lb A_db ((by rw [show x13.toInt.toNat = k.toInt.toNat + 1 by omega]; exact .inr ⟨by omega, nz_some A_nz (by omega) (by omega)⟩)) (by omega)
        · have c11 : ¬ (nn.toInt = 0) := c11
          refine gw_ld rfl rfl ?_
          refine z_gR (q := 101) (zT S2 (by decide) rfl) (zRf S2 (by decide) (by decide) rfl) (by decide) ?_
          refine gw_ld rfl rfl ?_
          refine z_ia (n := 30) (zT S2 (by decide) rfl) (zN S2 (by decide) rfl) (by omega) ?_
          generalize ex14 : ez_I h2 101 k.toInt.toNat = x14
          have rx14 := z_rng x14
          have yx14 := A_db.2.1 k.toInt.toNat (by omega)
          rw [ex14] at yx14
          have yz : nL (ez_I h2 101) k.toInt.toNat = x14.toInt.toNat := by show (ez_I h2 101 k.toInt.toNat).toInt.toNat = _; rw [show k.toInt.toNat = k.toInt.toNat by omega, ex14]
          refine z_b1 (fun c15 => ?_) (fun c15 => ?_)
          · have c15 : x14.toInt ≠ 0 := c15
            refine gw_skip _ ?_
            refine z_C (m := 0) rfl rfl (fun x16 ex16 => ?_)
            refine gw_st rfl rfl rfl ?_
            show ez_gw _ _ _ _ _ _ _ _ [some (.ref 71), some (.int fr), some (.int to), some (.int pl), some (.int my), some (.int ls), some (.int x16), some (.int k), l8, l9, l10, l11, l12, l13, l14, l15, l16] _ _ _
            refine z_inc rfl (by rw [show (1 : Int32).toInt = 1 from rfl]; omega) (fun x17 ex17 => ?_)
            rw [show (1 : Int32).toInt = 1 from rfl] at ex17
            show ez_gw _ _ _ _ _ _ _ _ [some (.ref 71), some (.int fr), some (.int to), some (.int pl), some (.int my), some (.int ls), some (.int x16), some (.int x17), l8, l9, l10, l11, l12, l13, l14, l15, l16] _ _ _
            refine z_go ?_
            exact ih h2 x16 x17 F (by omega) A_lb A_db ((by rw [show x17.toInt.toNat = k.toInt.toNat + 1 by omega]; exact .inr ⟨by omega, k.toInt.toNat, by omega, by omega⟩)) (by omega)
          · have c15 : ¬ (x14.toInt ≠ 0) := c15
            refine z_C (m := 1) rfl rfl (fun x18 ex18 => ?_)
            refine z_go ?_
            refine gw_skip _ ?_
            refine gw_st rfl rfl rfl ?_
            show ez_gw _ _ _ _ _ _ _ _ [some (.ref 71), some (.int fr), some (.int to), some (.int pl), some (.int my), some (.int ls), some (.int x18), some (.int k), l8, l9, l10, l11, l12, l13, l14, l15, l16] _ _ _
            refine z_inc rfl (by rw [show (1 : Int32).toInt = 1 from rfl]; omega) (fun x19 ex19 => ?_)
            rw [show (1 : Int32).toInt = 1 from rfl] at ex19
            show ez_gw _ _ _ _ _ _ _ _ [some (.ref 71), some (.int fr), some (.int to), some (.int pl), some (.int my), some (.int ls), some (.int x18), some (.int x19), l8, l9, l10, l11, l12, l13, l14, l15, l16] _ _ _
            refine z_go ?_
            exact ih h2 x18 x19 F (by omega) A_lb A_db ((by rw [show x19.toInt.toNat = k.toInt.toNat + 1 by omega]; exact .inl ⟨by omega, fun j hj => by by_cases q : j = k.toInt.toNat; rw [q]; omega; exact (nz_all A_nz (by omega)) j (by omega)⟩)) (by omega)
theorem x71_325 : ∀ q k : Nat, (False) → (False) := fun q k hk => hk.elim
theorem x71_326 : ∀ q : Nat, (110 ≤ q ∧ q ≤ 114 ∨ q = 100) → (q = 100 ∨ q = 101 ∨ 110 ≤ q ∧ q ≤ 114) := fun q hk => hk.elim (fun g => (.inr (.inr g))) (fun hk => (.inl hk))
theorem x71_327 : ∀ q : Nat, (110 ≤ q ∧ q ≤ 114 ∨ q = 101) → (q = 100 ∨ q = 101 ∨ 110 ≤ q ∧ q ≤ 114) := fun q hk => hk.elim (fun g => (.inr (.inr g))) (fun hk => (.inr (.inl hk)))
set_option maxRecDepth 4000 in
set_option maxHeartbeats 2000000 in
theorem w_B1 {E : Nat → Nat × (Nat → Int32)} {d : Nat} {Q : ez_Q} {h : ez_H} {fr : Int32} {to : Int32} {pl : Int32} {my : Int32} {ls : Int32} {l6 : Option Value} {l7 : Option Value} {l8 : Option Value} {l9 : Option Value} {l10 : Option Value} {l11 : Option Value} {l12 : Option Value} {l13 : Option Value} {l14 : Option Value} {l15 : Option Value} {l16 : Option Value} (S : zSh h) {T : Nat → Int} {n c a J : Nat} {l bn : Nat} {s0 : Nat × Nat} (hC : mbC (ez_I h 72) (ez_I h 77) (ez_I h 78) (ez_I h 79) (ez_I h 80) (ez_I h 92) (ez_I h 93) (ez_I h 94) (ez_I h 95) (ez_I h 96) T n c) (hA : mbA fr to pl my T n c a J) (c7 : ctI (ez_I h 97) (bkC T n a J) 286) (c8 : ctI (ez_I h 98) (bkD T n a J) 30) (hls : ls.toInt = (l : Nat) ∧ l ≤ 1) (hs : mS (ez_I h 75) s0) (hb : (ez_I h 71 16).toInt = (s0.2 : Nat)) (hg : aR (ez_I h 75) 8000 (-128) 127) (hbn : (ez_I h 71 15).toInt = (bn : Nat) ∧ bn ≤ 9) (hr : s0.2 + 50 + 8 * (bkY T n a J) ≤ 48800) (K : ∀ h2, zW (fun q k => q = 71 ∧ k = 15 ∨ q = 71 ∧ k = 16 ∨ q = 71 ∧ k = 56 ∨ q = 71 ∧ k = 57 ∨ q = 71 ∧ k = 58) (fun q => q = 75 ∨ 83 ≤ q ∧ q ≤ 91 ∨ 99 ≤ q ∧ q ≤ 119) (fun _ => False) h h2 → (bkS T n a J l s0).2 ≤ s0.2 + 42 + 8 * (bkY T n a J) → mst (ez_I h2 75) (ez_I h2 71 16).toInt (bkS T n a J l s0) → aR (ez_I h2 75) 8000 (-128) 127 → (ez_I h2 71 15).toInt = (bn : Int) + 1 → mbk (ez_I h2 83) (ez_I h2 84) (ez_I h2 85) (ez_I h2 86) (ez_I h2 87) (ez_I h2 88) (ez_I h2 89) (ez_I h2 90) (ez_I h2 91) (ez_I h 83) (ez_I h 84) (ez_I h 85) (ez_I h 86) (ez_I h 87) (ez_I h 88) (ez_I h 89) (ez_I h 90) (ez_I h 91) T n a J s0.2 bn → Q (.inl none) h2) : pw E (d + 2) 44 149 [some (.ref 71), some (.int fr), some (.int to), some (.int pl), some (.int my), some (.int ls), l6, l7, l8, l9, l10, l11, l12, l13, l14, l15, l16] [] h Q := by
  have gfr := z_rng fr
  have gto := z_rng to
  have gpl := z_rng pl
  have gmy := z_rng my
  have gls := z_rng ls
  obtain ⟨_, _, _, aj6, _⟩ := id hA
  have hbc : ∀ z, (bkC T n a J) z ≤ 601 := fun z => by have h9 := cL_le (aM T n) (dI T n) a J z; have h8 : (bkC T n a J) z = cL (aM T n) (dI T n) a J z := rfl; omega
  have hbd : ∀ z, (bkD T n a J) z ≤ 601 := fun z => by have h9 := cD_le (dI T n) a J z; have h8 : (bkD T n a J) z = cD (dI T n) a J z := rfl; omega
  have F := zW_refl (fun _ _ => False) (fun q => q = 100 ∨ q = 101 ∨ 110 ≤ q ∧ q ≤ 114) (fun _ => False) h
  apply ez_Wp_in
  show ez_gw _ _ _ _ _ _ (cz_44) _ _ _ _ _
  refine gw_skip _ ?_
  refine gw_ld rfl rfl ?_
  refine gw_ld rfl rfl ?_
  refine z_gR (q := 97) (zT S (by decide) rfl) (zRf S (by decide) (by decide) rfl) (by decide) ?_
  refine z_C (m := 286) rfl rfl (fun x1 ex1 => ?_)
  refine z_C (m := 15) rfl rfl (fun x2 ex2 => ?_)
  refine gw_ld rfl rfl ?_
  refine z_gR (q := 100) (zT S (by decide) rfl) (zRf S (by decide) (by decide) rfl) (by decide) ?_
  refine z_cl rfl rfl rfl rfl rfl rfl rfl rfl rfl rfl rfl (zT S (by decide) rfl) ?_
  have hct : ctI (ez_I h 97) (bkC T n a J) 286 := (by rw [(show ez_I h 97 = ez_I h 97 from zW_fn F 97 x71_307 (fun _ c => c))]; exact c7)
  refine m_lenF (u := 97) (w := 100) (al := x1) (li := x2) (mx := 1000) S (nu := 288) (nw := 288) (fun _ S => ⟨zT S (by decide) rfl, zN S (by decide) rfl⟩) (fun _ S => ⟨zT S (by decide) rfl, zN S (by decide) rfl⟩) (by decide) (by omega) (by omega) (by rw [show x1.toInt.toNat = 286 by omega]; exact ctI_aR hct (fun z => by have := hbc z; omega)) (by decide) (by rw [show x1.toInt.toNat = 286 by omega]; decide) (by rw [show x1.toInt.toNat = 286 by omega, show x2.toInt.toNat = 15 by omega]; have := poC_le2 (ez_I h 97) 286; show _ ≤ (32768 : Int); omega) (fun h3 K4 k6 => ?_)
  rw [show x1.toInt.toNat = 286 by omega, show x2.toInt.toNat = 15 by omega] at k6
  have F5 := zW_ofG K4
  obtain ⟨ln7, ln8, ln9, ln10⟩ := ln_all (nw := 286) k6 (fun q a b => by omega) hct (fun q _ => by have := hbc q; omega) (by decide) (by decide)
  clear hct
  have F11 : zW (fun _ _ => False) (fun q => 110 ≤ q ∧ q ≤ 114 ∨ q = 100) (fun _ => False) h h3 := zW_mono F5 (fun q k hk => hk.2.elim) (fun q hk => hk) (fun q hk => hk)
  have S12 := zW_sh F11 S
  have F13 := zW_tr F (zW_mono F11 (x71_325) (x71_326) (x71_313))
  have A_lb : lbP (ez_I h3 100) (bkL T n a J) (bkC T n a J) 286 15 := ⟨ln7, ln8, ln9⟩
  refine gw_ld rfl rfl ?_
  refine gw_ld rfl rfl ?_
  refine z_gR (q := 98) (zT S12 (by decide) rfl) (zRf S12 (by decide) (by decide) rfl) (by decide) ?_
  refine z_C (m := 30) rfl rfl (fun x14 ex14 => ?_)
  refine z_C (m := 15) rfl rfl (fun x15 ex15 => ?_)
  refine gw_ld rfl rfl ?_
  refine z_gR (q := 101) (zT S12 (by decide) rfl) (zRf S12 (by decide) (by decide) rfl) (by decide) ?_
  refine z_cl rfl rfl rfl rfl rfl rfl rfl rfl rfl rfl rfl (zT S12 (by decide) rfl) ?_
  have hct : ctI (ez_I h3 98) (bkD T n a J) 30 := (by rw [(show ez_I h3 98 = ez_I h 98 from zW_fn F13 98 x71_308 (fun _ c => c))]; exact c8)
  refine m_lenF (u := 98) (w := 101) (al := x14) (li := x15) (mx := 1000) S12 (nu := 30) (nw := 30) (fun _ S => ⟨zT S (by decide) rfl, zN S (by decide) rfl⟩) (fun _ S => ⟨zT S (by decide) rfl, zN S (by decide) rfl⟩) (by decide) (by omega) (by omega) (by rw [show x14.toInt.toNat = 30 by omega]; exact ctI_aR hct (fun z => by have := hbd z; omega)) (by decide) (by rw [show x14.toInt.toNat = 30 by omega]; decide) (by rw [show x14.toInt.toNat = 30 by omega, show x15.toInt.toNat = 15 by omega]; have := poC_le2 (ez_I h3 98) 30; show _ ≤ (32768 : Int); omega) (fun h16 K17 k19 => ?_)
  rw [show x14.toInt.toNat = 30 by omega, show x15.toInt.toNat = 15 by omega] at k19
  have F18 := zW_ofG K17
  obtain ⟨ln20, ln21, ln22, ln23⟩ := ln_all (nw := 30) k19 (fun q a b => by omega) hct (fun q _ => by have := hbd q; omega) (by decide) (by decide)
  clear hct
  have F24 : zW (fun _ _ => False) (fun q => 110 ≤ q ∧ q ≤ 114 ∨ q = 101) (fun _ => False) h3 h16 := zW_mono F18 (fun q k hk => hk.2.elim) (fun q hk => hk) (fun q hk => hk)
  have S25 := zW_sh F24 S12
  have F26 := zW_tr F13 (zW_mono F24 (x71_325) (x71_327) (x71_313))
  have A27 : lbP (ez_I h16 100) (bkL T n a J) (bkC T n a J) 286 15 := by rw [zW_fn F24 100 (by decide) (fun _ c => c)]; exact A_lb
  have A_db : dbP (ez_I h16 101) (bkD T n a J) := ⟨ln20, ln21, ln22, ln23⟩
  refine z_C (m := 1) rfl rfl (fun x28 ex28 => ?_)
  refine gw_st rfl rfl rfl ?_
  show ez_gw _ _ _ _ _ _ _ _ [some (.ref 71), some (.int fr), some (.int to), some (.int pl), some (.int my), some (.int ls), some (.int x28), l7, l8, l9, l10, l11, l12, l13, l14, l15, l16] _ _ _
  refine z_C (m := 0) rfl rfl (fun x29 ex29 => ?_)
  refine gw_st rfl rfl rfl ?_
  show ez_gw _ _ _ _ _ _ _ _ [some (.ref 71), some (.int fr), some (.int to), some (.int pl), some (.int my), some (.int ls), some (.int x28), some (.int x29), l8, l9, l10, l11, l12, l13, l14, l15, l16] _ _ _
  exact ez_Wp_at ((w_B1_L0 (fr := fr) (to := to) (pl := pl) (my := my) (ls := ls) (l6 := l6) (l7 := l7) (l8 := l8) (l9 := l9) (l10 := l10) (l11 := l11) (l12 := l12) (l13 := l13) (l14 := l14) (l15 := l15) (l16 := l16) S hC hA c7 c8 hls hs hb hg hbn hr K (((1000 - x29.toInt)).toNat + 1)) h16 x28 x29 F26 (by omega) A27 A_db ((by rw [show x29.toInt.toNat = 0 by omega]; exact .inl ⟨by omega, fun j hj => by omega⟩)) (by omega)) rfl
end
section
/-! PRINTED by wip/pack: the model writes a block: counts -/
theorem x71_328 : ¬ (72 = 97 ∨ 72 = 98) := by omega
theorem x71_329 : ¬ (77 = 97 ∨ 77 = 98) := by omega
theorem x71_330 : ¬ (78 = 97 ∨ 78 = 98) := by omega
theorem x71_331 : ¬ (79 = 97 ∨ 79 = 98) := by omega
theorem x71_332 : ¬ (80 = 97 ∨ 80 = 98) := by omega
theorem x71_333 : ¬ (92 = 97 ∨ 92 = 98) := by omega
theorem x71_334 : ¬ (93 = 97 ∨ 93 = 98) := by omega
theorem x71_335 : ¬ (94 = 97 ∨ 94 = 98) := by omega
theorem x71_336 : ¬ (95 = 97 ∨ 95 = 98) := by omega
theorem x71_337 : ¬ (96 = 97 ∨ 96 = 98) := by omega
theorem x71_338 : ¬ (75 = 97 ∨ 75 = 98) := by omega
theorem x71_339 : ¬ (71 = 97 ∨ 71 = 98) := by omega
theorem x71_340 : ∀ q k : Nat, (False) → (q = 71 ∧ k = 15 ∨ q = 71 ∧ k = 16 ∨ q = 71 ∧ k = 56 ∨ q = 71 ∧ k = 57 ∨ q = 71 ∧ k = 58) := fun q k hk => hk.elim
theorem x71_341 : ∀ q : Nat, (q = 97 ∨ q = 98) → (q = 75 ∨ 83 ≤ q ∧ q ≤ 91 ∨ 97 ≤ q ∧ q ≤ 119) := fun q hk => hk.elim (fun g => (.inr (.inr (show 97 ≤ q ∧ q ≤ 119 by omega)))) (fun hk => (.inr (.inr (show 97 ≤ q ∧ q ≤ 119 by omega))))
theorem x71_342 : ∀ q : Nat, (False) → (False) := fun q hk => hk.elim
theorem x71_343 : ∀ q k : Nat, (q = 71 ∧ k = 15 ∨ q = 71 ∧ k = 16 ∨ q = 71 ∧ k = 56 ∨ q = 71 ∧ k = 57 ∨ q = 71 ∧ k = 58) → (q = 71 ∧ k = 15 ∨ q = 71 ∧ k = 16 ∨ q = 71 ∧ k = 56 ∨ q = 71 ∧ k = 57 ∨ q = 71 ∧ k = 58) := fun q k hk => hk.elim (fun g => (.inl g)) (fun hk => hk.elim (fun g => (.inr (.inl g))) (fun hk => hk.elim (fun g => (.inr (.inr (.inl g)))) (fun hk => hk.elim (fun g => (.inr (.inr (.inr (.inl g))))) (fun hk => (.inr (.inr (.inr (.inr hk))))))))
theorem x71_344 : ∀ q : Nat, (q = 75 ∨ 83 ≤ q ∧ q ≤ 91 ∨ 99 ≤ q ∧ q ≤ 119) → (q = 75 ∨ 83 ≤ q ∧ q ≤ 91 ∨ 97 ≤ q ∧ q ≤ 119) := fun q hk => hk.elim (fun g => (.inl g)) (fun hk => hk.elim (fun g => (.inr (.inl g))) (fun hk => (.inr (.inr (show 97 ≤ q ∧ q ≤ 119 by omega)))))
theorem x71_345 : ¬ (83 = 97 ∨ 83 = 98) := by omega
theorem x71_346 : ¬ (84 = 97 ∨ 84 = 98) := by omega
theorem x71_347 : ¬ (85 = 97 ∨ 85 = 98) := by omega
theorem x71_348 : ¬ (86 = 97 ∨ 86 = 98) := by omega
theorem x71_349 : ¬ (87 = 97 ∨ 87 = 98) := by omega
theorem x71_350 : ¬ (88 = 97 ∨ 88 = 98) := by omega
theorem x71_351 : ¬ (89 = 97 ∨ 89 = 98) := by omega
theorem x71_352 : ¬ (90 = 97 ∨ 90 = 98) := by omega
theorem x71_353 : ¬ (91 = 97 ∨ 91 = 98) := by omega
set_option maxRecDepth 4000 in
set_option maxHeartbeats 2000000 in
theorem d_wBlock_L2 {E : Nat → Nat × (Nat → Int32)} {d : Nat} {Q : ez_Q} {h : ez_H} {fr : Int32} {to : Int32} {pl : Int32} {my : Int32} {ls : Int32} (S : zSh h) {T : Nat → Int} {n c a J : Nat} {l bn : Nat} {s0 : Nat × Nat} (hC : mbC (ez_I h 72) (ez_I h 77) (ez_I h 78) (ez_I h 79) (ez_I h 80) (ez_I h 92) (ez_I h 93) (ez_I h 94) (ez_I h 95) (ez_I h 96) T n c) (hA : mbA fr to pl my T n c a J) (hls : ls.toInt = (l : Nat) ∧ l ≤ 1) (hs : mS (ez_I h 75) s0) (hb : (ez_I h 71 16).toInt = (s0.2 : Nat)) (hg : aR (ez_I h 75) 8000 (-128) 127) (hbn : (ez_I h 71 15).toInt = (bn : Nat) ∧ bn ≤ 9) (hr : s0.2 + 50 + 8 * (bkY T n a J) ≤ 48800) (K : ∀ h2, zW (fun q k => q = 71 ∧ k = 15 ∨ q = 71 ∧ k = 16 ∨ q = 71 ∧ k = 56 ∨ q = 71 ∧ k = 57 ∨ q = 71 ∧ k = 58) (fun q => q = 75 ∨ 83 ≤ q ∧ q ≤ 91 ∨ 97 ≤ q ∧ q ≤ 119) (fun _ => False) h h2 → (bkS T n a J l s0).2 ≤ s0.2 + 42 + 8 * (bkY T n a J) → mst (ez_I h2 75) (ez_I h2 71 16).toInt (bkS T n a J l s0) → aR (ez_I h2 75) 8000 (-128) 127 → (ez_I h2 71 15).toInt = (bn : Int) + 1 → mbk (ez_I h2 83) (ez_I h2 84) (ez_I h2 85) (ez_I h2 86) (ez_I h2 87) (ez_I h2 88) (ez_I h2 89) (ez_I h2 90) (ez_I h2 91) (ez_I h 83) (ez_I h 84) (ez_I h 85) (ez_I h 86) (ez_I h 87) (ez_I h 88) (ez_I h 89) (ez_I h 90) (ez_I h 91) T n a J s0.2 bn → Q (.inl none) h2) : ∀ N : Nat, (∀ (h2 : ez_H) (k : Int32) (l7 : Option Value) (l8 : Option Value) (l9 : Option Value) (l10 : Option Value) (l11 : Option Value) (l12 : Option Value) (l13 : Option Value) (l14 : Option Value) (l15 : Option Value) (l16 : Option Value) (j : Nat), zW (fun _ _ => False) (fun q => q = 97 ∨ q = 98) (fun _ => False) h h2 → (k.toInt = ((a + j : Nat) : Int) ∧ j ≤ J) → (ctJ (ez_I h2 97) (cL (aM T n) (dI T n) a j)) → (ctI (ez_I h2 98) (cD (dI T n) a j) 30) → (10000 - k.toInt) < (N : Int) → pw E (d + 2) 44 52 [some (.ref 71), some (.int fr), some (.int to), some (.int pl), some (.int my), some (.int ls), some (.int k), l7, l8, l9, l10, l11, l12, l13, l14, l15, l16] [] h2 Q) := by
  intro N
  induction N with
  | zero => exact fun h2 k l7 l8 l9 l10 l11 l12 l13 l14 l15 l16 j F hinv A_c7 A_c8 hm => absurd hm (by have aj5 := hA.2.2.1; have c6 := hC.2.1; have w_k := z_rng k; have gfr := z_rng fr; have gto := z_rng to; have gpl := z_rng pl; have gmy := z_rng my; have gls := z_rng ls; omega)
  | succ N ih =>
    refine fun h2 k l7 l8 l9 l10 l11 l12 l13 l14 l15 l16 j F hinv A_c7 A_c8 hm => ?_
    · skip
      have aj5 := hA.2.2.1
      have c6 := hC.2.1
      have w_k := z_rng k
      have gfr := z_rng fr
      have gto := z_rng to
      have gpl := z_rng pl
      have gmy := z_rng my
      have gls := z_rng ls
      have S2 := zW_sh F S
      obtain ⟨cn, cc, hT0, hB, hpm, hlt, hpe, t92, t93, t94, t95, t96⟩ := id hC
      obtain ⟨afr, ato, ajc, aj6, apl, amy, apn⟩ := id hA
      clear hB t93 t95 t96 amy apl apn
      have hcl9 : ∀ q, cL (aM T n) (dI T n) a j q ≤ 601 := fun q => by have := cL_le (aM T n) (dI T n) a j q; omega
      have hcd9 : ∀ q, cD (dI T n) a j q ≤ 601 := fun q => by have := cD_le (dI T n) a j q; omega
      apply ez_Wp_in
      show ez_gw _ _ _ _ _ _ (cz_44) _ _ _ _ _
      refine gw_skip _ ?_
      refine gw_ld rfl rfl ?_
      refine gw_ld rfl rfl ?_
      refine z_b2 (fun c1 => ?_) (fun c1 => ?_)
      · have c1 : to.toInt ≤ k.toInt := c1
        refine gw_skip _ ?_
        refine gw_ld rfl rfl ?_
        refine z_gR (q := 97) (zT S2 (by decide) rfl) (zRf S2 (by decide) (by decide) rfl) (by decide) ?_
        refine z_C (m := 256) rfl rfl (fun x2 ex2 => ?_)
        refine gw_op rfl ?_
        refine z_ia (n := 288) (zT S2 (by decide) rfl) (zN S2 (by decide) rfl) (by omega) ?_
        generalize ex3 : ez_I h2 97 x2.toInt.toNat = x3
        have rx3 := z_rng x3
        have yx3 := A_c7 256 (by decide)
        rw [if_pos rfl, show (256 : Nat) = x2.toInt.toNat by omega, ex3] at yx3
        have yc := hcl9 x2.toInt.toNat
        refine z_C (m := 1) rfl rfl (fun x4 ex4 => ?_)
        refine z_add (by omega) (fun x5 ex5 => ?_)
        refine z_is (n := 288) (zT S2 (by decide) rfl) (zN S2 (by decide) rfl) (by omega) (fun h6 e7 => ?_)
        have S8 := zSh_set S2 e7
        have F9 := zW_setA F e7 (by decide)
        have A10 : ctI (ez_I h6 97) (bkC T n a J) 286 := (by have b1 := ctJ_e A_c7 e7 (by omega) ex3 (by omega); rw [show j = J by omega] at b1; exact b1)
        have A11 : ctI (ez_I h6 98) (cD (dI T n) a j) 30 := by rw [zI_fn e7 98 (by decide)]; exact A_c8
        suffices tl : pw E (d + 2) 44 149 [some (.ref 71), some (.int fr), some (.int to), some (.int pl), some (.int my), some (.int ls), some (.int k), l7, l8, l9, l10, l11, l12, l13, l14, l15, l16] [] h6 Q from ez_Wp_at tl rfl
        refine w_B1 (T := T) (n := n) (c := c) (a := a) (J := J) (l := l) (bn := bn) (s0 := s0) (fr := fr) (to := to) (pl := pl) (my := my) (ls := ls) (l6 := some (.int k)) (l7 := l7) (l8 := l8) (l9 := l9) (l10 := l10) (l11 := l11) (l12 := l12) (l13 := l13) (l14 := l14) (l15 := l15) (l16 := l16) S8 (by rw [(show ez_I h6 72 = ez_I h 72 from zW_fn F9 72 x71_328 (fun _ c => c)), (show ez_I h6 77 = ez_I h 77 from zW_fn F9 77 x71_329 (fun _ c => c)), (show ez_I h6 78 = ez_I h 78 from zW_fn F9 78 x71_330 (fun _ c => c)), (show ez_I h6 79 = ez_I h 79 from zW_fn F9 79 x71_331 (fun _ c => c)), (show ez_I h6 80 = ez_I h 80 from zW_fn F9 80 x71_332 (fun _ c => c)), (show ez_I h6 92 = ez_I h 92 from zW_fn F9 92 x71_333 (fun _ c => c)), (show ez_I h6 93 = ez_I h 93 from zW_fn F9 93 x71_334 (fun _ c => c)), (show ez_I h6 94 = ez_I h 94 from zW_fn F9 94 x71_335 (fun _ c => c)), (show ez_I h6 95 = ez_I h 95 from zW_fn F9 95 x71_336 (fun _ c => c)), (show ez_I h6 96 = ez_I h 96 from zW_fn F9 96 x71_337 (fun _ c => c))]; exact hC) hA A10 (by have b1 := A11; rw [show j = J by omega] at b1; exact b1) hls (by rw [(show ez_I h6 75 = ez_I h 75 from zW_fn F9 75 x71_338 (fun _ c => c))]; exact hs) (by rw [(show ez_I h6 71 16 = ez_I h 71 16 from zW_f F9 x71_339 (fun c => c))]; exact hb) (by rw [(show ez_I h6 75 = ez_I h 75 from zW_fn F9 75 x71_338 (fun _ c => c))]; exact hg) (by rw [(show ez_I h6 71 15 = ez_I h 71 15 from zW_f F9 x71_339 (fun c => c))]; exact hbn) hr (fun h12 F13 k14 k15 k16 k17 k18 => ?_)
        have F19 := zW_tr (zW_mono F9 x71_340 x71_341 x71_342) (zW_mono F13 x71_343 x71_344 x71_342)
        exact K _ F19 k14 k15 k16 k17 (by have b1 := k18; rw [(show ez_I h6 83 = ez_I h 83 from zW_fn F9 83 x71_345 (fun _ c => c)), (show ez_I h6 84 = ez_I h 84 from zW_fn F9 84 x71_346 (fun _ c => c)), (show ez_I h6 85 = ez_I h 85 from zW_fn F9 85 x71_347 (fun _ c => c)), (show ez_I h6 86 = ez_I h 86 from zW_fn F9 86 x71_348 (fun _ c => c)), (show ez_I h6 87 = ez_I h 87 from zW_fn F9 87 x71_349 (fun _ c => c)), (show ez_I h6 88 = ez_I h 88 from zW_fn F9 88 x71_350 (fun _ c => c)), (show ez_I h6 89 = ez_I h 89 from zW_fn F9 89 x71_351 (fun _ c => c)), (show ez_I h6 90 = ez_I h 90 from zW_fn F9 90 x71_352 (fun _ c => c)), (show ez_I h6 91 = ez_I h 91 from zW_fn F9 91 x71_353 (fun _ c => c))] at b1; exact b1)
      · have c1 : ¬ (to.toInt ≤ k.toInt) := c1
        refine gw_ld rfl rfl ?_
        refine z_gR (q := 78) (zT S2 (by decide) rfl) (zRf S2 (by decide) (by decide) rfl) (by decide) ?_
        refine gw_ld rfl rfl ?_
        refine z_iaV (n := 6000) (zT S2 (by decide) rfl) (zN S2 (by decide) rfl) (by omega) (zW_f F (by decide) (fun c => c)) ?_
        generalize ex20 : ez_I h 78 k.toInt.toNat = x20
        have rx20 := z_rng x20
        have yx20 := (hpm (a + j) (by omega)).2.1
        rw [show a + j = k.toInt.toNat by omega, ex20] at yx20
        rw [show k.toInt.toNat = a + j by omega] at yx20
        refine z_b1 (fun c21 => ?_) (fun c21 => ?_)
        · have c21 : x20.toInt ≠ 0 := c21
          refine gw_skip _ ?_
          have hd1 : 1 ≤ (dI T n (a + j)) := by omega
          have hp1 := wp_1 hT0 hlt (show a + j < c by omega) hd1
          refine gw_ld rfl rfl ?_
          refine z_gR (q := 97) (zT S2 (by decide) rfl) (zRf S2 (by decide) (by decide) rfl) (by decide) ?_
          refine z_C (m := 257) rfl rfl (fun x22 ex22 => ?_)
          refine gw_ld rfl rfl ?_
          refine gw_ld rfl rfl ?_
          refine z_gR (q := 77) (zT S2 (by decide) rfl) (zRf S2 (by decide) (by decide) rfl) (by decide) ?_
          refine gw_ld rfl rfl ?_
          refine z_iaV (n := 6000) (zT S2 (by decide) rfl) (zN S2 (by decide) rfl) (by omega) (zW_f F (by decide) (fun c => c)) ?_
          generalize ex23 : ez_I h 77 k.toInt.toNat = x23
          have rx23 := z_rng x23
          have yx23 := (hpm (a + j) (by omega)).1
          rw [show a + j = k.toInt.toNat by omega, ex23] at yx23
          rw [show k.toInt.toNat = a + j by omega] at yx23
          refine z_cl rfl rfl rfl rfl rfl rfl rfl rfl rfl rfl rfl (zT S2 (by decide) rfl) ?_
          have ham : x23.toInt.toNat = (aM T n (a + j)) := by omega
          refine d_kL (n := x23) S2 (by rw [(show ez_I h2 92 = ez_I h 92 from zW_fn F 92 x71_333 (fun _ c => c))]; exact t92) (by omega) (fun x24 k25 => ?_)
          rw [ham] at k25
          have rx24 := z_rng x24
          have hkl := (kL_ok (v := (aM T n (a + j))) (by omega)).1
          refine z_add (by omega) (fun x26 ex26 => ?_)
          refine gw_op rfl ?_
          refine z_ia (n := 288) (zT S2 (by decide) rfl) (zN S2 (by decide) rfl) (by omega) ?_
          generalize ex27 : ez_I h2 97 x26.toInt.toNat = x27
          have rx27 := z_rng x27
          have yx27 := A_c7 x26.toInt.toNat (by omega)
          rw [ex27] at yx27
          have ycx27 := hcl9 x26.toInt.toNat
          refine z_C (m := 1) rfl rfl (fun x28 ex28 => ?_)
          refine z_add (by omega) (fun x29 ex29 => ?_)
          refine z_is (n := 288) (zT S2 (by decide) rfl) (zN S2 (by decide) rfl) (by omega) (fun h30 e31 => ?_)
          have S32 := zSh_set S2 e31
          have F33 := zW_setA F e31 (by decide)
          have A34 : ctJ (ez_I h30 97) (cL (aM T n) (dI T n) a (j + 1)) := ctJ_y (x0 := (lSy (aM T n) (dI T n) (a + j))) A_c7 e31 (by rw [lSy_1 hd1]; omega) ex27 (by omega) (cLm_y _ _ _ _) (fun q hq => cLm_n hq)
          have A35 : ctI (ez_I h30 98) (cD (dI T n) a j) 30 := by rw [zI_fn e31 98 (by decide)]; exact A_c8
          refine gw_ld rfl rfl ?_
          refine z_gR (q := 98) (zT S32 (by decide) rfl) (zRf S32 (by decide) (by decide) rfl) (by decide) ?_
          refine gw_ld rfl rfl ?_
          refine gw_ld rfl rfl ?_
          refine z_gR (q := 78) (zT S32 (by decide) rfl) (zRf S32 (by decide) (by decide) rfl) (by decide) ?_
          refine gw_ld rfl rfl ?_
          refine z_iaV (n := 6000) (zT S32 (by decide) rfl) (zN S32 (by decide) rfl) (by omega) ((zW_f F33 (by decide) (fun c => c)).trans ex20) ?_
          refine z_cl rfl rfl rfl rfl rfl rfl rfl rfl rfl rfl rfl (zT S32 (by decide) rfl) ?_
          have hdi : x20.toInt.toNat = (dI T n (a + j)) := by omega
          refine d_kD (n := x20) S32 (by rw [(show ez_I h30 94 = ez_I h 94 from zW_fn F33 94 x71_335 (fun _ c => c))]; exact t94) (by omega) (fun x37 k38 => ?_)
          rw [hdi] at k38
          have rx37 := z_rng x37
          have hkd := (kD_ok (v := (dI T n (a + j))) (by omega)).1
          refine gw_op rfl ?_
          refine z_ia (n := 30) (zT S32 (by decide) rfl) (zN S32 (by decide) rfl) (by omega) ?_
          generalize ex39 : ez_I h30 98 x37.toInt.toNat = x39
          have rx39 := z_rng x39
          have yx39 := A35 x37.toInt.toNat (by omega)
          rw [ex39] at yx39
          have ycx39 := hcd9 x37.toInt.toNat
          refine z_C (m := 1) rfl rfl (fun x40 ex40 => ?_)
          refine z_add (by omega) (fun x41 ex41 => ?_)
          refine z_is (n := 30) (zT S32 (by decide) rfl) (zN S32 (by decide) rfl) (by omega) (fun h42 e43 => ?_)
          have S44 := zSh_set S32 e43
          have F45 := zW_setA F33 e43 (by decide)
          have A46 : ctJ (ez_I h42 97) (cL (aM T n) (dI T n) a (j + 1)) := by rw [zI_fn e43 97 (by decide)]; exact A34
          have A47 : ctI (ez_I h42 98) (cD (dI T n) a (j + 1)) 30 := ctI_y (x0 := kD (dI T n (a + j))) A35 e43 (by omega) ex39 (by omega) (cDm_y (by omega)) (fun q hq => cDm_n hq)
          clear A34
          clear A35
          refine z_inc rfl (by rw [show (1 : Int32).toInt = 1 from rfl]; omega) (fun x48 ex48 => ?_)
          rw [show (1 : Int32).toInt = 1 from rfl] at ex48
          show ez_gw _ _ _ _ _ _ _ _ [some (.ref 71), some (.int fr), some (.int to), some (.int pl), some (.int my), some (.int ls), some (.int x48), l7, l8, l9, l10, l11, l12, l13, l14, l15, l16] _ _ _
          refine z_go ?_
          exact ih h42 x48 (l7) (l8) (l9) (l10) (l11) (l12) (l13) (l14) (l15) (l16) (j + 1) F45 (by omega) (A46) (A47) (by omega)
        · have c21 : ¬ (x20.toInt ≠ 0) := c21
          have hd0 : (dI T n (a + j)) = 0 := by omega
          have hp0 := wp_0 hT0 hlt (show a + j < c by omega) hd0
          refine gw_ld rfl rfl ?_
          refine z_gR (q := 97) (zT S2 (by decide) rfl) (zRf S2 (by decide) (by decide) rfl) (by decide) ?_
          refine gw_ld rfl rfl ?_
          refine z_gR (q := 79) (zT S2 (by decide) rfl) (zRf S2 (by decide) (by decide) rfl) (by decide) ?_
          refine gw_ld rfl rfl ?_
          refine z_iaV (n := 6000) (zT S2 (by decide) rfl) (zN S2 (by decide) rfl) (by omega) (zW_f F (by decide) (fun c => c)) ?_
          generalize ex49 : ez_I h 79 k.toInt.toNat = x49
          have rx49 := z_rng x49
          have yx49 := (hpm (a + j) (by omega)).2.2.1
          rw [show a + j = k.toInt.toNat by omega, ex49] at yx49
          rw [show k.toInt.toNat = a + j by omega] at yx49
          refine gw_op rfl ?_
          refine z_ia (n := 288) (zT S2 (by decide) rfl) (zN S2 (by decide) rfl) (by omega) ?_
          generalize ex50 : ez_I h2 97 x49.toInt.toNat = x50
          have rx50 := z_rng x50
          have yx50 := A_c7 x49.toInt.toNat (by omega)
          rw [ex50] at yx50
          have ycx50 := hcl9 x49.toInt.toNat
          refine z_C (m := 1) rfl rfl (fun x51 ex51 => ?_)
          refine z_add (by omega) (fun x52 ex52 => ?_)
          refine z_is (n := 288) (zT S2 (by decide) rfl) (zN S2 (by decide) rfl) (by omega) (fun h53 e54 => ?_)
          have S55 := zSh_set S2 e54
          have F56 := zW_setA F e54 (by decide)
          have A57 : ctJ (ez_I h53 97) (cL (aM T n) (dI T n) a (j + 1)) := ctJ_y (x0 := (lSy (aM T n) (dI T n) (a + j))) A_c7 e54 (by rw [lSy_0 hd0]; omega) ex50 (by omega) (cLm_y _ _ _ _) (fun q hq => cLm_n hq)
          have A58 : ctI (ez_I h53 98) (cD (dI T n) a j) 30 := by rw [zI_fn e54 98 (by decide)]; exact A_c8
          refine z_go ?_
          refine gw_skip _ ?_
          refine z_inc rfl (by rw [show (1 : Int32).toInt = 1 from rfl]; omega) (fun x59 ex59 => ?_)
          rw [show (1 : Int32).toInt = 1 from rfl] at ex59
          show ez_gw _ _ _ _ _ _ _ _ [some (.ref 71), some (.int fr), some (.int to), some (.int pl), some (.int my), some (.int ls), some (.int x59), l7, l8, l9, l10, l11, l12, l13, l14, l15, l16] _ _ _
          refine z_go ?_
          exact ih h53 x59 (l7) (l8) (l9) (l10) (l11) (l12) (l13) (l14) (l15) (l16) (j + 1) F56 (by omega) (A57) ((by show ctI _ (cD (dI T n) a (j + 1)) 30; rw [cD_z hd0]; exact A58)) (by omega)
set_option maxRecDepth 4000 in
set_option maxHeartbeats 2000000 in
theorem d_wBlock_L1 {E : Nat → Nat × (Nat → Int32)} {d : Nat} {Q : ez_Q} {h : ez_H} {fr : Int32} {to : Int32} {pl : Int32} {my : Int32} {ls : Int32} (S : zSh h) {T : Nat → Int} {n c a J : Nat} {l bn : Nat} {s0 : Nat × Nat} (hC : mbC (ez_I h 72) (ez_I h 77) (ez_I h 78) (ez_I h 79) (ez_I h 80) (ez_I h 92) (ez_I h 93) (ez_I h 94) (ez_I h 95) (ez_I h 96) T n c) (hA : mbA fr to pl my T n c a J) (hls : ls.toInt = (l : Nat) ∧ l ≤ 1) (hs : mS (ez_I h 75) s0) (hb : (ez_I h 71 16).toInt = (s0.2 : Nat)) (hg : aR (ez_I h 75) 8000 (-128) 127) (hbn : (ez_I h 71 15).toInt = (bn : Nat) ∧ bn ≤ 9) (hr : s0.2 + 50 + 8 * (bkY T n a J) ≤ 48800) (K : ∀ h2, zW (fun q k => q = 71 ∧ k = 15 ∨ q = 71 ∧ k = 16 ∨ q = 71 ∧ k = 56 ∨ q = 71 ∧ k = 57 ∨ q = 71 ∧ k = 58) (fun q => q = 75 ∨ 83 ≤ q ∧ q ≤ 91 ∨ 97 ≤ q ∧ q ≤ 119) (fun _ => False) h h2 → (bkS T n a J l s0).2 ≤ s0.2 + 42 + 8 * (bkY T n a J) → mst (ez_I h2 75) (ez_I h2 71 16).toInt (bkS T n a J l s0) → aR (ez_I h2 75) 8000 (-128) 127 → (ez_I h2 71 15).toInt = (bn : Int) + 1 → mbk (ez_I h2 83) (ez_I h2 84) (ez_I h2 85) (ez_I h2 86) (ez_I h2 87) (ez_I h2 88) (ez_I h2 89) (ez_I h2 90) (ez_I h2 91) (ez_I h 83) (ez_I h 84) (ez_I h 85) (ez_I h 86) (ez_I h 87) (ez_I h 88) (ez_I h 89) (ez_I h 90) (ez_I h 91) T n a J s0.2 bn → Q (.inl none) h2) : ∀ N : Nat, (∀ (h2 : ez_H) (k : Int32) (l7 : Option Value) (l8 : Option Value) (l9 : Option Value) (l10 : Option Value) (l11 : Option Value) (l12 : Option Value) (l13 : Option Value) (l14 : Option Value) (l15 : Option Value) (l16 : Option Value) , zW (fun _ _ => False) (fun q => q = 97 ∨ q = 98) (fun _ => False) h h2 → (0 ≤ k.toInt ∧ k.toInt ≤ 30) → (zrP (ez_I h2 97) (288)) → (zrP (ez_I h2 98) (k.toInt.toNat)) → (1000 - k.toInt) < (N : Int) → pw E (d + 2) 44 28 [some (.ref 71), some (.int fr), some (.int to), some (.int pl), some (.int my), some (.int ls), some (.int k), l7, l8, l9, l10, l11, l12, l13, l14, l15, l16] [] h2 Q) := by
  intro N
  induction N with
  | zero => exact fun h2 k l7 l8 l9 l10 l11 l12 l13 l14 l15 l16  F hinv A_z7 A_z8 hm => absurd hm (by have w_k := z_rng k; have gfr := z_rng fr; have gto := z_rng to; have gpl := z_rng pl; have gmy := z_rng my; have gls := z_rng ls; omega)
  | succ N ih =>
    refine fun h2 k l7 l8 l9 l10 l11 l12 l13 l14 l15 l16  F hinv A_z7 A_z8 hm => ?_
    · skip
      have w_k := z_rng k
      have gfr := z_rng fr
      have gto := z_rng to
      have gpl := z_rng pl
      have gmy := z_rng my
      have gls := z_rng ls
      have S2 := zW_sh F S
      apply ez_Wp_in
      show ez_gw _ _ _ _ _ _ (cz_44) _ _ _ _ _
      refine gw_skip _ ?_
      refine gw_ld rfl rfl ?_
      refine z_C (m := 30) rfl rfl (fun x1 ex1 => ?_)
      refine z_b2 (fun c2 => ?_) (fun c2 => ?_)
      · have c2 : x1.toInt ≤ k.toInt := c2
        refine gw_skip _ ?_
        refine gw_ld rfl rfl ?_
        refine gw_st rfl rfl rfl ?_
        show ez_gw _ _ _ _ _ _ _ _ [some (.ref 71), some (.int fr), some (.int to), some (.int pl), some (.int my), some (.int ls), some (.int fr), l7, l8, l9, l10, l11, l12, l13, l14, l15, l16] _ _ _
        exact ez_Wp_at ((d_wBlock_L2 (fr := fr) (to := to) (pl := pl) (my := my) (ls := ls) S hC hA hls hs hb hg hbn hr K (((10000 - fr.toInt)).toNat + 1)) h2 fr (l7) (l8) (l9) (l10) (l11) (l12) (l13) (l14) (l15) (l16) 0 F ((by have q1 := hA.1; omega)) (ctJ_0 (by have b1 := A_z7; exact b1)) ((fun q hq => by rw [A_z8 q (by omega)]; rfl)) (by omega)) rfl
      · have c2 : ¬ (x1.toInt ≤ k.toInt) := c2
        refine gw_ld rfl rfl ?_
        refine z_gR (q := 98) (zT S2 (by decide) rfl) (zRf S2 (by decide) (by decide) rfl) (by decide) ?_
        refine gw_ld rfl rfl ?_
        refine z_C (m := 0) rfl rfl (fun x3 ex3 => ?_)
        refine z_is (n := 30) (zT S2 (by decide) rfl) (zN S2 (by decide) rfl) (by omega) (fun h4 e5 => ?_)
        have S6 := zSh_set S2 e5
        have F7 := zW_setA F e5 (by decide)
        have A8 : zrP (ez_I h4 97) (288) := by rw [zI_fn e5 97 (by decide)]; exact A_z7
        have A9 : zrP (ez_I h4 98) (k.toInt.toNat + 1) := z0_s A_z8 e5 (by omega) (by omega) rfl
        refine z_inc rfl (by rw [show (1 : Int32).toInt = 1 from rfl]; omega) (fun x10 ex10 => ?_)
        rw [show (1 : Int32).toInt = 1 from rfl] at ex10
        show ez_gw _ _ _ _ _ _ _ _ [some (.ref 71), some (.int fr), some (.int to), some (.int pl), some (.int my), some (.int ls), some (.int x10), l7, l8, l9, l10, l11, l12, l13, l14, l15, l16] _ _ _
        refine z_go ?_
        exact ih h4 x10 (l7) (l8) (l9) (l10) (l11) (l12) (l13) (l14) (l15) (l16) F7 (by omega) (A8) ((by rw [show x10.toInt.toNat = k.toInt.toNat + 1 by omega]; exact A9)) (by omega)
set_option maxRecDepth 4000 in
set_option maxHeartbeats 2000000 in
theorem d_wBlock_L0 {E : Nat → Nat × (Nat → Int32)} {d : Nat} {Q : ez_Q} {h : ez_H} {fr : Int32} {to : Int32} {pl : Int32} {my : Int32} {ls : Int32} (S : zSh h) {T : Nat → Int} {n c a J : Nat} {l bn : Nat} {s0 : Nat × Nat} (hC : mbC (ez_I h 72) (ez_I h 77) (ez_I h 78) (ez_I h 79) (ez_I h 80) (ez_I h 92) (ez_I h 93) (ez_I h 94) (ez_I h 95) (ez_I h 96) T n c) (hA : mbA fr to pl my T n c a J) (hls : ls.toInt = (l : Nat) ∧ l ≤ 1) (hs : mS (ez_I h 75) s0) (hb : (ez_I h 71 16).toInt = (s0.2 : Nat)) (hg : aR (ez_I h 75) 8000 (-128) 127) (hbn : (ez_I h 71 15).toInt = (bn : Nat) ∧ bn ≤ 9) (hr : s0.2 + 50 + 8 * (bkY T n a J) ≤ 48800) (K : ∀ h2, zW (fun q k => q = 71 ∧ k = 15 ∨ q = 71 ∧ k = 16 ∨ q = 71 ∧ k = 56 ∨ q = 71 ∧ k = 57 ∨ q = 71 ∧ k = 58) (fun q => q = 75 ∨ 83 ≤ q ∧ q ≤ 91 ∨ 97 ≤ q ∧ q ≤ 119) (fun _ => False) h h2 → (bkS T n a J l s0).2 ≤ s0.2 + 42 + 8 * (bkY T n a J) → mst (ez_I h2 75) (ez_I h2 71 16).toInt (bkS T n a J l s0) → aR (ez_I h2 75) 8000 (-128) 127 → (ez_I h2 71 15).toInt = (bn : Int) + 1 → mbk (ez_I h2 83) (ez_I h2 84) (ez_I h2 85) (ez_I h2 86) (ez_I h2 87) (ez_I h2 88) (ez_I h2 89) (ez_I h2 90) (ez_I h2 91) (ez_I h 83) (ez_I h 84) (ez_I h 85) (ez_I h 86) (ez_I h 87) (ez_I h 88) (ez_I h 89) (ez_I h 90) (ez_I h 91) T n a J s0.2 bn → Q (.inl none) h2) : ∀ N : Nat, (∀ (h2 : ez_H) (k : Int32) (l7 : Option Value) (l8 : Option Value) (l9 : Option Value) (l10 : Option Value) (l11 : Option Value) (l12 : Option Value) (l13 : Option Value) (l14 : Option Value) (l15 : Option Value) (l16 : Option Value) , zW (fun _ _ => False) (fun q => q = 97 ∨ q = 98) (fun _ => False) h h2 → (0 ≤ k.toInt ∧ k.toInt ≤ 288) → (zrP (ez_I h2 97) (k.toInt.toNat)) → (1000 - k.toInt) < (N : Int) → pw E (d + 2) 44 3 [some (.ref 71), some (.int fr), some (.int to), some (.int pl), some (.int my), some (.int ls), some (.int k), l7, l8, l9, l10, l11, l12, l13, l14, l15, l16] [] h2 Q) := by
  intro N
  induction N with
  | zero => exact fun h2 k l7 l8 l9 l10 l11 l12 l13 l14 l15 l16  F hinv A_z7 hm => absurd hm (by have w_k := z_rng k; have gfr := z_rng fr; have gto := z_rng to; have gpl := z_rng pl; have gmy := z_rng my; have gls := z_rng ls; omega)
  | succ N ih =>
    refine fun h2 k l7 l8 l9 l10 l11 l12 l13 l14 l15 l16  F hinv A_z7 hm => ?_
    · skip
      have w_k := z_rng k
      have gfr := z_rng fr
      have gto := z_rng to
      have gpl := z_rng pl
      have gmy := z_rng my
      have gls := z_rng ls
      have S2 := zW_sh F S
      apply ez_Wp_in
      show ez_gw _ _ _ _ _ _ (cz_44) _ _ _ _ _
      refine gw_skip _ ?_
      refine gw_ld rfl rfl ?_
      refine z_C (m := 288) rfl rfl (fun x1 ex1 => ?_)
      refine z_b2 (fun c2 => ?_) (fun c2 => ?_)
      · have c2 : x1.toInt ≤ k.toInt := c2
        refine gw_skip _ ?_
        refine z_C (m := 0) rfl rfl (fun x3 ex3 => ?_)
        refine gw_st rfl rfl rfl ?_
        show ez_gw _ _ _ _ _ _ _ _ [some (.ref 71), some (.int fr), some (.int to), some (.int pl), some (.int my), some (.int ls), some (.int x3), l7, l8, l9, l10, l11, l12, l13, l14, l15, l16] _ _ _
        exact ez_Wp_at ((d_wBlock_L1 (fr := fr) (to := to) (pl := pl) (my := my) (ls := ls) S hC hA hls hs hb hg hbn hr K (((1000 - x3.toInt)).toNat + 1)) h2 x3 (l7) (l8) (l9) (l10) (l11) (l12) (l13) (l14) (l15) (l16) F (by omega) ((by have b1 := A_z7; rw [show k.toInt.toNat = 288 by omega] at b1; exact b1)) ((fun q hq => by omega)) (by omega)) rfl
      · have c2 : ¬ (x1.toInt ≤ k.toInt) := c2
        refine gw_ld rfl rfl ?_
        refine z_gR (q := 97) (zT S2 (by decide) rfl) (zRf S2 (by decide) (by decide) rfl) (by decide) ?_
        refine gw_ld rfl rfl ?_
        refine z_C (m := 0) rfl rfl (fun x4 ex4 => ?_)
        refine z_is (n := 288) (zT S2 (by decide) rfl) (zN S2 (by decide) rfl) (by omega) (fun h5 e6 => ?_)
        have S7 := zSh_set S2 e6
        have F8 := zW_setA F e6 (by decide)
        have A9 : zrP (ez_I h5 97) (k.toInt.toNat + 1) := z0_s A_z7 e6 (by omega) (by omega) rfl
        refine z_inc rfl (by rw [show (1 : Int32).toInt = 1 from rfl]; omega) (fun x10 ex10 => ?_)
        rw [show (1 : Int32).toInt = 1 from rfl] at ex10
        show ez_gw _ _ _ _ _ _ _ _ [some (.ref 71), some (.int fr), some (.int to), some (.int pl), some (.int my), some (.int ls), some (.int x10), l7, l8, l9, l10, l11, l12, l13, l14, l15, l16] _ _ _
        refine z_go ?_
        exact ih h5 x10 (l7) (l8) (l9) (l10) (l11) (l12) (l13) (l14) (l15) (l16) F8 (by omega) ((by rw [show x10.toInt.toNat = k.toInt.toNat + 1 by omega]; exact A9)) (by omega)
set_option maxRecDepth 4000 in
set_option maxHeartbeats 2000000 in
theorem d_wBlock {E : Nat → Nat × (Nat → Int32)} {d : Nat} {Q : ez_Q} {h : ez_H} {fr : Int32} {to : Int32} {pl : Int32} {my : Int32} {ls : Int32} (S : zSh h) {T : Nat → Int} {n c a J : Nat} {l bn : Nat} {s0 : Nat × Nat} (hC : mbC (ez_I h 72) (ez_I h 77) (ez_I h 78) (ez_I h 79) (ez_I h 80) (ez_I h 92) (ez_I h 93) (ez_I h 94) (ez_I h 95) (ez_I h 96) T n c) (hA : mbA fr to pl my T n c a J) (hls : ls.toInt = (l : Nat) ∧ l ≤ 1) (hs : mS (ez_I h 75) s0) (hb : (ez_I h 71 16).toInt = (s0.2 : Nat)) (hg : aR (ez_I h 75) 8000 (-128) 127) (hbn : (ez_I h 71 15).toInt = (bn : Nat) ∧ bn ≤ 9) (hr : s0.2 + 50 + 8 * (bkY T n a J) ≤ 48800) (K : ∀ h2, zW (fun q k => q = 71 ∧ k = 15 ∨ q = 71 ∧ k = 16 ∨ q = 71 ∧ k = 56 ∨ q = 71 ∧ k = 57 ∨ q = 71 ∧ k = 58) (fun q => q = 75 ∨ 83 ≤ q ∧ q ≤ 91 ∨ 97 ≤ q ∧ q ≤ 119) (fun _ => False) h h2 → (bkS T n a J l s0).2 ≤ s0.2 + 42 + 8 * (bkY T n a J) → mst (ez_I h2 75) (ez_I h2 71 16).toInt (bkS T n a J l s0) → aR (ez_I h2 75) 8000 (-128) 127 → (ez_I h2 71 15).toInt = (bn : Int) + 1 → mbk (ez_I h2 83) (ez_I h2 84) (ez_I h2 85) (ez_I h2 86) (ez_I h2 87) (ez_I h2 88) (ez_I h2 89) (ez_I h2 90) (ez_I h2 91) (ez_I h 83) (ez_I h 84) (ez_I h 85) (ez_I h 86) (ez_I h 87) (ez_I h 88) (ez_I h 89) (ez_I h 90) (ez_I h 91) T n a J s0.2 bn → Q (.inl none) h2) : pw E (d + 2) 44 0 [some (.ref 71), some (.int fr), some (.int to), some (.int pl), some (.int my), some (.int ls), none, none, none, none, none, none, none, none, none, none, none] [] h Q := by
  have gfr := z_rng fr
  have gto := z_rng to
  have gpl := z_rng pl
  have gmy := z_rng my
  have gls := z_rng ls
  have F := zW_refl (fun _ _ => False) (fun q => q = 97 ∨ q = 98) (fun _ => False) h
  apply ez_Wp_in
  show ez_gw _ _ _ _ _ _ (cz_44) _ _ _ _ _
  refine gw_skip _ ?_
  refine z_C (m := 0) rfl rfl (fun x1 ex1 => ?_)
  refine gw_st rfl rfl rfl ?_
  show ez_gw _ _ _ _ _ _ _ _ [some (.ref 71), some (.int fr), some (.int to), some (.int pl), some (.int my), some (.int ls), some (.int x1), none, none, none, none, none, none, none, none, none, none] _ _ _
  exact ez_Wp_at ((d_wBlock_L0 (fr := fr) (to := to) (pl := pl) (my := my) (ls := ls) S hC hA hls hs hb hg hbn hr K (((1000 - x1.toInt)).toNat + 1)) h x1 (none) (none) (none) (none) (none) (none) (none) (none) (none) (none) F (by omega) ((fun q hq => by omega)) (by omega)) rfl
end
section
/-! all blocks of the model -/
theorem bn_b {c b k : Nat} (h : bnP c b) (hk : k < b) (hc : c ≤ 6000) : 600 * k ≤ c ∧ 600 * k + blJ c k ≤ c ∧ blJ c k ≤ 600 ∧ k ≤ 9 := by unfold bnP at h; unfold blJ; omega
theorem bn_e {c b k : Nat} (h : bnP c b) (hk : k < b) (he : c ≤ 600 * k + blJ c k) : k + 1 = b := by unfold bnP at h; unfold blJ at he; omega
theorem bn_n {c b k : Nat} (h : bnP c b) (hk : k < b) (he : 600 * k + blJ c k < c) : k + 1 < b ∧ blJ c k = 600 := by unfold bnP at h; unfold blJ at he; unfold blJ; omega
theorem bn_0 (c : Nat) : bnP c (if c = 0 then 1 else (c + 599) / 600) ∧ 0 < (if c = 0 then 1 else (c + 599) / 600) := by
  unfold bnP
  split <;> omega
theorem bl_t {c k : Nat} (h : 600 * k + 600 ≤ c) : blJ c k = 600 := by unfold blJ; omega
theorem bl_e {c k : Nat} (h : c ≤ 600 * k + 600) (h2 : 600 * k ≤ c) : 600 * k + blJ c k = c := by unfold blJ; omega
theorem bY_n {T : Nat → Int} {n c a j : Nat} (hT : ∀ i, i < n → 0 ≤ T i ∧ T i ≤ 255) (h : ltP T n c) (hk : a + j < c) : bY (aM T n) (dI T n) a (j + 1) = bY (aM T n) (dI T n) a j + ptS T n (ptP T n (a + j)) ∧ ptS T n (ptP T n (a + j)) ≤ 258 := by
  have hrg := pk_rng hT h hk
  show bY (aM T n) (dI T n) a j + (if dI T n (a + j) = 0 then 1 else aM T n (a + j)) = _ ∧ _
  rcases hrg with q | q
  · rw [if_pos q.1]; omega
  · rw [if_neg (by omega)]; omega
/-! the tape below its end alone -/
section CGR
variable {T T' : Nat → Int} {n : Nat}
theorem bitT_g (h : ∀ i, i < n → T i = T' i) {j : Nat} (hj : j < 8 * n) : bitT T j = bitT T' j := by
  unfold bitT
  rw [h (j / 8) (by omega)]
theorem vB_g (h : ∀ i, i < n → T i = T' i) {p : Nat} : ∀ k, p + k ≤ 8 * n → vB T p k = vB T' p k := by
  intro k
  induction k with
  | zero => intro _; rfl
  | succ k ih =>
    intro hk
    show vB T p k + bitT T (p + k) * 2 ^ k = vB T' p k + bitT T' (p + k) * 2 ^ k
    rw [ih (by omega), bitT_g h (by omega)]
theorem cdV_g (h : ∀ i, i < n → T i = T' i) {p : Nat} : ∀ k, p + k ≤ 8 * n → cdV T p k = cdV T' p k := by
  intro k
  induction k with
  | zero => intro _; rfl
  | succ k ih =>
    intro hk
    show 2 * cdV T p k + bitT T (p + k) = 2 * cdV T' p k + bitT T' (p + k)
    rw [ih (by omega), bitT_g h (by omega)]
theorem sdF_g (h : ∀ i, i < n → T i = T' i) {p : Nat} {L : Nat → Nat} {N : Nat} : ∀ f l, sdF T n p L N f l = sdF T' n p L N f l := by
  intro f
  induction f with
  | zero => intro l; rfl
  | succ f ih =>
    intro l
    show (if 8 * n < p + l then none else if cdV T p l < ncN L N l + ctN L l N then some (l, cdV T p l - ncN L N l) else sdF T n p L N f (l + 1)) = (if 8 * n < p + l then none else if cdV T' p l < ncN L N l + ctN L l N then some (l, cdV T' p l - ncN L N l) else sdF T' n p L N f (l + 1))
    by_cases c : 8 * n < p + l
    · rw [if_pos c, if_pos c]
    · rw [if_neg c, if_neg c, cdV_g h l (by omega), ih]
theorem sdR_g (h : ∀ i, i < n → T i = T' i) {p : Nat} {L : Nat → Nat} {N : Nat} : sdR T n p L N = sdR T' n p L N := by
  unfold sdR
  rw [sdF_g h]
theorem stM_g (h : ∀ i, i < n → T i = T' i) {LD : Nat → Nat} {ND q k : Nat} {o : Nat → Int} {m : Nat} (hq : q + LEf k ≤ 8 * n) : stM T n LD ND q k o m = stM T' n LD ND q k o m := by
  unfold stM
  rw [sdR_g h]
  cases hs : sdR T' n (q + LEf k) LD ND with
  | none => rfl
  | some w =>
    obtain ⟨d, r⟩ := w
    show (if 29 < d then none else if 8 * n < r + DEf d then none else if m < DBf d + vB T r (DEf d) then none else match cpB (LBf k + vB T q (LEf k)) o m (DBf d + vB T r (DEf d)) with | none => none | some (o2, m2) => some (r + DEf d, o2, m2)) = (if 29 < d then none else if 8 * n < r + DEf d then none else if m < DBf d + vB T' r (DEf d) then none else match cpB (LBf k + vB T' q (LEf k)) o m (DBf d + vB T' r (DEf d)) with | none => none | some (o2, m2) => some (r + DEf d, o2, m2))
    by_cases c : 8 * n < r + DEf d
    · rw [if_pos c, if_pos c]
    · rw [vB_g h _ hq, vB_g h (DEf d) (by omega)]
theorem stP_g (h : ∀ i, i < n → T i = T' i) {L1 : Nat → Nat} {N1 : Nat} {LD : Nat → Nat} {ND p : Nat} {o : Nat → Int} {m : Nat} : stP T n L1 N1 LD ND p o m = stP T' n L1 N1 LD ND p o m := by
  unfold stP
  rw [sdR_g h]
  cases hs : sdR T' n p L1 N1 with
  | none => rfl
  | some w =>
    obtain ⟨s, q⟩ := w
    show (if s = 256 then some (true, q, o, m) else if s < 256 then (if 6000 ≤ m then none else some (false, q, putT o m s, m + 1)) else if 285 < s then none else if 8 * n < q + LEf (s - 257) then none else match stM T n LD ND q (s - 257) o m with | none => none | some r => some (false, r)) = (if s = 256 then some (true, q, o, m) else if s < 256 then (if 6000 ≤ m then none else some (false, q, putT o m s, m + 1)) else if 285 < s then none else if 8 * n < q + LEf (s - 257) then none else match stM T' n LD ND q (s - 257) o m with | none => none | some r => some (false, r))
    by_cases c : 8 * n < q + LEf (s - 257)
    · rw [if_pos c, if_pos c]
    · rw [stM_g h (by omega)]
theorem upP_cg (h : ∀ i, i < n → T i = T' i) {L1 : Nat → Nat} {N1 : Nat} {LD : Nat → Nat} {ND : Nat} : ∀ F p o m, upP T n L1 N1 LD ND F p o m = upP T' n L1 N1 LD ND F p o m := by
  intro F
  induction F with
  | zero => intro p o m; rfl
  | succ F ih =>
    intro p o m
    unfold upP
    rw [stP_g h]
    cases hs : stP T' n L1 N1 LD ND p o m with
    | none => rfl
    | some w =>
      obtain ⟨b, r⟩ := w
      cases b with
      | true => rfl
      | false => exact ih _ _ _
theorem cpS_g (h : ∀ i, i < n → T i = T' i) : ∀ k q o m, cpS T n k q o m = cpS T' n k q o m := by
  intro k
  induction k with
  | zero => intro q o m; rfl
  | succ k ih =>
    intro q o m
    show (if 8 * n < q + 8 then none else if 6000 ≤ m then none else cpS T n k (q + 8) (putT o m (vB T q 8 : Nat)) (m + 1)) = (if 8 * n < q + 8 then none else if 6000 ≤ m then none else cpS T' n k (q + 8) (putT o m (vB T' q 8 : Nat)) (m + 1))
    by_cases c : 8 * n < q + 8
    · rw [if_pos c, if_pos c]
    · rw [vB_g h 8 (by omega), ih]
theorem stS_g (h : ∀ i, i < n → T i = T' i) {p : Nat} {o : Nat → Int} {m : Nat} : stS T n p o m = stS T' n p o m := by
  unfold stS
  by_cases c : 8 * n < (p + 7) / 8 * 8 + 32
  · rw [if_pos c, if_pos c]
  · rw [if_neg c, if_neg c, vB_g h 16 (by omega), vB_g h 16 (by omega), cpS_g h]
theorem alF_g (h : ∀ i, i < n → T i = T' i) {p : Nat} : ∀ i, p + 3 * i ≤ 8 * n → alF T p i = alF T' p i := by
  intro i
  induction i with
  | zero => intro _; rfl
  | succ i ih =>
    intro hi
    funext k
    show (if k = ORf i then vB T (p + 3 * i) 3 else alF T p i k) = (if k = ORf i then vB T' (p + 3 * i) 3 else alF T' p i k)
    rw [vB_g h 3 (by omega), ih (by omega)]
theorem rwS_g (h : ∀ i, i < n → T i = T' i) {L : Nat → Nat} {N z p a : Nat} {r : Nat → Nat} : rwS T n L N z p a r = rwS T' n L N z p a r := by
  cases hs : sdR T' n p L N with
  | none => rw [rwS_0 (T := T') hs, rwS_0 ((sdR_g h).trans hs)]
  | some w =>
    obtain ⟨s, q⟩ := w
    rw [rwS_e (T := T') hs, rwS_e ((sdR_g h).trans hs)]
    by_cases c : 8 * n < q + REf (s - 16)
    · rw [if_pos c, if_pos c]
    · rw [vB_g h (REf (s - 16)) (by omega)]
theorem rwL_g (h : ∀ i, i < n → T i = T' i) {L : Nat → Nat} {N z : Nat} : ∀ F p a r, rwL T n L N z F p a r = rwL T' n L N z F p a r := by
  intro F
  induction F with
  | zero => intro p a r; rfl
  | succ F ih =>
    intro p a r
    unfold rwL
    rw [rwS_g h]
    by_cases c : z ≤ a
    · rw [if_pos c, if_pos c]
    · rw [if_neg c, if_neg c]
      cases hs : rwS T' n L N z p a r with
      | none => rfl
      | some w => exact ih _ _ _
theorem hd2_g (h : ∀ i, i < n → T i = T' i) {q nl nd i : Nat} : hd2 T n q nl nd i = hd2 T' n q nl nd i := by
  unfold hd2
  by_cases c : 8 * n < q + 3 * i
  · rw [if_pos c, if_pos c]
  · rw [if_neg c, if_neg c, alF_g h i (by omega), rwL_g h]
theorem hdU_g (h : ∀ i, i < n → T i = T' i) {p : Nat} : hdU T n p = hdU T' n p := by
  unfold hdU
  by_cases c : 8 * n < p + 14
  · rw [if_pos c, if_pos c]
  · rw [if_neg c, if_neg c, vB_g h 5 (by omega), vB_g h (p := p + 5) 5 (by omega), vB_g h (p := p + 10) 4 (by omega), hd2_g h]
theorem blU_g (h : ∀ i, i < n → T i = T' i) {p : Nat} {o : Nat → Int} {m : Nat} : blU T n p o m = blU T' n p o m := by
  unfold blU
  by_cases c : 8 * n < p + 3
  · rw [if_pos c, if_pos c]
  · rw [if_neg c, if_neg c, vB_g h (p := p + 1) 2 (by omega), stS_g h, upP_cg h, hdU_g h]
    by_cases c0 : vB T' (p + 1) 2 = 0
    · rw [if_pos c0, if_pos c0]
    · rw [if_neg c0, if_neg c0]
      by_cases c1 : vB T' (p + 1) 2 = 1
      · rw [if_pos c1, if_pos c1]
      · rw [if_neg c1, if_neg c1]
        by_cases c2 : vB T' (p + 1) 2 = 2
        · rw [if_pos c2, if_pos c2]
          cases hs : hdU T' n (p + 3) with
          | none => rfl
          | some w =>
            obtain ⟨q, L1, L2⟩ := w
            exact upP_cg h _ _ _ _
        · rw [if_neg c2, if_neg c2]
theorem unL_c (h : ∀ i, i < n → T i = T' i) : ∀ F p o m, unL T n F p o m = unL T' n F p o m := by
  intro F
  induction F with
  | zero => intro p o m; rfl
  | succ F ih =>
    intro p o m
    unfold unL
    rw [blU_g h]
    cases hs : blU T' n p o m with
    | none => rfl
    | some r =>
      have hk := blU_ok hs
      show (if bitT T p = 1 then some r.2 else unL T n F r.1 r.2.1 r.2.2) = (if bitT T' p = 1 then some r.2 else unL T' n F r.1 r.2.1 r.2.2)
      rw [bitT_g h (by omega), ih]
theorem lc_g (h : ∀ i, i < n → T i = T' i) {q p : Nat} (hq : q ≤ p) : ∀ m, p + m ≤ n → lc T q p m = lc T' q p m := by
  intro m
  induction m with
  | zero => intro _; rfl
  | succ m ih =>
    intro hm
    show (if lc T q p m = m ∧ T (q + m) = T (p + m) then m + 1 else lc T q p m) = (if lc T' q p m = m ∧ T' (q + m) = T' (p + m) then m + 1 else lc T' q p m)
    rw [ih (by omega), h (q + m) (by omega), h (p + m) (by omega)]
theorem bf_g {p m b : Nat} (h : ∀ q, q ≤ p → lc T q p m = lc T' q p m) : ∀ k, bf T p m b k = bf T' p m b k := by
  intro k
  induction k with
  | zero => rfl
  | succ k ih =>
    show (if (bf T p m b k).1 < lc T (p - (k + 1)) p m then (lc T (p - (k + 1)) p m, k + 1) else bf T p m b k) = (if (bf T' p m b k).1 < lc T' (p - (k + 1)) p m then (lc T' (p - (k + 1)) p m, k + 1) else bf T' p m b k)
    rw [ih, h (p - (k + 1)) (by omega)]
theorem mt_g (h : ∀ i, i < n → T i = T' i) (p : Nat) : mt T n p = mt T' n p := by
  unfold mt
  refine bf_g (fun q hq => ?_) _
  by_cases c : p ≤ n
  · exact lc_g h hq _ (by omega)
  · rw [show min 258 (n - p) = 0 by omega]
    rfl
theorem ptS_g (h : ∀ i, i < n → T i = T' i) (p : Nat) : ptS T n p = ptS T' n p := by
  unfold ptS mL
  rw [mt_g h, mt_g h]
theorem ptD_g (h : ∀ i, i < n → T i = T' i) (p : Nat) : ptD T n p = ptD T' n p := by
  unfold ptD mL mD
  rw [mt_g h, mt_g h]
theorem ptP_g (h : ∀ i, i < n → T i = T' i) : ∀ k, ptP T n k = ptP T' n k := by
  intro k
  induction k with
  | zero => rfl
  | succ k ih =>
    show ptP T n k + ptS T n (ptP T n k) = ptP T' n k + ptS T' n (ptP T' n k)
    rw [ih, ptS_g h]
theorem ltP_g (h : ∀ i, i < n → T i = T' i) {c : Nat} (A : ltP T n c) : ltP T' n c := fun j hj => by
  rw [← ptP_g h]
  exact A j hj
theorem pmI_g (h : ∀ i, i < n → T i = T' i) {M B Y K : Nat → Int32} {c : Nat} (L : ltP T n c) (A : pmI M B Y K T n c) : pmI M B Y K T' n c := fun k hk => by
  obtain ⟨a1, a2, a3, a4⟩ := A k hk
  have hl := L k hk
  refine ⟨?_, ?_, ?_, a4⟩
  · rw [a1, ptP_g h, ptS_g h]
  · rw [a2]
    show ((ptD T n (ptP T n k) : Nat) : Int) = ((ptD T' n (ptP T' n k) : Nat) : Int)
    rw [ptP_g h, ptD_g h]
  · rw [a3, ← ptP_g h, h _ hl]
/-- how many parts -/
theorem pc_1 {c d : Nat} (h1 : ltP T n c) (h2 : ptP T n c = n) (h3 : ltP T n d) (h4 : ptP T n d = n) : c = d := by
  rcases Nat.lt_trichotomy c d with q | q | q
  · have := h3 c q; omega
  · exact q
  · have := h1 d q; omega
theorem bn_1 {c b d : Nat} (h1 : bnP c b) (h2 : bnP c d) : b = d := by unfold bnP at h1 h2; omega
end CGR
end
section
/-! PRINTED by wip/pack: the model packs: blocks, bytes -/
theorem x72_0 : ∀ k : Nat, ¬ (75 = 71 ∧ k = 7) := fun k c => by omega
set_option maxRecDepth 4000 in
set_option maxHeartbeats 2000000 in
theorem m_pk3_L0 {E : Nat → Nat × (Nat → Int32)} {d : Nat} {Q : ez_Q} {h : ez_H} {l1 : Option Value} {f2 : Int32} {l3 : Option Value} {l4 : Option Value} {l5 : Option Value} (S : zSh h) {S0 : Nat × Nat} (hs : mS (ez_I h 75) S0) (hb : (ez_I h 71 16).toInt = (S0.2 : Nat)) (hr : S0.2 ≤ 48800) (K : ∀ h2 (x : Int32), zW (fun q k => q = 71 ∧ k = 7) (fun q => q = 73) (fun _ => False) h h2 → x.toInt = (((S0.2 + 7) / 8 : Nat) : Int) → (ez_I h2 71 7).toInt = x.toInt → x.toInt ≤ 6100 → (∀ i : Nat, i < x.toInt.toNat → (ez_I h2 73 i).toInt % 256 = ((S0.1 / 256 ^ i % 256 : Nat) : Int)) → Q (.inl (some (.int x))) h2) : ∀ N : Nat, (∀ (h2 : ez_H) (j : Int32) , zW (fun q k => q = 71 ∧ k = 7) (fun q => q = 73) (fun _ => False) h h2 → (0 ≤ j.toInt ∧ j.toInt ≤ (ez_I h2 71 7).toInt ∧ (ez_I h2 71 7).toInt = (((S0.2 + 7) / 8 : Nat) : Int)) → ((∀ i : Nat, i < j.toInt.toNat → (ez_I h2 73 i).toInt % 256 = ((S0.1 / 256 ^ i % 256 : Nat) : Int))) → (10000 - j.toInt) < (N : Int) → pw E (d + 3) 45 131 [some (.ref 71), l1, some (.int f2), some (.int j), l4, l5] [] h2 Q) := by
  intro N
  induction N with
  | zero => exact fun h2 j  F hinv A_out hm => absurd hm (by have w_j := z_rng j; have gf2 := z_rng f2; omega)
  | succ N ih =>
    refine fun h2 j  F hinv A_out hm => ?_
    · skip
      have w_j := z_rng j
      have gf2 := z_rng f2
      have S2 := zW_sh F S
      apply ez_Wp_in
      show ez_gw _ _ _ _ _ _ (cz_45) _ _ _ _ _
      refine gw_skip _ ?_
      have r1 := z_rng (ez_I h2 71 7)
      refine gw_ld rfl rfl ?_
      refine gw_ld rfl rfl ?_
      refine z_gI2 (by decide) (zT S2 (by decide) rfl) (rfl) ?_
      refine z_b2 (fun c2 => ?_) (fun c2 => ?_)
      · have c2 : ((ez_I h2 71 7)).toInt ≤ j.toInt := c2
        refine gw_skip _ ?_
        refine gw_ld rfl rfl ?_
        refine z_gI2 (by decide) (zT S2 (by decide) rfl) (rfl) ?_
        refine z_ri ?_
        have b1 := A_out
        rw [show j.toInt.toNat = ((ez_I h2 71 7)).toInt.toNat by omega] at b1
        exact K _ _ F (by omega) rfl (by omega) b1
      · have c2 : ¬ (((ez_I h2 71 7)).toInt ≤ j.toInt) := c2
        refine gw_ld rfl rfl ?_
        refine z_gR (q := 73) (zT S2 (by decide) rfl) (zRf S2 (by decide) (by decide) rfl) (by decide) ?_
        refine gw_ld rfl rfl ?_
        refine gw_ld rfl rfl ?_
        refine z_gR (q := 75) (zT S2 (by decide) rfl) (zRf S2 (by decide) (by decide) rfl) (by decide) ?_
        refine gw_ld rfl rfl ?_
        refine z_baV (n := 8000) (zT S2 (by decide) rfl) (zN S2 (by decide) rfl) (by omega) (zW_f F (by decide) (x72_0 _)) ?_
        generalize ex3 : ez_I h 75 j.toInt.toNat = x3
        have rx3 := z_rng x3
        have yo := hs.2.2 j.toInt.toNat (by omega)
        rw [show j.toInt.toNat = j.toInt.toNat by omega, ex3] at yo
        rw [show j.toInt.toNat = j.toInt.toNat by omega] at yo
        refine z_bs (n := 6200) (zT S2 (by decide) rfl) (zN S2 (by decide) rfl) (by omega) (fun h4 e5 => ?_)
        have S7 := zSh_set S2 e5
        have F8 := zW_setA F e5 (by decide)
        have f9 : ez_I h4 71 7 = (ez_I h2 71 7) := (zI_ne e5 (by omega)).trans (rfl)
        have A10 : (∀ i : Nat, i < j.toInt.toNat + 1 → (ez_I h4 73 i).toInt % 256 = ((S0.1 / 256 ^ i % 256 : Nat) : Int)) := (fun i hi => by by_cases q : i = j.toInt.toNat; rw [q, show j.toInt.toNat = j.toInt.toNat by omega, zI_eq e5, n_i2b, show j.toInt.toNat = j.toInt.toNat by omega]; exact yo; rw [zI_ne e5 (by omega)]; exact A_out i (by omega))
        refine z_inc rfl (by rw [show (1 : Int32).toInt = 1 from rfl]; omega) (fun x11 ex11 => ?_)
        rw [show (1 : Int32).toInt = 1 from rfl] at ex11
        show ez_gw _ _ _ _ _ _ _ _ [some (.ref 71), l1, some (.int f2), some (.int x11), l4, l5] _ _ _
        refine z_go ?_
        have t12 := congrArg Int32.toInt (f9)
        exact ih h4 x11 F8 (by omega) ((by rw [show x11.toInt.toNat = j.toInt.toNat + 1 by omega]; exact A10)) (by omega)
set_option maxRecDepth 4000 in
set_option maxHeartbeats 2000000 in
theorem m_pk3 {E : Nat → Nat × (Nat → Int32)} {d : Nat} {Q : ez_Q} {h : ez_H} {l1 : Option Value} {f2 : Int32} {l3 : Option Value} {l4 : Option Value} {l5 : Option Value} (S : zSh h) {S0 : Nat × Nat} (hs : mS (ez_I h 75) S0) (hb : (ez_I h 71 16).toInt = (S0.2 : Nat)) (hr : S0.2 ≤ 48800) (K : ∀ h2 (x : Int32), zW (fun q k => q = 71 ∧ k = 7) (fun q => q = 73) (fun _ => False) h h2 → x.toInt = (((S0.2 + 7) / 8 : Nat) : Int) → (ez_I h2 71 7).toInt = x.toInt → x.toInt ≤ 6100 → (∀ i : Nat, i < x.toInt.toNat → (ez_I h2 73 i).toInt % 256 = ((S0.1 / 256 ^ i % 256 : Nat) : Int)) → Q (.inl (some (.int x))) h2) : pw E (d + 3) 45 115 [some (.ref 71), l1, some (.int f2), l3, l4, l5] [] h Q := by
  have gf2 := z_rng f2
  have F := zW_refl (fun q k => q = 71 ∧ k = 7) (fun q => q = 73) (fun _ => False) h
  apply ez_Wp_in
  show ez_gw _ _ _ _ _ _ (cz_45) _ _ _ _ _
  refine gw_skip _ ?_
  have r1 := z_rng (ez_I h 71 7)
  refine gw_ld rfl rfl ?_
  refine gw_ld rfl rfl ?_
  have r2 := z_rng (ez_I h 71 16)
  refine z_gI2 (by decide) (zT S (by decide) rfl) (zW_f F (by decide) (by decide)) ?_
  refine z_C (m := 7) rfl rfl (fun x3 ex3 => ?_)
  refine z_add (by omega) (fun x4 ex4 => ?_)
  refine z_C (m := 8) rfl rfl (fun x5 ex5 => ?_)
  refine z_dvP (c := 8) ex5 (by decide) (by omega) (fun x6 ex6 => ?_)
  refine z_pI (zT S (by decide) rfl) (fun h7 e8 => ?_)
  have S9 := zSh_set S e8
  have F10 := zW_setF F e8 (by decide)
  have f11 : ez_I h7 71 7 = x6 := zI_eq e8
  refine z_C (m := 0) rfl rfl (fun x12 ex12 => ?_)
  refine gw_st rfl rfl rfl ?_
  show ez_gw _ _ _ _ _ _ _ _ [some (.ref 71), l1, some (.int f2), some (.int x12), l4, l5] _ _ _
  have t13 := congrArg Int32.toInt (f11)
  exact ez_Wp_at ((m_pk3_L0 (l1 := l1) (f2 := f2) (l3 := l3) (l4 := l4) (l5 := l5) S hs hb hr K (((10000 - x12.toInt)).toNat + 1)) h7 x12 F10 (by omega) ((fun i hi => by omega)) (by omega)) rfl
theorem x72_1 : ¬ (72 = 75 ∨ 83 ≤ 72 ∧ 72 ≤ 91 ∨ 97 ≤ 72 ∧ 72 ≤ 119) := by omega
theorem x72_2 : ∀ k : Nat, ¬ (72 = 71 ∧ k = 15 ∨ 72 = 71 ∧ k = 16 ∨ 72 = 71 ∧ k = 56 ∨ 72 = 71 ∧ k = 57 ∨ 72 = 71 ∧ k = 58) := fun k c => by omega
theorem x72_3 : ¬ (77 = 75 ∨ 83 ≤ 77 ∧ 77 ≤ 91 ∨ 97 ≤ 77 ∧ 77 ≤ 119) := by omega
theorem x72_4 : ∀ k : Nat, ¬ (77 = 71 ∧ k = 15 ∨ 77 = 71 ∧ k = 16 ∨ 77 = 71 ∧ k = 56 ∨ 77 = 71 ∧ k = 57 ∨ 77 = 71 ∧ k = 58) := fun k c => by omega
theorem x72_5 : ¬ (78 = 75 ∨ 83 ≤ 78 ∧ 78 ≤ 91 ∨ 97 ≤ 78 ∧ 78 ≤ 119) := by omega
theorem x72_6 : ∀ k : Nat, ¬ (78 = 71 ∧ k = 15 ∨ 78 = 71 ∧ k = 16 ∨ 78 = 71 ∧ k = 56 ∨ 78 = 71 ∧ k = 57 ∨ 78 = 71 ∧ k = 58) := fun k c => by omega
theorem x72_7 : ¬ (79 = 75 ∨ 83 ≤ 79 ∧ 79 ≤ 91 ∨ 97 ≤ 79 ∧ 79 ≤ 119) := by omega
theorem x72_8 : ∀ k : Nat, ¬ (79 = 71 ∧ k = 15 ∨ 79 = 71 ∧ k = 16 ∨ 79 = 71 ∧ k = 56 ∨ 79 = 71 ∧ k = 57 ∨ 79 = 71 ∧ k = 58) := fun k c => by omega
theorem x72_9 : ¬ (80 = 75 ∨ 83 ≤ 80 ∧ 80 ≤ 91 ∨ 97 ≤ 80 ∧ 80 ≤ 119) := by omega
theorem x72_10 : ∀ k : Nat, ¬ (80 = 71 ∧ k = 15 ∨ 80 = 71 ∧ k = 16 ∨ 80 = 71 ∧ k = 56 ∨ 80 = 71 ∧ k = 57 ∨ 80 = 71 ∧ k = 58) := fun k c => by omega
theorem x72_11 : ¬ (92 = 75 ∨ 83 ≤ 92 ∧ 92 ≤ 91 ∨ 97 ≤ 92 ∧ 92 ≤ 119) := by omega
theorem x72_12 : ∀ k : Nat, ¬ (92 = 71 ∧ k = 15 ∨ 92 = 71 ∧ k = 16 ∨ 92 = 71 ∧ k = 56 ∨ 92 = 71 ∧ k = 57 ∨ 92 = 71 ∧ k = 58) := fun k c => by omega
theorem x72_13 : ¬ (93 = 75 ∨ 83 ≤ 93 ∧ 93 ≤ 91 ∨ 97 ≤ 93 ∧ 93 ≤ 119) := by omega
theorem x72_14 : ∀ k : Nat, ¬ (93 = 71 ∧ k = 15 ∨ 93 = 71 ∧ k = 16 ∨ 93 = 71 ∧ k = 56 ∨ 93 = 71 ∧ k = 57 ∨ 93 = 71 ∧ k = 58) := fun k c => by omega
theorem x72_15 : ¬ (94 = 75 ∨ 83 ≤ 94 ∧ 94 ≤ 91 ∨ 97 ≤ 94 ∧ 94 ≤ 119) := by omega
theorem x72_16 : ∀ k : Nat, ¬ (94 = 71 ∧ k = 15 ∨ 94 = 71 ∧ k = 16 ∨ 94 = 71 ∧ k = 56 ∨ 94 = 71 ∧ k = 57 ∨ 94 = 71 ∧ k = 58) := fun k c => by omega
theorem x72_17 : ¬ (95 = 75 ∨ 83 ≤ 95 ∧ 95 ≤ 91 ∨ 97 ≤ 95 ∧ 95 ≤ 119) := by omega
theorem x72_18 : ∀ k : Nat, ¬ (95 = 71 ∧ k = 15 ∨ 95 = 71 ∧ k = 16 ∨ 95 = 71 ∧ k = 56 ∨ 95 = 71 ∧ k = 57 ∨ 95 = 71 ∧ k = 58) := fun k c => by omega
theorem x72_19 : ¬ (96 = 75 ∨ 83 ≤ 96 ∧ 96 ≤ 91 ∨ 97 ≤ 96 ∧ 96 ≤ 119) := by omega
theorem x72_20 : ∀ k : Nat, ¬ (96 = 71 ∧ k = 15 ∨ 96 = 71 ∧ k = 16 ∨ 96 = 71 ∧ k = 56 ∨ 96 = 71 ∧ k = 57 ∨ 96 = 71 ∧ k = 58) := fun k c => by omega
theorem x72_21 : ∀ q k : Nat, (q = 71 ∧ k = 15 ∨ q = 71 ∧ k = 16 ∨ q = 71 ∧ k = 56 ∨ q = 71 ∧ k = 57 ∨ q = 71 ∧ k = 58) → (q = 71 ∧ k = 15 ∨ q = 71 ∧ k = 16 ∨ q = 71 ∧ k = 56 ∨ q = 71 ∧ k = 57 ∨ q = 71 ∧ k = 58) := fun q k hk => hk.elim (fun g => (.inl g)) (fun hk => hk.elim (fun g => (.inr (.inl g))) (fun hk => hk.elim (fun g => (.inr (.inr (.inl g)))) (fun hk => hk.elim (fun g => (.inr (.inr (.inr (.inl g))))) (fun hk => (.inr (.inr (.inr (.inr hk))))))))
theorem x72_22 : ∀ q : Nat, (q = 75 ∨ 83 ≤ q ∧ q ≤ 91 ∨ 97 ≤ q ∧ q ≤ 119) → (q = 75 ∨ 83 ≤ q ∧ q ≤ 91 ∨ 97 ≤ q ∧ q ≤ 119) := fun q hk => hk.elim (fun g => (.inl g)) (fun hk => hk.elim (fun g => (.inr (.inl g))) (fun hk => (.inr (.inr hk))))
theorem x72_23 : ∀ q : Nat, (False) → (False) := fun q hk => hk.elim
theorem x72_24 : ∀ q k : Nat, (q = 71 ∧ k = 15 ∨ q = 71 ∧ k = 16 ∨ q = 71 ∧ k = 56 ∨ q = 71 ∧ k = 57 ∨ q = 71 ∧ k = 58) → (q = 71 ∧ k = 15 ∨ q = 71 ∧ k = 16 ∨ q = 71 ∧ k = 56 ∨ q = 71 ∧ k = 57 ∨ q = 71 ∧ k = 58 ∨ q = 71 ∧ k = 7) := fun q k hk => hk.elim (fun g => (.inl g)) (fun hk => hk.elim (fun g => (.inr (.inl g))) (fun hk => hk.elim (fun g => (.inr (.inr (.inl g)))) (fun hk => hk.elim (fun g => (.inr (.inr (.inr (.inl g))))) (fun hk => (.inr (.inr (.inr (.inr (.inl hk)))))))))
theorem x72_25 : ∀ q : Nat, (q = 75 ∨ 83 ≤ q ∧ q ≤ 91 ∨ 97 ≤ q ∧ q ≤ 119) → (q = 73 ∨ q = 75 ∨ 83 ≤ q ∧ q ≤ 91 ∨ 97 ≤ q ∧ q ≤ 119) := fun q hk => hk.elim (fun g => (.inr (.inl g))) (fun hk => hk.elim (fun g => (.inr (.inr (.inl g)))) (fun hk => (.inr (.inr (.inr hk)))))
theorem x72_26 : ∀ q k : Nat, (q = 71 ∧ k = 7) → (q = 71 ∧ k = 15 ∨ q = 71 ∧ k = 16 ∨ q = 71 ∧ k = 56 ∨ q = 71 ∧ k = 57 ∨ q = 71 ∧ k = 58 ∨ q = 71 ∧ k = 7) := fun q k hk => (.inr (.inr (.inr (.inr (.inr hk)))))
theorem x72_27 : ∀ q : Nat, (q = 73) → (q = 73 ∨ q = 75 ∨ 83 ≤ q ∧ q ≤ 91 ∨ 97 ≤ q ∧ q ≤ 119) := fun q hk => (.inl hk)
theorem x72_28 : ¬ (71 = 73) := by omega
theorem x72_29 : ¬ (71 = 71 ∧ 15 = 7) := by omega
theorem x72_30 : ¬ (83 = 73) := by omega
theorem x72_31 : ∀ k : Nat, ¬ (83 = 71 ∧ k = 7) := fun k c => by omega
theorem x72_32 : ¬ (84 = 73) := by omega
theorem x72_33 : ∀ k : Nat, ¬ (84 = 71 ∧ k = 7) := fun k c => by omega
theorem x72_34 : ¬ (85 = 73) := by omega
theorem x72_35 : ∀ k : Nat, ¬ (85 = 71 ∧ k = 7) := fun k c => by omega
theorem x72_36 : ¬ (86 = 73) := by omega
theorem x72_37 : ∀ k : Nat, ¬ (86 = 71 ∧ k = 7) := fun k c => by omega
theorem x72_38 : ¬ (87 = 73) := by omega
theorem x72_39 : ∀ k : Nat, ¬ (87 = 71 ∧ k = 7) := fun k c => by omega
theorem x72_40 : ¬ (88 = 73) := by omega
theorem x72_41 : ∀ k : Nat, ¬ (88 = 71 ∧ k = 7) := fun k c => by omega
theorem x72_42 : ¬ (89 = 73) := by omega
theorem x72_43 : ∀ k : Nat, ¬ (89 = 71 ∧ k = 7) := fun k c => by omega
theorem x72_44 : ¬ (90 = 73) := by omega
theorem x72_45 : ∀ k : Nat, ¬ (90 = 71 ∧ k = 7) := fun k c => by omega
theorem x72_46 : ¬ (91 = 73) := by omega
theorem x72_47 : ∀ k : Nat, ¬ (91 = 71 ∧ k = 7) := fun k c => by omega
theorem x72_48 : ¬ (75 = 73) := by omega
set_option maxRecDepth 4000 in
set_option maxHeartbeats 2000000 in
theorem m_pk2_L0 {E : Nat → Nat × (Nat → Int32)} {d : Nat} {Q : ez_Q} {h : ez_H} {p : Int32} {f : Int32} {l3 : Option Value} {l4 : Option Value} {l5 : Option Value} (S : zSh h) {T : Nat → Int} {n c b : Nat} (hC : mbC (ez_I h 72) (ez_I h 77) (ez_I h 78) (ez_I h 79) (ez_I h 80) (ez_I h 92) (ez_I h 93) (ez_I h 94) (ez_I h 95) (ez_I h 96) T n c) (hc : (ez_I h 71 14).toInt = (c : Nat)) (hbn : bnP c b) (hs : mS (ez_I h 75) (0, 0)) (hb : (ez_I h 71 16).toInt = 0) (hg : aR (ez_I h 75) 8000 (-128) 127) (h15 : (ez_I h 71 15).toInt = 0) (hpf : p.toInt = 0 ∧ f.toInt = 0) (K : ∀ h2 (x : Int32), zW (fun q k => q = 71 ∧ k = 15 ∨ q = 71 ∧ k = 16 ∨ q = 71 ∧ k = 56 ∨ q = 71 ∧ k = 57 ∨ q = 71 ∧ k = 58 ∨ q = 71 ∧ k = 7) (fun q => q = 73 ∨ q = 75 ∨ 83 ≤ q ∧ q ≤ 91 ∨ 97 ≤ q ∧ q ≤ 119) (fun _ => False) h h2 → x.toInt = ((((pkS T n c b b).2 + 7) / 8 : Nat) : Int) → (ez_I h2 71 7).toInt = x.toInt → x.toInt ≤ 6100 → (∀ i : Nat, i < x.toInt.toNat → (ez_I h2 73 i).toInt % 256 = (((pkS T n c b b).1 / 256 ^ i % 256 : Nat) : Int)) → (ez_I h2 71 15).toInt = (b : Nat) → (∀ i, i < b → bfM (ez_I h2 83) (ez_I h2 84) (ez_I h2 85) (ez_I h2 86) (ez_I h2 87) (ez_I h2 88) (ez_I h2 89) (ez_I h2 90) (ez_I h2 91) T n c b i) → aR (ez_I h2 75) 8000 (-128) 127 → Q (.inl (some (.int x))) h2) : ∀ N : Nat, (∀ (h2 : ez_H) (p : Int32) (f : Int32) (l3 : Option Value) (l4 : Option Value) (l5 : Option Value) (k : Nat), zW (fun q k => q = 71 ∧ k = 15 ∨ q = 71 ∧ k = 16 ∨ q = 71 ∧ k = 56 ∨ q = 71 ∧ k = 57 ∨ q = 71 ∧ k = 58) (fun q => q = 75 ∨ 83 ≤ q ∧ q ≤ 91 ∨ 97 ≤ q ∧ q ≤ 119) (fun _ => False) h h2 → (f.toInt = ((600 * k : Nat) : Int) ∧ k < b ∧ (ez_I h2 71 15).toInt = (k : Nat) ∧ p.toInt = (ptP T n (600 * k) : Nat) ∧ (ez_I h2 71 16).toInt = ((pkS T n c b k).2 : Nat) ∧ (pkS T n c b k).2 ≤ 42 * k + 8 * ptP T n (600 * k)) → (mS (ez_I h2 75) (pkS T n c b k)) → (aR (ez_I h2 75) 8000 (-128) 127) → ((∀ i, i < k → bfM (ez_I h2 83) (ez_I h2 84) (ez_I h2 85) (ez_I h2 86) (ez_I h2 87) (ez_I h2 88) (ez_I h2 89) (ez_I h2 90) (ez_I h2 91) T n c b i)) → (1000 * (100 - (k : Int))) < (N : Int) → pw E (d + 3) 45 23 [some (.ref 71), some (.int p), some (.int f), l3, l4, l5] [] h2 Q) ∧ (∀ (h2 : ez_H) (p : Int32) (f : Int32) (t : Int32) (m : Int32) (i : Int32) (k : Nat) (j : Nat), zW (fun q k => q = 71 ∧ k = 15 ∨ q = 71 ∧ k = 16 ∨ q = 71 ∧ k = 56 ∨ q = 71 ∧ k = 57 ∨ q = 71 ∧ k = 58) (fun q => q = 75 ∨ 83 ≤ q ∧ q ≤ 91 ∨ 97 ≤ q ∧ q ≤ 119) (fun _ => False) h h2 → (f.toInt = ((600 * k : Nat) : Int) ∧ k < b ∧ (ez_I h2 71 15).toInt = (k : Nat) ∧ p.toInt = (ptP T n (600 * k) : Nat) ∧ (ez_I h2 71 16).toInt = ((pkS T n c b k).2 : Nat) ∧ (pkS T n c b k).2 ≤ 42 * k + 8 * ptP T n (600 * k) ∧ i.toInt = ((600 * k + j : Nat) : Int) ∧ j ≤ blJ c k ∧ t.toInt = ((600 * k + blJ c k : Nat) : Int) ∧ m.toInt = (bY (aM T n) (dI T n) (600 * k) j : Nat) ∧ m.toInt ≤ 258 * j) → (mS (ez_I h2 75) (pkS T n c b k)) → (aR (ez_I h2 75) 8000 (-128) 127) → ((∀ i, i < k → bfM (ez_I h2 83) (ez_I h2 84) (ez_I h2 85) (ez_I h2 86) (ez_I h2 87) (ez_I h2 88) (ez_I h2 89) (ez_I h2 90) (ez_I h2 91) T n c b i)) → (1000 * (100 - (k : Int)) - 1 - j) < (N : Int) → pw E (d + 3) 45 54 [some (.ref 71), some (.int p), some (.int f), some (.int t), some (.int m), some (.int i)] [] h2 Q) := by
  intro N
  induction N with
  | zero => exact ⟨fun h2 p f l3 l4 l5 k F hinv A_st A_hg A_bk hm => absurd hm (by have cc9 := hC.2.1; have qk := bn_b hbn hinv.2.1 cc9; have w_p := z_rng p; have w_f := z_rng f; have gp := z_rng p; have gf := z_rng f; omega), fun h2 p f t m i k j F hinv A_st A_hg A_bk hm => absurd hm (by have cc9 := hC.2.1; have qk := bn_b hbn hinv.2.1 cc9; have w_p := z_rng p; have w_f := z_rng f; have w_t := z_rng t; have w_m := z_rng m; have w_i := z_rng i; have gp := z_rng p; have gf := z_rng f; omega)⟩
  | succ N ih =>
    refine ⟨fun h2 p f l3 l4 l5 k F hinv A_st A_hg A_bk hm => ?_, fun h2 p f t m i k j F hinv A_st A_hg A_bk hm => ?_⟩
    · skip
      have cc9 := hC.2.1
      have qk := bn_b hbn hinv.2.1 cc9
      have w_p := z_rng p
      have w_f := z_rng f
      have gp := z_rng p
      have gf := z_rng f
      have S2 := zW_sh F S
      obtain ⟨hf, hkb, h15k, hp, h16, hle⟩ := hinv
      obtain ⟨cn, cc, hT0, hB, hpm, hlt, hpe, t92, t93, t94, t95, t96⟩ := id hC
      clear hB t92 t93 t94 t95 t96
      obtain ⟨q600, qJc, qJ6, qk9⟩ := bn_b hbn hkb cc
      apply ez_Wp_in
      show ez_gw _ _ _ _ _ _ (cz_45) _ _ _ _ _
      refine gw_skip _ ?_
      have r1 := z_rng (ez_I h2 71 15)
      have r2 := z_rng (ez_I h2 71 16)
      have r3 := z_rng (ez_I h2 71 56)
      have r4 := z_rng (ez_I h2 71 57)
      have r5 := z_rng (ez_I h2 71 58)
      refine gw_ld rfl rfl ?_
      refine z_C (m := 600) rfl rfl (fun x6 ex6 => ?_)
      refine z_add (by omega) (fun x7 ex7 => ?_)
      refine gw_ld rfl rfl ?_
      have r8 := z_rng (ez_I h 71 14)
      refine z_gI2 (by decide) (zT S2 (by decide) rfl) (zW_f F (by decide) (by decide)) ?_
      refine z_b2 (fun c9 => ?_) (fun c9 => ?_)
      · have c9 : ((ez_I h 71 14)).toInt ≤ x7.toInt := c9
        refine gw_skip _ ?_
        refine gw_ld rfl rfl ?_
        refine z_gI2 (by decide) (zT S2 (by decide) rfl) (zW_f F (by decide) (by decide)) ?_
        refine gw_st rfl rfl rfl ?_
        show ez_gw _ _ _ _ _ _ _ _ [some (.ref 71), some (.int p), some (.int f), some (.int (ez_I h 71 14)), l4, l5] _ _ _
        refine z_C (m := 0) rfl rfl (fun x10 ex10 => ?_)
        refine gw_st rfl rfl rfl ?_
        show ez_gw _ _ _ _ _ _ _ _ [some (.ref 71), some (.int p), some (.int f), some (.int (ez_I h 71 14)), some (.int x10), l5] _ _ _
        refine gw_ld rfl rfl ?_
        refine gw_st rfl rfl rfl ?_
        show ez_gw _ _ _ _ _ _ _ _ [some (.ref 71), some (.int p), some (.int f), some (.int (ez_I h 71 14)), some (.int x10), some (.int f)] _ _ _
        exact ez_Wp_at (ih.2 h2 p f (ez_I h 71 14) x10 f k 0 F (⟨hf, hkb, h15k, hp, h16, hle, by omega, by omega, by have q9 := bl_e (c := c) (k := k) (by omega) (by omega); omega, by show _ = ((0 : Nat) : Int); omega, by omega⟩) (A_st) (A_hg) (A_bk) (by omega)) rfl
      · have c9 : ¬ (((ez_I h 71 14)).toInt ≤ x7.toInt) := c9
        refine gw_ld rfl rfl ?_
        refine z_C (m := 600) rfl rfl (fun x11 ex11 => ?_)
        refine z_add (by omega) (fun x12 ex12 => ?_)
        refine z_go ?_
        refine gw_skip _ ?_
        refine gw_st rfl rfl rfl ?_
        show ez_gw _ _ _ _ _ _ _ _ [some (.ref 71), some (.int p), some (.int f), some (.int x12), l4, l5] _ _ _
        refine z_C (m := 0) rfl rfl (fun x13 ex13 => ?_)
        refine gw_st rfl rfl rfl ?_
        show ez_gw _ _ _ _ _ _ _ _ [some (.ref 71), some (.int p), some (.int f), some (.int x12), some (.int x13), l5] _ _ _
        refine gw_ld rfl rfl ?_
        refine gw_st rfl rfl rfl ?_
        show ez_gw _ _ _ _ _ _ _ _ [some (.ref 71), some (.int p), some (.int f), some (.int x12), some (.int x13), some (.int f)] _ _ _
        exact ez_Wp_at (ih.2 h2 p f x12 x13 f k 0 F (⟨hf, hkb, h15k, hp, h16, hle, by omega, by omega, by have q9 := bl_t (c := c) (k := k) (by omega); omega, by show _ = ((0 : Nat) : Int); omega, by omega⟩) (A_st) (A_hg) (A_bk) (by omega)) rfl
    · skip
      have cc9 := hC.2.1
      have qk := bn_b hbn hinv.2.1 cc9
      have w_p := z_rng p
      have w_f := z_rng f
      have w_t := z_rng t
      have w_m := z_rng m
      have w_i := z_rng i
      have gp := z_rng p
      have gf := z_rng f
      have S2 := zW_sh F S
      obtain ⟨hf, hkb, h15k, hp, h16, hle, hi, hj, ht, hm9, hmb⟩ := hinv
      obtain ⟨cn, cc, hT0, hB, hpm, hlt, hpe, t92, t93, t94, t95, t96⟩ := id hC
      clear hB t92 t93 t94 t95 t96
      obtain ⟨q600, qJc, qJ6, qk9⟩ := bn_b hbn hkb cc
      apply ez_Wp_in
      show ez_gw _ _ _ _ _ _ (cz_45) _ _ _ _ _
      refine gw_skip _ ?_
      have r14 := z_rng (ez_I h2 71 15)
      have r15 := z_rng (ez_I h2 71 16)
      have r16 := z_rng (ez_I h2 71 56)
      have r17 := z_rng (ez_I h2 71 57)
      have r18 := z_rng (ez_I h2 71 58)
      refine gw_ld rfl rfl ?_
      refine gw_ld rfl rfl ?_
      refine z_b2 (fun c19 => ?_) (fun c19 => ?_)
      · have c19 : t.toInt ≤ i.toInt := c19
        refine gw_skip _ ?_
        have hjJ : j = blJ c k := by omega
        rw [hjJ] at hm9
        have hyk0 : bkY T n (600 * k) (blJ c k) = bY (aM T n) (dI T n) (600 * k) (blJ c k) := rfl
        refine gw_ld rfl rfl ?_
        refine gw_ld rfl rfl ?_
        refine gw_ld rfl rfl ?_
        refine gw_ld rfl rfl ?_
        refine gw_ld rfl rfl ?_
        refine gw_ld rfl rfl ?_
        refine gw_ld rfl rfl ?_
        have r20 := z_rng (ez_I h 71 14)
        refine z_gI2 (by decide) (zT S2 (by decide) rfl) (zW_f F (by decide) (by decide)) ?_
        refine z_b2 (fun c21 => ?_) (fun c21 => ?_)
        · have c21 : t.toInt ≠ ((ez_I h 71 14)).toInt := c21
          refine gw_skip _ ?_
          refine z_C (m := 0) rfl rfl (fun x22 ex22 => ?_)
          refine z_cl rfl rfl rfl rfl rfl rfl rfl rfl rfl rfl rfl (zT S2 (by decide) rfl) ?_
          have hA := mbA_of (fr := f) (to := t) (pl := p) (my := m) hT0 hlt (a := 600 * k) (j := blJ c k) (by omega) (by omega) (by omega) (by omega) (by omega) (by omega)
          have hY := hA.2.2.2.2.2.2
          have hY1 := hA.2.2.2.2.2.1
          have hlb : x22.toInt = (((if k + 1 = b then 1 else 0) : Nat) : Int) ∧ (if k + 1 = b then 1 else 0) ≤ 1 := by
            rw [if_neg (by have q9 := bn_n hbn hkb (by omega); omega)]; omega
          refine d_wBlock (fr := f) (to := t) (pl := p) (my := m) (ls := x22) (T := T) (n := n) (c := c) (a := 600 * k) (J := blJ c k) (l := (if k + 1 = b then 1 else 0)) (bn := k) (s0 := (pkS T n c b k)) S2 (by rw [(show ez_I h2 72 = ez_I h 72 from zW_fn F 72 x72_1 x72_2), (show ez_I h2 77 = ez_I h 77 from zW_fn F 77 x72_3 x72_4), (show ez_I h2 78 = ez_I h 78 from zW_fn F 78 x72_5 x72_6), (show ez_I h2 79 = ez_I h 79 from zW_fn F 79 x72_7 x72_8), (show ez_I h2 80 = ez_I h 80 from zW_fn F 80 x72_9 x72_10), (show ez_I h2 92 = ez_I h 92 from zW_fn F 92 x72_11 x72_12), (show ez_I h2 93 = ez_I h 93 from zW_fn F 93 x72_13 x72_14), (show ez_I h2 94 = ez_I h 94 from zW_fn F 94 x72_15 x72_16), (show ez_I h2 95 = ez_I h 95 from zW_fn F 95 x72_17 x72_18), (show ez_I h2 96 = ez_I h 96 from zW_fn F 96 x72_19 x72_20)]; exact hC) hA hlb A_st (by omega) A_hg (by omega) (by omega) (fun h23 F24 k25 k26 k27 k28 k29 => ?_)
          have A30 : mS (ez_I h23 75) (pkS T n c b (k + 1)) := m_mS k26
          obtain ⟨o3, o4, o5, o6, o7, o8, o9, o0, o1⟩ := k29
          have A31 := bfM_s A_bk o3 o4 o5 o6 o7 o8 o9 o0 o1 rfl rfl rfl rfl rfl rfl rfl rfl rfl
          have hb1 : (ez_I h23 71 16).toInt = ((pkS T n c b (k + 1)).2 : Nat) := k26.1
          have hb2 : (pkS T n c b (k + 1)).2 ≤ (pkS T n c b k).2 + 42 + 8 * bkY T n (600 * k) (blJ c k) := k25
          clear o3 o4 o5 o6 o7 o8 o9 o0 o1 k25 k26
          have hby := bY_pt (T := T) (n := n) (a := 600 * k) hT0 hlt (blJ c k) (by omega)
          have hyk : bkY T n (600 * k) (blJ c k) = bY (aM T n) (dI T n) (600 * k) (blJ c k) := rfl
          have S32 := zW_sh F24 S2
          have F33 := zW_tr F (zW_mono F24 (x72_21) (x72_22) (x72_23))
          have r34 := z_rng (ez_I h23 71 15)
          have r35 := z_rng (ez_I h23 71 16)
          have r36 := z_rng (ez_I h23 71 56)
          have r37 := z_rng (ez_I h23 71 57)
          have r38 := z_rng (ez_I h23 71 58)
          refine gw_ld rfl rfl ?_
          refine gw_ld rfl rfl ?_
          refine z_add (by omega) (fun x39 ex39 => ?_)
          refine gw_st rfl rfl rfl ?_
          show ez_gw _ _ _ _ _ _ _ _ [some (.ref 71), some (.int x39), some (.int f), some (.int t), some (.int m), some (.int i)] _ _ _
          refine gw_ld rfl rfl ?_
          refine gw_st rfl rfl rfl ?_
          show ez_gw _ _ _ _ _ _ _ _ [some (.ref 71), some (.int x39), some (.int t), some (.int t), some (.int m), some (.int i)] _ _ _
          refine gw_ld rfl rfl ?_
          refine gw_ld rfl rfl ?_
          refine z_gI2 (by decide) (zT S32 (by decide) rfl) (zW_f F33 (by decide) (by decide)) ?_
          refine z_b2 (fun c40 => ?_) (fun c40 => ?_)
          · have c40 : t.toInt < ((ez_I h 71 14)).toInt := c40
            have q9 := bn_n hbn hkb (by omega)
            exact ih.1 h23 x39 t (some (.int t)) (some (.int m)) (some (.int i)) (k + 1) F33 (⟨by omega, by omega, by omega, by rw [show 600 * (k + 1) = 600 * k + blJ c k by omega]; omega, by omega, by rw [show 600 * (k + 1) = 600 * k + blJ c k by omega]; omega⟩) (A30) (k27) (A31) (by omega)
          · have c40 : ¬ (t.toInt < ((ez_I h 71 14)).toInt) := c40
            have hkb1 : k + 1 = b := bn_e hbn hkb (by omega)
            suffices tl : pw E (d + 3) 45 115 [some (.ref 71), some (.int x39), some (.int t), some (.int t), some (.int m), some (.int i)] [] h23 Q from ez_Wp_at tl rfl
            refine m_pk3 (S0 := (pkS T n c b b)) S32 (by have b1 := A30; rw [hkb1] at b1; exact b1) (by have b1 := hb1; rw [hkb1] at b1; exact b1) (by rw [hkb1] at hb2; omega) (fun h41 x42 F43 k44 k45 k46 k47 => ?_)
            have F48 := zW_tr (zW_mono F33 x72_24 x72_25 x72_23) (zW_mono F43 x72_26 x72_27 x72_23)
            exact K _ _ F48 k44 k45 k46 k47 (by rw [(show ez_I h41 71 15 = ez_I h23 71 15 from zW_f F43 x72_28 x72_29)]; omega) (by rw [(show ez_I h41 83 = ez_I h23 83 from zW_fn F43 83 x72_30 x72_31), (show ez_I h41 84 = ez_I h23 84 from zW_fn F43 84 x72_32 x72_33), (show ez_I h41 85 = ez_I h23 85 from zW_fn F43 85 x72_34 x72_35), (show ez_I h41 86 = ez_I h23 86 from zW_fn F43 86 x72_36 x72_37), (show ez_I h41 87 = ez_I h23 87 from zW_fn F43 87 x72_38 x72_39), (show ez_I h41 88 = ez_I h23 88 from zW_fn F43 88 x72_40 x72_41), (show ez_I h41 89 = ez_I h23 89 from zW_fn F43 89 x72_42 x72_43), (show ez_I h41 90 = ez_I h23 90 from zW_fn F43 90 x72_44 x72_45), (show ez_I h41 91 = ez_I h23 91 from zW_fn F43 91 x72_46 x72_47)]; have b1 := A31; rw [hkb1] at b1; exact b1) (by rw [(show ez_I h41 75 = ez_I h23 75 from zW_fn F43 75 x72_48 x72_0)]; exact k27)
        · have c21 : ¬ (t.toInt ≠ ((ez_I h 71 14)).toInt) := c21
          refine z_C (m := 1) rfl rfl (fun x49 ex49 => ?_)
          refine z_go ?_
          refine gw_skip _ ?_
          refine z_cl rfl rfl rfl rfl rfl rfl rfl rfl rfl rfl rfl (zT S2 (by decide) rfl) ?_
          have hA := mbA_of (fr := f) (to := t) (pl := p) (my := m) hT0 hlt (a := 600 * k) (j := blJ c k) (by omega) (by omega) (by omega) (by omega) (by omega) (by omega)
          have hY := hA.2.2.2.2.2.2
          have hY1 := hA.2.2.2.2.2.1
          have hlb : x49.toInt = (((if k + 1 = b then 1 else 0) : Nat) : Int) ∧ (if k + 1 = b then 1 else 0) ≤ 1 := by
            rw [if_pos (bn_e hbn hkb (by omega))]; omega
          refine d_wBlock (fr := f) (to := t) (pl := p) (my := m) (ls := x49) (T := T) (n := n) (c := c) (a := 600 * k) (J := blJ c k) (l := (if k + 1 = b then 1 else 0)) (bn := k) (s0 := (pkS T n c b k)) S2 (by rw [(show ez_I h2 72 = ez_I h 72 from zW_fn F 72 x72_1 x72_2), (show ez_I h2 77 = ez_I h 77 from zW_fn F 77 x72_3 x72_4), (show ez_I h2 78 = ez_I h 78 from zW_fn F 78 x72_5 x72_6), (show ez_I h2 79 = ez_I h 79 from zW_fn F 79 x72_7 x72_8), (show ez_I h2 80 = ez_I h 80 from zW_fn F 80 x72_9 x72_10), (show ez_I h2 92 = ez_I h 92 from zW_fn F 92 x72_11 x72_12), (show ez_I h2 93 = ez_I h 93 from zW_fn F 93 x72_13 x72_14), (show ez_I h2 94 = ez_I h 94 from zW_fn F 94 x72_15 x72_16), (show ez_I h2 95 = ez_I h 95 from zW_fn F 95 x72_17 x72_18), (show ez_I h2 96 = ez_I h 96 from zW_fn F 96 x72_19 x72_20)]; exact hC) hA hlb A_st (by omega) A_hg (by omega) (by omega) (fun h50 F51 k52 k53 k54 k55 k56 => ?_)
          have A57 : mS (ez_I h50 75) (pkS T n c b (k + 1)) := m_mS k53
          obtain ⟨o3, o4, o5, o6, o7, o8, o9, o0, o1⟩ := k56
          have A58 := bfM_s A_bk o3 o4 o5 o6 o7 o8 o9 o0 o1 rfl rfl rfl rfl rfl rfl rfl rfl rfl
          have hb1 : (ez_I h50 71 16).toInt = ((pkS T n c b (k + 1)).2 : Nat) := k53.1
          have hb2 : (pkS T n c b (k + 1)).2 ≤ (pkS T n c b k).2 + 42 + 8 * bkY T n (600 * k) (blJ c k) := k52
          clear o3 o4 o5 o6 o7 o8 o9 o0 o1 k52 k53
          have hby := bY_pt (T := T) (n := n) (a := 600 * k) hT0 hlt (blJ c k) (by omega)
          have hyk : bkY T n (600 * k) (blJ c k) = bY (aM T n) (dI T n) (600 * k) (blJ c k) := rfl
          have S59 := zW_sh F51 S2
          have F60 := zW_tr F (zW_mono F51 (x72_21) (x72_22) (x72_23))
          have r61 := z_rng (ez_I h50 71 15)
          have r62 := z_rng (ez_I h50 71 16)
          have r63 := z_rng (ez_I h50 71 56)
          have r64 := z_rng (ez_I h50 71 57)
          have r65 := z_rng (ez_I h50 71 58)
          refine gw_ld rfl rfl ?_
          refine gw_ld rfl rfl ?_
          refine z_add (by omega) (fun x66 ex66 => ?_)
          refine gw_st rfl rfl rfl ?_
          show ez_gw _ _ _ _ _ _ _ _ [some (.ref 71), some (.int x66), some (.int f), some (.int t), some (.int m), some (.int i)] _ _ _
          refine gw_ld rfl rfl ?_
          refine gw_st rfl rfl rfl ?_
          show ez_gw _ _ _ _ _ _ _ _ [some (.ref 71), some (.int x66), some (.int t), some (.int t), some (.int m), some (.int i)] _ _ _
          refine gw_ld rfl rfl ?_
          refine gw_ld rfl rfl ?_
          refine z_gI2 (by decide) (zT S59 (by decide) rfl) (zW_f F60 (by decide) (by decide)) ?_
          refine z_b2 (fun c67 => ?_) (fun c67 => ?_)
          · have c67 : t.toInt < ((ez_I h 71 14)).toInt := c67
            exfalso; omega
          · have c67 : ¬ (t.toInt < ((ez_I h 71 14)).toInt) := c67
            have hkb1 : k + 1 = b := bn_e hbn hkb (by omega)
            suffices tl : pw E (d + 3) 45 115 [some (.ref 71), some (.int x66), some (.int t), some (.int t), some (.int m), some (.int i)] [] h50 Q from ez_Wp_at tl rfl
            refine m_pk3 (S0 := (pkS T n c b b)) S59 (by have b1 := A57; rw [hkb1] at b1; exact b1) (by have b1 := hb1; rw [hkb1] at b1; exact b1) (by rw [hkb1] at hb2; omega) (fun h68 x69 F70 k71 k72 k73 k74 => ?_)
            have F75 := zW_tr (zW_mono F60 x72_24 x72_25 x72_23) (zW_mono F70 x72_26 x72_27 x72_23)
            exact K _ _ F75 k71 k72 k73 k74 (by rw [(show ez_I h68 71 15 = ez_I h50 71 15 from zW_f F70 x72_28 x72_29)]; omega) (by rw [(show ez_I h68 83 = ez_I h50 83 from zW_fn F70 83 x72_30 x72_31), (show ez_I h68 84 = ez_I h50 84 from zW_fn F70 84 x72_32 x72_33), (show ez_I h68 85 = ez_I h50 85 from zW_fn F70 85 x72_34 x72_35), (show ez_I h68 86 = ez_I h50 86 from zW_fn F70 86 x72_36 x72_37), (show ez_I h68 87 = ez_I h50 87 from zW_fn F70 87 x72_38 x72_39), (show ez_I h68 88 = ez_I h50 88 from zW_fn F70 88 x72_40 x72_41), (show ez_I h68 89 = ez_I h50 89 from zW_fn F70 89 x72_42 x72_43), (show ez_I h68 90 = ez_I h50 90 from zW_fn F70 90 x72_44 x72_45), (show ez_I h68 91 = ez_I h50 91 from zW_fn F70 91 x72_46 x72_47)]; have b1 := A58; rw [hkb1] at b1; exact b1) (by rw [(show ez_I h68 75 = ez_I h50 75 from zW_fn F70 75 x72_48 x72_0)]; exact k54)
      · have c19 : ¬ (t.toInt ≤ i.toInt) := c19
        refine gw_ld rfl rfl ?_
        refine gw_ld rfl rfl ?_
        refine z_gR (q := 77) (zT S2 (by decide) rfl) (zRf S2 (by decide) (by decide) rfl) (by decide) ?_
        refine gw_ld rfl rfl ?_
        refine z_iaV (n := 6000) (zT S2 (by decide) rfl) (zN S2 (by decide) rfl) (by omega) (zW_f F (by decide) (x72_4 _)) ?_
        generalize ex76 : ez_I h 77 i.toInt.toNat = x76
        have rx76 := z_rng x76
        have yx76 := (hpm (600 * k + j) (by omega)).1
        rw [show 600 * k + j = i.toInt.toNat by omega, ex76] at yx76
        rw [show i.toInt.toNat = 600 * k + j by omega] at yx76
        have hbv := bY_n (a := 600 * k) (j := j) hT0 hlt (by omega)
        refine z_add (by omega) (fun x77 ex77 => ?_)
        refine gw_st rfl rfl rfl ?_
        show ez_gw _ _ _ _ _ _ _ _ [some (.ref 71), some (.int p), some (.int f), some (.int t), some (.int x77), some (.int i)] _ _ _
        refine z_inc rfl (by rw [show (1 : Int32).toInt = 1 from rfl]; omega) (fun x78 ex78 => ?_)
        rw [show (1 : Int32).toInt = 1 from rfl] at ex78
        show ez_gw _ _ _ _ _ _ _ _ [some (.ref 71), some (.int p), some (.int f), some (.int t), some (.int x77), some (.int x78)] _ _ _
        refine z_go ?_
        exact ih.2 h2 p f t x77 x78 k (j + 1) F (⟨hf, hkb, h15k, hp, h16, hle, by omega, by omega, by omega, by omega, by omega⟩) (A_st) (A_hg) (A_bk) (by omega)
set_option maxRecDepth 4000 in
set_option maxHeartbeats 2000000 in
theorem m_pk2 {E : Nat → Nat × (Nat → Int32)} {d : Nat} {Q : ez_Q} {h : ez_H} {p : Int32} {f : Int32} {l3 : Option Value} {l4 : Option Value} {l5 : Option Value} (S : zSh h) {T : Nat → Int} {n c b : Nat} (hC : mbC (ez_I h 72) (ez_I h 77) (ez_I h 78) (ez_I h 79) (ez_I h 80) (ez_I h 92) (ez_I h 93) (ez_I h 94) (ez_I h 95) (ez_I h 96) T n c) (hc : (ez_I h 71 14).toInt = (c : Nat)) (hbn : bnP c b) (hs : mS (ez_I h 75) (0, 0)) (hb : (ez_I h 71 16).toInt = 0) (hg : aR (ez_I h 75) 8000 (-128) 127) (h15 : (ez_I h 71 15).toInt = 0) (hpf : p.toInt = 0 ∧ f.toInt = 0) (K : ∀ h2 (x : Int32), zW (fun q k => q = 71 ∧ k = 15 ∨ q = 71 ∧ k = 16 ∨ q = 71 ∧ k = 56 ∨ q = 71 ∧ k = 57 ∨ q = 71 ∧ k = 58 ∨ q = 71 ∧ k = 7) (fun q => q = 73 ∨ q = 75 ∨ 83 ≤ q ∧ q ≤ 91 ∨ 97 ≤ q ∧ q ≤ 119) (fun _ => False) h h2 → x.toInt = ((((pkS T n c b b).2 + 7) / 8 : Nat) : Int) → (ez_I h2 71 7).toInt = x.toInt → x.toInt ≤ 6100 → (∀ i : Nat, i < x.toInt.toNat → (ez_I h2 73 i).toInt % 256 = (((pkS T n c b b).1 / 256 ^ i % 256 : Nat) : Int)) → (ez_I h2 71 15).toInt = (b : Nat) → (∀ i, i < b → bfM (ez_I h2 83) (ez_I h2 84) (ez_I h2 85) (ez_I h2 86) (ez_I h2 87) (ez_I h2 88) (ez_I h2 89) (ez_I h2 90) (ez_I h2 91) T n c b i) → aR (ez_I h2 75) 8000 (-128) 127 → Q (.inl (some (.int x))) h2) : pw E (d + 3) 45 23 [some (.ref 71), some (.int p), some (.int f), l3, l4, l5] [] h Q := by
  have gp := z_rng p
  have gf := z_rng f
  have h0b : 0 < b := by unfold bnP at hbn; omega
  have hi0 : f.toInt = ((600 * 0 : Nat) : Int) ∧ 0 < b ∧ (ez_I h 71 15).toInt = ((0 : Nat) : Int) ∧ p.toInt = (ptP T n (600 * 0) : Nat) ∧ (ez_I h 71 16).toInt = ((pkS T n c b 0).2 : Nat) ∧ (pkS T n c b 0).2 ≤ 42 * 0 + 8 * ptP T n (600 * 0) := ⟨by omega, h0b, by omega, by show _ = ((0 : Nat) : Int); omega, by show _ = ((0 : Nat) : Int); omega, Nat.zero_le _⟩
  have F := zW_refl (fun q k => q = 71 ∧ k = 15 ∨ q = 71 ∧ k = 16 ∨ q = 71 ∧ k = 56 ∨ q = 71 ∧ k = 57 ∨ q = 71 ∧ k = 58) (fun q => q = 75 ∨ 83 ≤ q ∧ q ≤ 91 ∨ 97 ≤ q ∧ q ≤ 119) (fun _ => False) h
  apply ez_Wp_in
  show ez_gw _ _ _ _ _ _ (cz_45) _ _ _ _ _
  refine gw_skip _ ?_
  have r1 := z_rng (ez_I h 71 15)
  have r2 := z_rng (ez_I h 71 16)
  have r3 := z_rng (ez_I h 71 56)
  have r4 := z_rng (ez_I h 71 57)
  have r5 := z_rng (ez_I h 71 58)
  skip
  exact ez_Wp_at ((m_pk2_L0 (p := p) (f := f) (l3 := l3) (l4 := l4) (l5 := l5) S hC hc hbn hs hb hg h15 hpf K (((1000 * (100 - (0 : Int)))).toNat + 1)).1 h p f (l3) (l4) (l5) 0 F (hi0) (hs) (hg) ((fun i hi => by omega)) (by omega)) rfl
end
section
/-! PRINTED by wip/pack: the model packs -/
theorem x72_49 : ¬ (77 ≤ 71 ∧ 71 ≤ 82) := by omega
theorem x72_50 : ¬ (71 = 71 ∧ 6 = 0 ∨ 71 = 71 ∧ 6 = 14 ∨ 71 = 71 ∧ 6 = 15 ∨ 71 = 71 ∧ 6 = 16 ∨ 71 = 71 ∧ 6 = 17 ∨ 71 = 71 ∧ 6 = 18) := by omega
theorem x72_51 : ¬ (77 ≤ 72 ∧ 72 ≤ 82) := by omega
theorem x72_52 : ∀ k : Nat, ¬ (72 = 71 ∧ k = 0 ∨ 72 = 71 ∧ k = 14 ∨ 72 = 71 ∧ k = 15 ∨ 72 = 71 ∧ k = 16 ∨ 72 = 71 ∧ k = 17 ∨ 72 = 71 ∧ k = 18) := fun k c => by omega
theorem x72_53 : ∀ q k : Nat, (q = 71 ∧ k = 14 ∨ q = 71 ∧ k = 17 ∨ q = 71 ∧ k = 18) → (q = 71 ∧ k = 0 ∨ q = 71 ∧ k = 14 ∨ q = 71 ∧ k = 15 ∨ q = 71 ∧ k = 16 ∨ q = 71 ∧ k = 17 ∨ q = 71 ∧ k = 18) := fun q k hk => hk.elim (fun g => (.inr (.inl g))) (fun hk => hk.elim (fun g => (.inr (.inr (.inr (.inr (.inl g)))))) (fun hk => (.inr (.inr (.inr (.inr (.inr hk)))))))
theorem x72_54 : ∀ q : Nat, (77 ≤ q ∧ q ≤ 82) → (77 ≤ q ∧ q ≤ 82) := fun q hk => hk
theorem x72_55 : ∀ q : Nat, (False) → (False) := fun q hk => hk.elim
theorem x72_56 : ¬ (77 ≤ 92 ∧ 92 ≤ 82) := by omega
theorem x72_57 : ∀ k : Nat, ¬ (92 = 71 ∧ k = 0 ∨ 92 = 71 ∧ k = 14 ∨ 92 = 71 ∧ k = 15 ∨ 92 = 71 ∧ k = 16 ∨ 92 = 71 ∧ k = 17 ∨ 92 = 71 ∧ k = 18) := fun k c => by omega
theorem x72_58 : ¬ (77 ≤ 93 ∧ 93 ≤ 82) := by omega
theorem x72_59 : ∀ k : Nat, ¬ (93 = 71 ∧ k = 0 ∨ 93 = 71 ∧ k = 14 ∨ 93 = 71 ∧ k = 15 ∨ 93 = 71 ∧ k = 16 ∨ 93 = 71 ∧ k = 17 ∨ 93 = 71 ∧ k = 18) := fun k c => by omega
theorem x72_60 : ¬ (77 ≤ 94 ∧ 94 ≤ 82) := by omega
theorem x72_61 : ∀ k : Nat, ¬ (94 = 71 ∧ k = 0 ∨ 94 = 71 ∧ k = 14 ∨ 94 = 71 ∧ k = 15 ∨ 94 = 71 ∧ k = 16 ∨ 94 = 71 ∧ k = 17 ∨ 94 = 71 ∧ k = 18) := fun k c => by omega
theorem x72_62 : ¬ (77 ≤ 95 ∧ 95 ≤ 82) := by omega
theorem x72_63 : ∀ k : Nat, ¬ (95 = 71 ∧ k = 0 ∨ 95 = 71 ∧ k = 14 ∨ 95 = 71 ∧ k = 15 ∨ 95 = 71 ∧ k = 16 ∨ 95 = 71 ∧ k = 17 ∨ 95 = 71 ∧ k = 18) := fun k c => by omega
theorem x72_64 : ¬ (77 ≤ 96 ∧ 96 ≤ 82) := by omega
theorem x72_65 : ∀ k : Nat, ¬ (96 = 71 ∧ k = 0 ∨ 96 = 71 ∧ k = 14 ∨ 96 = 71 ∧ k = 15 ∨ 96 = 71 ∧ k = 16 ∨ 96 = 71 ∧ k = 17 ∨ 96 = 71 ∧ k = 18) := fun k c => by omega
theorem x72_66 : ¬ (77 ≤ 75 ∧ 75 ≤ 82) := by omega
theorem x72_67 : ∀ k : Nat, ¬ (75 = 71 ∧ k = 0 ∨ 75 = 71 ∧ k = 14 ∨ 75 = 71 ∧ k = 15 ∨ 75 = 71 ∧ k = 16 ∨ 75 = 71 ∧ k = 17 ∨ 75 = 71 ∧ k = 18) := fun k c => by omega
theorem x72_68 : ∀ q k : Nat, (q = 71 ∧ k = 0 ∨ q = 71 ∧ k = 14 ∨ q = 71 ∧ k = 15 ∨ q = 71 ∧ k = 16 ∨ q = 71 ∧ k = 17 ∨ q = 71 ∧ k = 18) → (q = 71 ∧ k = 0 ∨ q = 71 ∧ k = 7 ∨ q = 71 ∧ k = 14 ∨ q = 71 ∧ k = 17 ∨ q = 71 ∧ k = 18 ∨ q = 71 ∧ k = 15 ∨ q = 71 ∧ k = 16 ∨ q = 71 ∧ k = 56 ∨ q = 71 ∧ k = 57 ∨ q = 71 ∧ k = 58) := fun q k hk => hk.elim (fun g => (.inl g)) (fun hk => hk.elim (fun g => (.inr (.inr (.inl g)))) (fun hk => hk.elim (fun g => (.inr (.inr (.inr (.inr (.inr (.inl g))))))) (fun hk => hk.elim (fun g => (.inr (.inr (.inr (.inr (.inr (.inr (.inl g)))))))) (fun hk => hk.elim (fun g => (.inr (.inr (.inr (.inl g))))) (fun hk => (.inr (.inr (.inr (.inr (.inl hk))))))))))
theorem x72_69 : ∀ q : Nat, (77 ≤ q ∧ q ≤ 82) → (q = 73 ∨ q = 75 ∨ 77 ≤ q ∧ q ≤ 82 ∨ 83 ≤ q ∧ q ≤ 91 ∨ 97 ≤ q ∧ q ≤ 119) := fun q hk => (.inr (.inr (.inl hk)))
theorem x72_70 : ∀ q k : Nat, (q = 71 ∧ k = 15 ∨ q = 71 ∧ k = 16 ∨ q = 71 ∧ k = 56 ∨ q = 71 ∧ k = 57 ∨ q = 71 ∧ k = 58 ∨ q = 71 ∧ k = 7) → (q = 71 ∧ k = 0 ∨ q = 71 ∧ k = 7 ∨ q = 71 ∧ k = 14 ∨ q = 71 ∧ k = 17 ∨ q = 71 ∧ k = 18 ∨ q = 71 ∧ k = 15 ∨ q = 71 ∧ k = 16 ∨ q = 71 ∧ k = 56 ∨ q = 71 ∧ k = 57 ∨ q = 71 ∧ k = 58) := fun q k hk => hk.elim (fun g => (.inr (.inr (.inr (.inr (.inr (.inl g))))))) (fun hk => hk.elim (fun g => (.inr (.inr (.inr (.inr (.inr (.inr (.inl g)))))))) (fun hk => hk.elim (fun g => (.inr (.inr (.inr (.inr (.inr (.inr (.inr (.inl g))))))))) (fun hk => hk.elim (fun g => (.inr (.inr (.inr (.inr (.inr (.inr (.inr (.inr (.inl g)))))))))) (fun hk => hk.elim (fun g => (.inr (.inr (.inr (.inr (.inr (.inr (.inr (.inr (.inr g)))))))))) (fun hk => (.inr (.inl hk)))))))
theorem x72_71 : ∀ q : Nat, (q = 73 ∨ q = 75 ∨ 83 ≤ q ∧ q ≤ 91 ∨ 97 ≤ q ∧ q ≤ 119) → (q = 73 ∨ q = 75 ∨ 77 ≤ q ∧ q ≤ 82 ∨ 83 ≤ q ∧ q ≤ 91 ∨ 97 ≤ q ∧ q ≤ 119) := fun q hk => hk.elim (fun g => (.inl g)) (fun hk => hk.elim (fun g => (.inr (.inl g))) (fun hk => hk.elim (fun g => (.inr (.inr (.inr (.inl g))))) (fun hk => (.inr (.inr (.inr (.inr hk)))))))
theorem x72_72 : ¬ (71 = 73 ∨ 71 = 75 ∨ 83 ≤ 71 ∧ 71 ≤ 91 ∨ 97 ≤ 71 ∧ 71 ≤ 119) := by omega
theorem x72_73 : ¬ (71 = 71 ∧ 14 = 15 ∨ 71 = 71 ∧ 14 = 16 ∨ 71 = 71 ∧ 14 = 56 ∨ 71 = 71 ∧ 14 = 57 ∨ 71 = 71 ∧ 14 = 58 ∨ 71 = 71 ∧ 14 = 7) := by omega
theorem x72_74 : ¬ (77 = 73 ∨ 77 = 75 ∨ 83 ≤ 77 ∧ 77 ≤ 91 ∨ 97 ≤ 77 ∧ 77 ≤ 119) := by omega
theorem x72_75 : ∀ k : Nat, ¬ (77 = 71 ∧ k = 15 ∨ 77 = 71 ∧ k = 16 ∨ 77 = 71 ∧ k = 56 ∨ 77 = 71 ∧ k = 57 ∨ 77 = 71 ∧ k = 58 ∨ 77 = 71 ∧ k = 7) := fun k c => by omega
theorem x72_76 : ¬ (78 = 73 ∨ 78 = 75 ∨ 83 ≤ 78 ∧ 78 ≤ 91 ∨ 97 ≤ 78 ∧ 78 ≤ 119) := by omega
theorem x72_77 : ∀ k : Nat, ¬ (78 = 71 ∧ k = 15 ∨ 78 = 71 ∧ k = 16 ∨ 78 = 71 ∧ k = 56 ∨ 78 = 71 ∧ k = 57 ∨ 78 = 71 ∧ k = 58 ∨ 78 = 71 ∧ k = 7) := fun k c => by omega
theorem x72_78 : ¬ (79 = 73 ∨ 79 = 75 ∨ 83 ≤ 79 ∧ 79 ≤ 91 ∨ 97 ≤ 79 ∧ 79 ≤ 119) := by omega
theorem x72_79 : ∀ k : Nat, ¬ (79 = 71 ∧ k = 15 ∨ 79 = 71 ∧ k = 16 ∨ 79 = 71 ∧ k = 56 ∨ 79 = 71 ∧ k = 57 ∨ 79 = 71 ∧ k = 58 ∨ 79 = 71 ∧ k = 7) := fun k c => by omega
theorem x72_80 : ¬ (80 = 73 ∨ 80 = 75 ∨ 83 ≤ 80 ∧ 80 ≤ 91 ∨ 97 ≤ 80 ∧ 80 ≤ 119) := by omega
theorem x72_81 : ∀ k : Nat, ¬ (80 = 71 ∧ k = 15 ∨ 80 = 71 ∧ k = 16 ∨ 80 = 71 ∧ k = 56 ∨ 80 = 71 ∧ k = 57 ∨ 80 = 71 ∧ k = 58 ∨ 80 = 71 ∧ k = 7) := fun k c => by omega
theorem x72_82 : ¬ (71 = 71 ∧ 0 = 15 ∨ 71 = 71 ∧ 0 = 16 ∨ 71 = 71 ∧ 0 = 56 ∨ 71 = 71 ∧ 0 = 57 ∨ 71 = 71 ∧ 0 = 58 ∨ 71 = 71 ∧ 0 = 7) := by omega
set_option maxRecDepth 4000 in
set_option maxHeartbeats 2000000 in
theorem m_packF {E : Nat → Nat × (Nat → Int32)} {d : Nat} {Q : ez_Q} {h : ez_H}  (S : zSh h) {T : Nat → Int} {n : Nat} (hTT : ∀ i, i < n → tB (ez_I h 72) i = T i) (hN : (ez_I h 71 6).toInt = (n : Nat)) (hn6 : n ≤ 6000) (hbt : aR (ez_I h 72) 6000 (-128) 127) (hg : aR (ez_I h 75) 8000 (-128) 127) (t92 : ctI (ez_I h 92) LBf 29) (t93 : ctI (ez_I h 93) LEf 29) (t94 : ctI (ez_I h 94) DBf 30) (t95 : ctI (ez_I h 95) DEf 30) (t96 : ctI (ez_I h 96) ORf 19) (K : ∀ h2 (x : Int32), zW (fun q k => q = 71 ∧ k = 0 ∨ q = 71 ∧ k = 7 ∨ q = 71 ∧ k = 14 ∨ q = 71 ∧ k = 17 ∨ q = 71 ∧ k = 18 ∨ q = 71 ∧ k = 15 ∨ q = 71 ∧ k = 16 ∨ q = 71 ∧ k = 56 ∨ q = 71 ∧ k = 57 ∨ q = 71 ∧ k = 58) (fun q => q = 73 ∨ q = 75 ∨ 77 ≤ q ∧ q ≤ 82 ∨ 83 ≤ q ∧ q ≤ 91 ∨ 97 ≤ q ∧ q ≤ 119) (fun _ => False) h h2 → ∀ c b : Nat, (ez_I h2 71 14).toInt = (c : Nat) → c ≤ 6000 → ltP T n c → ptP T n c = n → pmI (ez_I h2 77) (ez_I h2 78) (ez_I h2 79) (ez_I h2 80) T n c → (ez_I h2 71 15).toInt = (b : Nat) → bnP c b → x.toInt = ((((pkS T n c b b).2 + 7) / 8 : Nat) : Int) → (ez_I h2 71 7).toInt = x.toInt → x.toInt ≤ 6100 → (∀ i : Nat, i < x.toInt.toNat → (ez_I h2 73 i).toInt % 256 = (((pkS T n c b b).1 / 256 ^ i % 256 : Nat) : Int)) → (∀ i, i < b → bfM (ez_I h2 83) (ez_I h2 84) (ez_I h2 85) (ez_I h2 86) (ez_I h2 87) (ez_I h2 88) (ez_I h2 89) (ez_I h2 90) (ez_I h2 91) T n c b i) → aR (ez_I h2 75) 8000 (-128) 127 → (ez_I h2 71 0).toInt = 0 → Q (.inl (some (.int x))) h2) : pw E (d + 3) 45 0 [some (.ref 71), none, none, none, none, none] [] h Q := by
  have F := zW_refl (fun q k => q = 71 ∧ k = 0 ∨ q = 71 ∧ k = 14 ∨ q = 71 ∧ k = 15 ∨ q = 71 ∧ k = 16 ∨ q = 71 ∧ k = 17 ∨ q = 71 ∧ k = 18) (fun q => 77 ≤ q ∧ q ≤ 82) (fun _ => False) h
  apply ez_Wp_in
  show ez_gw _ _ _ _ _ _ (cz_45) _ _ _ _ _
  refine gw_skip _ ?_
  have r1 := z_rng (ez_I h 71 0)
  have r2 := z_rng (ez_I h 71 14)
  have r3 := z_rng (ez_I h 71 15)
  have r4 := z_rng (ez_I h 71 16)
  have r5 := z_rng (ez_I h 71 17)
  have r6 := z_rng (ez_I h 71 18)
  refine gw_ld rfl rfl ?_
  refine z_C (m := 0) rfl rfl (fun x7 ex7 => ?_)
  refine z_pI (zT S (by decide) rfl) (fun h8 e9 => ?_)
  have S10 := zSh_set S e9
  have F11 := zW_setF F e9 (by decide)
  have f12 : ez_I h8 71 0 = x7 := zI_eq e9
  have f13 : ez_I h8 71 14 = (ez_I h 71 14) := (zI_ne e9 (by decide)).trans (rfl)
  have f14 : ez_I h8 71 15 = (ez_I h 71 15) := (zI_ne e9 (by decide)).trans (rfl)
  have f15 : ez_I h8 71 16 = (ez_I h 71 16) := (zI_ne e9 (by decide)).trans (rfl)
  have f16 : ez_I h8 71 17 = (ez_I h 71 17) := (zI_ne e9 (by decide)).trans (rfl)
  have f17 : ez_I h8 71 18 = (ez_I h 71 18) := (zI_ne e9 (by decide)).trans (rfl)
  refine gw_ld rfl rfl ?_
  have t18 := congrArg Int32.toInt (f12)
  have t19 := congrArg Int32.toInt (f13)
  have t20 := congrArg Int32.toInt (f14)
  have t21 := congrArg Int32.toInt (f15)
  have t22 := congrArg Int32.toInt (f16)
  have t23 := congrArg Int32.toInt (f17)
  refine z_cl rfl rfl rfl rfl rfl rfl rfl rfl rfl rfl rfl (zT S10 (by decide) rfl) ?_
  refine d_findParts S10 (by rw [(show ez_I h8 71 6 = ez_I h 71 6 from zW_f F11 x72_49 x72_50)]; omega) (by rw [(show ez_I h8 72 = ez_I h 72 from zW_fn F11 72 x72_51 x72_52)]; exact hbt) (fun h24 F25 c26 k27 k28 k29 k30 => ?_)
  rw [(show ez_I h8 72 = ez_I h 72 from zW_fn F11 72 x72_51 x72_52), (show ez_I h8 71 6 = ez_I h 71 6 from zW_f F11 x72_49 x72_50), show (ez_I h 71 6).toInt.toNat = n by omega] at k28 k29 k30
  have hlt := ltP_g hTT k29
  have hpm := pmI_g hTT k29 k30
  have hpe : ptP T n c26 = n := (ptP_g hTT _).symm.trans k28
  have hck := ptP_k (T := T) (n := n) c26 (fun j hj => hlt j hj)
  have S31 := zW_sh F25 S10
  have F32 := zW_tr F11 (zW_mono F25 (x72_53) (x72_54) (x72_55))
  have f33 : ez_I h24 71 0 = x7 := (zW_f F25 (by decide) (by decide)).trans (f12)
  have r34 := z_rng (ez_I h24 71 14)
  have f35 : ez_I h24 71 15 = (ez_I h 71 15) := (zW_f F25 (by decide) (by decide)).trans (f14)
  have f36 : ez_I h24 71 16 = (ez_I h 71 16) := (zW_f F25 (by decide) (by decide)).trans (f15)
  have r37 := z_rng (ez_I h24 71 17)
  have r38 := z_rng (ez_I h24 71 18)
  refine gw_ld rfl rfl ?_
  refine z_C (m := 0) rfl rfl (fun x39 ex39 => ?_)
  refine z_pI (zT S31 (by decide) rfl) (fun h40 e41 => ?_)
  have S42 := zSh_set S31 e41
  have F43 := zW_setF F32 e41 (by decide)
  have f44 : ez_I h40 71 0 = x7 := (zI_ne e41 (by decide)).trans (f33)
  have f45 : ez_I h40 71 14 = (ez_I h24 71 14) := (zI_ne e41 (by decide)).trans (rfl)
  have f46 : ez_I h40 71 15 = (ez_I h 71 15) := (zI_ne e41 (by decide)).trans (f35)
  have f47 : ez_I h40 71 16 = x39 := zI_eq e41
  have f48 : ez_I h40 71 17 = (ez_I h24 71 17) := (zI_ne e41 (by decide)).trans (rfl)
  have f49 : ez_I h40 71 18 = (ez_I h24 71 18) := (zI_ne e41 (by decide)).trans (rfl)
  have A50 : pmI (ez_I h40 77) (ez_I h40 78) (ez_I h40 79) (ez_I h40 80) T n c26 := by rw [zI_fn e41 77 (by decide), zI_fn e41 78 (by decide), zI_fn e41 79 (by decide), zI_fn e41 80 (by decide)]; exact hpm
  refine gw_ld rfl rfl ?_
  refine z_C (m := 0) rfl rfl (fun x51 ex51 => ?_)
  refine z_pI (zT S42 (by decide) rfl) (fun h52 e53 => ?_)
  have S54 := zSh_set S42 e53
  have F55 := zW_setF F43 e53 (by decide)
  have f56 : ez_I h52 71 0 = x7 := (zI_ne e53 (by decide)).trans (f44)
  have f57 : ez_I h52 71 14 = (ez_I h24 71 14) := (zI_ne e53 (by decide)).trans (f45)
  have f58 : ez_I h52 71 15 = x51 := zI_eq e53
  have f59 : ez_I h52 71 16 = x39 := (zI_ne e53 (by decide)).trans (f47)
  have f60 : ez_I h52 71 17 = (ez_I h24 71 17) := (zI_ne e53 (by decide)).trans (f48)
  have f61 : ez_I h52 71 18 = (ez_I h24 71 18) := (zI_ne e53 (by decide)).trans (f49)
  have A62 : pmI (ez_I h52 77) (ez_I h52 78) (ez_I h52 79) (ez_I h52 80) T n c26 := by rw [zI_fn e53 77 (by decide), zI_fn e53 78 (by decide), zI_fn e53 79 (by decide), zI_fn e53 80 (by decide)]; exact A50
  clear A50
  refine z_C (m := 0) rfl rfl (fun x63 ex63 => ?_)
  refine gw_st rfl rfl rfl ?_
  show ez_gw _ _ _ _ _ _ _ _ [some (.ref 71), some (.int x63), none, none, none, none] _ _ _
  refine z_C (m := 0) rfl rfl (fun x64 ex64 => ?_)
  refine gw_st rfl rfl rfl ?_
  show ez_gw _ _ _ _ _ _ _ _ [some (.ref 71), some (.int x63), some (.int x64), none, none, none] _ _ _
  have t65 := congrArg Int32.toInt (f56)
  have t66 := congrArg Int32.toInt (f57)
  have t67 := congrArg Int32.toInt (f58)
  have t68 := congrArg Int32.toInt (f59)
  have t69 := congrArg Int32.toInt (f60)
  have t70 := congrArg Int32.toInt (f61)
  suffices tl : pw E (d + 3) 45 23 [some (.ref 71), some (.int x63), some (.int x64), none, none, none] [] h52 Q from ez_Wp_at tl rfl
  refine m_pk2 (T := T) (n := n) (c := c26) (b := (if c26 = 0 then 1 else (c26 + 599) / 600)) S54 (show mbC (ez_I h52 72) (ez_I h52 77) (ez_I h52 78) (ez_I h52 79) (ez_I h52 80) (ez_I h52 92) (ez_I h52 93) (ez_I h52 94) (ez_I h52 95) (ez_I h52 96) T n c26 from ⟨hn6, by omega, fun i hi => by rw [← hTT i hi]; exact tB_rng _ i, by rw [(show ez_I h52 72 = ez_I h 72 from zW_fn F55 72 x72_51 x72_52)]; exact fun i hi => hTT i hi, A62, hlt, hpe, (by rw [(show ez_I h52 92 = ez_I h 92 from zW_fn F55 92 x72_56 x72_57)]; exact t92), (by rw [(show ez_I h52 93 = ez_I h 93 from zW_fn F55 93 x72_58 x72_59)]; exact t93), (by rw [(show ez_I h52 94 = ez_I h 94 from zW_fn F55 94 x72_60 x72_61)]; exact t94), (by rw [(show ez_I h52 95 = ez_I h 95 from zW_fn F55 95 x72_62 x72_63)]; exact t95), (by rw [(show ez_I h52 96 = ez_I h 96 from zW_fn F55 96 x72_64 x72_65)]; exact t96)⟩) (by omega) (bn_0 c26).1 (show mS _ (0, 0) from ⟨rfl, by decide, fun i hi => by omega⟩) (by omega) (by rw [(show ez_I h52 75 = ez_I h 75 from zW_fn F55 75 x72_66 x72_67)]; exact hg) (by omega) (by omega) (fun h71 x72 F73 k74 k75 k76 k77 k78 k79 k80 => ?_)
  have F81 := zW_tr (zW_mono F55 x72_68 x72_69 x72_55) (zW_mono F73 x72_70 x72_71 x72_55)
  exact K _ _ F81 c26 (if c26 = 0 then 1 else (c26 + 599) / 600) (by rw [(show ez_I h71 71 14 = ez_I h52 71 14 from zW_f F73 x72_72 x72_73)]; omega) (by omega) hlt hpe (by rw [(show ez_I h71 77 = ez_I h52 77 from zW_fn F73 77 x72_74 x72_75), (show ez_I h71 78 = ez_I h52 78 from zW_fn F73 78 x72_76 x72_77), (show ez_I h71 79 = ez_I h52 79 from zW_fn F73 79 x72_78 x72_79), (show ez_I h71 80 = ez_I h52 80 from zW_fn F73 80 x72_80 x72_81)]; exact A62) k78 (bn_0 c26).1 k74 k75 k76 k77 k79 k80 (by rw [(show ez_I h71 71 0 = ez_I h52 71 0 from zW_f F73 x72_72 x72_82)]; omega)
end
section
/-! PRINTED by wip/pack: the model reads a head -/
theorem dis_one {f : Nat → Int32} {L : Nat → Nat} (A : cpN f L 32) (h0 : ∀ k, 32 ≤ k → L k = 0) (h : wsN L 288 = 32768 ∨ plN L 288 16 = 0 ∨ plN L 288 16 = 1 ∧ ctN L 1 288 = 1) (h15 : ∀ k, L k ≤ 15) : plN (nL f) 32 16 = 1 → ctN (nL f) 1 32 = 1 := fun q => by
  have h1 := one_M (L := L) (L' := nL f) (M := 32) (N := 288) (by decide) (fun k hk => (cpN_nL A k hk).symm) (fun k a _ => h0 k a)
  rw [← h1.1] at q
  rw [← h1.2]
  rcases h with h | h | h
  · exact ws_one (fun k _ => h15 k) h q
  · omega
  · exact h.2
theorem x61_0 : ∀ k : Nat, ¬ (72 = 71 ∧ k = 59 ∨ 72 = 71 ∧ k = 61) := fun k c => by omega
set_option maxRecDepth 4000 in
set_option maxHeartbeats 2000000 in
theorem d_tb2_L0 {E : Nat → Nat × (Nat → Int32)} {d : Nat} {Q : ez_Q} {h : ez_H} {n : Int32} (S : zSh h) (hz : 0 ≤ (ez_I h 71 6).toInt ∧ (ez_I h 71 6).toInt ≤ 6000) (hp : 0 ≤ (ez_I h 71 59).toInt ∧ (ez_I h 71 59).toInt ≤ 8 * (ez_I h 71 6).toInt) (hf : 0 ≤ (ez_I h 71 61).toInt) (hn : 0 ≤ n.toInt ∧ n.toInt ≤ 16) (K : ∀ h2 (x : Int32), zW (fun q k => q = 71 ∧ k = 59 ∨ q = 71 ∧ k = 61) (fun _ => False) (fun _ => False) h h2 → ((ez_I h 71 61).toInt = 0 → (ez_I h 71 59).toInt + n.toInt ≤ 8 * (ez_I h 71 6).toInt → x.toInt = (vB (tB (ez_I h 72)) (ez_I h 71 59).toInt.toNat n.toInt.toNat : Nat) ∧ (ez_I h2 71 59).toInt = (ez_I h 71 59).toInt + n.toInt ∧ (ez_I h2 71 61).toInt = 0) → ((ez_I h 71 61).toInt = 0 → 8 * (ez_I h 71 6).toInt < (ez_I h 71 59).toInt + n.toInt → (ez_I h2 71 61).toInt = 1 ∧ 0 ≤ (ez_I h2 71 59).toInt ∧ (ez_I h2 71 59).toInt ≤ 8 * (ez_I h 71 6).toInt) → ((ez_I h 71 61).toInt ≠ 0 → (ez_I h2 71 61).toInt = (ez_I h 71 61).toInt ∧ (ez_I h2 71 59).toInt = (ez_I h 71 59).toInt) → (0 ≤ x.toInt ∧ x.toInt < ((2 ^ n.toInt.toNat : Nat) : Int)) → Q (.inl (some (.int x))) h2) : ∀ N : Nat, (∀ (h2 : ez_H) (v : Int32) (i : Int32) , zW (fun q k => q = 71 ∧ k = 59 ∨ q = 71 ∧ k = 61) (fun _ => False) (fun _ => False) h h2 → (0 ≤ i.toInt ∧ i.toInt ≤ n.toInt ∧ 0 ≤ v.toInt ∧ v.toInt < ((2 ^ i.toInt.toNat : Nat) : Int) ∧ (((ez_I h 71 61).toInt = 0 ∧ (ez_I h2 71 61).toInt = 0 ∧ (ez_I h2 71 59).toInt = (ez_I h 71 59).toInt + i.toInt ∧ (ez_I h2 71 59).toInt ≤ 8 * (ez_I h 71 6).toInt ∧ v.toInt = (vB (tB (ez_I h 72)) (ez_I h 71 59).toInt.toNat i.toInt.toNat : Nat)) ∨ ((ez_I h 71 61).toInt = 0 ∧ (ez_I h2 71 61).toInt = 1 ∧ (ez_I h2 71 59).toInt = 8 * (ez_I h 71 6).toInt ∧ 8 * (ez_I h 71 6).toInt < (ez_I h 71 59).toInt + n.toInt) ∨ ((ez_I h 71 61).toInt ≠ 0 ∧ (ez_I h2 71 61).toInt = (ez_I h 71 61).toInt ∧ (ez_I h2 71 59).toInt = (ez_I h 71 59).toInt))) → (100 - i.toInt) < (N : Int) → pw E d 51 4 [some (.ref 71), some (.int n), some (.int v), some (.int i)] [] h2 Q) := by
  intro N
  induction N with
  | zero => exact fun h2 v i  F hinv  hm => absurd hm (by have w_v := z_rng v; have w_i := z_rng i; have gn := z_rng n; omega)
  | succ N ih =>
    refine fun h2 v i  F hinv  hm => ?_
    · skip
      have w_v := z_rng v
      have w_i := z_rng i
      have gn := z_rng n
      have S2 := zW_sh F S
      have hvl := vB_lt (tB (ez_I h 72)) (ez_I h 71 59).toInt.toNat i.toInt.toNat
      have hvp := n_pow i.toInt.toNat
      apply ez_Wp_in
      show ez_gw _ _ _ _ _ _ (cz_51) _ _ _ _ _
      refine gw_skip _ ?_
      have r1 := z_rng (ez_I h2 71 59)
      have r2 := z_rng (ez_I h2 71 61)
      refine gw_ld rfl rfl ?_
      refine gw_ld rfl rfl ?_
      refine z_b2 (fun c3 => ?_) (fun c3 => ?_)
      · have c3 : n.toInt ≤ i.toInt := c3
        refine gw_skip _ ?_
        refine gw_ld rfl rfl ?_
        refine z_ri ?_
        by_cases hq : (ez_I h2 71 61).toInt = 0
        · exact K _ _ F (fun _ _ => ⟨(by rw [show n.toInt.toNat = i.toInt.toNat by omega]; omega), by omega, by omega⟩) (fun q => by omega) (fun q => by omega) ⟨by omega, by have := Nat.pow_le_pow_right (n := 2) (by decide) (show i.toInt.toNat ≤ n.toInt.toNat by omega); omega⟩
        · exact K _ _ F (fun q r => by exfalso; omega) (fun q => by omega) (fun q => by omega) ⟨by omega, by have := Nat.pow_le_pow_right (n := 2) (by decide) (show i.toInt.toNat ≤ n.toInt.toNat by omega); omega⟩
      · have c3 : ¬ (n.toInt ≤ i.toInt) := c3
        refine gw_ld rfl rfl ?_
        refine z_gI2 (by decide) (zT S2 (by decide) rfl) (rfl) ?_
        refine z_b1 (fun c4 => ?_) (fun c4 => ?_)
        · have c4 : ((ez_I h2 71 61)).toInt ≠ 0 := c4
          refine gw_skip _ ?_
          refine gw_ld rfl rfl ?_
          refine z_ri ?_
          by_cases hq : (ez_I h2 71 61).toInt = 0
          · exact K _ _ F (fun _ _ => ⟨(by rw [show n.toInt.toNat = i.toInt.toNat by omega]; omega), by omega, by omega⟩) (fun q => by omega) (fun q => by omega) ⟨by omega, by have := Nat.pow_le_pow_right (n := 2) (by decide) (show i.toInt.toNat ≤ n.toInt.toNat by omega); omega⟩
          · exact K _ _ F (fun q r => by exfalso; omega) (fun q => by omega) (fun q => by omega) ⟨by omega, by have := Nat.pow_le_pow_right (n := 2) (by decide) (show i.toInt.toNat ≤ n.toInt.toNat by omega); omega⟩
        · have c4 : ¬ (((ez_I h2 71 61)).toInt ≠ 0) := c4
          refine gw_ld rfl rfl ?_
          refine z_gI2 (by decide) (zT S2 (by decide) rfl) (rfl) ?_
          refine z_C (m := 8) rfl rfl (fun x5 ex5 => ?_)
          refine z_dvP (c := 8) ex5 (by decide) (by omega) (fun x6 ex6 => ?_)
          refine gw_ld rfl rfl ?_
          have r7 := z_rng (ez_I h 71 6)
          refine z_gI2 (by decide) (zT S2 (by decide) rfl) (zW_f F (fun c => c) (by decide)) ?_
          refine z_b2 (fun c8 => ?_) (fun c8 => ?_)
          · have c8 : x6.toInt < ((ez_I h 71 6)).toInt := c8
            refine gw_skip _ ?_
            refine gw_ld rfl rfl ?_
            refine gw_ld rfl rfl ?_
            refine z_gR (q := 72) (zT S2 (by decide) rfl) (zRf S2 (by decide) (by decide) rfl) (by decide) ?_
            refine gw_ld rfl rfl ?_
            refine z_gI2 (by decide) (zT S2 (by decide) rfl) (rfl) ?_
            refine z_C (m := 8) rfl rfl (fun x9 ex9 => ?_)
            refine z_dvP (c := 8) ex9 (by decide) (by omega) (fun x10 ex10 => ?_)
            refine z_baV (n := 6000) (zT S2 (by decide) rfl) (zN S2 (by decide) rfl) (by omega) (zW_f F (fun c => c) (x61_0 _)) ?_
            generalize ex11 : ez_I h 72 x10.toInt.toNat = x11
            have rx11 := z_rng x11
            refine gw_ld rfl rfl ?_
            refine z_gI2 (by decide) (zT S2 (by decide) rfl) (rfl) ?_
            refine z_C (m := 8) rfl rfl (fun x12 ex12 => ?_)
            refine z_rmP (c := 8) ex12 (by decide) (by omega) (fun x13 ex13 => ?_)
            refine z_2 rfl (fun x14 ex14 => ?_)
            have rx14 := z_rng x14
            have vx14 := n_shr (n := ((ez_I h2 71 59).toInt % 8).toNat) (by omega) (by omega) ex14
            refine z_C (m := 1) rfl rfl (fun x15 ex15 => ?_)
            refine z_and (fun x16 ex16 ux16 wx16 => ?_)
            have rx16 := z_rng x16
            replace ux16 := ux16 (by omega)
            clear wx16
            have vx16 := n_mask (k := 1) (by decide) (by omega) ex16
            rw [show (2 : Int) ^ 1 = 2 from rfl, vx14] at vx16
            refine gw_ld rfl rfl ?_
            refine z_2 rfl (fun x17 ex17 => ?_)
            have rx17 := z_rng x17
            have eS := ex17
            refine z_2 rfl (fun x18 ex18 => ?_)
            have rx18 := z_rng x18
            have hbt : x16.toInt = (bitT (tB (ez_I h 72)) ((ez_I h 71 59).toInt.toNat + i.toInt.toNat) : Nat) := bit_M (p := (ez_I h2 71 59).toInt) (z := x11) (by rw [show ((ez_I h2 71 59).toInt / 8).toNat = x10.toInt.toNat by omega]; exact ex11) (by omega) (by omega) (by omega)
            have hor := n_setb (z := v) (b := x16) (j := i.toInt.toNat) (by omega) (by omega) (by omega) (by omega) eS ex18
            refine gw_st rfl rfl rfl ?_
            show ez_gw _ _ _ _ _ _ _ _ [some (.ref 71), some (.int n), some (.int x18), some (.int i)] _ _ _
            refine gw_ld rfl rfl ?_
            refine gw_op rfl ?_
            refine z_gI2 (by decide) (zT S2 (by decide) rfl) (rfl) ?_
            refine gw_ld rfl rfl ?_
            refine z_gI2 (by decide) (zT S2 (by decide) rfl) (rfl) ?_
            refine z_b1 (fun c19 => ?_) (fun c19 => ?_)
            · have c19 : ((ez_I h2 71 61)).toInt ≠ 0 := c19
              exfalso; omega
            · have c19 : ¬ (((ez_I h2 71 61)).toInt ≠ 0) := c19
              refine z_C (m := 1) rfl rfl (fun x20 ex20 => ?_)
              refine z_go ?_
              refine gw_skip _ ?_
              refine z_add (by omega) (fun x21 ex21 => ?_)
              refine z_pI (zT S2 (by decide) rfl) (fun h22 e23 => ?_)
              have S24 := zSh_set S2 e23
              have F25 := zW_setF F e23 (by decide)
              have f26 : ez_I h22 71 59 = x21 := zI_eq e23
              have f27 : ez_I h22 71 61 = (ez_I h2 71 61) := (zI_ne e23 (by decide)).trans (rfl)
              refine z_inc rfl (by rw [show (1 : Int32).toInt = 1 from rfl]; omega) (fun x28 ex28 => ?_)
              rw [show (1 : Int32).toInt = 1 from rfl] at ex28
              show ez_gw _ _ _ _ _ _ _ _ [some (.ref 71), some (.int n), some (.int x18), some (.int x28)] _ _ _
              refine z_go ?_
              have t29 := congrArg Int32.toInt (f26)
              have t30 := congrArg Int32.toInt (f27)
              exact ih h22 x18 x28 F25 (⟨by omega, by omega, by have h9 := vB_s (i := i.toInt.toNat) (b := x16.toInt) (v := v.toInt) (m := x28.toInt.toNat) (by omega) hbt hor (by omega); omega, by have h9 := vB_s (i := i.toInt.toNat) (b := x16.toInt) (v := v.toInt) (m := x28.toInt.toNat) (by omega) hbt hor (by omega); have h8 := vB_lt (tB (ez_I h 72)) (ez_I h 71 59).toInt.toNat x28.toInt.toNat; omega, .inl ⟨by omega, by omega, by omega, by omega, vB_s (i := i.toInt.toNat) (b := x16.toInt) (v := v.toInt) (by omega) hbt hor (by omega)⟩⟩)  (by omega)
          · have c8 : ¬ (x6.toInt < ((ez_I h 71 6)).toInt) := c8
            refine gw_ld rfl rfl ?_
            refine z_C (m := 1) rfl rfl (fun x31 ex31 => ?_)
            refine z_pI (zT S2 (by decide) rfl) (fun h32 e33 => ?_)
            have S34 := zSh_set S2 e33
            have F35 := zW_setF F e33 (by decide)
            have f36 : ez_I h32 71 59 = (ez_I h2 71 59) := (zI_ne e33 (by decide)).trans (rfl)
            have f37 : ez_I h32 71 61 = x31 := zI_eq e33
            refine z_go ?_
            refine gw_skip _ ?_
            refine gw_ld rfl rfl ?_
            refine gw_op rfl ?_
            refine z_gI2 (by decide) (zT S34 (by decide) rfl) (f36) ?_
            refine gw_ld rfl rfl ?_
            refine z_gI2 (by decide) (zT S34 (by decide) rfl) (f37) ?_
            refine z_b1 (fun c38 => ?_) (fun c38 => ?_)
            · have c38 : x31.toInt ≠ 0 := c38
              refine gw_skip _ ?_
              refine z_C (m := 0) rfl rfl (fun x39 ex39 => ?_)
              refine z_add (by omega) (fun x40 ex40 => ?_)
              refine z_pI (zT S34 (by decide) rfl) (fun h41 e42 => ?_)
              have S43 := zSh_set S34 e42
              have F44 := zW_setF F35 e42 (by decide)
              have f45 : ez_I h41 71 59 = x40 := zI_eq e42
              have f46 : ez_I h41 71 61 = x31 := (zI_ne e42 (by decide)).trans (f37)
              refine z_inc rfl (by rw [show (1 : Int32).toInt = 1 from rfl]; omega) (fun x47 ex47 => ?_)
              rw [show (1 : Int32).toInt = 1 from rfl] at ex47
              show ez_gw _ _ _ _ _ _ _ _ [some (.ref 71), some (.int n), some (.int v), some (.int x47)] _ _ _
              refine z_go ?_
              have t48 := congrArg Int32.toInt (f45)
              have t49 := congrArg Int32.toInt (f46)
              exact ih h41 v x47 F44 (⟨by omega, by omega, by omega, by have := Nat.pow_le_pow_right (n := 2) (by decide) (show i.toInt.toNat ≤ x47.toInt.toNat by omega); omega, .inr (.inl (by omega))⟩)  (by omega)
            · have c38 : ¬ (x31.toInt ≠ 0) := c38
              exfalso; omega
set_option maxRecDepth 4000 in
set_option maxHeartbeats 2000000 in
theorem d_tb2 {E : Nat → Nat × (Nat → Int32)} {d : Nat} {Q : ez_Q} {h : ez_H} {n : Int32} (S : zSh h) (hz : 0 ≤ (ez_I h 71 6).toInt ∧ (ez_I h 71 6).toInt ≤ 6000) (hp : 0 ≤ (ez_I h 71 59).toInt ∧ (ez_I h 71 59).toInt ≤ 8 * (ez_I h 71 6).toInt) (hf : 0 ≤ (ez_I h 71 61).toInt) (hn : 0 ≤ n.toInt ∧ n.toInt ≤ 16) (K : ∀ h2 (x : Int32), zW (fun q k => q = 71 ∧ k = 59 ∨ q = 71 ∧ k = 61) (fun _ => False) (fun _ => False) h h2 → ((ez_I h 71 61).toInt = 0 → (ez_I h 71 59).toInt + n.toInt ≤ 8 * (ez_I h 71 6).toInt → x.toInt = (vB (tB (ez_I h 72)) (ez_I h 71 59).toInt.toNat n.toInt.toNat : Nat) ∧ (ez_I h2 71 59).toInt = (ez_I h 71 59).toInt + n.toInt ∧ (ez_I h2 71 61).toInt = 0) → ((ez_I h 71 61).toInt = 0 → 8 * (ez_I h 71 6).toInt < (ez_I h 71 59).toInt + n.toInt → (ez_I h2 71 61).toInt = 1 ∧ 0 ≤ (ez_I h2 71 59).toInt ∧ (ez_I h2 71 59).toInt ≤ 8 * (ez_I h 71 6).toInt) → ((ez_I h 71 61).toInt ≠ 0 → (ez_I h2 71 61).toInt = (ez_I h 71 61).toInt ∧ (ez_I h2 71 59).toInt = (ez_I h 71 59).toInt) → (0 ≤ x.toInt ∧ x.toInt < ((2 ^ n.toInt.toNat : Nat) : Int)) → Q (.inl (some (.int x))) h2) : pw E d 51 0 [some (.ref 71), some (.int n), none, none] [] h Q := by
  have gn := z_rng n
  have F := zW_refl (fun q k => q = 71 ∧ k = 59 ∨ q = 71 ∧ k = 61) (fun _ => False) (fun _ => False) h
  apply ez_Wp_in
  show ez_gw _ _ _ _ _ _ (cz_51) _ _ _ _ _
  refine gw_skip _ ?_
  have r1 := z_rng (ez_I h 71 59)
  have r2 := z_rng (ez_I h 71 61)
  refine z_C (m := 0) rfl rfl (fun x3 ex3 => ?_)
  refine gw_st rfl rfl rfl ?_
  show ez_gw _ _ _ _ _ _ _ _ [some (.ref 71), some (.int n), some (.int x3), none] _ _ _
  refine z_C (m := 0) rfl rfl (fun x4 ex4 => ?_)
  refine gw_st rfl rfl rfl ?_
  show ez_gw _ _ _ _ _ _ _ _ [some (.ref 71), some (.int n), some (.int x3), some (.int x4)] _ _ _
  exact ez_Wp_at ((d_tb2_L0 (n := n) S hz hp hf hn K (((100 - x4.toInt)).toNat + 1)) h x3 x4 F (⟨by omega, by omega, by omega, by rw [show x4.toInt.toNat = 0 by omega]; show _ < ((1 : Nat) : Int); omega, by have e0 : vB (tB (ez_I h 72)) (ez_I h 71 59).toInt.toNat 0 = 0 := rfl; rw [show x4.toInt.toNat = 0 by omega]; omega⟩)  (by omega)) rfl
/-! the model reads: bits and symbols, in two states -/
section TBF
variable {E : Nat → Nat × (Nat → Int32)} {d : Nat} {Q : ez_Q} {h : ez_H}
theorem d_tbF {v : Int32} {n N : Nat} (S : zSh h) (hN : (ez_I h 71 6).toInt = (n : Nat)) (hn : n ≤ 6000) (hp : 0 ≤ (ez_I h 71 59).toInt ∧ (ez_I h 71 59).toInt ≤ 8 * (n : Int)) (hf : 1 ≤ (ez_I h 71 61).toInt) (hv : v.toInt = (N : Nat)) (h16 : N ≤ 16) (K : ∀ h2 (x : Int32), zW (fun q k => q = 71 ∧ k = 59 ∨ q = 71 ∧ k = 61) (fun _ => False) (fun _ => False) h h2 → 1 ≤ (ez_I h2 71 61).toInt → (0 ≤ (ez_I h2 71 59).toInt ∧ (ez_I h2 71 59).toInt ≤ 8 * (n : Int)) → 0 ≤ x.toInt → x.toInt < ((2 ^ N : Nat) : Int) → Q (.inl (some (.int x))) h2) : pw E d 51 0 [some (.ref 71), some (.int v), none, none] [] h Q := by
  refine d_tb2 (n := v) S (by omega) (by omega) (by omega) (by omega) (fun h2 x F k1 k2 k3 k4 => ?_)
  have k5 := k3 (by omega)
  rw [show v.toInt.toNat = N by omega] at k4
  exact K h2 x F (by omega) (by omega) k4.1 k4.2
theorem d_tbO {v : Int32} {T : Nat → Int} {n N p : Nat} (S : zSh h) (hT : tB (ez_I h 72) = T) (hN : (ez_I h 71 6).toInt = (n : Nat)) (hn : n ≤ 6000) (hp : (ez_I h 71 59).toInt = (p : Nat)) (hp8 : p ≤ 8 * n) (hf : (ez_I h 71 61).toInt = 0) (hv : v.toInt = (N : Nat)) (h16 : N ≤ 16) (K1 : ∀ h2 (x : Int32), zW (fun q k => q = 71 ∧ k = 59 ∨ q = 71 ∧ k = 61) (fun _ => False) (fun _ => False) h h2 → p + N ≤ 8 * n → x.toInt = (vB T p N : Nat) → vB T p N < 2 ^ N → (ez_I h2 71 59).toInt = ((p + N : Nat) : Int) → (ez_I h2 71 61).toInt = 0 → Q (.inl (some (.int x))) h2) (K2 : ∀ h2 (x : Int32), zW (fun q k => q = 71 ∧ k = 59 ∨ q = 71 ∧ k = 61) (fun _ => False) (fun _ => False) h h2 → 8 * n < p + N → 1 ≤ (ez_I h2 71 61).toInt → (0 ≤ (ez_I h2 71 59).toInt ∧ (ez_I h2 71 59).toInt ≤ 8 * (n : Int)) → 0 ≤ x.toInt → x.toInt < ((2 ^ N : Nat) : Int) → Q (.inl (some (.int x))) h2) : pw E d 51 0 [some (.ref 71), some (.int v), none, none] [] h Q := by
  refine d_tb2 (n := v) S (by omega) (by omega) (by omega) (by omega) (fun h2 x F k1 k2 k3 k4 => ?_)
  rw [hT, show v.toInt.toNat = N by omega, show (ez_I h 71 59).toInt.toNat = p by omega] at k1
  rw [show v.toInt.toNat = N by omega] at k4
  by_cases q : p + N ≤ 8 * n
  · obtain ⟨a1, a2, a3⟩ := k1 hf (by omega)
    exact K1 h2 x F q a1 (vB_lt _ _ _) (by omega) a3
  · obtain ⟨a1, a2, a3⟩ := k2 hf (by omega)
    exact K2 h2 x F (by omega) (by omega) (by omega) k4.1 k4.2
theorem d_syO {u nu N : Nat} {v : Int32} {T : Nat → Int} {n p : Nat} {L : Nat → Nat} (S : zSh h) (hu : zA u nu) (hu2 : u ≠ 115 ∧ u ≠ 71) (hnu : N ≤ nu ∧ nu ≤ 288) (hT : tB (ez_I h 72) = T) (hN : (ez_I h 71 6).toInt = (n : Nat)) (hn : n ≤ 6000) (hp : (ez_I h 71 59).toInt = (p : Nat)) (hp8 : p ≤ 8 * n) (hf : (ez_I h 71 61).toInt = 0) (hv : v.toInt = (N : Nat)) (hL : aR (ez_I h u) N 0 15) (hLe : nL (ez_I h u) = L) (hone : plN L N 16 = 1 → ctN L 1 N = 1) (K1 : ∀ h2 (x : Int32) (q : Nat), zW (fun q k => q = 71 ∧ k = 59 ∨ q = 71 ∧ k = 61) (fun q => q = 115) (fun _ => False) h h2 → sdR T n p L N = some (x.toInt.toNat, q) → 0 ≤ x.toInt → x.toInt < (N : Nat) → q ≤ 8 * n → (ez_I h2 71 59).toInt = (q : Nat) → (ez_I h2 71 61).toInt = 0 → Q (.inl (some (.int x))) h2) (K2 : ∀ h2 (x : Int32), zW (fun q k => q = 71 ∧ k = 59 ∨ q = 71 ∧ k = 61) (fun q => q = 115) (fun _ => False) h h2 → sdR T n p L N = none → 1 ≤ (ez_I h2 71 61).toInt → (0 ≤ (ez_I h2 71 59).toInt ∧ (ez_I h2 71 59).toInt ≤ 8 * (n : Int)) → x.toInt = 0 → Q (.inl (some (.int x))) h2) : pw E (d + 1) 54 0 [some (.ref 71), some (.ref u), some (.int v), none, none, none, none] [] h Q := by
  have e1 : v.toInt.toNat = N := by omega
  refine d_sym (u := u) (n := v) S (nu := nu) hu hu2 (by omega) (by omega) (by omega) hf (by rw [e1]; exact hL) (by rw [e1, hLe]; exact hone) (fun h2 x F k1 k2 => ?_)
  rw [hT, e1, hLe, show (ez_I h 71 59).toInt.toNat = p by omega, show (ez_I h 71 6).toInt.toNat = n by omega] at k1
  rcases k1 with ⟨a1, q, a2, a3, a4⟩ | ⟨a1, a2, a3⟩
  · have b1 := sdR_ok a2
    have b2 := sdR_s a2
    exact K1 h2 x q F a2 a3 (by omega) b1.2.2 a4 a1
  · exact K2 h2 x F a2 a1 (by omega) a3
end TBF
/-- how a head ends -/
def hdP (f120 f121 : Nat → Int32) (b f : Int) (R : Option (Nat × (Nat → Nat) × (Nat → Nat))) : Prop := (f = 0 ∧ ∃ (q : Nat) (L1 L2 : Nat → Nat), R = some (q, L1, L2) ∧ b = q ∧ (∀ k, k < 288 → nL f120 k = L1 k) ∧ aR f120 288 0 15 ∧ (plN (nL f120) 288 16 = 1 → ctN (nL f120) 1 288 = 1) ∧ (∀ k, k < 32 → nL f121 k = L2 k) ∧ (∀ k, 32 ≤ k → L2 k = 0) ∧ aR f121 32 0 15 ∧ (plN (nL f121) 32 16 = 1 → ctN (nL f121) 1 32 = 1)) ∨ (1 ≤ f ∧ R = none)
theorem hd_y {f g w : Nat → Int32} {r : Nat → Nat} {N1 N2 : Nat} {R : Option (Nat × (Nat → Nat) × (Nat → Nat))} {p : Nat} {b fl : Int} (A : cpN f (litF N1 r) 288) (B : cpN g (disF N1 N2 r) 32) (hr : rwJ w r (N1 + N2)) (h2 : N2 ≤ 30) (hR : R = if okH N1 N2 r then some (p, litF N1 r, disF N1 N2 r) else none) (ok : okH N1 N2 r) (hb : b = p) (hf : fl = 0) : hdP f g b fl R := by
  have l15 := lit_15 (nl := N1) (rw_15 hr) (by omega)
  have d15 := dis_15 (nl := N1) (nd := N2) (rw_15 hr) (Nat.le_refl _)
  refine .inl ⟨hf, p, litF N1 r, disF N1 N2 r, hR.trans (if_pos ok), hb, cpN_nL A, cpN_aR A (fun k _ => l15 k), ws_one (fun k hk => by rw [cpN_nL A k hk]; exact l15 k) (by rw [ws_eq 288 (cpN_nL A)]; exact ok.1), cpN_nL B, fun k hk => dis_0 (by omega), cpN_aR B (fun k _ => d15 k), dis_one B (fun k hk => dis_0 (by omega)) ok.2.2 d15⟩
theorem hd_no {f g : Nat → Int32} {r : Nat → Nat} {N1 N2 : Nat} {R : Option (Nat × (Nat → Nat) × (Nat → Nat))} {p : Nat} {b fl : Int} (hR : R = if okH N1 N2 r then some (p, litF N1 r, disF N1 N2 r) else none) (no : ¬ okH N1 N2 r) (hf : 1 ≤ fl) : hdP f g b fl R := .inr ⟨hf, hR.trans (if_neg no)⟩
theorem dis_ok {r : Nat → Nat} {N1 N2 : Nat} (h : ∀ k, k < N1 + N2 → r k ≤ 15) (h2 : N2 ≤ 30) : (plN (disF N1 N2 r) 288 16 = 0 ∨ plN (disF N1 N2 r) 288 16 = 1 ∧ ctN (disF N1 N2 r) 1 288 = 1) ↔ smN (disF N1 N2 r) 32 ≤ 1 := by
  rw [one_some (L := disF N1 N2 r) (n := 288) (fun k _ => dis_15 h (Nat.le_refl _) k), sm_ext (L := disF N1 N2 r) (M := 32) 288 (by decide) (fun k a b => dis_0 (by omega))]
theorem RB_v {s : Nat} (h : 16 ≤ s ∧ s < 19) : RBf (s - 16) = if s = 18 then 11 else 3 := by
  rcases (by omega : s = 16 ∨ s = 17 ∨ s = 18) with q | q | q <;> rw [q] <;> decide
theorem rwX_l {T : Nat → Int} {n : Nat} {L : Nat → Nat} {z p a s q : Nat} {r : Nat → Nat} (h0 : ∀ k, 19 ≤ k → k < 288 → L k = 0) (ha : a < z) (h : sdR T n p L 288 = some (s, q)) (hs : s < 16) : rwL T n L 288 z (z - a) p a r = rwL T n L 288 z (z - (a + 1)) q (a + 1) (flN r a 1 s) :=
  (rwL_s (G := z - a - 1) ha (by omega) (rwS_l h hs)).trans (rwL_f h0 _ _ _ _ _ (by show z ≤ z - a - 1 + (a + 1); omega) (by show z ≤ z - (a + 1) + (a + 1); omega))
theorem rwX_y {T : Nat → Int} {n : Nat} {L : Nat → Nat} {z p a s q t v e : Nat} {r : Nat → Nat} (h0 : ∀ k, 19 ≤ k → k < 288 → L k = 0) (ha : a < z) (h : sdR T n p L 288 = some (s, q)) (hs : 16 ≤ s) (h1 : ¬ (s = 16 ∧ a = 0)) (he : e = REf (s - 16)) (h2 : q + e ≤ 8 * n) (ht : t = RBf (s - 16) + vB T q e) (h3 : a + t ≤ z) (ht1 : 1 ≤ t) (hv : v = if s = 16 then r (a - 1) else 0) : rwL T n L 288 z (z - a) p a r = rwL T n L 288 z (z - (a + t)) (q + e) (a + t) (flN r a t v) :=
  (rwL_s (G := z - a - 1) ha (by omega) (rwS_y h hs h1 he h2 ht h3 hv)).trans (rwL_f h0 _ _ _ _ _ (by show z ≤ z - a - 1 + (a + t); omega) (by show z ≤ z - (a + t) + (a + t); omega))

end
section
/-! PRINTED by wip/pack: the model reads a head: with a fault met -/
theorem x73_0 : ∀ q k : Nat, (False) → (q = 71 ∧ k = 59 ∨ q = 71 ∧ k = 61) := fun q k hk => hk.elim
theorem x73_1 : ∀ q : Nat, (False) → (q = 115 ∨ q = 120 ∨ q = 121 ∨ q = 122 ∨ q = 123) := fun q hk => hk.elim
theorem x73_2 : ∀ q : Nat, (False) → (False) := fun q hk => hk.elim
set_option maxRecDepth 4000 in
set_option maxHeartbeats 2000000 in
theorem h_F127 {E : Nat → Nat × (Nat → Int32)} {d : Nat} {Q : ez_Q} {h : ez_H} {nl : Int32} {nd : Int32} {l3 : Option Value} {k : Int32} {l5 : Option Value} {l6 : Option Value} {l7 : Option Value} {l8 : Option Value} {l9 : Option Value} (S : zSh h) {n : Nat} (hN : (ez_I h 71 6).toInt = (n : Nat)) (hn6 : n ≤ 6000) (hf : 1 ≤ (ez_I h 71 61).toInt) (hp : 0 ≤ (ez_I h 71 59).toInt ∧ (ez_I h 71 59).toInt ≤ 8 * (n : Int)) (hnn : 0 ≤ nl.toInt ∧ nl.toInt ≤ 400 ∧ 0 ≤ nd.toInt ∧ nd.toInt ≤ 400) (K : ∀ h2, zW (fun q k => q = 71 ∧ k = 59 ∨ q = 71 ∧ k = 61) (fun q => q = 115 ∨ q = 120 ∨ q = 121 ∨ q = 122 ∨ q = 123) (fun _ => False) h h2 → 1 ≤ (ez_I h2 71 61).toInt → (0 ≤ (ez_I h2 71 59).toInt ∧ (ez_I h2 71 59).toInt ≤ 8 * (n : Int)) → Q (.inl none) h2) : pw E (d + 2) 58 127 [some (.ref 71), some (.int nl), some (.int nd), l3, some (.int k), l5, l6, l7, l8, l9] [] h Q := by
  have gnl := z_rng nl
  have gnd := z_rng nd
  have gk := z_rng k
  have F := zW_refl (fun _ _ => False) (fun _ => False) (fun _ => False) h
  apply ez_Wp_in
  show ez_gw _ _ _ _ _ _ (cz_58) _ _ _ _ _
  refine gw_skip _ ?_
  refine gw_ld rfl rfl ?_
  refine gw_ld rfl rfl ?_
  refine gw_ld rfl rfl ?_
  refine z_add (by omega) (fun x1 ex1 => ?_)
  refine z_b2 (fun c2 => ?_) (fun c2 => ?_)
  · have c2 : x1.toInt ≤ k.toInt := c2
    refine gw_skip _ ?_
    refine gw_ld rfl rfl ?_
    have r3 := z_rng (ez_I h 71 61)
    refine z_gI2 (by decide) (zT S (by decide) rfl) (zW_f F (fun c => c) (fun c => c)) ?_
    refine z_b1 (fun c4 => ?_) (fun c4 => ?_)
    · have c4 : ((ez_I h 71 61)).toInt ≤ 0 := c4
      exfalso; omega
    · have c4 : ¬ (((ez_I h 71 61)).toInt ≤ 0) := c4
      refine z_rv ?_
      exact K _ (zW_mono F x73_0 x73_1 x73_2) hf hp
  · have c2 : ¬ (x1.toInt ≤ k.toInt) := c2
    refine gw_ld rfl rfl ?_
    have r5 := z_rng (ez_I h 71 61)
    refine z_gI2 (by decide) (zT S (by decide) rfl) (zW_f F (fun c => c) (fun c => c)) ?_
    refine z_b1 (fun c6 => ?_) (fun c6 => ?_)
    · have c6 : ((ez_I h 71 61)).toInt ≠ 0 := c6
      refine gw_skip _ ?_
      refine gw_ld rfl rfl ?_
      refine z_gI2 (by decide) (zT S (by decide) rfl) (zW_f F (fun c => c) (fun c => c)) ?_
      refine z_b1 (fun c7 => ?_) (fun c7 => ?_)
      · have c7 : ((ez_I h 71 61)).toInt ≤ 0 := c7
        exfalso; omega
      · have c7 : ¬ (((ez_I h 71 61)).toInt ≤ 0) := c7
        refine z_rv ?_
        exact K _ (zW_mono F x73_0 x73_1 x73_2) hf hp
    · have c6 : ¬ (((ez_I h 71 61)).toInt ≠ 0) := c6
      exfalso; omega
theorem x73_3 : ∀ q k : Nat, (q = 71 ∧ k = 59 ∨ q = 71 ∧ k = 61) → (q = 71 ∧ k = 59 ∨ q = 71 ∧ k = 61) := fun q k hk => hk.elim (fun g => (.inl g)) (fun hk => (.inr hk))
theorem x73_4 : ∀ q : Nat, (q = 115 ∨ q = 120 ∨ q = 121 ∨ q = 122 ∨ q = 123) → (q = 115 ∨ q = 120 ∨ q = 121 ∨ q = 122 ∨ q = 123) := fun q hk => hk.elim (fun g => (.inl g)) (fun hk => hk.elim (fun g => (.inr (.inl g))) (fun hk => hk.elim (fun g => (.inr (.inr (.inl g)))) (fun hk => hk.elim (fun g => (.inr (.inr (.inr (.inl g))))) (fun hk => (.inr (.inr (.inr (.inr hk))))))))
set_option maxRecDepth 4000 in
set_option maxHeartbeats 2000000 in
theorem h_F234 {E : Nat → Nat × (Nat → Int32)} {d : Nat} {Q : ez_Q} {h : ez_H} {nl : Int32} {nd : Int32} {l3 : Option Value} {k : Int32} {sy : Int32} {l6 : Option Value} {m : Int32} {l8 : Option Value} {l9 : Option Value} (S : zSh h) {n : Nat} (hN : (ez_I h 71 6).toInt = (n : Nat)) (hn6 : n ≤ 6000) (hf : 1 ≤ (ez_I h 71 61).toInt) (hp : 0 ≤ (ez_I h 71 59).toInt ∧ (ez_I h 71 59).toInt ≤ 8 * (n : Int)) (hnn : 0 ≤ nl.toInt ∧ nl.toInt ≤ 400 ∧ 0 ≤ nd.toInt ∧ nd.toInt ≤ 400) (hk : 0 ≤ k.toInt ∧ k.toInt ≤ 320) (K : ∀ h2, zW (fun q k => q = 71 ∧ k = 59 ∨ q = 71 ∧ k = 61) (fun q => q = 115 ∨ q = 120 ∨ q = 121 ∨ q = 122 ∨ q = 123) (fun _ => False) h h2 → 1 ≤ (ez_I h2 71 61).toInt → (0 ≤ (ez_I h2 71 59).toInt ∧ (ez_I h2 71 59).toInt ≤ 8 * (n : Int)) → Q (.inl none) h2) : pw E (d + 2) 58 234 [some (.ref 71), some (.int nl), some (.int nd), l3, some (.int k), some (.int sy), l6, some (.int m), l8, l9] [] h Q := by
  have gnl := z_rng nl
  have gnd := z_rng nd
  have gk := z_rng k
  have gsy := z_rng sy
  have gm := z_rng m
  have F := zW_refl (fun _ _ => False) (fun _ => False) (fun _ => False) h
  apply ez_Wp_in
  show ez_gw _ _ _ _ _ _ (cz_58) _ _ _ _ _
  refine gw_skip _ ?_
  refine gw_ld rfl rfl ?_
  refine z_C (m := 16) rfl rfl (fun x1 ex1 => ?_)
  refine z_b2 (fun c2 => ?_) (fun c2 => ?_)
  · have c2 : sy.toInt ≠ x1.toInt := c2
    refine gw_skip _ ?_
    refine z_C (m := 0) rfl rfl (fun x3 ex3 => ?_)
    refine gw_st rfl rfl rfl ?_
    show ez_gw _ _ _ _ _ _ _ _ [some (.ref 71), some (.int nl), some (.int nd), l3, some (.int k), some (.int sy), l6, some (.int m), some (.int x3), l9] _ _ _
    refine z_C (m := 0) rfl rfl (fun x4 ex4 => ?_)
    refine gw_st rfl rfl rfl ?_
    show ez_gw _ _ _ _ _ _ _ _ [some (.ref 71), some (.int nl), some (.int nd), l3, some (.int k), some (.int sy), l6, some (.int m), some (.int x3), some (.int x4)] _ _ _
    refine gw_ld rfl rfl ?_
    refine gw_ld rfl rfl ?_
    refine z_b2 (fun c5 => ?_) (fun c5 => ?_)
    · have c5 : m.toInt ≤ x4.toInt := c5
      refine gw_skip _ ?_
      refine z_go ?_
      refine h_F127 (n := n) S (by rw [(show ez_I h 71 6 = ez_I h 71 6 from zW_f F (fun c => c) (fun c => c))]; exact hN) hn6 (by rw [(show ez_I h 71 61 = ez_I h 71 61 from zW_f F (fun c => c) (fun c => c))]; exact hf) (by rw [(show ez_I h 71 59 = ez_I h 71 59 from zW_f F (fun c => c) (fun c => c))]; exact hp) hnn (fun h6 F7 k8 k9 => ?_)
      have F10 := zW_tr (zW_mono F x73_0 x73_1 x73_2) (zW_mono F7 x73_3 x73_4 x73_2)
      exact K _ F10 k8 k9
    · have c5 : ¬ (m.toInt ≤ x4.toInt) := c5
      refine gw_ld rfl rfl ?_
      have r11 := z_rng (ez_I h 71 61)
      refine z_gI2 (by decide) (zT S (by decide) rfl) (zW_f F (fun c => c) (fun c => c)) ?_
      refine z_b1 (fun c12 => ?_) (fun c12 => ?_)
      · have c12 : ((ez_I h 71 61)).toInt ≠ 0 := c12
        refine gw_skip _ ?_
        refine z_go ?_
        refine h_F127 (n := n) S (by rw [(show ez_I h 71 6 = ez_I h 71 6 from zW_f F (fun c => c) (fun c => c))]; exact hN) hn6 (by rw [(show ez_I h 71 61 = ez_I h 71 61 from zW_f F (fun c => c) (fun c => c))]; exact hf) (by rw [(show ez_I h 71 59 = ez_I h 71 59 from zW_f F (fun c => c) (fun c => c))]; exact hp) hnn (fun h13 F14 k15 k16 => ?_)
        have F17 := zW_tr (zW_mono F x73_0 x73_1 x73_2) (zW_mono F14 x73_3 x73_4 x73_2)
        exact K _ F17 k15 k16
      · have c12 : ¬ (((ez_I h 71 61)).toInt ≠ 0) := c12
        exfalso; omega
  · have c2 : ¬ (sy.toInt ≠ x1.toInt) := c2
    refine gw_ld rfl rfl ?_
    refine z_b1 (fun c18 => ?_) (fun c18 => ?_)
    · have c18 : k.toInt ≤ 0 := c18
      refine gw_skip _ ?_
      refine z_C (m := 0) rfl rfl (fun x19 ex19 => ?_)
      refine gw_st rfl rfl rfl ?_
      show ez_gw _ _ _ _ _ _ _ _ [some (.ref 71), some (.int nl), some (.int nd), l3, some (.int k), some (.int sy), l6, some (.int m), some (.int x19), l9] _ _ _
      refine z_C (m := 0) rfl rfl (fun x20 ex20 => ?_)
      refine gw_st rfl rfl rfl ?_
      show ez_gw _ _ _ _ _ _ _ _ [some (.ref 71), some (.int nl), some (.int nd), l3, some (.int k), some (.int sy), l6, some (.int m), some (.int x19), some (.int x20)] _ _ _
      refine gw_ld rfl rfl ?_
      refine gw_ld rfl rfl ?_
      refine z_b2 (fun c21 => ?_) (fun c21 => ?_)
      · have c21 : m.toInt ≤ x20.toInt := c21
        refine gw_skip _ ?_
        refine z_go ?_
        refine h_F127 (n := n) S (by rw [(show ez_I h 71 6 = ez_I h 71 6 from zW_f F (fun c => c) (fun c => c))]; exact hN) hn6 (by rw [(show ez_I h 71 61 = ez_I h 71 61 from zW_f F (fun c => c) (fun c => c))]; exact hf) (by rw [(show ez_I h 71 59 = ez_I h 71 59 from zW_f F (fun c => c) (fun c => c))]; exact hp) hnn (fun h22 F23 k24 k25 => ?_)
        have F26 := zW_tr (zW_mono F x73_0 x73_1 x73_2) (zW_mono F23 x73_3 x73_4 x73_2)
        exact K _ F26 k24 k25
      · have c21 : ¬ (m.toInt ≤ x20.toInt) := c21
        refine gw_ld rfl rfl ?_
        have r27 := z_rng (ez_I h 71 61)
        refine z_gI2 (by decide) (zT S (by decide) rfl) (zW_f F (fun c => c) (fun c => c)) ?_
        refine z_b1 (fun c28 => ?_) (fun c28 => ?_)
        · have c28 : ((ez_I h 71 61)).toInt ≠ 0 := c28
          refine gw_skip _ ?_
          refine z_go ?_
          refine h_F127 (n := n) S (by rw [(show ez_I h 71 6 = ez_I h 71 6 from zW_f F (fun c => c) (fun c => c))]; exact hN) hn6 (by rw [(show ez_I h 71 61 = ez_I h 71 61 from zW_f F (fun c => c) (fun c => c))]; exact hf) (by rw [(show ez_I h 71 59 = ez_I h 71 59 from zW_f F (fun c => c) (fun c => c))]; exact hp) hnn (fun h29 F30 k31 k32 => ?_)
          have F33 := zW_tr (zW_mono F x73_0 x73_1 x73_2) (zW_mono F30 x73_3 x73_4 x73_2)
          exact K _ F33 k31 k32
        · have c28 : ¬ (((ez_I h 71 61)).toInt ≠ 0) := c28
          exfalso; omega
    · have c18 : ¬ (k.toInt ≤ 0) := c18
      refine gw_ld rfl rfl ?_
      refine z_gR (q := 123) (zT S (by decide) rfl) (zRf S (by decide) (by decide) rfl) (by decide) ?_
      refine gw_ld rfl rfl ?_
      refine z_C (m := 1) rfl rfl (fun x34 ex34 => ?_)
      refine z_sub (by omega) (fun x35 ex35 => ?_)
      refine z_iaV (n := 330) (zT S (by decide) rfl) (zN S (by decide) rfl) (by omega) (zW_f F (fun c => c) (fun c => c)) ?_
      generalize ex36 : ez_I h 123 x35.toInt.toNat = x36
      have rx36 := z_rng x36
      refine z_go ?_
      refine gw_skip _ ?_
      refine gw_st rfl rfl rfl ?_
      show ez_gw _ _ _ _ _ _ _ _ [some (.ref 71), some (.int nl), some (.int nd), l3, some (.int k), some (.int sy), l6, some (.int m), some (.int x36), l9] _ _ _
      refine z_C (m := 0) rfl rfl (fun x37 ex37 => ?_)
      refine gw_st rfl rfl rfl ?_
      show ez_gw _ _ _ _ _ _ _ _ [some (.ref 71), some (.int nl), some (.int nd), l3, some (.int k), some (.int sy), l6, some (.int m), some (.int x36), some (.int x37)] _ _ _
      refine gw_ld rfl rfl ?_
      refine gw_ld rfl rfl ?_
      refine z_b2 (fun c38 => ?_) (fun c38 => ?_)
      · have c38 : m.toInt ≤ x37.toInt := c38
        refine gw_skip _ ?_
        refine z_go ?_
        refine h_F127 (n := n) S (by rw [(show ez_I h 71 6 = ez_I h 71 6 from zW_f F (fun c => c) (fun c => c))]; exact hN) hn6 (by rw [(show ez_I h 71 61 = ez_I h 71 61 from zW_f F (fun c => c) (fun c => c))]; exact hf) (by rw [(show ez_I h 71 59 = ez_I h 71 59 from zW_f F (fun c => c) (fun c => c))]; exact hp) hnn (fun h39 F40 k41 k42 => ?_)
        have F43 := zW_tr (zW_mono F x73_0 x73_1 x73_2) (zW_mono F40 x73_3 x73_4 x73_2)
        exact K _ F43 k41 k42
      · have c38 : ¬ (m.toInt ≤ x37.toInt) := c38
        refine gw_ld rfl rfl ?_
        have r44 := z_rng (ez_I h 71 61)
        refine z_gI2 (by decide) (zT S (by decide) rfl) (zW_f F (fun c => c) (fun c => c)) ?_
        refine z_b1 (fun c45 => ?_) (fun c45 => ?_)
        · have c45 : ((ez_I h 71 61)).toInt ≠ 0 := c45
          refine gw_skip _ ?_
          refine z_go ?_
          refine h_F127 (n := n) S (by rw [(show ez_I h 71 6 = ez_I h 71 6 from zW_f F (fun c => c) (fun c => c))]; exact hN) hn6 (by rw [(show ez_I h 71 61 = ez_I h 71 61 from zW_f F (fun c => c) (fun c => c))]; exact hf) (by rw [(show ez_I h 71 59 = ez_I h 71 59 from zW_f F (fun c => c) (fun c => c))]; exact hp) hnn (fun h46 F47 k48 k49 => ?_)
          have F50 := zW_tr (zW_mono F x73_0 x73_1 x73_2) (zW_mono F47 x73_3 x73_4 x73_2)
          exact K _ F50 k48 k49
        · have c45 : ¬ (((ez_I h 71 61)).toInt ≠ 0) := c45
          exfalso; omega
theorem x73_5 : ¬ (71 = 123) := by omega
theorem x73_6 : ¬ (71 = 71 ∧ 6 = 61) := by omega
theorem x73_7 : ¬ (71 = 71 ∧ 59 = 61) := by omega
theorem x73_8 : ∀ q k : Nat, (q = 71 ∧ k = 61) → (q = 71 ∧ k = 59 ∨ q = 71 ∧ k = 61) := fun q k hk => (.inr hk)
theorem x73_9 : ∀ q : Nat, (q = 123) → (q = 115 ∨ q = 120 ∨ q = 121 ∨ q = 122 ∨ q = 123) := fun q hk => (.inr (.inr (.inr (.inr hk))))
theorem x73_10 : ∀ q k : Nat, (q = 71 ∧ k = 61) → (q = 71 ∧ k = 61) := fun q k hk => hk
theorem x73_11 : ∀ q : Nat, (False) → (q = 123) := fun q hk => hk.elim
set_option maxRecDepth 4000 in
set_option maxHeartbeats 2000000 in
theorem h_F165 {E : Nat → Nat × (Nat → Int32)} {d : Nat} {Q : ez_Q} {h : ez_H} {nl : Int32} {nd : Int32} {mn : Int32} {k : Int32} {sy : Int32} {rs : Int32} {l7 : Option Value} {l8 : Option Value} {l9 : Option Value} (S : zSh h) {n : Nat} (hN : (ez_I h 71 6).toInt = (n : Nat)) (hn6 : n ≤ 6000) (hf : 1 ≤ (ez_I h 71 61).toInt) (hp : 0 ≤ (ez_I h 71 59).toInt ∧ (ez_I h 71 59).toInt ≤ 8 * (n : Int)) (hnn : 0 ≤ nl.toInt ∧ nl.toInt ≤ 400 ∧ 0 ≤ nd.toInt ∧ nd.toInt ≤ 400) (hk : 0 ≤ k.toInt ∧ k.toInt ≤ 320) (hs : 0 ≤ sy.toInt ∧ sy.toInt ≤ 18 ∧ 0 ≤ rs.toInt ∧ rs.toInt ≤ 200) (K : ∀ h2, zW (fun q k => q = 71 ∧ k = 59 ∨ q = 71 ∧ k = 61) (fun q => q = 115 ∨ q = 120 ∨ q = 121 ∨ q = 122 ∨ q = 123) (fun _ => False) h h2 → 1 ≤ (ez_I h2 71 61).toInt → (0 ≤ (ez_I h2 71 59).toInt ∧ (ez_I h2 71 59).toInt ≤ 8 * (n : Int)) → Q (.inl none) h2) : pw E (d + 2) 58 165 [some (.ref 71), some (.int nl), some (.int nd), some (.int mn), some (.int k), some (.int sy), some (.int rs), l7, l8, l9] [] h Q := by
  have gnl := z_rng nl
  have gnd := z_rng nd
  have gmn := z_rng mn
  have gk := z_rng k
  have gsy := z_rng sy
  have grs := z_rng rs
  have F := zW_refl (fun q k => q = 71 ∧ k = 61) (fun q => q = 123) (fun _ => False) h
  apply ez_Wp_in
  show ez_gw _ _ _ _ _ _ (cz_58) _ _ _ _ _
  refine gw_skip _ ?_
  have r1 := z_rng (ez_I h 71 61)
  refine gw_ld rfl rfl ?_
  refine z_C (m := 16) rfl rfl (fun x2 ex2 => ?_)
  refine z_b2 (fun c3 => ?_) (fun c3 => ?_)
  · have c3 : x2.toInt ≤ sy.toInt := c3
    refine gw_skip _ ?_
    refine gw_ld rfl rfl ?_
    refine gw_ld rfl rfl ?_
    refine z_C (m := 18) rfl rfl (fun x4 ex4 => ?_)
    refine z_b2 (fun c5 => ?_) (fun c5 => ?_)
    · have c5 : sy.toInt ≠ x4.toInt := c5
      refine gw_skip _ ?_
      refine z_C (m := 3) rfl rfl (fun x6 ex6 => ?_)
      refine z_add (by omega) (fun x7 ex7 => ?_)
      refine gw_st rfl rfl rfl ?_
      show ez_gw _ _ _ _ _ _ _ _ [some (.ref 71), some (.int nl), some (.int nd), some (.int mn), some (.int k), some (.int sy), some (.int rs), some (.int x7), l8, l9] _ _ _
      refine gw_ld rfl rfl ?_
      refine z_C (m := 16) rfl rfl (fun x8 ex8 => ?_)
      refine z_b2 (fun c9 => ?_) (fun c9 => ?_)
      · have c9 : sy.toInt ≠ x8.toInt := c9
        refine gw_skip _ ?_
        refine gw_ld rfl rfl ?_
        refine gw_ld rfl rfl ?_
        refine z_add (by omega) (fun x10 ex10 => ?_)
        refine gw_ld rfl rfl ?_
        refine gw_ld rfl rfl ?_
        refine z_add (by omega) (fun x11 ex11 => ?_)
        refine z_b2 (fun c12 => ?_) (fun c12 => ?_)
        · have c12 : x10.toInt ≤ x11.toInt := c12
          suffices tl : pw E (d + 2) 58 234 [some (.ref 71), some (.int nl), some (.int nd), some (.int mn), some (.int k), some (.int sy), some (.int rs), some (.int x7), l8, l9] [] h Q from gw_skip _ (ez_Wp_at tl rfl)
          refine h_F234 (n := n) S (by rw [(show ez_I h 71 6 = ez_I h 71 6 from zW_f F x73_5 x73_6)]; exact hN) hn6 (by omega) (by rw [(show ez_I h 71 59 = ez_I h 71 59 from zW_f F x73_5 x73_7)]; exact hp) hnn (by omega) (fun h13 F14 k15 k16 => ?_)
          have F17 := zW_tr (zW_mono F x73_8 x73_9 x73_2) (zW_mono F14 x73_3 x73_4 x73_2)
          exact K _ F17 k15 k16
        · have c12 : ¬ (x10.toInt ≤ x11.toInt) := c12
          refine gw_ld rfl rfl ?_
          refine z_C (m := 6) rfl rfl (fun x18 ex18 => ?_)
          refine z_cl rfl rfl rfl rfl rfl rfl rfl rfl rfl rfl rfl (zT S (by decide) rfl) ?_
          refine d_wrong (n := x18) S (fun h19 F20 k21 k22 => ?_)
          have kw23 := k22 (by omega)
          clear k21 k22
          have S24 := zW_sh F20 S
          have F25 := zW_tr F (zW_mono F20 (x73_10) (x73_11) (x73_2))
          have r26 := z_rng (ez_I h19 71 61)
          suffices tl : pw E (d + 2) 58 234 [some (.ref 71), some (.int nl), some (.int nd), some (.int mn), some (.int k), some (.int sy), some (.int rs), some (.int x7), l8, l9] [] h19 Q from ez_Wp_at tl rfl
          refine h_F234 (n := n) S24 (by rw [(show ez_I h19 71 6 = ez_I h 71 6 from zW_f F25 x73_5 x73_6)]; exact hN) hn6 (by omega) (by rw [(show ez_I h19 71 59 = ez_I h 71 59 from zW_f F25 x73_5 x73_7)]; exact hp) hnn (by omega) (fun h27 F28 k29 k30 => ?_)
          have F31 := zW_tr (zW_mono F25 x73_8 x73_9 x73_2) (zW_mono F28 x73_3 x73_4 x73_2)
          exact K _ F31 k29 k30
      · have c9 : ¬ (sy.toInt ≠ x8.toInt) := c9
        refine gw_ld rfl rfl ?_
        refine z_b1 (fun c32 => ?_) (fun c32 => ?_)
        · have c32 : k.toInt = 0 := c32
          refine gw_skip _ ?_
          refine gw_ld rfl rfl ?_
          refine z_C (m := 6) rfl rfl (fun x33 ex33 => ?_)
          refine z_cl rfl rfl rfl rfl rfl rfl rfl rfl rfl rfl rfl (zT S (by decide) rfl) ?_
          refine d_wrong (n := x33) S (fun h34 F35 k36 k37 => ?_)
          have kw38 := k37 (by omega)
          clear k36 k37
          have S39 := zW_sh F35 S
          have F40 := zW_tr F (zW_mono F35 (x73_10) (x73_11) (x73_2))
          have r41 := z_rng (ez_I h34 71 61)
          suffices tl : pw E (d + 2) 58 234 [some (.ref 71), some (.int nl), some (.int nd), some (.int mn), some (.int k), some (.int sy), some (.int rs), some (.int x7), l8, l9] [] h34 Q from ez_Wp_at tl rfl
          refine h_F234 (n := n) S39 (by rw [(show ez_I h34 71 6 = ez_I h 71 6 from zW_f F40 x73_5 x73_6)]; exact hN) hn6 (by omega) (by rw [(show ez_I h34 71 59 = ez_I h 71 59 from zW_f F40 x73_5 x73_7)]; exact hp) hnn (by omega) (fun h42 F43 k44 k45 => ?_)
          have F46 := zW_tr (zW_mono F40 x73_8 x73_9 x73_2) (zW_mono F43 x73_3 x73_4 x73_2)
          exact K _ F46 k44 k45
        · have c32 : ¬ (k.toInt = 0) := c32
          refine gw_ld rfl rfl ?_
          refine gw_ld rfl rfl ?_
          refine z_add (by omega) (fun x47 ex47 => ?_)
          refine gw_ld rfl rfl ?_
          refine gw_ld rfl rfl ?_
          refine z_add (by omega) (fun x48 ex48 => ?_)
          refine z_b2 (fun c49 => ?_) (fun c49 => ?_)
          · have c49 : x47.toInt ≤ x48.toInt := c49
            suffices tl : pw E (d + 2) 58 234 [some (.ref 71), some (.int nl), some (.int nd), some (.int mn), some (.int k), some (.int sy), some (.int rs), some (.int x7), l8, l9] [] h Q from gw_skip _ (ez_Wp_at tl rfl)
            refine h_F234 (n := n) S (by rw [(show ez_I h 71 6 = ez_I h 71 6 from zW_f F x73_5 x73_6)]; exact hN) hn6 (by omega) (by rw [(show ez_I h 71 59 = ez_I h 71 59 from zW_f F x73_5 x73_7)]; exact hp) hnn (by omega) (fun h50 F51 k52 k53 => ?_)
            have F54 := zW_tr (zW_mono F x73_8 x73_9 x73_2) (zW_mono F51 x73_3 x73_4 x73_2)
            exact K _ F54 k52 k53
          · have c49 : ¬ (x47.toInt ≤ x48.toInt) := c49
            refine gw_ld rfl rfl ?_
            refine z_C (m := 6) rfl rfl (fun x55 ex55 => ?_)
            refine z_cl rfl rfl rfl rfl rfl rfl rfl rfl rfl rfl rfl (zT S (by decide) rfl) ?_
            refine d_wrong (n := x55) S (fun h56 F57 k58 k59 => ?_)
            have kw60 := k59 (by omega)
            clear k58 k59
            have S61 := zW_sh F57 S
            have F62 := zW_tr F (zW_mono F57 (x73_10) (x73_11) (x73_2))
            have r63 := z_rng (ez_I h56 71 61)
            suffices tl : pw E (d + 2) 58 234 [some (.ref 71), some (.int nl), some (.int nd), some (.int mn), some (.int k), some (.int sy), some (.int rs), some (.int x7), l8, l9] [] h56 Q from ez_Wp_at tl rfl
            refine h_F234 (n := n) S61 (by rw [(show ez_I h56 71 6 = ez_I h 71 6 from zW_f F62 x73_5 x73_6)]; exact hN) hn6 (by omega) (by rw [(show ez_I h56 71 59 = ez_I h 71 59 from zW_f F62 x73_5 x73_7)]; exact hp) hnn (by omega) (fun h64 F65 k66 k67 => ?_)
            have F68 := zW_tr (zW_mono F62 x73_8 x73_9 x73_2) (zW_mono F65 x73_3 x73_4 x73_2)
            exact K _ F68 k66 k67
    · have c5 : ¬ (sy.toInt ≠ x4.toInt) := c5
      refine z_C (m := 11) rfl rfl (fun x69 ex69 => ?_)
      refine z_go ?_
      refine gw_skip _ ?_
      refine z_add (by omega) (fun x70 ex70 => ?_)
      refine gw_st rfl rfl rfl ?_
      show ez_gw _ _ _ _ _ _ _ _ [some (.ref 71), some (.int nl), some (.int nd), some (.int mn), some (.int k), some (.int sy), some (.int rs), some (.int x70), l8, l9] _ _ _
      refine gw_ld rfl rfl ?_
      refine z_C (m := 16) rfl rfl (fun x71 ex71 => ?_)
      refine z_b2 (fun c72 => ?_) (fun c72 => ?_)
      · have c72 : sy.toInt ≠ x71.toInt := c72
        refine gw_skip _ ?_
        refine gw_ld rfl rfl ?_
        refine gw_ld rfl rfl ?_
        refine z_add (by omega) (fun x73 ex73 => ?_)
        refine gw_ld rfl rfl ?_
        refine gw_ld rfl rfl ?_
        refine z_add (by omega) (fun x74 ex74 => ?_)
        refine z_b2 (fun c75 => ?_) (fun c75 => ?_)
        · have c75 : x73.toInt ≤ x74.toInt := c75
          suffices tl : pw E (d + 2) 58 234 [some (.ref 71), some (.int nl), some (.int nd), some (.int mn), some (.int k), some (.int sy), some (.int rs), some (.int x70), l8, l9] [] h Q from gw_skip _ (ez_Wp_at tl rfl)
          refine h_F234 (n := n) S (by rw [(show ez_I h 71 6 = ez_I h 71 6 from zW_f F x73_5 x73_6)]; exact hN) hn6 (by omega) (by rw [(show ez_I h 71 59 = ez_I h 71 59 from zW_f F x73_5 x73_7)]; exact hp) hnn (by omega) (fun h76 F77 k78 k79 => ?_)
          have F80 := zW_tr (zW_mono F x73_8 x73_9 x73_2) (zW_mono F77 x73_3 x73_4 x73_2)
          exact K _ F80 k78 k79
        · have c75 : ¬ (x73.toInt ≤ x74.toInt) := c75
          refine gw_ld rfl rfl ?_
          refine z_C (m := 6) rfl rfl (fun x81 ex81 => ?_)
          refine z_cl rfl rfl rfl rfl rfl rfl rfl rfl rfl rfl rfl (zT S (by decide) rfl) ?_
          refine d_wrong (n := x81) S (fun h82 F83 k84 k85 => ?_)
          have kw86 := k85 (by omega)
          clear k84 k85
          have S87 := zW_sh F83 S
          have F88 := zW_tr F (zW_mono F83 (x73_10) (x73_11) (x73_2))
          have r89 := z_rng (ez_I h82 71 61)
          suffices tl : pw E (d + 2) 58 234 [some (.ref 71), some (.int nl), some (.int nd), some (.int mn), some (.int k), some (.int sy), some (.int rs), some (.int x70), l8, l9] [] h82 Q from ez_Wp_at tl rfl
          refine h_F234 (n := n) S87 (by rw [(show ez_I h82 71 6 = ez_I h 71 6 from zW_f F88 x73_5 x73_6)]; exact hN) hn6 (by omega) (by rw [(show ez_I h82 71 59 = ez_I h 71 59 from zW_f F88 x73_5 x73_7)]; exact hp) hnn (by omega) (fun h90 F91 k92 k93 => ?_)
          have F94 := zW_tr (zW_mono F88 x73_8 x73_9 x73_2) (zW_mono F91 x73_3 x73_4 x73_2)
          exact K _ F94 k92 k93
      · have c72 : ¬ (sy.toInt ≠ x71.toInt) := c72
        exfalso; omega
  · have c3 : ¬ (x2.toInt ≤ sy.toInt) := c3
    refine gw_ld rfl rfl ?_
    refine z_gR (q := 123) (zT S (by decide) rfl) (zRf S (by decide) (by decide) rfl) (by decide) ?_
    refine gw_ld rfl rfl ?_
    refine gw_ld rfl rfl ?_
    refine z_is (n := 330) (zT S (by decide) rfl) (zN S (by decide) rfl) (by omega) (fun h95 e96 => ?_)
    have S97 := zSh_set S e96
    have F98 := zW_setA F e96 (by decide)
    have f99 : ez_I h95 71 61 = (ez_I h 71 61) := (zI_ne e96 (by omega)).trans (rfl)
    refine z_inc rfl (by rw [show (1 : Int32).toInt = 1 from rfl]; omega) (fun x100 ex100 => ?_)
    rw [show (1 : Int32).toInt = 1 from rfl] at ex100
    show ez_gw _ _ _ _ _ _ _ _ [some (.ref 71), some (.int nl), some (.int nd), some (.int mn), some (.int x100), some (.int sy), some (.int rs), l7, l8, l9] _ _ _
    refine z_go ?_
    have t101 := congrArg Int32.toInt (f99)
    refine h_F127 (n := n) S97 (by rw [(show ez_I h95 71 6 = ez_I h 71 6 from zW_f F98 x73_5 x73_6)]; exact hN) hn6 (by omega) (by rw [(show ez_I h95 71 59 = ez_I h 71 59 from zW_f F98 x73_5 x73_7)]; exact hp) hnn (fun h102 F103 k104 k105 => ?_)
    have F106 := zW_tr (zW_mono F98 x73_8 x73_9 x73_2) (zW_mono F103 x73_3 x73_4 x73_2)
    exact K _ F106 k104 k105
theorem x73_12 : ¬ (71 = 71 ∧ 6 = 59 ∨ 71 = 71 ∧ 6 = 61) := by omega
set_option maxRecDepth 4000 in
set_option maxHeartbeats 2000000 in
theorem h_F154 {E : Nat → Nat × (Nat → Int32)} {d : Nat} {Q : ez_Q} {h : ez_H} {nl : Int32} {nd : Int32} {mn : Int32} {k : Int32} {sy : Int32} {l6 : Option Value} {l7 : Option Value} {l8 : Option Value} {l9 : Option Value} (S : zSh h) {n : Nat} (hN : (ez_I h 71 6).toInt = (n : Nat)) (hn6 : n ≤ 6000) (hf : 1 ≤ (ez_I h 71 61).toInt) (hp : 0 ≤ (ez_I h 71 59).toInt ∧ (ez_I h 71 59).toInt ≤ 8 * (n : Int)) (hnn : 0 ≤ nl.toInt ∧ nl.toInt ≤ 400 ∧ 0 ≤ nd.toInt ∧ nd.toInt ≤ 400) (hk : 0 ≤ k.toInt ∧ k.toInt ≤ 320) (hs : sy.toInt = 0) (K : ∀ h2, zW (fun q k => q = 71 ∧ k = 59 ∨ q = 71 ∧ k = 61) (fun q => q = 115 ∨ q = 120 ∨ q = 121 ∨ q = 122 ∨ q = 123) (fun _ => False) h h2 → 1 ≤ (ez_I h2 71 61).toInt → (0 ≤ (ez_I h2 71 59).toInt ∧ (ez_I h2 71 59).toInt ≤ 8 * (n : Int)) → Q (.inl none) h2) : pw E (d + 2) 58 154 [some (.ref 71), some (.int nl), some (.int nd), some (.int mn), some (.int k), some (.int sy), l6, l7, l8, l9] [] h Q := by
  have gnl := z_rng nl
  have gnd := z_rng nd
  have gmn := z_rng mn
  have gk := z_rng k
  have gsy := z_rng sy
  have F := zW_refl (fun q k => q = 71 ∧ k = 59 ∨ q = 71 ∧ k = 61) (fun _ => False) (fun _ => False) h
  apply ez_Wp_in
  show ez_gw _ _ _ _ _ _ (cz_58) _ _ _ _ _
  refine gw_skip _ ?_
  have r1 := z_rng (ez_I h 71 59)
  have r2 := z_rng (ez_I h 71 61)
  refine gw_ld rfl rfl ?_
  refine gw_ld rfl rfl ?_
  refine z_cl rfl rfl rfl rfl rfl rfl rfl rfl rfl rfl rfl (trivial) ?_
  refine d_rest (y := sy) S (by omega) (fun x3 k4 => ?_)
  have rx3 := z_rng x3
  rw [show sy.toInt.toNat = 0 by omega, show rEf 0 = 0 from rfl] at k4
  refine z_cl rfl rfl rfl rfl rfl rfl rfl rfl rfl rfl rfl (zT S (by decide) rfl) ?_
  refine d_tbF (v := x3) (n := n) (N := 0) S (by rw [(show ez_I h 71 6 = ez_I h 71 6 from zW_f F (fun c => c) x73_12)]; exact hN) hn6 (by omega) (by omega) (by omega) (by omega) (fun h5 x6 F7 k8 k9 k10 k11 => ?_)
  have rx6 := z_rng x6
  have S12 := zW_sh F7 S
  have F13 := zW_tr F (zW_mono F7 (x73_3) (x73_2) (x73_2))
  have r14 := z_rng (ez_I h5 71 59)
  have r15 := z_rng (ez_I h5 71 61)
  refine gw_st rfl rfl rfl ?_
  show ez_gw _ _ _ _ _ _ _ _ [some (.ref 71), some (.int nl), some (.int nd), some (.int mn), some (.int k), some (.int sy), some (.int x6), l7, l8, l9] _ _ _
  suffices tl : pw E (d + 2) 58 165 [some (.ref 71), some (.int nl), some (.int nd), some (.int mn), some (.int k), some (.int sy), some (.int x6), l7, l8, l9] [] h5 Q from ez_Wp_at tl rfl
  refine h_F165 (n := n) S12 (by rw [(show ez_I h5 71 6 = ez_I h 71 6 from zW_f F13 (fun c => c) x73_12)]; exact hN) hn6 (by omega) (by omega) hnn (by omega) (by have q0 : (2 ^ 0 : Nat) = 1 := rfl; omega) (fun h16 F17 k18 k19 => ?_)
  have F20 := zW_tr (zW_mono F13 x73_3 x73_1 x73_2) (zW_mono F17 x73_3 x73_4 x73_2)
  exact K _ F20 k18 k19
theorem x73_13 : ∀ k : Nat, ¬ (122 = 71 ∧ k = 61) := fun k c => by omega
set_option maxRecDepth 4000 in
set_option maxHeartbeats 2000000 in
theorem h_F71 {E : Nat → Nat × (Nat → Int32)} {d : Nat} {Q : ez_Q} {h : ez_H} {nl : Int32} {nd : Int32} {mn : Int32} {k : Int32} {l5 : Option Value} {l6 : Option Value} {l7 : Option Value} {l8 : Option Value} {l9 : Option Value} (S : zSh h) {n : Nat} (hN : (ez_I h 71 6).toInt = (n : Nat)) (hn6 : n ≤ 6000) (hf : 1 ≤ (ez_I h 71 61).toInt) (hp : 0 ≤ (ez_I h 71 59).toInt ∧ (ez_I h 71 59).toInt ≤ 8 * (n : Int)) (hnn : 0 ≤ nl.toInt ∧ nl.toInt ≤ 400 ∧ 0 ≤ nd.toInt ∧ nd.toInt ≤ 400) (ar : aR (ez_I h 122) 19 0 15) (K : ∀ h2, zW (fun q k => q = 71 ∧ k = 59 ∨ q = 71 ∧ k = 61) (fun q => q = 115 ∨ q = 120 ∨ q = 121 ∨ q = 122 ∨ q = 123) (fun _ => False) h h2 → 1 ≤ (ez_I h2 71 61).toInt → (0 ≤ (ez_I h2 71 59).toInt ∧ (ez_I h2 71 59).toInt ≤ 8 * (n : Int)) → Q (.inl none) h2) : pw E (d + 2) 58 71 [some (.ref 71), some (.int nl), some (.int nd), some (.int mn), some (.int k), l5, l6, l7, l8, l9] [] h Q := by
  have gnl := z_rng nl
  have gnd := z_rng nd
  have gmn := z_rng mn
  have gk := z_rng k
  have F := zW_refl (fun q k => q = 71 ∧ k = 61) (fun _ => False) (fun _ => False) h
  apply ez_Wp_in
  show ez_gw _ _ _ _ _ _ (cz_58) _ _ _ _ _
  refine gw_skip _ ?_
  have r1 := z_rng (ez_I h 71 61)
  refine gw_ld rfl rfl ?_
  refine gw_ld rfl rfl ?_
  refine z_b2 (fun c2 => ?_) (fun c2 => ?_)
  · have c2 : mn.toInt ≤ k.toInt := c2
    refine gw_skip _ ?_
    refine gw_ld rfl rfl ?_
    refine z_gR (q := 122) (zT S (by decide) rfl) (zRf S (by decide) (by decide) rfl) (by decide) ?_
    refine z_C (m := 19) rfl rfl (fun x3 ex3 => ?_)
    refine z_cl rfl rfl rfl rfl rfl rfl rfl rfl rfl rfl rfl (trivial) ?_
    refine d_whole (u := 122) (n := x3) S (nu := 19) (fun _ S => ⟨zT S (by decide) rfl, zN S (by decide) rfl⟩) (by omega) (by rw [show x3.toInt.toNat = 19 by omega, (show ez_I h 122 = ez_I h 122 from zW_fn F 122 (fun c => c) x73_13)]; exact ar) (fun x4 k5 => ?_)
    have rx4 := z_rng x4
    clear k5
    refine z_b1 (fun c6 => ?_) (fun c6 => ?_)
    · have c6 : x4.toInt ≠ 0 := c6
      refine gw_skip _ ?_
      refine z_C (m := 0) rfl rfl (fun x7 ex7 => ?_)
      refine gw_st rfl rfl rfl ?_
      show ez_gw _ _ _ _ _ _ _ _ [some (.ref 71), some (.int nl), some (.int nd), some (.int mn), some (.int x7), l5, l6, l7, l8, l9] _ _ _
      suffices tl : pw E (d + 2) 58 127 [some (.ref 71), some (.int nl), some (.int nd), some (.int mn), some (.int x7), l5, l6, l7, l8, l9] [] h Q from ez_Wp_at tl rfl
      refine h_F127 (n := n) S (by rw [(show ez_I h 71 6 = ez_I h 71 6 from zW_f F (fun c => c) x73_6)]; exact hN) hn6 (by omega) (by rw [(show ez_I h 71 59 = ez_I h 71 59 from zW_f F (fun c => c) x73_7)]; exact hp) hnn (fun h8 F9 k10 k11 => ?_)
      have F12 := zW_tr (zW_mono F x73_8 x73_1 x73_2) (zW_mono F9 x73_3 x73_4 x73_2)
      exact K _ F12 k10 k11
    · have c6 : ¬ (x4.toInt ≠ 0) := c6
      refine gw_ld rfl rfl ?_
      refine z_C (m := 5) rfl rfl (fun x13 ex13 => ?_)
      refine z_cl rfl rfl rfl rfl rfl rfl rfl rfl rfl rfl rfl (zT S (by decide) rfl) ?_
      refine d_wrong (n := x13) S (fun h14 F15 k16 k17 => ?_)
      have kw18 := k17 (by omega)
      clear k16 k17
      have S19 := zW_sh F15 S
      have F20 := zW_tr F (zW_mono F15 (x73_10) (x73_2) (x73_2))
      have r21 := z_rng (ez_I h14 71 61)
      refine z_C (m := 0) rfl rfl (fun x22 ex22 => ?_)
      refine gw_st rfl rfl rfl ?_
      show ez_gw _ _ _ _ _ _ _ _ [some (.ref 71), some (.int nl), some (.int nd), some (.int mn), some (.int x22), l5, l6, l7, l8, l9] _ _ _
      suffices tl : pw E (d + 2) 58 127 [some (.ref 71), some (.int nl), some (.int nd), some (.int mn), some (.int x22), l5, l6, l7, l8, l9] [] h14 Q from ez_Wp_at tl rfl
      refine h_F127 (n := n) S19 (by rw [(show ez_I h14 71 6 = ez_I h 71 6 from zW_f F20 (fun c => c) x73_6)]; exact hN) hn6 (by omega) (by rw [(show ez_I h14 71 59 = ez_I h 71 59 from zW_f F20 (fun c => c) x73_7)]; exact hp) hnn (fun h23 F24 k25 k26 => ?_)
      have F27 := zW_tr (zW_mono F20 x73_8 x73_1 x73_2) (zW_mono F24 x73_3 x73_4 x73_2)
      exact K _ F27 k25 k26
  · have c2 : ¬ (mn.toInt ≤ k.toInt) := c2
    refine gw_ld rfl rfl ?_
    refine z_gI2 (by decide) (zT S (by decide) rfl) (rfl) ?_
    refine z_b1 (fun c28 => ?_) (fun c28 => ?_)
    · have c28 : ((ez_I h 71 61)).toInt ≠ 0 := c28
      refine gw_skip _ ?_
      refine gw_ld rfl rfl ?_
      refine z_gR (q := 122) (zT S (by decide) rfl) (zRf S (by decide) (by decide) rfl) (by decide) ?_
      refine z_C (m := 19) rfl rfl (fun x29 ex29 => ?_)
      refine z_cl rfl rfl rfl rfl rfl rfl rfl rfl rfl rfl rfl (trivial) ?_
      refine d_whole (u := 122) (n := x29) S (nu := 19) (fun _ S => ⟨zT S (by decide) rfl, zN S (by decide) rfl⟩) (by omega) (by rw [show x29.toInt.toNat = 19 by omega, (show ez_I h 122 = ez_I h 122 from zW_fn F 122 (fun c => c) x73_13)]; exact ar) (fun x30 k31 => ?_)
      have rx30 := z_rng x30
      clear k31
      refine z_b1 (fun c32 => ?_) (fun c32 => ?_)
      · have c32 : x30.toInt ≠ 0 := c32
        refine gw_skip _ ?_
        refine z_C (m := 0) rfl rfl (fun x33 ex33 => ?_)
        refine gw_st rfl rfl rfl ?_
        show ez_gw _ _ _ _ _ _ _ _ [some (.ref 71), some (.int nl), some (.int nd), some (.int mn), some (.int x33), l5, l6, l7, l8, l9] _ _ _
        suffices tl : pw E (d + 2) 58 127 [some (.ref 71), some (.int nl), some (.int nd), some (.int mn), some (.int x33), l5, l6, l7, l8, l9] [] h Q from ez_Wp_at tl rfl
        refine h_F127 (n := n) S (by rw [(show ez_I h 71 6 = ez_I h 71 6 from zW_f F (fun c => c) x73_6)]; exact hN) hn6 (by omega) (by rw [(show ez_I h 71 59 = ez_I h 71 59 from zW_f F (fun c => c) x73_7)]; exact hp) hnn (fun h34 F35 k36 k37 => ?_)
        have F38 := zW_tr (zW_mono F x73_8 x73_1 x73_2) (zW_mono F35 x73_3 x73_4 x73_2)
        exact K _ F38 k36 k37
      · have c32 : ¬ (x30.toInt ≠ 0) := c32
        refine gw_ld rfl rfl ?_
        refine z_C (m := 5) rfl rfl (fun x39 ex39 => ?_)
        refine z_cl rfl rfl rfl rfl rfl rfl rfl rfl rfl rfl rfl (zT S (by decide) rfl) ?_
        refine d_wrong (n := x39) S (fun h40 F41 k42 k43 => ?_)
        have kw44 := k43 (by omega)
        clear k42 k43
        have S45 := zW_sh F41 S
        have F46 := zW_tr F (zW_mono F41 (x73_10) (x73_2) (x73_2))
        have r47 := z_rng (ez_I h40 71 61)
        refine z_C (m := 0) rfl rfl (fun x48 ex48 => ?_)
        refine gw_st rfl rfl rfl ?_
        show ez_gw _ _ _ _ _ _ _ _ [some (.ref 71), some (.int nl), some (.int nd), some (.int mn), some (.int x48), l5, l6, l7, l8, l9] _ _ _
        suffices tl : pw E (d + 2) 58 127 [some (.ref 71), some (.int nl), some (.int nd), some (.int mn), some (.int x48), l5, l6, l7, l8, l9] [] h40 Q from ez_Wp_at tl rfl
        refine h_F127 (n := n) S45 (by rw [(show ez_I h40 71 6 = ez_I h 71 6 from zW_f F46 (fun c => c) x73_6)]; exact hN) hn6 (by omega) (by rw [(show ez_I h40 71 59 = ez_I h 71 59 from zW_f F46 (fun c => c) x73_7)]; exact hp) hnn (fun h49 F50 k51 k52 => ?_)
        have F53 := zW_tr (zW_mono F46 x73_8 x73_1 x73_2) (zW_mono F50 x73_3 x73_4 x73_2)
        exact K _ F53 k51 k52
    · have c28 : ¬ (((ez_I h 71 61)).toInt ≠ 0) := c28
      exfalso; omega
theorem x73_14 : ¬ (71 = 122) := by omega
theorem x73_15 : ∀ q : Nat, (q = 122) → (q = 115 ∨ q = 120 ∨ q = 121 ∨ q = 122 ∨ q = 123) := fun q hk => (.inr (.inr (.inr (.inl hk))))
set_option maxRecDepth 4000 in
set_option maxHeartbeats 2000000 in
theorem h_F44_L0 {E : Nat → Nat × (Nat → Int32)} {d : Nat} {Q : ez_Q} {h : ez_H} {nl : Int32} {nd : Int32} {mn : Int32} {l4 : Option Value} {l5 : Option Value} {l6 : Option Value} {l7 : Option Value} {l8 : Option Value} {l9 : Option Value} (S : zSh h) {n : Nat} (hN : (ez_I h 71 6).toInt = (n : Nat)) (hn6 : n ≤ 6000) (hf : 1 ≤ (ez_I h 71 61).toInt) (hp : 0 ≤ (ez_I h 71 59).toInt ∧ (ez_I h 71 59).toInt ≤ 8 * (n : Int)) (hnn : 0 ≤ nl.toInt ∧ nl.toInt ≤ 400 ∧ 0 ≤ nd.toInt ∧ nd.toInt ≤ 400) (K : ∀ h2, zW (fun q k => q = 71 ∧ k = 59 ∨ q = 71 ∧ k = 61) (fun q => q = 115 ∨ q = 120 ∨ q = 121 ∨ q = 122 ∨ q = 123) (fun _ => False) h h2 → 1 ≤ (ez_I h2 71 61).toInt → (0 ≤ (ez_I h2 71 59).toInt ∧ (ez_I h2 71 59).toInt ≤ 8 * (n : Int)) → Q (.inl none) h2) : ∀ N : Nat, (∀ (h2 : ez_H) (k : Int32) , zW (fun _ _ => False) (fun q => q = 122) (fun _ => False) h h2 → (0 ≤ k.toInt ∧ k.toInt ≤ 19) → (zrP (ez_I h2 122) k.toInt.toNat) → (100 - k.toInt) < (N : Int) → pw E (d + 2) 58 47 [some (.ref 71), some (.int nl), some (.int nd), some (.int mn), some (.int k), l5, l6, l7, l8, l9] [] h2 Q) := by
  intro N
  induction N with
  | zero => exact fun h2 k  F hinv A_z0 hm => absurd hm (by have w_k := z_rng k; have gnl := z_rng nl; have gnd := z_rng nd; have gmn := z_rng mn; omega)
  | succ N ih =>
    refine fun h2 k  F hinv A_z0 hm => ?_
    · skip
      have w_k := z_rng k
      have gnl := z_rng nl
      have gnd := z_rng nd
      have gmn := z_rng mn
      have S2 := zW_sh F S
      apply ez_Wp_in
      show ez_gw _ _ _ _ _ _ (cz_58) _ _ _ _ _
      refine gw_skip _ ?_
      refine gw_ld rfl rfl ?_
      refine z_C (m := 19) rfl rfl (fun x1 ex1 => ?_)
      refine z_b2 (fun c2 => ?_) (fun c2 => ?_)
      · have c2 : x1.toInt ≤ k.toInt := c2
        refine gw_skip _ ?_
        refine z_C (m := 0) rfl rfl (fun x3 ex3 => ?_)
        refine gw_st rfl rfl rfl ?_
        show ez_gw _ _ _ _ _ _ _ _ [some (.ref 71), some (.int nl), some (.int nd), some (.int mn), some (.int x3), l5, l6, l7, l8, l9] _ _ _
        suffices tl : pw E (d + 2) 58 71 [some (.ref 71), some (.int nl), some (.int nd), some (.int mn), some (.int x3), l5, l6, l7, l8, l9] [] h2 Q from ez_Wp_at tl rfl
        refine h_F71 (n := n) S2 (by rw [(show ez_I h2 71 6 = ez_I h 71 6 from zW_f F x73_14 (fun c => c))]; exact hN) hn6 (by rw [(show ez_I h2 71 61 = ez_I h 71 61 from zW_f F x73_14 (fun c => c))]; exact hf) (by rw [(show ez_I h2 71 59 = ez_I h 71 59 from zW_f F x73_14 (fun c => c))]; exact hp) hnn (fun q hq => by have b1 := A_z0 q (by omega); omega) (fun h4 F5 k6 k7 => ?_)
        have F8 := zW_tr (zW_mono F x73_0 x73_15 x73_2) (zW_mono F5 x73_3 x73_4 x73_2)
        exact K _ F8 k6 k7
      · have c2 : ¬ (x1.toInt ≤ k.toInt) := c2
        refine gw_ld rfl rfl ?_
        refine z_gR (q := 122) (zT S2 (by decide) rfl) (zRf S2 (by decide) (by decide) rfl) (by decide) ?_
        refine gw_ld rfl rfl ?_
        refine z_C (m := 0) rfl rfl (fun x9 ex9 => ?_)
        refine z_is (n := 19) (zT S2 (by decide) rfl) (zN S2 (by decide) rfl) (by omega) (fun h10 e11 => ?_)
        have S12 := zSh_set S2 e11
        have F13 := zW_setA F e11 (by decide)
        have A14 : zrP (ez_I h10 122) (k.toInt.toNat + 1) := z0_s A_z0 e11 (by omega) (by omega) rfl
        refine z_inc rfl (by rw [show (1 : Int32).toInt = 1 from rfl]; omega) (fun x15 ex15 => ?_)
        rw [show (1 : Int32).toInt = 1 from rfl] at ex15
        show ez_gw _ _ _ _ _ _ _ _ [some (.ref 71), some (.int nl), some (.int nd), some (.int mn), some (.int x15), l5, l6, l7, l8, l9] _ _ _
        refine z_go ?_
        exact ih h10 x15 F13 (by omega) ((by rw [show x15.toInt.toNat = k.toInt.toNat + 1 by omega]; exact A14)) (by omega)
set_option maxRecDepth 4000 in
set_option maxHeartbeats 2000000 in
theorem h_F44 {E : Nat → Nat × (Nat → Int32)} {d : Nat} {Q : ez_Q} {h : ez_H} {nl : Int32} {nd : Int32} {mn : Int32} {l4 : Option Value} {l5 : Option Value} {l6 : Option Value} {l7 : Option Value} {l8 : Option Value} {l9 : Option Value} (S : zSh h) {n : Nat} (hN : (ez_I h 71 6).toInt = (n : Nat)) (hn6 : n ≤ 6000) (hf : 1 ≤ (ez_I h 71 61).toInt) (hp : 0 ≤ (ez_I h 71 59).toInt ∧ (ez_I h 71 59).toInt ≤ 8 * (n : Int)) (hnn : 0 ≤ nl.toInt ∧ nl.toInt ≤ 400 ∧ 0 ≤ nd.toInt ∧ nd.toInt ≤ 400) (K : ∀ h2, zW (fun q k => q = 71 ∧ k = 59 ∨ q = 71 ∧ k = 61) (fun q => q = 115 ∨ q = 120 ∨ q = 121 ∨ q = 122 ∨ q = 123) (fun _ => False) h h2 → 1 ≤ (ez_I h2 71 61).toInt → (0 ≤ (ez_I h2 71 59).toInt ∧ (ez_I h2 71 59).toInt ≤ 8 * (n : Int)) → Q (.inl none) h2) : pw E (d + 2) 58 44 [some (.ref 71), some (.int nl), some (.int nd), some (.int mn), l4, l5, l6, l7, l8, l9] [] h Q := by
  have gnl := z_rng nl
  have gnd := z_rng nd
  have gmn := z_rng mn
  have F := zW_refl (fun _ _ => False) (fun q => q = 122) (fun _ => False) h
  apply ez_Wp_in
  show ez_gw _ _ _ _ _ _ (cz_58) _ _ _ _ _
  refine gw_skip _ ?_
  refine z_C (m := 0) rfl rfl (fun x1 ex1 => ?_)
  refine gw_st rfl rfl rfl ?_
  show ez_gw _ _ _ _ _ _ _ _ [some (.ref 71), some (.int nl), some (.int nd), some (.int mn), some (.int x1), l5, l6, l7, l8, l9] _ _ _
  exact ez_Wp_at ((h_F44_L0 (nl := nl) (nd := nd) (mn := mn) (l4 := l4) (l5 := l5) (l6 := l6) (l7 := l7) (l8 := l8) (l9 := l9) S hN hn6 hf hp hnn K (((100 - x1.toInt)).toNat + 1)) h x1 F (by omega) ((fun q hq => by omega)) (by omega)) rfl
set_option maxRecDepth 4000 in
set_option maxHeartbeats 2000000 in
theorem h_F26 {E : Nat → Nat × (Nat → Int32)} {d : Nat} {Q : ez_Q} {h : ez_H} {nl : Int32} {nd : Int32} {mn : Int32} {l4 : Option Value} {l5 : Option Value} {l6 : Option Value} {l7 : Option Value} {l8 : Option Value} {l9 : Option Value} (S : zSh h) {n : Nat} (hN : (ez_I h 71 6).toInt = (n : Nat)) (hn6 : n ≤ 6000) (hf : 1 ≤ (ez_I h 71 61).toInt) (hp : 0 ≤ (ez_I h 71 59).toInt ∧ (ez_I h 71 59).toInt ≤ 8 * (n : Int)) (hnn : 0 ≤ nl.toInt ∧ nl.toInt ≤ 400 ∧ 0 ≤ nd.toInt ∧ nd.toInt ≤ 400) (K : ∀ h2, zW (fun q k => q = 71 ∧ k = 59 ∨ q = 71 ∧ k = 61) (fun q => q = 115 ∨ q = 120 ∨ q = 121 ∨ q = 122 ∨ q = 123) (fun _ => False) h h2 → 1 ≤ (ez_I h2 71 61).toInt → (0 ≤ (ez_I h2 71 59).toInt ∧ (ez_I h2 71 59).toInt ≤ 8 * (n : Int)) → Q (.inl none) h2) : pw E (d + 2) 58 26 [some (.ref 71), some (.int nl), some (.int nd), some (.int mn), l4, l5, l6, l7, l8, l9] [] h Q := by
  have gnl := z_rng nl
  have gnd := z_rng nd
  have gmn := z_rng mn
  have F := zW_refl (fun q k => q = 71 ∧ k = 61) (fun _ => False) (fun _ => False) h
  apply ez_Wp_in
  show ez_gw _ _ _ _ _ _ (cz_58) _ _ _ _ _
  refine gw_skip _ ?_
  have r1 := z_rng (ez_I h 71 61)
  refine gw_ld rfl rfl ?_
  refine z_C (m := 286) rfl rfl (fun x2 ex2 => ?_)
  refine z_b2 (fun c3 => ?_) (fun c3 => ?_)
  · have c3 : x2.toInt < nl.toInt := c3
    refine gw_skip _ ?_
    refine gw_ld rfl rfl ?_
    refine z_C (m := 4) rfl rfl (fun x4 ex4 => ?_)
    refine z_cl rfl rfl rfl rfl rfl rfl rfl rfl rfl rfl rfl (zT S (by decide) rfl) ?_
    refine d_wrong (n := x4) S (fun h5 F6 k7 k8 => ?_)
    have kw9 := k8 (by omega)
    clear k7 k8
    have S10 := zW_sh F6 S
    have F11 := zW_tr F (zW_mono F6 (x73_10) (x73_2) (x73_2))
    have r12 := z_rng (ez_I h5 71 61)
    suffices tl : pw E (d + 2) 58 44 [some (.ref 71), some (.int nl), some (.int nd), some (.int mn), l4, l5, l6, l7, l8, l9] [] h5 Q from ez_Wp_at tl rfl
    refine h_F44 (n := n) S10 (by rw [(show ez_I h5 71 6 = ez_I h 71 6 from zW_f F11 (fun c => c) x73_6)]; exact hN) hn6 (by omega) (by rw [(show ez_I h5 71 59 = ez_I h 71 59 from zW_f F11 (fun c => c) x73_7)]; exact hp) hnn (fun h13 F14 k15 k16 => ?_)
    have F17 := zW_tr (zW_mono F11 x73_8 x73_1 x73_2) (zW_mono F14 x73_3 x73_4 x73_2)
    exact K _ F17 k15 k16
  · have c3 : ¬ (x2.toInt < nl.toInt) := c3
    refine gw_ld rfl rfl ?_
    refine z_C (m := 30) rfl rfl (fun x18 ex18 => ?_)
    refine z_b2 (fun c19 => ?_) (fun c19 => ?_)
    · have c19 : nd.toInt ≤ x18.toInt := c19
      suffices tl : pw E (d + 2) 58 44 [some (.ref 71), some (.int nl), some (.int nd), some (.int mn), l4, l5, l6, l7, l8, l9] [] h Q from gw_skip _ (ez_Wp_at tl rfl)
      refine h_F44 (n := n) S (by rw [(show ez_I h 71 6 = ez_I h 71 6 from zW_f F (fun c => c) x73_6)]; exact hN) hn6 (by omega) (by rw [(show ez_I h 71 59 = ez_I h 71 59 from zW_f F (fun c => c) x73_7)]; exact hp) hnn (fun h20 F21 k22 k23 => ?_)
      have F24 := zW_tr (zW_mono F x73_8 x73_1 x73_2) (zW_mono F21 x73_3 x73_4 x73_2)
      exact K _ F24 k22 k23
    · have c19 : ¬ (nd.toInt ≤ x18.toInt) := c19
      refine gw_ld rfl rfl ?_
      refine z_C (m := 4) rfl rfl (fun x25 ex25 => ?_)
      refine z_cl rfl rfl rfl rfl rfl rfl rfl rfl rfl rfl rfl (zT S (by decide) rfl) ?_
      refine d_wrong (n := x25) S (fun h26 F27 k28 k29 => ?_)
      have kw30 := k29 (by omega)
      clear k28 k29
      have S31 := zW_sh F27 S
      have F32 := zW_tr F (zW_mono F27 (x73_10) (x73_2) (x73_2))
      have r33 := z_rng (ez_I h26 71 61)
      suffices tl : pw E (d + 2) 58 44 [some (.ref 71), some (.int nl), some (.int nd), some (.int mn), l4, l5, l6, l7, l8, l9] [] h26 Q from ez_Wp_at tl rfl
      refine h_F44 (n := n) S31 (by rw [(show ez_I h26 71 6 = ez_I h 71 6 from zW_f F32 (fun c => c) x73_6)]; exact hN) hn6 (by omega) (by rw [(show ez_I h26 71 59 = ez_I h 71 59 from zW_f F32 (fun c => c) x73_7)]; exact hp) hnn (fun h34 F35 k36 k37 => ?_)
      have F38 := zW_tr (zW_mono F32 x73_8 x73_1 x73_2) (zW_mono F35 x73_3 x73_4 x73_2)
      exact K _ F38 k36 k37
set_option maxRecDepth 4000 in
set_option maxHeartbeats 2000000 in
theorem h_F18 {E : Nat → Nat × (Nat → Int32)} {d : Nat} {Q : ez_Q} {h : ez_H} {nl : Int32} {nd : Int32} {l3 : Option Value} {l4 : Option Value} {l5 : Option Value} {l6 : Option Value} {l7 : Option Value} {l8 : Option Value} {l9 : Option Value} (S : zSh h) {n : Nat} (hN : (ez_I h 71 6).toInt = (n : Nat)) (hn6 : n ≤ 6000) (hf : 1 ≤ (ez_I h 71 61).toInt) (hp : 0 ≤ (ez_I h 71 59).toInt ∧ (ez_I h 71 59).toInt ≤ 8 * (n : Int)) (hnn : 0 ≤ nl.toInt ∧ nl.toInt ≤ 400 ∧ 0 ≤ nd.toInt ∧ nd.toInt ≤ 400) (K : ∀ h2, zW (fun q k => q = 71 ∧ k = 59 ∨ q = 71 ∧ k = 61) (fun q => q = 115 ∨ q = 120 ∨ q = 121 ∨ q = 122 ∨ q = 123) (fun _ => False) h h2 → 1 ≤ (ez_I h2 71 61).toInt → (0 ≤ (ez_I h2 71 59).toInt ∧ (ez_I h2 71 59).toInt ≤ 8 * (n : Int)) → Q (.inl none) h2) : pw E (d + 2) 58 18 [some (.ref 71), some (.int nl), some (.int nd), l3, l4, l5, l6, l7, l8, l9] [] h Q := by
  have gnl := z_rng nl
  have gnd := z_rng nd
  have F := zW_refl (fun q k => q = 71 ∧ k = 59 ∨ q = 71 ∧ k = 61) (fun _ => False) (fun _ => False) h
  apply ez_Wp_in
  show ez_gw _ _ _ _ _ _ (cz_58) _ _ _ _ _
  refine gw_skip _ ?_
  have r1 := z_rng (ez_I h 71 59)
  have r2 := z_rng (ez_I h 71 61)
  refine gw_ld rfl rfl ?_
  refine z_C (m := 4) rfl rfl (fun x3 ex3 => ?_)
  refine z_cl rfl rfl rfl rfl rfl rfl rfl rfl rfl rfl rfl (zT S (by decide) rfl) ?_
  refine d_tbF (v := x3) (n := n) (N := 4) S (by rw [(show ez_I h 71 6 = ez_I h 71 6 from zW_f F (fun c => c) x73_12)]; exact hN) hn6 (by omega) (by omega) (by omega) (by omega) (fun h4 x5 F6 k7 k8 k9 k10 => ?_)
  have rx5 := z_rng x5
  have S11 := zW_sh F6 S
  have F12 := zW_tr F (zW_mono F6 (x73_3) (x73_2) (x73_2))
  have r13 := z_rng (ez_I h4 71 59)
  have r14 := z_rng (ez_I h4 71 61)
  refine z_C (m := 4) rfl rfl (fun x15 ex15 => ?_)
  refine z_add (by omega) (fun x16 ex16 => ?_)
  refine gw_st rfl rfl rfl ?_
  show ez_gw _ _ _ _ _ _ _ _ [some (.ref 71), some (.int nl), some (.int nd), some (.int x16), l4, l5, l6, l7, l8, l9] _ _ _
  suffices tl : pw E (d + 2) 58 26 [some (.ref 71), some (.int nl), some (.int nd), some (.int x16), l4, l5, l6, l7, l8, l9] [] h4 Q from ez_Wp_at tl rfl
  refine h_F26 (n := n) S11 (by rw [(show ez_I h4 71 6 = ez_I h 71 6 from zW_f F12 (fun c => c) x73_12)]; exact hN) hn6 (by omega) (by omega) hnn (fun h17 F18 k19 k20 => ?_)
  have F21 := zW_tr (zW_mono F12 x73_3 x73_1 x73_2) (zW_mono F18 x73_3 x73_4 x73_2)
  exact K _ F21 k19 k20
set_option maxRecDepth 4000 in
set_option maxHeartbeats 2000000 in
theorem h_F10 {E : Nat → Nat × (Nat → Int32)} {d : Nat} {Q : ez_Q} {h : ez_H} {nl : Int32} {l2 : Option Value} {l3 : Option Value} {l4 : Option Value} {l5 : Option Value} {l6 : Option Value} {l7 : Option Value} {l8 : Option Value} {l9 : Option Value} (S : zSh h) {n : Nat} (hN : (ez_I h 71 6).toInt = (n : Nat)) (hn6 : n ≤ 6000) (hf : 1 ≤ (ez_I h 71 61).toInt) (hp : 0 ≤ (ez_I h 71 59).toInt ∧ (ez_I h 71 59).toInt ≤ 8 * (n : Int)) (hnn : 0 ≤ nl.toInt ∧ nl.toInt ≤ 400) (K : ∀ h2, zW (fun q k => q = 71 ∧ k = 59 ∨ q = 71 ∧ k = 61) (fun q => q = 115 ∨ q = 120 ∨ q = 121 ∨ q = 122 ∨ q = 123) (fun _ => False) h h2 → 1 ≤ (ez_I h2 71 61).toInt → (0 ≤ (ez_I h2 71 59).toInt ∧ (ez_I h2 71 59).toInt ≤ 8 * (n : Int)) → Q (.inl none) h2) : pw E (d + 2) 58 10 [some (.ref 71), some (.int nl), l2, l3, l4, l5, l6, l7, l8, l9] [] h Q := by
  have gnl := z_rng nl
  have F := zW_refl (fun q k => q = 71 ∧ k = 59 ∨ q = 71 ∧ k = 61) (fun _ => False) (fun _ => False) h
  apply ez_Wp_in
  show ez_gw _ _ _ _ _ _ (cz_58) _ _ _ _ _
  refine gw_skip _ ?_
  have r1 := z_rng (ez_I h 71 59)
  have r2 := z_rng (ez_I h 71 61)
  refine gw_ld rfl rfl ?_
  refine z_C (m := 5) rfl rfl (fun x3 ex3 => ?_)
  refine z_cl rfl rfl rfl rfl rfl rfl rfl rfl rfl rfl rfl (zT S (by decide) rfl) ?_
  refine d_tbF (v := x3) (n := n) (N := 5) S (by rw [(show ez_I h 71 6 = ez_I h 71 6 from zW_f F (fun c => c) x73_12)]; exact hN) hn6 (by omega) (by omega) (by omega) (by omega) (fun h4 x5 F6 k7 k8 k9 k10 => ?_)
  have rx5 := z_rng x5
  have S11 := zW_sh F6 S
  have F12 := zW_tr F (zW_mono F6 (x73_3) (x73_2) (x73_2))
  have r13 := z_rng (ez_I h4 71 59)
  have r14 := z_rng (ez_I h4 71 61)
  refine z_C (m := 1) rfl rfl (fun x15 ex15 => ?_)
  refine z_add (by omega) (fun x16 ex16 => ?_)
  refine gw_st rfl rfl rfl ?_
  show ez_gw _ _ _ _ _ _ _ _ [some (.ref 71), some (.int nl), some (.int x16), l3, l4, l5, l6, l7, l8, l9] _ _ _
  suffices tl : pw E (d + 2) 58 18 [some (.ref 71), some (.int nl), some (.int x16), l3, l4, l5, l6, l7, l8, l9] [] h4 Q from ez_Wp_at tl rfl
  refine h_F18 (n := n) S11 (by rw [(show ez_I h4 71 6 = ez_I h 71 6 from zW_f F12 (fun c => c) x73_12)]; exact hN) hn6 (by omega) (by omega) (by omega) (fun h17 F18 k19 k20 => ?_)
  have F21 := zW_tr (zW_mono F12 x73_3 x73_1 x73_2) (zW_mono F18 x73_3 x73_4 x73_2)
  exact K _ F21 k19 k20
end
