/-! PRINTED by wip/pack: the model writes a block: costs -/
theorem x71_233 : ∀ q k : Nat, (False) → (q = 71 ∧ k = 15 ∨ q = 71 ∧ k = 16) := fun q k hk => hk.elim
theorem x71_234 : ∀ q : Nat, (False) → (q = 75 ∨ 83 ≤ q ∧ q ≤ 91 ∨ 103 ≤ q ∧ q ≤ 109 ∨ q = 115 ∨ q = 116) := fun q hk => hk.elim
theorem x71_235 : ∀ q : Nat, (False) → (False) := fun q hk => hk.elim
theorem x71_236 : ∀ q k : Nat, (q = 71 ∧ k = 15 ∨ q = 71 ∧ k = 16) → (q = 71 ∧ k = 15 ∨ q = 71 ∧ k = 16) := fun q k hk => hk.elim (fun g => (.inl g)) (fun hk => (.inr hk))
theorem x71_237 : ∀ q : Nat, (q = 75 ∨ 83 ≤ q ∧ q ≤ 91 ∨ 103 ≤ q ∧ q ≤ 109 ∨ q = 115 ∨ q = 116) → (q = 75 ∨ 83 ≤ q ∧ q ≤ 91 ∨ 103 ≤ q ∧ q ≤ 109 ∨ q = 115 ∨ q = 116) := fun q hk => hk.elim (fun g => (.inl g)) (fun hk => hk.elim (fun g => (.inr (.inl g))) (fun hk => hk.elim (fun g => (.inr (.inr (.inl g)))) (fun hk => hk.elim (fun g => (.inr (.inr (.inr (.inl g))))) (fun hk => (.inr (.inr (.inr (.inr hk))))))))
set_option maxRecDepth 4000 in
set_option maxHeartbeats 2000000 in
theorem w_C1_L1 {E : Nat → Nat × (Nat → Int32)} {d : Nat} {Q : ez_Q} {h : ez_H} {fr : Int32} {to : Int32} {pl : Int32} {my : Int32} {ls : Int32} {nn6 : Int32} {dy : Int64} {l9 : Option Value} {l10 : Option Value} {l11 : Option Value} {l12 : Option Value} {l13 : Option Value} {l14 : Option Value} {l15 : Option Value} {l16 : Option Value} (S : zSh h) {T : Nat → Int} {n c a J : Nat} {l bn : Nat} {s0 : Nat × Nat} (hC : mbC (ez_I h 72) (ez_I h 77) (ez_I h 78) (ez_I h 79) (ez_I h 80) (ez_I h 92) (ez_I h 93) (ez_I h 94) (ez_I h 95) (ez_I h 96) T n c) (hA : mbA fr to pl my T n c a J) (hF : mbF (ez_I h 100) (ez_I h 101) (ez_I h 102) (ez_I h 117) (ez_I h 118) T n a J) (hT : mbT (ez_I h 71 56) (ez_I h 71 57) (ez_I h 71 58) T n a J) (hdy : dy.toInt = ((sN (fun i => (bkC T n a J) i * ((bkL T n a J) i + exL i)) 286 + sN (fun i => (bkD T n a J) i * (LNf (bkD T n a J) 30 15 i + DEf i)) 30) : Nat)) (tc : ctI (ez_I h 99) (tC (rowF (bkL T n a J) (bkE T n a J)) (rowM (bkL T n a J) (bkE T n a J)) (bkR T n a J)) 19) (c7 : ctI (ez_I h 97) (bkC T n a J) 286) (c8 : ctI (ez_I h 98) (bkD T n a J) 30) (hls : ls.toInt = (l : Nat) ∧ l ≤ 1) (hs : mS (ez_I h 75) s0) (hb : (ez_I h 71 16).toInt = (s0.2 : Nat)) (hg : aR (ez_I h 75) 8000 (-128) 127) (hbn : (ez_I h 71 15).toInt = (bn : Nat) ∧ bn ≤ 9) (hr : s0.2 + 50 + 8 * (bkY T n a J) ≤ 48800) (K : ∀ h2, zW (fun q k => q = 71 ∧ k = 15 ∨ q = 71 ∧ k = 16) (fun q => q = 75 ∨ 83 ≤ q ∧ q ≤ 91 ∨ 103 ≤ q ∧ q ≤ 109 ∨ q = 115 ∨ q = 116) (fun _ => False) h h2 → (bkS T n a J l s0).2 ≤ s0.2 + 42 + 8 * (bkY T n a J) → mst (ez_I h2 75) (ez_I h2 71 16).toInt (bkS T n a J l s0) → aR (ez_I h2 75) 8000 (-128) 127 → (ez_I h2 71 15).toInt = (bn : Int) + 1 → mbk (ez_I h2 83) (ez_I h2 84) (ez_I h2 85) (ez_I h2 86) (ez_I h2 87) (ez_I h2 88) (ez_I h2 89) (ez_I h2 90) (ez_I h2 91) (ez_I h 83) (ez_I h 84) (ez_I h 85) (ez_I h 86) (ez_I h 87) (ez_I h 88) (ez_I h 89) (ez_I h 90) (ez_I h 91) T n a J s0.2 bn → Q (.inl none) h2) : ∀ N : Nat, (∀ (h2 : ez_H) (dz : Int64) (od : Int32) (k : Int32) , zW (fun _ _ => False) (fun _ => False) (fun _ => False) h h2 → (0 ≤ k.toInt ∧ k.toInt ≤ 19 ∧ od.toInt = ((bkO T n a J) : Nat) ∧ dz.toInt = (((sN (fun i => (bkC T n a J) i * ((bkL T n a J) i + exL i)) 286 + sN (fun i => (bkD T n a J) i * (LNf (bkD T n a J) 30 15 i + DEf i)) 30) + 17 + 3 * (bkO T n a J) + (sN (fun s => (tC (rowF (bkL T n a J) (bkE T n a J)) (rowM (bkL T n a J) (bkE T n a J)) (bkR T n a J)) s * ((bkA T n a J) s + rEf s)) k.toInt.toNat) : Nat) : Int)) → (1000 - k.toInt) < (N : Int) → pw E (d + 2) 44 333 [some (.ref 71), some (.int fr), some (.int to), some (.int pl), some (.int my), some (.int ls), some (.int nn6), some (.long dz), none, some (.int od), some (.int k), l11, l12, l13, l14, l15, l16] [] h2 Q) := by
  intro N
  induction N with
  | zero => exact fun h2 dz od k  F hinv  hm => absurd hm (by have w_od := z_rng od; have w_k := z_rng k; have gfr := z_rng fr; have gto := z_rng to; have gpl := z_rng pl; have gmy := z_rng my; have gls := z_rng ls; have gnn6 := z_rng nn6; omega)
  | succ N ih =>
    refine fun h2 dz od k  F hinv  hm => ?_
    · skip
      have w_od := z_rng od
      have w_k := z_rng k
      have gfr := z_rng fr
      have gto := z_rng to
      have gpl := z_rng pl
      have gmy := z_rng my
      have gls := z_rng ls
      have gnn6 := z_rng nn6
      have S2 := zW_sh F S
      obtain ⟨hk0, hk19, hod, hdy⟩ := hinv
      have hq6 := sN_mono (f := fun s => (tC (rowF (bkL T n a J) (bkE T n a J)) (rowM (bkL T n a J) (bkE T n a J)) (bkR T n a J)) s * ((bkA T n a J) s + rEf s)) (n := k.toInt.toNat) 19 (by omega)
      have hdi := dy_is (T := T) (n := n) (c := c) (a := a) (j := J) hC.2.2.1 hC.2.2.2.2.2.1 hA.2.2.1
      obtain ⟨bg1, bg2, bg3, bg4, bg5, bg6⟩ := mbF_big hF hC.2.2.1 hC.2.2.2.2.2.1 hA.2.2.1 hA.2.2.2.1
      apply ez_Wp_in
      show ez_gw _ _ _ _ _ _ (cz_44) _ _ _ _ _
      refine gw_skip _ ?_
      refine gw_ld rfl rfl ?_
      refine z_C (m := 19) rfl rfl (fun x1 ex1 => ?_)
      refine z_b2 (fun c2 => ?_) (fun c2 => ?_)
      · have c2 : x1.toInt ≤ k.toInt := c2
        suffices tl : pw E (d + 2) 44 374 [some (.ref 71), some (.int fr), some (.int to), some (.int pl), some (.int my), some (.int ls), some (.int nn6), some (.long dz), none, some (.int od), some (.int k), l11, l12, l13, l14, l15, l16] [] h2 Q from gw_skip _ (ez_Wp_at tl rfl)
        refine w_C2 (T := T) (n := n) (c := c) (a := a) (J := J) (l := l) (bn := bn) (s0 := s0) (fr := fr) (to := to) (pl := pl) (my := my) (ls := ls) (l6 := some (.int nn6)) (dy := dz) (od := od) (l10 := some (.int k)) (l11 := l11) (l12 := l12) (l13 := l13) (l14 := l14) (l15 := l15) (l16 := l16) S2 (by rw [(show ez_I h2 72 = ez_I h 72 from zW_fn F 72 (fun c => c) (fun _ c => c)), (show ez_I h2 77 = ez_I h 77 from zW_fn F 77 (fun c => c) (fun _ c => c)), (show ez_I h2 78 = ez_I h 78 from zW_fn F 78 (fun c => c) (fun _ c => c)), (show ez_I h2 79 = ez_I h 79 from zW_fn F 79 (fun c => c) (fun _ c => c)), (show ez_I h2 80 = ez_I h 80 from zW_fn F 80 (fun c => c) (fun _ c => c)), (show ez_I h2 92 = ez_I h 92 from zW_fn F 92 (fun c => c) (fun _ c => c)), (show ez_I h2 93 = ez_I h 93 from zW_fn F 93 (fun c => c) (fun _ c => c)), (show ez_I h2 94 = ez_I h 94 from zW_fn F 94 (fun c => c) (fun _ c => c)), (show ez_I h2 95 = ez_I h 95 from zW_fn F 95 (fun c => c) (fun _ c => c)), (show ez_I h2 96 = ez_I h 96 from zW_fn F 96 (fun c => c) (fun _ c => c))]; exact hC) hA (by rw [(show ez_I h2 100 = ez_I h 100 from zW_fn F 100 (fun c => c) (fun _ c => c)), (show ez_I h2 101 = ez_I h 101 from zW_fn F 101 (fun c => c) (fun _ c => c)), (show ez_I h2 102 = ez_I h 102 from zW_fn F 102 (fun c => c) (fun _ c => c)), (show ez_I h2 117 = ez_I h 117 from zW_fn F 117 (fun c => c) (fun _ c => c)), (show ez_I h2 118 = ez_I h 118 from zW_fn F 118 (fun c => c) (fun _ c => c))]; exact hF) (by rw [(show ez_I h2 71 56 = ez_I h 71 56 from zW_f F (fun c => c) (fun c => c)), (show ez_I h2 71 57 = ez_I h 71 57 from zW_f F (fun c => c) (fun c => c)), (show ez_I h2 71 58 = ez_I h 71 58 from zW_f F (fun c => c) (fun c => c))]; exact hT) (by omega) (by rw [hdi]; rw [show k.toInt.toNat = 19 by omega] at hdy; omega) (by rw [(show ez_I h2 97 = ez_I h 97 from zW_fn F 97 (fun c => c) (fun _ c => c))]; exact c7) (by rw [(show ez_I h2 98 = ez_I h 98 from zW_fn F 98 (fun c => c) (fun _ c => c))]; exact c8) hls (by rw [(show ez_I h2 75 = ez_I h 75 from zW_fn F 75 (fun c => c) (fun _ c => c))]; exact hs) (by rw [(show ez_I h2 71 16 = ez_I h 71 16 from zW_f F (fun c => c) (fun c => c))]; exact hb) (by rw [(show ez_I h2 75 = ez_I h 75 from zW_fn F 75 (fun c => c) (fun _ c => c))]; exact hg) (by rw [(show ez_I h2 71 15 = ez_I h 71 15 from zW_f F (fun c => c) (fun c => c))]; exact hbn) hr (fun h3 F4 k5 k6 k7 k8 k9 => ?_)
        have F10 := zW_tr (zW_mono F x71_233 x71_234 x71_235) (zW_mono F4 x71_236 x71_237 x71_235)
        exact K _ F10 k5 k6 k7 k8 (by have b1 := k9; rw [(show ez_I h2 83 = ez_I h 83 from zW_fn F 83 (fun c => c) (fun _ c => c)), (show ez_I h2 84 = ez_I h 84 from zW_fn F 84 (fun c => c) (fun _ c => c)), (show ez_I h2 85 = ez_I h 85 from zW_fn F 85 (fun c => c) (fun _ c => c)), (show ez_I h2 86 = ez_I h 86 from zW_fn F 86 (fun c => c) (fun _ c => c)), (show ez_I h2 87 = ez_I h 87 from zW_fn F 87 (fun c => c) (fun _ c => c)), (show ez_I h2 88 = ez_I h 88 from zW_fn F 88 (fun c => c) (fun _ c => c)), (show ez_I h2 89 = ez_I h 89 from zW_fn F 89 (fun c => c) (fun _ c => c)), (show ez_I h2 90 = ez_I h 90 from zW_fn F 90 (fun c => c) (fun _ c => c)), (show ez_I h2 91 = ez_I h 91 from zW_fn F 91 (fun c => c) (fun _ c => c))] at b1; exact b1)
      · have c2 : ¬ (x1.toInt ≤ k.toInt) := c2
        refine gw_ld rfl rfl ?_
        refine gw_ld rfl rfl ?_
        refine z_gR (q := 99) (zT S2 (by decide) rfl) (zRf S2 (by decide) (by decide) rfl) (by decide) ?_
        refine gw_ld rfl rfl ?_
        refine z_iaV (n := 19) (zT S2 (by decide) rfl) (zN S2 (by decide) rfl) (by omega) (zW_f F (fun c => c) (fun c => c)) ?_
        generalize ex11 : ez_I h 99 k.toInt.toNat = x11
        have rx11 := z_rng x11
        have yx11 := tc k.toInt.toNat (by omega)
        rw [ex11, show k.toInt.toNat = k.toInt.toNat by omega] at yx11
        have ytc := Nat.le_trans (tC_le (rowF (bkL T n a J) (bkE T n a J)) (rowM (bkL T n a J) (bkE T n a J)) (bkR T n a J) k.toInt.toNat) hF.2.2.2.2.2
        refine z_i2l (fun lg12 elg12 => ?_)
        refine gw_ld rfl rfl ?_
        refine z_gR (q := 102) (zT S2 (by decide) rfl) (zRf S2 (by decide) (by decide) rfl) (by decide) ?_
        refine gw_ld rfl rfl ?_
        refine z_iaV (n := 19) (zT S2 (by decide) rfl) (zN S2 (by decide) rfl) (by omega) (zW_f F (fun c => c) (fun c => c)) ?_
        generalize ex13 : ez_I h 102 k.toInt.toNat = x13
        have rx13 := z_rng x13
        have yx13 := lb_rd hF.2.2.1 (k := k.toInt.toNat) (by omega) ex13
        rw [show k.toInt.toNat = k.toInt.toNat by omega] at yx13
        refine gw_ld rfl rfl ?_
        refine z_cl rfl rfl rfl rfl rfl rfl rfl rfl rfl rfl rfl (trivial) ?_
        refine d_rest (y := k) S2 (by omega) (fun x14 k15 => ?_)
        have rx14 := z_rng x14
        have hr7 := rEf_7 k.toInt.toNat
        refine z_add (by omega) (fun x16 ex16 => ?_)
        refine z_i2l (fun lg17 elg17 => ?_)
        refine z_lmul (B := 4424) (by omega) (by omega) (fun p19 ep19 np19 mp19 lg18 elg18 => ?_) (fun p hp => by rw [hp]; exact (mulB (a := 316) (b := 14) (c := 4424) (by omega) (by omega) (by decide)).2)
        have hpv : p19 = (((tC (rowF (bkL T n a J) (bkE T n a J)) (rowM (bkL T n a J) (bkE T n a J)) (bkR T n a J)) k.toInt.toNat * ((bkA T n a J) k.toInt.toNat + rEf k.toInt.toNat) : Nat) : Int) := by rw [ep19, Int.natCast_mul, show lg12.toInt = (((tC (rowF (bkL T n a J) (bkE T n a J)) (rowM (bkL T n a J) (bkE T n a J)) (bkR T n a J)) k.toInt.toNat : Nat) : Int) by omega, show lg17.toInt = (((bkA T n a J) k.toInt.toNat + rEf k.toInt.toNat : Nat) : Int) by omega]
        have hse : (sN (fun s => (tC (rowF (bkL T n a J) (bkE T n a J)) (rowM (bkL T n a J) (bkE T n a J)) (bkR T n a J)) s * ((bkA T n a J) s + rEf s)) (k.toInt.toNat + 1)) = (sN (fun s => (tC (rowF (bkL T n a J) (bkE T n a J)) (rowM (bkL T n a J) (bkE T n a J)) (bkR T n a J)) s * ((bkA T n a J) s + rEf s)) k.toInt.toNat) + (tC (rowF (bkL T n a J) (bkE T n a J)) (rowM (bkL T n a J) (bkE T n a J)) (bkR T n a J)) k.toInt.toNat * ((bkA T n a J) k.toInt.toNat + rEf k.toInt.toNat) := rfl
        refine z_ladd (by omega) (fun lg20 elg20 => ?_)
        refine gw_st rfl rfl rfl ?_
        show ez_gw _ _ _ _ _ _ _ _ [some (.ref 71), some (.int fr), some (.int to), some (.int pl), some (.int my), some (.int ls), some (.int nn6), some (.long lg20), none, some (.int od), some (.int k), l11, l12, l13, l14, l15, l16] _ _ _
        refine z_inc rfl (by rw [show (1 : Int32).toInt = 1 from rfl]; omega) (fun x21 ex21 => ?_)
        rw [show (1 : Int32).toInt = 1 from rfl] at ex21
        show ez_gw _ _ _ _ _ _ _ _ [some (.ref 71), some (.int fr), some (.int to), some (.int pl), some (.int my), some (.int ls), some (.int nn6), some (.long lg20), none, some (.int od), some (.int x21), l11, l12, l13, l14, l15, l16] _ _ _
        refine z_go ?_
        exact ih h2 lg20 od x21 F (⟨by omega, by omega, by omega, by rw [show x21.toInt.toNat = k.toInt.toNat + 1 by omega, hse]; omega⟩)  (by omega)
set_option maxRecDepth 4000 in
set_option maxHeartbeats 2000000 in
theorem w_C1_L0 {E : Nat → Nat × (Nat → Int32)} {d : Nat} {Q : ez_Q} {h : ez_H} {fr : Int32} {to : Int32} {pl : Int32} {my : Int32} {ls : Int32} {nn6 : Int32} {dy : Int64} {l9 : Option Value} {l10 : Option Value} {l11 : Option Value} {l12 : Option Value} {l13 : Option Value} {l14 : Option Value} {l15 : Option Value} {l16 : Option Value} (S : zSh h) {T : Nat → Int} {n c a J : Nat} {l bn : Nat} {s0 : Nat × Nat} (hC : mbC (ez_I h 72) (ez_I h 77) (ez_I h 78) (ez_I h 79) (ez_I h 80) (ez_I h 92) (ez_I h 93) (ez_I h 94) (ez_I h 95) (ez_I h 96) T n c) (hA : mbA fr to pl my T n c a J) (hF : mbF (ez_I h 100) (ez_I h 101) (ez_I h 102) (ez_I h 117) (ez_I h 118) T n a J) (hT : mbT (ez_I h 71 56) (ez_I h 71 57) (ez_I h 71 58) T n a J) (hdy : dy.toInt = ((sN (fun i => (bkC T n a J) i * ((bkL T n a J) i + exL i)) 286 + sN (fun i => (bkD T n a J) i * (LNf (bkD T n a J) 30 15 i + DEf i)) 30) : Nat)) (tc : ctI (ez_I h 99) (tC (rowF (bkL T n a J) (bkE T n a J)) (rowM (bkL T n a J) (bkE T n a J)) (bkR T n a J)) 19) (c7 : ctI (ez_I h 97) (bkC T n a J) 286) (c8 : ctI (ez_I h 98) (bkD T n a J) 30) (hls : ls.toInt = (l : Nat) ∧ l ≤ 1) (hs : mS (ez_I h 75) s0) (hb : (ez_I h 71 16).toInt = (s0.2 : Nat)) (hg : aR (ez_I h 75) 8000 (-128) 127) (hbn : (ez_I h 71 15).toInt = (bn : Nat) ∧ bn ≤ 9) (hr : s0.2 + 50 + 8 * (bkY T n a J) ≤ 48800) (K : ∀ h2, zW (fun q k => q = 71 ∧ k = 15 ∨ q = 71 ∧ k = 16) (fun q => q = 75 ∨ 83 ≤ q ∧ q ≤ 91 ∨ 103 ≤ q ∧ q ≤ 109 ∨ q = 115 ∨ q = 116) (fun _ => False) h h2 → (bkS T n a J l s0).2 ≤ s0.2 + 42 + 8 * (bkY T n a J) → mst (ez_I h2 75) (ez_I h2 71 16).toInt (bkS T n a J l s0) → aR (ez_I h2 75) 8000 (-128) 127 → (ez_I h2 71 15).toInt = (bn : Int) + 1 → mbk (ez_I h2 83) (ez_I h2 84) (ez_I h2 85) (ez_I h2 86) (ez_I h2 87) (ez_I h2 88) (ez_I h2 89) (ez_I h2 90) (ez_I h2 91) (ez_I h 83) (ez_I h 84) (ez_I h 85) (ez_I h 86) (ez_I h 87) (ez_I h 88) (ez_I h 89) (ez_I h 90) (ez_I h 91) T n a J s0.2 bn → Q (.inl none) h2) : ∀ N : Nat, (∀ (h2 : ez_H) (dz : Int64) (od : Int32) (k : Int32) , zW (fun _ _ => False) (fun _ => False) (fun _ => False) h h2 → (4 ≤ k.toInt ∧ k.toInt ≤ 19 ∧ dz.toInt = ((sN (fun i => (bkC T n a J) i * ((bkL T n a J) i + exL i)) 286 + sN (fun i => (bkD T n a J) i * (LNf (bkD T n a J) 30 15 i + DEf i)) 30) : Nat) ∧ od.toInt = ((tdM (fun q => (bkA T n a J) (ORf q)) 4 (k.toInt.toNat - 4)) : Nat)) → (1000 - k.toInt) < (N : Int) → pw E (d + 2) 44 275 [some (.ref 71), some (.int fr), some (.int to), some (.int pl), some (.int my), some (.int ls), some (.int nn6), some (.long dz), none, some (.int od), some (.int k), l11, l12, l13, l14, l15, l16] [] h2 Q) := by
  intro N
  induction N with
  | zero => exact fun h2 dz od k  F hinv  hm => absurd hm (by have w_od := z_rng od; have w_k := z_rng k; have gfr := z_rng fr; have gto := z_rng to; have gpl := z_rng pl; have gmy := z_rng my; have gls := z_rng ls; have gnn6 := z_rng nn6; omega)
  | succ N ih =>
    refine fun h2 dz od k  F hinv  hm => ?_
    · skip
      have w_od := z_rng od
      have w_k := z_rng k
      have gfr := z_rng fr
      have gto := z_rng to
      have gpl := z_rng pl
      have gmy := z_rng my
      have gls := z_rng ls
      have gnn6 := z_rng nn6
      have S2 := zW_sh F S
      obtain ⟨hk4, hk19, hdz, hod⟩ := hinv
      have htr := tdM_rng (fun q => (bkA T n a J) (ORf q)) 4 (k.toInt.toNat - 4)
      have t96 := hC.2.2.2.2.2.2.2.2.2.2.2
      obtain ⟨bg1, bg2, bg3, bg4, bg5, bg6⟩ := mbF_big hF hC.2.2.1 hC.2.2.2.2.2.1 hA.2.2.1 hA.2.2.2.1
      apply ez_Wp_in
      show ez_gw _ _ _ _ _ _ (cz_44) _ _ _ _ _
      refine gw_skip _ ?_
      refine gw_ld rfl rfl ?_
      refine z_C (m := 19) rfl rfl (fun x1 ex1 => ?_)
      refine z_b2 (fun c2 => ?_) (fun c2 => ?_)
      · have c2 : x1.toInt ≤ k.toInt := c2
        refine gw_skip _ ?_
        have hodB : od.toInt = ((bkO T n a J) : Nat) := by rw [show (bkO T n a J) = tdM (fun q => (bkA T n a J) (ORf q)) 4 15 from rfl, show (15 : Nat) = k.toInt.toNat - 4 by omega]; exact hod
        refine gw_ld rfl rfl ?_
        refine z_lC (m := 17) rfl rfl (fun lg3 elg3 => ?_)
        refine z_lC (m := 3) rfl rfl (fun lg4 elg4 => ?_)
        refine gw_ld rfl rfl ?_
        refine z_i2l (fun lg5 elg5 => ?_)
        refine z_lmul (B := 300) (by omega) (by omega) (fun p7 ep7 np7 mp7 lg6 elg6 => ?_) (fun p hp => by rw [hp]; exact (mulB (a := 3) (b := 100) (c := 300) (by omega) (by omega) (by decide)).2)
        have hp3 : p7 = 3 * od.toInt := by rw [ep7, show lg4.toInt = 3 by omega, show lg5.toInt = od.toInt by omega]
        refine z_ladd (by omega) (fun lg8 elg8 => ?_)
        refine z_ladd (by omega) (fun lg9 elg9 => ?_)
        refine gw_st rfl rfl rfl ?_
        show ez_gw _ _ _ _ _ _ _ _ [some (.ref 71), some (.int fr), some (.int to), some (.int pl), some (.int my), some (.int ls), some (.int nn6), some (.long lg9), none, some (.int od), some (.int k), l11, l12, l13, l14, l15, l16] _ _ _
        refine z_C (m := 0) rfl rfl (fun x10 ex10 => ?_)
        refine gw_st rfl rfl rfl ?_
        show ez_gw _ _ _ _ _ _ _ _ [some (.ref 71), some (.int fr), some (.int to), some (.int pl), some (.int my), some (.int ls), some (.int nn6), some (.long lg9), none, some (.int od), some (.int x10), l11, l12, l13, l14, l15, l16] _ _ _
        exact ez_Wp_at ((w_C1_L1 (fr := fr) (to := to) (pl := pl) (my := my) (ls := ls) (nn6 := nn6) (dy := dy) (l9 := l9) (l10 := l10) (l11 := l11) (l12 := l12) (l13 := l13) (l14 := l14) (l15 := l15) (l16 := l16) S hC hA hF hT hdy tc c7 c8 hls hs hb hg hbn hr K (((1000 - x10.toInt)).toNat + 1)) h2 lg9 od x10 F (⟨by omega, by omega, hodB, by rw [show x10.toInt.toNat = 0 by omega]; show _ = (((sN (fun i => (bkC T n a J) i * ((bkL T n a J) i + exL i)) 286 + sN (fun i => (bkD T n a J) i * (LNf (bkD T n a J) 30 15 i + DEf i)) 30) + 17 + 3 * (bkO T n a J) + 0 : Nat) : Int); omega⟩)  (by omega)) rfl
      · have c2 : ¬ (x1.toInt ≤ k.toInt) := c2
        refine gw_ld rfl rfl ?_
        refine z_gR (q := 102) (zT S2 (by decide) rfl) (zRf S2 (by decide) (by decide) rfl) (by decide) ?_
        refine gw_ld rfl rfl ?_
        refine z_gR (q := 96) (zT S2 (by decide) rfl) (zRf S2 (by decide) (by decide) rfl) (by decide) ?_
        refine gw_ld rfl rfl ?_
        refine z_iaV (n := 19) (zT S2 (by decide) rfl) (zN S2 (by decide) rfl) (by omega) (zW_f F (fun c => c) (fun c => c)) ?_
        generalize ex11 : ez_I h 96 k.toInt.toNat = x11
        have rx11 := z_rng x11
        have yx11 := t96 k.toInt.toNat (by omega)
        rw [ex11, show k.toInt.toNat = k.toInt.toNat by omega] at yx11
        have uo := OR_18 k.toInt.toNat (by omega)
        refine z_iaV (n := 19) (zT S2 (by decide) rfl) (zN S2 (by decide) rfl) (by omega) (zW_f F (fun c => c) (fun c => c)) ?_
        generalize ex12 : ez_I h 102 x11.toInt.toNat = x12
        have rx12 := z_rng x12
        have yx12 := lb_rd hF.2.2.1 (k := x11.toInt.toNat) (by omega) ex12
        rw [show x11.toInt.toNat = ORf k.toInt.toNat by omega] at yx12
        refine z_b1 (fun c13 => ?_) (fun c13 => ?_)
        · have c13 : x12.toInt ≤ 0 := c13
          refine gw_skip _ ?_
          refine gw_ld rfl rfl ?_
          refine gw_st rfl rfl rfl ?_
          show ez_gw _ _ _ _ _ _ _ _ [some (.ref 71), some (.int fr), some (.int to), some (.int pl), some (.int my), some (.int ls), some (.int nn6), some (.long dz), none, some (.int od), some (.int k), l11, l12, l13, l14, l15, l16] _ _ _
          refine z_inc rfl (by rw [show (1 : Int32).toInt = 1 from rfl]; omega) (fun x14 ex14 => ?_)
          rw [show (1 : Int32).toInt = 1 from rfl] at ex14
          show ez_gw _ _ _ _ _ _ _ _ [some (.ref 71), some (.int fr), some (.int to), some (.int pl), some (.int my), some (.int ls), some (.int nn6), some (.long dz), none, some (.int od), some (.int x14), l11, l12, l13, l14, l15, l16] _ _ _
          refine z_go ?_
          exact ih h2 dz od x14 F (⟨by omega, by omega, by omega, by rw [show x14.toInt.toNat - 4 = (k.toInt.toNat - 4) + 1 by omega, tdM_0 (by show (bkA T n a J) (ORf (4 + (k.toInt.toNat - 4))) = 0; rw [show 4 + (k.toInt.toNat - 4) = k.toInt.toNat by omega]; omega)]; omega⟩)  (by omega)
        · have c13 : ¬ (x12.toInt ≤ 0) := c13
          refine gw_ld rfl rfl ?_
          refine z_C (m := 1) rfl rfl (fun x15 ex15 => ?_)
          refine z_add (by omega) (fun x16 ex16 => ?_)
          refine z_go ?_
          refine gw_skip _ ?_
          refine gw_st rfl rfl rfl ?_
          show ez_gw _ _ _ _ _ _ _ _ [some (.ref 71), some (.int fr), some (.int to), some (.int pl), some (.int my), some (.int ls), some (.int nn6), some (.long dz), none, some (.int x16), some (.int k), l11, l12, l13, l14, l15, l16] _ _ _
          refine z_inc rfl (by rw [show (1 : Int32).toInt = 1 from rfl]; omega) (fun x17 ex17 => ?_)
          rw [show (1 : Int32).toInt = 1 from rfl] at ex17
          show ez_gw _ _ _ _ _ _ _ _ [some (.ref 71), some (.int fr), some (.int to), some (.int pl), some (.int my), some (.int ls), some (.int nn6), some (.long dz), none, some (.int x16), some (.int x17), l11, l12, l13, l14, l15, l16] _ _ _
          refine z_go ?_
          exact ih h2 dz x16 x17 F (⟨by omega, by omega, by omega, by rw [show x17.toInt.toNat - 4 = (k.toInt.toNat - 4) + 1 by omega, tdM_1 (by show (bkA T n a J) (ORf (4 + (k.toInt.toNat - 4))) ≠ 0; rw [show 4 + (k.toInt.toNat - 4) = k.toInt.toNat by omega]; omega)]; omega⟩)  (by omega)
set_option maxRecDepth 4000 in
set_option maxHeartbeats 2000000 in
theorem w_C1 {E : Nat → Nat × (Nat → Int32)} {d : Nat} {Q : ez_Q} {h : ez_H} {fr : Int32} {to : Int32} {pl : Int32} {my : Int32} {ls : Int32} {nn6 : Int32} {dy : Int64} {l9 : Option Value} {l10 : Option Value} {l11 : Option Value} {l12 : Option Value} {l13 : Option Value} {l14 : Option Value} {l15 : Option Value} {l16 : Option Value} (S : zSh h) {T : Nat → Int} {n c a J : Nat} {l bn : Nat} {s0 : Nat × Nat} (hC : mbC (ez_I h 72) (ez_I h 77) (ez_I h 78) (ez_I h 79) (ez_I h 80) (ez_I h 92) (ez_I h 93) (ez_I h 94) (ez_I h 95) (ez_I h 96) T n c) (hA : mbA fr to pl my T n c a J) (hF : mbF (ez_I h 100) (ez_I h 101) (ez_I h 102) (ez_I h 117) (ez_I h 118) T n a J) (hT : mbT (ez_I h 71 56) (ez_I h 71 57) (ez_I h 71 58) T n a J) (hdy : dy.toInt = ((sN (fun i => (bkC T n a J) i * ((bkL T n a J) i + exL i)) 286 + sN (fun i => (bkD T n a J) i * (LNf (bkD T n a J) 30 15 i + DEf i)) 30) : Nat)) (tc : ctI (ez_I h 99) (tC (rowF (bkL T n a J) (bkE T n a J)) (rowM (bkL T n a J) (bkE T n a J)) (bkR T n a J)) 19) (c7 : ctI (ez_I h 97) (bkC T n a J) 286) (c8 : ctI (ez_I h 98) (bkD T n a J) 30) (hls : ls.toInt = (l : Nat) ∧ l ≤ 1) (hs : mS (ez_I h 75) s0) (hb : (ez_I h 71 16).toInt = (s0.2 : Nat)) (hg : aR (ez_I h 75) 8000 (-128) 127) (hbn : (ez_I h 71 15).toInt = (bn : Nat) ∧ bn ≤ 9) (hr : s0.2 + 50 + 8 * (bkY T n a J) ≤ 48800) (K : ∀ h2, zW (fun q k => q = 71 ∧ k = 15 ∨ q = 71 ∧ k = 16) (fun q => q = 75 ∨ 83 ≤ q ∧ q ≤ 91 ∨ 103 ≤ q ∧ q ≤ 109 ∨ q = 115 ∨ q = 116) (fun _ => False) h h2 → (bkS T n a J l s0).2 ≤ s0.2 + 42 + 8 * (bkY T n a J) → mst (ez_I h2 75) (ez_I h2 71 16).toInt (bkS T n a J l s0) → aR (ez_I h2 75) 8000 (-128) 127 → (ez_I h2 71 15).toInt = (bn : Int) + 1 → mbk (ez_I h2 83) (ez_I h2 84) (ez_I h2 85) (ez_I h2 86) (ez_I h2 87) (ez_I h2 88) (ez_I h2 89) (ez_I h2 90) (ez_I h2 91) (ez_I h 83) (ez_I h 84) (ez_I h 85) (ez_I h 86) (ez_I h 87) (ez_I h 88) (ez_I h 89) (ez_I h 90) (ez_I h 91) T n a J s0.2 bn → Q (.inl none) h2) : pw E (d + 2) 44 269 [some (.ref 71), some (.int fr), some (.int to), some (.int pl), some (.int my), some (.int ls), some (.int nn6), some (.long dy), none, l9, l10, l11, l12, l13, l14, l15, l16] [] h Q := by
  have gfr := z_rng fr
  have gto := z_rng to
  have gpl := z_rng pl
  have gmy := z_rng my
  have gls := z_rng ls
  have gnn6 := z_rng nn6
  have F := zW_refl (fun _ _ => False) (fun _ => False) (fun _ => False) h
  apply ez_Wp_in
  show ez_gw _ _ _ _ _ _ (cz_44) _ _ _ _ _
  refine gw_skip _ ?_
  refine z_C (m := 4) rfl rfl (fun x1 ex1 => ?_)
  refine gw_st rfl rfl rfl ?_
  show ez_gw _ _ _ _ _ _ _ _ [some (.ref 71), some (.int fr), some (.int to), some (.int pl), some (.int my), some (.int ls), some (.int nn6), some (.long dy), none, some (.int x1), l10, l11, l12, l13, l14, l15, l16] _ _ _
  refine z_C (m := 4) rfl rfl (fun x2 ex2 => ?_)
  refine gw_st rfl rfl rfl ?_
  show ez_gw _ _ _ _ _ _ _ _ [some (.ref 71), some (.int fr), some (.int to), some (.int pl), some (.int my), some (.int ls), some (.int nn6), some (.long dy), none, some (.int x1), some (.int x2), l11, l12, l13, l14, l15, l16] _ _ _
  exact ez_Wp_at ((w_C1_L0 (fr := fr) (to := to) (pl := pl) (my := my) (ls := ls) (nn6 := nn6) (dy := dy) (l9 := l9) (l10 := l10) (l11 := l11) (l12 := l12) (l13 := l13) (l14 := l14) (l15 := l15) (l16 := l16) S hC hA hF hT hdy tc c7 c8 hls hs hb hg hbn hr K (((1000 - x2.toInt)).toNat + 1)) h dy x1 x2 F (⟨by omega, by omega, by omega, by rw [show x2.toInt.toNat - 4 = 0 by omega]; show _ = ((4 : Nat) : Int); omega⟩)  (by omega)) rfl
