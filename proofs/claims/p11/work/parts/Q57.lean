/-! PRINTED by wip/pack: the model writes a block: lengths -/
theorem x71_297 : ¬ (72 = 100 ∨ 72 = 101 ∨ 110 ≤ 72 ∧ 72 ≤ 114) := by omega
theorem x71_298 : ¬ (77 = 100 ∨ 77 = 101 ∨ 110 ≤ 77 ∧ 77 ≤ 114) := by omega
theorem x71_299 : ¬ (78 = 100 ∨ 78 = 101 ∨ 110 ≤ 78 ∧ 78 ≤ 114) := by omega
theorem x71_300 : ¬ (79 = 100 ∨ 79 = 101 ∨ 110 ≤ 79 ∧ 79 ≤ 114) := by omega
theorem x71_301 : ¬ (80 = 100 ∨ 80 = 101 ∨ 110 ≤ 80 ∧ 80 ≤ 114) := by omega
theorem x71_302 : ¬ (92 = 100 ∨ 92 = 101 ∨ 110 ≤ 92 ∧ 92 ≤ 114) := by omega
theorem x71_303 : ¬ (93 = 100 ∨ 93 = 101 ∨ 110 ≤ 93 ∧ 93 ≤ 114) := by omega
theorem x71_304 : ¬ (94 = 100 ∨ 94 = 101 ∨ 110 ≤ 94 ∧ 94 ≤ 114) := by omega
theorem x71_305 : ¬ (95 = 100 ∨ 95 = 101 ∨ 110 ≤ 95 ∧ 95 ≤ 114) := by omega
theorem x71_306 : ¬ (96 = 100 ∨ 96 = 101 ∨ 110 ≤ 96 ∧ 96 ≤ 114) := by omega
theorem x71_307 : ¬ (97 = 100 ∨ 97 = 101 ∨ 110 ≤ 97 ∧ 97 ≤ 114) := by omega
theorem x71_308 : ¬ (98 = 100 ∨ 98 = 101 ∨ 110 ≤ 98 ∧ 98 ≤ 114) := by omega
theorem x71_309 : ¬ (75 = 100 ∨ 75 = 101 ∨ 110 ≤ 75 ∧ 75 ≤ 114) := by omega
theorem x71_310 : ¬ (71 = 100 ∨ 71 = 101 ∨ 110 ≤ 71 ∧ 71 ≤ 114) := by omega
theorem x71_311 : ∀ q k : Nat, (False) → (q = 71 ∧ k = 15 ∨ q = 71 ∧ k = 16 ∨ q = 71 ∧ k = 56 ∨ q = 71 ∧ k = 57 ∨ q = 71 ∧ k = 58) := fun q k hk => hk.elim
theorem x71_312 : ∀ q : Nat, (q = 100 ∨ q = 101 ∨ 110 ≤ q ∧ q ≤ 114) → (q = 75 ∨ 83 ≤ q ∧ q ≤ 91 ∨ 99 ≤ q ∧ q ≤ 119) := fun q hk => hk.elim (fun g => (.inr (.inr (show 99 ≤ q ∧ q ≤ 119 by omega)))) (fun hk => hk.elim (fun g => (.inr (.inr (show 99 ≤ q ∧ q ≤ 119 by omega)))) (fun hk => (.inr (.inr (show 99 ≤ q ∧ q ≤ 119 by omega)))))
theorem x71_313 : ∀ q : Nat, (False) → (False) := fun q hk => hk.elim
theorem x71_314 : ∀ q k : Nat, (q = 71 ∧ k = 15 ∨ q = 71 ∧ k = 16 ∨ q = 71 ∧ k = 56 ∨ q = 71 ∧ k = 57 ∨ q = 71 ∧ k = 58) → (q = 71 ∧ k = 15 ∨ q = 71 ∧ k = 16 ∨ q = 71 ∧ k = 56 ∨ q = 71 ∧ k = 57 ∨ q = 71 ∧ k = 58) := fun q k hk => hk.elim (fun g => (.inl g)) (fun hk => hk.elim (fun g => (.inr (.inl g))) (fun hk => hk.elim (fun g => (.inr (.inr (.inl g)))) (fun hk => hk.elim (fun g => (.inr (.inr (.inr (.inl g))))) (fun hk => (.inr (.inr (.inr (.inr hk))))))))
theorem x71_315 : ∀ q : Nat, (q = 75 ∨ 83 ≤ q ∧ q ≤ 91 ∨ q = 99 ∨ 101 ≤ q ∧ q ≤ 119) → (q = 75 ∨ 83 ≤ q ∧ q ≤ 91 ∨ 99 ≤ q ∧ q ≤ 119) := fun q hk => hk.elim (fun g => (.inl g)) (fun hk => hk.elim (fun g => (.inr (.inl g))) (fun hk => hk.elim (fun g => (.inr (.inr (show 99 ≤ q ∧ q ≤ 119 by omega)))) (fun hk => (.inr (.inr (show 99 ≤ q ∧ q ≤ 119 by omega))))))
theorem x71_316 : ¬ (83 = 100 ∨ 83 = 101 ∨ 110 ≤ 83 ∧ 83 ≤ 114) := by omega
theorem x71_317 : ¬ (84 = 100 ∨ 84 = 101 ∨ 110 ≤ 84 ∧ 84 ≤ 114) := by omega
theorem x71_318 : ¬ (85 = 100 ∨ 85 = 101 ∨ 110 ≤ 85 ∧ 85 ≤ 114) := by omega
theorem x71_319 : ¬ (86 = 100 ∨ 86 = 101 ∨ 110 ≤ 86 ∧ 86 ≤ 114) := by omega
theorem x71_320 : ¬ (87 = 100 ∨ 87 = 101 ∨ 110 ≤ 87 ∧ 87 ≤ 114) := by omega
theorem x71_321 : ¬ (88 = 100 ∨ 88 = 101 ∨ 110 ≤ 88 ∧ 88 ≤ 114) := by omega
theorem x71_322 : ¬ (89 = 100 ∨ 89 = 101 ∨ 110 ≤ 89 ∧ 89 ≤ 114) := by omega
theorem x71_323 : ¬ (90 = 100 ∨ 90 = 101 ∨ 110 ≤ 90 ∧ 90 ≤ 114) := by omega
theorem x71_324 : ¬ (91 = 100 ∨ 91 = 101 ∨ 110 ≤ 91 ∧ 91 ≤ 114) := by omega
set_option maxRecDepth 4000 in
set_option maxHeartbeats 2000000 in
theorem w_B1_L0 {E : Nat → Nat × (Nat → Int32)} {d : Nat} {Q : ez_Q} {h : ez_H} {fr : Int32} {to : Int32} {pl : Int32} {my : Int32} {ls : Int32} {l6 : Option Value} {l7 : Option Value} {l8 : Option Value} {l9 : Option Value} {l10 : Option Value} {l11 : Option Value} {l12 : Option Value} {l13 : Option Value} {l14 : Option Value} {l15 : Option Value} {l16 : Option Value} (S : zSh h) {T : Nat → Int} {n c a J : Nat} {l bn : Nat} {s0 : Nat × Nat} (hC : mbC (ez_I h 72) (ez_I h 77) (ez_I h 78) (ez_I h 79) (ez_I h 80) (ez_I h 92) (ez_I h 93) (ez_I h 94) (ez_I h 95) (ez_I h 96) T n c) (hA : mbA fr to pl my T n c a J) (c7 : ctI (ez_I h 97) (bkC T n a J) 286) (c8 : ctI (ez_I h 98) (bkD T n a J) 30) (hls : ls.toInt = (l : Nat) ∧ l ≤ 1) (hs : mS (ez_I h 75) s0) (hb : (ez_I h 71 16).toInt = (s0.2 : Nat)) (hg : aR (ez_I h 75) 8000 (-128) 127) (hbn : (ez_I h 71 15).toInt = (bn : Nat) ∧ bn ≤ 9) (hr : s0.2 + 50 + 8 * (bkY T n a J) ≤ 48800) (K : ∀ h2, zW (fun q k => q = 71 ∧ k = 15 ∨ q = 71 ∧ k = 16 ∨ q = 71 ∧ k = 56 ∨ q = 71 ∧ k = 57 ∨ q = 71 ∧ k = 58) (fun q => q = 75 ∨ 83 ≤ q ∧ q ≤ 91 ∨ 99 ≤ q ∧ q ≤ 119) (fun _ => False) h h2 → (bkS T n a J l s0).2 ≤ s0.2 + 42 + 8 * (bkY T n a J) → mst (ez_I h2 75) (ez_I h2 71 16).toInt (bkS T n a J l s0) → aR (ez_I h2 75) 8000 (-128) 127 → (ez_I h2 71 15).toInt = (bn : Int) + 1 → mbk (ez_I h2 83) (ez_I h2 84) (ez_I h2 85) (ez_I h2 86) (ez_I h2 87) (ez_I h2 88) (ez_I h2 89) (ez_I h2 90) (ez_I h2 91) (ez_I h 83) (ez_I h 84) (ez_I h 85) (ez_I h 86) (ez_I h 87) (ez_I h 88) (ez_I h 89) (ez_I h 90) (ez_I h 91) T n a J s0.2 bn → Q (.inl none) h2) : ∀ N : Nat, (∀ (h2 : ez_H) (nn : Int32) (k : Int32) , zW (fun _ _ => False) (fun q => q = 100 ∨ q = 101 ∨ 110 ≤ q ∧ q ≤ 114) (fun _ => False) h h2 → (0 ≤ k.toInt ∧ k.toInt ≤ 30 ∧ (nn.toInt = 0 ∨ nn.toInt = 1)) → (lbP (ez_I h2 100) (bkL T n a J) (bkC T n a J) 286 15) → (dbP (ez_I h2 101) (bkD T n a J)) → (noF (ez_I h2 101) nn.toInt k.toInt.toNat) → (1000 - k.toInt) < (N : Int) → pw E (d + 2) 44 188 [some (.ref 71), some (.int fr), some (.int to), some (.int pl), some (.int my), some (.int ls), some (.int nn), some (.int k), l8, l9, l10, l11, l12, l13, l14, l15, l16] [] h2 Q) := by
  intro N
  induction N with
  | zero => exact fun h2 nn k  F hinv A_lb A_db A_nz hm => absurd hm (by have w_nn := z_rng nn; have w_k := z_rng k; have gfr := z_rng fr; have gto := z_rng to; have gpl := z_rng pl; have gmy := z_rng my; have gls := z_rng ls; omega)
  | succ N ih =>
    refine fun h2 nn k  F hinv A_lb A_db A_nz hm => ?_
    · skip
      have w_nn := z_rng nn
      have w_k := z_rng k
      have gfr := z_rng fr
      have gto := z_rng to
      have gpl := z_rng pl
      have gmy := z_rng my
      have gls := z_rng ls
      have S2 := zW_sh F S
      apply ez_Wp_in
      show ez_gw _ _ _ _ _ _ (cz_44) _ _ _ _ _
      refine gw_skip _ ?_
      refine gw_ld rfl rfl ?_
      refine z_C (m := 30) rfl rfl (fun x1 ex1 => ?_)
      refine z_b2 (fun c2 => ?_) (fun c2 => ?_)
      · have c2 : x1.toInt ≤ k.toInt := c2
        have nosm := no_sum (by have b1 := A_nz; rw [show k.toInt.toNat = 30 by omega] at b1; exact b1) A_db.2.2.1 A_db.2.2.2
        suffices tl : pw E (d + 2) 44 223 [some (.ref 71), some (.int fr), some (.int to), some (.int pl), some (.int my), some (.int ls), some (.int nn), some (.int k), l8, l9, l10, l11, l12, l13, l14, l15, l16] [] h2 Q from gw_skip _ (ez_Wp_at tl rfl)
        refine w_B2 (T := T) (n := n) (c := c) (a := a) (J := J) (l := l) (bn := bn) (s0 := s0) (fr := fr) (to := to) (pl := pl) (my := my) (ls := ls) (nn := nn) (l7 := some (.int k)) (l8 := l8) (l9 := l9) (l10 := l10) (l11 := l11) (l12 := l12) (l13 := l13) (l14 := l14) (l15 := l15) (l16 := l16) S2 (by rw [(show ez_I h2 72 = ez_I h 72 from zW_fn F 72 x71_297 (fun _ c => c)), (show ez_I h2 77 = ez_I h 77 from zW_fn F 77 x71_298 (fun _ c => c)), (show ez_I h2 78 = ez_I h 78 from zW_fn F 78 x71_299 (fun _ c => c)), (show ez_I h2 79 = ez_I h 79 from zW_fn F 79 x71_300 (fun _ c => c)), (show ez_I h2 80 = ez_I h 80 from zW_fn F 80 x71_301 (fun _ c => c)), (show ez_I h2 92 = ez_I h 92 from zW_fn F 92 x71_302 (fun _ c => c)), (show ez_I h2 93 = ez_I h 93 from zW_fn F 93 x71_303 (fun _ c => c)), (show ez_I h2 94 = ez_I h 94 from zW_fn F 94 x71_304 (fun _ c => c)), (show ez_I h2 95 = ez_I h 95 from zW_fn F 95 x71_305 (fun _ c => c)), (show ez_I h2 96 = ez_I h 96 from zW_fn F 96 x71_306 (fun _ c => c))]; exact hC) hA (by rw [(show ez_I h2 97 = ez_I h 97 from zW_fn F 97 x71_307 (fun _ c => c))]; exact c7) (by rw [(show ez_I h2 98 = ez_I h 98 from zW_fn F 98 x71_308 (fun _ c => c))]; exact c8) A_lb A_db ⟨fun q => nosm.elim (fun z => z.2) (fun z => by omega), fun q => nosm.elim (fun z => by omega) (fun z => z.2)⟩ (by omega) hls (by rw [(show ez_I h2 75 = ez_I h 75 from zW_fn F 75 x71_309 (fun _ c => c))]; exact hs) (by rw [(show ez_I h2 71 16 = ez_I h 71 16 from zW_f F x71_310 (fun c => c))]; exact hb) (by rw [(show ez_I h2 75 = ez_I h 75 from zW_fn F 75 x71_309 (fun _ c => c))]; exact hg) (by rw [(show ez_I h2 71 15 = ez_I h 71 15 from zW_f F x71_310 (fun c => c))]; exact hbn) hr (fun h3 F4 k5 k6 k7 k8 k9 => ?_)
        have F10 := zW_tr (zW_mono F x71_311 x71_312 x71_313) (zW_mono F4 x71_314 x71_315 x71_313)
        exact K _ F10 k5 k6 k7 k8 (by have b1 := k9; rw [(show ez_I h2 83 = ez_I h 83 from zW_fn F 83 x71_316 (fun _ c => c)), (show ez_I h2 84 = ez_I h 84 from zW_fn F 84 x71_317 (fun _ c => c)), (show ez_I h2 85 = ez_I h 85 from zW_fn F 85 x71_318 (fun _ c => c)), (show ez_I h2 86 = ez_I h 86 from zW_fn F 86 x71_319 (fun _ c => c)), (show ez_I h2 87 = ez_I h 87 from zW_fn F 87 x71_320 (fun _ c => c)), (show ez_I h2 88 = ez_I h 88 from zW_fn F 88 x71_321 (fun _ c => c)), (show ez_I h2 89 = ez_I h 89 from zW_fn F 89 x71_322 (fun _ c => c)), (show ez_I h2 90 = ez_I h 90 from zW_fn F 90 x71_323 (fun _ c => c)), (show ez_I h2 91 = ez_I h 91 from zW_fn F 91 x71_324 (fun _ c => c))] at b1; exact b1)
      · have c2 : ¬ (x1.toInt ≤ k.toInt) := c2
        refine gw_ld rfl rfl ?_
        refine z_b1 (fun c11 => ?_) (fun c11 => ?_)
        · have c11 : nn.toInt = 0 := c11
          refine gw_skip _ ?_
          refine z_C (m := 0) rfl rfl (fun x12 ex12 => ?_)
          refine gw_st rfl rfl rfl ?_
          show ez_gw _ _ _ _ _ _ _ _ [some (.ref 71), some (.int fr), some (.int to), some (.int pl), some (.int my), some (.int ls), some (.int x12), some (.int k), l8, l9, l10, l11, l12, l13, l14, l15, l16] _ _ _
          refine z_inc rfl (by rw [show (1 : Int32).toInt = 1 from rfl]; omega) (fun x13 ex13 => ?_)
          rw [show (1 : Int32).toInt = 1 from rfl] at ex13
          show ez_gw _ _ _ _ _ _ _ _ [some (.ref 71), some (.int fr), some (.int to), some (.int pl), some (.int my), some (.int ls), some (.int x12), some (.int x13), l8, l9, l10, l11, l12, l13, l14, l15, l16] _ _ _
          refine z_go ?_
          exact ih h2 x12 x13 F (by omega) A_lb A_db ((by rw [show x13.toInt.toNat = k.toInt.toNat + 1 by omega]; exact .inr ⟨by omega, nz_some A_nz (by omega) (by omega)⟩)) (by omega)
        · have c11 : ¬ (nn.toInt = 0) := c11
          refine gw_ld rfl rfl ?_
          refine z_gR (q := 101) (zT S2 (by decide) rfl) (zRf S2 (by decide) (by decide) rfl) (by decide) ?_
          refine gw_ld rfl rfl ?_
          refine z_ia (n := 30) (zT S2 (by decide) rfl) (zN S2 (by decide) rfl) (by omega) ?_
          generalize ex14 : ez_I h2 101 k.toInt.toNat = x14
          have rx14 := z_rng x14
          have yx14 := A_db.2.1 k.toInt.toNat (by omega)
          rw [ex14] at yx14
          have yz : nL (ez_I h2 101) k.toInt.toNat = x14.toInt.toNat := by show (ez_I h2 101 k.toInt.toNat).toInt.toNat = _; rw [show k.toInt.toNat = k.toInt.toNat by omega, ex14]
          refine z_b1 (fun c15 => ?_) (fun c15 => ?_)
          · have c15 : x14.toInt ≠ 0 := c15
            refine gw_skip _ ?_
            refine z_C (m := 0) rfl rfl (fun x16 ex16 => ?_)
            refine gw_st rfl rfl rfl ?_
            show ez_gw _ _ _ _ _ _ _ _ [some (.ref 71), some (.int fr), some (.int to), some (.int pl), some (.int my), some (.int ls), some (.int x16), some (.int k), l8, l9, l10, l11, l12, l13, l14, l15, l16] _ _ _
            refine z_inc rfl (by rw [show (1 : Int32).toInt = 1 from rfl]; omega) (fun x17 ex17 => ?_)
            rw [show (1 : Int32).toInt = 1 from rfl] at ex17
            show ez_gw _ _ _ _ _ _ _ _ [some (.ref 71), some (.int fr), some (.int to), some (.int pl), some (.int my), some (.int ls), some (.int x16), some (.int x17), l8, l9, l10, l11, l12, l13, l14, l15, l16] _ _ _
            refine z_go ?_
            exact ih h2 x16 x17 F (by omega) A_lb A_db ((by rw [show x17.toInt.toNat = k.toInt.toNat + 1 by omega]; exact .inr ⟨by omega, k.toInt.toNat, by omega, by omega⟩)) (by omega)
          · have c15 : ¬ (x14.toInt ≠ 0) := c15
            refine z_C (m := 1) rfl rfl (fun x18 ex18 => ?_)
            refine z_go ?_
            refine gw_skip _ ?_
            refine gw_st rfl rfl rfl ?_
            show ez_gw _ _ _ _ _ _ _ _ [some (.ref 71), some (.int fr), some (.int to), some (.int pl), some (.int my), some (.int ls), some (.int x18), some (.int k), l8, l9, l10, l11, l12, l13, l14, l15, l16] _ _ _
            refine z_inc rfl (by rw [show (1 : Int32).toInt = 1 from rfl]; omega) (fun x19 ex19 => ?_)
            rw [show (1 : Int32).toInt = 1 from rfl] at ex19
            show ez_gw _ _ _ _ _ _ _ _ [some (.ref 71), some (.int fr), some (.int to), some (.int pl), some (.int my), some (.int ls), some (.int x18), some (.int x19), l8, l9, l10, l11, l12, l13, l14, l15, l16] _ _ _
            refine z_go ?_
            exact ih h2 x18 x19 F (by omega) A_lb A_db ((by rw [show x19.toInt.toNat = k.toInt.toNat + 1 by omega]; exact .inl ⟨by omega, fun j hj => by by_cases q : j = k.toInt.toNat; rw [q]; omega; exact (nz_all A_nz (by omega)) j (by omega)⟩)) (by omega)
theorem x71_325 : ∀ q k : Nat, (False) → (False) := fun q k hk => hk.elim
theorem x71_326 : ∀ q : Nat, (110 ≤ q ∧ q ≤ 114 ∨ q = 100) → (q = 100 ∨ q = 101 ∨ 110 ≤ q ∧ q ≤ 114) := fun q hk => hk.elim (fun g => (.inr (.inr g))) (fun hk => (.inl hk))
theorem x71_327 : ∀ q : Nat, (110 ≤ q ∧ q ≤ 114 ∨ q = 101) → (q = 100 ∨ q = 101 ∨ 110 ≤ q ∧ q ≤ 114) := fun q hk => hk.elim (fun g => (.inr (.inr g))) (fun hk => (.inr (.inl hk)))
set_option maxRecDepth 4000 in
set_option maxHeartbeats 2000000 in
theorem w_B1 {E : Nat → Nat × (Nat → Int32)} {d : Nat} {Q : ez_Q} {h : ez_H} {fr : Int32} {to : Int32} {pl : Int32} {my : Int32} {ls : Int32} {l6 : Option Value} {l7 : Option Value} {l8 : Option Value} {l9 : Option Value} {l10 : Option Value} {l11 : Option Value} {l12 : Option Value} {l13 : Option Value} {l14 : Option Value} {l15 : Option Value} {l16 : Option Value} (S : zSh h) {T : Nat → Int} {n c a J : Nat} {l bn : Nat} {s0 : Nat × Nat} (hC : mbC (ez_I h 72) (ez_I h 77) (ez_I h 78) (ez_I h 79) (ez_I h 80) (ez_I h 92) (ez_I h 93) (ez_I h 94) (ez_I h 95) (ez_I h 96) T n c) (hA : mbA fr to pl my T n c a J) (c7 : ctI (ez_I h 97) (bkC T n a J) 286) (c8 : ctI (ez_I h 98) (bkD T n a J) 30) (hls : ls.toInt = (l : Nat) ∧ l ≤ 1) (hs : mS (ez_I h 75) s0) (hb : (ez_I h 71 16).toInt = (s0.2 : Nat)) (hg : aR (ez_I h 75) 8000 (-128) 127) (hbn : (ez_I h 71 15).toInt = (bn : Nat) ∧ bn ≤ 9) (hr : s0.2 + 50 + 8 * (bkY T n a J) ≤ 48800) (K : ∀ h2, zW (fun q k => q = 71 ∧ k = 15 ∨ q = 71 ∧ k = 16 ∨ q = 71 ∧ k = 56 ∨ q = 71 ∧ k = 57 ∨ q = 71 ∧ k = 58) (fun q => q = 75 ∨ 83 ≤ q ∧ q ≤ 91 ∨ 99 ≤ q ∧ q ≤ 119) (fun _ => False) h h2 → (bkS T n a J l s0).2 ≤ s0.2 + 42 + 8 * (bkY T n a J) → mst (ez_I h2 75) (ez_I h2 71 16).toInt (bkS T n a J l s0) → aR (ez_I h2 75) 8000 (-128) 127 → (ez_I h2 71 15).toInt = (bn : Int) + 1 → mbk (ez_I h2 83) (ez_I h2 84) (ez_I h2 85) (ez_I h2 86) (ez_I h2 87) (ez_I h2 88) (ez_I h2 89) (ez_I h2 90) (ez_I h2 91) (ez_I h 83) (ez_I h 84) (ez_I h 85) (ez_I h 86) (ez_I h 87) (ez_I h 88) (ez_I h 89) (ez_I h 90) (ez_I h 91) T n a J s0.2 bn → Q (.inl none) h2) : pw E (d + 2) 44 149 [some (.ref 71), some (.int fr), some (.int to), some (.int pl), some (.int my), some (.int ls), l6, l7, l8, l9, l10, l11, l12, l13, l14, l15, l16] [] h Q := by
  have gfr := z_rng fr
  have gto := z_rng to
  have gpl := z_rng pl
  have gmy := z_rng my
  have gls := z_rng ls
  obtain ⟨_, _, _, aj6, _⟩ := id hA
  have hbc : ∀ z, (bkC T n a J) z ≤ 601 := fun z => by have h9 := cL_le (aM T n) (dI T n) a J z; have h8 : (bkC T n a J) z = cL (aM T n) (dI T n) a J z := rfl; omega
  have hbd : ∀ z, (bkD T n a J) z ≤ 601 := fun z => by have h9 := cD_le (dI T n) a J z; have h8 : (bkD T n a J) z = cD (dI T n) a J z := rfl; omega
  have F := zW_refl (fun _ _ => False) (fun q => q = 100 ∨ q = 101 ∨ 110 ≤ q ∧ q ≤ 114) (fun _ => False) h
  apply ez_Wp_in
  show ez_gw _ _ _ _ _ _ (cz_44) _ _ _ _ _
  refine gw_skip _ ?_
  refine gw_ld rfl rfl ?_
  refine gw_ld rfl rfl ?_
  refine z_gR (q := 97) (zT S (by decide) rfl) (zRf S (by decide) (by decide) rfl) (by decide) ?_
  refine z_C (m := 286) rfl rfl (fun x1 ex1 => ?_)
  refine z_C (m := 15) rfl rfl (fun x2 ex2 => ?_)
  refine gw_ld rfl rfl ?_
  refine z_gR (q := 100) (zT S (by decide) rfl) (zRf S (by decide) (by decide) rfl) (by decide) ?_
  refine z_cl rfl rfl rfl rfl rfl rfl rfl rfl rfl rfl rfl (zT S (by decide) rfl) ?_
  have hct : ctI (ez_I h 97) (bkC T n a J) 286 := (by rw [(show ez_I h 97 = ez_I h 97 from zW_fn F 97 x71_307 (fun _ c => c))]; exact c7)
  refine m_lenF (u := 97) (w := 100) (al := x1) (li := x2) (mx := 1000) S (nu := 288) (nw := 288) (fun _ S => ⟨zT S (by decide) rfl, zN S (by decide) rfl⟩) (fun _ S => ⟨zT S (by decide) rfl, zN S (by decide) rfl⟩) (by decide) (by omega) (by omega) (by rw [show x1.toInt.toNat = 286 by omega]; exact ctI_aR hct (fun z => by have := hbc z; omega)) (by decide) (by rw [show x1.toInt.toNat = 286 by omega]; decide) (by rw [show x1.toInt.toNat = 286 by omega, show x2.toInt.toNat = 15 by omega]; have := poC_le2 (ez_I h 97) 286; show _ ≤ (32768 : Int); omega) (fun h3 K4 k6 => ?_)
  rw [show x1.toInt.toNat = 286 by omega, show x2.toInt.toNat = 15 by omega] at k6
  have F5 := zW_ofG K4
  obtain ⟨ln7, ln8, ln9, ln10⟩ := ln_all (nw := 286) k6 (fun q a b => by omega) hct (fun q _ => by have := hbc q; omega) (by decide) (by decide)
  clear hct
  have F11 : zW (fun _ _ => False) (fun q => 110 ≤ q ∧ q ≤ 114 ∨ q = 100) (fun _ => False) h h3 := zW_mono F5 (fun q k hk => hk.2.elim) (fun q hk => hk) (fun q hk => hk)
  have S12 := zW_sh F11 S
  have F13 := zW_tr F (zW_mono F11 (x71_325) (x71_326) (x71_313))
  have A_lb : lbP (ez_I h3 100) (bkL T n a J) (bkC T n a J) 286 15 := ⟨ln7, ln8, ln9⟩
  refine gw_ld rfl rfl ?_
  refine gw_ld rfl rfl ?_
  refine z_gR (q := 98) (zT S12 (by decide) rfl) (zRf S12 (by decide) (by decide) rfl) (by decide) ?_
  refine z_C (m := 30) rfl rfl (fun x14 ex14 => ?_)
  refine z_C (m := 15) rfl rfl (fun x15 ex15 => ?_)
  refine gw_ld rfl rfl ?_
  refine z_gR (q := 101) (zT S12 (by decide) rfl) (zRf S12 (by decide) (by decide) rfl) (by decide) ?_
  refine z_cl rfl rfl rfl rfl rfl rfl rfl rfl rfl rfl rfl (zT S12 (by decide) rfl) ?_
  have hct : ctI (ez_I h3 98) (bkD T n a J) 30 := (by rw [(show ez_I h3 98 = ez_I h 98 from zW_fn F13 98 x71_308 (fun _ c => c))]; exact c8)
  refine m_lenF (u := 98) (w := 101) (al := x14) (li := x15) (mx := 1000) S12 (nu := 30) (nw := 30) (fun _ S => ⟨zT S (by decide) rfl, zN S (by decide) rfl⟩) (fun _ S => ⟨zT S (by decide) rfl, zN S (by decide) rfl⟩) (by decide) (by omega) (by omega) (by rw [show x14.toInt.toNat = 30 by omega]; exact ctI_aR hct (fun z => by have := hbd z; omega)) (by decide) (by rw [show x14.toInt.toNat = 30 by omega]; decide) (by rw [show x14.toInt.toNat = 30 by omega, show x15.toInt.toNat = 15 by omega]; have := poC_le2 (ez_I h3 98) 30; show _ ≤ (32768 : Int); omega) (fun h16 K17 k19 => ?_)
  rw [show x14.toInt.toNat = 30 by omega, show x15.toInt.toNat = 15 by omega] at k19
  have F18 := zW_ofG K17
  obtain ⟨ln20, ln21, ln22, ln23⟩ := ln_all (nw := 30) k19 (fun q a b => by omega) hct (fun q _ => by have := hbd q; omega) (by decide) (by decide)
  clear hct
  have F24 : zW (fun _ _ => False) (fun q => 110 ≤ q ∧ q ≤ 114 ∨ q = 101) (fun _ => False) h3 h16 := zW_mono F18 (fun q k hk => hk.2.elim) (fun q hk => hk) (fun q hk => hk)
  have S25 := zW_sh F24 S12
  have F26 := zW_tr F13 (zW_mono F24 (x71_325) (x71_327) (x71_313))
  have A27 : lbP (ez_I h16 100) (bkL T n a J) (bkC T n a J) 286 15 := by rw [zW_fn F24 100 (by decide) (fun _ c => c)]; exact A_lb
  have A_db : dbP (ez_I h16 101) (bkD T n a J) := ⟨ln20, ln21, ln22, ln23⟩
  refine z_C (m := 1) rfl rfl (fun x28 ex28 => ?_)
  refine gw_st rfl rfl rfl ?_
  show ez_gw _ _ _ _ _ _ _ _ [some (.ref 71), some (.int fr), some (.int to), some (.int pl), some (.int my), some (.int ls), some (.int x28), l7, l8, l9, l10, l11, l12, l13, l14, l15, l16] _ _ _
  refine z_C (m := 0) rfl rfl (fun x29 ex29 => ?_)
  refine gw_st rfl rfl rfl ?_
  show ez_gw _ _ _ _ _ _ _ _ [some (.ref 71), some (.int fr), some (.int to), some (.int pl), some (.int my), some (.int ls), some (.int x28), some (.int x29), l8, l9, l10, l11, l12, l13, l14, l15, l16] _ _ _
  exact ez_Wp_at ((w_B1_L0 (fr := fr) (to := to) (pl := pl) (my := my) (ls := ls) (l6 := l6) (l7 := l7) (l8 := l8) (l9 := l9) (l10 := l10) (l11 := l11) (l12 := l12) (l13 := l13) (l14 := l14) (l15 := l15) (l16 := l16) S hC hA c7 c8 hls hs hb hg hbn hr K (((1000 - x29.toInt)).toNat + 1)) h16 x28 x29 F26 (by omega) A27 A_db ((by rw [show x29.toInt.toNat = 0 by omega]; exact .inl ⟨by omega, fun j hj => by omega⟩)) (by omega)) rfl
