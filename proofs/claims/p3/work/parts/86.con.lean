/-! PRINTED by wip/p17/con13.py: contracts of the model, lengths -/
set_option maxRecDepth 4000 in
set_option maxHeartbeats 20000000 in
theorem m_len_L3 {E : Nat → Nat × (Nat → Int32)} {d : Nat} {Q : ez_Q} {h : ez_H} {u : Nat} {al : Int32} {li : Int32} {w : Nat} (S : zSh h) {nu nw : Nat} (hu : zA u nu) (hw : zA w nw) (hd : (u < 110 ∨ 114 < u) ∧ u ≠ 71 ∧ u ≠ w ∧ (w < 110 ∨ 114 < w) ∧ w ≠ 71) (hn : 1 ≤ al.toInt ∧ al.toInt ≤ nu ∧ al.toInt ≤ nw ∧ al.toInt ≤ 288 ∧ nu ≤ 1000 ∧ nw ≤ 1000) (hl : 1 ≤ li.toInt ∧ li.toInt ≤ 15) (K : ∀ h2, zG (fun _ => False) (fun q => 110 ≤ q ∧ q ≤ 114 ∨ q = w) h h2 → (al.toInt ≤ 2 ^ li.toInt.toNat → aR (ez_I h2 w) al.toInt.toNat 0 li.toInt) → (al.toInt ≤ 2 ^ li.toInt.toNat → (∀ s : Nat, s < al.toInt.toNat → (ez_I h2 w s).toInt = 0) → ∀ k : Nat, (k : Int) < al.toInt → (ez_I h u k).toInt = 0) → Q (.inl none) h2) : ∀ N : Nat, (∀ (h2 : ez_H) (n : Int32) (r : Int32) (i : Int32) (l8 : Option Value) (l9 : Option Value) (l10 : Option Value) (l11 : Option Value) (l12 : Option Value) , zG (fun _ => False) (fun q => 110 ≤ q ∧ q ≤ 114 ∨ q = w) h h2 → (2 ≤ n.toInt ∧ n.toInt ≤ al.toInt ∧ n.toInt ≤ r.toInt ∧ r.toInt ≤ 2 * n.toInt - 1 ∧ 0 ≤ i.toInt ∧ i.toInt ≤ 2 * n.toInt - 2) → syI (ez_I h2 110) n.toInt.toNat al.toInt → eH n.toInt r.toInt li.toInt → hQ (ez_I h2 113) n.toInt.toNat r.toInt.toNat (fun _ => li.toInt) → hE (ez_I h2 113) n.toInt.toNat → (al.toInt ≤ 2 ^ li.toInt.toNat → fI (ez_I h2 w) (ez_I h2 110) (ez_I h2 113) al.toInt.toNat n.toInt.toNat i.toInt.toNat 0) → (1000 * (1000 - i.toInt)) < (N : Int) → pw E (d + 1) 36 442 [some (.ref 71), some (.ref u), some (.int al), some (.int li), some (.ref w), some (.int n), some (.int r), some (.int i), l8, l9, l10, l11, l12] [] h2 Q) ∧ (∀ (h2 : ez_H) (n : Int32) (r : Int32) (i : Int32) (j : Int32) (l9 : Option Value) (l10 : Option Value) (l11 : Option Value) (l12 : Option Value) , zG (fun _ => False) (fun q => 110 ≤ q ∧ q ≤ 114 ∨ q = w) h h2 → (2 ≤ n.toInt ∧ n.toInt ≤ al.toInt ∧ n.toInt ≤ r.toInt ∧ r.toInt ≤ 2 * n.toInt - 1 ∧ 0 ≤ i.toInt ∧ i.toInt < 2 * n.toInt - 2 ∧ 0 ≤ j.toInt ∧ j.toInt ≤ n.toInt) → syI (ez_I h2 110) n.toInt.toNat al.toInt → eH n.toInt r.toInt li.toInt → hQ (ez_I h2 113) n.toInt.toNat r.toInt.toNat (fun _ => li.toInt) → hE (ez_I h2 113) n.toInt.toNat → (al.toInt ≤ 2 ^ li.toInt.toNat → fI (ez_I h2 w) (ez_I h2 110) (ez_I h2 113) al.toInt.toNat n.toInt.toNat i.toInt.toNat j.toInt.toNat) → (1000 * (1000 - i.toInt) - 500 + (300 - j.toInt)) < (N : Int) → pw E (d + 1) 36 456 [some (.ref 71), some (.ref u), some (.int al), some (.int li), some (.ref w), some (.int n), some (.int r), some (.int i), some (.int j), l9, l10, l11, l12] [] h2 Q) := by
  intro N
  induction N with
  | zero => exact ⟨fun h2 n r i l8 l9 l10 l11 l12  F hinv A_sy A_eh A_hq A_he A_fi hm => absurd hm (by have w_n := z_rng n; have w_r := z_rng r; have w_i := z_rng i; have gal := z_rng al; have gli := z_rng li; omega), fun h2 n r i j l9 l10 l11 l12  F hinv A_sy A_eh A_hq A_he A_fi hm => absurd hm (by have w_n := z_rng n; have w_r := z_rng r; have w_i := z_rng i; have w_j := z_rng j; have gal := z_rng al; have gli := z_rng li; omega)⟩
  | succ N ih =>
    refine ⟨fun h2 n r i l8 l9 l10 l11 l12  F hinv A_sy A_eh A_hq A_he A_fi hm => ?_, fun h2 n r i j l9 l10 l11 l12  F hinv A_sy A_eh A_hq A_he A_fi hm => ?_⟩
    · skip
      have w_n := z_rng n
      have w_r := z_rng r
      have w_i := z_rng i
      have gal := z_rng al
      have gli := z_rng li
      have S2 := zG_sh F S
      apply ez_Wp_in
      show ez_gw _ _ _ _ _ _ (cz_36) _ _ _ _ _
      refine gw_skip _ ?_
      refine gw_ld rfl rfl ?_
      refine z_C (m := 2) rfl rfl (fun x1 ex1 => ?_)
      refine gw_ld rfl rfl ?_
      refine z_mulL (c := 2) ex1 (by omega) (fun x2 ex2 => ?_)
      refine z_C (m := 2) rfl rfl (fun x3 ex3 => ?_)
      refine z_sub (by omega) (fun x4 ex4 => ?_)
      refine z_b2 (fun c5 => ?_) (fun c5 => ?_)
      · have c5 : x4.toInt ≤ i.toInt := c5
        refine gw_skip _ ?_
        refine z_rv ?_
        exact K _ F (fun hb => by have ee := eH_end A_eh rfl (by omega) (by omega) hb; exact fI_end (A_fi hb) (hQ_g A_hq (fun _ _ => by omega)) rfl (by omega) (by omega)) (fun hb Z => by have ee := eH_end A_eh rfl (by omega) (by omega) hb; exact (fI_non (A_fi hb) (hQ_g A_hq (fun _ _ => Int.le_refl _)) A_he A_sy (by omega) rfl (by omega) (by omega) Z).elim)
      · have c5 : ¬ (x4.toInt ≤ i.toInt) := c5
        refine z_C (m := 0) rfl rfl (fun x6 ex6 => ?_)
        refine gw_st rfl rfl rfl ?_
        show ez_gw _ _ _ _ _ _ _ _ [some (.ref 71), some (.ref u), some (.int al), some (.int li), some (.ref w), some (.int n), some (.int r), some (.int i), some (.int x6), l9, l10, l11, l12] _ _ _
        exact ez_Wp_at (ih.2 h2 n r i x6 (l9) (l10) (l11) (l12) F (by omega) A_sy A_eh A_hq A_he ((by rw [show x6.toInt.toNat = 0 by omega]; exact A_fi)) (by omega)) rfl
    · skip
      have w_n := z_rng n
      have w_r := z_rng r
      have w_i := z_rng i
      have w_j := z_rng j
      have gal := z_rng al
      have gli := z_rng li
      have S2 := zG_sh F S
      apply ez_Wp_in
      show ez_gw _ _ _ _ _ _ (cz_36) _ _ _ _ _
      refine gw_skip _ ?_
      refine gw_ld rfl rfl ?_
      refine gw_ld rfl rfl ?_
      refine z_b2 (fun c7 => ?_) (fun c7 => ?_)
      · have c7 : n.toInt ≤ j.toInt := c7
        refine gw_skip _ ?_
        refine z_inc rfl (by rw [show (1 : Int32).toInt = 1 from rfl]; omega) (fun x8 ex8 => ?_)
        rw [show (1 : Int32).toInt = 1 from rfl] at ex8
        show ez_gw _ _ _ _ _ _ _ _ [some (.ref 71), some (.ref u), some (.int al), some (.int li), some (.ref w), some (.int n), some (.int r), some (.int x8), some (.int j), l9, l10, l11, l12] _ _ _
        refine z_go ?_
        exact ih.1 h2 n r x8 (some (.int j)) (l9) (l10) (l11) (l12) F (by omega) A_sy (A_eh) (A_hq) A_he (fun hb => fI_nx (A_fi hb) (by omega) (by omega) rfl) (by omega)
      · have c7 : ¬ (n.toInt ≤ j.toInt) := c7
        refine gw_ld rfl rfl ?_
        refine gw_ld rfl rfl ?_
        refine z_gR (q := 110) (zT S2 (by decide) rfl) (zRf S2 (by decide) (by decide) rfl) (by decide) ?_
        refine gw_ld rfl rfl ?_
        refine z_ia (n := 288) (zT S2 (by decide) rfl) (zN S2 (by decide) rfl) (by omega) ?_
        generalize ex9 : ez_I h2 110 j.toInt.toNat = x9
        have rx9 := z_rng x9
        have yx9 := (A_sy j.toInt.toNat (by omega)).1
        rw [ex9] at yx9
        refine gw_op rfl ?_
        refine z_ia (n := nw) ((hw _ S2).1) ((hw _ S2).2) (by omega) ?_
        generalize ex10 : ez_I h2 w x9.toInt.toNat = x10
        have rx10 := z_rng x10
        refine gw_ld rfl rfl ?_
        refine z_gR (q := 113) (zT S2 (by decide) rfl) (zRf S2 (by decide) (by decide) rfl) (by decide) ?_
        refine z_C (m := 288) rfl rfl (fun x11 ex11 => ?_)
        refine gw_ld rfl rfl ?_
        refine z_mulL (c := 288) ex11 (by omega) (fun x12 ex12 => ?_)
        refine gw_ld rfl rfl ?_
        refine z_add (by omega) (fun x13 ex13 => ?_)
        refine z_ia (n := 172800) (zT S2 (by decide) rfl) (zN S2 (by decide) rfl) (by omega) ?_
        generalize ex14 : ez_I h2 113 x13.toInt.toNat = x14
        have rx14 := z_rng x14
        refine z_addW (fun x15 ex15 => ?_)
        have rx15 := z_rng x15
        refine z_is (n := nw) ((hw _ S2).1) ((hw _ S2).2) (by omega) (fun h16 e17 => ?_)
        have S18 := zSh_set S2 e17
        have F19 := zG_setA F e17 (by omega) (by omega)
        have A20 : syI (ez_I h16 110) n.toInt.toNat al.toInt := by rw [zI_fn e17 110 (by omega)]; exact A_sy
        have A21 : eH n.toInt r.toInt li.toInt := by rw []; exact A_eh
        have A22 : hQ (ez_I h16 113) n.toInt.toNat r.toInt.toNat (fun _ => li.toInt) := by rw [zI_fn e17 113 (by omega)]; exact A_hq
        have A23 : hE (ez_I h16 113) n.toInt.toNat := by rw [zI_fn e17 113 (by omega)]; exact A_he
        have A24 : (al.toInt ≤ 2 ^ li.toInt.toNat → fI (ez_I h16 w) (ez_I h16 110) (ez_I h16 113) al.toInt.toNat n.toInt.toNat i.toInt.toNat (j.toInt.toNat + 1)) := fun hb => by have ee := eH_end A_eh rfl (by omega) (by omega) hb; exact fI_w (A_fi hb) e17 (by omega) A_sy (by omega) ex9 rfl ex10 ex14 (by omega) (hQ_g A_hq (fun _ _ => by omega)) (by omega) ex15
        refine z_inc rfl (by rw [show (1 : Int32).toInt = 1 from rfl]; omega) (fun x25 ex25 => ?_)
        rw [show (1 : Int32).toInt = 1 from rfl] at ex25
        show ez_gw _ _ _ _ _ _ _ _ [some (.ref 71), some (.ref u), some (.int al), some (.int li), some (.ref w), some (.int n), some (.int r), some (.int i), some (.int x25), l9, l10, l11, l12] _ _ _
        refine z_go ?_
        exact ih.2 h16 n r i x25 (l9) (l10) (l11) (l12) F19 (by omega) A20 A21 A22 A23 ((by rw [show x25.toInt.toNat = j.toInt.toNat + 1 by omega]; exact A24)) (by omega)
set_option maxRecDepth 4000 in
set_option maxHeartbeats 20000000 in
theorem m_len_L2 {E : Nat → Nat × (Nat → Int32)} {d : Nat} {Q : ez_Q} {h : ez_H} {u : Nat} {al : Int32} {li : Int32} {w : Nat} (S : zSh h) {nu nw : Nat} (hu : zA u nu) (hw : zA w nw) (hd : (u < 110 ∨ 114 < u) ∧ u ≠ 71 ∧ u ≠ w ∧ (w < 110 ∨ 114 < w) ∧ w ≠ 71) (hn : 1 ≤ al.toInt ∧ al.toInt ≤ nu ∧ al.toInt ≤ nw ∧ al.toInt ≤ 288 ∧ nu ≤ 1000 ∧ nw ≤ 1000) (hl : 1 ≤ li.toInt ∧ li.toInt ≤ 15) (K : ∀ h2, zG (fun _ => False) (fun q => 110 ≤ q ∧ q ≤ 114 ∨ q = w) h h2 → (al.toInt ≤ 2 ^ li.toInt.toNat → aR (ez_I h2 w) al.toInt.toNat 0 li.toInt) → (al.toInt ≤ 2 ^ li.toInt.toNat → (∀ s : Nat, s < al.toInt.toNat → (ez_I h2 w s).toInt = 0) → ∀ k : Nat, (k : Int) < al.toInt → (ez_I h u k).toInt = 0) → Q (.inl none) h2) : ∀ N : Nat, (∀ (h2 : ez_H) (n : Int32) (r : Int32) (t : Int32) (l8 : Option Value) (l9 : Option Value) (l10 : Option Value) (l11 : Option Value) (l12 : Option Value) , zG (fun _ => False) (fun q => 110 ≤ q ∧ q ≤ 114 ∨ q = w) h h2 → (2 ≤ n.toInt ∧ n.toInt ≤ al.toInt ∧ n.toInt ≤ r.toInt ∧ r.toInt ≤ 2 * n.toInt - 1 ∧ 1 ≤ t.toInt ∧ t.toInt ≤ li.toInt) → aR (ez_I h2 w) al.toInt.toNat 0 0 → syI (ez_I h2 110) n.toInt.toNat al.toInt → eH n.toInt r.toInt t.toInt → hQ (ez_I h2 113) n.toInt.toNat r.toInt.toNat (fun _ => t.toInt) → hE (ez_I h2 113) n.toInt.toNat → (1000000 * (20 - t.toInt)) < (N : Int) → pw E (d + 1) 36 199 [some (.ref 71), some (.ref u), some (.int al), some (.int li), some (.ref w), some (.int n), some (.int r), some (.int t), l8, l9, l10, l11, l12] [] h2 Q) ∧ (∀ (h2 : ez_H) (n : Int32) (r : Int32) (t : Int32) (p : Int32) (s : Int32) (k : Int32) (l11 : Option Value) (l12 : Option Value) , zG (fun _ => False) (fun q => 110 ≤ q ∧ q ≤ 114 ∨ q = w) h h2 → (2 ≤ n.toInt ∧ n.toInt ≤ al.toInt ∧ n.toInt ≤ r.toInt ∧ r.toInt ≤ 2 * n.toInt - 1 ∧ 1 ≤ t.toInt ∧ t.toInt < li.toInt ∧ 0 ≤ p.toInt ∧ p.toInt ≤ r.toInt ∧ 0 ≤ s.toInt ∧ s.toInt ≤ n.toInt ∧ 2 * k.toInt = 2 * s.toInt + p.toInt) → aR (ez_I h2 w) al.toInt.toNat 0 0 → syI (ez_I h2 110) n.toInt.toNat al.toInt → eH n.toInt r.toInt t.toInt → hQ (ez_I h2 113) n.toInt.toNat r.toInt.toNat (fun _ => t.toInt) → hE (ez_I h2 113) n.toInt.toNat → (1 ≤ k.toInt → hE (ez_I h2 114) n.toInt.toNat) → tQ (ez_I h2 114) (ez_I h2 113) n.toInt.toNat k.toInt.toNat s.toInt p.toInt → ((1000000 * (20 - t.toInt)) - 100000 + (1200 - k.toInt)) < (N : Int) → pw E (d + 1) 36 214 [some (.ref 71), some (.ref u), some (.int al), some (.int li), some (.ref w), some (.int n), some (.int r), some (.int t), some (.int p), some (.int s), some (.int k), l11, l12] [] h2 Q) ∧ (∀ (h2 : ez_H) (n : Int32) (r : Int32) (t : Int32) (p : Int32) (s : Int32) (k : Int32) (i : Int32) (l12 : Option Value) , zG (fun _ => False) (fun q => 110 ≤ q ∧ q ≤ 114 ∨ q = w) h h2 → (2 ≤ n.toInt ∧ n.toInt ≤ al.toInt ∧ n.toInt ≤ r.toInt ∧ r.toInt ≤ 2 * n.toInt - 1 ∧ 1 ≤ t.toInt ∧ t.toInt < li.toInt ∧ 0 ≤ i.toInt ∧ i.toInt ≤ r.toInt) → aR (ez_I h2 w) al.toInt.toNat 0 0 → syI (ez_I h2 110) n.toInt.toNat al.toInt → eH n.toInt r.toInt (t.toInt + 1) → hQ (ez_I h2 114) n.toInt.toNat r.toInt.toNat (fun _ => t.toInt + 1) → hE (ez_I h2 114) n.toInt.toNat → cpI (ez_I h2 113) (ez_I h2 114) n.toInt.toNat i.toInt.toNat → ((1000000 * (20 - t.toInt)) - 500000 + 400 * (700 - i.toInt)) < (N : Int) → pw E (d + 1) 36 362 [some (.ref 71), some (.ref u), some (.int al), some (.int li), some (.ref w), some (.int n), some (.int r), some (.int t), some (.int p), some (.int s), some (.int k), some (.int i), l12] [] h2 Q) ∧ (∀ (h2 : ez_H) (n : Int32) (r : Int32) (t : Int32) (p : Int32) (s : Int32) (k : Int32) (i : Int32) (j : Int32) , zG (fun _ => False) (fun q => 110 ≤ q ∧ q ≤ 114 ∨ q = w) h h2 → (2 ≤ n.toInt ∧ n.toInt ≤ al.toInt ∧ n.toInt ≤ r.toInt ∧ r.toInt ≤ 2 * n.toInt - 1 ∧ 1 ≤ t.toInt ∧ t.toInt < li.toInt ∧ 0 ≤ i.toInt ∧ i.toInt < r.toInt ∧ 0 ≤ j.toInt ∧ j.toInt ≤ n.toInt) → aR (ez_I h2 w) al.toInt.toNat 0 0 → syI (ez_I h2 110) n.toInt.toNat al.toInt → eH n.toInt r.toInt (t.toInt + 1) → hQ (ez_I h2 114) n.toInt.toNat r.toInt.toNat (fun _ => t.toInt + 1) → hE (ez_I h2 114) n.toInt.toNat → cpI (ez_I h2 113) (ez_I h2 114) n.toInt.toNat i.toInt.toNat → cpR (ez_I h2 113) (ez_I h2 114) i.toInt.toNat j.toInt.toNat → ((1000000 * (20 - t.toInt)) - 500000 + 400 * (700 - i.toInt) - 350 + (300 - j.toInt)) < (N : Int) → pw E (d + 1) 36 386 [some (.ref 71), some (.ref u), some (.int al), some (.int li), some (.ref w), some (.int n), some (.int r), some (.int t), some (.int p), some (.int s), some (.int k), some (.int i), some (.int j)] [] h2 Q) := by
  intro N
  induction N with
  | zero => exact ⟨fun h2 n r t l8 l9 l10 l11 l12  F hinv A_to A_sy A_eh A_hq A_he hm => absurd hm (by have w_n := z_rng n; have w_r := z_rng r; have w_t := z_rng t; have gal := z_rng al; have gli := z_rng li; omega), fun h2 n r t p s k l11 l12  F hinv A_to A_sy A_eh A_hq A_he A_ge A_tq hm => absurd hm (by have w_n := z_rng n; have w_r := z_rng r; have w_t := z_rng t; have w_p := z_rng p; have w_s := z_rng s; have w_k := z_rng k; have gal := z_rng al; have gli := z_rng li; omega), fun h2 n r t p s k i l12  F hinv A_to A_sy A_eh A_hg A_ge A_cp hm => absurd hm (by have w_n := z_rng n; have w_r := z_rng r; have w_t := z_rng t; have w_p := z_rng p; have w_s := z_rng s; have w_k := z_rng k; have w_i := z_rng i; have gal := z_rng al; have gli := z_rng li; omega), fun h2 n r t p s k i j  F hinv A_to A_sy A_eh A_hg A_ge A_cp A_cr hm => absurd hm (by have w_n := z_rng n; have w_r := z_rng r; have w_t := z_rng t; have w_p := z_rng p; have w_s := z_rng s; have w_k := z_rng k; have w_i := z_rng i; have w_j := z_rng j; have gal := z_rng al; have gli := z_rng li; omega)⟩
  | succ N ih =>
    refine ⟨fun h2 n r t l8 l9 l10 l11 l12  F hinv A_to A_sy A_eh A_hq A_he hm => ?_, fun h2 n r t p s k l11 l12  F hinv A_to A_sy A_eh A_hq A_he A_ge A_tq hm => ?_, fun h2 n r t p s k i l12  F hinv A_to A_sy A_eh A_hg A_ge A_cp hm => ?_, fun h2 n r t p s k i j  F hinv A_to A_sy A_eh A_hg A_ge A_cp A_cr hm => ?_⟩
    · skip
      have w_n := z_rng n
      have w_r := z_rng r
      have w_t := z_rng t
      have gal := z_rng al
      have gli := z_rng li
      have S2 := zG_sh F S
      apply ez_Wp_in
      show ez_gw _ _ _ _ _ _ (cz_36) _ _ _ _ _
      refine gw_skip _ ?_
      refine gw_ld rfl rfl ?_
      refine gw_ld rfl rfl ?_
      refine z_b2 (fun c1 => ?_) (fun c1 => ?_)
      · have c1 : li.toInt ≤ t.toInt := c1
        refine gw_skip _ ?_
        refine z_C (m := 0) rfl rfl (fun x2 ex2 => ?_)
        refine gw_st rfl rfl rfl ?_
        show ez_gw _ _ _ _ _ _ _ _ [some (.ref 71), some (.ref u), some (.int al), some (.int li), some (.ref w), some (.int n), some (.int r), some (.int x2), l8, l9, l10, l11, l12] _ _ _
        exact ez_Wp_at ((m_len_L3 (u := u) (al := al) (li := li) (w := w) S hu hw hd hn hl K (((1000 * (1000 - x2.toInt))).toNat + 1)).1 h2 n r x2 (l8) (l9) (l10) (l11) (l12) F (by omega) A_sy ((by rw [show li.toInt = t.toInt by omega]; exact A_eh)) ((by rw [show li.toInt = t.toInt by omega]; exact A_hq)) A_he (fun hb => fI_0 A_to A_sy (by omega) (by omega) rfl) (by omega)) rfl
      · have c1 : ¬ (li.toInt ≤ t.toInt) := c1
        refine z_C (m := 0) rfl rfl (fun x3 ex3 => ?_)
        refine gw_st rfl rfl rfl ?_
        show ez_gw _ _ _ _ _ _ _ _ [some (.ref 71), some (.ref u), some (.int al), some (.int li), some (.ref w), some (.int n), some (.int r), some (.int t), some (.int x3), l9, l10, l11, l12] _ _ _
        refine z_C (m := 0) rfl rfl (fun x4 ex4 => ?_)
        refine gw_st rfl rfl rfl ?_
        show ez_gw _ _ _ _ _ _ _ _ [some (.ref 71), some (.ref u), some (.int al), some (.int li), some (.ref w), some (.int n), some (.int r), some (.int t), some (.int x3), some (.int x4), l10, l11, l12] _ _ _
        refine z_C (m := 0) rfl rfl (fun x5 ex5 => ?_)
        refine gw_st rfl rfl rfl ?_
        show ez_gw _ _ _ _ _ _ _ _ [some (.ref 71), some (.ref u), some (.int al), some (.int li), some (.ref w), some (.int n), some (.int r), some (.int t), some (.int x3), some (.int x4), some (.int x5), l11, l12] _ _ _
        exact ez_Wp_at (ih.2.1 h2 n r t x3 x4 x5 (l11) (l12) F (by omega) A_to A_sy A_eh A_hq A_he (fun q => by exfalso; omega) (tQ_0 (by omega) (by omega) (by omega)) (by omega)) rfl
    · skip
      have w_n := z_rng n
      have w_r := z_rng r
      have w_t := z_rng t
      have w_p := z_rng p
      have w_s := z_rng s
      have w_k := z_rng k
      have gal := z_rng al
      have gli := z_rng li
      have S2 := zG_sh F S
      apply ez_Wp_in
      show ez_gw _ _ _ _ _ _ (cz_36) _ _ _ _ _
      refine gw_skip _ ?_
      refine gw_ld rfl rfl ?_
      refine z_C (m := 1) rfl rfl (fun x6 ex6 => ?_)
      refine z_add (by omega) (fun x7 ex7 => ?_)
      refine gw_ld rfl rfl ?_
      refine z_b2 (fun c8 => ?_) (fun c8 => ?_)
      · have c8 : x7.toInt < r.toInt := c8
        refine gw_skip _ ?_
        refine gw_ld rfl rfl ?_
        refine gw_ld rfl rfl ?_
        refine z_b2 (fun c9 => ?_) (fun c9 => ?_)
        · have c9 : n.toInt ≤ s.toInt := c9
          refine gw_skip _ ?_
          refine z_C (m := 0) rfl rfl (fun x10 ex10 => ?_)
          refine gw_st rfl rfl rfl ?_
          show ez_gw _ _ _ _ _ _ _ _ [some (.ref 71), some (.ref u), some (.int al), some (.int li), some (.ref w), some (.int n), some (.int r), some (.int t), some (.int p), some (.int s), some (.int k), some (.int x10), l12] _ _ _
          refine gw_ld rfl rfl ?_
          refine z_b1 (fun c11 => ?_) (fun c11 => ?_)
          · have c11 : x10.toInt = 0 := c11
            refine gw_skip _ ?_
            refine gw_ld rfl rfl ?_
            refine gw_ld rfl rfl ?_
            refine gw_ld rfl rfl ?_
            refine gw_ld rfl rfl ?_
            refine z_gR (q := 111) (zT S2 (by decide) rfl) (zRf S2 (by decide) (by decide) rfl) (by decide) ?_
            refine gw_ld rfl rfl ?_
            refine z_ia (n := 600) (zT S2 (by decide) rfl) (zN S2 (by decide) rfl) (by omega) ?_
            generalize ex12 : ez_I h2 111 p.toInt.toNat = x12
            have rx12 := z_rng x12
            refine gw_ld rfl rfl ?_
            refine z_gR (q := 111) (zT S2 (by decide) rfl) (zRf S2 (by decide) (by decide) rfl) (by decide) ?_
            refine gw_ld rfl rfl ?_
            refine z_C (m := 1) rfl rfl (fun x13 ex13 => ?_)
            refine z_add (by omega) (fun x14 ex14 => ?_)
            refine z_ia (n := 600) (zT S2 (by decide) rfl) (zN S2 (by decide) rfl) (by omega) ?_
            generalize ex15 : ez_I h2 111 x14.toInt.toNat = x15
            have rx15 := z_rng x15
            refine z_addW (fun x16 ex16 => ?_)
            have rx16 := z_rng x16
            refine gw_ld rfl rfl ?_
            refine gw_ld rfl rfl ?_
            refine z_C (m := 1) rfl rfl (fun x17 ex17 => ?_)
            refine z_add (by omega) (fun x18 ex18 => ?_)
            refine z_C (m := -1) rfl rfl (fun x19 ex19 => ?_)
            refine z_cl rfl rfl rfl rfl rfl rfl rfl rfl rfl rfl rfl (zT S2 (by decide) rfl) ?_
            refine m_pp (k := k) (n := n) (w := x16) (a := p) (b := x18) (o := x19) S2 (by omega) (fun _ j hj => by first | exact ⟨(fun z => ⟨z.1, by omega⟩) (hQ_ent A_hq (by omega) hj), (fun z => ⟨z.1, by omega⟩) (hQ_ent A_hq (by omega) hj)⟩) (fun h20 F21 k22 => ?_)
            have S23 := zG_sh F21 S2
            have F24 := zG_tr F (zG_mono F21 (fun k hk => by first | omega | exact False.elim hk) (fun k hk => by first | omega | exact False.elim hk))
            have A25 : aR (ez_I h20 w) al.toInt.toNat 0 0 := by rw [zG_fn F21 w (by omega) (by first | omega | exact fun c => c)]; exact A_to
            have A26 : syI (ez_I h20 110) n.toInt.toNat al.toInt := by rw [zG_fn F21 110 (by decide) (by first | omega | exact fun c => c)]; exact A_sy
            have A27 : eH n.toInt r.toInt t.toInt := by rw []; exact A_eh
            have A28 : hQ (ez_I h20 113) n.toInt.toNat r.toInt.toNat (fun _ => t.toInt) := by rw [zG_fn F21 113 (by decide) (by first | omega | exact fun c => c)]; exact A_hq
            have A29 : hE (ez_I h20 113) n.toInt.toNat := by rw [zG_fn F21 113 (by decide) (by first | omega | exact fun c => c)]; exact A_he
            have A30 : tQ (ez_I h20 114) (ez_I h20 113) n.toInt.toNat (k.toInt.toNat + 1) s.toInt (p.toInt + 2) := by rw [zG_fn F21 113 (by decide) (by omega)]; exact tQ_p A_tq k22 A_hq (by omega) (by omega) (by omega) (by omega) (by omega) (by omega) (by omega)
            have A31 : hE (ez_I h20 114) n.toInt.toNat := by
              by_cases c : 1 ≤ k.toInt
              · exact hE_k k22 (A_ge c) (by omega) (by omega)
              · exact hE_0 k22 A_he A_hq (by omega) (by omega) (by omega)
            refine z_inc rfl (by rw [show (2 : Int32).toInt = 2 from rfl]; omega) (fun x32 ex32 => ?_)
            rw [show (2 : Int32).toInt = 2 from rfl] at ex32
            show ez_gw _ _ _ _ _ _ _ _ [some (.ref 71), some (.ref u), some (.int al), some (.int li), some (.ref w), some (.int n), some (.int r), some (.int t), some (.int x32), some (.int s), some (.int k), some (.int x10), l12] _ _ _
            refine z_inc rfl (by rw [show (1 : Int32).toInt = 1 from rfl]; omega) (fun x33 ex33 => ?_)
            rw [show (1 : Int32).toInt = 1 from rfl] at ex33
            show ez_gw _ _ _ _ _ _ _ _ [some (.ref 71), some (.ref u), some (.int al), some (.int li), some (.ref w), some (.int n), some (.int r), some (.int t), some (.int x32), some (.int s), some (.int x33), some (.int x10), l12] _ _ _
            refine z_go ?_
            exact ih.2.1 h20 n r t x32 s x33 (some (.int x10)) (l12) F24 (by omega) A25 A26 A27 A28 A29 (fun _ => A31) ((by rw [show x33.toInt.toNat = k.toInt.toNat + 1 by omega, show x32.toInt = p.toInt + 2 by omega]; exact A30)) (by omega)
          · have c11 : ¬ (x10.toInt = 0) := c11
            exfalso; omega
        · have c9 : ¬ (n.toInt ≤ s.toInt) := c9
          refine gw_ld rfl rfl ?_
          refine z_C (m := 1) rfl rfl (fun x34 ex34 => ?_)
          refine z_add (by omega) (fun x35 ex35 => ?_)
          refine gw_ld rfl rfl ?_
          refine z_b2 (fun c36 => ?_) (fun c36 => ?_)
          · have c36 : r.toInt ≤ x35.toInt := c36
            refine gw_skip _ ?_
            refine z_C (m := 1) rfl rfl (fun x37 ex37 => ?_)
            refine z_go ?_
            refine gw_skip _ ?_
            refine gw_st rfl rfl rfl ?_
            show ez_gw _ _ _ _ _ _ _ _ [some (.ref 71), some (.ref u), some (.int al), some (.int li), some (.ref w), some (.int n), some (.int r), some (.int t), some (.int p), some (.int s), some (.int k), some (.int x37), l12] _ _ _
            refine gw_ld rfl rfl ?_
            refine z_b1 (fun c38 => ?_) (fun c38 => ?_)
            · have c38 : x37.toInt = 0 := c38
              exfalso; omega
            · have c38 : ¬ (x37.toInt = 0) := c38
              refine gw_ld rfl rfl ?_
              refine gw_ld rfl rfl ?_
              refine gw_ld rfl rfl ?_
              refine gw_ld rfl rfl ?_
              refine gw_ld rfl rfl ?_
              refine z_gR (q := 110) (zT S2 (by decide) rfl) (zRf S2 (by decide) (by decide) rfl) (by decide) ?_
              refine gw_ld rfl rfl ?_
              refine z_ia (n := 288) (zT S2 (by decide) rfl) (zN S2 (by decide) rfl) (by omega) ?_
              generalize ex39 : ez_I h2 110 s.toInt.toNat = x39
              have rx39 := z_rng x39
              have yx39 := (A_sy s.toInt.toNat (by omega)).1
              rw [ex39] at yx39
              refine z_iaV (n := nu) ((hu _ S2).1) ((hu _ S2).2) (by omega) (zG_a F (by omega) (by omega)) ?_
              generalize ex40 : ez_I h u x39.toInt.toNat = x40
              have rx40 := z_rng x40
              refine z_C (m := 0) rfl rfl (fun x41 ex41 => ?_)
              refine z_C (m := 0) rfl rfl (fun x42 ex42 => ?_)
              refine gw_ld rfl rfl ?_
              refine z_cl rfl rfl rfl rfl rfl rfl rfl rfl rfl rfl rfl (zT S2 (by decide) rfl) ?_
              refine m_pp (k := k) (n := n) (w := x40) (a := x41) (b := x42) (o := s) S2 (by omega) (fun q => absurd q (by omega)) (fun h43 F44 k45 => ?_)
              have S46 := zG_sh F44 S2
              have F47 := zG_tr F (zG_mono F44 (fun k hk => by first | omega | exact False.elim hk) (fun k hk => by first | omega | exact False.elim hk))
              have A48 : aR (ez_I h43 w) al.toInt.toNat 0 0 := by rw [zG_fn F44 w (by omega) (by first | omega | exact fun c => c)]; exact A_to
              have A49 : syI (ez_I h43 110) n.toInt.toNat al.toInt := by rw [zG_fn F44 110 (by decide) (by first | omega | exact fun c => c)]; exact A_sy
              have A50 : eH n.toInt r.toInt t.toInt := by rw []; exact A_eh
              have A51 : hQ (ez_I h43 113) n.toInt.toNat r.toInt.toNat (fun _ => t.toInt) := by rw [zG_fn F44 113 (by decide) (by first | omega | exact fun c => c)]; exact A_hq
              have A52 : hE (ez_I h43 113) n.toInt.toNat := by rw [zG_fn F44 113 (by decide) (by first | omega | exact fun c => c)]; exact A_he
              have A53 : tQ (ez_I h43 114) (ez_I h43 113) n.toInt.toNat (k.toInt.toNat + 1) (s.toInt + 1) p.toInt := by rw [zG_fn F44 113 (by decide) (by omega)]; exact tQ_s A_tq k45 (by omega) (by omega) (by omega) (by omega)
              have A54 : hE (ez_I h43 114) n.toInt.toNat := by
                by_cases c : 1 ≤ k.toInt
                · exact hE_k k45 (A_ge c) (by omega) (by omega)
                · exact hE_0 k45 A_he A_hq (by omega) (by omega) (by omega)
              refine z_inc rfl (by rw [show (1 : Int32).toInt = 1 from rfl]; omega) (fun x55 ex55 => ?_)
              rw [show (1 : Int32).toInt = 1 from rfl] at ex55
              show ez_gw _ _ _ _ _ _ _ _ [some (.ref 71), some (.ref u), some (.int al), some (.int li), some (.ref w), some (.int n), some (.int r), some (.int t), some (.int p), some (.int x55), some (.int k), some (.int x37), l12] _ _ _
              refine z_go ?_
              refine gw_skip _ ?_
              refine z_inc rfl (by rw [show (1 : Int32).toInt = 1 from rfl]; omega) (fun x56 ex56 => ?_)
              rw [show (1 : Int32).toInt = 1 from rfl] at ex56
              show ez_gw _ _ _ _ _ _ _ _ [some (.ref 71), some (.ref u), some (.int al), some (.int li), some (.ref w), some (.int n), some (.int r), some (.int t), some (.int p), some (.int x55), some (.int x56), some (.int x37), l12] _ _ _
              refine z_go ?_
              exact ih.2.1 h43 n r t p x55 x56 (some (.int x37)) (l12) F47 (by omega) A48 A49 A50 A51 A52 (fun _ => A54) ((by rw [show x56.toInt.toNat = k.toInt.toNat + 1 by omega, show x55.toInt = s.toInt + 1 by omega]; exact A53)) (by omega)
          · have c36 : ¬ (r.toInt ≤ x35.toInt) := c36
            refine gw_ld rfl rfl ?_
            refine gw_ld rfl rfl ?_
            refine z_gR (q := 110) (zT S2 (by decide) rfl) (zRf S2 (by decide) (by decide) rfl) (by decide) ?_
            refine gw_ld rfl rfl ?_
            refine z_ia (n := 288) (zT S2 (by decide) rfl) (zN S2 (by decide) rfl) (by omega) ?_
            generalize ex57 : ez_I h2 110 s.toInt.toNat = x57
            have rx57 := z_rng x57
            have yx57 := (A_sy s.toInt.toNat (by omega)).1
            rw [ex57] at yx57
            refine z_iaV (n := nu) ((hu _ S2).1) ((hu _ S2).2) (by omega) (zG_a F (by omega) (by omega)) ?_
            generalize ex58 : ez_I h u x57.toInt.toNat = x58
            have rx58 := z_rng x58
            refine gw_ld rfl rfl ?_
            refine z_gR (q := 111) (zT S2 (by decide) rfl) (zRf S2 (by decide) (by decide) rfl) (by decide) ?_
            refine gw_ld rfl rfl ?_
            refine z_ia (n := 600) (zT S2 (by decide) rfl) (zN S2 (by decide) rfl) (by omega) ?_
            generalize ex59 : ez_I h2 111 p.toInt.toNat = x59
            have rx59 := z_rng x59
            refine gw_ld rfl rfl ?_
            refine z_gR (q := 111) (zT S2 (by decide) rfl) (zRf S2 (by decide) (by decide) rfl) (by decide) ?_
            refine gw_ld rfl rfl ?_
            refine z_C (m := 1) rfl rfl (fun x60 ex60 => ?_)
            refine z_add (by omega) (fun x61 ex61 => ?_)
            refine z_ia (n := 600) (zT S2 (by decide) rfl) (zN S2 (by decide) rfl) (by omega) ?_
            generalize ex62 : ez_I h2 111 x61.toInt.toNat = x62
            have rx62 := z_rng x62
            refine z_addW (fun x63 ex63 => ?_)
            have rx63 := z_rng x63
            refine z_b2 (fun c64 => ?_) (fun c64 => ?_)
            · have c64 : x63.toInt < x58.toInt := c64
              refine gw_skip _ ?_
              refine z_C (m := 0) rfl rfl (fun x65 ex65 => ?_)
              refine gw_st rfl rfl rfl ?_
              show ez_gw _ _ _ _ _ _ _ _ [some (.ref 71), some (.ref u), some (.int al), some (.int li), some (.ref w), some (.int n), some (.int r), some (.int t), some (.int p), some (.int s), some (.int k), some (.int x65), l12] _ _ _
              refine gw_ld rfl rfl ?_
              refine z_b1 (fun c66 => ?_) (fun c66 => ?_)
              · have c66 : x65.toInt = 0 := c66
                refine gw_skip _ ?_
                refine gw_ld rfl rfl ?_
                refine gw_ld rfl rfl ?_
                refine gw_ld rfl rfl ?_
                refine gw_ld rfl rfl ?_
                refine z_gR (q := 111) (zT S2 (by decide) rfl) (zRf S2 (by decide) (by decide) rfl) (by decide) ?_
                refine gw_ld rfl rfl ?_
                refine z_iaV (n := 600) (zT S2 (by decide) rfl) (zN S2 (by decide) rfl) (by omega) ex59 ?_
                refine gw_ld rfl rfl ?_
                refine z_gR (q := 111) (zT S2 (by decide) rfl) (zRf S2 (by decide) (by decide) rfl) (by decide) ?_
                refine gw_ld rfl rfl ?_
                refine z_C (m := 1) rfl rfl (fun x68 ex68 => ?_)
                refine z_add (by omega) (fun x69 ex69 => ?_)
                refine z_ia (n := 600) (zT S2 (by decide) rfl) (zN S2 (by decide) rfl) (by omega) ?_
                generalize ex70 : ez_I h2 111 x69.toInt.toNat = x70
                have rx70 := z_rng x70
                refine z_addW (fun x71 ex71 => ?_)
                have rx71 := z_rng x71
                refine gw_ld rfl rfl ?_
                refine gw_ld rfl rfl ?_
                refine z_C (m := 1) rfl rfl (fun x72 ex72 => ?_)
                refine z_add (by omega) (fun x73 ex73 => ?_)
                refine z_C (m := -1) rfl rfl (fun x74 ex74 => ?_)
                refine z_cl rfl rfl rfl rfl rfl rfl rfl rfl rfl rfl rfl (zT S2 (by decide) rfl) ?_
                refine m_pp (k := k) (n := n) (w := x71) (a := p) (b := x73) (o := x74) S2 (by omega) (fun _ j hj => by first | exact ⟨(fun z => ⟨z.1, by omega⟩) (hQ_ent A_hq (by omega) hj), (fun z => ⟨z.1, by omega⟩) (hQ_ent A_hq (by omega) hj)⟩) (fun h75 F76 k77 => ?_)
                have S78 := zG_sh F76 S2
                have F79 := zG_tr F (zG_mono F76 (fun k hk => by first | omega | exact False.elim hk) (fun k hk => by first | omega | exact False.elim hk))
                have A80 : aR (ez_I h75 w) al.toInt.toNat 0 0 := by rw [zG_fn F76 w (by omega) (by first | omega | exact fun c => c)]; exact A_to
                have A81 : syI (ez_I h75 110) n.toInt.toNat al.toInt := by rw [zG_fn F76 110 (by decide) (by first | omega | exact fun c => c)]; exact A_sy
                have A82 : eH n.toInt r.toInt t.toInt := by rw []; exact A_eh
                have A83 : hQ (ez_I h75 113) n.toInt.toNat r.toInt.toNat (fun _ => t.toInt) := by rw [zG_fn F76 113 (by decide) (by first | omega | exact fun c => c)]; exact A_hq
                have A84 : hE (ez_I h75 113) n.toInt.toNat := by rw [zG_fn F76 113 (by decide) (by first | omega | exact fun c => c)]; exact A_he
                have A85 : tQ (ez_I h75 114) (ez_I h75 113) n.toInt.toNat (k.toInt.toNat + 1) s.toInt (p.toInt + 2) := by rw [zG_fn F76 113 (by decide) (by omega)]; exact tQ_p A_tq k77 A_hq (by omega) (by omega) (by omega) (by omega) (by omega) (by omega) (by omega)
                have A86 : hE (ez_I h75 114) n.toInt.toNat := by
                  by_cases c : 1 ≤ k.toInt
                  · exact hE_k k77 (A_ge c) (by omega) (by omega)
                  · exact hE_0 k77 A_he A_hq (by omega) (by omega) (by omega)
                refine z_inc rfl (by rw [show (2 : Int32).toInt = 2 from rfl]; omega) (fun x87 ex87 => ?_)
                rw [show (2 : Int32).toInt = 2 from rfl] at ex87
                show ez_gw _ _ _ _ _ _ _ _ [some (.ref 71), some (.ref u), some (.int al), some (.int li), some (.ref w), some (.int n), some (.int r), some (.int t), some (.int x87), some (.int s), some (.int k), some (.int x65), l12] _ _ _
                refine z_inc rfl (by rw [show (1 : Int32).toInt = 1 from rfl]; omega) (fun x88 ex88 => ?_)
                rw [show (1 : Int32).toInt = 1 from rfl] at ex88
                show ez_gw _ _ _ _ _ _ _ _ [some (.ref 71), some (.ref u), some (.int al), some (.int li), some (.ref w), some (.int n), some (.int r), some (.int t), some (.int x87), some (.int s), some (.int x88), some (.int x65), l12] _ _ _
                refine z_go ?_
                exact ih.2.1 h75 n r t x87 s x88 (some (.int x65)) (l12) F79 (by omega) A80 A81 A82 A83 A84 (fun _ => A86) ((by rw [show x88.toInt.toNat = k.toInt.toNat + 1 by omega, show x87.toInt = p.toInt + 2 by omega]; exact A85)) (by omega)
              · have c66 : ¬ (x65.toInt = 0) := c66
                exfalso; omega
            · have c64 : ¬ (x63.toInt < x58.toInt) := c64
              refine z_C (m := 1) rfl rfl (fun x89 ex89 => ?_)
              refine z_go ?_
              refine gw_skip _ ?_
              refine gw_st rfl rfl rfl ?_
              show ez_gw _ _ _ _ _ _ _ _ [some (.ref 71), some (.ref u), some (.int al), some (.int li), some (.ref w), some (.int n), some (.int r), some (.int t), some (.int p), some (.int s), some (.int k), some (.int x89), l12] _ _ _
              refine gw_ld rfl rfl ?_
              refine z_b1 (fun c90 => ?_) (fun c90 => ?_)
              · have c90 : x89.toInt = 0 := c90
                exfalso; omega
              · have c90 : ¬ (x89.toInt = 0) := c90
                refine gw_ld rfl rfl ?_
                refine gw_ld rfl rfl ?_
                refine gw_ld rfl rfl ?_
                refine gw_ld rfl rfl ?_
                refine gw_ld rfl rfl ?_
                refine z_gR (q := 110) (zT S2 (by decide) rfl) (zRf S2 (by decide) (by decide) rfl) (by decide) ?_
                refine gw_ld rfl rfl ?_
                refine z_iaV (n := 288) (zT S2 (by decide) rfl) (zN S2 (by decide) rfl) (by omega) ex57 ?_
                refine z_iaV (n := nu) ((hu _ S2).1) ((hu _ S2).2) (by omega) ((zG_a F (by omega) (by omega)).trans ex58) ?_
                refine z_C (m := 0) rfl rfl (fun x93 ex93 => ?_)
                refine z_C (m := 0) rfl rfl (fun x94 ex94 => ?_)
                refine gw_ld rfl rfl ?_
                refine z_cl rfl rfl rfl rfl rfl rfl rfl rfl rfl rfl rfl (zT S2 (by decide) rfl) ?_
                refine m_pp (k := k) (n := n) (w := x58) (a := x93) (b := x94) (o := s) S2 (by omega) (fun q => absurd q (by omega)) (fun h95 F96 k97 => ?_)
                have S98 := zG_sh F96 S2
                have F99 := zG_tr F (zG_mono F96 (fun k hk => by first | omega | exact False.elim hk) (fun k hk => by first | omega | exact False.elim hk))
                have A100 : aR (ez_I h95 w) al.toInt.toNat 0 0 := by rw [zG_fn F96 w (by omega) (by first | omega | exact fun c => c)]; exact A_to
                have A101 : syI (ez_I h95 110) n.toInt.toNat al.toInt := by rw [zG_fn F96 110 (by decide) (by first | omega | exact fun c => c)]; exact A_sy
                have A102 : eH n.toInt r.toInt t.toInt := by rw []; exact A_eh
                have A103 : hQ (ez_I h95 113) n.toInt.toNat r.toInt.toNat (fun _ => t.toInt) := by rw [zG_fn F96 113 (by decide) (by first | omega | exact fun c => c)]; exact A_hq
                have A104 : hE (ez_I h95 113) n.toInt.toNat := by rw [zG_fn F96 113 (by decide) (by first | omega | exact fun c => c)]; exact A_he
                have A105 : tQ (ez_I h95 114) (ez_I h95 113) n.toInt.toNat (k.toInt.toNat + 1) (s.toInt + 1) p.toInt := by rw [zG_fn F96 113 (by decide) (by omega)]; exact tQ_s A_tq k97 (by omega) (by omega) (by omega) (by omega)
                have A106 : hE (ez_I h95 114) n.toInt.toNat := by
                  by_cases c : 1 ≤ k.toInt
                  · exact hE_k k97 (A_ge c) (by omega) (by omega)
                  · exact hE_0 k97 A_he A_hq (by omega) (by omega) (by omega)
                refine z_inc rfl (by rw [show (1 : Int32).toInt = 1 from rfl]; omega) (fun x107 ex107 => ?_)
                rw [show (1 : Int32).toInt = 1 from rfl] at ex107
                show ez_gw _ _ _ _ _ _ _ _ [some (.ref 71), some (.ref u), some (.int al), some (.int li), some (.ref w), some (.int n), some (.int r), some (.int t), some (.int p), some (.int x107), some (.int k), some (.int x89), l12] _ _ _
                refine z_go ?_
                refine gw_skip _ ?_
                refine z_inc rfl (by rw [show (1 : Int32).toInt = 1 from rfl]; omega) (fun x108 ex108 => ?_)
                rw [show (1 : Int32).toInt = 1 from rfl] at ex108
                show ez_gw _ _ _ _ _ _ _ _ [some (.ref 71), some (.ref u), some (.int al), some (.int li), some (.ref w), some (.int n), some (.int r), some (.int t), some (.int p), some (.int x107), some (.int x108), some (.int x89), l12] _ _ _
                refine z_go ?_
                exact ih.2.1 h95 n r t p x107 x108 (some (.int x89)) (l12) F99 (by omega) A100 A101 A102 A103 A104 (fun _ => A106) ((by rw [show x108.toInt.toNat = k.toInt.toNat + 1 by omega, show x107.toInt = s.toInt + 1 by omega]; exact A105)) (by omega)
      · have c8 : ¬ (x7.toInt < r.toInt) := c8
        refine gw_ld rfl rfl ?_
        refine gw_ld rfl rfl ?_
        refine z_b2 (fun c109 => ?_) (fun c109 => ?_)
        · have c109 : n.toInt ≤ s.toInt := c109
          refine gw_skip _ ?_
          refine gw_ld rfl rfl ?_
          refine gw_st rfl rfl rfl ?_
          show ez_gw _ _ _ _ _ _ _ _ [some (.ref 71), some (.ref u), some (.int al), some (.int li), some (.ref w), some (.int n), some (.int k), some (.int t), some (.int p), some (.int s), some (.int k), l11, l12] _ _ _
          refine z_C (m := 0) rfl rfl (fun x110 ex110 => ?_)
          refine gw_st rfl rfl rfl ?_
          show ez_gw _ _ _ _ _ _ _ _ [some (.ref 71), some (.ref u), some (.int al), some (.int li), some (.ref w), some (.int n), some (.int k), some (.int t), some (.int p), some (.int s), some (.int k), some (.int x110), l12] _ _ _
          exact ez_Wp_at (ih.2.2.1 h2 n k t p s k x110 (l12) F (by omega) A_to A_sy (eH_up (p := p.toInt) (k := k.toInt) A_eh (by omega) (by omega) (by omega) (by omega) (by omega)) (tQ_end A_tq A_hq (by omega) (by omega)) (A_ge (by omega)) (cpI_0 (by omega)) (by omega)) rfl
        · have c109 : ¬ (n.toInt ≤ s.toInt) := c109
          refine gw_ld rfl rfl ?_
          refine gw_ld rfl rfl ?_
          refine z_b2 (fun c111 => ?_) (fun c111 => ?_)
          · have c111 : n.toInt ≤ s.toInt := c111
            exfalso; omega
          · have c111 : ¬ (n.toInt ≤ s.toInt) := c111
            refine gw_ld rfl rfl ?_
            refine z_C (m := 1) rfl rfl (fun x112 ex112 => ?_)
            refine z_add (by omega) (fun x113 ex113 => ?_)
            refine gw_ld rfl rfl ?_
            refine z_b2 (fun c114 => ?_) (fun c114 => ?_)
            · have c114 : r.toInt ≤ x113.toInt := c114
              refine gw_skip _ ?_
              refine z_C (m := 1) rfl rfl (fun x115 ex115 => ?_)
              refine z_go ?_
              refine gw_skip _ ?_
              refine gw_st rfl rfl rfl ?_
              show ez_gw _ _ _ _ _ _ _ _ [some (.ref 71), some (.ref u), some (.int al), some (.int li), some (.ref w), some (.int n), some (.int r), some (.int t), some (.int p), some (.int s), some (.int k), some (.int x115), l12] _ _ _
              refine gw_ld rfl rfl ?_
              refine z_b1 (fun c116 => ?_) (fun c116 => ?_)
              · have c116 : x115.toInt = 0 := c116
                exfalso; omega
              · have c116 : ¬ (x115.toInt = 0) := c116
                refine gw_ld rfl rfl ?_
                refine gw_ld rfl rfl ?_
                refine gw_ld rfl rfl ?_
                refine gw_ld rfl rfl ?_
                refine gw_ld rfl rfl ?_
                refine z_gR (q := 110) (zT S2 (by decide) rfl) (zRf S2 (by decide) (by decide) rfl) (by decide) ?_
                refine gw_ld rfl rfl ?_
                refine z_ia (n := 288) (zT S2 (by decide) rfl) (zN S2 (by decide) rfl) (by omega) ?_
                generalize ex117 : ez_I h2 110 s.toInt.toNat = x117
                have rx117 := z_rng x117
                have yx117 := (A_sy s.toInt.toNat (by omega)).1
                rw [ex117] at yx117
                refine z_iaV (n := nu) ((hu _ S2).1) ((hu _ S2).2) (by omega) (zG_a F (by omega) (by omega)) ?_
                generalize ex118 : ez_I h u x117.toInt.toNat = x118
                have rx118 := z_rng x118
                refine z_C (m := 0) rfl rfl (fun x119 ex119 => ?_)
                refine z_C (m := 0) rfl rfl (fun x120 ex120 => ?_)
                refine gw_ld rfl rfl ?_
                refine z_cl rfl rfl rfl rfl rfl rfl rfl rfl rfl rfl rfl (zT S2 (by decide) rfl) ?_
                refine m_pp (k := k) (n := n) (w := x118) (a := x119) (b := x120) (o := s) S2 (by omega) (fun q => absurd q (by omega)) (fun h121 F122 k123 => ?_)
                have S124 := zG_sh F122 S2
                have F125 := zG_tr F (zG_mono F122 (fun k hk => by first | omega | exact False.elim hk) (fun k hk => by first | omega | exact False.elim hk))
                have A126 : aR (ez_I h121 w) al.toInt.toNat 0 0 := by rw [zG_fn F122 w (by omega) (by first | omega | exact fun c => c)]; exact A_to
                have A127 : syI (ez_I h121 110) n.toInt.toNat al.toInt := by rw [zG_fn F122 110 (by decide) (by first | omega | exact fun c => c)]; exact A_sy
                have A128 : eH n.toInt r.toInt t.toInt := by rw []; exact A_eh
                have A129 : hQ (ez_I h121 113) n.toInt.toNat r.toInt.toNat (fun _ => t.toInt) := by rw [zG_fn F122 113 (by decide) (by first | omega | exact fun c => c)]; exact A_hq
                have A130 : hE (ez_I h121 113) n.toInt.toNat := by rw [zG_fn F122 113 (by decide) (by first | omega | exact fun c => c)]; exact A_he
                have A131 : tQ (ez_I h121 114) (ez_I h121 113) n.toInt.toNat (k.toInt.toNat + 1) (s.toInt + 1) p.toInt := by rw [zG_fn F122 113 (by decide) (by omega)]; exact tQ_s A_tq k123 (by omega) (by omega) (by omega) (by omega)
                have A132 : hE (ez_I h121 114) n.toInt.toNat := by
                  by_cases c : 1 ≤ k.toInt
                  · exact hE_k k123 (A_ge c) (by omega) (by omega)
                  · exact hE_0 k123 A_he A_hq (by omega) (by omega) (by omega)
                refine z_inc rfl (by rw [show (1 : Int32).toInt = 1 from rfl]; omega) (fun x133 ex133 => ?_)
                rw [show (1 : Int32).toInt = 1 from rfl] at ex133
                show ez_gw _ _ _ _ _ _ _ _ [some (.ref 71), some (.ref u), some (.int al), some (.int li), some (.ref w), some (.int n), some (.int r), some (.int t), some (.int p), some (.int x133), some (.int k), some (.int x115), l12] _ _ _
                refine z_go ?_
                refine gw_skip _ ?_
                refine z_inc rfl (by rw [show (1 : Int32).toInt = 1 from rfl]; omega) (fun x134 ex134 => ?_)
                rw [show (1 : Int32).toInt = 1 from rfl] at ex134
                show ez_gw _ _ _ _ _ _ _ _ [some (.ref 71), some (.ref u), some (.int al), some (.int li), some (.ref w), some (.int n), some (.int r), some (.int t), some (.int p), some (.int x133), some (.int x134), some (.int x115), l12] _ _ _
                refine z_go ?_
                exact ih.2.1 h121 n r t p x133 x134 (some (.int x115)) (l12) F125 (by omega) A126 A127 A128 A129 A130 (fun _ => A132) ((by rw [show x134.toInt.toNat = k.toInt.toNat + 1 by omega, show x133.toInt = s.toInt + 1 by omega]; exact A131)) (by omega)
            · have c114 : ¬ (r.toInt ≤ x113.toInt) := c114
              refine gw_ld rfl rfl ?_
              refine gw_ld rfl rfl ?_
              refine z_gR (q := 110) (zT S2 (by decide) rfl) (zRf S2 (by decide) (by decide) rfl) (by decide) ?_
              refine gw_ld rfl rfl ?_
              refine z_ia (n := 288) (zT S2 (by decide) rfl) (zN S2 (by decide) rfl) (by omega) ?_
              generalize ex135 : ez_I h2 110 s.toInt.toNat = x135
              have rx135 := z_rng x135
              have yx135 := (A_sy s.toInt.toNat (by omega)).1
              rw [ex135] at yx135
              refine z_iaV (n := nu) ((hu _ S2).1) ((hu _ S2).2) (by omega) (zG_a F (by omega) (by omega)) ?_
              generalize ex136 : ez_I h u x135.toInt.toNat = x136
              have rx136 := z_rng x136
              refine gw_ld rfl rfl ?_
              refine z_gR (q := 111) (zT S2 (by decide) rfl) (zRf S2 (by decide) (by decide) rfl) (by decide) ?_
              refine gw_ld rfl rfl ?_
              refine z_ia (n := 600) (zT S2 (by decide) rfl) (zN S2 (by decide) rfl) (by omega) ?_
              generalize ex137 : ez_I h2 111 p.toInt.toNat = x137
              have rx137 := z_rng x137
              refine gw_ld rfl rfl ?_
              refine z_gR (q := 111) (zT S2 (by decide) rfl) (zRf S2 (by decide) (by decide) rfl) (by decide) ?_
              refine gw_ld rfl rfl ?_
              refine z_C (m := 1) rfl rfl (fun x138 ex138 => ?_)
              refine z_add (by omega) (fun x139 ex139 => ?_)
              refine z_ia (n := 600) (zT S2 (by decide) rfl) (zN S2 (by decide) rfl) (by omega) ?_
              generalize ex140 : ez_I h2 111 x139.toInt.toNat = x140
              have rx140 := z_rng x140
              refine z_addW (fun x141 ex141 => ?_)
              have rx141 := z_rng x141
              refine z_b2 (fun c142 => ?_) (fun c142 => ?_)
              · have c142 : x141.toInt < x136.toInt := c142
                refine gw_skip _ ?_
                refine z_C (m := 0) rfl rfl (fun x143 ex143 => ?_)
                refine gw_st rfl rfl rfl ?_
                show ez_gw _ _ _ _ _ _ _ _ [some (.ref 71), some (.ref u), some (.int al), some (.int li), some (.ref w), some (.int n), some (.int r), some (.int t), some (.int p), some (.int s), some (.int k), some (.int x143), l12] _ _ _
                refine gw_ld rfl rfl ?_
                refine z_b1 (fun c144 => ?_) (fun c144 => ?_)
                · have c144 : x143.toInt = 0 := c144
                  refine gw_skip _ ?_
                  refine gw_ld rfl rfl ?_
                  refine gw_ld rfl rfl ?_
                  refine gw_ld rfl rfl ?_
                  refine gw_ld rfl rfl ?_
                  refine z_gR (q := 111) (zT S2 (by decide) rfl) (zRf S2 (by decide) (by decide) rfl) (by decide) ?_
                  refine gw_ld rfl rfl ?_
                  refine z_iaV (n := 600) (zT S2 (by decide) rfl) (zN S2 (by decide) rfl) (by omega) ex137 ?_
                  refine gw_ld rfl rfl ?_
                  refine z_gR (q := 111) (zT S2 (by decide) rfl) (zRf S2 (by decide) (by decide) rfl) (by decide) ?_
                  refine gw_ld rfl rfl ?_
                  refine z_C (m := 1) rfl rfl (fun x146 ex146 => ?_)
                  refine z_add (by omega) (fun x147 ex147 => ?_)
                  refine z_ia (n := 600) (zT S2 (by decide) rfl) (zN S2 (by decide) rfl) (by omega) ?_
                  generalize ex148 : ez_I h2 111 x147.toInt.toNat = x148
                  have rx148 := z_rng x148
                  refine z_addW (fun x149 ex149 => ?_)
                  have rx149 := z_rng x149
                  refine gw_ld rfl rfl ?_
                  refine gw_ld rfl rfl ?_
                  refine z_C (m := 1) rfl rfl (fun x150 ex150 => ?_)
                  refine z_add (by omega) (fun x151 ex151 => ?_)
                  refine z_C (m := -1) rfl rfl (fun x152 ex152 => ?_)
                  refine z_cl rfl rfl rfl rfl rfl rfl rfl rfl rfl rfl rfl (zT S2 (by decide) rfl) ?_
                  refine m_pp (k := k) (n := n) (w := x149) (a := p) (b := x151) (o := x152) S2 (by omega) (fun _ j hj => by first | exact ⟨(fun z => ⟨z.1, by omega⟩) (hQ_ent A_hq (by omega) hj), (fun z => ⟨z.1, by omega⟩) (hQ_ent A_hq (by omega) hj)⟩) (fun h153 F154 k155 => ?_)
                  have S156 := zG_sh F154 S2
                  have F157 := zG_tr F (zG_mono F154 (fun k hk => by first | omega | exact False.elim hk) (fun k hk => by first | omega | exact False.elim hk))
                  have A158 : aR (ez_I h153 w) al.toInt.toNat 0 0 := by rw [zG_fn F154 w (by omega) (by first | omega | exact fun c => c)]; exact A_to
                  have A159 : syI (ez_I h153 110) n.toInt.toNat al.toInt := by rw [zG_fn F154 110 (by decide) (by first | omega | exact fun c => c)]; exact A_sy
                  have A160 : eH n.toInt r.toInt t.toInt := by rw []; exact A_eh
                  have A161 : hQ (ez_I h153 113) n.toInt.toNat r.toInt.toNat (fun _ => t.toInt) := by rw [zG_fn F154 113 (by decide) (by first | omega | exact fun c => c)]; exact A_hq
                  have A162 : hE (ez_I h153 113) n.toInt.toNat := by rw [zG_fn F154 113 (by decide) (by first | omega | exact fun c => c)]; exact A_he
                  have A163 : tQ (ez_I h153 114) (ez_I h153 113) n.toInt.toNat (k.toInt.toNat + 1) s.toInt (p.toInt + 2) := by rw [zG_fn F154 113 (by decide) (by omega)]; exact tQ_p A_tq k155 A_hq (by omega) (by omega) (by omega) (by omega) (by omega) (by omega) (by omega)
                  have A164 : hE (ez_I h153 114) n.toInt.toNat := by
                    by_cases c : 1 ≤ k.toInt
                    · exact hE_k k155 (A_ge c) (by omega) (by omega)
                    · exact hE_0 k155 A_he A_hq (by omega) (by omega) (by omega)
                  refine z_inc rfl (by rw [show (2 : Int32).toInt = 2 from rfl]; omega) (fun x165 ex165 => ?_)
                  rw [show (2 : Int32).toInt = 2 from rfl] at ex165
                  show ez_gw _ _ _ _ _ _ _ _ [some (.ref 71), some (.ref u), some (.int al), some (.int li), some (.ref w), some (.int n), some (.int r), some (.int t), some (.int x165), some (.int s), some (.int k), some (.int x143), l12] _ _ _
                  refine z_inc rfl (by rw [show (1 : Int32).toInt = 1 from rfl]; omega) (fun x166 ex166 => ?_)
                  rw [show (1 : Int32).toInt = 1 from rfl] at ex166
                  show ez_gw _ _ _ _ _ _ _ _ [some (.ref 71), some (.ref u), some (.int al), some (.int li), some (.ref w), some (.int n), some (.int r), some (.int t), some (.int x165), some (.int s), some (.int x166), some (.int x143), l12] _ _ _
                  refine z_go ?_
                  exact ih.2.1 h153 n r t x165 s x166 (some (.int x143)) (l12) F157 (by omega) A158 A159 A160 A161 A162 (fun _ => A164) ((by rw [show x166.toInt.toNat = k.toInt.toNat + 1 by omega, show x165.toInt = p.toInt + 2 by omega]; exact A163)) (by omega)
                · have c144 : ¬ (x143.toInt = 0) := c144
                  exfalso; omega
              · have c142 : ¬ (x141.toInt < x136.toInt) := c142
                refine z_C (m := 1) rfl rfl (fun x167 ex167 => ?_)
                refine z_go ?_
                refine gw_skip _ ?_
                refine gw_st rfl rfl rfl ?_
                show ez_gw _ _ _ _ _ _ _ _ [some (.ref 71), some (.ref u), some (.int al), some (.int li), some (.ref w), some (.int n), some (.int r), some (.int t), some (.int p), some (.int s), some (.int k), some (.int x167), l12] _ _ _
                refine gw_ld rfl rfl ?_
                refine z_b1 (fun c168 => ?_) (fun c168 => ?_)
                · have c168 : x167.toInt = 0 := c168
                  exfalso; omega
                · have c168 : ¬ (x167.toInt = 0) := c168
                  refine gw_ld rfl rfl ?_
                  refine gw_ld rfl rfl ?_
                  refine gw_ld rfl rfl ?_
                  refine gw_ld rfl rfl ?_
                  refine gw_ld rfl rfl ?_
                  refine z_gR (q := 110) (zT S2 (by decide) rfl) (zRf S2 (by decide) (by decide) rfl) (by decide) ?_
                  refine gw_ld rfl rfl ?_
                  refine z_iaV (n := 288) (zT S2 (by decide) rfl) (zN S2 (by decide) rfl) (by omega) ex135 ?_
                  refine z_iaV (n := nu) ((hu _ S2).1) ((hu _ S2).2) (by omega) ((zG_a F (by omega) (by omega)).trans ex136) ?_
                  refine z_C (m := 0) rfl rfl (fun x171 ex171 => ?_)
                  refine z_C (m := 0) rfl rfl (fun x172 ex172 => ?_)
                  refine gw_ld rfl rfl ?_
                  refine z_cl rfl rfl rfl rfl rfl rfl rfl rfl rfl rfl rfl (zT S2 (by decide) rfl) ?_
                  refine m_pp (k := k) (n := n) (w := x136) (a := x171) (b := x172) (o := s) S2 (by omega) (fun q => absurd q (by omega)) (fun h173 F174 k175 => ?_)
                  have S176 := zG_sh F174 S2
                  have F177 := zG_tr F (zG_mono F174 (fun k hk => by first | omega | exact False.elim hk) (fun k hk => by first | omega | exact False.elim hk))
                  have A178 : aR (ez_I h173 w) al.toInt.toNat 0 0 := by rw [zG_fn F174 w (by omega) (by first | omega | exact fun c => c)]; exact A_to
                  have A179 : syI (ez_I h173 110) n.toInt.toNat al.toInt := by rw [zG_fn F174 110 (by decide) (by first | omega | exact fun c => c)]; exact A_sy
                  have A180 : eH n.toInt r.toInt t.toInt := by rw []; exact A_eh
                  have A181 : hQ (ez_I h173 113) n.toInt.toNat r.toInt.toNat (fun _ => t.toInt) := by rw [zG_fn F174 113 (by decide) (by first | omega | exact fun c => c)]; exact A_hq
                  have A182 : hE (ez_I h173 113) n.toInt.toNat := by rw [zG_fn F174 113 (by decide) (by first | omega | exact fun c => c)]; exact A_he
                  have A183 : tQ (ez_I h173 114) (ez_I h173 113) n.toInt.toNat (k.toInt.toNat + 1) (s.toInt + 1) p.toInt := by rw [zG_fn F174 113 (by decide) (by omega)]; exact tQ_s A_tq k175 (by omega) (by omega) (by omega) (by omega)
                  have A184 : hE (ez_I h173 114) n.toInt.toNat := by
                    by_cases c : 1 ≤ k.toInt
                    · exact hE_k k175 (A_ge c) (by omega) (by omega)
                    · exact hE_0 k175 A_he A_hq (by omega) (by omega) (by omega)
                  refine z_inc rfl (by rw [show (1 : Int32).toInt = 1 from rfl]; omega) (fun x185 ex185 => ?_)
                  rw [show (1 : Int32).toInt = 1 from rfl] at ex185
                  show ez_gw _ _ _ _ _ _ _ _ [some (.ref 71), some (.ref u), some (.int al), some (.int li), some (.ref w), some (.int n), some (.int r), some (.int t), some (.int p), some (.int x185), some (.int k), some (.int x167), l12] _ _ _
                  refine z_go ?_
                  refine gw_skip _ ?_
                  refine z_inc rfl (by rw [show (1 : Int32).toInt = 1 from rfl]; omega) (fun x186 ex186 => ?_)
                  rw [show (1 : Int32).toInt = 1 from rfl] at ex186
                  show ez_gw _ _ _ _ _ _ _ _ [some (.ref 71), some (.ref u), some (.int al), some (.int li), some (.ref w), some (.int n), some (.int r), some (.int t), some (.int p), some (.int x185), some (.int x186), some (.int x167), l12] _ _ _
                  refine z_go ?_
                  exact ih.2.1 h173 n r t p x185 x186 (some (.int x167)) (l12) F177 (by omega) A178 A179 A180 A181 A182 (fun _ => A184) ((by rw [show x186.toInt.toNat = k.toInt.toNat + 1 by omega, show x185.toInt = s.toInt + 1 by omega]; exact A183)) (by omega)
    · skip
      have w_n := z_rng n
      have w_r := z_rng r
      have w_t := z_rng t
      have w_p := z_rng p
      have w_s := z_rng s
      have w_k := z_rng k
      have w_i := z_rng i
      have gal := z_rng al
      have gli := z_rng li
      have S2 := zG_sh F S
      apply ez_Wp_in
      show ez_gw _ _ _ _ _ _ (cz_36) _ _ _ _ _
      refine gw_skip _ ?_
      refine gw_ld rfl rfl ?_
      refine gw_ld rfl rfl ?_
      refine z_b2 (fun c187 => ?_) (fun c187 => ?_)
      · have c187 : r.toInt ≤ i.toInt := c187
        refine gw_skip _ ?_
        refine z_inc rfl (by rw [show (1 : Int32).toInt = 1 from rfl]; omega) (fun x188 ex188 => ?_)
        rw [show (1 : Int32).toInt = 1 from rfl] at ex188
        show ez_gw _ _ _ _ _ _ _ _ [some (.ref 71), some (.ref u), some (.int al), some (.int li), some (.ref w), some (.int n), some (.int r), some (.int x188), some (.int p), some (.int s), some (.int k), some (.int i), l12] _ _ _
        refine z_go ?_
        exact ih.1 h2 n r x188 (some (.int p)) (some (.int s)) (some (.int k)) (some (.int i)) (l12) F (by omega) A_to A_sy ((by rw [show (x188).toInt = t.toInt + 1 by omega]; exact A_eh)) ((by rw [show x188.toInt = t.toInt + 1 by omega]; exact hQ_cp A_hg A_cp (by omega))) (hE_cp A_ge A_cp (by omega)) (by omega)
      · have c187 : ¬ (r.toInt ≤ i.toInt) := c187
        refine gw_ld rfl rfl ?_
        refine z_gR (q := 111) (zT S2 (by decide) rfl) (zRf S2 (by decide) (by decide) rfl) (by decide) ?_
        refine gw_ld rfl rfl ?_
        refine gw_ld rfl rfl ?_
        refine z_gR (q := 112) (zT S2 (by decide) rfl) (zRf S2 (by decide) (by decide) rfl) (by decide) ?_
        refine gw_ld rfl rfl ?_
        refine z_ia (n := 600) (zT S2 (by decide) rfl) (zN S2 (by decide) rfl) (by omega) ?_
        generalize ex189 : ez_I h2 112 i.toInt.toNat = x189
        have rx189 := z_rng x189
        refine z_is (n := 600) (zT S2 (by decide) rfl) (zN S2 (by decide) rfl) (by omega) (fun h190 e191 => ?_)
        have S192 := zSh_set S2 e191
        have F193 := zG_setA F e191 (by decide) (by omega)
        have A194 : aR (ez_I h190 w) al.toInt.toNat 0 0 := by rw [zI_fn e191 w (by omega)]; exact A_to
        have A195 : syI (ez_I h190 110) n.toInt.toNat al.toInt := by rw [zI_fn e191 110 (by decide)]; exact A_sy
        have A196 : eH n.toInt r.toInt (t.toInt + 1) := by rw []; exact A_eh
        have A197 : hQ (ez_I h190 114) n.toInt.toNat r.toInt.toNat (fun _ => t.toInt + 1) := by rw [zI_fn e191 114 (by decide)]; exact A_hg
        have A198 : hE (ez_I h190 114) n.toInt.toNat := by rw [zI_fn e191 114 (by decide)]; exact A_ge
        have A199 : cpI (ez_I h190 113) (ez_I h190 114) n.toInt.toNat i.toInt.toNat := by rw [zI_fn e191 113 (by decide), zI_fn e191 114 (by decide)]; exact A_cp
        refine z_C (m := 0) rfl rfl (fun x200 ex200 => ?_)
        refine gw_st rfl rfl rfl ?_
        show ez_gw _ _ _ _ _ _ _ _ [some (.ref 71), some (.ref u), some (.int al), some (.int li), some (.ref w), some (.int n), some (.int r), some (.int t), some (.int p), some (.int s), some (.int k), some (.int i), some (.int x200)] _ _ _
        exact ez_Wp_at (ih.2.2.2 h190 n r t p s k i x200 F193 (by omega) A194 A195 A196 A197 A198 A199 (cpR_0 (by omega)) (by omega)) rfl
    · skip
      have w_n := z_rng n
      have w_r := z_rng r
      have w_t := z_rng t
      have w_p := z_rng p
      have w_s := z_rng s
      have w_k := z_rng k
      have w_i := z_rng i
      have w_j := z_rng j
      have gal := z_rng al
      have gli := z_rng li
      have S2 := zG_sh F S
      apply ez_Wp_in
      show ez_gw _ _ _ _ _ _ (cz_36) _ _ _ _ _
      refine gw_skip _ ?_
      refine gw_ld rfl rfl ?_
      refine gw_ld rfl rfl ?_
      refine z_b2 (fun c201 => ?_) (fun c201 => ?_)
      · have c201 : n.toInt ≤ j.toInt := c201
        refine gw_skip _ ?_
        refine z_inc rfl (by rw [show (1 : Int32).toInt = 1 from rfl]; omega) (fun x202 ex202 => ?_)
        rw [show (1 : Int32).toInt = 1 from rfl] at ex202
        show ez_gw _ _ _ _ _ _ _ _ [some (.ref 71), some (.ref u), some (.int al), some (.int li), some (.ref w), some (.int n), some (.int r), some (.int t), some (.int p), some (.int s), some (.int k), some (.int x202), some (.int j)] _ _ _
        refine z_go ?_
        exact ih.2.2.1 h2 n r t p s k x202 (some (.int j)) F (by omega) A_to A_sy (A_eh) (A_hg) (A_ge) (cpI_s A_cp (by rw [show n.toInt.toNat = j.toInt.toNat by omega]; exact A_cr) (by omega)) (by omega)
      · have c201 : ¬ (n.toInt ≤ j.toInt) := c201
        refine gw_ld rfl rfl ?_
        refine z_gR (q := 113) (zT S2 (by decide) rfl) (zRf S2 (by decide) (by decide) rfl) (by decide) ?_
        refine z_C (m := 288) rfl rfl (fun x203 ex203 => ?_)
        refine gw_ld rfl rfl ?_
        refine z_mulL (c := 288) ex203 (by omega) (fun x204 ex204 => ?_)
        refine gw_ld rfl rfl ?_
        refine z_add (by omega) (fun x205 ex205 => ?_)
        refine gw_ld rfl rfl ?_
        refine z_gR (q := 114) (zT S2 (by decide) rfl) (zRf S2 (by decide) (by decide) rfl) (by decide) ?_
        refine z_C (m := 288) rfl rfl (fun x206 ex206 => ?_)
        refine gw_ld rfl rfl ?_
        refine z_mulL (c := 288) ex206 (by omega) (fun x207 ex207 => ?_)
        refine gw_ld rfl rfl ?_
        refine z_add (by omega) (fun x208 ex208 => ?_)
        refine z_ia (n := 172800) (zT S2 (by decide) rfl) (zN S2 (by decide) rfl) (by omega) ?_
        generalize ex209 : ez_I h2 114 x208.toInt.toNat = x209
        have rx209 := z_rng x209
        refine z_is (n := 172800) (zT S2 (by decide) rfl) (zN S2 (by decide) rfl) (by omega) (fun h210 e211 => ?_)
        have S212 := zSh_set S2 e211
        have F213 := zG_setA F e211 (by decide) (by omega)
        have A214 : aR (ez_I h210 w) al.toInt.toNat 0 0 := by rw [zI_fn e211 w (by omega)]; exact A_to
        have A215 : syI (ez_I h210 110) n.toInt.toNat al.toInt := by rw [zI_fn e211 110 (by decide)]; exact A_sy
        have A216 : eH n.toInt r.toInt (t.toInt + 1) := by rw []; exact A_eh
        have A217 : hQ (ez_I h210 114) n.toInt.toNat r.toInt.toNat (fun _ => t.toInt + 1) := by rw [zI_fn e211 114 (by decide)]; exact A_hg
        have A218 : hE (ez_I h210 114) n.toInt.toNat := by rw [zI_fn e211 114 (by decide)]; exact A_ge
        have A219 : cpI (ez_I h210 113) (ez_I h210 114) n.toInt.toNat i.toInt.toNat := cpI_w A_cp e211 (by omega) (by omega)
        have A220 : cpR (ez_I h210 113) (ez_I h210 114) i.toInt.toNat (j.toInt.toNat + 1) := cpR_w A_cr e211 (by omega) ex209 (by omega)
        refine z_inc rfl (by rw [show (1 : Int32).toInt = 1 from rfl]; omega) (fun x221 ex221 => ?_)
        rw [show (1 : Int32).toInt = 1 from rfl] at ex221
        show ez_gw _ _ _ _ _ _ _ _ [some (.ref 71), some (.ref u), some (.int al), some (.int li), some (.ref w), some (.int n), some (.int r), some (.int t), some (.int p), some (.int s), some (.int k), some (.int i), some (.int x221)] _ _ _
        refine z_go ?_
        exact ih.2.2.2 h210 n r t p s k i x221 F213 (by omega) A214 A215 A216 A217 A218 A219 ((by rw [show x221.toInt.toNat = j.toInt.toNat + 1 by omega]; exact A220)) (by omega)
set_option maxRecDepth 4000 in
set_option maxHeartbeats 20000000 in
theorem m_len_L1 {E : Nat → Nat × (Nat → Int32)} {d : Nat} {Q : ez_Q} {h : ez_H} {u : Nat} {al : Int32} {li : Int32} {w : Nat} (S : zSh h) {nu nw : Nat} (hu : zA u nu) (hw : zA w nw) (hd : (u < 110 ∨ 114 < u) ∧ u ≠ 71 ∧ u ≠ w ∧ (w < 110 ∨ 114 < w) ∧ w ≠ 71) (hn : 1 ≤ al.toInt ∧ al.toInt ≤ nu ∧ al.toInt ≤ nw ∧ al.toInt ≤ 288 ∧ nu ≤ 1000 ∧ nw ≤ 1000) (hl : 1 ≤ li.toInt ∧ li.toInt ≤ 15) (K : ∀ h2, zG (fun _ => False) (fun q => 110 ≤ q ∧ q ≤ 114 ∨ q = w) h h2 → (al.toInt ≤ 2 ^ li.toInt.toNat → aR (ez_I h2 w) al.toInt.toNat 0 li.toInt) → (al.toInt ≤ 2 ^ li.toInt.toNat → (∀ s : Nat, s < al.toInt.toNat → (ez_I h2 w s).toInt = 0) → ∀ k : Nat, (k : Int) < al.toInt → (ez_I h u k).toInt = 0) → Q (.inl none) h2) : ∀ N : Nat, (∀ (h2 : ez_H) (n : Int32) (r : Int32) (k : Int32) (l8 : Option Value) (l9 : Option Value) (l10 : Option Value) (l11 : Option Value) (l12 : Option Value) , zG (fun _ => False) (fun q => 110 ≤ q ∧ q ≤ 114 ∨ q = w) h h2 → (2 ≤ n.toInt ∧ n.toInt ≤ al.toInt ∧ r.toInt = n.toInt ∧ 0 ≤ k.toInt ∧ k.toInt ≤ n.toInt) → aR (ez_I h2 w) al.toInt.toNat 0 0 → syI (ez_I h2 110) n.toInt.toNat al.toInt → hQ (ez_I h2 113) n.toInt.toNat k.toInt.toNat (lt1 k.toInt) → (1 ≤ k.toInt → hE (ez_I h2 113) n.toInt.toNat) → (1000 * (1000 - k.toInt)) < (N : Int) → pw E (d + 1) 36 125 [some (.ref 71), some (.ref u), some (.int al), some (.int li), some (.ref w), some (.int n), some (.int r), some (.int k), l8, l9, l10, l11, l12] [] h2 Q) ∧ (∀ (h2 : ez_H) (n : Int32) (r : Int32) (k : Int32) (j : Int32) (l9 : Option Value) (l10 : Option Value) (l11 : Option Value) (l12 : Option Value) , zG (fun _ => False) (fun q => 110 ≤ q ∧ q ≤ 114 ∨ q = w) h h2 → (2 ≤ n.toInt ∧ n.toInt ≤ al.toInt ∧ r.toInt = n.toInt ∧ 0 ≤ k.toInt ∧ k.toInt < n.toInt ∧ 0 ≤ j.toInt ∧ j.toInt ≤ n.toInt) → aR (ez_I h2 w) al.toInt.toNat 0 0 → syI (ez_I h2 110) n.toInt.toNat al.toInt → hQ (ez_I h2 113) n.toInt.toNat k.toInt.toNat (lt1 k.toInt) → (1 ≤ k.toInt → hE (ez_I h2 113) n.toInt.toNat) → rwI (ez_I h2 113) k.toInt.toNat (unit1 k.toInt.toNat) j.toInt.toNat → (1000 * (1000 - k.toInt) - 500 + (300 - j.toInt)) < (N : Int) → pw E (d + 1) 36 151 [some (.ref 71), some (.ref u), some (.int al), some (.int li), some (.ref w), some (.int n), some (.int r), some (.int k), some (.int j), l9, l10, l11, l12] [] h2 Q) := by
  intro N
  induction N with
  | zero => exact ⟨fun h2 n r k l8 l9 l10 l11 l12  F hinv A_to A_sy A_hq A_hz hm => absurd hm (by have w_n := z_rng n; have w_r := z_rng r; have w_k := z_rng k; have gal := z_rng al; have gli := z_rng li; omega), fun h2 n r k j l9 l10 l11 l12  F hinv A_to A_sy A_hq A_hz A_rw hm => absurd hm (by have w_n := z_rng n; have w_r := z_rng r; have w_k := z_rng k; have w_j := z_rng j; have gal := z_rng al; have gli := z_rng li; omega)⟩
  | succ N ih =>
    refine ⟨fun h2 n r k l8 l9 l10 l11 l12  F hinv A_to A_sy A_hq A_hz hm => ?_, fun h2 n r k j l9 l10 l11 l12  F hinv A_to A_sy A_hq A_hz A_rw hm => ?_⟩
    · skip
      have w_n := z_rng n
      have w_r := z_rng r
      have w_k := z_rng k
      have gal := z_rng al
      have gli := z_rng li
      have S2 := zG_sh F S
      apply ez_Wp_in
      show ez_gw _ _ _ _ _ _ (cz_36) _ _ _ _ _
      refine gw_skip _ ?_
      refine gw_ld rfl rfl ?_
      refine gw_ld rfl rfl ?_
      refine z_b2 (fun c1 => ?_) (fun c1 => ?_)
      · have c1 : n.toInt ≤ k.toInt := c1
        refine gw_skip _ ?_
        refine z_C (m := 1) rfl rfl (fun x2 ex2 => ?_)
        refine gw_st rfl rfl rfl ?_
        show ez_gw _ _ _ _ _ _ _ _ [some (.ref 71), some (.ref u), some (.int al), some (.int li), some (.ref w), some (.int n), some (.int r), some (.int x2), l8, l9, l10, l11, l12] _ _ _
        exact ez_Wp_at ((m_len_L2 (u := u) (al := al) (li := li) (w := w) S hu hw hd hn hl K (((1000000 * (20 - x2.toInt))).toNat + 1)).1 h2 n r x2 (l8) (l9) (l10) (l11) (l12) F (by omega) A_to A_sy (eH_1 (by omega) (by omega)) ((by rw [show r.toInt.toNat = k.toInt.toNat by omega, show x2.toInt = 1 by omega]; exact hQ_one A_hq)) (A_hz (by omega)) (by omega)) rfl
      · have c1 : ¬ (n.toInt ≤ k.toInt) := c1
        refine gw_ld rfl rfl ?_
        refine z_gR (q := 111) (zT S2 (by decide) rfl) (zRf S2 (by decide) (by decide) rfl) (by decide) ?_
        refine gw_ld rfl rfl ?_
        refine gw_ld rfl rfl ?_
        refine gw_ld rfl rfl ?_
        refine z_gR (q := 110) (zT S2 (by decide) rfl) (zRf S2 (by decide) (by decide) rfl) (by decide) ?_
        refine gw_ld rfl rfl ?_
        refine z_ia (n := 288) (zT S2 (by decide) rfl) (zN S2 (by decide) rfl) (by omega) ?_
        generalize ex3 : ez_I h2 110 k.toInt.toNat = x3
        have rx3 := z_rng x3
        have yx3 := (A_sy k.toInt.toNat (by omega)).1
        rw [ex3] at yx3
        refine z_iaV (n := nu) ((hu _ S2).1) ((hu _ S2).2) (by omega) (zG_a F (by omega) (by omega)) ?_
        generalize ex4 : ez_I h u x3.toInt.toNat = x4
        have rx4 := z_rng x4
        refine z_is (n := 600) (zT S2 (by decide) rfl) (zN S2 (by decide) rfl) (by omega) (fun h5 e6 => ?_)
        have S7 := zSh_set S2 e6
        have F8 := zG_setA F e6 (by decide) (by omega)
        have A9 : aR (ez_I h5 w) al.toInt.toNat 0 0 := by rw [zI_fn e6 w (by omega)]; exact A_to
        have A10 : syI (ez_I h5 110) n.toInt.toNat al.toInt := by rw [zI_fn e6 110 (by decide)]; exact A_sy
        have A11 : hQ (ez_I h5 113) n.toInt.toNat k.toInt.toNat (lt1 k.toInt) := by rw [zI_fn e6 113 (by decide)]; exact A_hq
        have A12 : (1 ≤ k.toInt → hE (ez_I h5 113) n.toInt.toNat) := by rw [zI_fn e6 113 (by decide)]; exact A_hz
        refine z_C (m := 0) rfl rfl (fun x13 ex13 => ?_)
        refine gw_st rfl rfl rfl ?_
        show ez_gw _ _ _ _ _ _ _ _ [some (.ref 71), some (.ref u), some (.int al), some (.int li), some (.ref w), some (.int n), some (.int r), some (.int k), some (.int x13), l9, l10, l11, l12] _ _ _
        exact ez_Wp_at (ih.2 h5 n r k x13 (l9) (l10) (l11) (l12) F8 (by omega) A9 A10 A11 A12 (rwI_0 (by omega)) (by omega)) rfl
    · skip
      have w_n := z_rng n
      have w_r := z_rng r
      have w_k := z_rng k
      have w_j := z_rng j
      have gal := z_rng al
      have gli := z_rng li
      have S2 := zG_sh F S
      apply ez_Wp_in
      show ez_gw _ _ _ _ _ _ (cz_36) _ _ _ _ _
      refine gw_skip _ ?_
      refine gw_ld rfl rfl ?_
      refine gw_ld rfl rfl ?_
      refine z_b2 (fun c14 => ?_) (fun c14 => ?_)
      · have c14 : n.toInt ≤ j.toInt := c14
        refine gw_skip _ ?_
        refine z_inc rfl (by rw [show (1 : Int32).toInt = 1 from rfl]; omega) (fun x15 ex15 => ?_)
        rw [show (1 : Int32).toInt = 1 from rfl] at ex15
        show ez_gw _ _ _ _ _ _ _ _ [some (.ref 71), some (.ref u), some (.int al), some (.int li), some (.ref w), some (.int n), some (.int r), some (.int x15), some (.int j), l9, l10, l11, l12] _ _ _
        refine z_go ?_
        exact ih.1 h2 n r x15 (some (.int j)) (l9) (l10) (l11) (l12) F (by omega) (aR_le A_to (by omega)) (syI_le A_sy (by omega)) ((by rw [show x15.toInt.toNat = k.toInt.toNat + 1 by omega]; exact hQ_init (m := x15.toInt) (by rw [show ((k.toInt.toNat : Nat) : Int) = k.toInt by omega]; exact A_hq) (by rw [show n.toInt.toNat = j.toInt.toNat by omega]; exact A_rw) (by omega))) (fun q => by by_cases c : 1 ≤ k.toInt; exact A_hz c; exact hE_row (by rw [show n.toInt.toNat = j.toInt.toNat by omega]; exact A_rw) (by omega) (by omega)) (by omega)
      · have c14 : ¬ (n.toInt ≤ j.toInt) := c14
        refine gw_ld rfl rfl ?_
        refine z_gR (q := 113) (zT S2 (by decide) rfl) (zRf S2 (by decide) (by decide) rfl) (by decide) ?_
        refine z_C (m := 288) rfl rfl (fun x16 ex16 => ?_)
        refine gw_ld rfl rfl ?_
        refine z_mulL (c := 288) ex16 (by omega) (fun x17 ex17 => ?_)
        refine gw_ld rfl rfl ?_
        refine z_add (by omega) (fun x18 ex18 => ?_)
        refine gw_ld rfl rfl ?_
        refine gw_ld rfl rfl ?_
        refine z_b2 (fun c19 => ?_) (fun c19 => ?_)
        · have c19 : j.toInt ≠ k.toInt := c19
          refine gw_skip _ ?_
          refine z_C (m := 0) rfl rfl (fun x20 ex20 => ?_)
          refine z_is (n := 172800) (zT S2 (by decide) rfl) (zN S2 (by decide) rfl) (by omega) (fun h21 e22 => ?_)
          have S23 := zSh_set S2 e22
          have F24 := zG_setA F e22 (by decide) (by omega)
          have A25 : aR (ez_I h21 w) al.toInt.toNat 0 0 := by rw [zI_fn e22 w (by omega)]; exact A_to
          have A26 : syI (ez_I h21 110) n.toInt.toNat al.toInt := by rw [zI_fn e22 110 (by decide)]; exact A_sy
          have A27 : hQ (ez_I h21 113) n.toInt.toNat k.toInt.toNat (lt1 k.toInt) := hQ_w A_hq e22 (by omega) (by omega)
          have A28 : (1 ≤ k.toInt → hE (ez_I h21 113) n.toInt.toNat) := fun q => hE_w (A_hz q) e22 (by omega)
          have A29 : rwI (ez_I h21 113) k.toInt.toNat (unit1 k.toInt.toNat) (j.toInt.toNat + 1) := rwI_up A_rw e22 (by omega) (unit1_of (by omega))
          refine z_inc rfl (by rw [show (1 : Int32).toInt = 1 from rfl]; omega) (fun x30 ex30 => ?_)
          rw [show (1 : Int32).toInt = 1 from rfl] at ex30
          show ez_gw _ _ _ _ _ _ _ _ [some (.ref 71), some (.ref u), some (.int al), some (.int li), some (.ref w), some (.int n), some (.int r), some (.int k), some (.int x30), l9, l10, l11, l12] _ _ _
          refine z_go ?_
          exact ih.2 h21 n r k x30 (l9) (l10) (l11) (l12) F24 (by omega) A25 A26 A27 A28 ((by rw [show x30.toInt.toNat = j.toInt.toNat + 1 by omega]; exact A29)) (by omega)
        · have c19 : ¬ (j.toInt ≠ k.toInt) := c19
          refine z_C (m := 1) rfl rfl (fun x31 ex31 => ?_)
          refine z_go ?_
          refine gw_skip _ ?_
          refine z_is (n := 172800) (zT S2 (by decide) rfl) (zN S2 (by decide) rfl) (by omega) (fun h32 e33 => ?_)
          have S34 := zSh_set S2 e33
          have F35 := zG_setA F e33 (by decide) (by omega)
          have A36 : aR (ez_I h32 w) al.toInt.toNat 0 0 := by rw [zI_fn e33 w (by omega)]; exact A_to
          have A37 : syI (ez_I h32 110) n.toInt.toNat al.toInt := by rw [zI_fn e33 110 (by decide)]; exact A_sy
          have A38 : hQ (ez_I h32 113) n.toInt.toNat k.toInt.toNat (lt1 k.toInt) := hQ_w A_hq e33 (by omega) (by omega)
          have A39 : (1 ≤ k.toInt → hE (ez_I h32 113) n.toInt.toNat) := fun q => hE_w (A_hz q) e33 (by omega)
          have A40 : rwI (ez_I h32 113) k.toInt.toNat (unit1 k.toInt.toNat) (j.toInt.toNat + 1) := rwI_up A_rw e33 (by omega) (unit1_of (by omega))
          refine z_inc rfl (by rw [show (1 : Int32).toInt = 1 from rfl]; omega) (fun x41 ex41 => ?_)
          rw [show (1 : Int32).toInt = 1 from rfl] at ex41
          show ez_gw _ _ _ _ _ _ _ _ [some (.ref 71), some (.ref u), some (.int al), some (.int li), some (.ref w), some (.int n), some (.int r), some (.int k), some (.int x41), l9, l10, l11, l12] _ _ _
          refine z_go ?_
          exact ih.2 h32 n r k x41 (l9) (l10) (l11) (l12) F35 (by omega) A36 A37 A38 A39 ((by rw [show x41.toInt.toNat = j.toInt.toNat + 1 by omega]; exact A40)) (by omega)
set_option maxRecDepth 4000 in
set_option maxHeartbeats 20000000 in
theorem m_len_L0 {E : Nat → Nat × (Nat → Int32)} {d : Nat} {Q : ez_Q} {h : ez_H} {u : Nat} {al : Int32} {li : Int32} {w : Nat} (S : zSh h) {nu nw : Nat} (hu : zA u nu) (hw : zA w nw) (hd : (u < 110 ∨ 114 < u) ∧ u ≠ 71 ∧ u ≠ w ∧ (w < 110 ∨ 114 < w) ∧ w ≠ 71) (hn : 1 ≤ al.toInt ∧ al.toInt ≤ nu ∧ al.toInt ≤ nw ∧ al.toInt ≤ 288 ∧ nu ≤ 1000 ∧ nw ≤ 1000) (hl : 1 ≤ li.toInt ∧ li.toInt ≤ 15) (K : ∀ h2, zG (fun _ => False) (fun q => 110 ≤ q ∧ q ≤ 114 ∨ q = w) h h2 → (al.toInt ≤ 2 ^ li.toInt.toNat → aR (ez_I h2 w) al.toInt.toNat 0 li.toInt) → (al.toInt ≤ 2 ^ li.toInt.toNat → (∀ s : Nat, s < al.toInt.toNat → (ez_I h2 w s).toInt = 0) → ∀ k : Nat, (k : Int) < al.toInt → (ez_I h u k).toInt = 0) → Q (.inl none) h2) : ∀ N : Nat, (∀ (h2 : ez_H) (n : Int32) (s : Int32) (l7 : Option Value) (l8 : Option Value) (l9 : Option Value) (l10 : Option Value) (l11 : Option Value) (l12 : Option Value) , zG (fun _ => False) (fun q => 110 ≤ q ∧ q ≤ 114 ∨ q = w) h h2 → (0 ≤ n.toInt ∧ n.toInt ≤ s.toInt ∧ s.toInt ≤ al.toInt) → aR (ez_I h2 w) s.toInt.toNat 0 0 → syI (ez_I h2 110) n.toInt.toNat s.toInt → nZ (ez_I h u) n.toInt s.toInt → (1000 * (1000 - s.toInt)) < (N : Int) → pw E (d + 1) 36 6 [some (.ref 71), some (.ref u), some (.int al), some (.int li), some (.ref w), some (.int n), some (.int s), l7, l8, l9, l10, l11, l12] [] h2 Q) ∧ (∀ (h2 : ez_H) (n : Int32) (s : Int32) (k : Int32) (l8 : Option Value) (l9 : Option Value) (l10 : Option Value) (l11 : Option Value) (l12 : Option Value) , zG (fun _ => False) (fun q => 110 ≤ q ∧ q ≤ 114 ∨ q = w) h h2 → (0 ≤ k.toInt ∧ k.toInt ≤ n.toInt ∧ n.toInt ≤ s.toInt ∧ s.toInt < al.toInt) → aR (ez_I h2 w) (s.toInt.toNat + 1) 0 0 → syH (ez_I h2 110) n.toInt.toNat k.toInt.toNat s.toInt → (1000 * (1000 - s.toInt) - 500 + k.toInt) < (N : Int) → pw E (d + 1) 36 32 [some (.ref 71), some (.ref u), some (.int al), some (.int li), some (.ref w), some (.int n), some (.int s), some (.int k), l8, l9, l10, l11, l12] [] h2 Q) := by
  intro N
  induction N with
  | zero => exact ⟨fun h2 n s l7 l8 l9 l10 l11 l12  F hinv A_to A_sy A_nz hm => absurd hm (by have w_n := z_rng n; have w_s := z_rng s; have gal := z_rng al; have gli := z_rng li; omega), fun h2 n s k l8 l9 l10 l11 l12  F hinv A_to A_sh hm => absurd hm (by have w_n := z_rng n; have w_s := z_rng s; have w_k := z_rng k; have gal := z_rng al; have gli := z_rng li; omega)⟩
  | succ N ih =>
    refine ⟨fun h2 n s l7 l8 l9 l10 l11 l12  F hinv A_to A_sy A_nz hm => ?_, fun h2 n s k l8 l9 l10 l11 l12  F hinv A_to A_sh hm => ?_⟩
    · skip
      have w_n := z_rng n
      have w_s := z_rng s
      have gal := z_rng al
      have gli := z_rng li
      have S2 := zG_sh F S
      apply ez_Wp_in
      show ez_gw _ _ _ _ _ _ (cz_36) _ _ _ _ _
      refine gw_skip _ ?_
      refine gw_ld rfl rfl ?_
      refine gw_ld rfl rfl ?_
      refine z_b2 (fun c1 => ?_) (fun c1 => ?_)
      · have c1 : al.toInt ≤ s.toInt := c1
        refine gw_skip _ ?_
        refine gw_ld rfl rfl ?_
        refine z_C (m := 1) rfl rfl (fun x2 ex2 => ?_)
        refine z_b2 (fun c3 => ?_) (fun c3 => ?_)
        · have c3 : n.toInt ≠ x2.toInt := c3
          refine gw_skip _ ?_
          refine gw_ld rfl rfl ?_
          refine z_C (m := 2) rfl rfl (fun x4 ex4 => ?_)
          refine z_b2 (fun c5 => ?_) (fun c5 => ?_)
          · have c5 : x4.toInt ≤ n.toInt := c5
            refine gw_skip _ ?_
            refine gw_ld rfl rfl ?_
            refine gw_st rfl rfl rfl ?_
            show ez_gw _ _ _ _ _ _ _ _ [some (.ref 71), some (.ref u), some (.int al), some (.int li), some (.ref w), some (.int n), some (.int n), l7, l8, l9, l10, l11, l12] _ _ _
            refine z_C (m := 0) rfl rfl (fun x6 ex6 => ?_)
            refine gw_st rfl rfl rfl ?_
            show ez_gw _ _ _ _ _ _ _ _ [some (.ref 71), some (.ref u), some (.int al), some (.int li), some (.ref w), some (.int n), some (.int n), some (.int x6), l8, l9, l10, l11, l12] _ _ _
            exact ez_Wp_at ((m_len_L1 (u := u) (al := al) (li := li) (w := w) S hu hw hd hn hl K (((1000 * (1000 - x6.toInt))).toNat + 1)).1 h2 n n x6 (l8) (l9) (l10) (l11) (l12) F (by omega) (aR_le A_to (by omega)) (syI_le A_sy (by omega)) ((by rw [show x6.toInt.toNat = 0 by omega]; exact hQ_0 (fun j _ => by unfold lt1; split <;> omega))) (fun q => by exfalso; omega) (by omega)) rfl
          · have c5 : ¬ (x4.toInt ≤ n.toInt) := c5
            refine z_rv ?_
            exact K _ F (fun hb => aR_le A_to (by omega)) (fun hb Z => (by rw [show al.toInt = s.toInt by omega]; exact A_nz (by omega)))
        · have c3 : ¬ (n.toInt ≠ x2.toInt) := c3
          refine gw_ld rfl rfl ?_
          refine gw_ld rfl rfl ?_
          refine z_gR (q := 110) (zT S2 (by decide) rfl) (zRf S2 (by decide) (by decide) rfl) (by decide) ?_
          refine z_C (m := 0) rfl rfl (fun x7 ex7 => ?_)
          refine z_ia (n := 288) (zT S2 (by decide) rfl) (zN S2 (by decide) rfl) (by omega) ?_
          generalize ex8 : ez_I h2 110 x7.toInt.toNat = x8
          have rx8 := z_rng x8
          have yx8 := (A_sy x7.toInt.toNat (by omega)).1
          rw [ex8] at yx8
          refine z_C (m := 1) rfl rfl (fun x9 ex9 => ?_)
          refine z_is (n := nw) ((hw _ S2).1) ((hw _ S2).2) (by omega) (fun h10 e11 => ?_)
          have S12 := zSh_set S2 e11
          have F13 := zG_setA F e11 (by omega) (by omega)
          have A14 : aR (ez_I h10 w) al.toInt.toNat 0 1 := aR_up (aR_le A_to (by omega)) e11 (by omega)
          have A15 : syI (ez_I h10 110) n.toInt.toNat s.toInt := by rw [zI_fn e11 110 (by omega)]; exact A_sy
          have A16 : nZ (ez_I h u) n.toInt s.toInt := by rw []; exact A_nz
          have A17 : h10 = ez_setI h2 w x8.toInt.toNat x9 := e11
          refine gw_ld rfl rfl ?_
          refine z_C (m := 2) rfl rfl (fun x18 ex18 => ?_)
          refine z_b2 (fun c19 => ?_) (fun c19 => ?_)
          · have c19 : x18.toInt ≤ n.toInt := c19
            exfalso; omega
          · have c19 : ¬ (x18.toInt ≤ n.toInt) := c19
            refine z_rv ?_
            exact K _ F13 (fun hb => aR_le A14 (by omega)) (fun hb Z => (aR_one A17 (by omega) (by omega) Z).elim)
      · have c1 : ¬ (al.toInt ≤ s.toInt) := c1
        refine gw_ld rfl rfl ?_
        refine gw_ld rfl rfl ?_
        refine z_C (m := 0) rfl rfl (fun x20 ex20 => ?_)
        refine z_is (n := nw) ((hw _ S2).1) ((hw _ S2).2) (by omega) (fun h21 e22 => ?_)
        have S23 := zSh_set S2 e22
        have F24 := zG_setA F e22 (by omega) (by omega)
        have A25 : aR (ez_I h21 w) (s.toInt.toNat + 1) 0 0 := aR_ex A_to e22 (by omega) (by omega)
        have A26 : syI (ez_I h21 110) n.toInt.toNat s.toInt := by rw [zI_fn e22 110 (by omega)]; exact A_sy
        have A27 : nZ (ez_I h u) n.toInt s.toInt := by rw []; exact A_nz
        refine gw_ld rfl rfl ?_
        refine gw_ld rfl rfl ?_
        refine z_iaV (n := nu) ((hu _ S23).1) ((hu _ S23).2) (by omega) (zG_a F24 (by omega) (by omega)) ?_
        generalize ex28 : ez_I h u s.toInt.toNat = x28
        have rx28 := z_rng x28
        refine z_b1 (fun c29 => ?_) (fun c29 => ?_)
        · have c29 : x28.toInt ≠ 0 := c29
          refine gw_skip _ ?_
          refine gw_ld rfl rfl ?_
          refine gw_st rfl rfl rfl ?_
          show ez_gw _ _ _ _ _ _ _ _ [some (.ref 71), some (.ref u), some (.int al), some (.int li), some (.ref w), some (.int n), some (.int s), some (.int n), l8, l9, l10, l11, l12] _ _ _
          exact ez_Wp_at (ih.2 h21 n s n (l8) (l9) (l10) (l11) (l12) F24 (by omega) (aR_le A25 (by omega)) (syH_of A26 (by omega)) (by omega)) rfl
        · have c29 : ¬ (x28.toInt ≠ 0) := c29
          refine z_go ?_
          refine gw_skip _ ?_
          refine z_inc rfl (by rw [show (1 : Int32).toInt = 1 from rfl]; omega) (fun x30 ex30 => ?_)
          rw [show (1 : Int32).toInt = 1 from rfl] at ex30
          show ez_gw _ _ _ _ _ _ _ _ [some (.ref 71), some (.ref u), some (.int al), some (.int li), some (.ref w), some (.int n), some (.int x30), l7, l8, l9, l10, l11, l12] _ _ _
          refine z_go ?_
          exact ih.1 h21 n x30 (l7) (l8) (l9) (l10) (l11) (l12) F24 (by omega) (aR_le A25 (by omega)) (syI_le A26 (by omega)) (nZ_s A27 ex28 (by omega) (by omega) (by omega)) (by omega)
    · skip
      have w_n := z_rng n
      have w_s := z_rng s
      have w_k := z_rng k
      have gal := z_rng al
      have gli := z_rng li
      have S2 := zG_sh F S
      apply ez_Wp_in
      show ez_gw _ _ _ _ _ _ (cz_36) _ _ _ _ _
      refine gw_skip _ ?_
      refine gw_ld rfl rfl ?_
      refine z_b1 (fun c31 => ?_) (fun c31 => ?_)
      · have c31 : k.toInt ≤ 0 := c31
        refine gw_skip _ ?_
        refine gw_ld rfl rfl ?_
        refine z_gR (q := 110) (zT S2 (by decide) rfl) (zRf S2 (by decide) (by decide) rfl) (by decide) ?_
        refine gw_ld rfl rfl ?_
        refine gw_ld rfl rfl ?_
        refine z_is (n := 288) (zT S2 (by decide) rfl) (zN S2 (by decide) rfl) (by omega) (fun h32 e33 => ?_)
        have S34 := zSh_set S2 e33
        have F35 := zG_setA F e33 (by decide) (by omega)
        have A36 : aR (ez_I h32 w) (s.toInt.toNat + 1) 0 0 := by rw [zI_fn e33 w (by omega)]; exact A_to
        have A37 : syI (ez_I h32 110) (n.toInt + 1).toNat (s.toInt + 1) := syH_fin A_sh e33 (by omega) rfl (by omega) rfl (by omega)
        refine z_inc rfl (by rw [show (1 : Int32).toInt = 1 from rfl]; omega) (fun x38 ex38 => ?_)
        rw [show (1 : Int32).toInt = 1 from rfl] at ex38
        show ez_gw _ _ _ _ _ _ _ _ [some (.ref 71), some (.ref u), some (.int al), some (.int li), some (.ref w), some (.int x38), some (.int s), some (.int k), l8, l9, l10, l11, l12] _ _ _
        refine z_inc rfl (by rw [show (1 : Int32).toInt = 1 from rfl]; omega) (fun x39 ex39 => ?_)
        rw [show (1 : Int32).toInt = 1 from rfl] at ex39
        show ez_gw _ _ _ _ _ _ _ _ [some (.ref 71), some (.ref u), some (.int al), some (.int li), some (.ref w), some (.int x38), some (.int x39), some (.int k), l8, l9, l10, l11, l12] _ _ _
        refine z_go ?_
        exact ih.1 h32 x38 x39 (some (.int k)) (l8) (l9) (l10) (l11) (l12) F35 (by omega) (aR_le A36 (by omega)) ((by rw [show x38.toInt.toNat = (n.toInt + 1).toNat by omega, show x39.toInt = s.toInt + 1 by omega]; exact A37)) (nZ_n (by omega)) (by omega)
      · have c31 : ¬ (k.toInt ≤ 0) := c31
        refine gw_ld rfl rfl ?_
        refine gw_ld rfl rfl ?_
        refine z_gR (q := 110) (zT S2 (by decide) rfl) (zRf S2 (by decide) (by decide) rfl) (by decide) ?_
        refine gw_ld rfl rfl ?_
        refine z_C (m := 1) rfl rfl (fun x40 ex40 => ?_)
        refine z_sub (by omega) (fun x41 ex41 => ?_)
        refine z_ia (n := 288) (zT S2 (by decide) rfl) (zN S2 (by decide) rfl) (by omega) ?_
        generalize ex42 : ez_I h2 110 x41.toInt.toNat = x42
        have rx42 := z_rng x42
        have yx42 := (A_sh x41.toInt.toNat (by omega) (by omega)).1
        rw [ex42] at yx42
        refine z_iaV (n := nu) ((hu _ S2).1) ((hu _ S2).2) (by omega) (zG_a F (by omega) (by omega)) ?_
        generalize ex43 : ez_I h u x42.toInt.toNat = x43
        have rx43 := z_rng x43
        refine gw_ld rfl rfl ?_
        refine gw_ld rfl rfl ?_
        refine z_iaV (n := nu) ((hu _ S2).1) ((hu _ S2).2) (by omega) (zG_a F (by omega) (by omega)) ?_
        generalize ex44 : ez_I h u s.toInt.toNat = x44
        have rx44 := z_rng x44
        refine z_b2 (fun c45 => ?_) (fun c45 => ?_)
        · have c45 : x43.toInt ≤ x44.toInt := c45
          refine gw_skip _ ?_
          refine gw_ld rfl rfl ?_
          refine z_gR (q := 110) (zT S2 (by decide) rfl) (zRf S2 (by decide) (by decide) rfl) (by decide) ?_
          refine gw_ld rfl rfl ?_
          refine gw_ld rfl rfl ?_
          refine z_is (n := 288) (zT S2 (by decide) rfl) (zN S2 (by decide) rfl) (by omega) (fun h46 e47 => ?_)
          have S48 := zSh_set S2 e47
          have F49 := zG_setA F e47 (by decide) (by omega)
          have A50 : aR (ez_I h46 w) (s.toInt.toNat + 1) 0 0 := by rw [zI_fn e47 w (by omega)]; exact A_to
          have A51 : syI (ez_I h46 110) (n.toInt + 1).toNat (s.toInt + 1) := syH_fin A_sh e47 (by omega) rfl (by omega) rfl (by omega)
          refine z_inc rfl (by rw [show (1 : Int32).toInt = 1 from rfl]; omega) (fun x52 ex52 => ?_)
          rw [show (1 : Int32).toInt = 1 from rfl] at ex52
          show ez_gw _ _ _ _ _ _ _ _ [some (.ref 71), some (.ref u), some (.int al), some (.int li), some (.ref w), some (.int x52), some (.int s), some (.int k), l8, l9, l10, l11, l12] _ _ _
          refine z_inc rfl (by rw [show (1 : Int32).toInt = 1 from rfl]; omega) (fun x53 ex53 => ?_)
          rw [show (1 : Int32).toInt = 1 from rfl] at ex53
          show ez_gw _ _ _ _ _ _ _ _ [some (.ref 71), some (.ref u), some (.int al), some (.int li), some (.ref w), some (.int x52), some (.int x53), some (.int k), l8, l9, l10, l11, l12] _ _ _
          refine z_go ?_
          exact ih.1 h46 x52 x53 (some (.int k)) (l8) (l9) (l10) (l11) (l12) F49 (by omega) (aR_le A50 (by omega)) ((by rw [show x52.toInt.toNat = (n.toInt + 1).toNat by omega, show x53.toInt = s.toInt + 1 by omega]; exact A51)) (nZ_n (by omega)) (by omega)
        · have c45 : ¬ (x43.toInt ≤ x44.toInt) := c45
          refine gw_ld rfl rfl ?_
          refine z_gR (q := 110) (zT S2 (by decide) rfl) (zRf S2 (by decide) (by decide) rfl) (by decide) ?_
          refine gw_ld rfl rfl ?_
          refine gw_ld rfl rfl ?_
          refine z_gR (q := 110) (zT S2 (by decide) rfl) (zRf S2 (by decide) (by decide) rfl) (by decide) ?_
          refine gw_ld rfl rfl ?_
          refine z_C (m := 1) rfl rfl (fun x54 ex54 => ?_)
          refine z_sub (by omega) (fun x55 ex55 => ?_)
          refine z_ia (n := 288) (zT S2 (by decide) rfl) (zN S2 (by decide) rfl) (by omega) ?_
          generalize ex56 : ez_I h2 110 x55.toInt.toNat = x56
          have rx56 := z_rng x56
          have yx56 := (A_sh x55.toInt.toNat (by omega) (by omega)).1
          rw [ex56] at yx56
          refine z_is (n := 288) (zT S2 (by decide) rfl) (zN S2 (by decide) rfl) (by omega) (fun h57 e58 => ?_)
          have S59 := zSh_set S2 e58
          have F60 := zG_setA F e58 (by decide) (by omega)
          have A61 : aR (ez_I h57 w) (s.toInt.toNat + 1) 0 0 := by rw [zI_fn e58 w (by omega)]; exact A_to
          have A62 : syH (ez_I h57 110) n.toInt.toNat (k.toInt.toNat - 1) s.toInt := syH_mv A_sh e58 (by omega) (show ez_I _ 110 (k.toInt.toNat - 1) = _ by rw [← ex56]; congr 1; omega) (by omega) (by omega)
          refine z_inc rfl (by rw [show ((-1) : Int32).toInt = (-1) from rfl]; omega) (fun x63 ex63 => ?_)
          rw [show ((-1) : Int32).toInt = (-1) from rfl] at ex63
          show ez_gw _ _ _ _ _ _ _ _ [some (.ref 71), some (.ref u), some (.int al), some (.int li), some (.ref w), some (.int n), some (.int s), some (.int x63), l8, l9, l10, l11, l12] _ _ _
          refine z_go ?_
          exact ih.2 h57 n s x63 (l8) (l9) (l10) (l11) (l12) F60 (by omega) (aR_le A61 (by omega)) ((by rw [show x63.toInt.toNat = (k.toInt.toNat - 1) by omega]; exact A62)) (by omega)
set_option maxRecDepth 4000 in
set_option maxHeartbeats 20000000 in
theorem m_len {E : Nat → Nat × (Nat → Int32)} {d : Nat} {Q : ez_Q} {h : ez_H} {u : Nat} {al : Int32} {li : Int32} {w : Nat} (S : zSh h) {nu nw : Nat} (hu : zA u nu) (hw : zA w nw) (hd : (u < 110 ∨ 114 < u) ∧ u ≠ 71 ∧ u ≠ w ∧ (w < 110 ∨ 114 < w) ∧ w ≠ 71) (hn : 1 ≤ al.toInt ∧ al.toInt ≤ nu ∧ al.toInt ≤ nw ∧ al.toInt ≤ 288 ∧ nu ≤ 1000 ∧ nw ≤ 1000) (hl : 1 ≤ li.toInt ∧ li.toInt ≤ 15) (K : ∀ h2, zG (fun _ => False) (fun q => 110 ≤ q ∧ q ≤ 114 ∨ q = w) h h2 → (al.toInt ≤ 2 ^ li.toInt.toNat → aR (ez_I h2 w) al.toInt.toNat 0 li.toInt) → (al.toInt ≤ 2 ^ li.toInt.toNat → (∀ s : Nat, s < al.toInt.toNat → (ez_I h2 w s).toInt = 0) → ∀ k : Nat, (k : Int) < al.toInt → (ez_I h u k).toInt = 0) → Q (.inl none) h2) : pw E (d + 1) 36 0 [some (.ref 71), some (.ref u), some (.int al), some (.int li), some (.ref w), none, none, none, none, none, none, none, none] [] h Q := by
  have gal := z_rng al
  have gli := z_rng li
  have F := zG_refl (fun _ => False) (fun q => 110 ≤ q ∧ q ≤ 114 ∨ q = w) h
  apply ez_Wp_in
  show ez_gw _ _ _ _ _ _ (cz_36) _ _ _ _ _
  refine gw_skip _ ?_
  refine z_C (m := 0) rfl rfl (fun x1 ex1 => ?_)
  refine gw_st rfl rfl rfl ?_
  show ez_gw _ _ _ _ _ _ _ _ [some (.ref 71), some (.ref u), some (.int al), some (.int li), some (.ref w), some (.int x1), none, none, none, none, none, none, none] _ _ _
  refine z_C (m := 0) rfl rfl (fun x2 ex2 => ?_)
  refine gw_st rfl rfl rfl ?_
  show ez_gw _ _ _ _ _ _ _ _ [some (.ref 71), some (.ref u), some (.int al), some (.int li), some (.ref w), some (.int x1), some (.int x2), none, none, none, none, none, none] _ _ _
  exact ez_Wp_at ((m_len_L0 (u := u) (al := al) (li := li) (w := w) S hu hw hd hn hl K (((1000 * (1000 - x2.toInt))).toNat + 1)).1 h x1 x2 (none) (none) (none) (none) (none) (none) F (by omega) ((by rw [show x2.toInt.toNat = 0 by omega]; exact aR_0 _ _ _)) (syI_0 (by omega)) (nZ_0 (by omega)) (by omega)) rfl
