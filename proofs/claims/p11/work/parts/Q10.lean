/-! lengths: nought behind the last symbol -/
theorem syK_le {K : Nat → Int32} {n al m : Nat} (S : syK K n al) (h : al ≤ m) : syK K n m := fun j hj => ⟨⟨(S j hj).1.1, by have := (S j hj).1.2; omega⟩, (S j hj).2⟩
theorem cdI_le {R K : Nat → Int32} {n al m : Nat} {c : Nat → Int} (A : cdI R K n m c) (h : al ≤ m) : cdI R K n al c := ⟨A.1, fun s hs q => A.2 s (by omega) q⟩
theorem cdI_z {R K : Nat → Int32} {n al m : Nat} {c : Nat → Int} (A : cdI R K n m c) (S : syK K n al) : ∀ s : Nat, al ≤ s → s < m → (R s).toInt = 0 := fun s h1 h2 => A.2 s h2 (fun j hj e => by
  have := (S j hj).1.2
  omega)
/-! PRINTED by wip/pack/con22z.py: the maker of lengths, with the noughts behind -/
set_option maxRecDepth 4000 in
set_option maxHeartbeats 20000000 in
theorem f_makeZ_L0 {E : Nat → Nat × (Nat → Int32)} {d : Nat} {Q : ez_Q} {h : ez_H} {u : Nat} {al : Int32} {li : Int32} {w : Nat} (S : zSh h) {nu nw : Nat} {mx : Int} (hE : zE E) (hu : zA u nu) (hw : zA w nw) (hd : u ≠ 10 ∧ u ≠ 13 ∧ u ≠ w ∧ w ≠ 10 ∧ w ≠ 13) (hn : 1 ≤ al.toInt ∧ al.toInt ≤ nu ∧ al.toInt ≤ nw ∧ al.toInt ≤ 288 ∧ nu ≤ 1000 ∧ nw ≤ 1000) (hl : 1 ≤ li.toInt ∧ li.toInt ≤ 15) (hU : aR (ez_I h u) al.toInt.toNat 0 mx) (hmx : 0 ≤ mx ∧ mx ≤ 1000000) (hmB : (al.toInt.toNat : Int) * mx ≤ 100000000) (hP : (poC (ez_I h u) al.toInt.toNat : Int) ≤ 2 ^ li.toInt.toNat) (K : ∀ h2, zK (fun q => q = 10 ∨ q = 13 ∨ q = w) (fun k => k = 11 ∨ k = 12) h h2 → lnP (ez_I h u) (ez_I h2 w) al.toInt.toNat li.toInt.toNat → (∀ s : Nat, al.toInt.toNat ≤ s → s < nw → (ez_I h2 w s).toInt = 0) → Q (.inl none) h2) : ∀ N : Nat, (∀ (h2 : ez_H) (cm : Int32) (ln : Int32) (i : Int32) (l9 : Option Value) , zK (fun q => q = 10 ∨ q = 13 ∨ q = w) (fun k => k = 11 ∨ k = 12) h h2 → (0 ≤ cm.toInt ∧ cm.toInt ≤ al.toInt ∧ ln.toInt = 6 ∧ 0 ≤ i.toInt ∧ i.toInt ≤ 6) → cK (ez_I h u) (ez_I h2 10) cm.toInt.toNat al.toInt.toNat → (i.toInt = 6 → soS (kfn (ez_I h2 10)) cm.toInt.toNat) → aR (ez_I h2 w) nw 0 0 → (100 - i.toInt) < (N : Int) → pw E (d + 2) 101 33 [some (.ref 9), some (.ref u), some (.int al), some (.int li), some (.ref w), some (.int cm), some (.retAddr 6), some (.int ln), some (.int i), l9] [] h2 Q) := by
  intro N
  induction N with
  | zero => exact fun h2 cm ln i l9  F hinv A_ck A_so A_z0 hm => absurd hm (by have w_cm := z_rng cm; have w_ln := z_rng ln; have w_i := z_rng i; have gal := z_rng al; have gli := z_rng li; omega)
  | succ N ih =>
    refine fun h2 cm ln i l9  F hinv A_ck A_so A_z0 hm => ?_
    · skip
      have w_cm := z_rng cm
      have w_ln := z_rng ln
      have w_i := z_rng i
      have gal := z_rng al
      have gli := z_rng li
      have S2 := zK_sh F S
      apply ez_Wp_in
      show ez_gw _ _ _ _ _ _ (cz_101) _ _ _ _ _
      refine gw_skip _ ?_
      refine gw_ld rfl rfl ?_
      refine gw_ld rfl rfl ?_
      refine z_b2 (fun c1 => ?_) (fun c1 => ?_)
      · have c1 : ln.toInt ≤ i.toInt := c1
        refine gw_skip _ ?_
        refine gw_ld rfl rfl ?_
        refine z_C (m := 1) rfl rfl (fun x2 ex2 => ?_)
        refine z_b2 (fun c3 => ?_) (fun c3 => ?_)
        · have c3 : cm.toInt ≠ x2.toInt := c3
          refine gw_skip _ ?_
          refine gw_ld rfl rfl ?_
          refine z_C (m := 1) rfl rfl (fun x4 ex4 => ?_)
          refine z_b2 (fun c5 => ?_) (fun c5 => ?_)
          · have c5 : cm.toInt ≤ x4.toInt := c5
            refine gw_skip _ ?_
            refine z_rv ?_
            have hcd := cdI_0 (c := fun j => if cm.toInt.toNat = 1 then 1 else FF (WK (ez_I h2 10) cm.toInt.toNat) cm.toInt.toNat (li.toInt.toNat - 1) (2 * cm.toInt.toNat - 2) j) A_z0 (syK_le (cK_sy A_ck (by omega) (fun a ha => (hU a ha).1)) (by omega)) (fun j hj => by exfalso; omega)
            exact K _ F (lnP_K (K := ez_I h2 10) A_ck (fun q => by exfalso; omega) (cdI_le hcd (by omega))) (cdI_z hcd (cK_sy A_ck (by omega) (fun a ha => (hU a ha).1)))
          · have c5 : ¬ (cm.toInt ≤ x4.toInt) := c5
            refine gw_ld rfl rfl ?_
            refine gw_ld rfl rfl ?_
            refine gw_ld rfl rfl ?_
            refine z_cl rfl rfl rfl rfl rfl rfl rfl rfl rfl rfl rfl (zT S2 (by decide) rfl) ?_
            have hkw := cK_kw A_ck (by omega) hU
            have hpo := A_ck.1
            have hpl := poC_le (ez_I h u) al.toInt.toNat
            refine f_rounds (n := cm) (li := li) (W := WK (ez_I h2 10) cm.toInt.toNat) S2 (by omega) (by omega) (WK_kw (fun j hj => (hkw j hj).2)) (WK_b A_ck (by omega) hU (by omega) hmx.1 hmB) (fun h6 F7 k8 => ?_)
            have S9 := zK_sh F7 S2
            have F10 := zK_tr F (zK_mono F7 (fun k hk => by first | omega | exact False.elim hk) (fun k hk => by first | omega | exact False.elim hk))
            have A11 : cK (ez_I h u) (ez_I h6 10) cm.toInt.toNat al.toInt.toNat := by rw [zK_fn F7 10 (by first | omega | exact fun c => c)]; exact A_ck
            have A12 : (i.toInt = 6 → soS (kfn (ez_I h6 10)) cm.toInt.toNat) := by rw [zK_fn F7 10 (by first | omega | exact fun c => c)]; exact A_so
            have A13 : aR (ez_I h6 w) nw 0 0 := by rw [zK_fn F7 w (by first | omega | exact fun c => c)]; exact A_z0
            refine gw_ld rfl rfl ?_
            refine gw_ld rfl rfl ?_
            refine gw_ld rfl rfl ?_
            refine gw_ld rfl rfl ?_
            refine z_cl rfl rfl rfl rfl rfl rfl rfl rfl rfl rfl rfl (zT S9 (by decide) rfl) ?_
            refine f_down (n := cm) (li := li) (w := w) (W := WK (ez_I h2 10) cm.toInt.toNat) (al := nw) S9 hw (by omega) (by omega) (by omega) k8 (rz_end (by omega) (by omega)) (by rw [(show ez_I h6 10 = ez_I h2 10 from zK_fn F7 10 (by decide))]; exact syK_le (cK_sy A_ck (by omega) (fun a ha => (hU a ha).1)) (by omega)) A13 (fun h14 F15 k16 => ?_)
            rw [(show ez_I h6 10 = ez_I h2 10 from zK_fn F7 10 (by decide))] at k16
            have S17 := zK_sh F15 S9
            have F18 := zK_tr F10 (zK_mono F15 (fun k hk => by first | omega | exact False.elim hk) (fun k hk => by first | omega | exact False.elim hk))
            have A19 : cK (ez_I h u) (ez_I h14 10) cm.toInt.toNat al.toInt.toNat := by rw [zK_fn F15 10 (by first | omega | exact fun c => c)]; exact A11
            have A20 : (i.toInt = 6 → soS (kfn (ez_I h14 10)) cm.toInt.toNat) := by rw [zK_fn F15 10 (by first | omega | exact fun c => c)]; exact A12
            have A21 : alB (ez_I h14 13) (WK (ez_I h2 10) cm.toInt.toNat) cm.toInt.toNat li.toInt.toNat := by rw [zK_fn F15 13 (by first | omega | exact fun c => c)]; exact k8
            refine z_rv ?_
            have hcd := cdI_c (c' := fun j => if cm.toInt.toNat = 1 then 1 else FF (WK (ez_I h2 10) cm.toInt.toNat) cm.toInt.toNat (li.toInt.toNat - 1) (2 * cm.toInt.toNat - 2) j) k16 (fun j _ => by rw [if_neg (by omega)])
            exact K _ F18 (lnP_K (K := ez_I h2 10) A_ck (fun _ => A_so (by omega)) (cdI_le hcd (by omega))) (cdI_z hcd (cK_sy A_ck (by omega) (fun a ha => (hU a ha).1)))
        · have c3 : ¬ (cm.toInt ≠ x2.toInt) := c3
          refine gw_ld rfl rfl ?_
          refine gw_ld rfl rfl ?_
          refine z_C (m := 0) rfl rfl (fun x22 ex22 => ?_)
          refine z_cl rfl rfl rfl rfl rfl rfl rfl rfl rfl rfl rfl (zT S2 (by decide) rfl) ?_
          have hsy := (cK_sy A_ck (by omega) (fun a ha => (hU a ha).1))
          have hs0 := hsy 0 (by omega)
          have hz0 : 0 ≤ kS (ez_I h2 10) 0 := by unfold kS; omega
          have hr0 := A_z0 (kS (ez_I h2 10) 0).toNat (by omega)
          refine f_lengthen (w := w) (k := x22) S2 hw (by omega) (by omega) (by rw [show x22.toInt.toNat = 0 by omega]; exact ⟨hs0.1.1, by omega⟩) (by rw [show x22.toInt.toNat = 0 by omega]; omega) (fun h23 F24 k25 => ?_)
          rw [show x22.toInt.toNat = 0 by omega] at k25
          have S26 := zK_sh F24 S2
          have F27 := zK_tr F (zK_mono F24 (fun k hk => by first | omega | exact False.elim hk) (fun k hk => by first | omega | exact False.elim hk))
          have A28 : cK (ez_I h u) (ez_I h23 10) cm.toInt.toNat al.toInt.toNat := by rw [zK_fn F24 10 (by first | omega | exact fun c => c)]; exact A_ck
          have A29 : (i.toInt = 6 → soS (kfn (ez_I h23 10)) cm.toInt.toNat) := by rw [zK_fn F24 10 (by first | omega | exact fun c => c)]; exact A_so
          refine z_go ?_
          refine gw_skip _ ?_
          refine z_rv ?_
          have hcd : cdI (ez_I h23 w) (ez_I h2 10) cm.toInt.toNat nw (fun j => if cm.toInt.toNat = 1 then 1 else FF (WK (ez_I h2 10) cm.toInt.toNat) cm.toInt.toNat (li.toInt.toNat - 1) (2 * cm.toInt.toNat - 2) j) := (cdI_s (cdI_0 (c := fun _ => 0) A_z0 (syK_le hsy (by omega)) (fun _ _ => rfl)) (syK_le hsy (by omega)) k25 (by omega) (fun j hj => by rw [if_pos (by omega), show j = 0 by omega]; rfl))
          exact K _ F27 (lnP_K (K := ez_I h2 10) A_ck (fun _ => A_so (by omega)) (cdI_le hcd (by omega))) (cdI_z hcd hsy)
      · have c1 : ¬ (ln.toInt ≤ i.toInt) := c1
        refine gw_ld rfl rfl ?_
        refine gw_ld rfl rfl ?_
        refine z_iaE (n := 6) (hE 5) (by omega) ?_
        generalize ex30 : (tz_ar (5 + 1)).getD i.toInt.toNat 0 = x30
        have rx30 := z_rng x30
        have ox30 := z_gap2 (n := i.toInt.toNat) (by omega)
        rw [ex30] at ox30
        refine gw_st rfl rfl rfl ?_
        show ez_gw _ _ _ _ _ _ _ _ [some (.ref 9), some (.ref u), some (.int al), some (.int li), some (.ref w), some (.int cm), some (.retAddr 6), some (.int ln), some (.int i), some (.int x30)] _ _ _
        refine gw_ld rfl rfl ?_
        refine gw_ld rfl rfl ?_
        refine gw_ld rfl rfl ?_
        refine z_cl rfl rfl rfl rfl rfl rfl rfl rfl rfl rfl rfl (zT S2 (by decide) rfl) ?_
        refine f_sort (n := cm) (gp := x30) S2 (by omega) (by omega) (fun h31 F32 k33 k34 => ?_)
        have S35 := zK_sh F32 S2
        have F36 := zK_tr F (zK_mono F32 (fun k hk => by first | omega | exact False.elim hk) (fun k hk => by first | omega | exact False.elim hk))
        have A37 : aR (ez_I h31 w) nw 0 0 := by rw [zK_fn F32 w (by first | omega | exact fun c => c)]; exact A_z0
        refine z_inc rfl (by rw [show (1 : Int32).toInt = 1 from rfl]; omega) (fun x38 ex38 => ?_)
        rw [show (1 : Int32).toInt = 1 from rfl] at ex38
        show ez_gw _ _ _ _ _ _ _ _ [some (.ref 9), some (.ref u), some (.int al), some (.int li), some (.ref w), some (.int cm), some (.retAddr 6), some (.int ln), some (.int x38), some (.int x30)] _ _ _
        refine z_go ?_
        exact ih h31 cm ln x38 (some (.int x30)) F36 (by omega) (cK_cS A_ck k33) (fun q => k34 (ox30.2 (by omega))) A37 (by omega)
set_option maxRecDepth 4000 in
set_option maxHeartbeats 20000000 in
theorem f_makeZ {E : Nat → Nat × (Nat → Int32)} {d : Nat} {Q : ez_Q} {h : ez_H} {u : Nat} {al : Int32} {li : Int32} {w : Nat} (S : zSh h) {nu nw : Nat} {mx : Int} (hE : zE E) (hu : zA u nu) (hw : zA w nw) (hd : u ≠ 10 ∧ u ≠ 13 ∧ u ≠ w ∧ w ≠ 10 ∧ w ≠ 13) (hn : 1 ≤ al.toInt ∧ al.toInt ≤ nu ∧ al.toInt ≤ nw ∧ al.toInt ≤ 288 ∧ nu ≤ 1000 ∧ nw ≤ 1000) (hl : 1 ≤ li.toInt ∧ li.toInt ≤ 15) (hU : aR (ez_I h u) al.toInt.toNat 0 mx) (hmx : 0 ≤ mx ∧ mx ≤ 1000000) (hmB : (al.toInt.toNat : Int) * mx ≤ 100000000) (hP : (poC (ez_I h u) al.toInt.toNat : Int) ≤ 2 ^ li.toInt.toNat) (K : ∀ h2, zK (fun q => q = 10 ∨ q = 13 ∨ q = w) (fun k => k = 11 ∨ k = 12) h h2 → lnP (ez_I h u) (ez_I h2 w) al.toInt.toNat li.toInt.toNat → (∀ s : Nat, al.toInt.toNat ≤ s → s < nw → (ez_I h2 w s).toInt = 0) → Q (.inl none) h2) : pw E (d + 2) 101 0 [some (.ref 9), some (.ref u), some (.int al), some (.int li), some (.ref w), none, none, none, none, none] [] h Q := by
  have gal := z_rng al
  have gli := z_rng li
  have F := zK_refl (fun q => q = 10 ∨ q = 13 ∨ q = w) (fun k => k = 11 ∨ k = 12) h
  apply ez_Wp_in
  show ez_gw _ _ _ _ _ _ (cz_101) _ _ _ _ _
  refine gw_skip _ ?_
  refine gw_ld rfl rfl ?_
  refine z_C (m := 0) rfl rfl (fun x1 ex1 => ?_)
  refine z_cl rfl rfl rfl rfl rfl rfl rfl rfl rfl rfl rfl (trivial) ?_
  refine wp_fill ((hw _ S).1) (by rw [show ez_l h w = nw from (hw _ S).2]; omega) ?_
  generalize e3 : ez_rowI h w (pf_fill (ez_I h w) (ez_l h w) x1) = h2
  have e3 := e3.symm
  have S4 := zSh_row S e3
  have F5 := zK_row F e3 (by omega)
  have A6 := zIr_at e3 (show ez_l h w = nw from (hw _ S).2)
  refine gw_ld rfl rfl ?_
  refine gw_ld rfl rfl ?_
  refine gw_ld rfl rfl ?_
  refine gw_ld rfl rfl ?_
  refine z_al (n := nw) (.inl ((hw _ S4).1)) ((hw _ S4).2) (by omega) (fun x7 ex7 => ?_)
  refine z_min rfl (fun x8 ex8 => ?_)
  refine z_cl rfl rfl rfl rfl rfl rfl rfl rfl rfl rfl rfl (zT S4 (by decide) rfl) ?_
  refine f_gather (u := u) (n := x8) S4 hu (by omega) (by omega) (by rw [zK_fn F5 u (by omega), show x8.toInt.toNat = al.toInt.toNat by omega]; exact aR_le hU (by omega)) (fun h9 x11 F10 k12 k13 => ?_)
  have rx11 := z_rng x11
  rw [zK_fn F5 u (by omega), show x8.toInt.toNat = al.toInt.toNat by omega] at k13
  have S14 := zK_sh F10 S4
  have F15 := zK_tr F5 (zK_mono F10 (fun k hk => by first | omega | exact False.elim hk) (fun k hk => by first | omega | exact False.elim hk))
  have A16 : aR (ez_I h9 w) nw 0 0 := by rw [zK_fn F10 w (by first | omega | exact fun c => c)]; exact (aR_fill A6 (by omega) (by omega))
  refine gw_st rfl rfl rfl ?_
  show ez_gw _ _ _ _ _ _ _ _ [some (.ref 9), some (.ref u), some (.int al), some (.int li), some (.ref w), some (.int x11), none, none, none, none] _ _ _
  refine z_gs ?_
  refine gw_st rfl rfl rfl ?_
  show ez_gw _ _ _ _ _ _ _ _ [some (.ref 9), some (.ref u), some (.int al), some (.int li), some (.ref w), some (.int x11), some (.retAddr 6), none, none, none] _ _ _
  refine gw_ld rfl rfl ?_
  refine z_alE (n := 6) (by rw [hE 5]; rfl) (by omega) (fun x17 ex17 => ?_)
  refine gw_st rfl rfl rfl ?_
  show ez_gw _ _ _ _ _ _ _ _ [some (.ref 9), some (.ref u), some (.int al), some (.int li), some (.ref w), some (.int x11), some (.retAddr 6), some (.int x17), none, none] _ _ _
  refine z_C (m := 0) rfl rfl (fun x18 ex18 => ?_)
  refine gw_st rfl rfl rfl ?_
  show ez_gw _ _ _ _ _ _ _ _ [some (.ref 9), some (.ref u), some (.int al), some (.int li), some (.ref w), some (.int x11), some (.retAddr 6), some (.int x17), some (.int x18), none] _ _ _
  exact ez_Wp_at ((f_makeZ_L0 (u := u) (al := al) (li := li) (w := w) S hE hu hw hd hn hl hU hmx hmB hP K (((100 - x18.toInt)).toNat + 1)) h9 x11 x17 x18 (none) F15 (by omega) k13 (fun q => by exfalso; omega) A16 (by omega)) rfl
