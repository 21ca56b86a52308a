/-! PRINTED by wip/p17/con16.py: contracts of the model, pack -/
set_option maxRecDepth 4000 in
set_option maxHeartbeats 20000000 in
theorem m_pack_L1 {E : Nat → Nat × (Nat → Int32)} {d : Nat} {Q : ez_Q} {h : ez_H}  (S : zSh h) (M : mI h) (K : ∀ h2 (x : Int32), zF zY h h2 → mI h2 → Q (.inl (some (.int x))) h2) : ∀ N : Nat, (∀ (h2 : ez_H) (pl : Int32) (fr : Int32) (i : Int32) (l4 : Option Value) (l5 : Option Value) , zG (fun k => k = 0 ∨ k = 7 ∨ k = 14 ∨ k = 15 ∨ k = 16 ∨ k = 17 ∨ k = 18 ∨ k = 56 ∨ k = 57 ∨ k = 58) (fun q => q = 73 ∨ q = 75 ∨ 77 ≤ q ∧ q ≤ 91 ∨ 97 ≤ q ∧ q ≤ 119) h h2 → (0 ≤ i.toInt ∧ 0 ≤ (ez_I h2 71 7).toInt ∧ (ez_I h2 71 7).toInt ≤ 6200 ∧ 0 ≤ (ez_I h2 71 14).toInt ∧ (ez_I h2 71 14).toInt ≤ 6000 ∧ 0 ≤ (ez_I h2 71 15).toInt ∧ (ez_I h2 71 15).toInt ≤ 12) → (2147483647 - i.toInt) < (N : Int) → pw E (d + 3) 45 131 [some (.ref 71), some (.int pl), some (.int fr), some (.int i), l4, l5] [] h2 Q) := by
  intro N
  induction N with
  | zero => exact fun h2 pl fr i l4 l5  F hinv  hm => absurd hm (by have w_pl := z_rng pl; have w_fr := z_rng fr; have w_i := z_rng i; have M6 := M.1.1; have M7 := M.1.2.1; have M14 := M.1.2.2.1; have M15 := M.1.2.2.2; have MC := M.2; omega)
  | succ N ih =>
    refine fun h2 pl fr i l4 l5  F hinv  hm => ?_
    · skip
      have w_pl := z_rng pl
      have w_fr := z_rng fr
      have w_i := z_rng i
      have M6 := M.1.1
      have M7 := M.1.2.1
      have M14 := M.1.2.2.1
      have M15 := M.1.2.2.2
      have MC := M.2
      have S2 := zG_sh F S
      apply ez_Wp_in
      show ez_gw _ _ _ _ _ _ (cz_45) _ _ _ _ _
      refine gw_skip _ ?_
      have r1 := z_rng (ez_I h2 71 0)
      have r2 := z_rng (ez_I h2 71 7)
      have r3 := z_rng (ez_I h2 71 14)
      have r4 := z_rng (ez_I h2 71 15)
      have r5 := z_rng (ez_I h2 71 16)
      have r6 := z_rng (ez_I h2 71 17)
      have r7 := z_rng (ez_I h2 71 18)
      have r8 := z_rng (ez_I h2 71 56)
      have r9 := z_rng (ez_I h2 71 57)
      have r10 := z_rng (ez_I h2 71 58)
      refine gw_ld rfl rfl ?_
      refine gw_ld rfl rfl ?_
      refine z_gI2 (by decide) (zT S2 (by decide) rfl) (rfl) ?_
      refine z_b2 (fun c11 => ?_) (fun c11 => ?_)
      · have c11 : ((ez_I h2 71 7)).toInt ≤ i.toInt := c11
        refine gw_skip _ ?_
        refine gw_ld rfl rfl ?_
        refine z_gI2 (by decide) (zT S2 (by decide) rfl) (rfl) ?_
        refine z_ri ?_
        have t12 := congrArg Int32.toInt (zG_f F (k := 6) (by decide))
        exact K _ (ez_I h2 71 7) (zG_Y F (fun q hq => by first | omega | exact False.elim hq)) (mI_G M F (fun q hq => by first | omega | exact fun c => c) (by omega)) 
      · have c11 : ¬ (((ez_I h2 71 7)).toInt ≤ i.toInt) := c11
        refine gw_ld rfl rfl ?_
        refine z_gR (q := 73) (zT S2 (by decide) rfl) (zRf S2 (by decide) (by decide) rfl) (by decide) ?_
        refine gw_ld rfl rfl ?_
        refine gw_ld rfl rfl ?_
        refine z_gR (q := 75) (zT S2 (by decide) rfl) (zRf S2 (by decide) (by decide) rfl) (by decide) ?_
        refine gw_ld rfl rfl ?_
        refine z_ba (n := 8000) (zT S2 (by decide) rfl) (zN S2 (by decide) rfl) (by omega) ?_
        generalize ex13 : ez_I h2 75 i.toInt.toNat = x13
        have rx13 := z_rng x13
        refine z_bs (n := 6200) (zT S2 (by decide) rfl) (zN S2 (by decide) rfl) (by omega) (fun h14 e15 => ?_)
        have S16 := zSh_set S2 e15
        have F17 := zG_setA F e15 (by decide) (by decide)
        have f18 : ez_I h14 71 0 = (ez_I h2 71 0) := (zI_ne e15 (by omega)).trans (rfl)
        have f19 : ez_I h14 71 7 = (ez_I h2 71 7) := (zI_ne e15 (by omega)).trans (rfl)
        have f20 : ez_I h14 71 14 = (ez_I h2 71 14) := (zI_ne e15 (by omega)).trans (rfl)
        have f21 : ez_I h14 71 15 = (ez_I h2 71 15) := (zI_ne e15 (by omega)).trans (rfl)
        have f22 : ez_I h14 71 16 = (ez_I h2 71 16) := (zI_ne e15 (by omega)).trans (rfl)
        have f23 : ez_I h14 71 17 = (ez_I h2 71 17) := (zI_ne e15 (by omega)).trans (rfl)
        have f24 : ez_I h14 71 18 = (ez_I h2 71 18) := (zI_ne e15 (by omega)).trans (rfl)
        have f25 : ez_I h14 71 56 = (ez_I h2 71 56) := (zI_ne e15 (by omega)).trans (rfl)
        have f26 : ez_I h14 71 57 = (ez_I h2 71 57) := (zI_ne e15 (by omega)).trans (rfl)
        have f27 : ez_I h14 71 58 = (ez_I h2 71 58) := (zI_ne e15 (by omega)).trans (rfl)
        refine z_inc rfl (by rw [show (1 : Int32).toInt = 1 from rfl]; omega) (fun x28 ex28 => ?_)
        rw [show (1 : Int32).toInt = 1 from rfl] at ex28
        show ez_gw _ _ _ _ _ _ _ _ [some (.ref 71), some (.int pl), some (.int fr), some (.int x28), l4, l5] _ _ _
        refine z_go ?_
        have t29 := congrArg Int32.toInt (f18)
        have t30 := congrArg Int32.toInt (f19)
        have t31 := congrArg Int32.toInt (f20)
        have t32 := congrArg Int32.toInt (f21)
        have t33 := congrArg Int32.toInt (f22)
        have t34 := congrArg Int32.toInt (f23)
        have t35 := congrArg Int32.toInt (f24)
        have t36 := congrArg Int32.toInt (f25)
        have t37 := congrArg Int32.toInt (f26)
        have t38 := congrArg Int32.toInt (f27)
        exact ih h14 pl fr x28 (l4) (l5) F17 (by omega)  (by omega)
set_option maxRecDepth 4000 in
set_option maxHeartbeats 20000000 in
theorem m_pack_L0 {E : Nat → Nat × (Nat → Int32)} {d : Nat} {Q : ez_Q} {h : ez_H}  (S : zSh h) (M : mI h) (K : ∀ h2 (x : Int32), zF zY h h2 → mI h2 → Q (.inl (some (.int x))) h2) : ∀ N : Nat, (∀ (h2 : ez_H) (pl : Int32) (fr : Int32) (l3 : Option Value) (l4 : Option Value) (l5 : Option Value) (n : Nat), zG (fun k => k = 0 ∨ k = 7 ∨ k = 14 ∨ k = 15 ∨ k = 16 ∨ k = 17 ∨ k = 18 ∨ k = 56 ∨ k = 57 ∨ k = 58) (fun q => q = 73 ∨ q = 75 ∨ 77 ≤ q ∧ q ≤ 91 ∨ 97 ≤ q ∧ q ≤ 119) h h2 → (0 ≤ fr.toInt ∧ fr.toInt = 600 * (ez_I h2 71 15).toInt ∧ 0 ≤ (ez_I h2 71 15).toInt ∧ (fr.toInt = 0 ∨ fr.toInt < n) ∧ (ez_I h2 71 14).toInt = n ∧ (n : Int) ≤ (ez_I h 71 6).toInt ∧ 0 ≤ pl.toInt ∧ 0 ≤ (ez_I h2 71 16).toInt ∧ (ez_I h2 71 16).toInt ≤ 42 * (ez_I h2 71 15).toInt + 8 * pl.toInt ∧ pl.toInt ≤ 6000) → pQ (ez_I h2 77) (ez_I h2 78) (ez_I h2 79) (ez_I h 72) n (ez_I h 71 6).toInt → pl.toInt = pS (ez_I h2 77) fr.toInt.toNat → (1000 * (100 - (ez_I h2 71 15).toInt)) < (N : Int) → pw E (d + 3) 45 23 [some (.ref 71), some (.int pl), some (.int fr), l3, l4, l5] [] h2 Q) ∧ (∀ (h2 : ez_H) (pl : Int32) (fr : Int32) (to : Int32) (mn : Int32) (k : Int32) (n : Nat), zG (fun k => k = 0 ∨ k = 7 ∨ k = 14 ∨ k = 15 ∨ k = 16 ∨ k = 17 ∨ k = 18 ∨ k = 56 ∨ k = 57 ∨ k = 58) (fun q => q = 73 ∨ q = 75 ∨ 77 ≤ q ∧ q ≤ 91 ∨ 97 ≤ q ∧ q ≤ 119) h h2 → (0 ≤ fr.toInt ∧ fr.toInt = 600 * (ez_I h2 71 15).toInt ∧ 0 ≤ (ez_I h2 71 15).toInt ∧ (fr.toInt = 0 ∨ fr.toInt < n) ∧ (ez_I h2 71 14).toInt = n ∧ (n : Int) ≤ (ez_I h 71 6).toInt ∧ 0 ≤ pl.toInt ∧ 0 ≤ (ez_I h2 71 16).toInt ∧ (ez_I h2 71 16).toInt ≤ 42 * (ez_I h2 71 15).toInt + 8 * pl.toInt ∧ pl.toInt ≤ 6000 ∧ fr.toInt ≤ k.toInt ∧ k.toInt ≤ to.toInt ∧ to.toInt ≤ n ∧ (to.toInt = n ∨ to.toInt = fr.toInt + 600) ∧ to.toInt ≤ fr.toInt + 600 ∧ 0 ≤ mn.toInt ∧ pl.toInt + mn.toInt ≤ 6000) → pQ (ez_I h2 77) (ez_I h2 78) (ez_I h2 79) (ez_I h 72) n (ez_I h 71 6).toInt → pl.toInt = pS (ez_I h2 77) fr.toInt.toNat → mn.toInt = pS (ez_I h2 77) k.toInt.toNat - pS (ez_I h2 77) fr.toInt.toNat → (1000 * (100 - (ez_I h2 71 15).toInt) - 900 + (fr.toInt + 700 - k.toInt)) < (N : Int) → pw E (d + 3) 45 54 [some (.ref 71), some (.int pl), some (.int fr), some (.int to), some (.int mn), some (.int k)] [] h2 Q) := by
  intro N
  induction N with
  | zero => exact ⟨fun h2 pl fr l3 l4 l5 n F hinv A_pq A_ps hm => absurd hm (by have w_pl := z_rng pl; have w_fr := z_rng fr; have M6 := M.1.1; have M7 := M.1.2.1; have M14 := M.1.2.2.1; have M15 := M.1.2.2.2; have MC := M.2; omega), fun h2 pl fr to mn k n F hinv A_pq A_ps A_nn hm => absurd hm (by have w_pl := z_rng pl; have w_fr := z_rng fr; have w_to := z_rng to; have w_mn := z_rng mn; have w_k := z_rng k; have M6 := M.1.1; have M7 := M.1.2.1; have M14 := M.1.2.2.1; have M15 := M.1.2.2.2; have MC := M.2; omega)⟩
  | succ N ih =>
    refine ⟨fun h2 pl fr l3 l4 l5 n F hinv A_pq A_ps hm => ?_, fun h2 pl fr to mn k n F hinv A_pq A_ps A_nn hm => ?_⟩
    · skip
      have w_pl := z_rng pl
      have w_fr := z_rng fr
      have M6 := M.1.1
      have M7 := M.1.2.1
      have M14 := M.1.2.2.1
      have M15 := M.1.2.2.2
      have MC := M.2
      have S2 := zG_sh F S
      have hps := pQ_rng A_pq (a := fr.toInt.toNat) (b := n) (by omega) (Nat.le_refl _)
      have hps0 := A_ps
      apply ez_Wp_in
      show ez_gw _ _ _ _ _ _ (cz_45) _ _ _ _ _
      refine gw_skip _ ?_
      have r1 := z_rng (ez_I h2 71 0)
      have r2 := z_rng (ez_I h2 71 7)
      have r3 := z_rng (ez_I h2 71 14)
      have r4 := z_rng (ez_I h2 71 15)
      have r5 := z_rng (ez_I h2 71 16)
      have r6 := z_rng (ez_I h2 71 17)
      have r7 := z_rng (ez_I h2 71 18)
      have r8 := z_rng (ez_I h2 71 56)
      have r9 := z_rng (ez_I h2 71 57)
      have r10 := z_rng (ez_I h2 71 58)
      refine gw_ld rfl rfl ?_
      refine z_C (m := 600) rfl rfl (fun x11 ex11 => ?_)
      refine z_add (by omega) (fun x12 ex12 => ?_)
      refine gw_ld rfl rfl ?_
      refine z_gI2 (by decide) (zT S2 (by decide) rfl) (rfl) ?_
      refine z_b2 (fun c13 => ?_) (fun c13 => ?_)
      · have c13 : ((ez_I h2 71 14)).toInt ≤ x12.toInt := c13
        refine gw_skip _ ?_
        refine gw_ld rfl rfl ?_
        refine z_gI2 (by decide) (zT S2 (by decide) rfl) (rfl) ?_
        refine gw_st rfl rfl rfl ?_
        show ez_gw _ _ _ _ _ _ _ _ [some (.ref 71), some (.int pl), some (.int fr), some (.int (ez_I h2 71 14)), l4, l5] _ _ _
        refine z_C (m := 0) rfl rfl (fun x14 ex14 => ?_)
        refine gw_st rfl rfl rfl ?_
        show ez_gw _ _ _ _ _ _ _ _ [some (.ref 71), some (.int pl), some (.int fr), some (.int (ez_I h2 71 14)), some (.int x14), l5] _ _ _
        refine gw_ld rfl rfl ?_
        refine gw_st rfl rfl rfl ?_
        show ez_gw _ _ _ _ _ _ _ _ [some (.ref 71), some (.int pl), some (.int fr), some (.int (ez_I h2 71 14)), some (.int x14), some (.int fr)] _ _ _
        exact ez_Wp_at (ih.2 h2 pl fr (ez_I h2 71 14) x14 fr n F (by omega) A_pq A_ps ((by rw [show fr.toInt.toNat = fr.toInt.toNat by omega]; omega)) (by omega)) rfl
      · have c13 : ¬ (((ez_I h2 71 14)).toInt ≤ x12.toInt) := c13
        refine gw_ld rfl rfl ?_
        refine z_C (m := 600) rfl rfl (fun x15 ex15 => ?_)
        refine z_add (by omega) (fun x16 ex16 => ?_)
        refine z_go ?_
        refine gw_skip _ ?_
        refine gw_st rfl rfl rfl ?_
        show ez_gw _ _ _ _ _ _ _ _ [some (.ref 71), some (.int pl), some (.int fr), some (.int x16), l4, l5] _ _ _
        refine z_C (m := 0) rfl rfl (fun x17 ex17 => ?_)
        refine gw_st rfl rfl rfl ?_
        show ez_gw _ _ _ _ _ _ _ _ [some (.ref 71), some (.int pl), some (.int fr), some (.int x16), some (.int x17), l5] _ _ _
        refine gw_ld rfl rfl ?_
        refine gw_st rfl rfl rfl ?_
        show ez_gw _ _ _ _ _ _ _ _ [some (.ref 71), some (.int pl), some (.int fr), some (.int x16), some (.int x17), some (.int fr)] _ _ _
        exact ez_Wp_at (ih.2 h2 pl fr x16 x17 fr n F (by omega) A_pq A_ps ((by rw [show fr.toInt.toNat = fr.toInt.toNat by omega]; omega)) (by omega)) rfl
    · skip
      have w_pl := z_rng pl
      have w_fr := z_rng fr
      have w_to := z_rng to
      have w_mn := z_rng mn
      have w_k := z_rng k
      have M6 := M.1.1
      have M7 := M.1.2.1
      have M14 := M.1.2.2.1
      have M15 := M.1.2.2.2
      have MC := M.2
      have S2 := zG_sh F S
      have hps0 := A_ps
      have hnn := A_nn
      have hpk : k.toInt < to.toInt → _ := fun c => pQ_rng A_pq (a := k.toInt.toNat) (b := k.toInt.toNat + 1) (by omega) (by omega)
      have hpk1 : k.toInt < to.toInt → _ := fun c => (A_pq.2 k.toInt.toNat (by omega)).1
      have hpt : pS (ez_I h2 77) (k.toInt.toNat + 1) = pS (ez_I h2 77) k.toInt.toNat + (ez_I h2 77 k.toInt.toNat).toInt := rfl
      apply ez_Wp_in
      show ez_gw _ _ _ _ _ _ (cz_45) _ _ _ _ _
      refine gw_skip _ ?_
      have r18 := z_rng (ez_I h2 71 0)
      have r19 := z_rng (ez_I h2 71 7)
      have r20 := z_rng (ez_I h2 71 14)
      have r21 := z_rng (ez_I h2 71 15)
      have r22 := z_rng (ez_I h2 71 16)
      have r23 := z_rng (ez_I h2 71 17)
      have r24 := z_rng (ez_I h2 71 18)
      have r25 := z_rng (ez_I h2 71 56)
      have r26 := z_rng (ez_I h2 71 57)
      have r27 := z_rng (ez_I h2 71 58)
      refine gw_ld rfl rfl ?_
      refine gw_ld rfl rfl ?_
      refine z_b2 (fun c28 => ?_) (fun c28 => ?_)
      · have c28 : to.toInt ≤ k.toInt := c28
        refine gw_skip _ ?_
        refine gw_ld rfl rfl ?_
        refine gw_ld rfl rfl ?_
        refine gw_ld rfl rfl ?_
        refine gw_ld rfl rfl ?_
        refine gw_ld rfl rfl ?_
        refine gw_ld rfl rfl ?_
        refine gw_ld rfl rfl ?_
        refine z_gI2 (by decide) (zT S2 (by decide) rfl) (rfl) ?_
        refine z_b2 (fun c29 => ?_) (fun c29 => ?_)
        · have c29 : to.toInt ≠ ((ez_I h2 71 14)).toInt := c29
          refine gw_skip _ ?_
          refine z_C (m := 0) rfl rfl (fun x30 ex30 => ?_)
          refine z_cl rfl rfl rfl rfl rfl rfl rfl rfl rfl rfl rfl (zT S2 (by decide) rfl) ?_
          refine m_wblock (n := n) (fr := fr) (to := to) (pl := pl) (mn := mn) (la := x30) S2 (by rw [zG_f F (k := 6) (by decide)]; exact M6) (cC_G M.2 F (fun q hq => by omega)) (by rw [zG_fn F 72 (by decide) (by decide), zG_f F (k := 6) (by decide)]; exact A_pq) (by omega) A_ps (by rw [show to.toInt.toNat = k.toInt.toNat by omega]; exact A_nn) (by omega) (by omega) (fun h31 F32 k33 => ?_)
          have S34 := zG_sh F32 S2
          have F35 := zG_tr F (zG_mono F32 (fun k hk => by first | omega | exact False.elim hk) (fun k hk => by first | omega | exact False.elim hk))
          have f36 : ez_I h31 71 0 = (ez_I h2 71 0) := (zG_f F32 (by decide)).trans (rfl)
          have f37 : ez_I h31 71 7 = (ez_I h2 71 7) := (zG_f F32 (by decide)).trans (rfl)
          have f38 : ez_I h31 71 14 = (ez_I h2 71 14) := (zG_f F32 (by decide)).trans (rfl)
          have r39 := z_rng (ez_I h31 71 15)
          have r40 := z_rng (ez_I h31 71 16)
          have f41 : ez_I h31 71 17 = (ez_I h2 71 17) := (zG_f F32 (by decide)).trans (rfl)
          have f42 : ez_I h31 71 18 = (ez_I h2 71 18) := (zG_f F32 (by decide)).trans (rfl)
          have r43 := z_rng (ez_I h31 71 56)
          have r44 := z_rng (ez_I h31 71 57)
          have r45 := z_rng (ez_I h31 71 58)
          have A46 : pQ (ez_I h31 77) (ez_I h31 78) (ez_I h31 79) (ez_I h 72) n (ez_I h 71 6).toInt := by rw [zG_fn F32 77 (by decide) (by first | omega | exact fun c => c), zG_fn F32 78 (by decide) (by first | omega | exact fun c => c), zG_fn F32 79 (by decide) (by first | omega | exact fun c => c)]; exact A_pq
          have A47 : pl.toInt = pS (ez_I h31 77) fr.toInt.toNat := by rw [zG_fn F32 77 (by decide) (by first | omega | exact fun c => c)]; exact A_ps
          have A48 : mn.toInt = pS (ez_I h31 77) k.toInt.toNat - pS (ez_I h31 77) fr.toInt.toNat := by rw [zG_fn F32 77 (by decide) (by first | omega | exact fun c => c)]; exact A_nn
          refine gw_ld rfl rfl ?_
          refine gw_ld rfl rfl ?_
          refine z_add (by omega) (fun x49 ex49 => ?_)
          refine gw_st rfl rfl rfl ?_
          show ez_gw _ _ _ _ _ _ _ _ [some (.ref 71), some (.int x49), some (.int fr), some (.int to), some (.int mn), some (.int k)] _ _ _
          refine gw_ld rfl rfl ?_
          refine gw_st rfl rfl rfl ?_
          show ez_gw _ _ _ _ _ _ _ _ [some (.ref 71), some (.int x49), some (.int to), some (.int to), some (.int mn), some (.int k)] _ _ _
          refine gw_ld rfl rfl ?_
          refine gw_ld rfl rfl ?_
          refine z_gI2 (by decide) (zT S34 (by decide) rfl) (f38) ?_
          refine z_b2 (fun c50 => ?_) (fun c50 => ?_)
          · have c50 : to.toInt < ((ez_I h2 71 14)).toInt := c50
            have t51 := congrArg Int32.toInt (f36)
            have t52 := congrArg Int32.toInt (f37)
            have t53 := congrArg Int32.toInt (f38)
            have t54 := congrArg Int32.toInt (f41)
            have t55 := congrArg Int32.toInt (f42)
            exact ih.1 h31 x49 to (some (.int to)) (some (.int mn)) (some (.int k)) n F35 (by omega) A46 ((by have a := A47; have b := A48; rw [show to.toInt.toNat = k.toInt.toNat by omega]; omega)) (by omega)
          · have c50 : ¬ (to.toInt < ((ez_I h2 71 14)).toInt) := c50
            refine gw_ld rfl rfl ?_
            refine gw_ld rfl rfl ?_
            refine z_gI2 (by decide) (zT S34 (by decide) rfl) (rfl) ?_
            refine z_C (m := 7) rfl rfl (fun x56 ex56 => ?_)
            refine z_add (by omega) (fun x57 ex57 => ?_)
            refine z_C (m := 8) rfl rfl (fun x58 ex58 => ?_)
            refine z_dvP (c := 8) ex58 (by decide) (by omega) (fun x59 ex59 => ?_)
            refine z_pI (zT S34 (by decide) rfl) (fun h60 e61 => ?_)
            have S62 := zSh_set S34 e61
            have F63 := zG_setF F35 e61 (by decide)
            have f64 : ez_I h60 71 0 = (ez_I h2 71 0) := (zI_ne e61 (by decide)).trans (f36)
            have f65 : ez_I h60 71 7 = x59 := zI_eq e61
            have f66 : ez_I h60 71 14 = (ez_I h2 71 14) := (zI_ne e61 (by decide)).trans (f38)
            have f67 : ez_I h60 71 15 = (ez_I h31 71 15) := (zI_ne e61 (by decide)).trans (rfl)
            have f68 : ez_I h60 71 16 = (ez_I h31 71 16) := (zI_ne e61 (by decide)).trans (rfl)
            have f69 : ez_I h60 71 17 = (ez_I h2 71 17) := (zI_ne e61 (by decide)).trans (f41)
            have f70 : ez_I h60 71 18 = (ez_I h2 71 18) := (zI_ne e61 (by decide)).trans (f42)
            have f71 : ez_I h60 71 56 = (ez_I h31 71 56) := (zI_ne e61 (by decide)).trans (rfl)
            have f72 : ez_I h60 71 57 = (ez_I h31 71 57) := (zI_ne e61 (by decide)).trans (rfl)
            have f73 : ez_I h60 71 58 = (ez_I h31 71 58) := (zI_ne e61 (by decide)).trans (rfl)
            have A74 : pQ (ez_I h60 77) (ez_I h60 78) (ez_I h60 79) (ez_I h 72) n (ez_I h 71 6).toInt := by rw [zI_fn e61 77 (by decide), zI_fn e61 78 (by decide), zI_fn e61 79 (by decide)]; exact A46
            have A75 : pl.toInt = pS (ez_I h60 77) fr.toInt.toNat := by rw [zI_fn e61 77 (by decide)]; exact A47
            have A76 : mn.toInt = pS (ez_I h60 77) k.toInt.toNat - pS (ez_I h60 77) fr.toInt.toNat := by rw [zI_fn e61 77 (by decide)]; exact A48
            clear A46
            clear A47
            clear A48
            refine z_C (m := 0) rfl rfl (fun x77 ex77 => ?_)
            refine gw_st rfl rfl rfl ?_
            show ez_gw _ _ _ _ _ _ _ _ [some (.ref 71), some (.int x49), some (.int to), some (.int x77), some (.int mn), some (.int k)] _ _ _
            have t78 := congrArg Int32.toInt (f64)
            have t79 := congrArg Int32.toInt (f65)
            have t80 := congrArg Int32.toInt (f66)
            have t81 := congrArg Int32.toInt (f67)
            have t82 := congrArg Int32.toInt (f68)
            have t83 := congrArg Int32.toInt (f69)
            have t84 := congrArg Int32.toInt (f70)
            have t85 := congrArg Int32.toInt (f71)
            have t86 := congrArg Int32.toInt (f72)
            have t87 := congrArg Int32.toInt (f73)
            exact ez_Wp_at ((m_pack_L1  S M K (((2147483647 - x77.toInt)).toNat + 1)) h60 x49 to x77 (some (.int mn)) (some (.int k)) F63 (by omega)  (by omega)) rfl
        · have c29 : ¬ (to.toInt ≠ ((ez_I h2 71 14)).toInt) := c29
          refine z_C (m := 1) rfl rfl (fun x88 ex88 => ?_)
          refine z_go ?_
          refine gw_skip _ ?_
          refine z_cl rfl rfl rfl rfl rfl rfl rfl rfl rfl rfl rfl (zT S2 (by decide) rfl) ?_
          refine m_wblock (n := n) (fr := fr) (to := to) (pl := pl) (mn := mn) (la := x88) S2 (by rw [zG_f F (k := 6) (by decide)]; exact M6) (cC_G M.2 F (fun q hq => by omega)) (by rw [zG_fn F 72 (by decide) (by decide), zG_f F (k := 6) (by decide)]; exact A_pq) (by omega) A_ps (by rw [show to.toInt.toNat = k.toInt.toNat by omega]; exact A_nn) (by omega) (by omega) (fun h89 F90 k91 => ?_)
          have S92 := zG_sh F90 S2
          have F93 := zG_tr F (zG_mono F90 (fun k hk => by first | omega | exact False.elim hk) (fun k hk => by first | omega | exact False.elim hk))
          have f94 : ez_I h89 71 0 = (ez_I h2 71 0) := (zG_f F90 (by decide)).trans (rfl)
          have f95 : ez_I h89 71 7 = (ez_I h2 71 7) := (zG_f F90 (by decide)).trans (rfl)
          have f96 : ez_I h89 71 14 = (ez_I h2 71 14) := (zG_f F90 (by decide)).trans (rfl)
          have r97 := z_rng (ez_I h89 71 15)
          have r98 := z_rng (ez_I h89 71 16)
          have f99 : ez_I h89 71 17 = (ez_I h2 71 17) := (zG_f F90 (by decide)).trans (rfl)
          have f100 : ez_I h89 71 18 = (ez_I h2 71 18) := (zG_f F90 (by decide)).trans (rfl)
          have r101 := z_rng (ez_I h89 71 56)
          have r102 := z_rng (ez_I h89 71 57)
          have r103 := z_rng (ez_I h89 71 58)
          have A104 : pQ (ez_I h89 77) (ez_I h89 78) (ez_I h89 79) (ez_I h 72) n (ez_I h 71 6).toInt := by rw [zG_fn F90 77 (by decide) (by first | omega | exact fun c => c), zG_fn F90 78 (by decide) (by first | omega | exact fun c => c), zG_fn F90 79 (by decide) (by first | omega | exact fun c => c)]; exact A_pq
          have A105 : pl.toInt = pS (ez_I h89 77) fr.toInt.toNat := by rw [zG_fn F90 77 (by decide) (by first | omega | exact fun c => c)]; exact A_ps
          have A106 : mn.toInt = pS (ez_I h89 77) k.toInt.toNat - pS (ez_I h89 77) fr.toInt.toNat := by rw [zG_fn F90 77 (by decide) (by first | omega | exact fun c => c)]; exact A_nn
          refine gw_ld rfl rfl ?_
          refine gw_ld rfl rfl ?_
          refine z_add (by omega) (fun x107 ex107 => ?_)
          refine gw_st rfl rfl rfl ?_
          show ez_gw _ _ _ _ _ _ _ _ [some (.ref 71), some (.int x107), some (.int fr), some (.int to), some (.int mn), some (.int k)] _ _ _
          refine gw_ld rfl rfl ?_
          refine gw_st rfl rfl rfl ?_
          show ez_gw _ _ _ _ _ _ _ _ [some (.ref 71), some (.int x107), some (.int to), some (.int to), some (.int mn), some (.int k)] _ _ _
          refine gw_ld rfl rfl ?_
          refine gw_ld rfl rfl ?_
          refine z_gI2 (by decide) (zT S92 (by decide) rfl) (f96) ?_
          refine z_b2 (fun c108 => ?_) (fun c108 => ?_)
          · have c108 : to.toInt < ((ez_I h2 71 14)).toInt := c108
            exfalso; omega
          · have c108 : ¬ (to.toInt < ((ez_I h2 71 14)).toInt) := c108
            refine gw_ld rfl rfl ?_
            refine gw_ld rfl rfl ?_
            refine z_gI2 (by decide) (zT S92 (by decide) rfl) (rfl) ?_
            refine z_C (m := 7) rfl rfl (fun x109 ex109 => ?_)
            refine z_add (by omega) (fun x110 ex110 => ?_)
            refine z_C (m := 8) rfl rfl (fun x111 ex111 => ?_)
            refine z_dvP (c := 8) ex111 (by decide) (by omega) (fun x112 ex112 => ?_)
            refine z_pI (zT S92 (by decide) rfl) (fun h113 e114 => ?_)
            have S115 := zSh_set S92 e114
            have F116 := zG_setF F93 e114 (by decide)
            have f117 : ez_I h113 71 0 = (ez_I h2 71 0) := (zI_ne e114 (by decide)).trans (f94)
            have f118 : ez_I h113 71 7 = x112 := zI_eq e114
            have f119 : ez_I h113 71 14 = (ez_I h2 71 14) := (zI_ne e114 (by decide)).trans (f96)
            have f120 : ez_I h113 71 15 = (ez_I h89 71 15) := (zI_ne e114 (by decide)).trans (rfl)
            have f121 : ez_I h113 71 16 = (ez_I h89 71 16) := (zI_ne e114 (by decide)).trans (rfl)
            have f122 : ez_I h113 71 17 = (ez_I h2 71 17) := (zI_ne e114 (by decide)).trans (f99)
            have f123 : ez_I h113 71 18 = (ez_I h2 71 18) := (zI_ne e114 (by decide)).trans (f100)
            have f124 : ez_I h113 71 56 = (ez_I h89 71 56) := (zI_ne e114 (by decide)).trans (rfl)
            have f125 : ez_I h113 71 57 = (ez_I h89 71 57) := (zI_ne e114 (by decide)).trans (rfl)
            have f126 : ez_I h113 71 58 = (ez_I h89 71 58) := (zI_ne e114 (by decide)).trans (rfl)
            have A127 : pQ (ez_I h113 77) (ez_I h113 78) (ez_I h113 79) (ez_I h 72) n (ez_I h 71 6).toInt := by rw [zI_fn e114 77 (by decide), zI_fn e114 78 (by decide), zI_fn e114 79 (by decide)]; exact A104
            have A128 : pl.toInt = pS (ez_I h113 77) fr.toInt.toNat := by rw [zI_fn e114 77 (by decide)]; exact A105
            have A129 : mn.toInt = pS (ez_I h113 77) k.toInt.toNat - pS (ez_I h113 77) fr.toInt.toNat := by rw [zI_fn e114 77 (by decide)]; exact A106
            clear A104
            clear A105
            clear A106
            refine z_C (m := 0) rfl rfl (fun x130 ex130 => ?_)
            refine gw_st rfl rfl rfl ?_
            show ez_gw _ _ _ _ _ _ _ _ [some (.ref 71), some (.int x107), some (.int to), some (.int x130), some (.int mn), some (.int k)] _ _ _
            have t131 := congrArg Int32.toInt (f117)
            have t132 := congrArg Int32.toInt (f118)
            have t133 := congrArg Int32.toInt (f119)
            have t134 := congrArg Int32.toInt (f120)
            have t135 := congrArg Int32.toInt (f121)
            have t136 := congrArg Int32.toInt (f122)
            have t137 := congrArg Int32.toInt (f123)
            have t138 := congrArg Int32.toInt (f124)
            have t139 := congrArg Int32.toInt (f125)
            have t140 := congrArg Int32.toInt (f126)
            exact ez_Wp_at ((m_pack_L1  S M K (((2147483647 - x130.toInt)).toNat + 1)) h113 x107 to x130 (some (.int mn)) (some (.int k)) F116 (by omega)  (by omega)) rfl
      · have c28 : ¬ (to.toInt ≤ k.toInt) := c28
        refine gw_ld rfl rfl ?_
        refine gw_ld rfl rfl ?_
        refine z_gR (q := 77) (zT S2 (by decide) rfl) (zRf S2 (by decide) (by decide) rfl) (by decide) ?_
        refine gw_ld rfl rfl ?_
        refine z_ia (n := 6000) (zT S2 (by decide) rfl) (zN S2 (by decide) rfl) (by omega) ?_
        generalize ex141 : ez_I h2 77 k.toInt.toNat = x141
        have rx141 := z_rng x141
        replace hpk := hpk (by omega)
        replace hpk1 := hpk1 (by omega)
        rw [ex141] at hpt hpk1
        refine z_add (by omega) (fun x142 ex142 => ?_)
        refine gw_st rfl rfl rfl ?_
        show ez_gw _ _ _ _ _ _ _ _ [some (.ref 71), some (.int pl), some (.int fr), some (.int to), some (.int x142), some (.int k)] _ _ _
        refine z_inc rfl (by rw [show (1 : Int32).toInt = 1 from rfl]; omega) (fun x143 ex143 => ?_)
        rw [show (1 : Int32).toInt = 1 from rfl] at ex143
        show ez_gw _ _ _ _ _ _ _ _ [some (.ref 71), some (.int pl), some (.int fr), some (.int to), some (.int x142), some (.int x143)] _ _ _
        refine z_go ?_
        exact ih.2 h2 pl fr to x142 x143 n F (by omega) A_pq A_ps ((by rw [show x143.toInt.toNat = k.toInt.toNat + 1 by omega]; omega)) (by omega)
set_option maxRecDepth 4000 in
set_option maxHeartbeats 20000000 in
theorem m_pack {E : Nat → Nat × (Nat → Int32)} {d : Nat} {Q : ez_Q} {h : ez_H}  (S : zSh h) (M : mI h) (K : ∀ h2 (x : Int32), zF zY h h2 → mI h2 → Q (.inl (some (.int x))) h2) : pw E (d + 3) 45 0 [some (.ref 71), none, none, none, none, none] [] h Q := by
  have M6 := M.1.1
  have M7 := M.1.2.1
  have M14 := M.1.2.2.1
  have M15 := M.1.2.2.2
  have MC := M.2
  have F := zG_refl (fun k => k = 0 ∨ k = 7 ∨ k = 14 ∨ k = 15 ∨ k = 16 ∨ k = 17 ∨ k = 18 ∨ k = 56 ∨ k = 57 ∨ k = 58) (fun q => q = 73 ∨ q = 75 ∨ 77 ≤ q ∧ q ≤ 91 ∨ 97 ≤ q ∧ q ≤ 119) h
  apply ez_Wp_in
  show ez_gw _ _ _ _ _ _ (cz_45) _ _ _ _ _
  refine gw_skip _ ?_
  have r1 := z_rng (ez_I h 71 0)
  have r2 := z_rng (ez_I h 71 7)
  have r3 := z_rng (ez_I h 71 14)
  have r4 := z_rng (ez_I h 71 15)
  have r5 := z_rng (ez_I h 71 16)
  have r6 := z_rng (ez_I h 71 17)
  have r7 := z_rng (ez_I h 71 18)
  have r8 := z_rng (ez_I h 71 56)
  have r9 := z_rng (ez_I h 71 57)
  have r10 := z_rng (ez_I h 71 58)
  refine gw_ld rfl rfl ?_
  refine z_C (m := 0) rfl rfl (fun x11 ex11 => ?_)
  refine z_pI (zT S (by decide) rfl) (fun h12 e13 => ?_)
  have S14 := zSh_set S e13
  have F15 := zG_setF F e13 (by decide)
  have f16 : ez_I h12 71 0 = x11 := zI_eq e13
  have f17 : ez_I h12 71 7 = (ez_I h 71 7) := (zI_ne e13 (by decide)).trans (rfl)
  have f18 : ez_I h12 71 14 = (ez_I h 71 14) := (zI_ne e13 (by decide)).trans (rfl)
  have f19 : ez_I h12 71 15 = (ez_I h 71 15) := (zI_ne e13 (by decide)).trans (rfl)
  have f20 : ez_I h12 71 16 = (ez_I h 71 16) := (zI_ne e13 (by decide)).trans (rfl)
  have f21 : ez_I h12 71 17 = (ez_I h 71 17) := (zI_ne e13 (by decide)).trans (rfl)
  have f22 : ez_I h12 71 18 = (ez_I h 71 18) := (zI_ne e13 (by decide)).trans (rfl)
  have f23 : ez_I h12 71 56 = (ez_I h 71 56) := (zI_ne e13 (by decide)).trans (rfl)
  have f24 : ez_I h12 71 57 = (ez_I h 71 57) := (zI_ne e13 (by decide)).trans (rfl)
  have f25 : ez_I h12 71 58 = (ez_I h 71 58) := (zI_ne e13 (by decide)).trans (rfl)
  refine gw_ld rfl rfl ?_
  have t26 := congrArg Int32.toInt (f16)
  have t27 := congrArg Int32.toInt (f17)
  have t28 := congrArg Int32.toInt (f18)
  have t29 := congrArg Int32.toInt (f19)
  have t30 := congrArg Int32.toInt (f20)
  have t31 := congrArg Int32.toInt (f21)
  have t32 := congrArg Int32.toInt (f22)
  have t33 := congrArg Int32.toInt (f23)
  have t34 := congrArg Int32.toInt (f24)
  have t35 := congrArg Int32.toInt (f25)
  refine z_cl rfl rfl rfl rfl rfl rfl rfl rfl rfl rfl rfl (zT S14 (by decide) rfl) ?_
  refine m_findParts S14 (by rw [zG_f F15 (k := 6) (by decide)]; exact M6) (fun h36 F37 k38 k39 => ?_)
  rw [zG_fn F15 72 (by decide) (by decide), show ez_I h12 71 6 = ez_I h 71 6 from zG_f F15 (by decide)] at k39
  rw [show ez_I h12 71 6 = ez_I h 71 6 from zG_f F15 (by decide)] at k38
  have S40 := zG_sh F37 S14
  have F41 := zG_tr F15 (zG_mono F37 (fun k hk => by first | omega | exact False.elim hk) (fun k hk => by first | omega | exact False.elim hk))
  have f42 : ez_I h36 71 0 = x11 := (zG_f F37 (by decide)).trans (f16)
  have f43 : ez_I h36 71 7 = (ez_I h 71 7) := (zG_f F37 (by decide)).trans (f17)
  have r44 := z_rng (ez_I h36 71 14)
  have f45 : ez_I h36 71 15 = (ez_I h 71 15) := (zG_f F37 (by decide)).trans (f19)
  have f46 : ez_I h36 71 16 = (ez_I h 71 16) := (zG_f F37 (by decide)).trans (f20)
  have r47 := z_rng (ez_I h36 71 17)
  have r48 := z_rng (ez_I h36 71 18)
  have f49 : ez_I h36 71 56 = (ez_I h 71 56) := (zG_f F37 (by decide)).trans (f23)
  have f50 : ez_I h36 71 57 = (ez_I h 71 57) := (zG_f F37 (by decide)).trans (f24)
  have f51 : ez_I h36 71 58 = (ez_I h 71 58) := (zG_f F37 (by decide)).trans (f25)
  refine gw_ld rfl rfl ?_
  refine z_C (m := 0) rfl rfl (fun x52 ex52 => ?_)
  refine z_pI (zT S40 (by decide) rfl) (fun h53 e54 => ?_)
  have S55 := zSh_set S40 e54
  have F56 := zG_setF F41 e54 (by decide)
  have f57 : ez_I h53 71 0 = x11 := (zI_ne e54 (by decide)).trans (f42)
  have f58 : ez_I h53 71 7 = (ez_I h 71 7) := (zI_ne e54 (by decide)).trans (f43)
  have f59 : ez_I h53 71 14 = (ez_I h36 71 14) := (zI_ne e54 (by decide)).trans (rfl)
  have f60 : ez_I h53 71 15 = (ez_I h 71 15) := (zI_ne e54 (by decide)).trans (f45)
  have f61 : ez_I h53 71 16 = x52 := zI_eq e54
  have f62 : ez_I h53 71 17 = (ez_I h36 71 17) := (zI_ne e54 (by decide)).trans (rfl)
  have f63 : ez_I h53 71 18 = (ez_I h36 71 18) := (zI_ne e54 (by decide)).trans (rfl)
  have f64 : ez_I h53 71 56 = (ez_I h 71 56) := (zI_ne e54 (by decide)).trans (f49)
  have f65 : ez_I h53 71 57 = (ez_I h 71 57) := (zI_ne e54 (by decide)).trans (f50)
  have f66 : ez_I h53 71 58 = (ez_I h 71 58) := (zI_ne e54 (by decide)).trans (f51)
  have A67 : pQ (ez_I h53 77) (ez_I h53 78) (ez_I h53 79) (ez_I h 72) (ez_I h36 71 14).toInt.toNat (ez_I h 71 6).toInt := by rw [zI_fn e54 77 (by decide), zI_fn e54 78 (by decide), zI_fn e54 79 (by decide)]; exact k39
  refine gw_ld rfl rfl ?_
  refine z_C (m := 0) rfl rfl (fun x68 ex68 => ?_)
  refine z_pI (zT S55 (by decide) rfl) (fun h69 e70 => ?_)
  have S71 := zSh_set S55 e70
  have F72 := zG_setF F56 e70 (by decide)
  have f73 : ez_I h69 71 0 = x11 := (zI_ne e70 (by decide)).trans (f57)
  have f74 : ez_I h69 71 7 = (ez_I h 71 7) := (zI_ne e70 (by decide)).trans (f58)
  have f75 : ez_I h69 71 14 = (ez_I h36 71 14) := (zI_ne e70 (by decide)).trans (f59)
  have f76 : ez_I h69 71 15 = x68 := zI_eq e70
  have f77 : ez_I h69 71 16 = x52 := (zI_ne e70 (by decide)).trans (f61)
  have f78 : ez_I h69 71 17 = (ez_I h36 71 17) := (zI_ne e70 (by decide)).trans (f62)
  have f79 : ez_I h69 71 18 = (ez_I h36 71 18) := (zI_ne e70 (by decide)).trans (f63)
  have f80 : ez_I h69 71 56 = (ez_I h 71 56) := (zI_ne e70 (by decide)).trans (f64)
  have f81 : ez_I h69 71 57 = (ez_I h 71 57) := (zI_ne e70 (by decide)).trans (f65)
  have f82 : ez_I h69 71 58 = (ez_I h 71 58) := (zI_ne e70 (by decide)).trans (f66)
  have A83 : pQ (ez_I h69 77) (ez_I h69 78) (ez_I h69 79) (ez_I h 72) (ez_I h36 71 14).toInt.toNat (ez_I h 71 6).toInt := by rw [zI_fn e70 77 (by decide), zI_fn e70 78 (by decide), zI_fn e70 79 (by decide)]; exact A67
  clear A67
  refine z_C (m := 0) rfl rfl (fun x84 ex84 => ?_)
  refine gw_st rfl rfl rfl ?_
  show ez_gw _ _ _ _ _ _ _ _ [some (.ref 71), some (.int x84), none, none, none, none] _ _ _
  refine z_C (m := 0) rfl rfl (fun x85 ex85 => ?_)
  refine gw_st rfl rfl rfl ?_
  show ez_gw _ _ _ _ _ _ _ _ [some (.ref 71), some (.int x84), some (.int x85), none, none, none] _ _ _
  have t86 := congrArg Int32.toInt (f73)
  have t87 := congrArg Int32.toInt (f74)
  have t88 := congrArg Int32.toInt (f75)
  have t89 := congrArg Int32.toInt (f76)
  have t90 := congrArg Int32.toInt (f77)
  have t91 := congrArg Int32.toInt (f78)
  have t92 := congrArg Int32.toInt (f79)
  have t93 := congrArg Int32.toInt (f80)
  have t94 := congrArg Int32.toInt (f81)
  have t95 := congrArg Int32.toInt (f82)
  exact ez_Wp_at ((m_pack_L0  S M K (((1000 * (100 - (ez_I h69 71 15).toInt))).toNat + 1)).1 h69 x84 x85 (none) (none) (none) (ez_I h36 71 14).toInt.toNat F72 (by omega) A83 ((by rw [show x85.toInt.toNat = 0 by omega]; show _ = (0 : Int); omega)) (by omega)) rfl
