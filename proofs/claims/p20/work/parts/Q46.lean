/-! PRINTED by wip/pack: the model tells the row of lengths -/
theorem row15b {L1 L2 : Nat → Nat} (A : ∀ k, k < 286 → L1 k ≤ 15) (B : ∀ k, k < 30 → L2 k ≤ 15) : ∀ j, j < rowM L1 L2 → rowF L1 L2 j ≤ 15 := fun j hj => by
  have a := tdM_rng L1 257 29
  have b := tdM_rng L2 1 29
  unfold rowM at hj
  unfold rowF rwF
  by_cases q : j < tdM L1 257 29
  · rw [if_pos q]; exact A j (by omega)
  · rw [if_neg q]; exact B _ (by omega)
theorem x64_0 : ∀ q k : Nat, (q = 71 ∧ k = 56) → (q = 71 ∧ k = 56 ∨ q = 71 ∧ k = 57 ∨ q = 71 ∧ k = 58) := fun q k hk => (.inl hk)
theorem x64_1 : ∀ q : Nat, (q = 99 ∨ q = 117 ∨ q = 118) → (q = 99 ∨ q = 117 ∨ q = 118 ∨ q = 119) := fun q hk => hk.elim (fun g => (.inl g)) (fun hk => hk.elim (fun g => (.inr (.inl g))) (fun hk => (.inr (.inr (.inl hk)))))
theorem x64_2 : ∀ q : Nat, (False) → (False) := fun q hk => hk.elim
theorem x64_3 : ∀ k : Nat, ¬ (119 = 71 ∧ k = 56) := fun k c => by omega
set_option maxRecDepth 4000 in
set_option maxHeartbeats 2000000 in
theorem d_tellL_L5 {E : Nat → Nat × (Nat → Int32)} {d : Nat} {Q : ez_Q} {h : ez_H}  (S : zSh h) (hL1 : aR (ez_I h 100) 286 0 15) (hL2 : aR (ez_I h 101) 30 0 15) (K : ∀ h2, zW (fun q k => q = 71 ∧ k = 56 ∨ q = 71 ∧ k = 57 ∨ q = 71 ∧ k = 58) (fun q => q = 99 ∨ q = 117 ∨ q = 118 ∨ q = 119) (fun _ => False) h h2 → ∀ c : Nat, (ez_I h2 71 56).toInt = c → (ez_I h2 71 57).toInt = ((tdM (nL (ez_I h 100)) 257 29) : Nat) → (ez_I h2 71 58).toInt = ((tdM (nL (ez_I h 101)) 1 29) : Nat) → tp (rowF (nL (ez_I h 100)) (nL (ez_I h 101))) (rowM (nL (ez_I h 100)) (nL (ez_I h 101))) c = (rowM (nL (ez_I h 100)) (nL (ez_I h 101))) → ltT (rowF (nL (ez_I h 100)) (nL (ez_I h 101))) (rowM (nL (ez_I h 100)) (nL (ez_I h 101))) c → teI (ez_I h2 117) (ez_I h2 118) (rowF (nL (ez_I h 100)) (nL (ez_I h 101))) (rowM (nL (ez_I h 100)) (nL (ez_I h 101))) c → ctI (ez_I h2 99) (tC (rowF (nL (ez_I h 100)) (nL (ez_I h 101))) (rowM (nL (ez_I h 100)) (nL (ez_I h 101))) c) 19 → c ≤ 316 → Q (.inl none) h2) : ∀ N : Nat, (∀ (h2 : ez_H) (al : Int32) (k : Int32) (l3 : Option Value) (l4 : Option Value) (c : Nat), zW (fun q k => q = 71 ∧ k = 56 ∨ q = 71 ∧ k = 57 ∨ q = 71 ∧ k = 58) (fun q => q = 99 ∨ q = 117 ∨ q = 118 ∨ q = 119) (fun _ => False) h h2 → (al.toInt = (rowM (nL (ez_I h 100)) (nL (ez_I h 101))) ∧ 0 ≤ k.toInt ∧ k.toInt = (tp (rowF (nL (ez_I h 100)) (nL (ez_I h 101))) (rowM (nL (ez_I h 100)) (nL (ez_I h 101))) c : Nat) ∧ (ez_I h2 71 56).toInt = c ∧ k.toInt ≤ (rowM (nL (ez_I h 100)) (nL (ez_I h 101))) ∧ (ez_I h2 71 57).toInt = ((tdM (nL (ez_I h 100)) 257 29) : Nat) ∧ (ez_I h2 71 58).toInt = ((tdM (nL (ez_I h 101)) 1 29) : Nat)) → (cpN (ez_I h2 119) (rowF (nL (ez_I h 100)) (nL (ez_I h 101))) (rowM (nL (ez_I h 100)) (nL (ez_I h 101)))) → (teI (ez_I h2 117) (ez_I h2 118) (rowF (nL (ez_I h 100)) (nL (ez_I h 101))) (rowM (nL (ez_I h 100)) (nL (ez_I h 101))) c) → (ctI (ez_I h2 99) (tC (rowF (nL (ez_I h 100)) (nL (ez_I h 101))) (rowM (nL (ez_I h 100)) (nL (ez_I h 101))) c) 19) → (ltT (rowF (nL (ez_I h 100)) (nL (ez_I h 101))) (rowM (nL (ez_I h 100)) (nL (ez_I h 101))) c) → (1000 * (400 - k.toInt)) < (N : Int) → pw E (d + 1) 42 188 [some (.ref 71), some (.int al), some (.int k), l3, l4] [] h2 Q) ∧ (∀ (h2 : ez_H) (al : Int32) (k : Int32) (v : Int32) (n : Int32) (c : Nat), zW (fun q k => q = 71 ∧ k = 56 ∨ q = 71 ∧ k = 57 ∨ q = 71 ∧ k = 58) (fun q => q = 99 ∨ q = 117 ∨ q = 118 ∨ q = 119) (fun _ => False) h h2 → (al.toInt = (rowM (nL (ez_I h 100)) (nL (ez_I h 101))) ∧ 0 ≤ k.toInt ∧ k.toInt = (tp (rowF (nL (ez_I h 100)) (nL (ez_I h 101))) (rowM (nL (ez_I h 100)) (nL (ez_I h 101))) c : Nat) ∧ (ez_I h2 71 56).toInt = c ∧ k.toInt < (rowM (nL (ez_I h 100)) (nL (ez_I h 101))) ∧ v.toInt = ((rowF (nL (ez_I h 100)) (nL (ez_I h 101))) k.toInt.toNat : Nat) ∧ 1 ≤ n.toInt ∧ k.toInt + n.toInt ≤ (rowM (nL (ez_I h 100)) (nL (ez_I h 101))) ∧ (ez_I h2 71 57).toInt = ((tdM (nL (ez_I h 100)) 257 29) : Nat) ∧ (ez_I h2 71 58).toInt = ((tdM (nL (ez_I h 101)) 1 29) : Nat)) → (cpN (ez_I h2 119) (rowF (nL (ez_I h 100)) (nL (ez_I h 101))) (rowM (nL (ez_I h 100)) (nL (ez_I h 101)))) → (teI (ez_I h2 117) (ez_I h2 118) (rowF (nL (ez_I h 100)) (nL (ez_I h 101))) (rowM (nL (ez_I h 100)) (nL (ez_I h 101))) c) → (ctI (ez_I h2 99) (tC (rowF (nL (ez_I h 100)) (nL (ez_I h 101))) (rowM (nL (ez_I h 100)) (nL (ez_I h 101))) c) 19) → (ltT (rowF (nL (ez_I h 100)) (nL (ez_I h 101))) (rowM (nL (ez_I h 100)) (nL (ez_I h 101))) c) → (∀ j, j < n.toInt.toNat → k.toInt.toNat + j < (rowM (nL (ez_I h 100)) (nL (ez_I h 101))) ∧ (rowF (nL (ez_I h 100)) (nL (ez_I h 101))) (k.toInt.toNat + j) = v.toInt.toNat) → (1000 * (400 - k.toInt) - n.toInt) < (N : Int) → pw E (d + 1) 42 203 [some (.ref 71), some (.int al), some (.int k), some (.int v), some (.int n)] [] h2 Q) := by
  intro N
  induction N with
  | zero => exact ⟨fun h2 al k l3 l4 c F hinv A_ro A_te A_tc A_lt hm => absurd hm (by have w_al := z_rng al; have w_k := z_rng k; have hnl := tdM_rng (nL (ez_I h 100)) 257 29; have hnd := tdM_rng (nL (ez_I h 101)) 1 29; have hrm : (rowM (nL (ez_I h 100)) (nL (ez_I h 101))) = (tdM (nL (ez_I h 100)) 257 29) + (tdM (nL (ez_I h 101)) 1 29) := rfl; have hf15 : ∀ j, j < (rowM (nL (ez_I h 100)) (nL (ez_I h 101))) → (rowF (nL (ez_I h 100)) (nL (ez_I h 101))) j ≤ 15 := row15b (fun k hk => by have := hL1 k (by omega); show (ez_I h 100 k).toInt.toNat ≤ 15; omega) (fun k hk => by have := hL2 k (by omega); show (ez_I h 101 k).toInt.toNat ≤ 15; omega); omega), fun h2 al k v n c F hinv A_ro A_te A_tc A_lt A_eq hm => absurd hm (by have w_al := z_rng al; have w_k := z_rng k; have w_v := z_rng v; have w_n := z_rng n; have hnl := tdM_rng (nL (ez_I h 100)) 257 29; have hnd := tdM_rng (nL (ez_I h 101)) 1 29; have hrm : (rowM (nL (ez_I h 100)) (nL (ez_I h 101))) = (tdM (nL (ez_I h 100)) 257 29) + (tdM (nL (ez_I h 101)) 1 29) := rfl; have hf15 : ∀ j, j < (rowM (nL (ez_I h 100)) (nL (ez_I h 101))) → (rowF (nL (ez_I h 100)) (nL (ez_I h 101))) j ≤ 15 := row15b (fun k hk => by have := hL1 k (by omega); show (ez_I h 100 k).toInt.toNat ≤ 15; omega) (fun k hk => by have := hL2 k (by omega); show (ez_I h 101 k).toInt.toNat ≤ 15; omega); omega)⟩
  | succ N ih =>
    refine ⟨fun h2 al k l3 l4 c F hinv A_ro A_te A_tc A_lt hm => ?_, fun h2 al k v n c F hinv A_ro A_te A_tc A_lt A_eq hm => ?_⟩
    · skip
      have w_al := z_rng al
      have w_k := z_rng k
      have hnl := tdM_rng (nL (ez_I h 100)) 257 29
      have hnd := tdM_rng (nL (ez_I h 101)) 1 29
      have hrm : (rowM (nL (ez_I h 100)) (nL (ez_I h 101))) = (tdM (nL (ez_I h 100)) 257 29) + (tdM (nL (ez_I h 101)) 1 29) := rfl
      have hf15 : ∀ j, j < (rowM (nL (ez_I h 100)) (nL (ez_I h 101))) → (rowF (nL (ez_I h 100)) (nL (ez_I h 101))) j ≤ 15 := row15b (fun k hk => by have := hL1 k (by omega); show (ez_I h 100 k).toInt.toNat ≤ 15; omega) (fun k hk => by have := hL2 k (by omega); show (ez_I h 101 k).toInt.toNat ≤ 15; omega)
      have S2 := zW_sh F S
      have hcp := tp_k hf15 c A_lt
      apply ez_Wp_in
      show ez_gw _ _ _ _ _ _ (cz_42) _ _ _ _ _
      refine gw_skip _ ?_
      have r1 := z_rng (ez_I h2 71 56)
      have r2 := z_rng (ez_I h2 71 57)
      have r3 := z_rng (ez_I h2 71 58)
      refine gw_ld rfl rfl ?_
      refine gw_ld rfl rfl ?_
      refine z_b2 (fun c4 => ?_) (fun c4 => ?_)
      · have c4 : al.toInt ≤ k.toInt := c4
        refine gw_skip _ ?_
        refine z_rv ?_
        have htk := tp_k hf15 c A_lt
        exact K _ F c (by omega) (by omega) (by omega) (by omega) A_lt A_te A_tc (by omega)
      · have c4 : ¬ (al.toInt ≤ k.toInt) := c4
        refine gw_ld rfl rfl ?_
        refine z_gR (q := 119) (zT S2 (by decide) rfl) (zRf S2 (by decide) (by decide) rfl) (by decide) ?_
        refine gw_ld rfl rfl ?_
        refine z_ia (n := 330) (zT S2 (by decide) rfl) (zN S2 (by decide) rfl) (by omega) ?_
        generalize ex5 : ez_I h2 119 k.toInt.toNat = x5
        have rx5 := z_rng x5
        have yv := A_ro k.toInt.toNat (by omega)
        rw [ex5, show k.toInt.toNat = k.toInt.toNat by omega] at yv
        refine gw_st rfl rfl rfl ?_
        show ez_gw _ _ _ _ _ _ _ _ [some (.ref 71), some (.int al), some (.int k), some (.int x5), l4] _ _ _
        refine z_C (m := 1) rfl rfl (fun x6 ex6 => ?_)
        refine gw_st rfl rfl rfl ?_
        show ez_gw _ _ _ _ _ _ _ _ [some (.ref 71), some (.int al), some (.int k), some (.int x5), some (.int x6)] _ _ _
        exact ez_Wp_at (ih.2 h2 al k x5 x6 c F (by omega) A_ro A_te A_tc A_lt ((fun j hj => by rw [show j = 0 by omega, Nat.add_zero]; omega)) (by omega)) rfl
    · skip
      have w_al := z_rng al
      have w_k := z_rng k
      have w_v := z_rng v
      have w_n := z_rng n
      have hnl := tdM_rng (nL (ez_I h 100)) 257 29
      have hnd := tdM_rng (nL (ez_I h 101)) 1 29
      have hrm : (rowM (nL (ez_I h 100)) (nL (ez_I h 101))) = (tdM (nL (ez_I h 100)) 257 29) + (tdM (nL (ez_I h 101)) 1 29) := rfl
      have hf15 : ∀ j, j < (rowM (nL (ez_I h 100)) (nL (ez_I h 101))) → (rowF (nL (ez_I h 100)) (nL (ez_I h 101))) j ≤ 15 := row15b (fun k hk => by have := hL1 k (by omega); show (ez_I h 100 k).toInt.toNat ≤ 15; omega) (fun k hk => by have := hL2 k (by omega); show (ez_I h 101 k).toInt.toNat ≤ 15; omega)
      have S2 := zW_sh F S
      have hcp := tp_k hf15 c A_lt
      apply ez_Wp_in
      show ez_gw _ _ _ _ _ _ (cz_42) _ _ _ _ _
      refine gw_skip _ ?_
      have r7 := z_rng (ez_I h2 71 56)
      have r8 := z_rng (ez_I h2 71 57)
      have r9 := z_rng (ez_I h2 71 58)
      refine gw_ld rfl rfl ?_
      refine gw_ld rfl rfl ?_
      refine z_add (by omega) (fun x10 ex10 => ?_)
      refine gw_ld rfl rfl ?_
      refine z_b2 (fun c11 => ?_) (fun c11 => ?_)
      · have c11 : al.toInt ≤ x10.toInt := c11
        refine gw_skip _ ?_
        have hrn : n.toInt.toNat = rn (rowF (nL (ez_I h 100)) (nL (ez_I h 101))) (rowM (nL (ez_I h 100)) (nL (ez_I h 101))) k.toInt.toNat ((rowF (nL (ez_I h 100)) (nL (ez_I h 101))) k.toInt.toNat) 400 := (rn_is (by omega) (fun j hj => by rw [← show v.toInt.toNat = (rowF (nL (ez_I h 100)) (nL (ez_I h 101))) k.toInt.toNat by omega]; exact A_eq j hj) (fun _ q => by omega)).symm
        refine gw_ld rfl rfl ?_
        refine z_b1 (fun c12 => ?_) (fun c12 => ?_)
        · have c12 : v.toInt ≠ 0 := c12
          refine gw_skip _ ?_
          refine gw_ld rfl rfl ?_
          refine z_b1 (fun c13 => ?_) (fun c13 => ?_)
          · have c13 : k.toInt ≤ 0 := c13
            refine gw_skip _ ?_
            refine gw_ld rfl rfl ?_
            refine gw_ld rfl rfl ?_
            refine z_C (m := 0) rfl rfl (fun x14 ex14 => ?_)
            refine z_cl rfl rfl rfl rfl rfl rfl rfl rfl rfl rfl rfl (zT S2 (by decide) rfl) ?_
            have htk : tk (rowF (nL (ez_I h 100)) (nL (ez_I h 101))) (rowM (nL (ez_I h 100)) (nL (ez_I h 101))) k.toInt.toNat = (v.toInt.toNat, x14.toInt.toNat, 1) := by rw [tk_n (f := (rowF (nL (ez_I h 100)) (nL (ez_I h 101)))) (N := (rowM (nL (ez_I h 100)) (nL (ez_I h 101)))) (a := k.toInt.toNat) (n := n.toInt.toNat) (m := 400) (by omega) (by omega) hrn, if_neg (fun q => by omega), if_neg (fun q => by omega)]; exact p3_eq (by omega) (by omega) rfl
            have hko := tk_ok (f := (rowF (nL (ez_I h 100)) (nL (ez_I h 101)))) (N := (rowM (nL (ez_I h 100)) (nL (ez_I h 101)))) (a := k.toInt.toNat) (by omega) hf15
            rw [htk] at hko
            have hko2 : v.toInt.toNat ≤ 18 ∧ 1 ≤ 1 ∧ k.toInt.toNat + 1 ≤ (rowM (nL (ez_I h 100)) (nL (ez_I h 101))) := ⟨hko.1, hko.2.1, hko.2.2.1⟩
            have htS : tS (rowF (nL (ez_I h 100)) (nL (ez_I h 101))) (rowM (nL (ez_I h 100)) (nL (ez_I h 101))) c = v.toInt.toNat := by unfold tS; rw [show tp (rowF (nL (ez_I h 100)) (nL (ez_I h 101))) (rowM (nL (ez_I h 100)) (nL (ez_I h 101))) c = k.toInt.toNat by omega, htk]
            have htX : tX (rowF (nL (ez_I h 100)) (nL (ez_I h 101))) (rowM (nL (ez_I h 100)) (nL (ez_I h 101))) c = x14.toInt.toNat := by unfold tX; rw [show tp (rowF (nL (ez_I h 100)) (nL (ez_I h 101))) (rowM (nL (ez_I h 100)) (nL (ez_I h 101))) c = k.toInt.toNat by omega, htk]
            have htp : tp (rowF (nL (ez_I h 100)) (nL (ez_I h 101))) (rowM (nL (ez_I h 100)) (nL (ez_I h 101))) (c + 1) = tp (rowF (nL (ez_I h 100)) (nL (ez_I h 101))) (rowM (nL (ez_I h 100)) (nL (ez_I h 101))) c + 1 := by show tp (rowF (nL (ez_I h 100)) (nL (ez_I h 101))) (rowM (nL (ez_I h 100)) (nL (ez_I h 101))) c + (tk (rowF (nL (ez_I h 100)) (nL (ez_I h 101))) (rowM (nL (ez_I h 100)) (nL (ez_I h 101))) (tp (rowF (nL (ez_I h 100)) (nL (ez_I h 101))) (rowM (nL (ez_I h 100)) (nL (ez_I h 101))) c)).2.2 = _; rw [show tp (rowF (nL (ez_I h 100)) (nL (ez_I h 101))) (rowM (nL (ez_I h 100)) (nL (ez_I h 101))) c = k.toInt.toNat by omega, htk]
            refine d_tr (a := v) (b := x14) S2 (by omega) (by omega) (ctI_aR A_tc (fun z => by have := tC_le (rowF (nL (ez_I h 100)) (nL (ez_I h 101))) (rowM (nL (ez_I h 100)) (nL (ez_I h 101))) c z; omega)) (fun h15 F16 k17 k18 k19 k20 => ?_)
            rw [show (ez_I h2 71 56).toInt.toNat = c by omega] at k18 k19
            have A21 : teI (ez_I h15 117) (ez_I h15 118) (rowF (nL (ez_I h 100)) (nL (ez_I h 101))) (rowM (nL (ez_I h 100)) (nL (ez_I h 101))) (c + 1) := teI_s A_te (congrArg Int32.toInt k18.1) (congrArg Int32.toInt k19.1) k18.2 k19.2 (by rw [htS]; omega) (by rw [htX]; omega) rfl
            have A22 : ctI (ez_I h15 99) (tC (rowF (nL (ez_I h 100)) (nL (ez_I h 101))) (rowM (nL (ez_I h 100)) (nL (ez_I h 101))) (c + 1)) 19 := ctI_upE A_tc (by rw [htS]; exact k20) (tC_y _ _ _) (fun q hq => tC_n hq)
            have S23 := zW_sh F16 S2
            have F24 := zW_tr F (zW_mono F16 (x64_0) (x64_1) (x64_2))
            have r25 := z_rng (ez_I h15 71 56)
            have f26 : ez_I h15 71 57 = (ez_I h2 71 57) := (zW_f F16 (by decide) (by decide)).trans (rfl)
            have f27 : ez_I h15 71 58 = (ez_I h2 71 58) := (zW_f F16 (by decide) (by decide)).trans (rfl)
            have A28 : cpN (ez_I h15 119) (rowF (nL (ez_I h 100)) (nL (ez_I h 101))) (rowM (nL (ez_I h 100)) (nL (ez_I h 101))) := by rw [zW_fn F16 119 (by decide) (x64_3)]; exact A_ro
            refine z_inc rfl (by rw [show (1 : Int32).toInt = 1 from rfl]; omega) (fun x29 ex29 => ?_)
            rw [show (1 : Int32).toInt = 1 from rfl] at ex29
            show ez_gw _ _ _ _ _ _ _ _ [some (.ref 71), some (.int al), some (.int x29), some (.int v), some (.int n)] _ _ _
            refine z_go ?_
            have t30 := congrArg Int32.toInt (f26)
            have t31 := congrArg Int32.toInt (f27)
            exact ih.1 h15 al x29 (some (.int v)) (some (.int n)) (c + 1) F24 (by rw [htp]; omega) A28 (A21) (A22) ((ltT_s A_lt (by omega) rfl)) (by omega)
          · have c13 : ¬ (k.toInt ≤ 0) := c13
            refine gw_ld rfl rfl ?_
            refine z_gR (q := 119) (zT S2 (by decide) rfl) (zRf S2 (by decide) (by decide) rfl) (by decide) ?_
            refine gw_ld rfl rfl ?_
            refine z_C (m := 1) rfl rfl (fun x32 ex32 => ?_)
            refine z_sub (by omega) (fun x33 ex33 => ?_)
            refine z_ia (n := 330) (zT S2 (by decide) rfl) (zN S2 (by decide) rfl) (by omega) ?_
            generalize ex34 : ez_I h2 119 x33.toInt.toNat = x34
            have rx34 := z_rng x34
            have yp := A_ro x33.toInt.toNat (by omega)
            rw [ex34, show x33.toInt.toNat = k.toInt.toNat - 1 by omega] at yp
            refine gw_ld rfl rfl ?_
            refine z_b2 (fun c35 => ?_) (fun c35 => ?_)
            · have c35 : x34.toInt ≠ v.toInt := c35
              refine gw_skip _ ?_
              refine gw_ld rfl rfl ?_
              refine gw_ld rfl rfl ?_
              refine z_C (m := 0) rfl rfl (fun x36 ex36 => ?_)
              refine z_cl rfl rfl rfl rfl rfl rfl rfl rfl rfl rfl rfl (zT S2 (by decide) rfl) ?_
              have htk : tk (rowF (nL (ez_I h 100)) (nL (ez_I h 101))) (rowM (nL (ez_I h 100)) (nL (ez_I h 101))) k.toInt.toNat = (v.toInt.toNat, x36.toInt.toNat, 1) := by rw [tk_n (f := (rowF (nL (ez_I h 100)) (nL (ez_I h 101)))) (N := (rowM (nL (ez_I h 100)) (nL (ez_I h 101)))) (a := k.toInt.toNat) (n := n.toInt.toNat) (m := 400) (by omega) (by omega) hrn, if_neg (fun q => by omega), if_neg (fun q => by omega)]; exact p3_eq (by omega) (by omega) rfl
              have hko := tk_ok (f := (rowF (nL (ez_I h 100)) (nL (ez_I h 101)))) (N := (rowM (nL (ez_I h 100)) (nL (ez_I h 101)))) (a := k.toInt.toNat) (by omega) hf15
              rw [htk] at hko
              have hko2 : v.toInt.toNat ≤ 18 ∧ 1 ≤ 1 ∧ k.toInt.toNat + 1 ≤ (rowM (nL (ez_I h 100)) (nL (ez_I h 101))) := ⟨hko.1, hko.2.1, hko.2.2.1⟩
              have htS : tS (rowF (nL (ez_I h 100)) (nL (ez_I h 101))) (rowM (nL (ez_I h 100)) (nL (ez_I h 101))) c = v.toInt.toNat := by unfold tS; rw [show tp (rowF (nL (ez_I h 100)) (nL (ez_I h 101))) (rowM (nL (ez_I h 100)) (nL (ez_I h 101))) c = k.toInt.toNat by omega, htk]
              have htX : tX (rowF (nL (ez_I h 100)) (nL (ez_I h 101))) (rowM (nL (ez_I h 100)) (nL (ez_I h 101))) c = x36.toInt.toNat := by unfold tX; rw [show tp (rowF (nL (ez_I h 100)) (nL (ez_I h 101))) (rowM (nL (ez_I h 100)) (nL (ez_I h 101))) c = k.toInt.toNat by omega, htk]
              have htp : tp (rowF (nL (ez_I h 100)) (nL (ez_I h 101))) (rowM (nL (ez_I h 100)) (nL (ez_I h 101))) (c + 1) = tp (rowF (nL (ez_I h 100)) (nL (ez_I h 101))) (rowM (nL (ez_I h 100)) (nL (ez_I h 101))) c + 1 := by show tp (rowF (nL (ez_I h 100)) (nL (ez_I h 101))) (rowM (nL (ez_I h 100)) (nL (ez_I h 101))) c + (tk (rowF (nL (ez_I h 100)) (nL (ez_I h 101))) (rowM (nL (ez_I h 100)) (nL (ez_I h 101))) (tp (rowF (nL (ez_I h 100)) (nL (ez_I h 101))) (rowM (nL (ez_I h 100)) (nL (ez_I h 101))) c)).2.2 = _; rw [show tp (rowF (nL (ez_I h 100)) (nL (ez_I h 101))) (rowM (nL (ez_I h 100)) (nL (ez_I h 101))) c = k.toInt.toNat by omega, htk]
              refine d_tr (a := v) (b := x36) S2 (by omega) (by omega) (ctI_aR A_tc (fun z => by have := tC_le (rowF (nL (ez_I h 100)) (nL (ez_I h 101))) (rowM (nL (ez_I h 100)) (nL (ez_I h 101))) c z; omega)) (fun h37 F38 k39 k40 k41 k42 => ?_)
              rw [show (ez_I h2 71 56).toInt.toNat = c by omega] at k40 k41
              have A43 : teI (ez_I h37 117) (ez_I h37 118) (rowF (nL (ez_I h 100)) (nL (ez_I h 101))) (rowM (nL (ez_I h 100)) (nL (ez_I h 101))) (c + 1) := teI_s A_te (congrArg Int32.toInt k40.1) (congrArg Int32.toInt k41.1) k40.2 k41.2 (by rw [htS]; omega) (by rw [htX]; omega) rfl
              have A44 : ctI (ez_I h37 99) (tC (rowF (nL (ez_I h 100)) (nL (ez_I h 101))) (rowM (nL (ez_I h 100)) (nL (ez_I h 101))) (c + 1)) 19 := ctI_upE A_tc (by rw [htS]; exact k42) (tC_y _ _ _) (fun q hq => tC_n hq)
              have S45 := zW_sh F38 S2
              have F46 := zW_tr F (zW_mono F38 (x64_0) (x64_1) (x64_2))
              have r47 := z_rng (ez_I h37 71 56)
              have f48 : ez_I h37 71 57 = (ez_I h2 71 57) := (zW_f F38 (by decide) (by decide)).trans (rfl)
              have f49 : ez_I h37 71 58 = (ez_I h2 71 58) := (zW_f F38 (by decide) (by decide)).trans (rfl)
              have A50 : cpN (ez_I h37 119) (rowF (nL (ez_I h 100)) (nL (ez_I h 101))) (rowM (nL (ez_I h 100)) (nL (ez_I h 101))) := by rw [zW_fn F38 119 (by decide) (x64_3)]; exact A_ro
              refine z_inc rfl (by rw [show (1 : Int32).toInt = 1 from rfl]; omega) (fun x51 ex51 => ?_)
              rw [show (1 : Int32).toInt = 1 from rfl] at ex51
              show ez_gw _ _ _ _ _ _ _ _ [some (.ref 71), some (.int al), some (.int x51), some (.int v), some (.int n)] _ _ _
              refine z_go ?_
              have t52 := congrArg Int32.toInt (f48)
              have t53 := congrArg Int32.toInt (f49)
              exact ih.1 h37 al x51 (some (.int v)) (some (.int n)) (c + 1) F46 (by rw [htp]; omega) A50 (A43) (A44) ((ltT_s A_lt (by omega) rfl)) (by omega)
            · have c35 : ¬ (x34.toInt ≠ v.toInt) := c35
              refine gw_ld rfl rfl ?_
              refine z_C (m := 2) rfl rfl (fun x54 ex54 => ?_)
              refine z_b2 (fun c55 => ?_) (fun c55 => ?_)
              · have c55 : n.toInt ≤ x54.toInt := c55
                refine gw_skip _ ?_
                refine gw_ld rfl rfl ?_
                refine gw_ld rfl rfl ?_
                refine z_C (m := 0) rfl rfl (fun x56 ex56 => ?_)
                refine z_cl rfl rfl rfl rfl rfl rfl rfl rfl rfl rfl rfl (zT S2 (by decide) rfl) ?_
                have htk : tk (rowF (nL (ez_I h 100)) (nL (ez_I h 101))) (rowM (nL (ez_I h 100)) (nL (ez_I h 101))) k.toInt.toNat = (v.toInt.toNat, x56.toInt.toNat, 1) := by rw [tk_n (f := (rowF (nL (ez_I h 100)) (nL (ez_I h 101)))) (N := (rowM (nL (ez_I h 100)) (nL (ez_I h 101)))) (a := k.toInt.toNat) (n := n.toInt.toNat) (m := 400) (by omega) (by omega) hrn, if_neg (fun q => by omega), if_neg (fun q => by omega)]; exact p3_eq (by omega) (by omega) rfl
                have hko := tk_ok (f := (rowF (nL (ez_I h 100)) (nL (ez_I h 101)))) (N := (rowM (nL (ez_I h 100)) (nL (ez_I h 101)))) (a := k.toInt.toNat) (by omega) hf15
                rw [htk] at hko
                have hko2 : v.toInt.toNat ≤ 18 ∧ 1 ≤ 1 ∧ k.toInt.toNat + 1 ≤ (rowM (nL (ez_I h 100)) (nL (ez_I h 101))) := ⟨hko.1, hko.2.1, hko.2.2.1⟩
                have htS : tS (rowF (nL (ez_I h 100)) (nL (ez_I h 101))) (rowM (nL (ez_I h 100)) (nL (ez_I h 101))) c = v.toInt.toNat := by unfold tS; rw [show tp (rowF (nL (ez_I h 100)) (nL (ez_I h 101))) (rowM (nL (ez_I h 100)) (nL (ez_I h 101))) c = k.toInt.toNat by omega, htk]
                have htX : tX (rowF (nL (ez_I h 100)) (nL (ez_I h 101))) (rowM (nL (ez_I h 100)) (nL (ez_I h 101))) c = x56.toInt.toNat := by unfold tX; rw [show tp (rowF (nL (ez_I h 100)) (nL (ez_I h 101))) (rowM (nL (ez_I h 100)) (nL (ez_I h 101))) c = k.toInt.toNat by omega, htk]
                have htp : tp (rowF (nL (ez_I h 100)) (nL (ez_I h 101))) (rowM (nL (ez_I h 100)) (nL (ez_I h 101))) (c + 1) = tp (rowF (nL (ez_I h 100)) (nL (ez_I h 101))) (rowM (nL (ez_I h 100)) (nL (ez_I h 101))) c + 1 := by show tp (rowF (nL (ez_I h 100)) (nL (ez_I h 101))) (rowM (nL (ez_I h 100)) (nL (ez_I h 101))) c + (tk (rowF (nL (ez_I h 100)) (nL (ez_I h 101))) (rowM (nL (ez_I h 100)) (nL (ez_I h 101))) (tp (rowF (nL (ez_I h 100)) (nL (ez_I h 101))) (rowM (nL (ez_I h 100)) (nL (ez_I h 101))) c)).2.2 = _; rw [show tp (rowF (nL (ez_I h 100)) (nL (ez_I h 101))) (rowM (nL (ez_I h 100)) (nL (ez_I h 101))) c = k.toInt.toNat by omega, htk]
                refine d_tr (a := v) (b := x56) S2 (by omega) (by omega) (ctI_aR A_tc (fun z => by have := tC_le (rowF (nL (ez_I h 100)) (nL (ez_I h 101))) (rowM (nL (ez_I h 100)) (nL (ez_I h 101))) c z; omega)) (fun h57 F58 k59 k60 k61 k62 => ?_)
                rw [show (ez_I h2 71 56).toInt.toNat = c by omega] at k60 k61
                have A63 : teI (ez_I h57 117) (ez_I h57 118) (rowF (nL (ez_I h 100)) (nL (ez_I h 101))) (rowM (nL (ez_I h 100)) (nL (ez_I h 101))) (c + 1) := teI_s A_te (congrArg Int32.toInt k60.1) (congrArg Int32.toInt k61.1) k60.2 k61.2 (by rw [htS]; omega) (by rw [htX]; omega) rfl
                have A64 : ctI (ez_I h57 99) (tC (rowF (nL (ez_I h 100)) (nL (ez_I h 101))) (rowM (nL (ez_I h 100)) (nL (ez_I h 101))) (c + 1)) 19 := ctI_upE A_tc (by rw [htS]; exact k62) (tC_y _ _ _) (fun q hq => tC_n hq)
                have S65 := zW_sh F58 S2
                have F66 := zW_tr F (zW_mono F58 (x64_0) (x64_1) (x64_2))
                have r67 := z_rng (ez_I h57 71 56)
                have f68 : ez_I h57 71 57 = (ez_I h2 71 57) := (zW_f F58 (by decide) (by decide)).trans (rfl)
                have f69 : ez_I h57 71 58 = (ez_I h2 71 58) := (zW_f F58 (by decide) (by decide)).trans (rfl)
                have A70 : cpN (ez_I h57 119) (rowF (nL (ez_I h 100)) (nL (ez_I h 101))) (rowM (nL (ez_I h 100)) (nL (ez_I h 101))) := by rw [zW_fn F58 119 (by decide) (x64_3)]; exact A_ro
                refine z_inc rfl (by rw [show (1 : Int32).toInt = 1 from rfl]; omega) (fun x71 ex71 => ?_)
                rw [show (1 : Int32).toInt = 1 from rfl] at ex71
                show ez_gw _ _ _ _ _ _ _ _ [some (.ref 71), some (.int al), some (.int x71), some (.int v), some (.int n)] _ _ _
                refine z_go ?_
                have t72 := congrArg Int32.toInt (f68)
                have t73 := congrArg Int32.toInt (f69)
                exact ih.1 h57 al x71 (some (.int v)) (some (.int n)) (c + 1) F66 (by rw [htp]; omega) A70 (A63) (A64) ((ltT_s A_lt (by omega) rfl)) (by omega)
              · have c55 : ¬ (n.toInt ≤ x54.toInt) := c55
                refine gw_ld rfl rfl ?_
                refine z_C (m := 6) rfl rfl (fun x74 ex74 => ?_)
                refine z_b2 (fun c75 => ?_) (fun c75 => ?_)
                · have c75 : n.toInt ≤ x74.toInt := c75
                  refine gw_skip _ ?_
                  refine gw_ld rfl rfl ?_
                  refine gw_st rfl rfl rfl ?_
                  show ez_gw _ _ _ _ _ _ _ _ [some (.ref 71), some (.int al), some (.int k), some (.int v), some (.int n)] _ _ _
                  refine gw_ld rfl rfl ?_
                  refine z_C (m := 16) rfl rfl (fun x76 ex76 => ?_)
                  refine gw_ld rfl rfl ?_
                  refine z_C (m := 3) rfl rfl (fun x77 ex77 => ?_)
                  refine z_sub (by omega) (fun x78 ex78 => ?_)
                  refine z_cl rfl rfl rfl rfl rfl rfl rfl rfl rfl rfl rfl (zT S2 (by decide) rfl) ?_
                  have htk : tk (rowF (nL (ez_I h 100)) (nL (ez_I h 101))) (rowM (nL (ez_I h 100)) (nL (ez_I h 101))) k.toInt.toNat = (x76.toInt.toNat, x78.toInt.toNat, n.toInt.toNat) := by rw [tk_n (f := (rowF (nL (ez_I h 100)) (nL (ez_I h 101)))) (N := (rowM (nL (ez_I h 100)) (nL (ez_I h 101)))) (a := k.toInt.toNat) (n := n.toInt.toNat) (m := 400) (by omega) (by omega) hrn, if_neg (fun q => by omega), if_pos ⟨by omega, by omega, by omega⟩]; exact p3_eq (by omega) (by omega) (by omega)
                  have hko := tk_ok (f := (rowF (nL (ez_I h 100)) (nL (ez_I h 101)))) (N := (rowM (nL (ez_I h 100)) (nL (ez_I h 101)))) (a := k.toInt.toNat) (by omega) hf15
                  rw [htk] at hko
                  have hko2 : x76.toInt.toNat ≤ 18 ∧ 1 ≤ n.toInt.toNat ∧ k.toInt.toNat + n.toInt.toNat ≤ (rowM (nL (ez_I h 100)) (nL (ez_I h 101))) := ⟨hko.1, hko.2.1, hko.2.2.1⟩
                  have htS : tS (rowF (nL (ez_I h 100)) (nL (ez_I h 101))) (rowM (nL (ez_I h 100)) (nL (ez_I h 101))) c = x76.toInt.toNat := by unfold tS; rw [show tp (rowF (nL (ez_I h 100)) (nL (ez_I h 101))) (rowM (nL (ez_I h 100)) (nL (ez_I h 101))) c = k.toInt.toNat by omega, htk]
                  have htX : tX (rowF (nL (ez_I h 100)) (nL (ez_I h 101))) (rowM (nL (ez_I h 100)) (nL (ez_I h 101))) c = x78.toInt.toNat := by unfold tX; rw [show tp (rowF (nL (ez_I h 100)) (nL (ez_I h 101))) (rowM (nL (ez_I h 100)) (nL (ez_I h 101))) c = k.toInt.toNat by omega, htk]
                  have htp : tp (rowF (nL (ez_I h 100)) (nL (ez_I h 101))) (rowM (nL (ez_I h 100)) (nL (ez_I h 101))) (c + 1) = tp (rowF (nL (ez_I h 100)) (nL (ez_I h 101))) (rowM (nL (ez_I h 100)) (nL (ez_I h 101))) c + n.toInt.toNat := by show tp (rowF (nL (ez_I h 100)) (nL (ez_I h 101))) (rowM (nL (ez_I h 100)) (nL (ez_I h 101))) c + (tk (rowF (nL (ez_I h 100)) (nL (ez_I h 101))) (rowM (nL (ez_I h 100)) (nL (ez_I h 101))) (tp (rowF (nL (ez_I h 100)) (nL (ez_I h 101))) (rowM (nL (ez_I h 100)) (nL (ez_I h 101))) c)).2.2 = _; rw [show tp (rowF (nL (ez_I h 100)) (nL (ez_I h 101))) (rowM (nL (ez_I h 100)) (nL (ez_I h 101))) c = k.toInt.toNat by omega, htk]
                  refine d_tr (a := x76) (b := x78) S2 (by omega) (by omega) (ctI_aR A_tc (fun z => by have := tC_le (rowF (nL (ez_I h 100)) (nL (ez_I h 101))) (rowM (nL (ez_I h 100)) (nL (ez_I h 101))) c z; omega)) (fun h79 F80 k81 k82 k83 k84 => ?_)
                  rw [show (ez_I h2 71 56).toInt.toNat = c by omega] at k82 k83
                  have A85 : teI (ez_I h79 117) (ez_I h79 118) (rowF (nL (ez_I h 100)) (nL (ez_I h 101))) (rowM (nL (ez_I h 100)) (nL (ez_I h 101))) (c + 1) := teI_s A_te (congrArg Int32.toInt k82.1) (congrArg Int32.toInt k83.1) k82.2 k83.2 (by rw [htS]; omega) (by rw [htX]; omega) rfl
                  have A86 : ctI (ez_I h79 99) (tC (rowF (nL (ez_I h 100)) (nL (ez_I h 101))) (rowM (nL (ez_I h 100)) (nL (ez_I h 101))) (c + 1)) 19 := ctI_upE A_tc (by rw [htS]; exact k84) (tC_y _ _ _) (fun q hq => tC_n hq)
                  have S87 := zW_sh F80 S2
                  have F88 := zW_tr F (zW_mono F80 (x64_0) (x64_1) (x64_2))
                  have r89 := z_rng (ez_I h79 71 56)
                  have f90 : ez_I h79 71 57 = (ez_I h2 71 57) := (zW_f F80 (by decide) (by decide)).trans (rfl)
                  have f91 : ez_I h79 71 58 = (ez_I h2 71 58) := (zW_f F80 (by decide) (by decide)).trans (rfl)
                  have A92 : cpN (ez_I h79 119) (rowF (nL (ez_I h 100)) (nL (ez_I h 101))) (rowM (nL (ez_I h 100)) (nL (ez_I h 101))) := by rw [zW_fn F80 119 (by decide) (x64_3)]; exact A_ro
                  refine gw_ld rfl rfl ?_
                  refine gw_ld rfl rfl ?_
                  refine z_add (by omega) (fun x93 ex93 => ?_)
                  refine gw_st rfl rfl rfl ?_
                  show ez_gw _ _ _ _ _ _ _ _ [some (.ref 71), some (.int al), some (.int x93), some (.int v), some (.int n)] _ _ _
                  refine z_go ?_
                  refine gw_skip _ ?_
                  refine z_go ?_
                  have t94 := congrArg Int32.toInt (f90)
                  have t95 := congrArg Int32.toInt (f91)
                  exact ih.1 h79 al x93 (some (.int v)) (some (.int n)) (c + 1) F88 (by rw [htp]; omega) A92 (A85) (A86) ((ltT_s A_lt (by omega) rfl)) (by omega)
                · have c75 : ¬ (n.toInt ≤ x74.toInt) := c75
                  refine z_C (m := 6) rfl rfl (fun x96 ex96 => ?_)
                  refine z_go ?_
                  refine gw_skip _ ?_
                  refine gw_st rfl rfl rfl ?_
                  show ez_gw _ _ _ _ _ _ _ _ [some (.ref 71), some (.int al), some (.int k), some (.int v), some (.int x96)] _ _ _
                  refine gw_ld rfl rfl ?_
                  refine z_C (m := 16) rfl rfl (fun x97 ex97 => ?_)
                  refine gw_ld rfl rfl ?_
                  refine z_C (m := 3) rfl rfl (fun x98 ex98 => ?_)
                  refine z_sub (by omega) (fun x99 ex99 => ?_)
                  refine z_cl rfl rfl rfl rfl rfl rfl rfl rfl rfl rfl rfl (zT S2 (by decide) rfl) ?_
                  have htk : tk (rowF (nL (ez_I h 100)) (nL (ez_I h 101))) (rowM (nL (ez_I h 100)) (nL (ez_I h 101))) k.toInt.toNat = (x97.toInt.toNat, x99.toInt.toNat, x96.toInt.toNat) := by rw [tk_n (f := (rowF (nL (ez_I h 100)) (nL (ez_I h 101)))) (N := (rowM (nL (ez_I h 100)) (nL (ez_I h 101)))) (a := k.toInt.toNat) (n := n.toInt.toNat) (m := 400) (by omega) (by omega) hrn, if_neg (fun q => by omega), if_pos ⟨by omega, by omega, by omega⟩]; exact p3_eq (by omega) (by omega) (by omega)
                  have hko := tk_ok (f := (rowF (nL (ez_I h 100)) (nL (ez_I h 101)))) (N := (rowM (nL (ez_I h 100)) (nL (ez_I h 101)))) (a := k.toInt.toNat) (by omega) hf15
                  rw [htk] at hko
                  have hko2 : x97.toInt.toNat ≤ 18 ∧ 1 ≤ x96.toInt.toNat ∧ k.toInt.toNat + x96.toInt.toNat ≤ (rowM (nL (ez_I h 100)) (nL (ez_I h 101))) := ⟨hko.1, hko.2.1, hko.2.2.1⟩
                  have htS : tS (rowF (nL (ez_I h 100)) (nL (ez_I h 101))) (rowM (nL (ez_I h 100)) (nL (ez_I h 101))) c = x97.toInt.toNat := by unfold tS; rw [show tp (rowF (nL (ez_I h 100)) (nL (ez_I h 101))) (rowM (nL (ez_I h 100)) (nL (ez_I h 101))) c = k.toInt.toNat by omega, htk]
                  have htX : tX (rowF (nL (ez_I h 100)) (nL (ez_I h 101))) (rowM (nL (ez_I h 100)) (nL (ez_I h 101))) c = x99.toInt.toNat := by unfold tX; rw [show tp (rowF (nL (ez_I h 100)) (nL (ez_I h 101))) (rowM (nL (ez_I h 100)) (nL (ez_I h 101))) c = k.toInt.toNat by omega, htk]
                  have htp : tp (rowF (nL (ez_I h 100)) (nL (ez_I h 101))) (rowM (nL (ez_I h 100)) (nL (ez_I h 101))) (c + 1) = tp (rowF (nL (ez_I h 100)) (nL (ez_I h 101))) (rowM (nL (ez_I h 100)) (nL (ez_I h 101))) c + x96.toInt.toNat := by show tp (rowF (nL (ez_I h 100)) (nL (ez_I h 101))) (rowM (nL (ez_I h 100)) (nL (ez_I h 101))) c + (tk (rowF (nL (ez_I h 100)) (nL (ez_I h 101))) (rowM (nL (ez_I h 100)) (nL (ez_I h 101))) (tp (rowF (nL (ez_I h 100)) (nL (ez_I h 101))) (rowM (nL (ez_I h 100)) (nL (ez_I h 101))) c)).2.2 = _; rw [show tp (rowF (nL (ez_I h 100)) (nL (ez_I h 101))) (rowM (nL (ez_I h 100)) (nL (ez_I h 101))) c = k.toInt.toNat by omega, htk]
                  refine d_tr (a := x97) (b := x99) S2 (by omega) (by omega) (ctI_aR A_tc (fun z => by have := tC_le (rowF (nL (ez_I h 100)) (nL (ez_I h 101))) (rowM (nL (ez_I h 100)) (nL (ez_I h 101))) c z; omega)) (fun h100 F101 k102 k103 k104 k105 => ?_)
                  rw [show (ez_I h2 71 56).toInt.toNat = c by omega] at k103 k104
                  have A106 : teI (ez_I h100 117) (ez_I h100 118) (rowF (nL (ez_I h 100)) (nL (ez_I h 101))) (rowM (nL (ez_I h 100)) (nL (ez_I h 101))) (c + 1) := teI_s A_te (congrArg Int32.toInt k103.1) (congrArg Int32.toInt k104.1) k103.2 k104.2 (by rw [htS]; omega) (by rw [htX]; omega) rfl
                  have A107 : ctI (ez_I h100 99) (tC (rowF (nL (ez_I h 100)) (nL (ez_I h 101))) (rowM (nL (ez_I h 100)) (nL (ez_I h 101))) (c + 1)) 19 := ctI_upE A_tc (by rw [htS]; exact k105) (tC_y _ _ _) (fun q hq => tC_n hq)
                  have S108 := zW_sh F101 S2
                  have F109 := zW_tr F (zW_mono F101 (x64_0) (x64_1) (x64_2))
                  have r110 := z_rng (ez_I h100 71 56)
                  have f111 : ez_I h100 71 57 = (ez_I h2 71 57) := (zW_f F101 (by decide) (by decide)).trans (rfl)
                  have f112 : ez_I h100 71 58 = (ez_I h2 71 58) := (zW_f F101 (by decide) (by decide)).trans (rfl)
                  have A113 : cpN (ez_I h100 119) (rowF (nL (ez_I h 100)) (nL (ez_I h 101))) (rowM (nL (ez_I h 100)) (nL (ez_I h 101))) := by rw [zW_fn F101 119 (by decide) (x64_3)]; exact A_ro
                  refine gw_ld rfl rfl ?_
                  refine gw_ld rfl rfl ?_
                  refine z_add (by omega) (fun x114 ex114 => ?_)
                  refine gw_st rfl rfl rfl ?_
                  show ez_gw _ _ _ _ _ _ _ _ [some (.ref 71), some (.int al), some (.int x114), some (.int v), some (.int x96)] _ _ _
                  refine z_go ?_
                  refine gw_skip _ ?_
                  refine z_go ?_
                  have t115 := congrArg Int32.toInt (f111)
                  have t116 := congrArg Int32.toInt (f112)
                  exact ih.1 h100 al x114 (some (.int v)) (some (.int x96)) (c + 1) F109 (by rw [htp]; omega) A113 (A106) (A107) ((ltT_s A_lt (by omega) rfl)) (by omega)
        · have c12 : ¬ (v.toInt ≠ 0) := c12
          refine gw_ld rfl rfl ?_
          refine z_C (m := 2) rfl rfl (fun x117 ex117 => ?_)
          refine z_b2 (fun c118 => ?_) (fun c118 => ?_)
          · have c118 : n.toInt ≤ x117.toInt := c118
            refine gw_skip _ ?_
            refine gw_ld rfl rfl ?_
            refine z_b1 (fun c119 => ?_) (fun c119 => ?_)
            · have c119 : k.toInt ≤ 0 := c119
              refine gw_skip _ ?_
              refine gw_ld rfl rfl ?_
              refine gw_ld rfl rfl ?_
              refine z_C (m := 0) rfl rfl (fun x120 ex120 => ?_)
              refine z_cl rfl rfl rfl rfl rfl rfl rfl rfl rfl rfl rfl (zT S2 (by decide) rfl) ?_
              have htk : tk (rowF (nL (ez_I h 100)) (nL (ez_I h 101))) (rowM (nL (ez_I h 100)) (nL (ez_I h 101))) k.toInt.toNat = (v.toInt.toNat, x120.toInt.toNat, 1) := by rw [tk_n (f := (rowF (nL (ez_I h 100)) (nL (ez_I h 101)))) (N := (rowM (nL (ez_I h 100)) (nL (ez_I h 101)))) (a := k.toInt.toNat) (n := n.toInt.toNat) (m := 400) (by omega) (by omega) hrn, if_neg (fun q => by omega), if_neg (fun q => by omega)]; exact p3_eq (by omega) (by omega) rfl
              have hko := tk_ok (f := (rowF (nL (ez_I h 100)) (nL (ez_I h 101)))) (N := (rowM (nL (ez_I h 100)) (nL (ez_I h 101)))) (a := k.toInt.toNat) (by omega) hf15
              rw [htk] at hko
              have hko2 : v.toInt.toNat ≤ 18 ∧ 1 ≤ 1 ∧ k.toInt.toNat + 1 ≤ (rowM (nL (ez_I h 100)) (nL (ez_I h 101))) := ⟨hko.1, hko.2.1, hko.2.2.1⟩
              have htS : tS (rowF (nL (ez_I h 100)) (nL (ez_I h 101))) (rowM (nL (ez_I h 100)) (nL (ez_I h 101))) c = v.toInt.toNat := by unfold tS; rw [show tp (rowF (nL (ez_I h 100)) (nL (ez_I h 101))) (rowM (nL (ez_I h 100)) (nL (ez_I h 101))) c = k.toInt.toNat by omega, htk]
              have htX : tX (rowF (nL (ez_I h 100)) (nL (ez_I h 101))) (rowM (nL (ez_I h 100)) (nL (ez_I h 101))) c = x120.toInt.toNat := by unfold tX; rw [show tp (rowF (nL (ez_I h 100)) (nL (ez_I h 101))) (rowM (nL (ez_I h 100)) (nL (ez_I h 101))) c = k.toInt.toNat by omega, htk]
              have htp : tp (rowF (nL (ez_I h 100)) (nL (ez_I h 101))) (rowM (nL (ez_I h 100)) (nL (ez_I h 101))) (c + 1) = tp (rowF (nL (ez_I h 100)) (nL (ez_I h 101))) (rowM (nL (ez_I h 100)) (nL (ez_I h 101))) c + 1 := by show tp (rowF (nL (ez_I h 100)) (nL (ez_I h 101))) (rowM (nL (ez_I h 100)) (nL (ez_I h 101))) c + (tk (rowF (nL (ez_I h 100)) (nL (ez_I h 101))) (rowM (nL (ez_I h 100)) (nL (ez_I h 101))) (tp (rowF (nL (ez_I h 100)) (nL (ez_I h 101))) (rowM (nL (ez_I h 100)) (nL (ez_I h 101))) c)).2.2 = _; rw [show tp (rowF (nL (ez_I h 100)) (nL (ez_I h 101))) (rowM (nL (ez_I h 100)) (nL (ez_I h 101))) c = k.toInt.toNat by omega, htk]
              refine d_tr (a := v) (b := x120) S2 (by omega) (by omega) (ctI_aR A_tc (fun z => by have := tC_le (rowF (nL (ez_I h 100)) (nL (ez_I h 101))) (rowM (nL (ez_I h 100)) (nL (ez_I h 101))) c z; omega)) (fun h121 F122 k123 k124 k125 k126 => ?_)
              rw [show (ez_I h2 71 56).toInt.toNat = c by omega] at k124 k125
              have A127 : teI (ez_I h121 117) (ez_I h121 118) (rowF (nL (ez_I h 100)) (nL (ez_I h 101))) (rowM (nL (ez_I h 100)) (nL (ez_I h 101))) (c + 1) := teI_s A_te (congrArg Int32.toInt k124.1) (congrArg Int32.toInt k125.1) k124.2 k125.2 (by rw [htS]; omega) (by rw [htX]; omega) rfl
              have A128 : ctI (ez_I h121 99) (tC (rowF (nL (ez_I h 100)) (nL (ez_I h 101))) (rowM (nL (ez_I h 100)) (nL (ez_I h 101))) (c + 1)) 19 := ctI_upE A_tc (by rw [htS]; exact k126) (tC_y _ _ _) (fun q hq => tC_n hq)
              have S129 := zW_sh F122 S2
              have F130 := zW_tr F (zW_mono F122 (x64_0) (x64_1) (x64_2))
              have r131 := z_rng (ez_I h121 71 56)
              have f132 : ez_I h121 71 57 = (ez_I h2 71 57) := (zW_f F122 (by decide) (by decide)).trans (rfl)
              have f133 : ez_I h121 71 58 = (ez_I h2 71 58) := (zW_f F122 (by decide) (by decide)).trans (rfl)
              have A134 : cpN (ez_I h121 119) (rowF (nL (ez_I h 100)) (nL (ez_I h 101))) (rowM (nL (ez_I h 100)) (nL (ez_I h 101))) := by rw [zW_fn F122 119 (by decide) (x64_3)]; exact A_ro
              refine z_inc rfl (by rw [show (1 : Int32).toInt = 1 from rfl]; omega) (fun x135 ex135 => ?_)
              rw [show (1 : Int32).toInt = 1 from rfl] at ex135
              show ez_gw _ _ _ _ _ _ _ _ [some (.ref 71), some (.int al), some (.int x135), some (.int v), some (.int n)] _ _ _
              refine z_go ?_
              have t136 := congrArg Int32.toInt (f132)
              have t137 := congrArg Int32.toInt (f133)
              exact ih.1 h121 al x135 (some (.int v)) (some (.int n)) (c + 1) F130 (by rw [htp]; omega) A134 (A127) (A128) ((ltT_s A_lt (by omega) rfl)) (by omega)
            · have c119 : ¬ (k.toInt ≤ 0) := c119
              refine gw_ld rfl rfl ?_
              refine z_gR (q := 119) (zT S2 (by decide) rfl) (zRf S2 (by decide) (by decide) rfl) (by decide) ?_
              refine gw_ld rfl rfl ?_
              refine z_C (m := 1) rfl rfl (fun x138 ex138 => ?_)
              refine z_sub (by omega) (fun x139 ex139 => ?_)
              refine z_ia (n := 330) (zT S2 (by decide) rfl) (zN S2 (by decide) rfl) (by omega) ?_
              generalize ex140 : ez_I h2 119 x139.toInt.toNat = x140
              have rx140 := z_rng x140
              have yp := A_ro x139.toInt.toNat (by omega)
              rw [ex140, show x139.toInt.toNat = k.toInt.toNat - 1 by omega] at yp
              refine gw_ld rfl rfl ?_
              refine z_b2 (fun c141 => ?_) (fun c141 => ?_)
              · have c141 : x140.toInt ≠ v.toInt := c141
                refine gw_skip _ ?_
                refine gw_ld rfl rfl ?_
                refine gw_ld rfl rfl ?_
                refine z_C (m := 0) rfl rfl (fun x142 ex142 => ?_)
                refine z_cl rfl rfl rfl rfl rfl rfl rfl rfl rfl rfl rfl (zT S2 (by decide) rfl) ?_
                have htk : tk (rowF (nL (ez_I h 100)) (nL (ez_I h 101))) (rowM (nL (ez_I h 100)) (nL (ez_I h 101))) k.toInt.toNat = (v.toInt.toNat, x142.toInt.toNat, 1) := by rw [tk_n (f := (rowF (nL (ez_I h 100)) (nL (ez_I h 101)))) (N := (rowM (nL (ez_I h 100)) (nL (ez_I h 101)))) (a := k.toInt.toNat) (n := n.toInt.toNat) (m := 400) (by omega) (by omega) hrn, if_neg (fun q => by omega), if_neg (fun q => by omega)]; exact p3_eq (by omega) (by omega) rfl
                have hko := tk_ok (f := (rowF (nL (ez_I h 100)) (nL (ez_I h 101)))) (N := (rowM (nL (ez_I h 100)) (nL (ez_I h 101)))) (a := k.toInt.toNat) (by omega) hf15
                rw [htk] at hko
                have hko2 : v.toInt.toNat ≤ 18 ∧ 1 ≤ 1 ∧ k.toInt.toNat + 1 ≤ (rowM (nL (ez_I h 100)) (nL (ez_I h 101))) := ⟨hko.1, hko.2.1, hko.2.2.1⟩
                have htS : tS (rowF (nL (ez_I h 100)) (nL (ez_I h 101))) (rowM (nL (ez_I h 100)) (nL (ez_I h 101))) c = v.toInt.toNat := by unfold tS; rw [show tp (rowF (nL (ez_I h 100)) (nL (ez_I h 101))) (rowM (nL (ez_I h 100)) (nL (ez_I h 101))) c = k.toInt.toNat by omega, htk]
                have htX : tX (rowF (nL (ez_I h 100)) (nL (ez_I h 101))) (rowM (nL (ez_I h 100)) (nL (ez_I h 101))) c = x142.toInt.toNat := by unfold tX; rw [show tp (rowF (nL (ez_I h 100)) (nL (ez_I h 101))) (rowM (nL (ez_I h 100)) (nL (ez_I h 101))) c = k.toInt.toNat by omega, htk]
                have htp : tp (rowF (nL (ez_I h 100)) (nL (ez_I h 101))) (rowM (nL (ez_I h 100)) (nL (ez_I h 101))) (c + 1) = tp (rowF (nL (ez_I h 100)) (nL (ez_I h 101))) (rowM (nL (ez_I h 100)) (nL (ez_I h 101))) c + 1 := by show tp (rowF (nL (ez_I h 100)) (nL (ez_I h 101))) (rowM (nL (ez_I h 100)) (nL (ez_I h 101))) c + (tk (rowF (nL (ez_I h 100)) (nL (ez_I h 101))) (rowM (nL (ez_I h 100)) (nL (ez_I h 101))) (tp (rowF (nL (ez_I h 100)) (nL (ez_I h 101))) (rowM (nL (ez_I h 100)) (nL (ez_I h 101))) c)).2.2 = _; rw [show tp (rowF (nL (ez_I h 100)) (nL (ez_I h 101))) (rowM (nL (ez_I h 100)) (nL (ez_I h 101))) c = k.toInt.toNat by omega, htk]
                refine d_tr (a := v) (b := x142) S2 (by omega) (by omega) (ctI_aR A_tc (fun z => by have := tC_le (rowF (nL (ez_I h 100)) (nL (ez_I h 101))) (rowM (nL (ez_I h 100)) (nL (ez_I h 101))) c z; omega)) (fun h143 F144 k145 k146 k147 k148 => ?_)
                rw [show (ez_I h2 71 56).toInt.toNat = c by omega] at k146 k147
                have A149 : teI (ez_I h143 117) (ez_I h143 118) (rowF (nL (ez_I h 100)) (nL (ez_I h 101))) (rowM (nL (ez_I h 100)) (nL (ez_I h 101))) (c + 1) := teI_s A_te (congrArg Int32.toInt k146.1) (congrArg Int32.toInt k147.1) k146.2 k147.2 (by rw [htS]; omega) (by rw [htX]; omega) rfl
                have A150 : ctI (ez_I h143 99) (tC (rowF (nL (ez_I h 100)) (nL (ez_I h 101))) (rowM (nL (ez_I h 100)) (nL (ez_I h 101))) (c + 1)) 19 := ctI_upE A_tc (by rw [htS]; exact k148) (tC_y _ _ _) (fun q hq => tC_n hq)
                have S151 := zW_sh F144 S2
                have F152 := zW_tr F (zW_mono F144 (x64_0) (x64_1) (x64_2))
                have r153 := z_rng (ez_I h143 71 56)
                have f154 : ez_I h143 71 57 = (ez_I h2 71 57) := (zW_f F144 (by decide) (by decide)).trans (rfl)
                have f155 : ez_I h143 71 58 = (ez_I h2 71 58) := (zW_f F144 (by decide) (by decide)).trans (rfl)
                have A156 : cpN (ez_I h143 119) (rowF (nL (ez_I h 100)) (nL (ez_I h 101))) (rowM (nL (ez_I h 100)) (nL (ez_I h 101))) := by rw [zW_fn F144 119 (by decide) (x64_3)]; exact A_ro
                refine z_inc rfl (by rw [show (1 : Int32).toInt = 1 from rfl]; omega) (fun x157 ex157 => ?_)
                rw [show (1 : Int32).toInt = 1 from rfl] at ex157
                show ez_gw _ _ _ _ _ _ _ _ [some (.ref 71), some (.int al), some (.int x157), some (.int v), some (.int n)] _ _ _
                refine z_go ?_
                have t158 := congrArg Int32.toInt (f154)
                have t159 := congrArg Int32.toInt (f155)
                exact ih.1 h143 al x157 (some (.int v)) (some (.int n)) (c + 1) F152 (by rw [htp]; omega) A156 (A149) (A150) ((ltT_s A_lt (by omega) rfl)) (by omega)
              · have c141 : ¬ (x140.toInt ≠ v.toInt) := c141
                refine gw_ld rfl rfl ?_
                refine z_C (m := 2) rfl rfl (fun x160 ex160 => ?_)
                refine z_b2 (fun c161 => ?_) (fun c161 => ?_)
                · have c161 : n.toInt ≤ x160.toInt := c161
                  refine gw_skip _ ?_
                  refine gw_ld rfl rfl ?_
                  refine gw_ld rfl rfl ?_
                  refine z_C (m := 0) rfl rfl (fun x162 ex162 => ?_)
                  refine z_cl rfl rfl rfl rfl rfl rfl rfl rfl rfl rfl rfl (zT S2 (by decide) rfl) ?_
                  have htk : tk (rowF (nL (ez_I h 100)) (nL (ez_I h 101))) (rowM (nL (ez_I h 100)) (nL (ez_I h 101))) k.toInt.toNat = (v.toInt.toNat, x162.toInt.toNat, 1) := by rw [tk_n (f := (rowF (nL (ez_I h 100)) (nL (ez_I h 101)))) (N := (rowM (nL (ez_I h 100)) (nL (ez_I h 101)))) (a := k.toInt.toNat) (n := n.toInt.toNat) (m := 400) (by omega) (by omega) hrn, if_neg (fun q => by omega), if_neg (fun q => by omega)]; exact p3_eq (by omega) (by omega) rfl
                  have hko := tk_ok (f := (rowF (nL (ez_I h 100)) (nL (ez_I h 101)))) (N := (rowM (nL (ez_I h 100)) (nL (ez_I h 101)))) (a := k.toInt.toNat) (by omega) hf15
                  rw [htk] at hko
                  have hko2 : v.toInt.toNat ≤ 18 ∧ 1 ≤ 1 ∧ k.toInt.toNat + 1 ≤ (rowM (nL (ez_I h 100)) (nL (ez_I h 101))) := ⟨hko.1, hko.2.1, hko.2.2.1⟩
                  have htS : tS (rowF (nL (ez_I h 100)) (nL (ez_I h 101))) (rowM (nL (ez_I h 100)) (nL (ez_I h 101))) c = v.toInt.toNat := by unfold tS; rw [show tp (rowF (nL (ez_I h 100)) (nL (ez_I h 101))) (rowM (nL (ez_I h 100)) (nL (ez_I h 101))) c = k.toInt.toNat by omega, htk]
                  have htX : tX (rowF (nL (ez_I h 100)) (nL (ez_I h 101))) (rowM (nL (ez_I h 100)) (nL (ez_I h 101))) c = x162.toInt.toNat := by unfold tX; rw [show tp (rowF (nL (ez_I h 100)) (nL (ez_I h 101))) (rowM (nL (ez_I h 100)) (nL (ez_I h 101))) c = k.toInt.toNat by omega, htk]
                  have htp : tp (rowF (nL (ez_I h 100)) (nL (ez_I h 101))) (rowM (nL (ez_I h 100)) (nL (ez_I h 101))) (c + 1) = tp (rowF (nL (ez_I h 100)) (nL (ez_I h 101))) (rowM (nL (ez_I h 100)) (nL (ez_I h 101))) c + 1 := by show tp (rowF (nL (ez_I h 100)) (nL (ez_I h 101))) (rowM (nL (ez_I h 100)) (nL (ez_I h 101))) c + (tk (rowF (nL (ez_I h 100)) (nL (ez_I h 101))) (rowM (nL (ez_I h 100)) (nL (ez_I h 101))) (tp (rowF (nL (ez_I h 100)) (nL (ez_I h 101))) (rowM (nL (ez_I h 100)) (nL (ez_I h 101))) c)).2.2 = _; rw [show tp (rowF (nL (ez_I h 100)) (nL (ez_I h 101))) (rowM (nL (ez_I h 100)) (nL (ez_I h 101))) c = k.toInt.toNat by omega, htk]
                  refine d_tr (a := v) (b := x162) S2 (by omega) (by omega) (ctI_aR A_tc (fun z => by have := tC_le (rowF (nL (ez_I h 100)) (nL (ez_I h 101))) (rowM (nL (ez_I h 100)) (nL (ez_I h 101))) c z; omega)) (fun h163 F164 k165 k166 k167 k168 => ?_)
                  rw [show (ez_I h2 71 56).toInt.toNat = c by omega] at k166 k167
                  have A169 : teI (ez_I h163 117) (ez_I h163 118) (rowF (nL (ez_I h 100)) (nL (ez_I h 101))) (rowM (nL (ez_I h 100)) (nL (ez_I h 101))) (c + 1) := teI_s A_te (congrArg Int32.toInt k166.1) (congrArg Int32.toInt k167.1) k166.2 k167.2 (by rw [htS]; omega) (by rw [htX]; omega) rfl
                  have A170 : ctI (ez_I h163 99) (tC (rowF (nL (ez_I h 100)) (nL (ez_I h 101))) (rowM (nL (ez_I h 100)) (nL (ez_I h 101))) (c + 1)) 19 := ctI_upE A_tc (by rw [htS]; exact k168) (tC_y _ _ _) (fun q hq => tC_n hq)
                  have S171 := zW_sh F164 S2
                  have F172 := zW_tr F (zW_mono F164 (x64_0) (x64_1) (x64_2))
                  have r173 := z_rng (ez_I h163 71 56)
                  have f174 : ez_I h163 71 57 = (ez_I h2 71 57) := (zW_f F164 (by decide) (by decide)).trans (rfl)
                  have f175 : ez_I h163 71 58 = (ez_I h2 71 58) := (zW_f F164 (by decide) (by decide)).trans (rfl)
                  have A176 : cpN (ez_I h163 119) (rowF (nL (ez_I h 100)) (nL (ez_I h 101))) (rowM (nL (ez_I h 100)) (nL (ez_I h 101))) := by rw [zW_fn F164 119 (by decide) (x64_3)]; exact A_ro
                  refine z_inc rfl (by rw [show (1 : Int32).toInt = 1 from rfl]; omega) (fun x177 ex177 => ?_)
                  rw [show (1 : Int32).toInt = 1 from rfl] at ex177
                  show ez_gw _ _ _ _ _ _ _ _ [some (.ref 71), some (.int al), some (.int x177), some (.int v), some (.int n)] _ _ _
                  refine z_go ?_
                  have t178 := congrArg Int32.toInt (f174)
                  have t179 := congrArg Int32.toInt (f175)
                  exact ih.1 h163 al x177 (some (.int v)) (some (.int n)) (c + 1) F172 (by rw [htp]; omega) A176 (A169) (A170) ((ltT_s A_lt (by omega) rfl)) (by omega)
                · have c161 : ¬ (n.toInt ≤ x160.toInt) := c161
                  exfalso; omega
          · have c118 : ¬ (n.toInt ≤ x117.toInt) := c118
            refine gw_ld rfl rfl ?_
            refine z_C (m := 138) rfl rfl (fun x180 ex180 => ?_)
            refine z_b2 (fun c181 => ?_) (fun c181 => ?_)
            · have c181 : n.toInt ≤ x180.toInt := c181
              refine gw_skip _ ?_
              refine gw_ld rfl rfl ?_
              refine gw_st rfl rfl rfl ?_
              show ez_gw _ _ _ _ _ _ _ _ [some (.ref 71), some (.int al), some (.int k), some (.int v), some (.int n)] _ _ _
              refine gw_ld rfl rfl ?_
              refine gw_ld rfl rfl ?_
              refine z_C (m := 10) rfl rfl (fun x182 ex182 => ?_)
              refine z_b2 (fun c183 => ?_) (fun c183 => ?_)
              · have c183 : n.toInt ≤ x182.toInt := c183
                refine gw_skip _ ?_
                refine z_C (m := 17) rfl rfl (fun x184 ex184 => ?_)
                refine gw_ld rfl rfl ?_
                refine z_C (m := 10) rfl rfl (fun x185 ex185 => ?_)
                refine z_b2 (fun c186 => ?_) (fun c186 => ?_)
                · have c186 : n.toInt ≤ x185.toInt := c186
                  refine gw_skip _ ?_
                  refine gw_ld rfl rfl ?_
                  refine z_C (m := 3) rfl rfl (fun x187 ex187 => ?_)
                  refine z_sub (by omega) (fun x188 ex188 => ?_)
                  refine z_cl rfl rfl rfl rfl rfl rfl rfl rfl rfl rfl rfl (zT S2 (by decide) rfl) ?_
                  have htk : tk (rowF (nL (ez_I h 100)) (nL (ez_I h 101))) (rowM (nL (ez_I h 100)) (nL (ez_I h 101))) k.toInt.toNat = (x184.toInt.toNat, x188.toInt.toNat, n.toInt.toNat) := by rw [tk_n (f := (rowF (nL (ez_I h 100)) (nL (ez_I h 101)))) (N := (rowM (nL (ez_I h 100)) (nL (ez_I h 101)))) (a := k.toInt.toNat) (n := n.toInt.toNat) (m := 400) (by omega) (by omega) hrn, if_pos ⟨by omega, by omega⟩]; first | (rw [if_pos (by omega)]; exact p3_eq (by omega) (by omega) (by omega)) | (rw [if_neg (by omega)]; exact p3_eq (by omega) (by omega) (by omega))
                  have hko := tk_ok (f := (rowF (nL (ez_I h 100)) (nL (ez_I h 101)))) (N := (rowM (nL (ez_I h 100)) (nL (ez_I h 101)))) (a := k.toInt.toNat) (by omega) hf15
                  rw [htk] at hko
                  have hko2 : x184.toInt.toNat ≤ 18 ∧ 1 ≤ n.toInt.toNat ∧ k.toInt.toNat + n.toInt.toNat ≤ (rowM (nL (ez_I h 100)) (nL (ez_I h 101))) := ⟨hko.1, hko.2.1, hko.2.2.1⟩
                  have htS : tS (rowF (nL (ez_I h 100)) (nL (ez_I h 101))) (rowM (nL (ez_I h 100)) (nL (ez_I h 101))) c = x184.toInt.toNat := by unfold tS; rw [show tp (rowF (nL (ez_I h 100)) (nL (ez_I h 101))) (rowM (nL (ez_I h 100)) (nL (ez_I h 101))) c = k.toInt.toNat by omega, htk]
                  have htX : tX (rowF (nL (ez_I h 100)) (nL (ez_I h 101))) (rowM (nL (ez_I h 100)) (nL (ez_I h 101))) c = x188.toInt.toNat := by unfold tX; rw [show tp (rowF (nL (ez_I h 100)) (nL (ez_I h 101))) (rowM (nL (ez_I h 100)) (nL (ez_I h 101))) c = k.toInt.toNat by omega, htk]
                  have htp : tp (rowF (nL (ez_I h 100)) (nL (ez_I h 101))) (rowM (nL (ez_I h 100)) (nL (ez_I h 101))) (c + 1) = tp (rowF (nL (ez_I h 100)) (nL (ez_I h 101))) (rowM (nL (ez_I h 100)) (nL (ez_I h 101))) c + n.toInt.toNat := by show tp (rowF (nL (ez_I h 100)) (nL (ez_I h 101))) (rowM (nL (ez_I h 100)) (nL (ez_I h 101))) c + (tk (rowF (nL (ez_I h 100)) (nL (ez_I h 101))) (rowM (nL (ez_I h 100)) (nL (ez_I h 101))) (tp (rowF (nL (ez_I h 100)) (nL (ez_I h 101))) (rowM (nL (ez_I h 100)) (nL (ez_I h 101))) c)).2.2 = _; rw [show tp (rowF (nL (ez_I h 100)) (nL (ez_I h 101))) (rowM (nL (ez_I h 100)) (nL (ez_I h 101))) c = k.toInt.toNat by omega, htk]
                  refine d_tr (a := x184) (b := x188) S2 (by omega) (by omega) (ctI_aR A_tc (fun z => by have := tC_le (rowF (nL (ez_I h 100)) (nL (ez_I h 101))) (rowM (nL (ez_I h 100)) (nL (ez_I h 101))) c z; omega)) (fun h189 F190 k191 k192 k193 k194 => ?_)
                  rw [show (ez_I h2 71 56).toInt.toNat = c by omega] at k192 k193
                  have A195 : teI (ez_I h189 117) (ez_I h189 118) (rowF (nL (ez_I h 100)) (nL (ez_I h 101))) (rowM (nL (ez_I h 100)) (nL (ez_I h 101))) (c + 1) := teI_s A_te (congrArg Int32.toInt k192.1) (congrArg Int32.toInt k193.1) k192.2 k193.2 (by rw [htS]; omega) (by rw [htX]; omega) rfl
                  have A196 : ctI (ez_I h189 99) (tC (rowF (nL (ez_I h 100)) (nL (ez_I h 101))) (rowM (nL (ez_I h 100)) (nL (ez_I h 101))) (c + 1)) 19 := ctI_upE A_tc (by rw [htS]; exact k194) (tC_y _ _ _) (fun q hq => tC_n hq)
                  have S197 := zW_sh F190 S2
                  have F198 := zW_tr F (zW_mono F190 (x64_0) (x64_1) (x64_2))
                  have r199 := z_rng (ez_I h189 71 56)
                  have f200 : ez_I h189 71 57 = (ez_I h2 71 57) := (zW_f F190 (by decide) (by decide)).trans (rfl)
                  have f201 : ez_I h189 71 58 = (ez_I h2 71 58) := (zW_f F190 (by decide) (by decide)).trans (rfl)
                  have A202 : cpN (ez_I h189 119) (rowF (nL (ez_I h 100)) (nL (ez_I h 101))) (rowM (nL (ez_I h 100)) (nL (ez_I h 101))) := by rw [zW_fn F190 119 (by decide) (x64_3)]; exact A_ro
                  refine gw_ld rfl rfl ?_
                  refine gw_ld rfl rfl ?_
                  refine z_add (by omega) (fun x203 ex203 => ?_)
                  refine gw_st rfl rfl rfl ?_
                  show ez_gw _ _ _ _ _ _ _ _ [some (.ref 71), some (.int al), some (.int x203), some (.int v), some (.int n)] _ _ _
                  refine z_go ?_
                  refine gw_skip _ ?_
                  refine z_go ?_
                  have t204 := congrArg Int32.toInt (f200)
                  have t205 := congrArg Int32.toInt (f201)
                  exact ih.1 h189 al x203 (some (.int v)) (some (.int n)) (c + 1) F198 (by rw [htp]; omega) A202 (A195) (A196) ((ltT_s A_lt (by omega) rfl)) (by omega)
                · have c186 : ¬ (n.toInt ≤ x185.toInt) := c186
                  exfalso; omega
              · have c183 : ¬ (n.toInt ≤ x182.toInt) := c183
                refine z_C (m := 18) rfl rfl (fun x206 ex206 => ?_)
                refine z_go ?_
                refine gw_skip _ ?_
                refine gw_ld rfl rfl ?_
                refine z_C (m := 10) rfl rfl (fun x207 ex207 => ?_)
                refine z_b2 (fun c208 => ?_) (fun c208 => ?_)
                · have c208 : n.toInt ≤ x207.toInt := c208
                  exfalso; omega
                · have c208 : ¬ (n.toInt ≤ x207.toInt) := c208
                  refine gw_ld rfl rfl ?_
                  refine z_C (m := 11) rfl rfl (fun x209 ex209 => ?_)
                  refine z_sub (by omega) (fun x210 ex210 => ?_)
                  refine z_go ?_
                  refine gw_skip _ ?_
                  refine z_cl rfl rfl rfl rfl rfl rfl rfl rfl rfl rfl rfl (zT S2 (by decide) rfl) ?_
                  have htk : tk (rowF (nL (ez_I h 100)) (nL (ez_I h 101))) (rowM (nL (ez_I h 100)) (nL (ez_I h 101))) k.toInt.toNat = (x206.toInt.toNat, x210.toInt.toNat, n.toInt.toNat) := by rw [tk_n (f := (rowF (nL (ez_I h 100)) (nL (ez_I h 101)))) (N := (rowM (nL (ez_I h 100)) (nL (ez_I h 101)))) (a := k.toInt.toNat) (n := n.toInt.toNat) (m := 400) (by omega) (by omega) hrn, if_pos ⟨by omega, by omega⟩]; first | (rw [if_pos (by omega)]; exact p3_eq (by omega) (by omega) (by omega)) | (rw [if_neg (by omega)]; exact p3_eq (by omega) (by omega) (by omega))
                  have hko := tk_ok (f := (rowF (nL (ez_I h 100)) (nL (ez_I h 101)))) (N := (rowM (nL (ez_I h 100)) (nL (ez_I h 101)))) (a := k.toInt.toNat) (by omega) hf15
                  rw [htk] at hko
                  have hko2 : x206.toInt.toNat ≤ 18 ∧ 1 ≤ n.toInt.toNat ∧ k.toInt.toNat + n.toInt.toNat ≤ (rowM (nL (ez_I h 100)) (nL (ez_I h 101))) := ⟨hko.1, hko.2.1, hko.2.2.1⟩
                  have htS : tS (rowF (nL (ez_I h 100)) (nL (ez_I h 101))) (rowM (nL (ez_I h 100)) (nL (ez_I h 101))) c = x206.toInt.toNat := by unfold tS; rw [show tp (rowF (nL (ez_I h 100)) (nL (ez_I h 101))) (rowM (nL (ez_I h 100)) (nL (ez_I h 101))) c = k.toInt.toNat by omega, htk]
                  have htX : tX (rowF (nL (ez_I h 100)) (nL (ez_I h 101))) (rowM (nL (ez_I h 100)) (nL (ez_I h 101))) c = x210.toInt.toNat := by unfold tX; rw [show tp (rowF (nL (ez_I h 100)) (nL (ez_I h 101))) (rowM (nL (ez_I h 100)) (nL (ez_I h 101))) c = k.toInt.toNat by omega, htk]
                  have htp : tp (rowF (nL (ez_I h 100)) (nL (ez_I h 101))) (rowM (nL (ez_I h 100)) (nL (ez_I h 101))) (c + 1) = tp (rowF (nL (ez_I h 100)) (nL (ez_I h 101))) (rowM (nL (ez_I h 100)) (nL (ez_I h 101))) c + n.toInt.toNat := by show tp (rowF (nL (ez_I h 100)) (nL (ez_I h 101))) (rowM (nL (ez_I h 100)) (nL (ez_I h 101))) c + (tk (rowF (nL (ez_I h 100)) (nL (ez_I h 101))) (rowM (nL (ez_I h 100)) (nL (ez_I h 101))) (tp (rowF (nL (ez_I h 100)) (nL (ez_I h 101))) (rowM (nL (ez_I h 100)) (nL (ez_I h 101))) c)).2.2 = _; rw [show tp (rowF (nL (ez_I h 100)) (nL (ez_I h 101))) (rowM (nL (ez_I h 100)) (nL (ez_I h 101))) c = k.toInt.toNat by omega, htk]
                  refine d_tr (a := x206) (b := x210) S2 (by omega) (by omega) (ctI_aR A_tc (fun z => by have := tC_le (rowF (nL (ez_I h 100)) (nL (ez_I h 101))) (rowM (nL (ez_I h 100)) (nL (ez_I h 101))) c z; omega)) (fun h211 F212 k213 k214 k215 k216 => ?_)
                  rw [show (ez_I h2 71 56).toInt.toNat = c by omega] at k214 k215
                  have A217 : teI (ez_I h211 117) (ez_I h211 118) (rowF (nL (ez_I h 100)) (nL (ez_I h 101))) (rowM (nL (ez_I h 100)) (nL (ez_I h 101))) (c + 1) := teI_s A_te (congrArg Int32.toInt k214.1) (congrArg Int32.toInt k215.1) k214.2 k215.2 (by rw [htS]; omega) (by rw [htX]; omega) rfl
                  have A218 : ctI (ez_I h211 99) (tC (rowF (nL (ez_I h 100)) (nL (ez_I h 101))) (rowM (nL (ez_I h 100)) (nL (ez_I h 101))) (c + 1)) 19 := ctI_upE A_tc (by rw [htS]; exact k216) (tC_y _ _ _) (fun q hq => tC_n hq)
                  have S219 := zW_sh F212 S2
                  have F220 := zW_tr F (zW_mono F212 (x64_0) (x64_1) (x64_2))
                  have r221 := z_rng (ez_I h211 71 56)
                  have f222 : ez_I h211 71 57 = (ez_I h2 71 57) := (zW_f F212 (by decide) (by decide)).trans (rfl)
                  have f223 : ez_I h211 71 58 = (ez_I h2 71 58) := (zW_f F212 (by decide) (by decide)).trans (rfl)
                  have A224 : cpN (ez_I h211 119) (rowF (nL (ez_I h 100)) (nL (ez_I h 101))) (rowM (nL (ez_I h 100)) (nL (ez_I h 101))) := by rw [zW_fn F212 119 (by decide) (x64_3)]; exact A_ro
                  refine gw_ld rfl rfl ?_
                  refine gw_ld rfl rfl ?_
                  refine z_add (by omega) (fun x225 ex225 => ?_)
                  refine gw_st rfl rfl rfl ?_
                  show ez_gw _ _ _ _ _ _ _ _ [some (.ref 71), some (.int al), some (.int x225), some (.int v), some (.int n)] _ _ _
                  refine z_go ?_
                  refine gw_skip _ ?_
                  refine z_go ?_
                  have t226 := congrArg Int32.toInt (f222)
                  have t227 := congrArg Int32.toInt (f223)
                  exact ih.1 h211 al x225 (some (.int v)) (some (.int n)) (c + 1) F220 (by rw [htp]; omega) A224 (A217) (A218) ((ltT_s A_lt (by omega) rfl)) (by omega)
            · have c181 : ¬ (n.toInt ≤ x180.toInt) := c181
              refine z_C (m := 138) rfl rfl (fun x228 ex228 => ?_)
              refine z_go ?_
              refine gw_skip _ ?_
              refine gw_st rfl rfl rfl ?_
              show ez_gw _ _ _ _ _ _ _ _ [some (.ref 71), some (.int al), some (.int k), some (.int v), some (.int x228)] _ _ _
              refine gw_ld rfl rfl ?_
              refine gw_ld rfl rfl ?_
              refine z_C (m := 10) rfl rfl (fun x229 ex229 => ?_)
              refine z_b2 (fun c230 => ?_) (fun c230 => ?_)
              · have c230 : x228.toInt ≤ x229.toInt := c230
                exfalso; omega
              · have c230 : ¬ (x228.toInt ≤ x229.toInt) := c230
                refine z_C (m := 18) rfl rfl (fun x231 ex231 => ?_)
                refine z_go ?_
                refine gw_skip _ ?_
                refine gw_ld rfl rfl ?_
                refine z_C (m := 10) rfl rfl (fun x232 ex232 => ?_)
                refine z_b2 (fun c233 => ?_) (fun c233 => ?_)
                · have c233 : x228.toInt ≤ x232.toInt := c233
                  exfalso; omega
                · have c233 : ¬ (x228.toInt ≤ x232.toInt) := c233
                  refine gw_ld rfl rfl ?_
                  refine z_C (m := 11) rfl rfl (fun x234 ex234 => ?_)
                  refine z_sub (by omega) (fun x235 ex235 => ?_)
                  refine z_go ?_
                  refine gw_skip _ ?_
                  refine z_cl rfl rfl rfl rfl rfl rfl rfl rfl rfl rfl rfl (zT S2 (by decide) rfl) ?_
                  have htk : tk (rowF (nL (ez_I h 100)) (nL (ez_I h 101))) (rowM (nL (ez_I h 100)) (nL (ez_I h 101))) k.toInt.toNat = (x231.toInt.toNat, x235.toInt.toNat, x228.toInt.toNat) := by rw [tk_n (f := (rowF (nL (ez_I h 100)) (nL (ez_I h 101)))) (N := (rowM (nL (ez_I h 100)) (nL (ez_I h 101)))) (a := k.toInt.toNat) (n := n.toInt.toNat) (m := 400) (by omega) (by omega) hrn, if_pos ⟨by omega, by omega⟩]; first | (rw [if_pos (by omega)]; exact p3_eq (by omega) (by omega) (by omega)) | (rw [if_neg (by omega)]; exact p3_eq (by omega) (by omega) (by omega))
                  have hko := tk_ok (f := (rowF (nL (ez_I h 100)) (nL (ez_I h 101)))) (N := (rowM (nL (ez_I h 100)) (nL (ez_I h 101)))) (a := k.toInt.toNat) (by omega) hf15
                  rw [htk] at hko
                  have hko2 : x231.toInt.toNat ≤ 18 ∧ 1 ≤ x228.toInt.toNat ∧ k.toInt.toNat + x228.toInt.toNat ≤ (rowM (nL (ez_I h 100)) (nL (ez_I h 101))) := ⟨hko.1, hko.2.1, hko.2.2.1⟩
                  have htS : tS (rowF (nL (ez_I h 100)) (nL (ez_I h 101))) (rowM (nL (ez_I h 100)) (nL (ez_I h 101))) c = x231.toInt.toNat := by unfold tS; rw [show tp (rowF (nL (ez_I h 100)) (nL (ez_I h 101))) (rowM (nL (ez_I h 100)) (nL (ez_I h 101))) c = k.toInt.toNat by omega, htk]
                  have htX : tX (rowF (nL (ez_I h 100)) (nL (ez_I h 101))) (rowM (nL (ez_I h 100)) (nL (ez_I h 101))) c = x235.toInt.toNat := by unfold tX; rw [show tp (rowF (nL (ez_I h 100)) (nL (ez_I h 101))) (rowM (nL (ez_I h 100)) (nL (ez_I h 101))) c = k.toInt.toNat by omega, htk]
                  have htp : tp (rowF (nL (ez_I h 100)) (nL (ez_I h 101))) (rowM (nL (ez_I h 100)) (nL (ez_I h 101))) (c + 1) = tp (rowF (nL (ez_I h 100)) (nL (ez_I h 101))) (rowM (nL (ez_I h 100)) (nL (ez_I h 101))) c + x228.toInt.toNat := by show tp (rowF (nL (ez_I h 100)) (nL (ez_I h 101))) (rowM (nL (ez_I h 100)) (nL (ez_I h 101))) c + (tk (rowF (nL (ez_I h 100)) (nL (ez_I h 101))) (rowM (nL (ez_I h 100)) (nL (ez_I h 101))) (tp (rowF (nL (ez_I h 100)) (nL (ez_I h 101))) (rowM (nL (ez_I h 100)) (nL (ez_I h 101))) c)).2.2 = _; rw [show tp (rowF (nL (ez_I h 100)) (nL (ez_I h 101))) (rowM (nL (ez_I h 100)) (nL (ez_I h 101))) c = k.toInt.toNat by omega, htk]
                  refine d_tr (a := x231) (b := x235) S2 (by omega) (by omega) (ctI_aR A_tc (fun z => by have := tC_le (rowF (nL (ez_I h 100)) (nL (ez_I h 101))) (rowM (nL (ez_I h 100)) (nL (ez_I h 101))) c z; omega)) (fun h236 F237 k238 k239 k240 k241 => ?_)
                  rw [show (ez_I h2 71 56).toInt.toNat = c by omega] at k239 k240
                  have A242 : teI (ez_I h236 117) (ez_I h236 118) (rowF (nL (ez_I h 100)) (nL (ez_I h 101))) (rowM (nL (ez_I h 100)) (nL (ez_I h 101))) (c + 1) := teI_s A_te (congrArg Int32.toInt k239.1) (congrArg Int32.toInt k240.1) k239.2 k240.2 (by rw [htS]; omega) (by rw [htX]; omega) rfl
                  have A243 : ctI (ez_I h236 99) (tC (rowF (nL (ez_I h 100)) (nL (ez_I h 101))) (rowM (nL (ez_I h 100)) (nL (ez_I h 101))) (c + 1)) 19 := ctI_upE A_tc (by rw [htS]; exact k241) (tC_y _ _ _) (fun q hq => tC_n hq)
                  have S244 := zW_sh F237 S2
                  have F245 := zW_tr F (zW_mono F237 (x64_0) (x64_1) (x64_2))
                  have r246 := z_rng (ez_I h236 71 56)
                  have f247 : ez_I h236 71 57 = (ez_I h2 71 57) := (zW_f F237 (by decide) (by decide)).trans (rfl)
                  have f248 : ez_I h236 71 58 = (ez_I h2 71 58) := (zW_f F237 (by decide) (by decide)).trans (rfl)
                  have A249 : cpN (ez_I h236 119) (rowF (nL (ez_I h 100)) (nL (ez_I h 101))) (rowM (nL (ez_I h 100)) (nL (ez_I h 101))) := by rw [zW_fn F237 119 (by decide) (x64_3)]; exact A_ro
                  refine gw_ld rfl rfl ?_
                  refine gw_ld rfl rfl ?_
                  refine z_add (by omega) (fun x250 ex250 => ?_)
                  refine gw_st rfl rfl rfl ?_
                  show ez_gw _ _ _ _ _ _ _ _ [some (.ref 71), some (.int al), some (.int x250), some (.int v), some (.int x228)] _ _ _
                  refine z_go ?_
                  refine gw_skip _ ?_
                  refine z_go ?_
                  have t251 := congrArg Int32.toInt (f247)
                  have t252 := congrArg Int32.toInt (f248)
                  exact ih.1 h236 al x250 (some (.int v)) (some (.int x228)) (c + 1) F245 (by rw [htp]; omega) A249 (A242) (A243) ((ltT_s A_lt (by omega) rfl)) (by omega)
      · have c11 : ¬ (al.toInt ≤ x10.toInt) := c11
        refine gw_ld rfl rfl ?_
        refine z_gR (q := 119) (zT S2 (by decide) rfl) (zRf S2 (by decide) (by decide) rfl) (by decide) ?_
        refine gw_ld rfl rfl ?_
        refine gw_ld rfl rfl ?_
        refine z_add (by omega) (fun x253 ex253 => ?_)
        refine z_ia (n := 330) (zT S2 (by decide) rfl) (zN S2 (by decide) rfl) (by omega) ?_
        generalize ex254 : ez_I h2 119 x253.toInt.toNat = x254
        have rx254 := z_rng x254
        have yw := A_ro x253.toInt.toNat (by omega)
        rw [ex254, show x253.toInt.toNat = k.toInt.toNat + n.toInt.toNat by omega] at yw
        refine gw_ld rfl rfl ?_
        refine z_b2 (fun c255 => ?_) (fun c255 => ?_)
        · have c255 : x254.toInt ≠ v.toInt := c255
          refine gw_skip _ ?_
          have hrn : n.toInt.toNat = rn (rowF (nL (ez_I h 100)) (nL (ez_I h 101))) (rowM (nL (ez_I h 100)) (nL (ez_I h 101))) k.toInt.toNat ((rowF (nL (ez_I h 100)) (nL (ez_I h 101))) k.toInt.toNat) 400 := (rn_is (by omega) (fun j hj => by rw [← show v.toInt.toNat = (rowF (nL (ez_I h 100)) (nL (ez_I h 101))) k.toInt.toNat by omega]; exact A_eq j hj) (fun _ q => by omega)).symm
          refine gw_ld rfl rfl ?_
          refine z_b1 (fun c256 => ?_) (fun c256 => ?_)
          · have c256 : v.toInt ≠ 0 := c256
            refine gw_skip _ ?_
            refine gw_ld rfl rfl ?_
            refine z_b1 (fun c257 => ?_) (fun c257 => ?_)
            · have c257 : k.toInt ≤ 0 := c257
              refine gw_skip _ ?_
              refine gw_ld rfl rfl ?_
              refine gw_ld rfl rfl ?_
              refine z_C (m := 0) rfl rfl (fun x258 ex258 => ?_)
              refine z_cl rfl rfl rfl rfl rfl rfl rfl rfl rfl rfl rfl (zT S2 (by decide) rfl) ?_
              have htk : tk (rowF (nL (ez_I h 100)) (nL (ez_I h 101))) (rowM (nL (ez_I h 100)) (nL (ez_I h 101))) k.toInt.toNat = (v.toInt.toNat, x258.toInt.toNat, 1) := by rw [tk_n (f := (rowF (nL (ez_I h 100)) (nL (ez_I h 101)))) (N := (rowM (nL (ez_I h 100)) (nL (ez_I h 101)))) (a := k.toInt.toNat) (n := n.toInt.toNat) (m := 400) (by omega) (by omega) hrn, if_neg (fun q => by omega), if_neg (fun q => by omega)]; exact p3_eq (by omega) (by omega) rfl
              have hko := tk_ok (f := (rowF (nL (ez_I h 100)) (nL (ez_I h 101)))) (N := (rowM (nL (ez_I h 100)) (nL (ez_I h 101)))) (a := k.toInt.toNat) (by omega) hf15
              rw [htk] at hko
              have hko2 : v.toInt.toNat ≤ 18 ∧ 1 ≤ 1 ∧ k.toInt.toNat + 1 ≤ (rowM (nL (ez_I h 100)) (nL (ez_I h 101))) := ⟨hko.1, hko.2.1, hko.2.2.1⟩
              have htS : tS (rowF (nL (ez_I h 100)) (nL (ez_I h 101))) (rowM (nL (ez_I h 100)) (nL (ez_I h 101))) c = v.toInt.toNat := by unfold tS; rw [show tp (rowF (nL (ez_I h 100)) (nL (ez_I h 101))) (rowM (nL (ez_I h 100)) (nL (ez_I h 101))) c = k.toInt.toNat by omega, htk]
              have htX : tX (rowF (nL (ez_I h 100)) (nL (ez_I h 101))) (rowM (nL (ez_I h 100)) (nL (ez_I h 101))) c = x258.toInt.toNat := by unfold tX; rw [show tp (rowF (nL (ez_I h 100)) (nL (ez_I h 101))) (rowM (nL (ez_I h 100)) (nL (ez_I h 101))) c = k.toInt.toNat by omega, htk]
              have htp : tp (rowF (nL (ez_I h 100)) (nL (ez_I h 101))) (rowM (nL (ez_I h 100)) (nL (ez_I h 101))) (c + 1) = tp (rowF (nL (ez_I h 100)) (nL (ez_I h 101))) (rowM (nL (ez_I h 100)) (nL (ez_I h 101))) c + 1 := by show tp (rowF (nL (ez_I h 100)) (nL (ez_I h 101))) (rowM (nL (ez_I h 100)) (nL (ez_I h 101))) c + (tk (rowF (nL (ez_I h 100)) (nL (ez_I h 101))) (rowM (nL (ez_I h 100)) (nL (ez_I h 101))) (tp (rowF (nL (ez_I h 100)) (nL (ez_I h 101))) (rowM (nL (ez_I h 100)) (nL (ez_I h 101))) c)).2.2 = _; rw [show tp (rowF (nL (ez_I h 100)) (nL (ez_I h 101))) (rowM (nL (ez_I h 100)) (nL (ez_I h 101))) c = k.toInt.toNat by omega, htk]
              refine d_tr (a := v) (b := x258) S2 (by omega) (by omega) (ctI_aR A_tc (fun z => by have := tC_le (rowF (nL (ez_I h 100)) (nL (ez_I h 101))) (rowM (nL (ez_I h 100)) (nL (ez_I h 101))) c z; omega)) (fun h259 F260 k261 k262 k263 k264 => ?_)
              rw [show (ez_I h2 71 56).toInt.toNat = c by omega] at k262 k263
              have A265 : teI (ez_I h259 117) (ez_I h259 118) (rowF (nL (ez_I h 100)) (nL (ez_I h 101))) (rowM (nL (ez_I h 100)) (nL (ez_I h 101))) (c + 1) := teI_s A_te (congrArg Int32.toInt k262.1) (congrArg Int32.toInt k263.1) k262.2 k263.2 (by rw [htS]; omega) (by rw [htX]; omega) rfl
              have A266 : ctI (ez_I h259 99) (tC (rowF (nL (ez_I h 100)) (nL (ez_I h 101))) (rowM (nL (ez_I h 100)) (nL (ez_I h 101))) (c + 1)) 19 := ctI_upE A_tc (by rw [htS]; exact k264) (tC_y _ _ _) (fun q hq => tC_n hq)
              have S267 := zW_sh F260 S2
              have F268 := zW_tr F (zW_mono F260 (x64_0) (x64_1) (x64_2))
              have r269 := z_rng (ez_I h259 71 56)
              have f270 : ez_I h259 71 57 = (ez_I h2 71 57) := (zW_f F260 (by decide) (by decide)).trans (rfl)
              have f271 : ez_I h259 71 58 = (ez_I h2 71 58) := (zW_f F260 (by decide) (by decide)).trans (rfl)
              have A272 : cpN (ez_I h259 119) (rowF (nL (ez_I h 100)) (nL (ez_I h 101))) (rowM (nL (ez_I h 100)) (nL (ez_I h 101))) := by rw [zW_fn F260 119 (by decide) (x64_3)]; exact A_ro
              refine z_inc rfl (by rw [show (1 : Int32).toInt = 1 from rfl]; omega) (fun x273 ex273 => ?_)
              rw [show (1 : Int32).toInt = 1 from rfl] at ex273
              show ez_gw _ _ _ _ _ _ _ _ [some (.ref 71), some (.int al), some (.int x273), some (.int v), some (.int n)] _ _ _
              refine z_go ?_
              have t274 := congrArg Int32.toInt (f270)
              have t275 := congrArg Int32.toInt (f271)
              exact ih.1 h259 al x273 (some (.int v)) (some (.int n)) (c + 1) F268 (by rw [htp]; omega) A272 (A265) (A266) ((ltT_s A_lt (by omega) rfl)) (by omega)
            · have c257 : ¬ (k.toInt ≤ 0) := c257
              refine gw_ld rfl rfl ?_
              refine z_gR (q := 119) (zT S2 (by decide) rfl) (zRf S2 (by decide) (by decide) rfl) (by decide) ?_
              refine gw_ld rfl rfl ?_
              refine z_C (m := 1) rfl rfl (fun x276 ex276 => ?_)
              refine z_sub (by omega) (fun x277 ex277 => ?_)
              refine z_ia (n := 330) (zT S2 (by decide) rfl) (zN S2 (by decide) rfl) (by omega) ?_
              generalize ex278 : ez_I h2 119 x277.toInt.toNat = x278
              have rx278 := z_rng x278
              have yp := A_ro x277.toInt.toNat (by omega)
              rw [ex278, show x277.toInt.toNat = k.toInt.toNat - 1 by omega] at yp
              refine gw_ld rfl rfl ?_
              refine z_b2 (fun c279 => ?_) (fun c279 => ?_)
              · have c279 : x278.toInt ≠ v.toInt := c279
                refine gw_skip _ ?_
                refine gw_ld rfl rfl ?_
                refine gw_ld rfl rfl ?_
                refine z_C (m := 0) rfl rfl (fun x280 ex280 => ?_)
                refine z_cl rfl rfl rfl rfl rfl rfl rfl rfl rfl rfl rfl (zT S2 (by decide) rfl) ?_
                have htk : tk (rowF (nL (ez_I h 100)) (nL (ez_I h 101))) (rowM (nL (ez_I h 100)) (nL (ez_I h 101))) k.toInt.toNat = (v.toInt.toNat, x280.toInt.toNat, 1) := by rw [tk_n (f := (rowF (nL (ez_I h 100)) (nL (ez_I h 101)))) (N := (rowM (nL (ez_I h 100)) (nL (ez_I h 101)))) (a := k.toInt.toNat) (n := n.toInt.toNat) (m := 400) (by omega) (by omega) hrn, if_neg (fun q => by omega), if_neg (fun q => by omega)]; exact p3_eq (by omega) (by omega) rfl
                have hko := tk_ok (f := (rowF (nL (ez_I h 100)) (nL (ez_I h 101)))) (N := (rowM (nL (ez_I h 100)) (nL (ez_I h 101)))) (a := k.toInt.toNat) (by omega) hf15
                rw [htk] at hko
                have hko2 : v.toInt.toNat ≤ 18 ∧ 1 ≤ 1 ∧ k.toInt.toNat + 1 ≤ (rowM (nL (ez_I h 100)) (nL (ez_I h 101))) := ⟨hko.1, hko.2.1, hko.2.2.1⟩
                have htS : tS (rowF (nL (ez_I h 100)) (nL (ez_I h 101))) (rowM (nL (ez_I h 100)) (nL (ez_I h 101))) c = v.toInt.toNat := by unfold tS; rw [show tp (rowF (nL (ez_I h 100)) (nL (ez_I h 101))) (rowM (nL (ez_I h 100)) (nL (ez_I h 101))) c = k.toInt.toNat by omega, htk]
                have htX : tX (rowF (nL (ez_I h 100)) (nL (ez_I h 101))) (rowM (nL (ez_I h 100)) (nL (ez_I h 101))) c = x280.toInt.toNat := by unfold tX; rw [show tp (rowF (nL (ez_I h 100)) (nL (ez_I h 101))) (rowM (nL (ez_I h 100)) (nL (ez_I h 101))) c = k.toInt.toNat by omega, htk]
                have htp : tp (rowF (nL (ez_I h 100)) (nL (ez_I h 101))) (rowM (nL (ez_I h 100)) (nL (ez_I h 101))) (c + 1) = tp (rowF (nL (ez_I h 100)) (nL (ez_I h 101))) (rowM (nL (ez_I h 100)) (nL (ez_I h 101))) c + 1 := by show tp (rowF (nL (ez_I h 100)) (nL (ez_I h 101))) (rowM (nL (ez_I h 100)) (nL (ez_I h 101))) c + (tk (rowF (nL (ez_I h 100)) (nL (ez_I h 101))) (rowM (nL (ez_I h 100)) (nL (ez_I h 101))) (tp (rowF (nL (ez_I h 100)) (nL (ez_I h 101))) (rowM (nL (ez_I h 100)) (nL (ez_I h 101))) c)).2.2 = _; rw [show tp (rowF (nL (ez_I h 100)) (nL (ez_I h 101))) (rowM (nL (ez_I h 100)) (nL (ez_I h 101))) c = k.toInt.toNat by omega, htk]
                refine d_tr (a := v) (b := x280) S2 (by omega) (by omega) (ctI_aR A_tc (fun z => by have := tC_le (rowF (nL (ez_I h 100)) (nL (ez_I h 101))) (rowM (nL (ez_I h 100)) (nL (ez_I h 101))) c z; omega)) (fun h281 F282 k283 k284 k285 k286 => ?_)
                rw [show (ez_I h2 71 56).toInt.toNat = c by omega] at k284 k285
                have A287 : teI (ez_I h281 117) (ez_I h281 118) (rowF (nL (ez_I h 100)) (nL (ez_I h 101))) (rowM (nL (ez_I h 100)) (nL (ez_I h 101))) (c + 1) := teI_s A_te (congrArg Int32.toInt k284.1) (congrArg Int32.toInt k285.1) k284.2 k285.2 (by rw [htS]; omega) (by rw [htX]; omega) rfl
                have A288 : ctI (ez_I h281 99) (tC (rowF (nL (ez_I h 100)) (nL (ez_I h 101))) (rowM (nL (ez_I h 100)) (nL (ez_I h 101))) (c + 1)) 19 := ctI_upE A_tc (by rw [htS]; exact k286) (tC_y _ _ _) (fun q hq => tC_n hq)
                have S289 := zW_sh F282 S2
                have F290 := zW_tr F (zW_mono F282 (x64_0) (x64_1) (x64_2))
                have r291 := z_rng (ez_I h281 71 56)
                have f292 : ez_I h281 71 57 = (ez_I h2 71 57) := (zW_f F282 (by decide) (by decide)).trans (rfl)
                have f293 : ez_I h281 71 58 = (ez_I h2 71 58) := (zW_f F282 (by decide) (by decide)).trans (rfl)
                have A294 : cpN (ez_I h281 119) (rowF (nL (ez_I h 100)) (nL (ez_I h 101))) (rowM (nL (ez_I h 100)) (nL (ez_I h 101))) := by rw [zW_fn F282 119 (by decide) (x64_3)]; exact A_ro
                refine z_inc rfl (by rw [show (1 : Int32).toInt = 1 from rfl]; omega) (fun x295 ex295 => ?_)
                rw [show (1 : Int32).toInt = 1 from rfl] at ex295
                show ez_gw _ _ _ _ _ _ _ _ [some (.ref 71), some (.int al), some (.int x295), some (.int v), some (.int n)] _ _ _
                refine z_go ?_
                have t296 := congrArg Int32.toInt (f292)
                have t297 := congrArg Int32.toInt (f293)
                exact ih.1 h281 al x295 (some (.int v)) (some (.int n)) (c + 1) F290 (by rw [htp]; omega) A294 (A287) (A288) ((ltT_s A_lt (by omega) rfl)) (by omega)
              · have c279 : ¬ (x278.toInt ≠ v.toInt) := c279
                refine gw_ld rfl rfl ?_
                refine z_C (m := 2) rfl rfl (fun x298 ex298 => ?_)
                refine z_b2 (fun c299 => ?_) (fun c299 => ?_)
                · have c299 : n.toInt ≤ x298.toInt := c299
                  refine gw_skip _ ?_
                  refine gw_ld rfl rfl ?_
                  refine gw_ld rfl rfl ?_
                  refine z_C (m := 0) rfl rfl (fun x300 ex300 => ?_)
                  refine z_cl rfl rfl rfl rfl rfl rfl rfl rfl rfl rfl rfl (zT S2 (by decide) rfl) ?_
                  have htk : tk (rowF (nL (ez_I h 100)) (nL (ez_I h 101))) (rowM (nL (ez_I h 100)) (nL (ez_I h 101))) k.toInt.toNat = (v.toInt.toNat, x300.toInt.toNat, 1) := by rw [tk_n (f := (rowF (nL (ez_I h 100)) (nL (ez_I h 101)))) (N := (rowM (nL (ez_I h 100)) (nL (ez_I h 101)))) (a := k.toInt.toNat) (n := n.toInt.toNat) (m := 400) (by omega) (by omega) hrn, if_neg (fun q => by omega), if_neg (fun q => by omega)]; exact p3_eq (by omega) (by omega) rfl
                  have hko := tk_ok (f := (rowF (nL (ez_I h 100)) (nL (ez_I h 101)))) (N := (rowM (nL (ez_I h 100)) (nL (ez_I h 101)))) (a := k.toInt.toNat) (by omega) hf15
                  rw [htk] at hko
                  have hko2 : v.toInt.toNat ≤ 18 ∧ 1 ≤ 1 ∧ k.toInt.toNat + 1 ≤ (rowM (nL (ez_I h 100)) (nL (ez_I h 101))) := ⟨hko.1, hko.2.1, hko.2.2.1⟩
                  have htS : tS (rowF (nL (ez_I h 100)) (nL (ez_I h 101))) (rowM (nL (ez_I h 100)) (nL (ez_I h 101))) c = v.toInt.toNat := by unfold tS; rw [show tp (rowF (nL (ez_I h 100)) (nL (ez_I h 101))) (rowM (nL (ez_I h 100)) (nL (ez_I h 101))) c = k.toInt.toNat by omega, htk]
                  have htX : tX (rowF (nL (ez_I h 100)) (nL (ez_I h 101))) (rowM (nL (ez_I h 100)) (nL (ez_I h 101))) c = x300.toInt.toNat := by unfold tX; rw [show tp (rowF (nL (ez_I h 100)) (nL (ez_I h 101))) (rowM (nL (ez_I h 100)) (nL (ez_I h 101))) c = k.toInt.toNat by omega, htk]
                  have htp : tp (rowF (nL (ez_I h 100)) (nL (ez_I h 101))) (rowM (nL (ez_I h 100)) (nL (ez_I h 101))) (c + 1) = tp (rowF (nL (ez_I h 100)) (nL (ez_I h 101))) (rowM (nL (ez_I h 100)) (nL (ez_I h 101))) c + 1 := by show tp (rowF (nL (ez_I h 100)) (nL (ez_I h 101))) (rowM (nL (ez_I h 100)) (nL (ez_I h 101))) c + (tk (rowF (nL (ez_I h 100)) (nL (ez_I h 101))) (rowM (nL (ez_I h 100)) (nL (ez_I h 101))) (tp (rowF (nL (ez_I h 100)) (nL (ez_I h 101))) (rowM (nL (ez_I h 100)) (nL (ez_I h 101))) c)).2.2 = _; rw [show tp (rowF (nL (ez_I h 100)) (nL (ez_I h 101))) (rowM (nL (ez_I h 100)) (nL (ez_I h 101))) c = k.toInt.toNat by omega, htk]
                  refine d_tr (a := v) (b := x300) S2 (by omega) (by omega) (ctI_aR A_tc (fun z => by have := tC_le (rowF (nL (ez_I h 100)) (nL (ez_I h 101))) (rowM (nL (ez_I h 100)) (nL (ez_I h 101))) c z; omega)) (fun h301 F302 k303 k304 k305 k306 => ?_)
                  rw [show (ez_I h2 71 56).toInt.toNat = c by omega] at k304 k305
                  have A307 : teI (ez_I h301 117) (ez_I h301 118) (rowF (nL (ez_I h 100)) (nL (ez_I h 101))) (rowM (nL (ez_I h 100)) (nL (ez_I h 101))) (c + 1) := teI_s A_te (congrArg Int32.toInt k304.1) (congrArg Int32.toInt k305.1) k304.2 k305.2 (by rw [htS]; omega) (by rw [htX]; omega) rfl
                  have A308 : ctI (ez_I h301 99) (tC (rowF (nL (ez_I h 100)) (nL (ez_I h 101))) (rowM (nL (ez_I h 100)) (nL (ez_I h 101))) (c + 1)) 19 := ctI_upE A_tc (by rw [htS]; exact k306) (tC_y _ _ _) (fun q hq => tC_n hq)
                  have S309 := zW_sh F302 S2
                  have F310 := zW_tr F (zW_mono F302 (x64_0) (x64_1) (x64_2))
                  have r311 := z_rng (ez_I h301 71 56)
                  have f312 : ez_I h301 71 57 = (ez_I h2 71 57) := (zW_f F302 (by decide) (by decide)).trans (rfl)
                  have f313 : ez_I h301 71 58 = (ez_I h2 71 58) := (zW_f F302 (by decide) (by decide)).trans (rfl)
                  have A314 : cpN (ez_I h301 119) (rowF (nL (ez_I h 100)) (nL (ez_I h 101))) (rowM (nL (ez_I h 100)) (nL (ez_I h 101))) := by rw [zW_fn F302 119 (by decide) (x64_3)]; exact A_ro
                  refine z_inc rfl (by rw [show (1 : Int32).toInt = 1 from rfl]; omega) (fun x315 ex315 => ?_)
                  rw [show (1 : Int32).toInt = 1 from rfl] at ex315
                  show ez_gw _ _ _ _ _ _ _ _ [some (.ref 71), some (.int al), some (.int x315), some (.int v), some (.int n)] _ _ _
                  refine z_go ?_
                  have t316 := congrArg Int32.toInt (f312)
                  have t317 := congrArg Int32.toInt (f313)
                  exact ih.1 h301 al x315 (some (.int v)) (some (.int n)) (c + 1) F310 (by rw [htp]; omega) A314 (A307) (A308) ((ltT_s A_lt (by omega) rfl)) (by omega)
                · have c299 : ¬ (n.toInt ≤ x298.toInt) := c299
                  refine gw_ld rfl rfl ?_
                  refine z_C (m := 6) rfl rfl (fun x318 ex318 => ?_)
                  refine z_b2 (fun c319 => ?_) (fun c319 => ?_)
                  · have c319 : n.toInt ≤ x318.toInt := c319
                    refine gw_skip _ ?_
                    refine gw_ld rfl rfl ?_
                    refine gw_st rfl rfl rfl ?_
                    show ez_gw _ _ _ _ _ _ _ _ [some (.ref 71), some (.int al), some (.int k), some (.int v), some (.int n)] _ _ _
                    refine gw_ld rfl rfl ?_
                    refine z_C (m := 16) rfl rfl (fun x320 ex320 => ?_)
                    refine gw_ld rfl rfl ?_
                    refine z_C (m := 3) rfl rfl (fun x321 ex321 => ?_)
                    refine z_sub (by omega) (fun x322 ex322 => ?_)
                    refine z_cl rfl rfl rfl rfl rfl rfl rfl rfl rfl rfl rfl (zT S2 (by decide) rfl) ?_
                    have htk : tk (rowF (nL (ez_I h 100)) (nL (ez_I h 101))) (rowM (nL (ez_I h 100)) (nL (ez_I h 101))) k.toInt.toNat = (x320.toInt.toNat, x322.toInt.toNat, n.toInt.toNat) := by rw [tk_n (f := (rowF (nL (ez_I h 100)) (nL (ez_I h 101)))) (N := (rowM (nL (ez_I h 100)) (nL (ez_I h 101)))) (a := k.toInt.toNat) (n := n.toInt.toNat) (m := 400) (by omega) (by omega) hrn, if_neg (fun q => by omega), if_pos ⟨by omega, by omega, by omega⟩]; exact p3_eq (by omega) (by omega) (by omega)
                    have hko := tk_ok (f := (rowF (nL (ez_I h 100)) (nL (ez_I h 101)))) (N := (rowM (nL (ez_I h 100)) (nL (ez_I h 101)))) (a := k.toInt.toNat) (by omega) hf15
                    rw [htk] at hko
                    have hko2 : x320.toInt.toNat ≤ 18 ∧ 1 ≤ n.toInt.toNat ∧ k.toInt.toNat + n.toInt.toNat ≤ (rowM (nL (ez_I h 100)) (nL (ez_I h 101))) := ⟨hko.1, hko.2.1, hko.2.2.1⟩
                    have htS : tS (rowF (nL (ez_I h 100)) (nL (ez_I h 101))) (rowM (nL (ez_I h 100)) (nL (ez_I h 101))) c = x320.toInt.toNat := by unfold tS; rw [show tp (rowF (nL (ez_I h 100)) (nL (ez_I h 101))) (rowM (nL (ez_I h 100)) (nL (ez_I h 101))) c = k.toInt.toNat by omega, htk]
                    have htX : tX (rowF (nL (ez_I h 100)) (nL (ez_I h 101))) (rowM (nL (ez_I h 100)) (nL (ez_I h 101))) c = x322.toInt.toNat := by unfold tX; rw [show tp (rowF (nL (ez_I h 100)) (nL (ez_I h 101))) (rowM (nL (ez_I h 100)) (nL (ez_I h 101))) c = k.toInt.toNat by omega, htk]
                    have htp : tp (rowF (nL (ez_I h 100)) (nL (ez_I h 101))) (rowM (nL (ez_I h 100)) (nL (ez_I h 101))) (c + 1) = tp (rowF (nL (ez_I h 100)) (nL (ez_I h 101))) (rowM (nL (ez_I h 100)) (nL (ez_I h 101))) c + n.toInt.toNat := by show tp (rowF (nL (ez_I h 100)) (nL (ez_I h 101))) (rowM (nL (ez_I h 100)) (nL (ez_I h 101))) c + (tk (rowF (nL (ez_I h 100)) (nL (ez_I h 101))) (rowM (nL (ez_I h 100)) (nL (ez_I h 101))) (tp (rowF (nL (ez_I h 100)) (nL (ez_I h 101))) (rowM (nL (ez_I h 100)) (nL (ez_I h 101))) c)).2.2 = _; rw [show tp (rowF (nL (ez_I h 100)) (nL (ez_I h 101))) (rowM (nL (ez_I h 100)) (nL (ez_I h 101))) c = k.toInt.toNat by omega, htk]
                    refine d_tr (a := x320) (b := x322) S2 (by omega) (by omega) (ctI_aR A_tc (fun z => by have := tC_le (rowF (nL (ez_I h 100)) (nL (ez_I h 101))) (rowM (nL (ez_I h 100)) (nL (ez_I h 101))) c z; omega)) (fun h323 F324 k325 k326 k327 k328 => ?_)
                    rw [show (ez_I h2 71 56).toInt.toNat = c by omega] at k326 k327
                    have A329 : teI (ez_I h323 117) (ez_I h323 118) (rowF (nL (ez_I h 100)) (nL (ez_I h 101))) (rowM (nL (ez_I h 100)) (nL (ez_I h 101))) (c + 1) := teI_s A_te (congrArg Int32.toInt k326.1) (congrArg Int32.toInt k327.1) k326.2 k327.2 (by rw [htS]; omega) (by rw [htX]; omega) rfl
                    have A330 : ctI (ez_I h323 99) (tC (rowF (nL (ez_I h 100)) (nL (ez_I h 101))) (rowM (nL (ez_I h 100)) (nL (ez_I h 101))) (c + 1)) 19 := ctI_upE A_tc (by rw [htS]; exact k328) (tC_y _ _ _) (fun q hq => tC_n hq)
                    have S331 := zW_sh F324 S2
                    have F332 := zW_tr F (zW_mono F324 (x64_0) (x64_1) (x64_2))
                    have r333 := z_rng (ez_I h323 71 56)
                    have f334 : ez_I h323 71 57 = (ez_I h2 71 57) := (zW_f F324 (by decide) (by decide)).trans (rfl)
                    have f335 : ez_I h323 71 58 = (ez_I h2 71 58) := (zW_f F324 (by decide) (by decide)).trans (rfl)
                    have A336 : cpN (ez_I h323 119) (rowF (nL (ez_I h 100)) (nL (ez_I h 101))) (rowM (nL (ez_I h 100)) (nL (ez_I h 101))) := by rw [zW_fn F324 119 (by decide) (x64_3)]; exact A_ro
                    refine gw_ld rfl rfl ?_
                    refine gw_ld rfl rfl ?_
                    refine z_add (by omega) (fun x337 ex337 => ?_)
                    refine gw_st rfl rfl rfl ?_
                    show ez_gw _ _ _ _ _ _ _ _ [some (.ref 71), some (.int al), some (.int x337), some (.int v), some (.int n)] _ _ _
                    refine z_go ?_
                    refine gw_skip _ ?_
                    refine z_go ?_
                    have t338 := congrArg Int32.toInt (f334)
                    have t339 := congrArg Int32.toInt (f335)
                    exact ih.1 h323 al x337 (some (.int v)) (some (.int n)) (c + 1) F332 (by rw [htp]; omega) A336 (A329) (A330) ((ltT_s A_lt (by omega) rfl)) (by omega)
                  · have c319 : ¬ (n.toInt ≤ x318.toInt) := c319
                    refine z_C (m := 6) rfl rfl (fun x340 ex340 => ?_)
                    refine z_go ?_
                    refine gw_skip _ ?_
                    refine gw_st rfl rfl rfl ?_
                    show ez_gw _ _ _ _ _ _ _ _ [some (.ref 71), some (.int al), some (.int k), some (.int v), some (.int x340)] _ _ _
                    refine gw_ld rfl rfl ?_
                    refine z_C (m := 16) rfl rfl (fun x341 ex341 => ?_)
                    refine gw_ld rfl rfl ?_
                    refine z_C (m := 3) rfl rfl (fun x342 ex342 => ?_)
                    refine z_sub (by omega) (fun x343 ex343 => ?_)
                    refine z_cl rfl rfl rfl rfl rfl rfl rfl rfl rfl rfl rfl (zT S2 (by decide) rfl) ?_
                    have htk : tk (rowF (nL (ez_I h 100)) (nL (ez_I h 101))) (rowM (nL (ez_I h 100)) (nL (ez_I h 101))) k.toInt.toNat = (x341.toInt.toNat, x343.toInt.toNat, x340.toInt.toNat) := by rw [tk_n (f := (rowF (nL (ez_I h 100)) (nL (ez_I h 101)))) (N := (rowM (nL (ez_I h 100)) (nL (ez_I h 101)))) (a := k.toInt.toNat) (n := n.toInt.toNat) (m := 400) (by omega) (by omega) hrn, if_neg (fun q => by omega), if_pos ⟨by omega, by omega, by omega⟩]; exact p3_eq (by omega) (by omega) (by omega)
                    have hko := tk_ok (f := (rowF (nL (ez_I h 100)) (nL (ez_I h 101)))) (N := (rowM (nL (ez_I h 100)) (nL (ez_I h 101)))) (a := k.toInt.toNat) (by omega) hf15
                    rw [htk] at hko
                    have hko2 : x341.toInt.toNat ≤ 18 ∧ 1 ≤ x340.toInt.toNat ∧ k.toInt.toNat + x340.toInt.toNat ≤ (rowM (nL (ez_I h 100)) (nL (ez_I h 101))) := ⟨hko.1, hko.2.1, hko.2.2.1⟩
                    have htS : tS (rowF (nL (ez_I h 100)) (nL (ez_I h 101))) (rowM (nL (ez_I h 100)) (nL (ez_I h 101))) c = x341.toInt.toNat := by unfold tS; rw [show tp (rowF (nL (ez_I h 100)) (nL (ez_I h 101))) (rowM (nL (ez_I h 100)) (nL (ez_I h 101))) c = k.toInt.toNat by omega, htk]
                    have htX : tX (rowF (nL (ez_I h 100)) (nL (ez_I h 101))) (rowM (nL (ez_I h 100)) (nL (ez_I h 101))) c = x343.toInt.toNat := by unfold tX; rw [show tp (rowF (nL (ez_I h 100)) (nL (ez_I h 101))) (rowM (nL (ez_I h 100)) (nL (ez_I h 101))) c = k.toInt.toNat by omega, htk]
                    have htp : tp (rowF (nL (ez_I h 100)) (nL (ez_I h 101))) (rowM (nL (ez_I h 100)) (nL (ez_I h 101))) (c + 1) = tp (rowF (nL (ez_I h 100)) (nL (ez_I h 101))) (rowM (nL (ez_I h 100)) (nL (ez_I h 101))) c + x340.toInt.toNat := by show tp (rowF (nL (ez_I h 100)) (nL (ez_I h 101))) (rowM (nL (ez_I h 100)) (nL (ez_I h 101))) c + (tk (rowF (nL (ez_I h 100)) (nL (ez_I h 101))) (rowM (nL (ez_I h 100)) (nL (ez_I h 101))) (tp (rowF (nL (ez_I h 100)) (nL (ez_I h 101))) (rowM (nL (ez_I h 100)) (nL (ez_I h 101))) c)).2.2 = _; rw [show tp (rowF (nL (ez_I h 100)) (nL (ez_I h 101))) (rowM (nL (ez_I h 100)) (nL (ez_I h 101))) c = k.toInt.toNat by omega, htk]
                    refine d_tr (a := x341) (b := x343) S2 (by omega) (by omega) (ctI_aR A_tc (fun z => by have := tC_le (rowF (nL (ez_I h 100)) (nL (ez_I h 101))) (rowM (nL (ez_I h 100)) (nL (ez_I h 101))) c z; omega)) (fun h344 F345 k346 k347 k348 k349 => ?_)
                    rw [show (ez_I h2 71 56).toInt.toNat = c by omega] at k347 k348
                    have A350 : teI (ez_I h344 117) (ez_I h344 118) (rowF (nL (ez_I h 100)) (nL (ez_I h 101))) (rowM (nL (ez_I h 100)) (nL (ez_I h 101))) (c + 1) := teI_s A_te (congrArg Int32.toInt k347.1) (congrArg Int32.toInt k348.1) k347.2 k348.2 (by rw [htS]; omega) (by rw [htX]; omega) rfl
                    have A351 : ctI (ez_I h344 99) (tC (rowF (nL (ez_I h 100)) (nL (ez_I h 101))) (rowM (nL (ez_I h 100)) (nL (ez_I h 101))) (c + 1)) 19 := ctI_upE A_tc (by rw [htS]; exact k349) (tC_y _ _ _) (fun q hq => tC_n hq)
                    have S352 := zW_sh F345 S2
                    have F353 := zW_tr F (zW_mono F345 (x64_0) (x64_1) (x64_2))
                    have r354 := z_rng (ez_I h344 71 56)
                    have f355 : ez_I h344 71 57 = (ez_I h2 71 57) := (zW_f F345 (by decide) (by decide)).trans (rfl)
                    have f356 : ez_I h344 71 58 = (ez_I h2 71 58) := (zW_f F345 (by decide) (by decide)).trans (rfl)
                    have A357 : cpN (ez_I h344 119) (rowF (nL (ez_I h 100)) (nL (ez_I h 101))) (rowM (nL (ez_I h 100)) (nL (ez_I h 101))) := by rw [zW_fn F345 119 (by decide) (x64_3)]; exact A_ro
                    refine gw_ld rfl rfl ?_
                    refine gw_ld rfl rfl ?_
                    refine z_add (by omega) (fun x358 ex358 => ?_)
                    refine gw_st rfl rfl rfl ?_
                    show ez_gw _ _ _ _ _ _ _ _ [some (.ref 71), some (.int al), some (.int x358), some (.int v), some (.int x340)] _ _ _
                    refine z_go ?_
                    refine gw_skip _ ?_
                    refine z_go ?_
                    have t359 := congrArg Int32.toInt (f355)
                    have t360 := congrArg Int32.toInt (f356)
                    exact ih.1 h344 al x358 (some (.int v)) (some (.int x340)) (c + 1) F353 (by rw [htp]; omega) A357 (A350) (A351) ((ltT_s A_lt (by omega) rfl)) (by omega)
          · have c256 : ¬ (v.toInt ≠ 0) := c256
            refine gw_ld rfl rfl ?_
            refine z_C (m := 2) rfl rfl (fun x361 ex361 => ?_)
            refine z_b2 (fun c362 => ?_) (fun c362 => ?_)
            · have c362 : n.toInt ≤ x361.toInt := c362
              refine gw_skip _ ?_
              refine gw_ld rfl rfl ?_
              refine z_b1 (fun c363 => ?_) (fun c363 => ?_)
              · have c363 : k.toInt ≤ 0 := c363
                refine gw_skip _ ?_
                refine gw_ld rfl rfl ?_
                refine gw_ld rfl rfl ?_
                refine z_C (m := 0) rfl rfl (fun x364 ex364 => ?_)
                refine z_cl rfl rfl rfl rfl rfl rfl rfl rfl rfl rfl rfl (zT S2 (by decide) rfl) ?_
                have htk : tk (rowF (nL (ez_I h 100)) (nL (ez_I h 101))) (rowM (nL (ez_I h 100)) (nL (ez_I h 101))) k.toInt.toNat = (v.toInt.toNat, x364.toInt.toNat, 1) := by rw [tk_n (f := (rowF (nL (ez_I h 100)) (nL (ez_I h 101)))) (N := (rowM (nL (ez_I h 100)) (nL (ez_I h 101)))) (a := k.toInt.toNat) (n := n.toInt.toNat) (m := 400) (by omega) (by omega) hrn, if_neg (fun q => by omega), if_neg (fun q => by omega)]; exact p3_eq (by omega) (by omega) rfl
                have hko := tk_ok (f := (rowF (nL (ez_I h 100)) (nL (ez_I h 101)))) (N := (rowM (nL (ez_I h 100)) (nL (ez_I h 101)))) (a := k.toInt.toNat) (by omega) hf15
                rw [htk] at hko
                have hko2 : v.toInt.toNat ≤ 18 ∧ 1 ≤ 1 ∧ k.toInt.toNat + 1 ≤ (rowM (nL (ez_I h 100)) (nL (ez_I h 101))) := ⟨hko.1, hko.2.1, hko.2.2.1⟩
                have htS : tS (rowF (nL (ez_I h 100)) (nL (ez_I h 101))) (rowM (nL (ez_I h 100)) (nL (ez_I h 101))) c = v.toInt.toNat := by unfold tS; rw [show tp (rowF (nL (ez_I h 100)) (nL (ez_I h 101))) (rowM (nL (ez_I h 100)) (nL (ez_I h 101))) c = k.toInt.toNat by omega, htk]
                have htX : tX (rowF (nL (ez_I h 100)) (nL (ez_I h 101))) (rowM (nL (ez_I h 100)) (nL (ez_I h 101))) c = x364.toInt.toNat := by unfold tX; rw [show tp (rowF (nL (ez_I h 100)) (nL (ez_I h 101))) (rowM (nL (ez_I h 100)) (nL (ez_I h 101))) c = k.toInt.toNat by omega, htk]
                have htp : tp (rowF (nL (ez_I h 100)) (nL (ez_I h 101))) (rowM (nL (ez_I h 100)) (nL (ez_I h 101))) (c + 1) = tp (rowF (nL (ez_I h 100)) (nL (ez_I h 101))) (rowM (nL (ez_I h 100)) (nL (ez_I h 101))) c + 1 := by show tp (rowF (nL (ez_I h 100)) (nL (ez_I h 101))) (rowM (nL (ez_I h 100)) (nL (ez_I h 101))) c + (tk (rowF (nL (ez_I h 100)) (nL (ez_I h 101))) (rowM (nL (ez_I h 100)) (nL (ez_I h 101))) (tp (rowF (nL (ez_I h 100)) (nL (ez_I h 101))) (rowM (nL (ez_I h 100)) (nL (ez_I h 101))) c)).2.2 = _; rw [show tp (rowF (nL (ez_I h 100)) (nL (ez_I h 101))) (rowM (nL (ez_I h 100)) (nL (ez_I h 101))) c = k.toInt.toNat by omega, htk]
                refine d_tr (a := v) (b := x364) S2 (by omega) (by omega) (ctI_aR A_tc (fun z => by have := tC_le (rowF (nL (ez_I h 100)) (nL (ez_I h 101))) (rowM (nL (ez_I h 100)) (nL (ez_I h 101))) c z; omega)) (fun h365 F366 k367 k368 k369 k370 => ?_)
                rw [show (ez_I h2 71 56).toInt.toNat = c by omega] at k368 k369
                have A371 : teI (ez_I h365 117) (ez_I h365 118) (rowF (nL (ez_I h 100)) (nL (ez_I h 101))) (rowM (nL (ez_I h 100)) (nL (ez_I h 101))) (c + 1) := teI_s A_te (congrArg Int32.toInt k368.1) (congrArg Int32.toInt k369.1) k368.2 k369.2 (by rw [htS]; omega) (by rw [htX]; omega) rfl
                have A372 : ctI (ez_I h365 99) (tC (rowF (nL (ez_I h 100)) (nL (ez_I h 101))) (rowM (nL (ez_I h 100)) (nL (ez_I h 101))) (c + 1)) 19 := ctI_upE A_tc (by rw [htS]; exact k370) (tC_y _ _ _) (fun q hq => tC_n hq)
                have S373 := zW_sh F366 S2
                have F374 := zW_tr F (zW_mono F366 (x64_0) (x64_1) (x64_2))
                have r375 := z_rng (ez_I h365 71 56)
                have f376 : ez_I h365 71 57 = (ez_I h2 71 57) := (zW_f F366 (by decide) (by decide)).trans (rfl)
                have f377 : ez_I h365 71 58 = (ez_I h2 71 58) := (zW_f F366 (by decide) (by decide)).trans (rfl)
                have A378 : cpN (ez_I h365 119) (rowF (nL (ez_I h 100)) (nL (ez_I h 101))) (rowM (nL (ez_I h 100)) (nL (ez_I h 101))) := by rw [zW_fn F366 119 (by decide) (x64_3)]; exact A_ro
                refine z_inc rfl (by rw [show (1 : Int32).toInt = 1 from rfl]; omega) (fun x379 ex379 => ?_)
                rw [show (1 : Int32).toInt = 1 from rfl] at ex379
                show ez_gw _ _ _ _ _ _ _ _ [some (.ref 71), some (.int al), some (.int x379), some (.int v), some (.int n)] _ _ _
                refine z_go ?_
                have t380 := congrArg Int32.toInt (f376)
                have t381 := congrArg Int32.toInt (f377)
                exact ih.1 h365 al x379 (some (.int v)) (some (.int n)) (c + 1) F374 (by rw [htp]; omega) A378 (A371) (A372) ((ltT_s A_lt (by omega) rfl)) (by omega)
              · have c363 : ¬ (k.toInt ≤ 0) := c363
                refine gw_ld rfl rfl ?_
                refine z_gR (q := 119) (zT S2 (by decide) rfl) (zRf S2 (by decide) (by decide) rfl) (by decide) ?_
                refine gw_ld rfl rfl ?_
                refine z_C (m := 1) rfl rfl (fun x382 ex382 => ?_)
                refine z_sub (by omega) (fun x383 ex383 => ?_)
                refine z_ia (n := 330) (zT S2 (by decide) rfl) (zN S2 (by decide) rfl) (by omega) ?_
                generalize ex384 : ez_I h2 119 x383.toInt.toNat = x384
                have rx384 := z_rng x384
                have yp := A_ro x383.toInt.toNat (by omega)
                rw [ex384, show x383.toInt.toNat = k.toInt.toNat - 1 by omega] at yp
                refine gw_ld rfl rfl ?_
                refine z_b2 (fun c385 => ?_) (fun c385 => ?_)
                · have c385 : x384.toInt ≠ v.toInt := c385
                  refine gw_skip _ ?_
                  refine gw_ld rfl rfl ?_
                  refine gw_ld rfl rfl ?_
                  refine z_C (m := 0) rfl rfl (fun x386 ex386 => ?_)
                  refine z_cl rfl rfl rfl rfl rfl rfl rfl rfl rfl rfl rfl (zT S2 (by decide) rfl) ?_
                  have htk : tk (rowF (nL (ez_I h 100)) (nL (ez_I h 101))) (rowM (nL (ez_I h 100)) (nL (ez_I h 101))) k.toInt.toNat = (v.toInt.toNat, x386.toInt.toNat, 1) := by rw [tk_n (f := (rowF (nL (ez_I h 100)) (nL (ez_I h 101)))) (N := (rowM (nL (ez_I h 100)) (nL (ez_I h 101)))) (a := k.toInt.toNat) (n := n.toInt.toNat) (m := 400) (by omega) (by omega) hrn, if_neg (fun q => by omega), if_neg (fun q => by omega)]; exact p3_eq (by omega) (by omega) rfl
                  have hko := tk_ok (f := (rowF (nL (ez_I h 100)) (nL (ez_I h 101)))) (N := (rowM (nL (ez_I h 100)) (nL (ez_I h 101)))) (a := k.toInt.toNat) (by omega) hf15
                  rw [htk] at hko
                  have hko2 : v.toInt.toNat ≤ 18 ∧ 1 ≤ 1 ∧ k.toInt.toNat + 1 ≤ (rowM (nL (ez_I h 100)) (nL (ez_I h 101))) := ⟨hko.1, hko.2.1, hko.2.2.1⟩
                  have htS : tS (rowF (nL (ez_I h 100)) (nL (ez_I h 101))) (rowM (nL (ez_I h 100)) (nL (ez_I h 101))) c = v.toInt.toNat := by unfold tS; rw [show tp (rowF (nL (ez_I h 100)) (nL (ez_I h 101))) (rowM (nL (ez_I h 100)) (nL (ez_I h 101))) c = k.toInt.toNat by omega, htk]
                  have htX : tX (rowF (nL (ez_I h 100)) (nL (ez_I h 101))) (rowM (nL (ez_I h 100)) (nL (ez_I h 101))) c = x386.toInt.toNat := by unfold tX; rw [show tp (rowF (nL (ez_I h 100)) (nL (ez_I h 101))) (rowM (nL (ez_I h 100)) (nL (ez_I h 101))) c = k.toInt.toNat by omega, htk]
                  have htp : tp (rowF (nL (ez_I h 100)) (nL (ez_I h 101))) (rowM (nL (ez_I h 100)) (nL (ez_I h 101))) (c + 1) = tp (rowF (nL (ez_I h 100)) (nL (ez_I h 101))) (rowM (nL (ez_I h 100)) (nL (ez_I h 101))) c + 1 := by show tp (rowF (nL (ez_I h 100)) (nL (ez_I h 101))) (rowM (nL (ez_I h 100)) (nL (ez_I h 101))) c + (tk (rowF (nL (ez_I h 100)) (nL (ez_I h 101))) (rowM (nL (ez_I h 100)) (nL (ez_I h 101))) (tp (rowF (nL (ez_I h 100)) (nL (ez_I h 101))) (rowM (nL (ez_I h 100)) (nL (ez_I h 101))) c)).2.2 = _; rw [show tp (rowF (nL (ez_I h 100)) (nL (ez_I h 101))) (rowM (nL (ez_I h 100)) (nL (ez_I h 101))) c = k.toInt.toNat by omega, htk]
                  refine d_tr (a := v) (b := x386) S2 (by omega) (by omega) (ctI_aR A_tc (fun z => by have := tC_le (rowF (nL (ez_I h 100)) (nL (ez_I h 101))) (rowM (nL (ez_I h 100)) (nL (ez_I h 101))) c z; omega)) (fun h387 F388 k389 k390 k391 k392 => ?_)
                  rw [show (ez_I h2 71 56).toInt.toNat = c by omega] at k390 k391
                  have A393 : teI (ez_I h387 117) (ez_I h387 118) (rowF (nL (ez_I h 100)) (nL (ez_I h 101))) (rowM (nL (ez_I h 100)) (nL (ez_I h 101))) (c + 1) := teI_s A_te (congrArg Int32.toInt k390.1) (congrArg Int32.toInt k391.1) k390.2 k391.2 (by rw [htS]; omega) (by rw [htX]; omega) rfl
                  have A394 : ctI (ez_I h387 99) (tC (rowF (nL (ez_I h 100)) (nL (ez_I h 101))) (rowM (nL (ez_I h 100)) (nL (ez_I h 101))) (c + 1)) 19 := ctI_upE A_tc (by rw [htS]; exact k392) (tC_y _ _ _) (fun q hq => tC_n hq)
                  have S395 := zW_sh F388 S2
                  have F396 := zW_tr F (zW_mono F388 (x64_0) (x64_1) (x64_2))
                  have r397 := z_rng (ez_I h387 71 56)
                  have f398 : ez_I h387 71 57 = (ez_I h2 71 57) := (zW_f F388 (by decide) (by decide)).trans (rfl)
                  have f399 : ez_I h387 71 58 = (ez_I h2 71 58) := (zW_f F388 (by decide) (by decide)).trans (rfl)
                  have A400 : cpN (ez_I h387 119) (rowF (nL (ez_I h 100)) (nL (ez_I h 101))) (rowM (nL (ez_I h 100)) (nL (ez_I h 101))) := by rw [zW_fn F388 119 (by decide) (x64_3)]; exact A_ro
                  refine z_inc rfl (by rw [show (1 : Int32).toInt = 1 from rfl]; omega) (fun x401 ex401 => ?_)
                  rw [show (1 : Int32).toInt = 1 from rfl] at ex401
                  show ez_gw _ _ _ _ _ _ _ _ [some (.ref 71), some (.int al), some (.int x401), some (.int v), some (.int n)] _ _ _
                  refine z_go ?_
                  have t402 := congrArg Int32.toInt (f398)
                  have t403 := congrArg Int32.toInt (f399)
                  exact ih.1 h387 al x401 (some (.int v)) (some (.int n)) (c + 1) F396 (by rw [htp]; omega) A400 (A393) (A394) ((ltT_s A_lt (by omega) rfl)) (by omega)
                · have c385 : ¬ (x384.toInt ≠ v.toInt) := c385
                  refine gw_ld rfl rfl ?_
                  refine z_C (m := 2) rfl rfl (fun x404 ex404 => ?_)
                  refine z_b2 (fun c405 => ?_) (fun c405 => ?_)
                  · have c405 : n.toInt ≤ x404.toInt := c405
                    refine gw_skip _ ?_
                    refine gw_ld rfl rfl ?_
                    refine gw_ld rfl rfl ?_
                    refine z_C (m := 0) rfl rfl (fun x406 ex406 => ?_)
                    refine z_cl rfl rfl rfl rfl rfl rfl rfl rfl rfl rfl rfl (zT S2 (by decide) rfl) ?_
                    have htk : tk (rowF (nL (ez_I h 100)) (nL (ez_I h 101))) (rowM (nL (ez_I h 100)) (nL (ez_I h 101))) k.toInt.toNat = (v.toInt.toNat, x406.toInt.toNat, 1) := by rw [tk_n (f := (rowF (nL (ez_I h 100)) (nL (ez_I h 101)))) (N := (rowM (nL (ez_I h 100)) (nL (ez_I h 101)))) (a := k.toInt.toNat) (n := n.toInt.toNat) (m := 400) (by omega) (by omega) hrn, if_neg (fun q => by omega), if_neg (fun q => by omega)]; exact p3_eq (by omega) (by omega) rfl
                    have hko := tk_ok (f := (rowF (nL (ez_I h 100)) (nL (ez_I h 101)))) (N := (rowM (nL (ez_I h 100)) (nL (ez_I h 101)))) (a := k.toInt.toNat) (by omega) hf15
                    rw [htk] at hko
                    have hko2 : v.toInt.toNat ≤ 18 ∧ 1 ≤ 1 ∧ k.toInt.toNat + 1 ≤ (rowM (nL (ez_I h 100)) (nL (ez_I h 101))) := ⟨hko.1, hko.2.1, hko.2.2.1⟩
                    have htS : tS (rowF (nL (ez_I h 100)) (nL (ez_I h 101))) (rowM (nL (ez_I h 100)) (nL (ez_I h 101))) c = v.toInt.toNat := by unfold tS; rw [show tp (rowF (nL (ez_I h 100)) (nL (ez_I h 101))) (rowM (nL (ez_I h 100)) (nL (ez_I h 101))) c = k.toInt.toNat by omega, htk]
                    have htX : tX (rowF (nL (ez_I h 100)) (nL (ez_I h 101))) (rowM (nL (ez_I h 100)) (nL (ez_I h 101))) c = x406.toInt.toNat := by unfold tX; rw [show tp (rowF (nL (ez_I h 100)) (nL (ez_I h 101))) (rowM (nL (ez_I h 100)) (nL (ez_I h 101))) c = k.toInt.toNat by omega, htk]
                    have htp : tp (rowF (nL (ez_I h 100)) (nL (ez_I h 101))) (rowM (nL (ez_I h 100)) (nL (ez_I h 101))) (c + 1) = tp (rowF (nL (ez_I h 100)) (nL (ez_I h 101))) (rowM (nL (ez_I h 100)) (nL (ez_I h 101))) c + 1 := by show tp (rowF (nL (ez_I h 100)) (nL (ez_I h 101))) (rowM (nL (ez_I h 100)) (nL (ez_I h 101))) c + (tk (rowF (nL (ez_I h 100)) (nL (ez_I h 101))) (rowM (nL (ez_I h 100)) (nL (ez_I h 101))) (tp (rowF (nL (ez_I h 100)) (nL (ez_I h 101))) (rowM (nL (ez_I h 100)) (nL (ez_I h 101))) c)).2.2 = _; rw [show tp (rowF (nL (ez_I h 100)) (nL (ez_I h 101))) (rowM (nL (ez_I h 100)) (nL (ez_I h 101))) c = k.toInt.toNat by omega, htk]
                    refine d_tr (a := v) (b := x406) S2 (by omega) (by omega) (ctI_aR A_tc (fun z => by have := tC_le (rowF (nL (ez_I h 100)) (nL (ez_I h 101))) (rowM (nL (ez_I h 100)) (nL (ez_I h 101))) c z; omega)) (fun h407 F408 k409 k410 k411 k412 => ?_)
                    rw [show (ez_I h2 71 56).toInt.toNat = c by omega] at k410 k411
                    have A413 : teI (ez_I h407 117) (ez_I h407 118) (rowF (nL (ez_I h 100)) (nL (ez_I h 101))) (rowM (nL (ez_I h 100)) (nL (ez_I h 101))) (c + 1) := teI_s A_te (congrArg Int32.toInt k410.1) (congrArg Int32.toInt k411.1) k410.2 k411.2 (by rw [htS]; omega) (by rw [htX]; omega) rfl
                    have A414 : ctI (ez_I h407 99) (tC (rowF (nL (ez_I h 100)) (nL (ez_I h 101))) (rowM (nL (ez_I h 100)) (nL (ez_I h 101))) (c + 1)) 19 := ctI_upE A_tc (by rw [htS]; exact k412) (tC_y _ _ _) (fun q hq => tC_n hq)
                    have S415 := zW_sh F408 S2
                    have F416 := zW_tr F (zW_mono F408 (x64_0) (x64_1) (x64_2))
                    have r417 := z_rng (ez_I h407 71 56)
                    have f418 : ez_I h407 71 57 = (ez_I h2 71 57) := (zW_f F408 (by decide) (by decide)).trans (rfl)
                    have f419 : ez_I h407 71 58 = (ez_I h2 71 58) := (zW_f F408 (by decide) (by decide)).trans (rfl)
                    have A420 : cpN (ez_I h407 119) (rowF (nL (ez_I h 100)) (nL (ez_I h 101))) (rowM (nL (ez_I h 100)) (nL (ez_I h 101))) := by rw [zW_fn F408 119 (by decide) (x64_3)]; exact A_ro
                    refine z_inc rfl (by rw [show (1 : Int32).toInt = 1 from rfl]; omega) (fun x421 ex421 => ?_)
                    rw [show (1 : Int32).toInt = 1 from rfl] at ex421
                    show ez_gw _ _ _ _ _ _ _ _ [some (.ref 71), some (.int al), some (.int x421), some (.int v), some (.int n)] _ _ _
                    refine z_go ?_
                    have t422 := congrArg Int32.toInt (f418)
                    have t423 := congrArg Int32.toInt (f419)
                    exact ih.1 h407 al x421 (some (.int v)) (some (.int n)) (c + 1) F416 (by rw [htp]; omega) A420 (A413) (A414) ((ltT_s A_lt (by omega) rfl)) (by omega)
                  · have c405 : ¬ (n.toInt ≤ x404.toInt) := c405
                    exfalso; omega
            · have c362 : ¬ (n.toInt ≤ x361.toInt) := c362
              refine gw_ld rfl rfl ?_
              refine z_C (m := 138) rfl rfl (fun x424 ex424 => ?_)
              refine z_b2 (fun c425 => ?_) (fun c425 => ?_)
              · have c425 : n.toInt ≤ x424.toInt := c425
                refine gw_skip _ ?_
                refine gw_ld rfl rfl ?_
                refine gw_st rfl rfl rfl ?_
                show ez_gw _ _ _ _ _ _ _ _ [some (.ref 71), some (.int al), some (.int k), some (.int v), some (.int n)] _ _ _
                refine gw_ld rfl rfl ?_
                refine gw_ld rfl rfl ?_
                refine z_C (m := 10) rfl rfl (fun x426 ex426 => ?_)
                refine z_b2 (fun c427 => ?_) (fun c427 => ?_)
                · have c427 : n.toInt ≤ x426.toInt := c427
                  refine gw_skip _ ?_
                  refine z_C (m := 17) rfl rfl (fun x428 ex428 => ?_)
                  refine gw_ld rfl rfl ?_
                  refine z_C (m := 10) rfl rfl (fun x429 ex429 => ?_)
                  refine z_b2 (fun c430 => ?_) (fun c430 => ?_)
                  · have c430 : n.toInt ≤ x429.toInt := c430
                    refine gw_skip _ ?_
                    refine gw_ld rfl rfl ?_
                    refine z_C (m := 3) rfl rfl (fun x431 ex431 => ?_)
                    refine z_sub (by omega) (fun x432 ex432 => ?_)
                    refine z_cl rfl rfl rfl rfl rfl rfl rfl rfl rfl rfl rfl (zT S2 (by decide) rfl) ?_
                    have htk : tk (rowF (nL (ez_I h 100)) (nL (ez_I h 101))) (rowM (nL (ez_I h 100)) (nL (ez_I h 101))) k.toInt.toNat = (x428.toInt.toNat, x432.toInt.toNat, n.toInt.toNat) := by rw [tk_n (f := (rowF (nL (ez_I h 100)) (nL (ez_I h 101)))) (N := (rowM (nL (ez_I h 100)) (nL (ez_I h 101)))) (a := k.toInt.toNat) (n := n.toInt.toNat) (m := 400) (by omega) (by omega) hrn, if_pos ⟨by omega, by omega⟩]; first | (rw [if_pos (by omega)]; exact p3_eq (by omega) (by omega) (by omega)) | (rw [if_neg (by omega)]; exact p3_eq (by omega) (by omega) (by omega))
                    have hko := tk_ok (f := (rowF (nL (ez_I h 100)) (nL (ez_I h 101)))) (N := (rowM (nL (ez_I h 100)) (nL (ez_I h 101)))) (a := k.toInt.toNat) (by omega) hf15
                    rw [htk] at hko
                    have hko2 : x428.toInt.toNat ≤ 18 ∧ 1 ≤ n.toInt.toNat ∧ k.toInt.toNat + n.toInt.toNat ≤ (rowM (nL (ez_I h 100)) (nL (ez_I h 101))) := ⟨hko.1, hko.2.1, hko.2.2.1⟩
                    have htS : tS (rowF (nL (ez_I h 100)) (nL (ez_I h 101))) (rowM (nL (ez_I h 100)) (nL (ez_I h 101))) c = x428.toInt.toNat := by unfold tS; rw [show tp (rowF (nL (ez_I h 100)) (nL (ez_I h 101))) (rowM (nL (ez_I h 100)) (nL (ez_I h 101))) c = k.toInt.toNat by omega, htk]
                    have htX : tX (rowF (nL (ez_I h 100)) (nL (ez_I h 101))) (rowM (nL (ez_I h 100)) (nL (ez_I h 101))) c = x432.toInt.toNat := by unfold tX; rw [show tp (rowF (nL (ez_I h 100)) (nL (ez_I h 101))) (rowM (nL (ez_I h 100)) (nL (ez_I h 101))) c = k.toInt.toNat by omega, htk]
                    have htp : tp (rowF (nL (ez_I h 100)) (nL (ez_I h 101))) (rowM (nL (ez_I h 100)) (nL (ez_I h 101))) (c + 1) = tp (rowF (nL (ez_I h 100)) (nL (ez_I h 101))) (rowM (nL (ez_I h 100)) (nL (ez_I h 101))) c + n.toInt.toNat := by show tp (rowF (nL (ez_I h 100)) (nL (ez_I h 101))) (rowM (nL (ez_I h 100)) (nL (ez_I h 101))) c + (tk (rowF (nL (ez_I h 100)) (nL (ez_I h 101))) (rowM (nL (ez_I h 100)) (nL (ez_I h 101))) (tp (rowF (nL (ez_I h 100)) (nL (ez_I h 101))) (rowM (nL (ez_I h 100)) (nL (ez_I h 101))) c)).2.2 = _; rw [show tp (rowF (nL (ez_I h 100)) (nL (ez_I h 101))) (rowM (nL (ez_I h 100)) (nL (ez_I h 101))) c = k.toInt.toNat by omega, htk]
                    refine d_tr (a := x428) (b := x432) S2 (by omega) (by omega) (ctI_aR A_tc (fun z => by have := tC_le (rowF (nL (ez_I h 100)) (nL (ez_I h 101))) (rowM (nL (ez_I h 100)) (nL (ez_I h 101))) c z; omega)) (fun h433 F434 k435 k436 k437 k438 => ?_)
                    rw [show (ez_I h2 71 56).toInt.toNat = c by omega] at k436 k437
                    have A439 : teI (ez_I h433 117) (ez_I h433 118) (rowF (nL (ez_I h 100)) (nL (ez_I h 101))) (rowM (nL (ez_I h 100)) (nL (ez_I h 101))) (c + 1) := teI_s A_te (congrArg Int32.toInt k436.1) (congrArg Int32.toInt k437.1) k436.2 k437.2 (by rw [htS]; omega) (by rw [htX]; omega) rfl
                    have A440 : ctI (ez_I h433 99) (tC (rowF (nL (ez_I h 100)) (nL (ez_I h 101))) (rowM (nL (ez_I h 100)) (nL (ez_I h 101))) (c + 1)) 19 := ctI_upE A_tc (by rw [htS]; exact k438) (tC_y _ _ _) (fun q hq => tC_n hq)
                    have S441 := zW_sh F434 S2
                    have F442 := zW_tr F (zW_mono F434 (x64_0) (x64_1) (x64_2))
                    have r443 := z_rng (ez_I h433 71 56)
                    have f444 : ez_I h433 71 57 = (ez_I h2 71 57) := (zW_f F434 (by decide) (by decide)).trans (rfl)
                    have f445 : ez_I h433 71 58 = (ez_I h2 71 58) := (zW_f F434 (by decide) (by decide)).trans (rfl)
                    have A446 : cpN (ez_I h433 119) (rowF (nL (ez_I h 100)) (nL (ez_I h 101))) (rowM (nL (ez_I h 100)) (nL (ez_I h 101))) := by rw [zW_fn F434 119 (by decide) (x64_3)]; exact A_ro
                    refine gw_ld rfl rfl ?_
                    refine gw_ld rfl rfl ?_
                    refine z_add (by omega) (fun x447 ex447 => ?_)
                    refine gw_st rfl rfl rfl ?_
                    show ez_gw _ _ _ _ _ _ _ _ [some (.ref 71), some (.int al), some (.int x447), some (.int v), some (.int n)] _ _ _
                    refine z_go ?_
                    refine gw_skip _ ?_
                    refine z_go ?_
                    have t448 := congrArg Int32.toInt (f444)
                    have t449 := congrArg Int32.toInt (f445)
                    exact ih.1 h433 al x447 (some (.int v)) (some (.int n)) (c + 1) F442 (by rw [htp]; omega) A446 (A439) (A440) ((ltT_s A_lt (by omega) rfl)) (by omega)
                  · have c430 : ¬ (n.toInt ≤ x429.toInt) := c430
                    exfalso; omega
                · have c427 : ¬ (n.toInt ≤ x426.toInt) := c427
                  refine z_C (m := 18) rfl rfl (fun x450 ex450 => ?_)
                  refine z_go ?_
                  refine gw_skip _ ?_
                  refine gw_ld rfl rfl ?_
                  refine z_C (m := 10) rfl rfl (fun x451 ex451 => ?_)
                  refine z_b2 (fun c452 => ?_) (fun c452 => ?_)
                  · have c452 : n.toInt ≤ x451.toInt := c452
                    exfalso; omega
                  · have c452 : ¬ (n.toInt ≤ x451.toInt) := c452
                    refine gw_ld rfl rfl ?_
                    refine z_C (m := 11) rfl rfl (fun x453 ex453 => ?_)
                    refine z_sub (by omega) (fun x454 ex454 => ?_)
                    refine z_go ?_
                    refine gw_skip _ ?_
                    refine z_cl rfl rfl rfl rfl rfl rfl rfl rfl rfl rfl rfl (zT S2 (by decide) rfl) ?_
                    have htk : tk (rowF (nL (ez_I h 100)) (nL (ez_I h 101))) (rowM (nL (ez_I h 100)) (nL (ez_I h 101))) k.toInt.toNat = (x450.toInt.toNat, x454.toInt.toNat, n.toInt.toNat) := by rw [tk_n (f := (rowF (nL (ez_I h 100)) (nL (ez_I h 101)))) (N := (rowM (nL (ez_I h 100)) (nL (ez_I h 101)))) (a := k.toInt.toNat) (n := n.toInt.toNat) (m := 400) (by omega) (by omega) hrn, if_pos ⟨by omega, by omega⟩]; first | (rw [if_pos (by omega)]; exact p3_eq (by omega) (by omega) (by omega)) | (rw [if_neg (by omega)]; exact p3_eq (by omega) (by omega) (by omega))
                    have hko := tk_ok (f := (rowF (nL (ez_I h 100)) (nL (ez_I h 101)))) (N := (rowM (nL (ez_I h 100)) (nL (ez_I h 101)))) (a := k.toInt.toNat) (by omega) hf15
                    rw [htk] at hko
                    have hko2 : x450.toInt.toNat ≤ 18 ∧ 1 ≤ n.toInt.toNat ∧ k.toInt.toNat + n.toInt.toNat ≤ (rowM (nL (ez_I h 100)) (nL (ez_I h 101))) := ⟨hko.1, hko.2.1, hko.2.2.1⟩
                    have htS : tS (rowF (nL (ez_I h 100)) (nL (ez_I h 101))) (rowM (nL (ez_I h 100)) (nL (ez_I h 101))) c = x450.toInt.toNat := by unfold tS; rw [show tp (rowF (nL (ez_I h 100)) (nL (ez_I h 101))) (rowM (nL (ez_I h 100)) (nL (ez_I h 101))) c = k.toInt.toNat by omega, htk]
                    have htX : tX (rowF (nL (ez_I h 100)) (nL (ez_I h 101))) (rowM (nL (ez_I h 100)) (nL (ez_I h 101))) c = x454.toInt.toNat := by unfold tX; rw [show tp (rowF (nL (ez_I h 100)) (nL (ez_I h 101))) (rowM (nL (ez_I h 100)) (nL (ez_I h 101))) c = k.toInt.toNat by omega, htk]
                    have htp : tp (rowF (nL (ez_I h 100)) (nL (ez_I h 101))) (rowM (nL (ez_I h 100)) (nL (ez_I h 101))) (c + 1) = tp (rowF (nL (ez_I h 100)) (nL (ez_I h 101))) (rowM (nL (ez_I h 100)) (nL (ez_I h 101))) c + n.toInt.toNat := by show tp (rowF (nL (ez_I h 100)) (nL (ez_I h 101))) (rowM (nL (ez_I h 100)) (nL (ez_I h 101))) c + (tk (rowF (nL (ez_I h 100)) (nL (ez_I h 101))) (rowM (nL (ez_I h 100)) (nL (ez_I h 101))) (tp (rowF (nL (ez_I h 100)) (nL (ez_I h 101))) (rowM (nL (ez_I h 100)) (nL (ez_I h 101))) c)).2.2 = _; rw [show tp (rowF (nL (ez_I h 100)) (nL (ez_I h 101))) (rowM (nL (ez_I h 100)) (nL (ez_I h 101))) c = k.toInt.toNat by omega, htk]
                    refine d_tr (a := x450) (b := x454) S2 (by omega) (by omega) (ctI_aR A_tc (fun z => by have := tC_le (rowF (nL (ez_I h 100)) (nL (ez_I h 101))) (rowM (nL (ez_I h 100)) (nL (ez_I h 101))) c z; omega)) (fun h455 F456 k457 k458 k459 k460 => ?_)
                    rw [show (ez_I h2 71 56).toInt.toNat = c by omega] at k458 k459
                    have A461 : teI (ez_I h455 117) (ez_I h455 118) (rowF (nL (ez_I h 100)) (nL (ez_I h 101))) (rowM (nL (ez_I h 100)) (nL (ez_I h 101))) (c + 1) := teI_s A_te (congrArg Int32.toInt k458.1) (congrArg Int32.toInt k459.1) k458.2 k459.2 (by rw [htS]; omega) (by rw [htX]; omega) rfl
                    have A462 : ctI (ez_I h455 99) (tC (rowF (nL (ez_I h 100)) (nL (ez_I h 101))) (rowM (nL (ez_I h 100)) (nL (ez_I h 101))) (c + 1)) 19 := ctI_upE A_tc (by rw [htS]; exact k460) (tC_y _ _ _) (fun q hq => tC_n hq)
                    have S463 := zW_sh F456 S2
                    have F464 := zW_tr F (zW_mono F456 (x64_0) (x64_1) (x64_2))
                    have r465 := z_rng (ez_I h455 71 56)
                    have f466 : ez_I h455 71 57 = (ez_I h2 71 57) := (zW_f F456 (by decide) (by decide)).trans (rfl)
                    have f467 : ez_I h455 71 58 = (ez_I h2 71 58) := (zW_f F456 (by decide) (by decide)).trans (rfl)
                    have A468 : cpN (ez_I h455 119) (rowF (nL (ez_I h 100)) (nL (ez_I h 101))) (rowM (nL (ez_I h 100)) (nL (ez_I h 101))) := by rw [zW_fn F456 119 (by decide) (x64_3)]; exact A_ro
                    refine gw_ld rfl rfl ?_
                    refine gw_ld rfl rfl ?_
                    refine z_add (by omega) (fun x469 ex469 => ?_)
                    refine gw_st rfl rfl rfl ?_
                    show ez_gw _ _ _ _ _ _ _ _ [some (.ref 71), some (.int al), some (.int x469), some (.int v), some (.int n)] _ _ _
                    refine z_go ?_
                    refine gw_skip _ ?_
                    refine z_go ?_
                    have t470 := congrArg Int32.toInt (f466)
                    have t471 := congrArg Int32.toInt (f467)
                    exact ih.1 h455 al x469 (some (.int v)) (some (.int n)) (c + 1) F464 (by rw [htp]; omega) A468 (A461) (A462) ((ltT_s A_lt (by omega) rfl)) (by omega)
              · have c425 : ¬ (n.toInt ≤ x424.toInt) := c425
                refine z_C (m := 138) rfl rfl (fun x472 ex472 => ?_)
                refine z_go ?_
                refine gw_skip _ ?_
                refine gw_st rfl rfl rfl ?_
                show ez_gw _ _ _ _ _ _ _ _ [some (.ref 71), some (.int al), some (.int k), some (.int v), some (.int x472)] _ _ _
                refine gw_ld rfl rfl ?_
                refine gw_ld rfl rfl ?_
                refine z_C (m := 10) rfl rfl (fun x473 ex473 => ?_)
                refine z_b2 (fun c474 => ?_) (fun c474 => ?_)
                · have c474 : x472.toInt ≤ x473.toInt := c474
                  exfalso; omega
                · have c474 : ¬ (x472.toInt ≤ x473.toInt) := c474
                  refine z_C (m := 18) rfl rfl (fun x475 ex475 => ?_)
                  refine z_go ?_
                  refine gw_skip _ ?_
                  refine gw_ld rfl rfl ?_
                  refine z_C (m := 10) rfl rfl (fun x476 ex476 => ?_)
                  refine z_b2 (fun c477 => ?_) (fun c477 => ?_)
                  · have c477 : x472.toInt ≤ x476.toInt := c477
                    exfalso; omega
                  · have c477 : ¬ (x472.toInt ≤ x476.toInt) := c477
                    refine gw_ld rfl rfl ?_
                    refine z_C (m := 11) rfl rfl (fun x478 ex478 => ?_)
                    refine z_sub (by omega) (fun x479 ex479 => ?_)
                    refine z_go ?_
                    refine gw_skip _ ?_
                    refine z_cl rfl rfl rfl rfl rfl rfl rfl rfl rfl rfl rfl (zT S2 (by decide) rfl) ?_
                    have htk : tk (rowF (nL (ez_I h 100)) (nL (ez_I h 101))) (rowM (nL (ez_I h 100)) (nL (ez_I h 101))) k.toInt.toNat = (x475.toInt.toNat, x479.toInt.toNat, x472.toInt.toNat) := by rw [tk_n (f := (rowF (nL (ez_I h 100)) (nL (ez_I h 101)))) (N := (rowM (nL (ez_I h 100)) (nL (ez_I h 101)))) (a := k.toInt.toNat) (n := n.toInt.toNat) (m := 400) (by omega) (by omega) hrn, if_pos ⟨by omega, by omega⟩]; first | (rw [if_pos (by omega)]; exact p3_eq (by omega) (by omega) (by omega)) | (rw [if_neg (by omega)]; exact p3_eq (by omega) (by omega) (by omega))
                    have hko := tk_ok (f := (rowF (nL (ez_I h 100)) (nL (ez_I h 101)))) (N := (rowM (nL (ez_I h 100)) (nL (ez_I h 101)))) (a := k.toInt.toNat) (by omega) hf15
                    rw [htk] at hko
                    have hko2 : x475.toInt.toNat ≤ 18 ∧ 1 ≤ x472.toInt.toNat ∧ k.toInt.toNat + x472.toInt.toNat ≤ (rowM (nL (ez_I h 100)) (nL (ez_I h 101))) := ⟨hko.1, hko.2.1, hko.2.2.1⟩
                    have htS : tS (rowF (nL (ez_I h 100)) (nL (ez_I h 101))) (rowM (nL (ez_I h 100)) (nL (ez_I h 101))) c = x475.toInt.toNat := by unfold tS; rw [show tp (rowF (nL (ez_I h 100)) (nL (ez_I h 101))) (rowM (nL (ez_I h 100)) (nL (ez_I h 101))) c = k.toInt.toNat by omega, htk]
                    have htX : tX (rowF (nL (ez_I h 100)) (nL (ez_I h 101))) (rowM (nL (ez_I h 100)) (nL (ez_I h 101))) c = x479.toInt.toNat := by unfold tX; rw [show tp (rowF (nL (ez_I h 100)) (nL (ez_I h 101))) (rowM (nL (ez_I h 100)) (nL (ez_I h 101))) c = k.toInt.toNat by omega, htk]
                    have htp : tp (rowF (nL (ez_I h 100)) (nL (ez_I h 101))) (rowM (nL (ez_I h 100)) (nL (ez_I h 101))) (c + 1) = tp (rowF (nL (ez_I h 100)) (nL (ez_I h 101))) (rowM (nL (ez_I h 100)) (nL (ez_I h 101))) c + x472.toInt.toNat := by show tp (rowF (nL (ez_I h 100)) (nL (ez_I h 101))) (rowM (nL (ez_I h 100)) (nL (ez_I h 101))) c + (tk (rowF (nL (ez_I h 100)) (nL (ez_I h 101))) (rowM (nL (ez_I h 100)) (nL (ez_I h 101))) (tp (rowF (nL (ez_I h 100)) (nL (ez_I h 101))) (rowM (nL (ez_I h 100)) (nL (ez_I h 101))) c)).2.2 = _; rw [show tp (rowF (nL (ez_I h 100)) (nL (ez_I h 101))) (rowM (nL (ez_I h 100)) (nL (ez_I h 101))) c = k.toInt.toNat by omega, htk]
                    refine d_tr (a := x475) (b := x479) S2 (by omega) (by omega) (ctI_aR A_tc (fun z => by have := tC_le (rowF (nL (ez_I h 100)) (nL (ez_I h 101))) (rowM (nL (ez_I h 100)) (nL (ez_I h 101))) c z; omega)) (fun h480 F481 k482 k483 k484 k485 => ?_)
                    rw [show (ez_I h2 71 56).toInt.toNat = c by omega] at k483 k484
                    have A486 : teI (ez_I h480 117) (ez_I h480 118) (rowF (nL (ez_I h 100)) (nL (ez_I h 101))) (rowM (nL (ez_I h 100)) (nL (ez_I h 101))) (c + 1) := teI_s A_te (congrArg Int32.toInt k483.1) (congrArg Int32.toInt k484.1) k483.2 k484.2 (by rw [htS]; omega) (by rw [htX]; omega) rfl
                    have A487 : ctI (ez_I h480 99) (tC (rowF (nL (ez_I h 100)) (nL (ez_I h 101))) (rowM (nL (ez_I h 100)) (nL (ez_I h 101))) (c + 1)) 19 := ctI_upE A_tc (by rw [htS]; exact k485) (tC_y _ _ _) (fun q hq => tC_n hq)
                    have S488 := zW_sh F481 S2
                    have F489 := zW_tr F (zW_mono F481 (x64_0) (x64_1) (x64_2))
                    have r490 := z_rng (ez_I h480 71 56)
                    have f491 : ez_I h480 71 57 = (ez_I h2 71 57) := (zW_f F481 (by decide) (by decide)).trans (rfl)
                    have f492 : ez_I h480 71 58 = (ez_I h2 71 58) := (zW_f F481 (by decide) (by decide)).trans (rfl)
                    have A493 : cpN (ez_I h480 119) (rowF (nL (ez_I h 100)) (nL (ez_I h 101))) (rowM (nL (ez_I h 100)) (nL (ez_I h 101))) := by rw [zW_fn F481 119 (by decide) (x64_3)]; exact A_ro
                    refine gw_ld rfl rfl ?_
                    refine gw_ld rfl rfl ?_
                    refine z_add (by omega) (fun x494 ex494 => ?_)
                    refine gw_st rfl rfl rfl ?_
                    show ez_gw _ _ _ _ _ _ _ _ [some (.ref 71), some (.int al), some (.int x494), some (.int v), some (.int x472)] _ _ _
                    refine z_go ?_
                    refine gw_skip _ ?_
                    refine z_go ?_
                    have t495 := congrArg Int32.toInt (f491)
                    have t496 := congrArg Int32.toInt (f492)
                    exact ih.1 h480 al x494 (some (.int v)) (some (.int x472)) (c + 1) F489 (by rw [htp]; omega) A493 (A486) (A487) ((ltT_s A_lt (by omega) rfl)) (by omega)
        · have c255 : ¬ (x254.toInt ≠ v.toInt) := c255
          refine z_inc rfl (by rw [show (1 : Int32).toInt = 1 from rfl]; omega) (fun x497 ex497 => ?_)
          rw [show (1 : Int32).toInt = 1 from rfl] at ex497
          show ez_gw _ _ _ _ _ _ _ _ [some (.ref 71), some (.int al), some (.int k), some (.int v), some (.int x497)] _ _ _
          refine z_go ?_
          exact ih.2 h2 al k v x497 c F (by omega) A_ro A_te A_tc A_lt ((fun j hj => by by_cases q : j < n.toInt.toNat; exact A_eq j q; rw [show j = n.toInt.toNat by omega]; omega)) (by omega)
set_option maxRecDepth 4000 in
set_option maxHeartbeats 2000000 in
theorem d_tellL_L4 {E : Nat → Nat × (Nat → Int32)} {d : Nat} {Q : ez_Q} {h : ez_H}  (S : zSh h) (hL1 : aR (ez_I h 100) 286 0 15) (hL2 : aR (ez_I h 101) 30 0 15) (K : ∀ h2, zW (fun q k => q = 71 ∧ k = 56 ∨ q = 71 ∧ k = 57 ∨ q = 71 ∧ k = 58) (fun q => q = 99 ∨ q = 117 ∨ q = 118 ∨ q = 119) (fun _ => False) h h2 → ∀ c : Nat, (ez_I h2 71 56).toInt = c → (ez_I h2 71 57).toInt = ((tdM (nL (ez_I h 100)) 257 29) : Nat) → (ez_I h2 71 58).toInt = ((tdM (nL (ez_I h 101)) 1 29) : Nat) → tp (rowF (nL (ez_I h 100)) (nL (ez_I h 101))) (rowM (nL (ez_I h 100)) (nL (ez_I h 101))) c = (rowM (nL (ez_I h 100)) (nL (ez_I h 101))) → ltT (rowF (nL (ez_I h 100)) (nL (ez_I h 101))) (rowM (nL (ez_I h 100)) (nL (ez_I h 101))) c → teI (ez_I h2 117) (ez_I h2 118) (rowF (nL (ez_I h 100)) (nL (ez_I h 101))) (rowM (nL (ez_I h 100)) (nL (ez_I h 101))) c → ctI (ez_I h2 99) (tC (rowF (nL (ez_I h 100)) (nL (ez_I h 101))) (rowM (nL (ez_I h 100)) (nL (ez_I h 101))) c) 19 → c ≤ 316 → Q (.inl none) h2) : ∀ N : Nat, (∀ (h2 : ez_H) (k : Int32) (l2 : Option Value) (l3 : Option Value) (l4 : Option Value) , zW (fun q k => q = 71 ∧ k = 56 ∨ q = 71 ∧ k = 57 ∨ q = 71 ∧ k = 58) (fun q => q = 99 ∨ q = 117 ∨ q = 118 ∨ q = 119) (fun _ => False) h h2 → (0 ≤ k.toInt ∧ k.toInt ≤ 19 ∧ (ez_I h2 71 57).toInt = ((tdM (nL (ez_I h 100)) 257 29) : Nat) ∧ (ez_I h2 71 58).toInt = ((tdM (nL (ez_I h 101)) 1 29) : Nat)) → (cpN (ez_I h2 119) (rowF (nL (ez_I h 100)) (nL (ez_I h 101))) (rowM (nL (ez_I h 100)) (nL (ez_I h 101)))) → (∀ j, j < k.toInt.toNat → (ez_I h2 99 j).toInt = 0) → (1000 - k.toInt) < (N : Int) → pw E (d + 1) 42 152 [some (.ref 71), some (.int k), l2, l3, l4] [] h2 Q) := by
  intro N
  induction N with
  | zero => exact fun h2 k l2 l3 l4  F hinv A_ro A_z0 hm => absurd hm (by have w_k := z_rng k; have hnl := tdM_rng (nL (ez_I h 100)) 257 29; have hnd := tdM_rng (nL (ez_I h 101)) 1 29; have hrm : (rowM (nL (ez_I h 100)) (nL (ez_I h 101))) = (tdM (nL (ez_I h 100)) 257 29) + (tdM (nL (ez_I h 101)) 1 29) := rfl; have hf15 : ∀ j, j < (rowM (nL (ez_I h 100)) (nL (ez_I h 101))) → (rowF (nL (ez_I h 100)) (nL (ez_I h 101))) j ≤ 15 := row15b (fun k hk => by have := hL1 k (by omega); show (ez_I h 100 k).toInt.toNat ≤ 15; omega) (fun k hk => by have := hL2 k (by omega); show (ez_I h 101 k).toInt.toNat ≤ 15; omega); omega)
  | succ N ih =>
    refine fun h2 k l2 l3 l4  F hinv A_ro A_z0 hm => ?_
    · skip
      have w_k := z_rng k
      have hnl := tdM_rng (nL (ez_I h 100)) 257 29
      have hnd := tdM_rng (nL (ez_I h 101)) 1 29
      have hrm : (rowM (nL (ez_I h 100)) (nL (ez_I h 101))) = (tdM (nL (ez_I h 100)) 257 29) + (tdM (nL (ez_I h 101)) 1 29) := rfl
      have hf15 : ∀ j, j < (rowM (nL (ez_I h 100)) (nL (ez_I h 101))) → (rowF (nL (ez_I h 100)) (nL (ez_I h 101))) j ≤ 15 := row15b (fun k hk => by have := hL1 k (by omega); show (ez_I h 100 k).toInt.toNat ≤ 15; omega) (fun k hk => by have := hL2 k (by omega); show (ez_I h 101 k).toInt.toNat ≤ 15; omega)
      have S2 := zW_sh F S
      apply ez_Wp_in
      show ez_gw _ _ _ _ _ _ (cz_42) _ _ _ _ _
      refine gw_skip _ ?_
      have r1 := z_rng (ez_I h2 71 56)
      have r2 := z_rng (ez_I h2 71 57)
      have r3 := z_rng (ez_I h2 71 58)
      refine gw_ld rfl rfl ?_
      refine z_C (m := 19) rfl rfl (fun x4 ex4 => ?_)
      refine z_b2 (fun c5 => ?_) (fun c5 => ?_)
      · have c5 : x4.toInt ≤ k.toInt := c5
        refine gw_skip _ ?_
        refine gw_ld rfl rfl ?_
        refine z_C (m := 0) rfl rfl (fun x6 ex6 => ?_)
        refine z_pI (zT S2 (by decide) rfl) (fun h7 e8 => ?_)
        have S9 := zSh_set S2 e8
        have F10 := zW_setF F e8 (by decide)
        have f11 : ez_I h7 71 56 = x6 := zI_eq e8
        have f12 : ez_I h7 71 57 = (ez_I h2 71 57) := (zI_ne e8 (by decide)).trans (rfl)
        have f13 : ez_I h7 71 58 = (ez_I h2 71 58) := (zI_ne e8 (by decide)).trans (rfl)
        have A14 : cpN (ez_I h7 119) (rowF (nL (ez_I h 100)) (nL (ez_I h 101))) (rowM (nL (ez_I h 100)) (nL (ez_I h 101))) := by rw [zI_fn e8 119 (by decide)]; exact A_ro
        have A15 : ∀ j, j < k.toInt.toNat → (ez_I h7 99 j).toInt = 0 := by rw [zI_fn e8 99 (by decide)]; exact A_z0
        refine gw_ld rfl rfl ?_
        refine z_gI2 (by decide) (zT S9 (by decide) rfl) (f12) ?_
        refine gw_ld rfl rfl ?_
        refine z_gI2 (by decide) (zT S9 (by decide) rfl) (f13) ?_
        refine z_add (by omega) (fun x16 ex16 => ?_)
        refine gw_st rfl rfl rfl ?_
        show ez_gw _ _ _ _ _ _ _ _ [some (.ref 71), some (.int x16), l2, l3, l4] _ _ _
        refine z_C (m := 0) rfl rfl (fun x17 ex17 => ?_)
        refine gw_st rfl rfl rfl ?_
        show ez_gw _ _ _ _ _ _ _ _ [some (.ref 71), some (.int x16), some (.int x17), l3, l4] _ _ _
        have t18 := congrArg Int32.toInt (f11)
        have t19 := congrArg Int32.toInt (f12)
        have t20 := congrArg Int32.toInt (f13)
        exact ez_Wp_at ((d_tellL_L5  S hL1 hL2 K (((1000 * (400 - x17.toInt))).toNat + 1)).1 h7 x16 x17 (l3) (l4) 0 F10 (⟨by omega, by omega, by show x17.toInt = ((0 : Nat) : Int); omega, by omega, by omega, by omega, by omega⟩) A14 ((teI_0 _ _ _ _)) ((fun j hj => by rw [A15 j (by omega)]; rfl)) ((ltT_0 _ _)) (by omega)) rfl
      · have c5 : ¬ (x4.toInt ≤ k.toInt) := c5
        refine gw_ld rfl rfl ?_
        refine z_gR (q := 99) (zT S2 (by decide) rfl) (zRf S2 (by decide) (by decide) rfl) (by decide) ?_
        refine gw_ld rfl rfl ?_
        refine z_C (m := 0) rfl rfl (fun x21 ex21 => ?_)
        refine z_is (n := 19) (zT S2 (by decide) rfl) (zN S2 (by decide) rfl) (by omega) (fun h22 e23 => ?_)
        have S24 := zSh_set S2 e23
        have F25 := zW_setA F e23 (by decide)
        have f26 : ez_I h22 71 56 = (ez_I h2 71 56) := (zI_ne e23 (by omega)).trans (rfl)
        have f27 : ez_I h22 71 57 = (ez_I h2 71 57) := (zI_ne e23 (by omega)).trans (rfl)
        have f28 : ez_I h22 71 58 = (ez_I h2 71 58) := (zI_ne e23 (by omega)).trans (rfl)
        have A29 : cpN (ez_I h22 119) (rowF (nL (ez_I h 100)) (nL (ez_I h 101))) (rowM (nL (ez_I h 100)) (nL (ez_I h 101))) := by rw [zI_fn e23 119 (by decide)]; exact A_ro
        have A30 : ∀ j, j < k.toInt.toNat + 1 → (ez_I h22 99 j).toInt = 0 := z0_s A_z0 e23 (by omega) (by omega) rfl
        refine z_inc rfl (by rw [show (1 : Int32).toInt = 1 from rfl]; omega) (fun x31 ex31 => ?_)
        rw [show (1 : Int32).toInt = 1 from rfl] at ex31
        show ez_gw _ _ _ _ _ _ _ _ [some (.ref 71), some (.int x31), l2, l3, l4] _ _ _
        refine z_go ?_
        have t32 := congrArg Int32.toInt (f26)
        have t33 := congrArg Int32.toInt (f27)
        have t34 := congrArg Int32.toInt (f28)
        exact ih h22 x31 (l2) (l3) (l4) F25 (by omega) (A29) ((by rw [show x31.toInt.toNat = k.toInt.toNat + 1 by omega]; exact A30)) (by omega)
theorem x64_4 : ∀ k : Nat, ¬ (101 = 71 ∧ k = 56 ∨ 101 = 71 ∧ k = 57 ∨ 101 = 71 ∧ k = 58) := fun k c => by omega
set_option maxRecDepth 4000 in
set_option maxHeartbeats 2000000 in
theorem d_tellL_L3 {E : Nat → Nat × (Nat → Int32)} {d : Nat} {Q : ez_Q} {h : ez_H}  (S : zSh h) (hL1 : aR (ez_I h 100) 286 0 15) (hL2 : aR (ez_I h 101) 30 0 15) (K : ∀ h2, zW (fun q k => q = 71 ∧ k = 56 ∨ q = 71 ∧ k = 57 ∨ q = 71 ∧ k = 58) (fun q => q = 99 ∨ q = 117 ∨ q = 118 ∨ q = 119) (fun _ => False) h h2 → ∀ c : Nat, (ez_I h2 71 56).toInt = c → (ez_I h2 71 57).toInt = ((tdM (nL (ez_I h 100)) 257 29) : Nat) → (ez_I h2 71 58).toInt = ((tdM (nL (ez_I h 101)) 1 29) : Nat) → tp (rowF (nL (ez_I h 100)) (nL (ez_I h 101))) (rowM (nL (ez_I h 100)) (nL (ez_I h 101))) c = (rowM (nL (ez_I h 100)) (nL (ez_I h 101))) → ltT (rowF (nL (ez_I h 100)) (nL (ez_I h 101))) (rowM (nL (ez_I h 100)) (nL (ez_I h 101))) c → teI (ez_I h2 117) (ez_I h2 118) (rowF (nL (ez_I h 100)) (nL (ez_I h 101))) (rowM (nL (ez_I h 100)) (nL (ez_I h 101))) c → ctI (ez_I h2 99) (tC (rowF (nL (ez_I h 100)) (nL (ez_I h 101))) (rowM (nL (ez_I h 100)) (nL (ez_I h 101))) c) 19 → c ≤ 316 → Q (.inl none) h2) : ∀ N : Nat, (∀ (h2 : ez_H) (k : Int32) (l2 : Option Value) (l3 : Option Value) (l4 : Option Value) , zW (fun q k => q = 71 ∧ k = 56 ∨ q = 71 ∧ k = 57 ∨ q = 71 ∧ k = 58) (fun q => q = 99 ∨ q = 117 ∨ q = 118 ∨ q = 119) (fun _ => False) h h2 → (0 ≤ k.toInt ∧ k.toInt ≤ (tdM (nL (ez_I h 101)) 1 29) ∧ (ez_I h2 71 57).toInt = ((tdM (nL (ez_I h 100)) 257 29) : Nat) ∧ (ez_I h2 71 58).toInt = ((tdM (nL (ez_I h 101)) 1 29) : Nat)) → (cpN (ez_I h2 119) (rowF (nL (ez_I h 100)) (nL (ez_I h 101))) ((tdM (nL (ez_I h 100)) 257 29) + k.toInt.toNat)) → (1000 - k.toInt) < (N : Int) → pw E (d + 1) 42 119 [some (.ref 71), some (.int k), l2, l3, l4] [] h2 Q) := by
  intro N
  induction N with
  | zero => exact fun h2 k l2 l3 l4  F hinv A_ro hm => absurd hm (by have w_k := z_rng k; have hnl := tdM_rng (nL (ez_I h 100)) 257 29; have hnd := tdM_rng (nL (ez_I h 101)) 1 29; have hrm : (rowM (nL (ez_I h 100)) (nL (ez_I h 101))) = (tdM (nL (ez_I h 100)) 257 29) + (tdM (nL (ez_I h 101)) 1 29) := rfl; have hf15 : ∀ j, j < (rowM (nL (ez_I h 100)) (nL (ez_I h 101))) → (rowF (nL (ez_I h 100)) (nL (ez_I h 101))) j ≤ 15 := row15b (fun k hk => by have := hL1 k (by omega); show (ez_I h 100 k).toInt.toNat ≤ 15; omega) (fun k hk => by have := hL2 k (by omega); show (ez_I h 101 k).toInt.toNat ≤ 15; omega); omega)
  | succ N ih =>
    refine fun h2 k l2 l3 l4  F hinv A_ro hm => ?_
    · skip
      have w_k := z_rng k
      have hnl := tdM_rng (nL (ez_I h 100)) 257 29
      have hnd := tdM_rng (nL (ez_I h 101)) 1 29
      have hrm : (rowM (nL (ez_I h 100)) (nL (ez_I h 101))) = (tdM (nL (ez_I h 100)) 257 29) + (tdM (nL (ez_I h 101)) 1 29) := rfl
      have hf15 : ∀ j, j < (rowM (nL (ez_I h 100)) (nL (ez_I h 101))) → (rowF (nL (ez_I h 100)) (nL (ez_I h 101))) j ≤ 15 := row15b (fun k hk => by have := hL1 k (by omega); show (ez_I h 100 k).toInt.toNat ≤ 15; omega) (fun k hk => by have := hL2 k (by omega); show (ez_I h 101 k).toInt.toNat ≤ 15; omega)
      have S2 := zW_sh F S
      apply ez_Wp_in
      show ez_gw _ _ _ _ _ _ (cz_42) _ _ _ _ _
      refine gw_skip _ ?_
      have r1 := z_rng (ez_I h2 71 56)
      have r2 := z_rng (ez_I h2 71 57)
      have r3 := z_rng (ez_I h2 71 58)
      refine gw_ld rfl rfl ?_
      refine gw_ld rfl rfl ?_
      refine z_gI2 (by decide) (zT S2 (by decide) rfl) (rfl) ?_
      refine z_b2 (fun c4 => ?_) (fun c4 => ?_)
      · have c4 : ((ez_I h2 71 58)).toInt ≤ k.toInt := c4
        refine gw_skip _ ?_
        refine z_C (m := 0) rfl rfl (fun x5 ex5 => ?_)
        refine gw_st rfl rfl rfl ?_
        show ez_gw _ _ _ _ _ _ _ _ [some (.ref 71), some (.int x5), l2, l3, l4] _ _ _
        exact ez_Wp_at ((d_tellL_L4  S hL1 hL2 K (((1000 - x5.toInt)).toNat + 1)) h2 x5 (l2) (l3) (l4) F (by omega) ((by rw [show (rowM (nL (ez_I h 100)) (nL (ez_I h 101))) = (tdM (nL (ez_I h 100)) 257 29) + k.toInt.toNat by omega]; exact A_ro)) ((fun j hj => by omega)) (by omega)) rfl
      · have c4 : ¬ (((ez_I h2 71 58)).toInt ≤ k.toInt) := c4
        refine gw_ld rfl rfl ?_
        refine z_gR (q := 119) (zT S2 (by decide) rfl) (zRf S2 (by decide) (by decide) rfl) (by decide) ?_
        refine gw_ld rfl rfl ?_
        refine z_gI2 (by decide) (zT S2 (by decide) rfl) (rfl) ?_
        refine gw_ld rfl rfl ?_
        refine z_add (by omega) (fun x6 ex6 => ?_)
        refine gw_ld rfl rfl ?_
        refine z_gR (q := 101) (zT S2 (by decide) rfl) (zRf S2 (by decide) (by decide) rfl) (by decide) ?_
        refine gw_ld rfl rfl ?_
        refine z_iaV (n := 30) (zT S2 (by decide) rfl) (zN S2 (by decide) rfl) (by omega) (zW_f F (by decide) (x64_4 _)) ?_
        generalize ex7 : ez_I h 101 k.toInt.toNat = x7
        have rx7 := z_rng x7
        have yx7 := hL2 k.toInt.toNat (by omega)
        rw [ex7] at yx7
        have ylx7 : (nL (ez_I h 101)) k.toInt.toNat = x7.toInt.toNat := by show (ez_I h 101 k.toInt.toNat).toInt.toNat = _; rw [show k.toInt.toNat = k.toInt.toNat by omega, ex7]
        refine z_is (n := 330) (zT S2 (by decide) rfl) (zN S2 (by decide) rfl) (by omega) (fun h8 e9 => ?_)
        have S10 := zSh_set S2 e9
        have F11 := zW_setA F e9 (by decide)
        have f12 : ez_I h8 71 56 = (ez_I h2 71 56) := (zI_ne e9 (by omega)).trans (rfl)
        have f13 : ez_I h8 71 57 = (ez_I h2 71 57) := (zI_ne e9 (by omega)).trans (rfl)
        have f14 : ez_I h8 71 58 = (ez_I h2 71 58) := (zI_ne e9 (by omega)).trans (rfl)
        have A15 : cpN (ez_I h8 119) (rowF (nL (ez_I h 100)) (nL (ez_I h 101))) ((tdM (nL (ez_I h 100)) 257 29) + k.toInt.toNat + 1) := cpN_s A_ro e9 (by omega) (by show _ = ((if (tdM (nL (ez_I h 100)) 257 29) + k.toInt.toNat < (tdM (nL (ez_I h 100)) 257 29) then _ else (nL (ez_I h 101)) ((tdM (nL (ez_I h 100)) 257 29) + k.toInt.toNat - (tdM (nL (ez_I h 100)) 257 29)) : Nat) : Int); rw [if_neg (by omega), show (tdM (nL (ez_I h 100)) 257 29) + k.toInt.toNat - (tdM (nL (ez_I h 100)) 257 29) = k.toInt.toNat by omega]; omega) rfl
        refine z_inc rfl (by rw [show (1 : Int32).toInt = 1 from rfl]; omega) (fun x16 ex16 => ?_)
        rw [show (1 : Int32).toInt = 1 from rfl] at ex16
        show ez_gw _ _ _ _ _ _ _ _ [some (.ref 71), some (.int x16), l2, l3, l4] _ _ _
        refine z_go ?_
        have t17 := congrArg Int32.toInt (f12)
        have t18 := congrArg Int32.toInt (f13)
        have t19 := congrArg Int32.toInt (f14)
        exact ih h8 x16 (l2) (l3) (l4) F11 (by omega) ((by rw [show (tdM (nL (ez_I h 100)) 257 29) + x16.toInt.toNat = (tdM (nL (ez_I h 100)) 257 29) + k.toInt.toNat + 1 by omega]; exact A15)) (by omega)
theorem x64_5 : ∀ k : Nat, ¬ (100 = 71 ∧ k = 56 ∨ 100 = 71 ∧ k = 57 ∨ 100 = 71 ∧ k = 58) := fun k c => by omega
set_option maxRecDepth 4000 in
set_option maxHeartbeats 2000000 in
theorem d_tellL_L2 {E : Nat → Nat × (Nat → Int32)} {d : Nat} {Q : ez_Q} {h : ez_H}  (S : zSh h) (hL1 : aR (ez_I h 100) 286 0 15) (hL2 : aR (ez_I h 101) 30 0 15) (K : ∀ h2, zW (fun q k => q = 71 ∧ k = 56 ∨ q = 71 ∧ k = 57 ∨ q = 71 ∧ k = 58) (fun q => q = 99 ∨ q = 117 ∨ q = 118 ∨ q = 119) (fun _ => False) h h2 → ∀ c : Nat, (ez_I h2 71 56).toInt = c → (ez_I h2 71 57).toInt = ((tdM (nL (ez_I h 100)) 257 29) : Nat) → (ez_I h2 71 58).toInt = ((tdM (nL (ez_I h 101)) 1 29) : Nat) → tp (rowF (nL (ez_I h 100)) (nL (ez_I h 101))) (rowM (nL (ez_I h 100)) (nL (ez_I h 101))) c = (rowM (nL (ez_I h 100)) (nL (ez_I h 101))) → ltT (rowF (nL (ez_I h 100)) (nL (ez_I h 101))) (rowM (nL (ez_I h 100)) (nL (ez_I h 101))) c → teI (ez_I h2 117) (ez_I h2 118) (rowF (nL (ez_I h 100)) (nL (ez_I h 101))) (rowM (nL (ez_I h 100)) (nL (ez_I h 101))) c → ctI (ez_I h2 99) (tC (rowF (nL (ez_I h 100)) (nL (ez_I h 101))) (rowM (nL (ez_I h 100)) (nL (ez_I h 101))) c) 19 → c ≤ 316 → Q (.inl none) h2) : ∀ N : Nat, (∀ (h2 : ez_H) (k : Int32) (l2 : Option Value) (l3 : Option Value) (l4 : Option Value) , zW (fun q k => q = 71 ∧ k = 56 ∨ q = 71 ∧ k = 57 ∨ q = 71 ∧ k = 58) (fun q => q = 99 ∨ q = 117 ∨ q = 118 ∨ q = 119) (fun _ => False) h h2 → (0 ≤ k.toInt ∧ k.toInt ≤ (tdM (nL (ez_I h 100)) 257 29) ∧ (ez_I h2 71 57).toInt = ((tdM (nL (ez_I h 100)) 257 29) : Nat) ∧ (ez_I h2 71 58).toInt = ((tdM (nL (ez_I h 101)) 1 29) : Nat)) → (cpN (ez_I h2 119) (rowF (nL (ez_I h 100)) (nL (ez_I h 101))) k.toInt.toNat) → (1000 - k.toInt) < (N : Int) → pw E (d + 1) 42 91 [some (.ref 71), some (.int k), l2, l3, l4] [] h2 Q) := by
  intro N
  induction N with
  | zero => exact fun h2 k l2 l3 l4  F hinv A_ro hm => absurd hm (by have w_k := z_rng k; have hnl := tdM_rng (nL (ez_I h 100)) 257 29; have hnd := tdM_rng (nL (ez_I h 101)) 1 29; have hrm : (rowM (nL (ez_I h 100)) (nL (ez_I h 101))) = (tdM (nL (ez_I h 100)) 257 29) + (tdM (nL (ez_I h 101)) 1 29) := rfl; have hf15 : ∀ j, j < (rowM (nL (ez_I h 100)) (nL (ez_I h 101))) → (rowF (nL (ez_I h 100)) (nL (ez_I h 101))) j ≤ 15 := row15b (fun k hk => by have := hL1 k (by omega); show (ez_I h 100 k).toInt.toNat ≤ 15; omega) (fun k hk => by have := hL2 k (by omega); show (ez_I h 101 k).toInt.toNat ≤ 15; omega); omega)
  | succ N ih =>
    refine fun h2 k l2 l3 l4  F hinv A_ro hm => ?_
    · skip
      have w_k := z_rng k
      have hnl := tdM_rng (nL (ez_I h 100)) 257 29
      have hnd := tdM_rng (nL (ez_I h 101)) 1 29
      have hrm : (rowM (nL (ez_I h 100)) (nL (ez_I h 101))) = (tdM (nL (ez_I h 100)) 257 29) + (tdM (nL (ez_I h 101)) 1 29) := rfl
      have hf15 : ∀ j, j < (rowM (nL (ez_I h 100)) (nL (ez_I h 101))) → (rowF (nL (ez_I h 100)) (nL (ez_I h 101))) j ≤ 15 := row15b (fun k hk => by have := hL1 k (by omega); show (ez_I h 100 k).toInt.toNat ≤ 15; omega) (fun k hk => by have := hL2 k (by omega); show (ez_I h 101 k).toInt.toNat ≤ 15; omega)
      have S2 := zW_sh F S
      apply ez_Wp_in
      show ez_gw _ _ _ _ _ _ (cz_42) _ _ _ _ _
      refine gw_skip _ ?_
      have r1 := z_rng (ez_I h2 71 56)
      have r2 := z_rng (ez_I h2 71 57)
      have r3 := z_rng (ez_I h2 71 58)
      refine gw_ld rfl rfl ?_
      refine gw_ld rfl rfl ?_
      refine z_gI2 (by decide) (zT S2 (by decide) rfl) (rfl) ?_
      refine z_b2 (fun c4 => ?_) (fun c4 => ?_)
      · have c4 : ((ez_I h2 71 57)).toInt ≤ k.toInt := c4
        refine gw_skip _ ?_
        refine z_C (m := 0) rfl rfl (fun x5 ex5 => ?_)
        refine gw_st rfl rfl rfl ?_
        show ez_gw _ _ _ _ _ _ _ _ [some (.ref 71), some (.int x5), l2, l3, l4] _ _ _
        exact ez_Wp_at ((d_tellL_L3  S hL1 hL2 K (((1000 - x5.toInt)).toNat + 1)) h2 x5 (l2) (l3) (l4) F (by omega) ((by rw [show (tdM (nL (ez_I h 100)) 257 29) + x5.toInt.toNat = k.toInt.toNat by omega]; exact A_ro)) (by omega)) rfl
      · have c4 : ¬ (((ez_I h2 71 57)).toInt ≤ k.toInt) := c4
        refine gw_ld rfl rfl ?_
        refine z_gR (q := 119) (zT S2 (by decide) rfl) (zRf S2 (by decide) (by decide) rfl) (by decide) ?_
        refine gw_ld rfl rfl ?_
        refine gw_ld rfl rfl ?_
        refine z_gR (q := 100) (zT S2 (by decide) rfl) (zRf S2 (by decide) (by decide) rfl) (by decide) ?_
        refine gw_ld rfl rfl ?_
        refine z_iaV (n := 288) (zT S2 (by decide) rfl) (zN S2 (by decide) rfl) (by omega) (zW_f F (by decide) (x64_5 _)) ?_
        generalize ex6 : ez_I h 100 k.toInt.toNat = x6
        have rx6 := z_rng x6
        have yx6 := hL1 k.toInt.toNat (by omega)
        rw [ex6] at yx6
        have ylx6 : (nL (ez_I h 100)) k.toInt.toNat = x6.toInt.toNat := by show (ez_I h 100 k.toInt.toNat).toInt.toNat = _; rw [show k.toInt.toNat = k.toInt.toNat by omega, ex6]
        refine z_is (n := 330) (zT S2 (by decide) rfl) (zN S2 (by decide) rfl) (by omega) (fun h7 e8 => ?_)
        have S9 := zSh_set S2 e8
        have F10 := zW_setA F e8 (by decide)
        have f11 : ez_I h7 71 56 = (ez_I h2 71 56) := (zI_ne e8 (by omega)).trans (rfl)
        have f12 : ez_I h7 71 57 = (ez_I h2 71 57) := (zI_ne e8 (by omega)).trans (rfl)
        have f13 : ez_I h7 71 58 = (ez_I h2 71 58) := (zI_ne e8 (by omega)).trans (rfl)
        have A14 : cpN (ez_I h7 119) (rowF (nL (ez_I h 100)) (nL (ez_I h 101))) (k.toInt.toNat + 1) := cpN_s A_ro e8 (by omega) (by show _ = ((if k.toInt.toNat < (tdM (nL (ez_I h 100)) 257 29) then (nL (ez_I h 100)) k.toInt.toNat else _ : Nat) : Int); rw [if_pos (by omega)]; omega) rfl
        refine z_inc rfl (by rw [show (1 : Int32).toInt = 1 from rfl]; omega) (fun x15 ex15 => ?_)
        rw [show (1 : Int32).toInt = 1 from rfl] at ex15
        show ez_gw _ _ _ _ _ _ _ _ [some (.ref 71), some (.int x15), l2, l3, l4] _ _ _
        refine z_go ?_
        have t16 := congrArg Int32.toInt (f11)
        have t17 := congrArg Int32.toInt (f12)
        have t18 := congrArg Int32.toInt (f13)
        exact ih h7 x15 (l2) (l3) (l4) F10 (by omega) ((by rw [show x15.toInt.toNat = k.toInt.toNat + 1 by omega]; exact A14)) (by omega)
set_option maxRecDepth 4000 in
set_option maxHeartbeats 2000000 in
theorem d_tellL_L1 {E : Nat → Nat × (Nat → Int32)} {d : Nat} {Q : ez_Q} {h : ez_H}  (S : zSh h) (hL1 : aR (ez_I h 100) 286 0 15) (hL2 : aR (ez_I h 101) 30 0 15) (K : ∀ h2, zW (fun q k => q = 71 ∧ k = 56 ∨ q = 71 ∧ k = 57 ∨ q = 71 ∧ k = 58) (fun q => q = 99 ∨ q = 117 ∨ q = 118 ∨ q = 119) (fun _ => False) h h2 → ∀ c : Nat, (ez_I h2 71 56).toInt = c → (ez_I h2 71 57).toInt = ((tdM (nL (ez_I h 100)) 257 29) : Nat) → (ez_I h2 71 58).toInt = ((tdM (nL (ez_I h 101)) 1 29) : Nat) → tp (rowF (nL (ez_I h 100)) (nL (ez_I h 101))) (rowM (nL (ez_I h 100)) (nL (ez_I h 101))) c = (rowM (nL (ez_I h 100)) (nL (ez_I h 101))) → ltT (rowF (nL (ez_I h 100)) (nL (ez_I h 101))) (rowM (nL (ez_I h 100)) (nL (ez_I h 101))) c → teI (ez_I h2 117) (ez_I h2 118) (rowF (nL (ez_I h 100)) (nL (ez_I h 101))) (rowM (nL (ez_I h 100)) (nL (ez_I h 101))) c → ctI (ez_I h2 99) (tC (rowF (nL (ez_I h 100)) (nL (ez_I h 101))) (rowM (nL (ez_I h 100)) (nL (ez_I h 101))) c) 19 → c ≤ 316 → Q (.inl none) h2) : ∀ N : Nat, (∀ (h2 : ez_H) (k : Int32) (l2 : Option Value) (l3 : Option Value) (l4 : Option Value) , zW (fun q k => q = 71 ∧ k = 56 ∨ q = 71 ∧ k = 57 ∨ q = 71 ∧ k = 58) (fun q => q = 99 ∨ q = 117 ∨ q = 118 ∨ q = 119) (fun _ => False) h h2 → (1 ≤ k.toInt ∧ k.toInt ≤ 30 ∧ (ez_I h2 71 58).toInt = (tdM (nL (ez_I h 101)) 1 (k.toInt.toNat - 1) : Nat) ∧ (ez_I h2 71 57).toInt = ((tdM (nL (ez_I h 100)) 257 29) : Nat)) → (1000 - k.toInt) < (N : Int) → pw E (d + 1) 42 54 [some (.ref 71), some (.int k), l2, l3, l4] [] h2 Q) := by
  intro N
  induction N with
  | zero => exact fun h2 k l2 l3 l4  F hinv  hm => absurd hm (by have w_k := z_rng k; have hnl := tdM_rng (nL (ez_I h 100)) 257 29; have hnd := tdM_rng (nL (ez_I h 101)) 1 29; have hrm : (rowM (nL (ez_I h 100)) (nL (ez_I h 101))) = (tdM (nL (ez_I h 100)) 257 29) + (tdM (nL (ez_I h 101)) 1 29) := rfl; have hf15 : ∀ j, j < (rowM (nL (ez_I h 100)) (nL (ez_I h 101))) → (rowF (nL (ez_I h 100)) (nL (ez_I h 101))) j ≤ 15 := row15b (fun k hk => by have := hL1 k (by omega); show (ez_I h 100 k).toInt.toNat ≤ 15; omega) (fun k hk => by have := hL2 k (by omega); show (ez_I h 101 k).toInt.toNat ≤ 15; omega); omega)
  | succ N ih =>
    refine fun h2 k l2 l3 l4  F hinv  hm => ?_
    · skip
      have w_k := z_rng k
      have hnl := tdM_rng (nL (ez_I h 100)) 257 29
      have hnd := tdM_rng (nL (ez_I h 101)) 1 29
      have hrm : (rowM (nL (ez_I h 100)) (nL (ez_I h 101))) = (tdM (nL (ez_I h 100)) 257 29) + (tdM (nL (ez_I h 101)) 1 29) := rfl
      have hf15 : ∀ j, j < (rowM (nL (ez_I h 100)) (nL (ez_I h 101))) → (rowF (nL (ez_I h 100)) (nL (ez_I h 101))) j ≤ 15 := row15b (fun k hk => by have := hL1 k (by omega); show (ez_I h 100 k).toInt.toNat ≤ 15; omega) (fun k hk => by have := hL2 k (by omega); show (ez_I h 101 k).toInt.toNat ≤ 15; omega)
      have S2 := zW_sh F S
      have htr := tdM_rng (nL (ez_I h 101)) 1 (k.toInt.toNat - 1)
      apply ez_Wp_in
      show ez_gw _ _ _ _ _ _ (cz_42) _ _ _ _ _
      refine gw_skip _ ?_
      have r1 := z_rng (ez_I h2 71 56)
      have r2 := z_rng (ez_I h2 71 57)
      have r3 := z_rng (ez_I h2 71 58)
      refine gw_ld rfl rfl ?_
      refine z_C (m := 30) rfl rfl (fun x4 ex4 => ?_)
      refine z_b2 (fun c5 => ?_) (fun c5 => ?_)
      · have c5 : x4.toInt ≤ k.toInt := c5
        refine gw_skip _ ?_
        refine z_C (m := 0) rfl rfl (fun x6 ex6 => ?_)
        refine gw_st rfl rfl rfl ?_
        show ez_gw _ _ _ _ _ _ _ _ [some (.ref 71), some (.int x6), l2, l3, l4] _ _ _
        exact ez_Wp_at ((d_tellL_L2  S hL1 hL2 K (((1000 - x6.toInt)).toNat + 1)) h2 x6 (l2) (l3) (l4) F (⟨by omega, by omega, by omega, by rw [show (29 : Nat) = k.toInt.toNat - 1 by omega]; omega⟩) ((fun j hj => by omega)) (by omega)) rfl
      · have c5 : ¬ (x4.toInt ≤ k.toInt) := c5
        refine gw_ld rfl rfl ?_
        refine gw_ld rfl rfl ?_
        refine z_gR (q := 101) (zT S2 (by decide) rfl) (zRf S2 (by decide) (by decide) rfl) (by decide) ?_
        refine gw_ld rfl rfl ?_
        refine z_iaV (n := 30) (zT S2 (by decide) rfl) (zN S2 (by decide) rfl) (by omega) (zW_f F (by decide) (x64_4 _)) ?_
        generalize ex7 : ez_I h 101 k.toInt.toNat = x7
        have rx7 := z_rng x7
        have yx7 := hL2 k.toInt.toNat (by omega)
        rw [ex7] at yx7
        have ylx7 : (nL (ez_I h 101)) k.toInt.toNat = x7.toInt.toNat := by show (ez_I h 101 k.toInt.toNat).toInt.toNat = _; rw [show k.toInt.toNat = k.toInt.toNat by omega, ex7]
        refine z_b1 (fun c8 => ?_) (fun c8 => ?_)
        · have c8 : x7.toInt ≤ 0 := c8
          refine gw_skip _ ?_
          refine gw_ld rfl rfl ?_
          refine z_gI2 (by decide) (zT S2 (by decide) rfl) (rfl) ?_
          refine z_pI (zT S2 (by decide) rfl) (fun h9 e10 => ?_)
          have S11 := zSh_set S2 e10
          have F12 := zW_setF F e10 (by decide)
          have f13 : ez_I h9 71 56 = (ez_I h2 71 56) := (zI_ne e10 (by decide)).trans (rfl)
          have f14 : ez_I h9 71 57 = (ez_I h2 71 57) := (zI_ne e10 (by decide)).trans (rfl)
          have f15 : ez_I h9 71 58 = (ez_I h2 71 58) := zI_eq e10
          refine z_inc rfl (by rw [show (1 : Int32).toInt = 1 from rfl]; omega) (fun x16 ex16 => ?_)
          rw [show (1 : Int32).toInt = 1 from rfl] at ex16
          show ez_gw _ _ _ _ _ _ _ _ [some (.ref 71), some (.int x16), l2, l3, l4] _ _ _
          refine z_go ?_
          have t17 := congrArg Int32.toInt (f13)
          have t18 := congrArg Int32.toInt (f14)
          have t19 := congrArg Int32.toInt (f15)
          exact ih h9 x16 (l2) (l3) (l4) F12 (⟨by omega, by omega, by rw [show x16.toInt.toNat - 1 = (k.toInt.toNat - 1) + 1 by omega, tdM_0 (by rw [show 1 + (k.toInt.toNat - 1) = k.toInt.toNat by omega]; omega)]; omega, by omega⟩)  (by omega)
        · have c8 : ¬ (x7.toInt ≤ 0) := c8
          refine gw_ld rfl rfl ?_
          refine z_C (m := 1) rfl rfl (fun x20 ex20 => ?_)
          refine z_add (by omega) (fun x21 ex21 => ?_)
          refine z_go ?_
          refine gw_skip _ ?_
          refine z_pI (zT S2 (by decide) rfl) (fun h22 e23 => ?_)
          have S24 := zSh_set S2 e23
          have F25 := zW_setF F e23 (by decide)
          have f26 : ez_I h22 71 56 = (ez_I h2 71 56) := (zI_ne e23 (by decide)).trans (rfl)
          have f27 : ez_I h22 71 57 = (ez_I h2 71 57) := (zI_ne e23 (by decide)).trans (rfl)
          have f28 : ez_I h22 71 58 = x21 := zI_eq e23
          refine z_inc rfl (by rw [show (1 : Int32).toInt = 1 from rfl]; omega) (fun x29 ex29 => ?_)
          rw [show (1 : Int32).toInt = 1 from rfl] at ex29
          show ez_gw _ _ _ _ _ _ _ _ [some (.ref 71), some (.int x29), l2, l3, l4] _ _ _
          refine z_go ?_
          have t30 := congrArg Int32.toInt (f26)
          have t31 := congrArg Int32.toInt (f27)
          have t32 := congrArg Int32.toInt (f28)
          exact ih h22 x29 (l2) (l3) (l4) F25 (⟨by omega, by omega, by rw [show x29.toInt.toNat - 1 = (k.toInt.toNat - 1) + 1 by omega, tdM_1 (by rw [show 1 + (k.toInt.toNat - 1) = k.toInt.toNat by omega]; omega)]; omega, by omega⟩)  (by omega)
set_option maxRecDepth 4000 in
set_option maxHeartbeats 2000000 in
theorem d_tellL_L0 {E : Nat → Nat × (Nat → Int32)} {d : Nat} {Q : ez_Q} {h : ez_H}  (S : zSh h) (hL1 : aR (ez_I h 100) 286 0 15) (hL2 : aR (ez_I h 101) 30 0 15) (K : ∀ h2, zW (fun q k => q = 71 ∧ k = 56 ∨ q = 71 ∧ k = 57 ∨ q = 71 ∧ k = 58) (fun q => q = 99 ∨ q = 117 ∨ q = 118 ∨ q = 119) (fun _ => False) h h2 → ∀ c : Nat, (ez_I h2 71 56).toInt = c → (ez_I h2 71 57).toInt = ((tdM (nL (ez_I h 100)) 257 29) : Nat) → (ez_I h2 71 58).toInt = ((tdM (nL (ez_I h 101)) 1 29) : Nat) → tp (rowF (nL (ez_I h 100)) (nL (ez_I h 101))) (rowM (nL (ez_I h 100)) (nL (ez_I h 101))) c = (rowM (nL (ez_I h 100)) (nL (ez_I h 101))) → ltT (rowF (nL (ez_I h 100)) (nL (ez_I h 101))) (rowM (nL (ez_I h 100)) (nL (ez_I h 101))) c → teI (ez_I h2 117) (ez_I h2 118) (rowF (nL (ez_I h 100)) (nL (ez_I h 101))) (rowM (nL (ez_I h 100)) (nL (ez_I h 101))) c → ctI (ez_I h2 99) (tC (rowF (nL (ez_I h 100)) (nL (ez_I h 101))) (rowM (nL (ez_I h 100)) (nL (ez_I h 101))) c) 19 → c ≤ 316 → Q (.inl none) h2) : ∀ N : Nat, (∀ (h2 : ez_H) (k : Int32) (l2 : Option Value) (l3 : Option Value) (l4 : Option Value) , zW (fun q k => q = 71 ∧ k = 56 ∨ q = 71 ∧ k = 57 ∨ q = 71 ∧ k = 58) (fun q => q = 99 ∨ q = 117 ∨ q = 118 ∨ q = 119) (fun _ => False) h h2 → (257 ≤ k.toInt ∧ k.toInt ≤ 286 ∧ (ez_I h2 71 57).toInt = (tdM (nL (ez_I h 100)) 257 (k.toInt.toNat - 257) : Nat)) → (1000 - k.toInt) < (N : Int) → pw E (d + 1) 42 11 [some (.ref 71), some (.int k), l2, l3, l4] [] h2 Q) := by
  intro N
  induction N with
  | zero => exact fun h2 k l2 l3 l4  F hinv  hm => absurd hm (by have w_k := z_rng k; have hnl := tdM_rng (nL (ez_I h 100)) 257 29; have hnd := tdM_rng (nL (ez_I h 101)) 1 29; have hrm : (rowM (nL (ez_I h 100)) (nL (ez_I h 101))) = (tdM (nL (ez_I h 100)) 257 29) + (tdM (nL (ez_I h 101)) 1 29) := rfl; have hf15 : ∀ j, j < (rowM (nL (ez_I h 100)) (nL (ez_I h 101))) → (rowF (nL (ez_I h 100)) (nL (ez_I h 101))) j ≤ 15 := row15b (fun k hk => by have := hL1 k (by omega); show (ez_I h 100 k).toInt.toNat ≤ 15; omega) (fun k hk => by have := hL2 k (by omega); show (ez_I h 101 k).toInt.toNat ≤ 15; omega); omega)
  | succ N ih =>
    refine fun h2 k l2 l3 l4  F hinv  hm => ?_
    · skip
      have w_k := z_rng k
      have hnl := tdM_rng (nL (ez_I h 100)) 257 29
      have hnd := tdM_rng (nL (ez_I h 101)) 1 29
      have hrm : (rowM (nL (ez_I h 100)) (nL (ez_I h 101))) = (tdM (nL (ez_I h 100)) 257 29) + (tdM (nL (ez_I h 101)) 1 29) := rfl
      have hf15 : ∀ j, j < (rowM (nL (ez_I h 100)) (nL (ez_I h 101))) → (rowF (nL (ez_I h 100)) (nL (ez_I h 101))) j ≤ 15 := row15b (fun k hk => by have := hL1 k (by omega); show (ez_I h 100 k).toInt.toNat ≤ 15; omega) (fun k hk => by have := hL2 k (by omega); show (ez_I h 101 k).toInt.toNat ≤ 15; omega)
      have S2 := zW_sh F S
      have htr := tdM_rng (nL (ez_I h 100)) 257 (k.toInt.toNat - 257)
      apply ez_Wp_in
      show ez_gw _ _ _ _ _ _ (cz_42) _ _ _ _ _
      refine gw_skip _ ?_
      have r1 := z_rng (ez_I h2 71 56)
      have r2 := z_rng (ez_I h2 71 57)
      have r3 := z_rng (ez_I h2 71 58)
      refine gw_ld rfl rfl ?_
      refine z_C (m := 286) rfl rfl (fun x4 ex4 => ?_)
      refine z_b2 (fun c5 => ?_) (fun c5 => ?_)
      · have c5 : x4.toInt ≤ k.toInt := c5
        refine gw_skip _ ?_
        refine gw_ld rfl rfl ?_
        refine z_C (m := 1) rfl rfl (fun x6 ex6 => ?_)
        refine z_pI (zT S2 (by decide) rfl) (fun h7 e8 => ?_)
        have S9 := zSh_set S2 e8
        have F10 := zW_setF F e8 (by decide)
        have f11 : ez_I h7 71 56 = (ez_I h2 71 56) := (zI_ne e8 (by decide)).trans (rfl)
        have f12 : ez_I h7 71 57 = (ez_I h2 71 57) := (zI_ne e8 (by decide)).trans (rfl)
        have f13 : ez_I h7 71 58 = x6 := zI_eq e8
        refine z_C (m := 1) rfl rfl (fun x14 ex14 => ?_)
        refine gw_st rfl rfl rfl ?_
        show ez_gw _ _ _ _ _ _ _ _ [some (.ref 71), some (.int x14), l2, l3, l4] _ _ _
        have t15 := congrArg Int32.toInt (f11)
        have t16 := congrArg Int32.toInt (f12)
        have t17 := congrArg Int32.toInt (f13)
        exact ez_Wp_at ((d_tellL_L1  S hL1 hL2 K (((1000 - x14.toInt)).toNat + 1)) h7 x14 (l2) (l3) (l4) F10 (⟨by omega, by omega, by rw [show x14.toInt.toNat - 1 = 0 by omega]; show _ = ((1 : Nat) : Int); omega, by rw [show (29 : Nat) = k.toInt.toNat - 257 by omega]; omega⟩)  (by omega)) rfl
      · have c5 : ¬ (x4.toInt ≤ k.toInt) := c5
        refine gw_ld rfl rfl ?_
        refine gw_ld rfl rfl ?_
        refine z_gR (q := 100) (zT S2 (by decide) rfl) (zRf S2 (by decide) (by decide) rfl) (by decide) ?_
        refine gw_ld rfl rfl ?_
        refine z_iaV (n := 288) (zT S2 (by decide) rfl) (zN S2 (by decide) rfl) (by omega) (zW_f F (by decide) (x64_5 _)) ?_
        generalize ex18 : ez_I h 100 k.toInt.toNat = x18
        have rx18 := z_rng x18
        have yx18 := hL1 k.toInt.toNat (by omega)
        rw [ex18] at yx18
        have ylx18 : (nL (ez_I h 100)) k.toInt.toNat = x18.toInt.toNat := by show (ez_I h 100 k.toInt.toNat).toInt.toNat = _; rw [show k.toInt.toNat = k.toInt.toNat by omega, ex18]
        refine z_b1 (fun c19 => ?_) (fun c19 => ?_)
        · have c19 : x18.toInt ≤ 0 := c19
          refine gw_skip _ ?_
          refine gw_ld rfl rfl ?_
          refine z_gI2 (by decide) (zT S2 (by decide) rfl) (rfl) ?_
          refine z_pI (zT S2 (by decide) rfl) (fun h20 e21 => ?_)
          have S22 := zSh_set S2 e21
          have F23 := zW_setF F e21 (by decide)
          have f24 : ez_I h20 71 56 = (ez_I h2 71 56) := (zI_ne e21 (by decide)).trans (rfl)
          have f25 : ez_I h20 71 57 = (ez_I h2 71 57) := zI_eq e21
          have f26 : ez_I h20 71 58 = (ez_I h2 71 58) := (zI_ne e21 (by decide)).trans (rfl)
          refine z_inc rfl (by rw [show (1 : Int32).toInt = 1 from rfl]; omega) (fun x27 ex27 => ?_)
          rw [show (1 : Int32).toInt = 1 from rfl] at ex27
          show ez_gw _ _ _ _ _ _ _ _ [some (.ref 71), some (.int x27), l2, l3, l4] _ _ _
          refine z_go ?_
          have t28 := congrArg Int32.toInt (f24)
          have t29 := congrArg Int32.toInt (f25)
          have t30 := congrArg Int32.toInt (f26)
          exact ih h20 x27 (l2) (l3) (l4) F23 (⟨by omega, by omega, by rw [show x27.toInt.toNat - 257 = (k.toInt.toNat - 257) + 1 by omega, tdM_0 (by rw [show 257 + (k.toInt.toNat - 257) = k.toInt.toNat by omega]; omega)]; omega⟩)  (by omega)
        · have c19 : ¬ (x18.toInt ≤ 0) := c19
          refine gw_ld rfl rfl ?_
          refine z_C (m := 1) rfl rfl (fun x31 ex31 => ?_)
          refine z_add (by omega) (fun x32 ex32 => ?_)
          refine z_go ?_
          refine gw_skip _ ?_
          refine z_pI (zT S2 (by decide) rfl) (fun h33 e34 => ?_)
          have S35 := zSh_set S2 e34
          have F36 := zW_setF F e34 (by decide)
          have f37 : ez_I h33 71 56 = (ez_I h2 71 56) := (zI_ne e34 (by decide)).trans (rfl)
          have f38 : ez_I h33 71 57 = x32 := zI_eq e34
          have f39 : ez_I h33 71 58 = (ez_I h2 71 58) := (zI_ne e34 (by decide)).trans (rfl)
          refine z_inc rfl (by rw [show (1 : Int32).toInt = 1 from rfl]; omega) (fun x40 ex40 => ?_)
          rw [show (1 : Int32).toInt = 1 from rfl] at ex40
          show ez_gw _ _ _ _ _ _ _ _ [some (.ref 71), some (.int x40), l2, l3, l4] _ _ _
          refine z_go ?_
          have t41 := congrArg Int32.toInt (f37)
          have t42 := congrArg Int32.toInt (f38)
          have t43 := congrArg Int32.toInt (f39)
          exact ih h33 x40 (l2) (l3) (l4) F36 (⟨by omega, by omega, by rw [show x40.toInt.toNat - 257 = (k.toInt.toNat - 257) + 1 by omega, tdM_1 (by rw [show 257 + (k.toInt.toNat - 257) = k.toInt.toNat by omega]; omega)]; omega⟩)  (by omega)
set_option maxRecDepth 4000 in
set_option maxHeartbeats 2000000 in
theorem d_tellL {E : Nat → Nat × (Nat → Int32)} {d : Nat} {Q : ez_Q} {h : ez_H}  (S : zSh h) (hL1 : aR (ez_I h 100) 286 0 15) (hL2 : aR (ez_I h 101) 30 0 15) (K : ∀ h2, zW (fun q k => q = 71 ∧ k = 56 ∨ q = 71 ∧ k = 57 ∨ q = 71 ∧ k = 58) (fun q => q = 99 ∨ q = 117 ∨ q = 118 ∨ q = 119) (fun _ => False) h h2 → ∀ c : Nat, (ez_I h2 71 56).toInt = c → (ez_I h2 71 57).toInt = ((tdM (nL (ez_I h 100)) 257 29) : Nat) → (ez_I h2 71 58).toInt = ((tdM (nL (ez_I h 101)) 1 29) : Nat) → tp (rowF (nL (ez_I h 100)) (nL (ez_I h 101))) (rowM (nL (ez_I h 100)) (nL (ez_I h 101))) c = (rowM (nL (ez_I h 100)) (nL (ez_I h 101))) → ltT (rowF (nL (ez_I h 100)) (nL (ez_I h 101))) (rowM (nL (ez_I h 100)) (nL (ez_I h 101))) c → teI (ez_I h2 117) (ez_I h2 118) (rowF (nL (ez_I h 100)) (nL (ez_I h 101))) (rowM (nL (ez_I h 100)) (nL (ez_I h 101))) c → ctI (ez_I h2 99) (tC (rowF (nL (ez_I h 100)) (nL (ez_I h 101))) (rowM (nL (ez_I h 100)) (nL (ez_I h 101))) c) 19 → c ≤ 316 → Q (.inl none) h2) : pw E (d + 1) 42 0 [some (.ref 71), none, none, none, none] [] h Q := by
  have hnl := tdM_rng (nL (ez_I h 100)) 257 29
  have hnd := tdM_rng (nL (ez_I h 101)) 1 29
  have hrm : (rowM (nL (ez_I h 100)) (nL (ez_I h 101))) = (tdM (nL (ez_I h 100)) 257 29) + (tdM (nL (ez_I h 101)) 1 29) := rfl
  have hf15 : ∀ j, j < (rowM (nL (ez_I h 100)) (nL (ez_I h 101))) → (rowF (nL (ez_I h 100)) (nL (ez_I h 101))) j ≤ 15 := row15b (fun k hk => by have := hL1 k (by omega); show (ez_I h 100 k).toInt.toNat ≤ 15; omega) (fun k hk => by have := hL2 k (by omega); show (ez_I h 101 k).toInt.toNat ≤ 15; omega)
  have F := zW_refl (fun q k => q = 71 ∧ k = 56 ∨ q = 71 ∧ k = 57 ∨ q = 71 ∧ k = 58) (fun q => q = 99 ∨ q = 117 ∨ q = 118 ∨ q = 119) (fun _ => False) h
  apply ez_Wp_in
  show ez_gw _ _ _ _ _ _ (cz_42) _ _ _ _ _
  refine gw_skip _ ?_
  have r1 := z_rng (ez_I h 71 56)
  have r2 := z_rng (ez_I h 71 57)
  have r3 := z_rng (ez_I h 71 58)
  refine gw_ld rfl rfl ?_
  refine z_C (m := 257) rfl rfl (fun x4 ex4 => ?_)
  refine z_pI (zT S (by decide) rfl) (fun h5 e6 => ?_)
  have S7 := zSh_set S e6
  have F8 := zW_setF F e6 (by decide)
  have f9 : ez_I h5 71 56 = (ez_I h 71 56) := (zI_ne e6 (by decide)).trans (rfl)
  have f10 : ez_I h5 71 57 = x4 := zI_eq e6
  have f11 : ez_I h5 71 58 = (ez_I h 71 58) := (zI_ne e6 (by decide)).trans (rfl)
  refine z_C (m := 257) rfl rfl (fun x12 ex12 => ?_)
  refine gw_st rfl rfl rfl ?_
  show ez_gw _ _ _ _ _ _ _ _ [some (.ref 71), some (.int x12), none, none, none] _ _ _
  have t13 := congrArg Int32.toInt (f9)
  have t14 := congrArg Int32.toInt (f10)
  have t15 := congrArg Int32.toInt (f11)
  exact ez_Wp_at ((d_tellL_L0  S hL1 hL2 K (((1000 - x12.toInt)).toNat + 1)) h5 x12 (none) (none) (none) F8 (⟨by omega, by omega, by rw [show x12.toInt.toNat - 257 = 0 by omega]; show _ = ((257 : Nat) : Int); omega⟩)  (by omega)) rfl
