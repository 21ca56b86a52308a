/-! PRINTED by wip/pack: the class: plan -/
theorem x40_0 : ¬ (30 = 10 ∨ 30 = 13 ∨ 30 = 44 ∨ 30 = 45 ∨ 30 = 46 ∨ 30 = 47 ∨ 30 = 48 ∨ 30 = 49 ∨ 30 = 62 ∨ 30 = 63 ∨ 30 = 64 ∨ 30 = 65) := by omega
theorem x40_1 : ∀ k : Nat, ¬ (30 = 61 ∧ k = 1 ∨ 30 = 61 ∧ k = 2 ∨ 30 = 61 ∧ k = 5 ∨ 30 = 61 ∧ k = 7 ∨ 30 = 43 ∧ k = 4) := fun k c => by omega
theorem x40_2 : ¬ (37 = 10 ∨ 37 = 13 ∨ 37 = 44 ∨ 37 = 45 ∨ 37 = 46 ∨ 37 = 47 ∨ 37 = 48 ∨ 37 = 49 ∨ 37 = 62 ∨ 37 = 63 ∨ 37 = 64 ∨ 37 = 65) := by omega
theorem x40_3 : ∀ k : Nat, ¬ (37 = 61 ∧ k = 1 ∨ 37 = 61 ∧ k = 2 ∨ 37 = 61 ∧ k = 5 ∨ 37 = 61 ∧ k = 7 ∨ 37 = 43 ∧ k = 4) := fun k c => by omega
theorem x40_4 : ∀ q k : Nat, (q = 61 ∧ k = 5) → (q = 61 ∧ k = 1 ∨ q = 61 ∧ k = 2 ∨ q = 61 ∧ k = 5 ∨ q = 61 ∧ k = 7 ∨ q = 43 ∧ k = 4) := fun q k hk => (.inr (.inr (.inl hk)))
theorem x40_5 : ∀ q : Nat, (q = 63 ∨ q = 64 ∨ q = 65) → (q = 10 ∨ q = 13 ∨ q = 44 ∨ q = 45 ∨ q = 46 ∨ q = 47 ∨ q = 48 ∨ q = 49 ∨ q = 62 ∨ q = 63 ∨ q = 64 ∨ q = 65) := fun q hk => hk.elim (fun g => (.inr (.inr (.inr (.inr (.inr (.inr (.inr (.inr (.inr (.inl g))))))))))) (fun hk => hk.elim (fun g => (.inr (.inr (.inr (.inr (.inr (.inr (.inr (.inr (.inr (.inr (.inl g)))))))))))) (fun hk => (.inr (.inr (.inr (.inr (.inr (.inr (.inr (.inr (.inr (.inr (.inr hk)))))))))))))
theorem x40_6 : ∀ q : Nat, (False) → (q = 11 ∨ q = 12) := fun q hk => hk.elim
theorem x40_7 : ∀ k : Nat, ¬ (62 = 61 ∧ k = 5) := fun k c => by omega
theorem x40_8 : ∀ q k : Nat, (False) → (q = 61 ∧ k = 1 ∨ q = 61 ∧ k = 2 ∨ q = 61 ∧ k = 5 ∨ q = 61 ∧ k = 7 ∨ q = 43 ∧ k = 4) := fun q k hk => hk.elim
theorem x40_9 : ∀ q : Nat, (q = 10 ∨ q = 13 ∨ q = 44) → (q = 10 ∨ q = 13 ∨ q = 44 ∨ q = 45 ∨ q = 46 ∨ q = 47 ∨ q = 48 ∨ q = 49 ∨ q = 62 ∨ q = 63 ∨ q = 64 ∨ q = 65) := fun q hk => hk.elim (fun g => (.inl g)) (fun hk => hk.elim (fun g => (.inr (.inl g))) (fun hk => (.inr (.inr (.inl hk)))))
theorem x40_10 : ∀ q : Nat, (q = 11 ∨ q = 12) → (q = 11 ∨ q = 12) := fun q hk => hk.elim (fun g => (.inl g)) (fun hk => (.inr hk))
theorem x40_11 : ∀ q k : Nat, (q = 43 ∧ k = 4) → (q = 61 ∧ k = 1 ∨ q = 61 ∧ k = 2 ∨ q = 61 ∧ k = 5 ∨ q = 61 ∧ k = 7 ∨ q = 43 ∧ k = 4) := fun q k hk => (.inr (.inr (.inr (.inr hk))))
theorem x40_12 : ∀ q : Nat, (q = 45 ∨ q = 46 ∨ q = 47 ∨ q = 48 ∨ q = 49) → (q = 10 ∨ q = 13 ∨ q = 44 ∨ q = 45 ∨ q = 46 ∨ q = 47 ∨ q = 48 ∨ q = 49 ∨ q = 62 ∨ q = 63 ∨ q = 64 ∨ q = 65) := fun q hk => hk.elim (fun g => (.inr (.inr (.inr (.inl g))))) (fun hk => hk.elim (fun g => (.inr (.inr (.inr (.inr (.inl g)))))) (fun hk => hk.elim (fun g => (.inr (.inr (.inr (.inr (.inr (.inl g))))))) (fun hk => hk.elim (fun g => (.inr (.inr (.inr (.inr (.inr (.inr (.inl g)))))))) (fun hk => (.inr (.inr (.inr (.inr (.inr (.inr (.inr (.inl hk))))))))))))
theorem x40_13 : ∀ k : Nat, ¬ (62 = 43 ∧ k = 4) := fun k c => by omega
theorem x40_14 : ∀ k : Nat, ¬ (63 = 43 ∧ k = 4) := fun k c => by omega
theorem x40_15 : ∀ k : Nat, ¬ (64 = 43 ∧ k = 4) := fun k c => by omega
theorem x40_16 : ∀ k : Nat, ¬ (65 = 43 ∧ k = 4) := fun k c => by omega
theorem x40_17 : ∀ k : Nat, ¬ (44 = 43 ∧ k = 4) := fun k c => by omega
set_option maxRecDepth 4000 in
set_option maxHeartbeats 2000000 in
theorem c_plan {E : Nat → Nat × (Nat → Int32)} {d : Nat} {Q : ez_Q} {h : ez_H}  (S : zSh h) (hE : zE E) (hL1 : aR (ez_I h 30) 288 0 15) (hL2 : aR (ez_I h 37) 288 0 15) (K : ∀ h2 (x : Int32), zW (fun q k => q = 61 ∧ k = 1 ∨ q = 61 ∧ k = 2 ∨ q = 61 ∧ k = 5 ∨ q = 61 ∧ k = 7 ∨ q = 43 ∧ k = 4) (fun q => q = 10 ∨ q = 13 ∨ q = 44 ∨ q = 45 ∨ q = 46 ∨ q = 47 ∨ q = 48 ∨ q = 49 ∨ q = 62 ∨ q = 63 ∨ q = 64 ∨ q = 65) (fun q => q = 11 ∨ q = 12) h h2 → ∀ c : Nat, (ez_I h2 61 1).toInt = ((tdM (nL (ez_I h 30)) 257 29) : Nat) → (ez_I h2 61 2).toInt = ((tdM (nL (ez_I h 37)) 1 29) : Nat) → (ez_I h2 61 5).toInt = c → tp (rwF (nL (ez_I h 30)) (nL (ez_I h 37)) (tdM (nL (ez_I h 30)) 257 29)) ((tdM (nL (ez_I h 30)) 257 29) + (tdM (nL (ez_I h 37)) 1 29)) c = ((tdM (nL (ez_I h 30)) 257 29) + (tdM (nL (ez_I h 37)) 1 29)) → ltT (rwF (nL (ez_I h 30)) (nL (ez_I h 37)) (tdM (nL (ez_I h 30)) 257 29)) ((tdM (nL (ez_I h 30)) 257 29) + (tdM (nL (ez_I h 37)) 1 29)) c → teI (ez_I h2 63) (ez_I h2 64) (rwF (nL (ez_I h 30)) (nL (ez_I h 37)) (tdM (nL (ez_I h 30)) 257 29)) ((tdM (nL (ez_I h 30)) 257 29) + (tdM (nL (ez_I h 37)) 1 29)) c → (∀ k, k < 288 → nL (ez_I h2 44) k = LNf (tC (rwF (nL (ez_I h 30)) (nL (ez_I h 37)) (tdM (nL (ez_I h 30)) 257 29)) ((tdM (nL (ez_I h 30)) 257 29) + (tdM (nL (ez_I h 37)) 1 29)) c) 19 7 k) → aR (ez_I h2 44) 288 0 7 → (∀ k, k < 19 → 1 ≤ tC (rwF (nL (ez_I h 30)) (nL (ez_I h 37)) (tdM (nL (ez_I h 30)) 257 29)) ((tdM (nL (ez_I h 30)) 257 29) + (tdM (nL (ez_I h 37)) 1 29)) c k → 1 ≤ nL (ez_I h2 44) k) → wdI (ez_I h2 45) (nL (ez_I h2 44)) 288 288 → (ez_I h2 61 7).toInt = (tdM (fun k => nL (ez_I h2 44) (ORf k)) 4 15 : Nat) → x.toInt = 14 + 3 * (ez_I h2 61 7).toInt + ((tC (rwF (nL (ez_I h 30)) (nL (ez_I h 37)) (tdM (nL (ez_I h 30)) 257 29)) ((tdM (nL (ez_I h 30)) 257 29) + (tdM (nL (ez_I h 37)) 1 29)) c 16 : Nat) * 2 + (tC (rwF (nL (ez_I h 30)) (nL (ez_I h 37)) (tdM (nL (ez_I h 30)) 257 29)) ((tdM (nL (ez_I h 30)) 257 29) + (tdM (nL (ez_I h 37)) 1 29)) c 17 : Nat) * 3 + (tC (rwF (nL (ez_I h 30)) (nL (ez_I h 37)) (tdM (nL (ez_I h 30)) 257 29)) ((tdM (nL (ez_I h 30)) 257 29) + (tdM (nL (ez_I h 37)) 1 29)) c 18 : Nat) * 7) + (sm (fun i => ((tC (rwF (nL (ez_I h 30)) (nL (ez_I h 37)) (tdM (nL (ez_I h 30)) 257 29)) ((tdM (nL (ez_I h 30)) 257 29) + (tdM (nL (ez_I h 37)) 1 29)) c i : Nat) : Int) * ((LNf (tC (rwF (nL (ez_I h 30)) (nL (ez_I h 37)) (tdM (nL (ez_I h 30)) 257 29)) ((tdM (nL (ez_I h 30)) 257 29) + (tdM (nL (ez_I h 37)) 1 29)) c) 19 7 i : Nat) : Int)) 19) → Q (.inl (some (.int x))) h2) : pw E (d + 3) 89 0 [some (.ref 61), some (.ref 14), some (.ref 9)] [] h Q := by
  have hn1 := tdM_rng (nL (ez_I h 30)) 257 29
  have hn2 := tdM_rng (nL (ez_I h 37)) 1 29
  have hF15 : ∀ j, j < ((tdM (nL (ez_I h 30)) 257 29) + (tdM (nL (ez_I h 37)) 1 29)) → (rwF (nL (ez_I h 30)) (nL (ez_I h 37)) (tdM (nL (ez_I h 30)) 257 29)) j ≤ 15 := fun j hj => by
      unfold rwF
      by_cases q : j < (tdM (nL (ez_I h 30)) 257 29)
      · rw [if_pos q]; have := hL1 j (by omega); show (ez_I h 30 j).toInt.toNat ≤ 15; omega
      · rw [if_neg q]; have := hL2 (j - (tdM (nL (ez_I h 30)) 257 29)) (by omega); show (ez_I h 37 (j - (tdM (nL (ez_I h 30)) 257 29))).toInt.toNat ≤ 15; omega
  have F := zW_refl (fun q k => q = 61 ∧ k = 1 ∨ q = 61 ∧ k = 2 ∨ q = 61 ∧ k = 5 ∨ q = 61 ∧ k = 7 ∨ q = 43 ∧ k = 4) (fun q => q = 10 ∨ q = 13 ∨ q = 44 ∨ q = 45 ∨ q = 46 ∨ q = 47 ∨ q = 48 ∨ q = 49 ∨ q = 62 ∨ q = 63 ∨ q = 64 ∨ q = 65) (fun q => q = 11 ∨ q = 12) h
  apply ez_Wp_in
  show ez_gw _ _ _ _ _ _ (cz_89) _ _ _ _ _
  refine gw_skip _ ?_
  have r1 := z_rng (ez_I h 61 1)
  have r2 := z_rng (ez_I h 61 2)
  have r3 := z_rng (ez_I h 61 5)
  have r4 := z_rng (ez_I h 61 7)
  have r5 := z_rng (ez_I h 43 4)
  refine gw_ld rfl rfl ?_
  refine gw_ld rfl rfl ?_
  refine z_gR (q := 29) (zT S (by decide) rfl) (zRf S (by decide) (by decide) rfl) (by decide) ?_
  refine z_gR (q := 30) (zT S (by decide) rfl) (zRf S (by decide) (by decide) rfl) (by decide) ?_
  refine z_C (m := 286) rfl rfl (fun x6 ex6 => ?_)
  refine z_C (m := 257) rfl rfl (fun x7 ex7 => ?_)
  refine z_cl rfl rfl rfl rfl rfl rfl rfl rfl rfl rfl rfl (trivial) ?_
  refine c_told (w := 30) (m := x6) (f := x7) (nw := 288) S (fun _ S => ⟨zT S (by decide) rfl, zN S (by decide) rfl⟩) (by omega) (by rw [(show ez_I h 30 = ez_I h 30 from zW_fn F 30 x40_0 x40_1)]; exact hL1) (fun x8 k9 => ?_)
  rw [(show ez_I h 30 = ez_I h 30 from zW_fn F 30 x40_0 x40_1), show x7.toInt.toNat = 257 by omega, show x6.toInt.toNat - 257 = 29 by omega] at k9
  have rx8 := z_rng x8
  refine z_pI (zT S (by decide) rfl) (fun h10 e11 => ?_)
  have S12 := zSh_set S e11
  have F13 := zW_setF F e11 (by decide)
  have f14 : ez_I h10 61 1 = x8 := zI_eq e11
  have f15 : ez_I h10 61 2 = (ez_I h 61 2) := (zI_ne e11 (by decide)).trans (rfl)
  have f16 : ez_I h10 61 5 = (ez_I h 61 5) := (zI_ne e11 (by decide)).trans (rfl)
  have f17 : ez_I h10 61 7 = (ez_I h 61 7) := (zI_ne e11 (by decide)).trans (rfl)
  have f18 : ez_I h10 43 4 = (ez_I h 43 4) := (zI_ne e11 (by decide)).trans (rfl)
  refine gw_ld rfl rfl ?_
  refine gw_ld rfl rfl ?_
  refine z_gR (q := 36) (zT S12 (by decide) rfl) (zRf S12 (by decide) (by decide) rfl) (by decide) ?_
  refine z_gR (q := 37) (zT S12 (by decide) rfl) (zRf S12 (by decide) (by decide) rfl) (by decide) ?_
  refine z_C (m := 30) rfl rfl (fun x19 ex19 => ?_)
  refine z_C (m := 1) rfl rfl (fun x20 ex20 => ?_)
  have t21 := congrArg Int32.toInt (f14)
  have t22 := congrArg Int32.toInt (f15)
  have t23 := congrArg Int32.toInt (f16)
  have t24 := congrArg Int32.toInt (f17)
  have t25 := congrArg Int32.toInt (f18)
  refine z_cl rfl rfl rfl rfl rfl rfl rfl rfl rfl rfl rfl (trivial) ?_
  refine c_told (w := 37) (m := x19) (f := x20) (nw := 288) S12 (fun _ S => ⟨zT S (by decide) rfl, zN S (by decide) rfl⟩) (by omega) (by rw [(show ez_I h10 37 = ez_I h 37 from zW_fn F13 37 x40_2 x40_3)]; exact hL2) (fun x26 k27 => ?_)
  rw [(show ez_I h10 37 = ez_I h 37 from zW_fn F13 37 x40_2 x40_3), show x20.toInt.toNat = 1 by omega, show x19.toInt.toNat - 1 = 29 by omega] at k27
  have rx26 := z_rng x26
  refine z_pI (zT S12 (by decide) rfl) (fun h28 e29 => ?_)
  have S30 := zSh_set S12 e29
  have F31 := zW_setF F13 e29 (by decide)
  have f32 : ez_I h28 61 1 = x8 := (zI_ne e29 (by decide)).trans (f14)
  have f33 : ez_I h28 61 2 = x26 := zI_eq e29
  have f34 : ez_I h28 61 5 = (ez_I h 61 5) := (zI_ne e29 (by decide)).trans (f16)
  have f35 : ez_I h28 61 7 = (ez_I h 61 7) := (zI_ne e29 (by decide)).trans (f17)
  have f36 : ez_I h28 43 4 = (ez_I h 43 4) := (zI_ne e29 (by decide)).trans (f18)
  refine gw_ld rfl rfl ?_
  refine z_gR (q := 29) (zT S30 (by decide) rfl) (zRf S30 (by decide) (by decide) rfl) (by decide) ?_
  refine z_gR (q := 30) (zT S30 (by decide) rfl) (zRf S30 (by decide) (by decide) rfl) (by decide) ?_
  refine z_C (m := 0) rfl rfl (fun x37 ex37 => ?_)
  refine gw_ld rfl rfl ?_
  refine z_gR (q := 62) (zT S30 (by decide) rfl) (zRf S30 (by decide) (by decide) rfl) (by decide) ?_
  refine z_C (m := 0) rfl rfl (fun x38 ex38 => ?_)
  refine gw_ld rfl rfl ?_
  refine z_gI2 (by decide) (zT S30 (by decide) rfl) (f32) ?_
  refine z_ac (n := 288) (m := 316) rfl (zT S30 (by decide) rfl) (zT S30 (by decide) rfl) (zN S30 (by decide) rfl) (zN S30 (by decide) rfl) (by omega) (fun h39 e40 => ?_)
  have S41 := zSh_row S30 e40
  have F42 := zW_row F31 e40 (by omega)
  have f43 : ez_I h39 61 1 = x8 := (zI_row e40 (by omega)).trans (f32)
  have f44 : ez_I h39 61 2 = x26 := (zI_row e40 (by omega)).trans (f33)
  have f45 : ez_I h39 61 5 = (ez_I h 61 5) := (zI_row e40 (by omega)).trans (f34)
  have f46 : ez_I h39 61 7 = (ez_I h 61 7) := (zI_row e40 (by omega)).trans (f35)
  have f47 : ez_I h39 43 4 = (ez_I h 43 4) := (zI_row e40 (by omega)).trans (f36)
  refine gw_ld rfl rfl ?_
  refine z_gR (q := 36) (zT S41 (by decide) rfl) (zRf S41 (by decide) (by decide) rfl) (by decide) ?_
  refine z_gR (q := 37) (zT S41 (by decide) rfl) (zRf S41 (by decide) (by decide) rfl) (by decide) ?_
  refine z_C (m := 0) rfl rfl (fun x48 ex48 => ?_)
  refine gw_ld rfl rfl ?_
  refine z_gR (q := 62) (zT S41 (by decide) rfl) (zRf S41 (by decide) (by decide) rfl) (by decide) ?_
  refine gw_ld rfl rfl ?_
  refine z_gI2 (by decide) (zT S41 (by decide) rfl) (f43) ?_
  refine gw_ld rfl rfl ?_
  refine z_gI2 (by decide) (zT S41 (by decide) rfl) (f44) ?_
  refine z_ac (n := 288) (m := 316) rfl (zT S41 (by decide) rfl) (zT S41 (by decide) rfl) (zN S41 (by decide) rfl) (zN S41 (by decide) rfl) (by omega) (fun h49 e50 => ?_)
  have S51 := zSh_row S41 e50
  have F52 := zW_row F42 e50 (by omega)
  have f53 : ez_I h49 61 1 = x8 := (zI_row e50 (by omega)).trans (f43)
  have f54 : ez_I h49 61 2 = x26 := (zI_row e50 (by omega)).trans (f44)
  have f55 : ez_I h49 61 5 = (ez_I h 61 5) := (zI_row e50 (by omega)).trans (f45)
  have f56 : ez_I h49 61 7 = (ez_I h 61 7) := (zI_row e50 (by omega)).trans (f46)
  have f57 : ez_I h49 43 4 = (ez_I h 43 4) := (zI_row e50 (by omega)).trans (f47)
  have A58 : ((∀ k, k < ((tdM (nL (ez_I h 30)) 257 29) + (tdM (nL (ez_I h 37)) 1 29)) → nL (ez_I h49 62) k = (rwF (nL (ez_I h 30)) (nL (ez_I h 37)) (tdM (nL (ez_I h 30)) 257 29)) k) ∧ aR (ez_I h49 62) ((tdM (nL (ez_I h 30)) 257 29) + (tdM (nL (ez_I h 37)) 1 29)) 0 15) := rw_62b e40 e50 (zW_fn F31 30 (by decide) (fun k c => by omega)) (zW_fn F42 37 (by decide) (fun k c => by omega)) (by omega) hL1 hL2 (by omega)
  refine gw_ld rfl rfl ?_
  refine gw_ld rfl rfl ?_
  refine z_gI2 (by decide) (zT S51 (by decide) rfl) (f53) ?_
  refine gw_ld rfl rfl ?_
  refine z_gI2 (by decide) (zT S51 (by decide) rfl) (f54) ?_
  refine z_add (by omega) (fun x59 ex59 => ?_)
  have t60 := congrArg Int32.toInt (f53)
  have t61 := congrArg Int32.toInt (f54)
  have t62 := congrArg Int32.toInt (f55)
  have t63 := congrArg Int32.toInt (f56)
  have t64 := congrArg Int32.toInt (f57)
  refine z_cl rfl rfl rfl rfl rfl rfl rfl rfl rfl rfl rfl (zT S51 (by decide) rfl) ?_
  have hMn : x59.toInt.toNat = ((tdM (nL (ez_I h 30)) 257 29) + (tdM (nL (ez_I h 37)) 1 29)) := by omega
  have hFr : ∀ k, k < ((tdM (nL (ez_I h 30)) 257 29) + (tdM (nL (ez_I h 37)) 1 29)) → nL (ez_I h49 62) k = (rwF (nL (ez_I h 30)) (nL (ez_I h 37)) (tdM (nL (ez_I h 30)) 257 29)) k := A58.1
  have hRr : aR (ez_I h49 62) x59.toInt.toNat 0 15 := by rw [hMn]; exact A58.2
  refine c_tellRow (n := x59) S51 hE hRr (by omega) (fun h65 F66 c67 k68 k69 k70 k71 k72 => ?_)
  rw [hMn] at k69 k70 k71 k72
  have hlt := ltT_congr hFr k70
  have htp : tp (rwF (nL (ez_I h 30)) (nL (ez_I h 37)) (tdM (nL (ez_I h 30)) 257 29)) ((tdM (nL (ez_I h 30)) 257 29) + (tdM (nL (ez_I h 37)) 1 29)) c67 = ((tdM (nL (ez_I h 30)) 257 29) + (tdM (nL (ez_I h 37)) 1 29)) := by rw [← tp_congr hFr c67 k70 c67 (Nat.le_refl _)]; exact k69
  have hte : teI (ez_I h65 63) (ez_I h65 64) (rwF (nL (ez_I h 30)) (nL (ez_I h 37)) (tdM (nL (ez_I h 30)) 257 29)) ((tdM (nL (ez_I h 30)) 257 29) + (tdM (nL (ez_I h 37)) 1 29)) c67 := fun i hi => by rw [← (tSX_congr hFr k70 hi).1, ← (tSX_congr hFr k70 hi).2]; exact k71 i hi
  have htc : ctI (ez_I h65 65) (tC (rwF (nL (ez_I h 30)) (nL (ez_I h 37)) (tdM (nL (ez_I h 30)) 257 29)) ((tdM (nL (ez_I h 30)) 257 29) + (tdM (nL (ez_I h 37)) 1 29)) c67) 19 := ctI_c k72 (fun s _ => tC_congr hFr k70 c67 s (Nat.le_refl _))
  have hck := (tp_k (f := (rwF (nL (ez_I h 30)) (nL (ez_I h 37)) (tdM (nL (ez_I h 30)) 257 29))) (N := ((tdM (nL (ez_I h 30)) 257 29) + (tdM (nL (ez_I h 37)) 1 29))) hF15 c67 hlt).1
  have S73 := zW_sh F66 S51
  have F74 := zW_tr F52 (zW_mono F66 (x40_4) (x40_5) (x40_6))
  have f75 : ez_I h65 61 1 = x8 := (zW_f F66 (by decide) (by decide)).trans (f53)
  have f76 : ez_I h65 61 2 = x26 := (zW_f F66 (by decide) (by decide)).trans (f54)
  have r77 := z_rng (ez_I h65 61 5)
  have f78 : ez_I h65 61 7 = (ez_I h 61 7) := (zW_f F66 (by decide) (by decide)).trans (f56)
  have f79 : ez_I h65 43 4 = (ez_I h 43 4) := (zW_f F66 (by decide) (by decide)).trans (f57)
  have A80 : ((∀ k, k < ((tdM (nL (ez_I h 30)) 257 29) + (tdM (nL (ez_I h 37)) 1 29)) → nL (ez_I h65 62) k = (rwF (nL (ez_I h 30)) (nL (ez_I h 37)) (tdM (nL (ez_I h 30)) 257 29)) k) ∧ aR (ez_I h65 62) ((tdM (nL (ez_I h 30)) 257 29) + (tdM (nL (ez_I h 37)) 1 29)) 0 15) := by rw [zW_fn F66 62 (by decide) (x40_7)]; exact A58
  clear A58
  refine gw_ld rfl rfl ?_
  refine gw_ld rfl rfl ?_
  refine z_gR (q := 65) (zT S73 (by decide) rfl) (zRf S73 (by decide) (by decide) rfl) (by decide) ?_
  refine z_C (m := 19) rfl rfl (fun x81 ex81 => ?_)
  refine z_C (m := 7) rfl rfl (fun x82 ex82 => ?_)
  refine gw_ld rfl rfl ?_
  refine z_gR (q := 43) (zT S73 (by decide) rfl) (zRf S73 (by decide) (by decide) rfl) (by decide) ?_
  refine z_gR (q := 44) (zT S73 (by decide) rfl) (zRf S73 (by decide) (by decide) rfl) (by decide) ?_
  have t83 := congrArg Int32.toInt (f75)
  have t84 := congrArg Int32.toInt (f76)
  have t85 := congrArg Int32.toInt (f78)
  have t86 := congrArg Int32.toInt (f79)
  refine z_cl rfl rfl rfl rfl rfl rfl rfl rfl rfl rfl rfl (zT S73 (by decide) rfl) ?_
  have hU : aR (ez_I h65 65) 19 0 400 := ctI_aR htc (fun z => by have := tC_le (rwF (nL (ez_I h 30)) (nL (ez_I h 37)) (tdM (nL (ez_I h 30)) 257 29)) ((tdM (nL (ez_I h 30)) 257 29) + (tdM (nL (ez_I h 37)) 1 29)) c67 z; omega)
  refine f_makeZ (u := 65) (w := 44) (nu := 19) (nw := 288) (al := x81) (li := x82) (mx := 400) S73 hE (fun _ S => ⟨zT S (by decide) rfl, zN S (by decide) rfl⟩) (fun _ S => ⟨zT S (by decide) rfl, zN S (by decide) rfl⟩) (by decide) (by omega) (by omega) (by rw [show x81.toInt.toNat = 19 by omega]; exact hU) (by decide) (by rw [show x81.toInt.toNat = 19 by omega]; decide) (by rw [show x81.toInt.toNat = 19 by omega, show x82.toInt.toNat = 7 by omega]; have := poC_le2 (ez_I h65 65) 19; show _ ≤ (128 : Int); omega) (fun h87 K88 k90 k91 => ?_)
  rw [show x81.toInt.toNat = 19 by omega, show x82.toInt.toNat = 7 by omega] at k90
  rw [show x81.toInt.toNat = 19 by omega] at k91
  have F89 := zW_ofK K88
  obtain ⟨la1, la2, la3, la4⟩ := ln_all (c := tC (rwF (nL (ez_I h 30)) (nL (ez_I h 37)) (tdM (nL (ez_I h 30)) 257 29)) ((tdM (nL (ez_I h 30)) 257 29) + (tdM (nL (ez_I h 37)) 1 29)) c67) k90 k91 htc (fun i _ => by have := tC_le (rwF (nL (ez_I h 30)) (nL (ez_I h 37)) (tdM (nL (ez_I h 30)) 257 29)) ((tdM (nL (ez_I h 30)) 257 29) + (tdM (nL (ez_I h 37)) 1 29)) c67 i; omega) (by decide) (by decide)
  have S92 := zW_sh F89 S73
  have F93 := zW_tr F74 (zW_mono F89 (x40_8) (x40_9) (x40_10))
  have f94 : ez_I h87 61 1 = x8 := (zW_f F89 (by decide) (fun c => c)).trans (f75)
  have f95 : ez_I h87 61 2 = x26 := (zW_f F89 (by decide) (fun c => c)).trans (f76)
  have f96 : ez_I h87 61 5 = (ez_I h65 61 5) := (zW_f F89 (by decide) (fun c => c)).trans (rfl)
  have f97 : ez_I h87 61 7 = (ez_I h 61 7) := (zW_f F89 (by decide) (fun c => c)).trans (f78)
  have f98 : ez_I h87 43 4 = (ez_I h 43 4) := (zW_f F89 (by decide) (fun c => c)).trans (f79)
  have A99 : ((∀ k, k < ((tdM (nL (ez_I h 30)) 257 29) + (tdM (nL (ez_I h 37)) 1 29)) → nL (ez_I h87 62) k = (rwF (nL (ez_I h 30)) (nL (ez_I h 37)) (tdM (nL (ez_I h 30)) 257 29)) k) ∧ aR (ez_I h87 62) ((tdM (nL (ez_I h 30)) 257 29) + (tdM (nL (ez_I h 37)) 1 29)) 0 15) := by rw [zW_fn F89 62 (by decide) (fun _ c => c)]; exact A80
  have A100 : teI (ez_I h87 63) (ez_I h87 64) (rwF (nL (ez_I h 30)) (nL (ez_I h 37)) (tdM (nL (ez_I h 30)) 257 29)) ((tdM (nL (ez_I h 30)) 257 29) + (tdM (nL (ez_I h 37)) 1 29)) c67 := by rw [zW_fn F89 63 (by decide) (fun _ c => c), zW_fn F89 64 (by decide) (fun _ c => c)]; exact hte
  have A101 : ctI (ez_I h87 65) (tC (rwF (nL (ez_I h 30)) (nL (ez_I h 37)) (tdM (nL (ez_I h 30)) 257 29)) ((tdM (nL (ez_I h 30)) 257 29) + (tdM (nL (ez_I h 37)) 1 29)) c67) 19 := by rw [zW_fn F89 65 (by decide) (fun _ c => c)]; exact htc
  clear A80
  refine gw_ld rfl rfl ?_
  refine z_gR (q := 43) (zT S92 (by decide) rfl) (zRf S92 (by decide) (by decide) rfl) (by decide) ?_
  have t102 := congrArg Int32.toInt (f94)
  have t103 := congrArg Int32.toInt (f95)
  have t104 := congrArg Int32.toInt (f96)
  have t105 := congrArg Int32.toInt (f97)
  have t106 := congrArg Int32.toInt (f98)
  refine z_cl rfl rfl rfl rfl rfl rfl rfl rfl rfl rfl rfl (zT S92 (by decide) rfl) ?_
  refine c_settle (p := 43) S92 (by decide) (aR_le la2 (by omega)) (fun h107 F108 k109 k110 k111 k112 => ?_)
  have hwd : wdI (ez_I h107 45) (nL (ez_I h107 44)) 288 288 := by rw [show ez_I h107 44 = ez_I h87 44 from zW_fn F108 44 (by decide) (fun k c => by omega)]; exact k111
  have S113 := zW_sh F108 S92
  have F114 := zW_tr F93 (zW_mono F108 (x40_11) (x40_12) (x40_6))
  have f115 : ez_I h107 61 1 = x8 := (zW_f F108 (by decide) (by decide)).trans (f94)
  have f116 : ez_I h107 61 2 = x26 := (zW_f F108 (by decide) (by decide)).trans (f95)
  have f117 : ez_I h107 61 5 = (ez_I h65 61 5) := (zW_f F108 (by decide) (by decide)).trans (f96)
  have f118 : ez_I h107 61 7 = (ez_I h 61 7) := (zW_f F108 (by decide) (by decide)).trans (f97)
  have r119 := z_rng (ez_I h107 43 4)
  have A120 : ((∀ k, k < ((tdM (nL (ez_I h 30)) 257 29) + (tdM (nL (ez_I h 37)) 1 29)) → nL (ez_I h107 62) k = (rwF (nL (ez_I h 30)) (nL (ez_I h 37)) (tdM (nL (ez_I h 30)) 257 29)) k) ∧ aR (ez_I h107 62) ((tdM (nL (ez_I h 30)) 257 29) + (tdM (nL (ez_I h 37)) 1 29)) 0 15) := by rw [zW_fn F108 62 (by decide) (x40_13)]; exact A99
  have A121 : teI (ez_I h107 63) (ez_I h107 64) (rwF (nL (ez_I h 30)) (nL (ez_I h 37)) (tdM (nL (ez_I h 30)) 257 29)) ((tdM (nL (ez_I h 30)) 257 29) + (tdM (nL (ez_I h 37)) 1 29)) c67 := by rw [zW_fn F108 63 (by decide) (x40_14), zW_fn F108 64 (by decide) (x40_15)]; exact A100
  have A122 : ctI (ez_I h107 65) (tC (rwF (nL (ez_I h 30)) (nL (ez_I h 37)) (tdM (nL (ez_I h 30)) 257 29)) ((tdM (nL (ez_I h 30)) 257 29) + (tdM (nL (ez_I h 37)) 1 29)) c67) 19 := by rw [zW_fn F108 65 (by decide) (x40_16)]; exact A101
  have A123 : (∀ k, k < 288 → nL (ez_I h107 44) k = LNf (tC (rwF (nL (ez_I h 30)) (nL (ez_I h 37)) (tdM (nL (ez_I h 30)) 257 29)) ((tdM (nL (ez_I h 30)) 257 29) + (tdM (nL (ez_I h 37)) 1 29)) c67) 19 7 k) := by rw [zW_fn F108 44 (by decide) (x40_17)]; exact la1
  have A124 : aR (ez_I h107 44) 288 0 7 := by rw [zW_fn F108 44 (by decide) (x40_17)]; exact la2
  have A125 : (∀ k, k < 19 → 1 ≤ tC (rwF (nL (ez_I h 30)) (nL (ez_I h 37)) (tdM (nL (ez_I h 30)) 257 29)) ((tdM (nL (ez_I h 30)) 257 29) + (tdM (nL (ez_I h 37)) 1 29)) c67 k → 1 ≤ nL (ez_I h107 44) k) := by rw [zW_fn F108 44 (by decide) (x40_17)]; exact la3
  clear A99
  clear A100
  clear A101
  refine gw_ld rfl rfl ?_
  refine gw_ld rfl rfl ?_
  refine z_gR (q := 43) (zT S113 (by decide) rfl) (zRf S113 (by decide) (by decide) rfl) (by decide) ?_
  refine z_gR (q := 44) (zT S113 (by decide) rfl) (zRf S113 (by decide) (by decide) rfl) (by decide) ?_
  have t126 := congrArg Int32.toInt (f115)
  have t127 := congrArg Int32.toInt (f116)
  have t128 := congrArg Int32.toInt (f117)
  have t129 := congrArg Int32.toInt (f118)
  refine z_cl rfl rfl rfl rfl rfl rfl rfl rfl rfl rfl rfl (trivial) ?_
  refine c_tOrd (w := 44) (nw := 288) S113 hE (fun _ S => ⟨zT S (by decide) rfl, zN S (by decide) rfl⟩) (by omega) (aR_le A124 (by omega)) (fun x130 k131 => ?_)
  have hod := k131
  have rx130 := z_rng x130
  have hor := tdM_rng (fun k => nL (ez_I h107 44) (ORf k)) 4 15
  refine z_pI (zT S113 (by decide) rfl) (fun h132 e133 => ?_)
  have S134 := zSh_set S113 e133
  have F135 := zW_setF F114 e133 (by decide)
  have f136 : ez_I h132 61 1 = x8 := (zI_ne e133 (by decide)).trans (f115)
  have f137 : ez_I h132 61 2 = x26 := (zI_ne e133 (by decide)).trans (f116)
  have f138 : ez_I h132 61 5 = (ez_I h65 61 5) := (zI_ne e133 (by decide)).trans (f117)
  have f139 : ez_I h132 61 7 = x130 := zI_eq e133
  have f140 : ez_I h132 43 4 = (ez_I h107 43 4) := (zI_ne e133 (by decide)).trans (rfl)
  have A141 : ((∀ k, k < ((tdM (nL (ez_I h 30)) 257 29) + (tdM (nL (ez_I h 37)) 1 29)) → nL (ez_I h132 62) k = (rwF (nL (ez_I h 30)) (nL (ez_I h 37)) (tdM (nL (ez_I h 30)) 257 29)) k) ∧ aR (ez_I h132 62) ((tdM (nL (ez_I h 30)) 257 29) + (tdM (nL (ez_I h 37)) 1 29)) 0 15) := by rw [zI_fn e133 62 (by decide)]; exact A120
  have A142 : teI (ez_I h132 63) (ez_I h132 64) (rwF (nL (ez_I h 30)) (nL (ez_I h 37)) (tdM (nL (ez_I h 30)) 257 29)) ((tdM (nL (ez_I h 30)) 257 29) + (tdM (nL (ez_I h 37)) 1 29)) c67 := by rw [zI_fn e133 63 (by decide), zI_fn e133 64 (by decide)]; exact A121
  have A143 : ctI (ez_I h132 65) (tC (rwF (nL (ez_I h 30)) (nL (ez_I h 37)) (tdM (nL (ez_I h 30)) 257 29)) ((tdM (nL (ez_I h 30)) 257 29) + (tdM (nL (ez_I h 37)) 1 29)) c67) 19 := by rw [zI_fn e133 65 (by decide)]; exact A122
  have A144 : (∀ k, k < 288 → nL (ez_I h132 44) k = LNf (tC (rwF (nL (ez_I h 30)) (nL (ez_I h 37)) (tdM (nL (ez_I h 30)) 257 29)) ((tdM (nL (ez_I h 30)) 257 29) + (tdM (nL (ez_I h 37)) 1 29)) c67) 19 7 k) := by rw [zI_fn e133 44 (by decide)]; exact A123
  have A145 : aR (ez_I h132 44) 288 0 7 := by rw [zI_fn e133 44 (by decide)]; exact A124
  have A146 : (∀ k, k < 19 → 1 ≤ tC (rwF (nL (ez_I h 30)) (nL (ez_I h 37)) (tdM (nL (ez_I h 30)) 257 29)) ((tdM (nL (ez_I h 30)) 257 29) + (tdM (nL (ez_I h 37)) 1 29)) c67 k → 1 ≤ nL (ez_I h132 44) k) := by rw [zI_fn e133 44 (by decide)]; exact A125
  have A147 : wdI (ez_I h132 45) (nL (ez_I h132 44)) 288 288 := by rw [zI_fn e133 45 (by decide), zI_fn e133 44 (by decide)]; exact hwd
  have A148 : x130.toInt = (tdM (fun k => nL (ez_I h132 44) (ORf k)) 4 15 : Nat) := by rw [zI_fn e133 44 (by decide)]; exact hod
  clear A120
  clear A121
  clear A122
  clear A123
  clear A124
  clear A125
  refine z_C (m := 14) rfl rfl (fun x149 ex149 => ?_)
  refine z_C (m := 3) rfl rfl (fun x150 ex150 => ?_)
  refine gw_ld rfl rfl ?_
  refine z_gI2 (by decide) (zT S134 (by decide) rfl) (f139) ?_
  refine z_mulL (c := 3) ex150 (by omega) (fun x151 ex151 => ?_)
  refine z_add (by omega) (fun x152 ex152 => ?_)
  refine gw_ld rfl rfl ?_
  have t153 := congrArg Int32.toInt (f136)
  have t154 := congrArg Int32.toInt (f137)
  have t155 := congrArg Int32.toInt (f138)
  have t156 := congrArg Int32.toInt (f139)
  have t157 := congrArg Int32.toInt (f140)
  refine z_cl rfl rfl rfl rfl rfl rfl rfl rfl rfl rfl rfl (zT S134 (by decide) rfl) ?_
  refine c_xb S134 hE (ctI_aR A143 (fun z => by have := tC_le (rwF (nL (ez_I h 30)) (nL (ez_I h 37)) (tdM (nL (ez_I h 30)) 257 29)) ((tdM (nL (ez_I h 30)) 257 29) + (tdM (nL (ez_I h 37)) 1 29)) c67 z; omega)) (fun x158 k159 => ?_)
  have rx158 := z_rng x158
  rw [A143 16 (by decide), A143 17 (by decide), A143 18 (by decide)] at k159
  have t6 := tC_le (rwF (nL (ez_I h 30)) (nL (ez_I h 37)) (tdM (nL (ez_I h 30)) 257 29)) ((tdM (nL (ez_I h 30)) 257 29) + (tdM (nL (ez_I h 37)) 1 29)) c67 16
  have t7 := tC_le (rwF (nL (ez_I h 30)) (nL (ez_I h 37)) (tdM (nL (ez_I h 30)) 257 29)) ((tdM (nL (ez_I h 30)) 257 29) + (tdM (nL (ez_I h 37)) 1 29)) c67 17
  have t8 := tC_le (rwF (nL (ez_I h 30)) (nL (ez_I h 37)) (tdM (nL (ez_I h 30)) 257 29)) ((tdM (nL (ez_I h 30)) 257 29) + (tdM (nL (ez_I h 37)) 1 29)) c67 18
  refine z_add (by omega) (fun x160 ex160 => ?_)
  refine gw_ld rfl rfl ?_
  refine z_gR (q := 65) (zT S134 (by decide) rfl) (zRf S134 (by decide) (by decide) rfl) (by decide) ?_
  refine gw_ld rfl rfl ?_
  refine z_gR (q := 43) (zT S134 (by decide) rfl) (zRf S134 (by decide) (by decide) rfl) (by decide) ?_
  refine z_gR (q := 44) (zT S134 (by decide) rfl) (zRf S134 (by decide) (by decide) rfl) (by decide) ?_
  refine z_C (m := 19) rfl rfl (fun x161 ex161 => ?_)
  refine z_cl rfl rfl rfl rfl rfl rfl rfl rfl rfl rfl rfl (trivial) ?_
  refine c_wsum (u := 65) (w := 44) (n := x161) (nu := 19) (nw := 288) S134 (fun _ S => ⟨zT S (by decide) rfl, zN S (by decide) rfl⟩) (fun _ S => ⟨zT S (by decide) rfl, zN S (by decide) rfl⟩) (by omega) (by rw [show x161.toInt.toNat = 19 by omega]; exact ctI_aR A143 (fun z => by have := tC_le (rwF (nL (ez_I h 30)) (nL (ez_I h 37)) (tdM (nL (ez_I h 30)) 257 29)) ((tdM (nL (ez_I h 30)) 257 29) + (tdM (nL (ez_I h 37)) 1 29)) c67 z; omega)) (by rw [show x161.toInt.toNat = 19 by omega]; exact aR_le A145 (by omega)) (fun x162 k163 k164 => ?_)
  have rx162 := z_rng x162
  rw [show x161.toInt.toNat = 19 by omega] at k163
  have hsm : x162.toInt = (sm (fun i => ((tC (rwF (nL (ez_I h 30)) (nL (ez_I h 37)) (tdM (nL (ez_I h 30)) 257 29)) ((tdM (nL (ez_I h 30)) 257 29) + (tdM (nL (ez_I h 37)) 1 29)) c67 i : Nat) : Int) * ((LNf (tC (rwF (nL (ez_I h 30)) (nL (ez_I h 37)) (tdM (nL (ez_I h 30)) 257 29)) ((tdM (nL (ez_I h 30)) 257 29) + (tdM (nL (ez_I h 37)) 1 29)) c67) 19 7 i : Nat) : Int)) 19) := k163.trans (sm_congr (fun i hi => by show (ez_I h132 65 i).toInt * (ez_I h132 44 i).toInt = _; rw [A143 i hi, ← A144 i (by omega)]; have := A145 i (by omega); show _ = _ * (((ez_I h132 44 i).toInt.toNat : Nat) : Int); rw [Int.toNat_of_nonneg this.1]))
  have hsb : x162.toInt ≤ 1000000 := by rw [hsm]; exact Int.le_trans (sm_le (g := fun _ => 2212) (fun i hi => by have a := tC_le (rwF (nL (ez_I h 30)) (nL (ez_I h 37)) (tdM (nL (ez_I h 30)) 257 29)) ((tdM (nL (ez_I h 30)) 257 29) + (tdM (nL (ez_I h 37)) 1 29)) c67 i; have b := A145 i (by omega); have d := A144 i (by omega); have e : LNf (tC (rwF (nL (ez_I h 30)) (nL (ez_I h 37)) (tdM (nL (ez_I h 30)) 257 29)) ((tdM (nL (ez_I h 30)) 257 29) + (tdM (nL (ez_I h 37)) 1 29)) c67) 19 7 i ≤ 7 := (by rw [← d]; show (ez_I h132 44 i).toInt.toNat ≤ 7; omega); exact (mulB (a := 316) (b := 7) ⟨by omega, by omega⟩ ⟨by omega, by omega⟩ (by decide)).2)) (by rw [sm_const]; decide)
  refine z_add (by omega) (fun x165 ex165 => ?_)
  refine z_ri ?_
  exact K _ _ F135 c67 (by omega) (by omega) (by omega) htp hlt A142 A144 A145 A146 A147 (by have := A148; omega) (by have := A148; omega)
