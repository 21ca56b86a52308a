/-! PRINTED by wip/pack: the model packs -/
theorem x72_49 : ¬ (77 ≤ 71 ∧ 71 ≤ 82) := by omega
theorem x72_50 : ¬ (71 = 71 ∧ 6 = 0 ∨ 71 = 71 ∧ 6 = 14 ∨ 71 = 71 ∧ 6 = 15 ∨ 71 = 71 ∧ 6 = 16 ∨ 71 = 71 ∧ 6 = 17 ∨ 71 = 71 ∧ 6 = 18) := by omega
theorem x72_51 : ¬ (77 ≤ 72 ∧ 72 ≤ 82) := by omega
theorem x72_52 : ∀ k : Nat, ¬ (72 = 71 ∧ k = 0 ∨ 72 = 71 ∧ k = 14 ∨ 72 = 71 ∧ k = 15 ∨ 72 = 71 ∧ k = 16 ∨ 72 = 71 ∧ k = 17 ∨ 72 = 71 ∧ k = 18) := fun k c => by omega
theorem x72_53 : ∀ q k : Nat, (q = 71 ∧ k = 14 ∨ q = 71 ∧ k = 17 ∨ q = 71 ∧ k = 18) → (q = 71 ∧ k = 0 ∨ q = 71 ∧ k = 14 ∨ q = 71 ∧ k = 15 ∨ q = 71 ∧ k = 16 ∨ q = 71 ∧ k = 17 ∨ q = 71 ∧ k = 18) := fun q k hk => hk.elim (fun g => (.inr (.inl g))) (fun hk => hk.elim (fun g => (.inr (.inr (.inr (.inr (.inl g)))))) (fun hk => (.inr (.inr (.inr (.inr (.inr hk)))))))
theorem x72_54 : ∀ q : Nat, (77 ≤ q ∧ q ≤ 82) → (77 ≤ q ∧ q ≤ 82) := fun q hk => hk
theorem x72_55 : ∀ q : Nat, (False) → (False) := fun q hk => hk.elim
theorem x72_56 : ¬ (77 ≤ 92 ∧ 92 ≤ 82) := by omega
theorem x72_57 : ∀ k : Nat, ¬ (92 = 71 ∧ k = 0 ∨ 92 = 71 ∧ k = 14 ∨ 92 = 71 ∧ k = 15 ∨ 92 = 71 ∧ k = 16 ∨ 92 = 71 ∧ k = 17 ∨ 92 = 71 ∧ k = 18) := fun k c => by omega
theorem x72_58 : ¬ (77 ≤ 93 ∧ 93 ≤ 82) := by omega
theorem x72_59 : ∀ k : Nat, ¬ (93 = 71 ∧ k = 0 ∨ 93 = 71 ∧ k = 14 ∨ 93 = 71 ∧ k = 15 ∨ 93 = 71 ∧ k = 16 ∨ 93 = 71 ∧ k = 17 ∨ 93 = 71 ∧ k = 18) := fun k c => by omega
theorem x72_60 : ¬ (77 ≤ 94 ∧ 94 ≤ 82) := by omega
theorem x72_61 : ∀ k : Nat, ¬ (94 = 71 ∧ k = 0 ∨ 94 = 71 ∧ k = 14 ∨ 94 = 71 ∧ k = 15 ∨ 94 = 71 ∧ k = 16 ∨ 94 = 71 ∧ k = 17 ∨ 94 = 71 ∧ k = 18) := fun k c => by omega
theorem x72_62 : ¬ (77 ≤ 95 ∧ 95 ≤ 82) := by omega
theorem x72_63 : ∀ k : Nat, ¬ (95 = 71 ∧ k = 0 ∨ 95 = 71 ∧ k = 14 ∨ 95 = 71 ∧ k = 15 ∨ 95 = 71 ∧ k = 16 ∨ 95 = 71 ∧ k = 17 ∨ 95 = 71 ∧ k = 18) := fun k c => by omega
theorem x72_64 : ¬ (77 ≤ 96 ∧ 96 ≤ 82) := by omega
theorem x72_65 : ∀ k : Nat, ¬ (96 = 71 ∧ k = 0 ∨ 96 = 71 ∧ k = 14 ∨ 96 = 71 ∧ k = 15 ∨ 96 = 71 ∧ k = 16 ∨ 96 = 71 ∧ k = 17 ∨ 96 = 71 ∧ k = 18) := fun k c => by omega
theorem x72_66 : ¬ (77 ≤ 75 ∧ 75 ≤ 82) := by omega
theorem x72_67 : ∀ k : Nat, ¬ (75 = 71 ∧ k = 0 ∨ 75 = 71 ∧ k = 14 ∨ 75 = 71 ∧ k = 15 ∨ 75 = 71 ∧ k = 16 ∨ 75 = 71 ∧ k = 17 ∨ 75 = 71 ∧ k = 18) := fun k c => by omega
theorem x72_68 : ∀ q k : Nat, (q = 71 ∧ k = 0 ∨ q = 71 ∧ k = 14 ∨ q = 71 ∧ k = 15 ∨ q = 71 ∧ k = 16 ∨ q = 71 ∧ k = 17 ∨ q = 71 ∧ k = 18) → (q = 71 ∧ k = 0 ∨ q = 71 ∧ k = 7 ∨ q = 71 ∧ k = 14 ∨ q = 71 ∧ k = 17 ∨ q = 71 ∧ k = 18 ∨ q = 71 ∧ k = 15 ∨ q = 71 ∧ k = 16 ∨ q = 71 ∧ k = 56 ∨ q = 71 ∧ k = 57 ∨ q = 71 ∧ k = 58) := fun q k hk => hk.elim (fun g => (.inl g)) (fun hk => hk.elim (fun g => (.inr (.inr (.inl g)))) (fun hk => hk.elim (fun g => (.inr (.inr (.inr (.inr (.inr (.inl g))))))) (fun hk => hk.elim (fun g => (.inr (.inr (.inr (.inr (.inr (.inr (.inl g)))))))) (fun hk => hk.elim (fun g => (.inr (.inr (.inr (.inl g))))) (fun hk => (.inr (.inr (.inr (.inr (.inl hk))))))))))
theorem x72_69 : ∀ q : Nat, (77 ≤ q ∧ q ≤ 82) → (q = 73 ∨ q = 75 ∨ 77 ≤ q ∧ q ≤ 82 ∨ 83 ≤ q ∧ q ≤ 91 ∨ 97 ≤ q ∧ q ≤ 119) := fun q hk => (.inr (.inr (.inl hk)))
theorem x72_70 : ∀ q k : Nat, (q = 71 ∧ k = 15 ∨ q = 71 ∧ k = 16 ∨ q = 71 ∧ k = 56 ∨ q = 71 ∧ k = 57 ∨ q = 71 ∧ k = 58 ∨ q = 71 ∧ k = 7) → (q = 71 ∧ k = 0 ∨ q = 71 ∧ k = 7 ∨ q = 71 ∧ k = 14 ∨ q = 71 ∧ k = 17 ∨ q = 71 ∧ k = 18 ∨ q = 71 ∧ k = 15 ∨ q = 71 ∧ k = 16 ∨ q = 71 ∧ k = 56 ∨ q = 71 ∧ k = 57 ∨ q = 71 ∧ k = 58) := fun q k hk => hk.elim (fun g => (.inr (.inr (.inr (.inr (.inr (.inl g))))))) (fun hk => hk.elim (fun g => (.inr (.inr (.inr (.inr (.inr (.inr (.inl g)))))))) (fun hk => hk.elim (fun g => (.inr (.inr (.inr (.inr (.inr (.inr (.inr (.inl g))))))))) (fun hk => hk.elim (fun g => (.inr (.inr (.inr (.inr (.inr (.inr (.inr (.inr (.inl g)))))))))) (fun hk => hk.elim (fun g => (.inr (.inr (.inr (.inr (.inr (.inr (.inr (.inr (.inr g)))))))))) (fun hk => (.inr (.inl hk)))))))
theorem x72_71 : ∀ q : Nat, (q = 73 ∨ q = 75 ∨ 83 ≤ q ∧ q ≤ 91 ∨ 97 ≤ q ∧ q ≤ 119) → (q = 73 ∨ q = 75 ∨ 77 ≤ q ∧ q ≤ 82 ∨ 83 ≤ q ∧ q ≤ 91 ∨ 97 ≤ q ∧ q ≤ 119) := fun q hk => hk.elim (fun g => (.inl g)) (fun hk => hk.elim (fun g => (.inr (.inl g))) (fun hk => hk.elim (fun g => (.inr (.inr (.inr (.inl g))))) (fun hk => (.inr (.inr (.inr (.inr hk)))))))
theorem x72_72 : ¬ (71 = 73 ∨ 71 = 75 ∨ 83 ≤ 71 ∧ 71 ≤ 91 ∨ 97 ≤ 71 ∧ 71 ≤ 119) := by omega
theorem x72_73 : ¬ (71 = 71 ∧ 14 = 15 ∨ 71 = 71 ∧ 14 = 16 ∨ 71 = 71 ∧ 14 = 56 ∨ 71 = 71 ∧ 14 = 57 ∨ 71 = 71 ∧ 14 = 58 ∨ 71 = 71 ∧ 14 = 7) := by omega
theorem x72_74 : ¬ (77 = 73 ∨ 77 = 75 ∨ 83 ≤ 77 ∧ 77 ≤ 91 ∨ 97 ≤ 77 ∧ 77 ≤ 119) := by omega
theorem x72_75 : ∀ k : Nat, ¬ (77 = 71 ∧ k = 15 ∨ 77 = 71 ∧ k = 16 ∨ 77 = 71 ∧ k = 56 ∨ 77 = 71 ∧ k = 57 ∨ 77 = 71 ∧ k = 58 ∨ 77 = 71 ∧ k = 7) := fun k c => by omega
theorem x72_76 : ¬ (78 = 73 ∨ 78 = 75 ∨ 83 ≤ 78 ∧ 78 ≤ 91 ∨ 97 ≤ 78 ∧ 78 ≤ 119) := by omega
theorem x72_77 : ∀ k : Nat, ¬ (78 = 71 ∧ k = 15 ∨ 78 = 71 ∧ k = 16 ∨ 78 = 71 ∧ k = 56 ∨ 78 = 71 ∧ k = 57 ∨ 78 = 71 ∧ k = 58 ∨ 78 = 71 ∧ k = 7) := fun k c => by omega
theorem x72_78 : ¬ (79 = 73 ∨ 79 = 75 ∨ 83 ≤ 79 ∧ 79 ≤ 91 ∨ 97 ≤ 79 ∧ 79 ≤ 119) := by omega
theorem x72_79 : ∀ k : Nat, ¬ (79 = 71 ∧ k = 15 ∨ 79 = 71 ∧ k = 16 ∨ 79 = 71 ∧ k = 56 ∨ 79 = 71 ∧ k = 57 ∨ 79 = 71 ∧ k = 58 ∨ 79 = 71 ∧ k = 7) := fun k c => by omega
theorem x72_80 : ¬ (80 = 73 ∨ 80 = 75 ∨ 83 ≤ 80 ∧ 80 ≤ 91 ∨ 97 ≤ 80 ∧ 80 ≤ 119) := by omega
theorem x72_81 : ∀ k : Nat, ¬ (80 = 71 ∧ k = 15 ∨ 80 = 71 ∧ k = 16 ∨ 80 = 71 ∧ k = 56 ∨ 80 = 71 ∧ k = 57 ∨ 80 = 71 ∧ k = 58 ∨ 80 = 71 ∧ k = 7) := fun k c => by omega
theorem x72_82 : ¬ (71 = 71 ∧ 0 = 15 ∨ 71 = 71 ∧ 0 = 16 ∨ 71 = 71 ∧ 0 = 56 ∨ 71 = 71 ∧ 0 = 57 ∨ 71 = 71 ∧ 0 = 58 ∨ 71 = 71 ∧ 0 = 7) := by omega
set_option maxRecDepth 4000 in
set_option maxHeartbeats 2000000 in
theorem m_packF {E : Nat → Nat × (Nat → Int32)} {d : Nat} {Q : ez_Q} {h : ez_H}  (S : zSh h) {T : Nat → Int} {n : Nat} (hTT : ∀ i, i < n → tB (ez_I h 72) i = T i) (hN : (ez_I h 71 6).toInt = (n : Nat)) (hn6 : n ≤ 6000) (hbt : aR (ez_I h 72) 6000 (-128) 127) (hg : aR (ez_I h 75) 8000 (-128) 127) (t92 : ctI (ez_I h 92) LBf 29) (t93 : ctI (ez_I h 93) LEf 29) (t94 : ctI (ez_I h 94) DBf 30) (t95 : ctI (ez_I h 95) DEf 30) (t96 : ctI (ez_I h 96) ORf 19) (K : ∀ h2 (x : Int32), zW (fun q k => q = 71 ∧ k = 0 ∨ q = 71 ∧ k = 7 ∨ q = 71 ∧ k = 14 ∨ q = 71 ∧ k = 17 ∨ q = 71 ∧ k = 18 ∨ q = 71 ∧ k = 15 ∨ q = 71 ∧ k = 16 ∨ q = 71 ∧ k = 56 ∨ q = 71 ∧ k = 57 ∨ q = 71 ∧ k = 58) (fun q => q = 73 ∨ q = 75 ∨ 77 ≤ q ∧ q ≤ 82 ∨ 83 ≤ q ∧ q ≤ 91 ∨ 97 ≤ q ∧ q ≤ 119) (fun _ => False) h h2 → ∀ c b : Nat, (ez_I h2 71 14).toInt = (c : Nat) → c ≤ 6000 → ltP T n c → ptP T n c = n → pmI (ez_I h2 77) (ez_I h2 78) (ez_I h2 79) (ez_I h2 80) T n c → (ez_I h2 71 15).toInt = (b : Nat) → bnP c b → x.toInt = ((((pkS T n c b b).2 + 7) / 8 : Nat) : Int) → (ez_I h2 71 7).toInt = x.toInt → x.toInt ≤ 6100 → (∀ i : Nat, i < x.toInt.toNat → (ez_I h2 73 i).toInt % 256 = (((pkS T n c b b).1 / 256 ^ i % 256 : Nat) : Int)) → (∀ i, i < b → bfM (ez_I h2 83) (ez_I h2 84) (ez_I h2 85) (ez_I h2 86) (ez_I h2 87) (ez_I h2 88) (ez_I h2 89) (ez_I h2 90) (ez_I h2 91) T n c b i) → aR (ez_I h2 75) 8000 (-128) 127 → (ez_I h2 71 0).toInt = 0 → Q (.inl (some (.int x))) h2) : pw E (d + 3) 45 0 [some (.ref 71), none, none, none, none, none] [] h Q := by
  have F := zW_refl (fun q k => q = 71 ∧ k = 0 ∨ q = 71 ∧ k = 14 ∨ q = 71 ∧ k = 15 ∨ q = 71 ∧ k = 16 ∨ q = 71 ∧ k = 17 ∨ q = 71 ∧ k = 18) (fun q => 77 ≤ q ∧ q ≤ 82) (fun _ => False) h
  apply ez_Wp_in
  show ez_gw _ _ _ _ _ _ (cz_45) _ _ _ _ _
  refine gw_skip _ ?_
  have r1 := z_rng (ez_I h 71 0)
  have r2 := z_rng (ez_I h 71 14)
  have r3 := z_rng (ez_I h 71 15)
  have r4 := z_rng (ez_I h 71 16)
  have r5 := z_rng (ez_I h 71 17)
  have r6 := z_rng (ez_I h 71 18)
  refine gw_ld rfl rfl ?_
  refine z_C (m := 0) rfl rfl (fun x7 ex7 => ?_)
  refine z_pI (zT S (by decide) rfl) (fun h8 e9 => ?_)
  have S10 := zSh_set S e9
  have F11 := zW_setF F e9 (by decide)
  have f12 : ez_I h8 71 0 = x7 := zI_eq e9
  have f13 : ez_I h8 71 14 = (ez_I h 71 14) := (zI_ne e9 (by decide)).trans (rfl)
  have f14 : ez_I h8 71 15 = (ez_I h 71 15) := (zI_ne e9 (by decide)).trans (rfl)
  have f15 : ez_I h8 71 16 = (ez_I h 71 16) := (zI_ne e9 (by decide)).trans (rfl)
  have f16 : ez_I h8 71 17 = (ez_I h 71 17) := (zI_ne e9 (by decide)).trans (rfl)
  have f17 : ez_I h8 71 18 = (ez_I h 71 18) := (zI_ne e9 (by decide)).trans (rfl)
  refine gw_ld rfl rfl ?_
  have t18 := congrArg Int32.toInt (f12)
  have t19 := congrArg Int32.toInt (f13)
  have t20 := congrArg Int32.toInt (f14)
  have t21 := congrArg Int32.toInt (f15)
  have t22 := congrArg Int32.toInt (f16)
  have t23 := congrArg Int32.toInt (f17)
  refine z_cl rfl rfl rfl rfl rfl rfl rfl rfl rfl rfl rfl (zT S10 (by decide) rfl) ?_
  refine d_findParts S10 (by rw [(show ez_I h8 71 6 = ez_I h 71 6 from zW_f F11 x72_49 x72_50)]; omega) (by rw [(show ez_I h8 72 = ez_I h 72 from zW_fn F11 72 x72_51 x72_52)]; exact hbt) (fun h24 F25 c26 k27 k28 k29 k30 => ?_)
  rw [(show ez_I h8 72 = ez_I h 72 from zW_fn F11 72 x72_51 x72_52), (show ez_I h8 71 6 = ez_I h 71 6 from zW_f F11 x72_49 x72_50), show (ez_I h 71 6).toInt.toNat = n by omega] at k28 k29 k30
  have hlt := ltP_g hTT k29
  have hpm := pmI_g hTT k29 k30
  have hpe : ptP T n c26 = n := (ptP_g hTT _).symm.trans k28
  have hck := ptP_k (T := T) (n := n) c26 (fun j hj => hlt j hj)
  have S31 := zW_sh F25 S10
  have F32 := zW_tr F11 (zW_mono F25 (x72_53) (x72_54) (x72_55))
  have f33 : ez_I h24 71 0 = x7 := (zW_f F25 (by decide) (by decide)).trans (f12)
  have r34 := z_rng (ez_I h24 71 14)
  have f35 : ez_I h24 71 15 = (ez_I h 71 15) := (zW_f F25 (by decide) (by decide)).trans (f14)
  have f36 : ez_I h24 71 16 = (ez_I h 71 16) := (zW_f F25 (by decide) (by decide)).trans (f15)
  have r37 := z_rng (ez_I h24 71 17)
  have r38 := z_rng (ez_I h24 71 18)
  refine gw_ld rfl rfl ?_
  refine z_C (m := 0) rfl rfl (fun x39 ex39 => ?_)
  refine z_pI (zT S31 (by decide) rfl) (fun h40 e41 => ?_)
  have S42 := zSh_set S31 e41
  have F43 := zW_setF F32 e41 (by decide)
  have f44 : ez_I h40 71 0 = x7 := (zI_ne e41 (by decide)).trans (f33)
  have f45 : ez_I h40 71 14 = (ez_I h24 71 14) := (zI_ne e41 (by decide)).trans (rfl)
  have f46 : ez_I h40 71 15 = (ez_I h 71 15) := (zI_ne e41 (by decide)).trans (f35)
  have f47 : ez_I h40 71 16 = x39 := zI_eq e41
  have f48 : ez_I h40 71 17 = (ez_I h24 71 17) := (zI_ne e41 (by decide)).trans (rfl)
  have f49 : ez_I h40 71 18 = (ez_I h24 71 18) := (zI_ne e41 (by decide)).trans (rfl)
  have A50 : pmI (ez_I h40 77) (ez_I h40 78) (ez_I h40 79) (ez_I h40 80) T n c26 := by rw [zI_fn e41 77 (by decide), zI_fn e41 78 (by decide), zI_fn e41 79 (by decide), zI_fn e41 80 (by decide)]; exact hpm
  refine gw_ld rfl rfl ?_
  refine z_C (m := 0) rfl rfl (fun x51 ex51 => ?_)
  refine z_pI (zT S42 (by decide) rfl) (fun h52 e53 => ?_)
  have S54 := zSh_set S42 e53
  have F55 := zW_setF F43 e53 (by decide)
  have f56 : ez_I h52 71 0 = x7 := (zI_ne e53 (by decide)).trans (f44)
  have f57 : ez_I h52 71 14 = (ez_I h24 71 14) := (zI_ne e53 (by decide)).trans (f45)
  have f58 : ez_I h52 71 15 = x51 := zI_eq e53
  have f59 : ez_I h52 71 16 = x39 := (zI_ne e53 (by decide)).trans (f47)
  have f60 : ez_I h52 71 17 = (ez_I h24 71 17) := (zI_ne e53 (by decide)).trans (f48)
  have f61 : ez_I h52 71 18 = (ez_I h24 71 18) := (zI_ne e53 (by decide)).trans (f49)
  have A62 : pmI (ez_I h52 77) (ez_I h52 78) (ez_I h52 79) (ez_I h52 80) T n c26 := by rw [zI_fn e53 77 (by decide), zI_fn e53 78 (by decide), zI_fn e53 79 (by decide), zI_fn e53 80 (by decide)]; exact A50
  clear A50
  refine z_C (m := 0) rfl rfl (fun x63 ex63 => ?_)
  refine gw_st rfl rfl rfl ?_
  show ez_gw _ _ _ _ _ _ _ _ [some (.ref 71), some (.int x63), none, none, none, none] _ _ _
  refine z_C (m := 0) rfl rfl (fun x64 ex64 => ?_)
  refine gw_st rfl rfl rfl ?_
  show ez_gw _ _ _ _ _ _ _ _ [some (.ref 71), some (.int x63), some (.int x64), none, none, none] _ _ _
  have t65 := congrArg Int32.toInt (f56)
  have t66 := congrArg Int32.toInt (f57)
  have t67 := congrArg Int32.toInt (f58)
  have t68 := congrArg Int32.toInt (f59)
  have t69 := congrArg Int32.toInt (f60)
  have t70 := congrArg Int32.toInt (f61)
  suffices tl : pw E (d + 3) 45 23 [some (.ref 71), some (.int x63), some (.int x64), none, none, none] [] h52 Q from ez_Wp_at tl rfl
  refine m_pk2 (T := T) (n := n) (c := c26) (b := (if c26 = 0 then 1 else (c26 + 599) / 600)) S54 (show mbC (ez_I h52 72) (ez_I h52 77) (ez_I h52 78) (ez_I h52 79) (ez_I h52 80) (ez_I h52 92) (ez_I h52 93) (ez_I h52 94) (ez_I h52 95) (ez_I h52 96) T n c26 from ⟨hn6, by omega, fun i hi => by rw [← hTT i hi]; exact tB_rng _ i, by rw [(show ez_I h52 72 = ez_I h 72 from zW_fn F55 72 x72_51 x72_52)]; exact fun i hi => hTT i hi, A62, hlt, hpe, (by rw [(show ez_I h52 92 = ez_I h 92 from zW_fn F55 92 x72_56 x72_57)]; exact t92), (by rw [(show ez_I h52 93 = ez_I h 93 from zW_fn F55 93 x72_58 x72_59)]; exact t93), (by rw [(show ez_I h52 94 = ez_I h 94 from zW_fn F55 94 x72_60 x72_61)]; exact t94), (by rw [(show ez_I h52 95 = ez_I h 95 from zW_fn F55 95 x72_62 x72_63)]; exact t95), (by rw [(show ez_I h52 96 = ez_I h 96 from zW_fn F55 96 x72_64 x72_65)]; exact t96)⟩) (by omega) (bn_0 c26).1 (show mS _ (0, 0) from ⟨rfl, by decide, fun i hi => by omega⟩) (by omega) (by rw [(show ez_I h52 75 = ez_I h 75 from zW_fn F55 75 x72_66 x72_67)]; exact hg) (by omega) (by omega) (fun h71 x72 F73 k74 k75 k76 k77 k78 k79 k80 => ?_)
  have F81 := zW_tr (zW_mono F55 x72_68 x72_69 x72_55) (zW_mono F73 x72_70 x72_71 x72_55)
  exact K _ _ F81 c26 (if c26 = 0 then 1 else (c26 + 599) / 600) (by rw [(show ez_I h71 71 14 = ez_I h52 71 14 from zW_f F73 x72_72 x72_73)]; omega) (by omega) hlt hpe (by rw [(show ez_I h71 77 = ez_I h52 77 from zW_fn F73 77 x72_74 x72_75), (show ez_I h71 78 = ez_I h52 78 from zW_fn F73 78 x72_76 x72_77), (show ez_I h71 79 = ez_I h52 79 from zW_fn F73 79 x72_78 x72_79), (show ez_I h71 80 = ez_I h52 80 from zW_fn F73 80 x72_80 x72_81)]; exact A62) k78 (bn_0 c26).1 k74 k75 k76 k77 k79 k80 (by rw [(show ez_I h71 71 0 = ez_I h52 71 0 from zW_f F73 x72_72 x72_82)]; omega)
