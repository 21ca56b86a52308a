/-! PRINTED by wip/pack: the class unpacks -/
theorem x58_65 : ∀ q k : Nat, (q = 4 ∧ k = 1) → (q = 69 ∧ k = 2 ∨ q = 69 ∧ k = 3 ∨ q = 69 ∧ k = 6 ∨ q = 29 ∧ k = 4 ∨ q = 36 ∧ k = 4 ∨ q = 43 ∧ k = 4 ∨ q = 50 ∧ k = 1 ∨ q = 69 ∧ k = 1 ∨ q = 4 ∧ k = 1) := fun q k hk => (.inr (.inr (.inr (.inr (.inr (.inr (.inr (.inr hk))))))))
theorem x58_66 : ∀ q : Nat, (q = 5) → (30 ≤ q ∧ q ≤ 35 ∨ 37 ≤ q ∧ q ≤ 42 ∨ 44 ≤ q ∧ q ≤ 49 ∨ q = 70 ∨ q = 51 ∨ q = 5) := fun q hk => (.inr (.inr (.inr (.inr (.inr hk)))))
theorem x58_67 : ∀ k : Nat, ¬ (51 = 4 ∧ k = 1) := fun k c => by omega
theorem x58_68 : ¬ (30 ≤ 2 ∧ 2 ≤ 35 ∨ 37 ≤ 2 ∧ 2 ≤ 42 ∨ 44 ≤ 2 ∧ 2 ≤ 49 ∨ 2 = 70 ∨ 2 = 51 ∨ 2 = 5) := by omega
theorem x58_69 : ¬ (2 = 69 ∧ 1 = 2 ∨ 2 = 69 ∧ 1 = 3 ∨ 2 = 69 ∧ 1 = 6 ∨ 2 = 29 ∧ 1 = 4 ∨ 2 = 36 ∧ 1 = 4 ∨ 2 = 43 ∧ 1 = 4 ∨ 2 = 50 ∧ 1 = 1 ∨ 2 = 69 ∧ 1 = 1 ∨ 2 = 4 ∧ 1 = 1) := by omega
theorem x58_70 : ¬ (30 ≤ 3 ∧ 3 ≤ 35 ∨ 37 ≤ 3 ∧ 3 ≤ 42 ∨ 44 ≤ 3 ∧ 3 ≤ 49 ∨ 3 = 70 ∨ 3 = 51 ∨ 3 = 5) := by omega
theorem x58_71 : ∀ k : Nat, ¬ (3 = 69 ∧ k = 2 ∨ 3 = 69 ∧ k = 3 ∨ 3 = 69 ∧ k = 6 ∨ 3 = 29 ∧ k = 4 ∨ 3 = 36 ∧ k = 4 ∨ 3 = 43 ∧ k = 4 ∨ 3 = 50 ∧ k = 1 ∨ 3 = 69 ∧ k = 1 ∨ 3 = 4 ∧ k = 1) := fun k c => by omega
theorem x58_72 : ¬ (30 ≤ 16 ∧ 16 ≤ 35 ∨ 37 ≤ 16 ∧ 16 ≤ 42 ∨ 44 ≤ 16 ∧ 16 ≤ 49 ∨ 16 = 70 ∨ 16 = 51 ∨ 16 = 5) := by omega
theorem x58_73 : ∀ k : Nat, ¬ (16 = 69 ∧ k = 2 ∨ 16 = 69 ∧ k = 3 ∨ 16 = 69 ∧ k = 6 ∨ 16 = 29 ∧ k = 4 ∨ 16 = 36 ∧ k = 4 ∨ 16 = 43 ∧ k = 4 ∨ 16 = 50 ∧ k = 1 ∨ 16 = 69 ∧ k = 1 ∨ 16 = 4 ∧ k = 1) := fun k c => by omega
theorem x58_74 : ¬ (30 ≤ 18 ∧ 18 ≤ 35 ∨ 37 ≤ 18 ∧ 18 ≤ 42 ∨ 44 ≤ 18 ∧ 18 ≤ 49 ∨ 18 = 70 ∨ 18 = 51 ∨ 18 = 5) := by omega
theorem x58_75 : ∀ k : Nat, ¬ (18 = 69 ∧ k = 2 ∨ 18 = 69 ∧ k = 3 ∨ 18 = 69 ∧ k = 6 ∨ 18 = 29 ∧ k = 4 ∨ 18 = 36 ∧ k = 4 ∨ 18 = 43 ∧ k = 4 ∨ 18 = 50 ∧ k = 1 ∨ 18 = 69 ∧ k = 1 ∨ 18 = 4 ∧ k = 1) := fun k c => by omega
theorem x58_76 : ¬ (30 ≤ 15 ∧ 15 ≤ 35 ∨ 37 ≤ 15 ∧ 15 ≤ 42 ∨ 44 ≤ 15 ∧ 15 ≤ 49 ∨ 15 = 70 ∨ 15 = 51 ∨ 15 = 5) := by omega
theorem x58_77 : ¬ (15 = 69 ∧ 4 = 2 ∨ 15 = 69 ∧ 4 = 3 ∨ 15 = 69 ∧ 4 = 6 ∨ 15 = 29 ∧ 4 = 4 ∨ 15 = 36 ∧ 4 = 4 ∨ 15 = 43 ∧ 4 = 4 ∨ 15 = 50 ∧ 4 = 1 ∨ 15 = 69 ∧ 4 = 1 ∨ 15 = 4 ∧ 4 = 1) := by omega
theorem x58_78 : ¬ (30 ≤ 19 ∧ 19 ≤ 35 ∨ 37 ≤ 19 ∧ 19 ≤ 42 ∨ 44 ≤ 19 ∧ 19 ≤ 49 ∨ 19 = 70 ∨ 19 = 51 ∨ 19 = 5) := by omega
theorem x58_79 : ∀ k : Nat, ¬ (19 = 69 ∧ k = 2 ∨ 19 = 69 ∧ k = 3 ∨ 19 = 69 ∧ k = 6 ∨ 19 = 29 ∧ k = 4 ∨ 19 = 36 ∧ k = 4 ∨ 19 = 43 ∧ k = 4 ∨ 19 = 50 ∧ k = 1 ∨ 19 = 69 ∧ k = 1 ∨ 19 = 4 ∧ k = 1) := fun k c => by omega
theorem x58_80 : ¬ (30 ≤ 23 ∧ 23 ≤ 35 ∨ 37 ≤ 23 ∧ 23 ≤ 42 ∨ 44 ≤ 23 ∧ 23 ≤ 49 ∨ 23 = 70 ∨ 23 = 51 ∨ 23 = 5) := by omega
theorem x58_81 : ∀ k : Nat, ¬ (23 = 69 ∧ k = 2 ∨ 23 = 69 ∧ k = 3 ∨ 23 = 69 ∧ k = 6 ∨ 23 = 29 ∧ k = 4 ∨ 23 = 36 ∧ k = 4 ∨ 23 = 43 ∧ k = 4 ∨ 23 = 50 ∧ k = 1 ∨ 23 = 69 ∧ k = 1 ∨ 23 = 4 ∧ k = 1) := fun k c => by omega
theorem x58_82 : ¬ (30 ≤ 25 ∧ 25 ≤ 35 ∨ 37 ≤ 25 ∧ 25 ≤ 42 ∨ 44 ≤ 25 ∧ 25 ≤ 49 ∨ 25 = 70 ∨ 25 = 51 ∨ 25 = 5) := by omega
theorem x58_83 : ∀ k : Nat, ¬ (25 = 69 ∧ k = 2 ∨ 25 = 69 ∧ k = 3 ∨ 25 = 69 ∧ k = 6 ∨ 25 = 29 ∧ k = 4 ∨ 25 = 36 ∧ k = 4 ∨ 25 = 43 ∧ k = 4 ∨ 25 = 50 ∧ k = 1 ∨ 25 = 69 ∧ k = 1 ∨ 25 = 4 ∧ k = 1) := fun k c => by omega
theorem x58_84 : ¬ (30 ≤ 22 ∧ 22 ≤ 35 ∨ 37 ≤ 22 ∧ 22 ≤ 42 ∨ 44 ≤ 22 ∧ 22 ≤ 49 ∨ 22 = 70 ∨ 22 = 51 ∨ 22 = 5) := by omega
theorem x58_85 : ¬ (22 = 69 ∧ 4 = 2 ∨ 22 = 69 ∧ 4 = 3 ∨ 22 = 69 ∧ 4 = 6 ∨ 22 = 29 ∧ 4 = 4 ∨ 22 = 36 ∧ 4 = 4 ∨ 22 = 43 ∧ 4 = 4 ∨ 22 = 50 ∧ 4 = 1 ∨ 22 = 69 ∧ 4 = 1 ∨ 22 = 4 ∧ 4 = 1) := by omega
theorem x58_86 : ¬ (30 ≤ 26 ∧ 26 ≤ 35 ∨ 37 ≤ 26 ∧ 26 ≤ 42 ∨ 44 ≤ 26 ∧ 26 ≤ 49 ∨ 26 = 70 ∨ 26 = 51 ∨ 26 = 5) := by omega
theorem x58_87 : ∀ k : Nat, ¬ (26 = 69 ∧ k = 2 ∨ 26 = 69 ∧ k = 3 ∨ 26 = 69 ∧ k = 6 ∨ 26 = 29 ∧ k = 4 ∨ 26 = 36 ∧ k = 4 ∨ 26 = 43 ∧ k = 4 ∨ 26 = 50 ∧ k = 1 ∨ 26 = 69 ∧ k = 1 ∨ 26 = 4 ∧ k = 1) := fun k c => by omega
theorem x58_88 : ∀ q k : Nat, (q = 69 ∧ k = 2 ∨ q = 69 ∧ k = 3 ∨ q = 69 ∧ k = 6 ∨ q = 29 ∧ k = 4 ∨ q = 36 ∧ k = 4 ∨ q = 43 ∧ k = 4 ∨ q = 50 ∧ k = 1 ∨ q = 69 ∧ k = 1) → (q = 69 ∧ k = 2 ∨ q = 69 ∧ k = 3 ∨ q = 69 ∧ k = 6 ∨ q = 29 ∧ k = 4 ∨ q = 36 ∧ k = 4 ∨ q = 43 ∧ k = 4 ∨ q = 50 ∧ k = 1 ∨ q = 69 ∧ k = 1 ∨ q = 4 ∧ k = 1) := fun q k hk => hk.elim (fun g => (.inl g)) (fun hk => hk.elim (fun g => (.inr (.inl g))) (fun hk => hk.elim (fun g => (.inr (.inr (.inl g)))) (fun hk => hk.elim (fun g => (.inr (.inr (.inr (.inl g))))) (fun hk => hk.elim (fun g => (.inr (.inr (.inr (.inr (.inl g)))))) (fun hk => hk.elim (fun g => (.inr (.inr (.inr (.inr (.inr (.inl g))))))) (fun hk => hk.elim (fun g => (.inr (.inr (.inr (.inr (.inr (.inr (.inl g)))))))) (fun hk => (.inr (.inr (.inr (.inr (.inr (.inr (.inr (.inl hk)))))))))))))))
theorem x58_89 : ∀ q : Nat, (30 ≤ q ∧ q ≤ 35 ∨ 37 ≤ q ∧ q ≤ 42 ∨ 44 ≤ q ∧ q ≤ 49 ∨ q = 70 ∨ q = 51) → (30 ≤ q ∧ q ≤ 35 ∨ 37 ≤ q ∧ q ≤ 42 ∨ 44 ≤ q ∧ q ≤ 49 ∨ q = 70 ∨ q = 51 ∨ q = 5) := fun q hk => hk.elim (fun g => (.inl g)) (fun hk => hk.elim (fun g => (.inr (.inl g))) (fun hk => hk.elim (fun g => (.inr (.inr (.inl g)))) (fun hk => hk.elim (fun g => (.inr (.inr (.inr (.inl g))))) (fun hk => (.inr (.inr (.inr (.inr (.inl hk)))))))))
set_option maxRecDepth 4000 in
set_option maxHeartbeats 2000000 in
theorem x_unpackF_L0 {E : Nat → Nat × (Nat → Int32)} {d : Nat} {Q : ez_Q} {h : ez_H}  (S : zSh h) (hE : zE E) (hM : zMem h) (hz : 0 ≤ (ez_I h 2 1).toInt ∧ (ez_I h 2 1).toInt ≤ 6000) (hb : aR (ez_I h 3) (ez_I h 2 1).toInt.toNat 0 255) (hL15 : aR (ez_I h 16) 288 0 15) (hct15 : ctC (ez_I h 18) (nL (ez_I h 16)) 288) (hcd15 : (ez_I h 15 4).toInt = (plN (nL (ez_I h 16)) 288 16 : Nat)) (hit15 : itI (ez_I h 19) (nL (ez_I h 16)) 288 288) (hL22 : aR (ez_I h 23) 288 0 15) (hct22 : ctC (ez_I h 25) (nL (ez_I h 23)) 288) (hcd22 : (ez_I h 22 4).toInt = (plN (nL (ez_I h 23)) 288 16 : Nat)) (hit22 : itI (ez_I h 26) (nL (ez_I h 23)) 288 288) (hF1 : ∀ k, k < 288 → nL (ez_I h 16) k = fxL k) (hF2 : ∀ k, k < 288 → nL (ez_I h 23) k = fxD k) (Ke : unL (tI (ez_I h 3)) (ez_I h 2 1).toInt.toNat (8 * (ez_I h 2 1).toInt.toNat) 0 (fun _ => 0) 0 = none → ∀ h2, zW (fun q k => q = 69 ∧ k = 2 ∨ q = 69 ∧ k = 3 ∨ q = 69 ∧ k = 6 ∨ q = 29 ∧ k = 4 ∨ q = 36 ∧ k = 4 ∨ q = 43 ∧ k = 4 ∨ q = 50 ∧ k = 1 ∨ q = 69 ∧ k = 1) (fun q => 30 ≤ q ∧ q ≤ 35 ∨ 37 ≤ q ∧ q ≤ 42 ∨ 44 ≤ q ∧ q ≤ 49 ∨ q = 70 ∨ q = 51) (fun _ => False) h h2 → Q (.inr 2) (ez_bump h2)) (K : ∀ h2 (x : Int32), zW (fun q k => q = 69 ∧ k = 2 ∨ q = 69 ∧ k = 3 ∨ q = 69 ∧ k = 6 ∨ q = 29 ∧ k = 4 ∨ q = 36 ∧ k = 4 ∨ q = 43 ∧ k = 4 ∨ q = 50 ∧ k = 1 ∨ q = 69 ∧ k = 1 ∨ q = 4 ∧ k = 1) (fun q => 30 ≤ q ∧ q ≤ 35 ∨ 37 ≤ q ∧ q ≤ 42 ∨ 44 ≤ q ∧ q ≤ 49 ∨ q = 70 ∨ q = 51 ∨ q = 5) (fun _ => False) h h2 → ∀ (o2 : Nat → Int) (m2 : Nat), unL (tI (ez_I h 3)) (ez_I h 2 1).toInt.toNat (8 * (ez_I h 2 1).toInt.toNat) 0 (fun _ => 0) 0 = some (o2, m2) → x.toInt = m2 → (ez_I h2 4 1).toInt = m2 → m2 ≤ 6000 → oR (ez_I h2 5) o2 m2 → Q (.inl (some (.int x))) h2) : ∀ N : Nat, (∀ (h2 : ez_H) (n : Int32) (p2 : Nat) (o2 : Nat → Int) (m2 : Nat) (dn : Nat), zW (fun q k => q = 69 ∧ k = 2 ∨ q = 69 ∧ k = 3 ∨ q = 69 ∧ k = 6 ∨ q = 29 ∧ k = 4 ∨ q = 36 ∧ k = 4 ∨ q = 43 ∧ k = 4 ∨ q = 50 ∧ k = 1 ∨ q = 69 ∧ k = 1 ∨ q = 4 ∧ k = 1) (fun q => 30 ≤ q ∧ q ≤ 35 ∨ 37 ≤ q ∧ q ≤ 42 ∨ 44 ≤ q ∧ q ≤ 49 ∨ q = 70 ∨ q = 51 ∨ q = 5) (fun _ => False) h h2 → (0 ≤ n.toInt ∧ n.toInt ≤ p2 ∧ (ez_I h2 69 6).toInt = p2 ∧ (p2 : Int) ≤ 8 * (ez_I h 2 1).toInt ∧ (ez_I h2 50 1).toInt = m2 ∧ m2 ≤ 6000 ∧ (ez_I h2 69 1).toInt = dn ∧ dn ≤ 1) → zW (fun q k => q = 69 ∧ k = 2 ∨ q = 69 ∧ k = 3 ∨ q = 69 ∧ k = 6 ∨ q = 29 ∧ k = 4 ∨ q = 36 ∧ k = 4 ∨ q = 43 ∧ k = 4 ∨ q = 50 ∧ k = 1 ∨ q = 69 ∧ k = 1) (fun q => 30 ≤ q ∧ q ≤ 35 ∨ 37 ≤ q ∧ q ≤ 42 ∨ 44 ≤ q ∧ q ≤ 49 ∨ q = 70 ∨ q = 51) (fun _ => False) h h2 → (dn = 0 → unL (tI (ez_I h 3)) (ez_I h 2 1).toInt.toNat (8 * (ez_I h 2 1).toInt.toNat) 0 (fun _ => 0) 0 = unL (tI (ez_I h 3)) (ez_I h 2 1).toInt.toNat (8 * (ez_I h 2 1).toInt.toNat) p2 o2 m2) ∧ (dn = 1 → unL (tI (ez_I h 3)) (ez_I h 2 1).toInt.toNat (8 * (ez_I h 2 1).toInt.toNat) 0 (fun _ => 0) 0 = some (o2, m2)) → oR (ez_I h2 51) o2 m2 → (100000 - n.toInt) < (N : Int) → pw E (d + 6) 13 9 [some (.ref 1), some (.int n)] [] h2 Q) := by
  intro N
  induction N with
  | zero => exact fun h2 n p2 o2 m2 dn F hinv A_fx A_sp A_or hm => absurd hm (by have w_n := z_rng n; omega)
  | succ N ih =>
    refine fun h2 n p2 o2 m2 dn F hinv A_fx A_sp A_or hm => ?_
    · skip
      have w_n := z_rng n
      have S2 := zW_sh F S
      have FX := A_fx
      apply ez_Wp_in
      show ez_gw _ _ _ _ _ _ (cz_13) _ _ _ _ _
      refine gw_skip _ ?_
      have r1 := z_rng (ez_I h2 69 2)
      have r2 := z_rng (ez_I h2 69 3)
      have r3 := z_rng (ez_I h2 69 6)
      have r4 := z_rng (ez_I h2 29 4)
      have r5 := z_rng (ez_I h2 36 4)
      have r6 := z_rng (ez_I h2 43 4)
      have r7 := z_rng (ez_I h2 50 1)
      have r8 := z_rng (ez_I h2 69 1)
      have r9 := z_rng (ez_I h2 4 1)
      refine gw_ld rfl rfl ?_
      refine z_C (m := 48000) rfl rfl (fun x10 ex10 => ?_)
      refine z_b2 (fun c11 => ?_) (fun c11 => ?_)
      · have c11 : x10.toInt < n.toInt := c11
        refine gw_skip _ ?_
        refine gw_ld rfl rfl ?_
        refine z_gR (q := 4) (zT S2 (by decide) rfl) (zRf S2 (by decide) (by decide) rfl) (by decide) ?_
        refine gw_ld rfl rfl ?_
        refine z_gR (q := 69) (zT S2 (by decide) rfl) (zRf S2 (by decide) (by decide) rfl) (by decide) ?_
        refine z_gR (q := 50) (zT S2 (by decide) rfl) (zRf S2 (by decide) (by decide) rfl) (by decide) ?_
        refine z_cl rfl rfl rfl rfl rfl rfl rfl rfl rfl rfl rfl (zT S2 (by decide) rfl) ?_
        refine c_become (p := 4) (q := 50) S2 (by decide) (by decide) (by decide) (by omega) (fun h12 F13 k14 k15 => ?_)
        have hout : oR (ez_I h12 5) o2 m2 := fun k hk => by rw [show ez_I h12 5 k = ez_I h2 51 k from k15 k (by omega)]; exact A_or k hk
        have S16 := zW_sh F13 S2
        have F17 := zW_tr F (zW_mono F13 (x58_65) (x58_66) (x58_6))
        have f18 : ez_I h12 69 2 = (ez_I h2 69 2) := (zW_f F13 (by decide) (by decide)).trans (rfl)
        have f19 : ez_I h12 69 3 = (ez_I h2 69 3) := (zW_f F13 (by decide) (by decide)).trans (rfl)
        have f20 : ez_I h12 69 6 = (ez_I h2 69 6) := (zW_f F13 (by decide) (by decide)).trans (rfl)
        have f21 : ez_I h12 29 4 = (ez_I h2 29 4) := (zW_f F13 (by decide) (by decide)).trans (rfl)
        have f22 : ez_I h12 36 4 = (ez_I h2 36 4) := (zW_f F13 (by decide) (by decide)).trans (rfl)
        have f23 : ez_I h12 43 4 = (ez_I h2 43 4) := (zW_f F13 (by decide) (by decide)).trans (rfl)
        have f24 : ez_I h12 50 1 = (ez_I h2 50 1) := (zW_f F13 (by decide) (by decide)).trans (rfl)
        have f25 : ez_I h12 69 1 = (ez_I h2 69 1) := (zW_f F13 (by decide) (by decide)).trans (rfl)
        have r26 := z_rng (ez_I h12 4 1)
        have A27 : oR (ez_I h12 51) o2 m2 := by rw [zW_fn F13 51 (by decide) (x58_67)]; exact A_or
        refine gw_ld rfl rfl ?_
        refine z_gR (q := 4) (zT S16 (by decide) rfl) (zRf S16 (by decide) (by decide) rfl) (by decide) ?_
        refine z_gI2 (by decide) (zT S16 (by decide) rfl) (rfl) ?_
        refine z_ri ?_
        have t28 := congrArg Int32.toInt (f18)
        have t29 := congrArg Int32.toInt (f19)
        have t30 := congrArg Int32.toInt (f20)
        have t31 := congrArg Int32.toInt (f21)
        have t32 := congrArg Int32.toInt (f22)
        have t33 := congrArg Int32.toInt (f23)
        have t34 := congrArg Int32.toInt (f24)
        have t35 := congrArg Int32.toInt (f25)
        exact K _ _ F17 o2 m2 (A_sp.2 (by omega)) (by omega) (by omega) (by omega) hout
      · have c11 : ¬ (x10.toInt < n.toInt) := c11
        refine gw_ld rfl rfl ?_
        refine z_gR (q := 69) (zT S2 (by decide) rfl) (zRf S2 (by decide) (by decide) rfl) (by decide) ?_
        refine z_gI2 (by decide) (zT S2 (by decide) rfl) (rfl) ?_
        refine z_b1 (fun c36 => ?_) (fun c36 => ?_)
        · have c36 : ((ez_I h2 69 1)).toInt ≠ 0 := c36
          refine gw_skip _ ?_
          refine gw_ld rfl rfl ?_
          refine z_gR (q := 4) (zT S2 (by decide) rfl) (zRf S2 (by decide) (by decide) rfl) (by decide) ?_
          refine gw_ld rfl rfl ?_
          refine z_gR (q := 69) (zT S2 (by decide) rfl) (zRf S2 (by decide) (by decide) rfl) (by decide) ?_
          refine z_gR (q := 50) (zT S2 (by decide) rfl) (zRf S2 (by decide) (by decide) rfl) (by decide) ?_
          refine z_cl rfl rfl rfl rfl rfl rfl rfl rfl rfl rfl rfl (zT S2 (by decide) rfl) ?_
          refine c_become (p := 4) (q := 50) S2 (by decide) (by decide) (by decide) (by omega) (fun h37 F38 k39 k40 => ?_)
          have hout : oR (ez_I h37 5) o2 m2 := fun k hk => by rw [show ez_I h37 5 k = ez_I h2 51 k from k40 k (by omega)]; exact A_or k hk
          have S41 := zW_sh F38 S2
          have F42 := zW_tr F (zW_mono F38 (x58_65) (x58_66) (x58_6))
          have f43 : ez_I h37 69 2 = (ez_I h2 69 2) := (zW_f F38 (by decide) (by decide)).trans (rfl)
          have f44 : ez_I h37 69 3 = (ez_I h2 69 3) := (zW_f F38 (by decide) (by decide)).trans (rfl)
          have f45 : ez_I h37 69 6 = (ez_I h2 69 6) := (zW_f F38 (by decide) (by decide)).trans (rfl)
          have f46 : ez_I h37 29 4 = (ez_I h2 29 4) := (zW_f F38 (by decide) (by decide)).trans (rfl)
          have f47 : ez_I h37 36 4 = (ez_I h2 36 4) := (zW_f F38 (by decide) (by decide)).trans (rfl)
          have f48 : ez_I h37 43 4 = (ez_I h2 43 4) := (zW_f F38 (by decide) (by decide)).trans (rfl)
          have f49 : ez_I h37 50 1 = (ez_I h2 50 1) := (zW_f F38 (by decide) (by decide)).trans (rfl)
          have f50 : ez_I h37 69 1 = (ez_I h2 69 1) := (zW_f F38 (by decide) (by decide)).trans (rfl)
          have r51 := z_rng (ez_I h37 4 1)
          have A52 : oR (ez_I h37 51) o2 m2 := by rw [zW_fn F38 51 (by decide) (x58_67)]; exact A_or
          refine gw_ld rfl rfl ?_
          refine z_gR (q := 4) (zT S41 (by decide) rfl) (zRf S41 (by decide) (by decide) rfl) (by decide) ?_
          refine z_gI2 (by decide) (zT S41 (by decide) rfl) (rfl) ?_
          refine z_ri ?_
          have t53 := congrArg Int32.toInt (f43)
          have t54 := congrArg Int32.toInt (f44)
          have t55 := congrArg Int32.toInt (f45)
          have t56 := congrArg Int32.toInt (f46)
          have t57 := congrArg Int32.toInt (f47)
          have t58 := congrArg Int32.toInt (f48)
          have t59 := congrArg Int32.toInt (f49)
          have t60 := congrArg Int32.toInt (f50)
          exact K _ _ F42 o2 m2 (A_sp.2 (by omega)) (by omega) (by omega) (by omega) hout
        · have c36 : ¬ (((ez_I h2 69 1)).toInt ≠ 0) := c36
          refine gw_ld rfl rfl ?_
          refine z_gR (q := 69) (zT S2 (by decide) rfl) (zRf S2 (by decide) (by decide) rfl) (by decide) ?_
          refine gw_ld rfl rfl ?_
          refine z_gR (q := 2) (zT S2 (by decide) rfl) (zRf S2 (by decide) (by decide) rfl) (by decide) ?_
          refine z_cl rfl rfl rfl rfl rfl rfl rfl rfl rfl rfl rfl (zT S2 (by decide) rfl) ?_
          refine c_rBlock (o := o2) S2 hE (zMw F hM) (by rw [(show ez_I h2 2 1 = ez_I h 2 1 from zW_f F x58_68 x58_69)]; exact hz) (by rw [(show ez_I h2 2 1 = ez_I h 2 1 from zW_f F x58_68 x58_69), (show ez_I h2 3 = ez_I h 3 from zW_fn F 3 x58_70 x58_71)]; exact hb) (by rw [(show ez_I h2 2 1 = ez_I h 2 1 from zW_f F x58_68 x58_69)]; omega) (by omega) (by rw [show (ez_I h2 50 1).toInt.toNat = m2 by omega]; exact A_or) (show aR (ez_I h2 16) 288 0 15 by rw [(show ez_I h2 16 = ez_I h 16 from zW_fn F 16 x58_72 x58_73)]; exact hL15) (show ctC (ez_I h2 18) (nL (ez_I h2 16)) 288 by rw [(show ez_I h2 18 = ez_I h 18 from zW_fn F 18 x58_74 x58_75), (show ez_I h2 16 = ez_I h 16 from zW_fn F 16 x58_72 x58_73)]; exact hct15) (show (ez_I h2 15 4).toInt = (plN (nL (ez_I h2 16)) 288 16 : Nat) by rw [(show ez_I h2 15 4 = ez_I h 15 4 from zW_f F x58_76 x58_77), (show ez_I h2 16 = ez_I h 16 from zW_fn F 16 x58_72 x58_73)]; exact hcd15) (show itI (ez_I h2 19) (nL (ez_I h2 16)) 288 288 by rw [(show ez_I h2 19 = ez_I h 19 from zW_fn F 19 x58_78 x58_79), (show ez_I h2 16 = ez_I h 16 from zW_fn F 16 x58_72 x58_73)]; exact hit15) (show aR (ez_I h2 23) 288 0 15 by rw [(show ez_I h2 23 = ez_I h 23 from zW_fn F 23 x58_80 x58_81)]; exact hL22) (show ctC (ez_I h2 25) (nL (ez_I h2 23)) 288 by rw [(show ez_I h2 25 = ez_I h 25 from zW_fn F 25 x58_82 x58_83), (show ez_I h2 23 = ez_I h 23 from zW_fn F 23 x58_80 x58_81)]; exact hct22) (show (ez_I h2 22 4).toInt = (plN (nL (ez_I h2 23)) 288 16 : Nat) by rw [(show ez_I h2 22 4 = ez_I h 22 4 from zW_f F x58_84 x58_85), (show ez_I h2 23 = ez_I h 23 from zW_fn F 23 x58_80 x58_81)]; exact hcd22) (show itI (ez_I h2 26) (nL (ez_I h2 23)) 288 288 by rw [(show ez_I h2 26 = ez_I h 26 from zW_fn F 26 x58_86 x58_87), (show ez_I h2 23 = ez_I h 23 from zW_fn F 23 x58_80 x58_81)]; exact hit22) (by rw [(show ez_I h2 16 = ez_I h 16 from zW_fn F 16 x58_72 x58_73)]; exact hF1) (by rw [(show ez_I h2 23 = ez_I h 23 from zW_fn F 23 x58_80 x58_81)]; exact hF2) (fun qn hh FF => Ke (by have q2 : blU (tI (ez_I h2 3)) (ez_I h2 2 1).toInt.toNat (ez_I h2 69 6).toInt.toNat o2 (ez_I h2 50 1).toInt.toNat = none := qn; rw [(show ez_I h2 3 = ez_I h 3 from zW_fn F 3 x58_70 x58_71), (show ez_I h2 2 1 = ez_I h 2 1 from zW_f F x58_68 x58_69), show (ez_I h2 69 6).toInt.toNat = p2 by omega, show (ez_I h2 50 1).toInt.toNat = m2 by omega] at q2; exact (A_sp.1 (by omega)).trans (unL_n q2)) hh (zW_tr FX FF)) (fun h61 F62 q63 o64 m65 k66 k67 k68 k69 k70 k71 => ?_)
          have hsp : blU (tI (ez_I h2 3)) (ez_I h2 2 1).toInt.toNat (ez_I h2 69 6).toInt.toNat o2 (ez_I h2 50 1).toInt.toNat = some (q63, o64, m65) := k66
          rw [(show ez_I h2 3 = ez_I h 3 from zW_fn F 3 x58_70 x58_71), (show ez_I h2 2 1 = ez_I h 2 1 from zW_f F x58_68 x58_69), show (ez_I h2 69 6).toInt.toNat = p2 by omega, show (ez_I h2 50 1).toInt.toNat = m2 by omega] at hsp
          rw [(show ez_I h2 3 = ez_I h 3 from zW_fn F 3 x58_70 x58_71), show (ez_I h2 69 6).toInt.toNat = p2 by omega] at k71
          have hbo : p2 < q63 ∧ q63 ≤ 8 * (ez_I h 2 1).toInt.toNat := blU_ok hsp
          have hb2 := bitT_2 (tI (ez_I h 3)) p2
          have FX2 := zW_tr FX F62
          have S72 := zW_sh F62 S2
          have F73 := zW_tr F (zW_mono F62 (x58_88) (x58_89) (x58_6))
          have r74 := z_rng (ez_I h61 69 2)
          have r75 := z_rng (ez_I h61 69 3)
          have r76 := z_rng (ez_I h61 69 6)
          have r77 := z_rng (ez_I h61 29 4)
          have r78 := z_rng (ez_I h61 36 4)
          have r79 := z_rng (ez_I h61 43 4)
          have r80 := z_rng (ez_I h61 50 1)
          have r81 := z_rng (ez_I h61 69 1)
          have f82 : ez_I h61 4 1 = (ez_I h2 4 1) := (zW_f F62 (by decide) (by decide)).trans (rfl)
          refine z_inc rfl (by rw [show (1 : Int32).toInt = 1 from rfl]; omega) (fun x83 ex83 => ?_)
          rw [show (1 : Int32).toInt = 1 from rfl] at ex83
          show ez_gw _ _ _ _ _ _ _ _ [some (.ref 1), some (.int x83)] _ _ _
          refine z_go ?_
          have t84 := congrArg Int32.toInt (f82)
          exact ih h61 x83 q63 o64 m65 (bitT (tI (ez_I h 3)) p2) F73 (by omega) (FX2) (⟨fun q => (A_sp.1 (by omega)).trans (unL_y hsp (by omega)), fun q => (A_sp.1 (by omega)).trans (unL_z hsp (by omega))⟩) (k70) (by omega)
theorem x58_90 : ∀ q k : Nat, (q = 50 ∧ k = 1 ∨ q = 69 ∧ k = 1 ∨ q = 69 ∧ k = 2 ∨ q = 69 ∧ k = 3 ∨ q = 69 ∧ k = 6) → (q = 69 ∧ k = 2 ∨ q = 69 ∧ k = 3 ∨ q = 69 ∧ k = 6 ∨ q = 29 ∧ k = 4 ∨ q = 36 ∧ k = 4 ∨ q = 43 ∧ k = 4 ∨ q = 50 ∧ k = 1 ∨ q = 69 ∧ k = 1 ∨ q = 4 ∧ k = 1) := fun q k hk => hk.elim (fun g => (.inr (.inr (.inr (.inr (.inr (.inr (.inl g)))))))) (fun hk => hk.elim (fun g => (.inr (.inr (.inr (.inr (.inr (.inr (.inr (.inl g))))))))) (fun hk => hk.elim (fun g => (.inl g)) (fun hk => hk.elim (fun g => (.inr (.inl g))) (fun hk => (.inr (.inr (.inl hk)))))))
theorem x58_91 : ∀ q : Nat, (False) → (30 ≤ q ∧ q ≤ 35 ∨ 37 ≤ q ∧ q ≤ 42 ∨ 44 ≤ q ∧ q ≤ 49 ∨ q = 70 ∨ q = 51 ∨ q = 5) := fun q hk => hk.elim
theorem x58_92 : ∀ q k : Nat, (q = 50 ∧ k = 1 ∨ q = 69 ∧ k = 1 ∨ q = 69 ∧ k = 2 ∨ q = 69 ∧ k = 3 ∨ q = 69 ∧ k = 6) → (q = 69 ∧ k = 2 ∨ q = 69 ∧ k = 3 ∨ q = 69 ∧ k = 6 ∨ q = 29 ∧ k = 4 ∨ q = 36 ∧ k = 4 ∨ q = 43 ∧ k = 4 ∨ q = 50 ∧ k = 1 ∨ q = 69 ∧ k = 1) := fun q k hk => hk.elim (fun g => (.inr (.inr (.inr (.inr (.inr (.inr (.inl g)))))))) (fun hk => hk.elim (fun g => (.inr (.inr (.inr (.inr (.inr (.inr (.inr g)))))))) (fun hk => hk.elim (fun g => (.inl g)) (fun hk => hk.elim (fun g => (.inr (.inl g))) (fun hk => (.inr (.inr (.inl hk)))))))
set_option maxRecDepth 4000 in
set_option maxHeartbeats 2000000 in
theorem x_unpackF {E : Nat → Nat × (Nat → Int32)} {d : Nat} {Q : ez_Q} {h : ez_H}  (S : zSh h) (hE : zE E) (hM : zMem h) (hz : 0 ≤ (ez_I h 2 1).toInt ∧ (ez_I h 2 1).toInt ≤ 6000) (hb : aR (ez_I h 3) (ez_I h 2 1).toInt.toNat 0 255) (hL15 : aR (ez_I h 16) 288 0 15) (hct15 : ctC (ez_I h 18) (nL (ez_I h 16)) 288) (hcd15 : (ez_I h 15 4).toInt = (plN (nL (ez_I h 16)) 288 16 : Nat)) (hit15 : itI (ez_I h 19) (nL (ez_I h 16)) 288 288) (hL22 : aR (ez_I h 23) 288 0 15) (hct22 : ctC (ez_I h 25) (nL (ez_I h 23)) 288) (hcd22 : (ez_I h 22 4).toInt = (plN (nL (ez_I h 23)) 288 16 : Nat)) (hit22 : itI (ez_I h 26) (nL (ez_I h 23)) 288 288) (hF1 : ∀ k, k < 288 → nL (ez_I h 16) k = fxL k) (hF2 : ∀ k, k < 288 → nL (ez_I h 23) k = fxD k) (Ke : unL (tI (ez_I h 3)) (ez_I h 2 1).toInt.toNat (8 * (ez_I h 2 1).toInt.toNat) 0 (fun _ => 0) 0 = none → ∀ h2, zW (fun q k => q = 69 ∧ k = 2 ∨ q = 69 ∧ k = 3 ∨ q = 69 ∧ k = 6 ∨ q = 29 ∧ k = 4 ∨ q = 36 ∧ k = 4 ∨ q = 43 ∧ k = 4 ∨ q = 50 ∧ k = 1 ∨ q = 69 ∧ k = 1) (fun q => 30 ≤ q ∧ q ≤ 35 ∨ 37 ≤ q ∧ q ≤ 42 ∨ 44 ≤ q ∧ q ≤ 49 ∨ q = 70 ∨ q = 51) (fun _ => False) h h2 → Q (.inr 2) (ez_bump h2)) (K : ∀ h2 (x : Int32), zW (fun q k => q = 69 ∧ k = 2 ∨ q = 69 ∧ k = 3 ∨ q = 69 ∧ k = 6 ∨ q = 29 ∧ k = 4 ∨ q = 36 ∧ k = 4 ∨ q = 43 ∧ k = 4 ∨ q = 50 ∧ k = 1 ∨ q = 69 ∧ k = 1 ∨ q = 4 ∧ k = 1) (fun q => 30 ≤ q ∧ q ≤ 35 ∨ 37 ≤ q ∧ q ≤ 42 ∨ 44 ≤ q ∧ q ≤ 49 ∨ q = 70 ∨ q = 51 ∨ q = 5) (fun _ => False) h h2 → ∀ (o2 : Nat → Int) (m2 : Nat), unL (tI (ez_I h 3)) (ez_I h 2 1).toInt.toNat (8 * (ez_I h 2 1).toInt.toNat) 0 (fun _ => 0) 0 = some (o2, m2) → x.toInt = m2 → (ez_I h2 4 1).toInt = m2 → m2 ≤ 6000 → oR (ez_I h2 5) o2 m2 → Q (.inl (some (.int x))) h2) : pw E (d + 6) 13 0 [some (.ref 1), none] [] h Q := by
  have F := zW_refl (fun q k => q = 69 ∧ k = 2 ∨ q = 69 ∧ k = 3 ∨ q = 69 ∧ k = 6 ∨ q = 29 ∧ k = 4 ∨ q = 36 ∧ k = 4 ∨ q = 43 ∧ k = 4 ∨ q = 50 ∧ k = 1 ∨ q = 69 ∧ k = 1 ∨ q = 4 ∧ k = 1) (fun q => 30 ≤ q ∧ q ≤ 35 ∨ 37 ≤ q ∧ q ≤ 42 ∨ 44 ≤ q ∧ q ≤ 49 ∨ q = 70 ∨ q = 51 ∨ q = 5) (fun _ => False) h
  apply ez_Wp_in
  show ez_gw _ _ _ _ _ _ (cz_13) _ _ _ _ _
  refine gw_skip _ ?_
  have r1 := z_rng (ez_I h 69 2)
  have r2 := z_rng (ez_I h 69 3)
  have r3 := z_rng (ez_I h 69 6)
  have r4 := z_rng (ez_I h 29 4)
  have r5 := z_rng (ez_I h 36 4)
  have r6 := z_rng (ez_I h 43 4)
  have r7 := z_rng (ez_I h 50 1)
  have r8 := z_rng (ez_I h 69 1)
  have r9 := z_rng (ez_I h 4 1)
  refine gw_ld rfl rfl ?_
  refine z_gR (q := 69) (zT S (by decide) rfl) (zRf S (by decide) (by decide) rfl) (by decide) ?_
  refine z_cl rfl rfl rfl rfl rfl rfl rfl rfl rfl rfl rfl (zT S (by decide) rfl) ?_
  refine c_ubegin S (fun h10 F11 k12 k13 k14 k15 => ?_)
  have S16 := zW_sh F11 S
  have F17 := zW_tr F (zW_mono F11 (x58_90) (x58_91) (x58_6))
  have r18 := z_rng (ez_I h10 69 2)
  have r19 := z_rng (ez_I h10 69 3)
  have r20 := z_rng (ez_I h10 69 6)
  have f21 : ez_I h10 29 4 = (ez_I h 29 4) := (zW_f F11 (fun c => c) (by decide)).trans (rfl)
  have f22 : ez_I h10 36 4 = (ez_I h 36 4) := (zW_f F11 (fun c => c) (by decide)).trans (rfl)
  have f23 : ez_I h10 43 4 = (ez_I h 43 4) := (zW_f F11 (fun c => c) (by decide)).trans (rfl)
  have r24 := z_rng (ez_I h10 50 1)
  have r25 := z_rng (ez_I h10 69 1)
  have f26 : ez_I h10 4 1 = (ez_I h 4 1) := (zW_f F11 (fun c => c) (by decide)).trans (rfl)
  have FX0 : zW (fun q k => q = 69 ∧ k = 2 ∨ q = 69 ∧ k = 3 ∨ q = 69 ∧ k = 6 ∨ q = 29 ∧ k = 4 ∨ q = 36 ∧ k = 4 ∨ q = 43 ∧ k = 4 ∨ q = 50 ∧ k = 1 ∨ q = 69 ∧ k = 1) (fun q => 30 ≤ q ∧ q ≤ 35 ∨ 37 ≤ q ∧ q ≤ 42 ∨ 44 ≤ q ∧ q ≤ 49 ∨ q = 70 ∨ q = 51) (fun _ => False) h h10 := zW_mono F11 x58_92 x58_42 (fun q hk => hk)
  refine z_C (m := 0) rfl rfl (fun x27 ex27 => ?_)
  refine gw_st rfl rfl rfl ?_
  show ez_gw _ _ _ _ _ _ _ _ [some (.ref 1), some (.int x27)] _ _ _
  have t28 := congrArg Int32.toInt (f21)
  have t29 := congrArg Int32.toInt (f22)
  have t30 := congrArg Int32.toInt (f23)
  have t31 := congrArg Int32.toInt (f26)
  exact ez_Wp_at ((x_unpackF_L0  S hE hM hz hb hL15 hct15 hcd15 hit15 hL22 hct22 hcd22 hit22 hF1 hF2 Ke K (((100000 - x27.toInt)).toNat + 1)) h10 x27 0 (fun _ => 0) 0 0 F17 (by omega) (FX0) (⟨fun _ => rfl, fun q => by exfalso; omega⟩) ((fun k hk => by omega)) (by omega)) rfl
