section
/-! PRINTED by wip/pack: the class reads a block -/
theorem x58_37 : ¬ (30 ≤ 2 ∧ 2 ≤ 35 ∨ 37 ≤ 2 ∧ 2 ≤ 42 ∨ 44 ≤ 2 ∧ 2 ≤ 49 ∨ 2 = 70 ∨ 2 = 51) := by omega
theorem x58_38 : ¬ (2 = 69 ∧ 1 = 2 ∨ 2 = 69 ∧ 1 = 3 ∨ 2 = 69 ∧ 1 = 6 ∨ 2 = 29 ∧ 1 = 4 ∨ 2 = 36 ∧ 1 = 4 ∨ 2 = 43 ∧ 1 = 4 ∨ 2 = 50 ∧ 1 = 1 ∨ 2 = 69 ∧ 1 = 1) := by omega
theorem x58_39 : ¬ (30 ≤ 3 ∧ 3 ≤ 35 ∨ 37 ≤ 3 ∧ 3 ≤ 42 ∨ 44 ≤ 3 ∧ 3 ≤ 49 ∨ 3 = 70 ∨ 3 = 51) := by omega
theorem x58_40 : ∀ k : Nat, ¬ (3 = 69 ∧ k = 2 ∨ 3 = 69 ∧ k = 3 ∨ 3 = 69 ∧ k = 6 ∨ 3 = 29 ∧ k = 4 ∨ 3 = 36 ∧ k = 4 ∨ 3 = 43 ∧ k = 4 ∨ 3 = 50 ∧ k = 1 ∨ 3 = 69 ∧ k = 1) := fun k c => by omega
theorem x58_41 : ∀ q k : Nat, (q = 69 ∧ k = 2 ∨ q = 69 ∧ k = 3 ∨ q = 69 ∧ k = 6) → (q = 69 ∧ k = 2 ∨ q = 69 ∧ k = 3 ∨ q = 69 ∧ k = 6 ∨ q = 29 ∧ k = 4 ∨ q = 36 ∧ k = 4 ∨ q = 43 ∧ k = 4 ∨ q = 50 ∧ k = 1 ∨ q = 69 ∧ k = 1) := fun q k hk => hk.elim (fun g => (.inl g)) (fun hk => hk.elim (fun g => (.inr (.inl g))) (fun hk => (.inr (.inr (.inl hk)))))
theorem x58_42 : ∀ q : Nat, (False) → (30 ≤ q ∧ q ≤ 35 ∨ 37 ≤ q ∧ q ≤ 42 ∨ 44 ≤ q ∧ q ≤ 49 ∨ q = 70 ∨ q = 51) := fun q hk => hk.elim
theorem x58_43 : ∀ k : Nat, ¬ (51 = 69 ∧ k = 2 ∨ 51 = 69 ∧ k = 3 ∨ 51 = 69 ∧ k = 6) := fun k c => by omega
theorem x58_44 : ∀ q k : Nat, (q = 69 ∧ k = 2 ∨ q = 69 ∧ k = 3 ∨ q = 69 ∧ k = 6 ∨ q = 29 ∧ k = 4 ∨ q = 36 ∧ k = 4 ∨ q = 43 ∧ k = 4) → (q = 69 ∧ k = 2 ∨ q = 69 ∧ k = 3 ∨ q = 69 ∧ k = 6 ∨ q = 29 ∧ k = 4 ∨ q = 36 ∧ k = 4 ∨ q = 43 ∧ k = 4 ∨ q = 50 ∧ k = 1 ∨ q = 69 ∧ k = 1) := fun q k hk => hk.elim (fun g => (.inl g)) (fun hk => hk.elim (fun g => (.inr (.inl g))) (fun hk => hk.elim (fun g => (.inr (.inr (.inl g)))) (fun hk => hk.elim (fun g => (.inr (.inr (.inr (.inl g))))) (fun hk => hk.elim (fun g => (.inr (.inr (.inr (.inr (.inl g)))))) (fun hk => (.inr (.inr (.inr (.inr (.inr (.inl hk)))))))))))
theorem x58_45 : ∀ q : Nat, (30 ≤ q ∧ q ≤ 35 ∨ 37 ≤ q ∧ q ≤ 42 ∨ 44 ≤ q ∧ q ≤ 49 ∨ q = 70) → (30 ≤ q ∧ q ≤ 35 ∨ 37 ≤ q ∧ q ≤ 42 ∨ 44 ≤ q ∧ q ≤ 49 ∨ q = 70 ∨ q = 51) := fun q hk => hk.elim (fun g => (.inl g)) (fun hk => hk.elim (fun g => (.inr (.inl g))) (fun hk => hk.elim (fun g => (.inr (.inr (.inl g)))) (fun hk => (.inr (.inr (.inr (.inl hk)))))))
theorem x58_46 : ∀ k : Nat, ¬ (51 = 69 ∧ k = 2 ∨ 51 = 69 ∧ k = 3 ∨ 51 = 69 ∧ k = 6 ∨ 51 = 29 ∧ k = 4 ∨ 51 = 36 ∧ k = 4 ∨ 51 = 43 ∧ k = 4) := fun k c => by omega
theorem x58_47 : ∀ q k : Nat, (q = 69 ∧ k = 2 ∨ q = 69 ∧ k = 3 ∨ q = 69 ∧ k = 6 ∨ q = 50 ∧ k = 1) → (q = 69 ∧ k = 2 ∨ q = 69 ∧ k = 3 ∨ q = 69 ∧ k = 6 ∨ q = 29 ∧ k = 4 ∨ q = 36 ∧ k = 4 ∨ q = 43 ∧ k = 4 ∨ q = 50 ∧ k = 1 ∨ q = 69 ∧ k = 1) := fun q k hk => hk.elim (fun g => (.inl g)) (fun hk => hk.elim (fun g => (.inr (.inl g))) (fun hk => hk.elim (fun g => (.inr (.inr (.inl g)))) (fun hk => (.inr (.inr (.inr (.inr (.inr (.inr (.inl hk))))))))))
theorem x58_48 : ∀ q : Nat, (q = 51) → (30 ≤ q ∧ q ≤ 35 ∨ 37 ≤ q ∧ q ≤ 42 ∨ 44 ≤ q ∧ q ≤ 49 ∨ q = 70 ∨ q = 51) := fun q hk => (.inr (.inr (.inr (.inr hk))))
theorem x58_49 : ¬ (30 ≤ 16 ∧ 16 ≤ 35 ∨ 37 ≤ 16 ∧ 16 ≤ 42 ∨ 44 ≤ 16 ∧ 16 ≤ 49 ∨ 16 = 70 ∨ 16 = 51) := by omega
theorem x58_50 : ∀ k : Nat, ¬ (16 = 69 ∧ k = 2 ∨ 16 = 69 ∧ k = 3 ∨ 16 = 69 ∧ k = 6 ∨ 16 = 29 ∧ k = 4 ∨ 16 = 36 ∧ k = 4 ∨ 16 = 43 ∧ k = 4 ∨ 16 = 50 ∧ k = 1 ∨ 16 = 69 ∧ k = 1) := fun k c => by omega
theorem x58_51 : ¬ (30 ≤ 18 ∧ 18 ≤ 35 ∨ 37 ≤ 18 ∧ 18 ≤ 42 ∨ 44 ≤ 18 ∧ 18 ≤ 49 ∨ 18 = 70 ∨ 18 = 51) := by omega
theorem x58_52 : ∀ k : Nat, ¬ (18 = 69 ∧ k = 2 ∨ 18 = 69 ∧ k = 3 ∨ 18 = 69 ∧ k = 6 ∨ 18 = 29 ∧ k = 4 ∨ 18 = 36 ∧ k = 4 ∨ 18 = 43 ∧ k = 4 ∨ 18 = 50 ∧ k = 1 ∨ 18 = 69 ∧ k = 1) := fun k c => by omega
theorem x58_53 : ¬ (30 ≤ 15 ∧ 15 ≤ 35 ∨ 37 ≤ 15 ∧ 15 ≤ 42 ∨ 44 ≤ 15 ∧ 15 ≤ 49 ∨ 15 = 70 ∨ 15 = 51) := by omega
theorem x58_54 : ¬ (15 = 69 ∧ 4 = 2 ∨ 15 = 69 ∧ 4 = 3 ∨ 15 = 69 ∧ 4 = 6 ∨ 15 = 29 ∧ 4 = 4 ∨ 15 = 36 ∧ 4 = 4 ∨ 15 = 43 ∧ 4 = 4 ∨ 15 = 50 ∧ 4 = 1 ∨ 15 = 69 ∧ 4 = 1) := by omega
theorem x58_55 : ¬ (30 ≤ 19 ∧ 19 ≤ 35 ∨ 37 ≤ 19 ∧ 19 ≤ 42 ∨ 44 ≤ 19 ∧ 19 ≤ 49 ∨ 19 = 70 ∨ 19 = 51) := by omega
theorem x58_56 : ∀ k : Nat, ¬ (19 = 69 ∧ k = 2 ∨ 19 = 69 ∧ k = 3 ∨ 19 = 69 ∧ k = 6 ∨ 19 = 29 ∧ k = 4 ∨ 19 = 36 ∧ k = 4 ∨ 19 = 43 ∧ k = 4 ∨ 19 = 50 ∧ k = 1 ∨ 19 = 69 ∧ k = 1) := fun k c => by omega
theorem x58_57 : ¬ (30 ≤ 23 ∧ 23 ≤ 35 ∨ 37 ≤ 23 ∧ 23 ≤ 42 ∨ 44 ≤ 23 ∧ 23 ≤ 49 ∨ 23 = 70 ∨ 23 = 51) := by omega
theorem x58_58 : ∀ k : Nat, ¬ (23 = 69 ∧ k = 2 ∨ 23 = 69 ∧ k = 3 ∨ 23 = 69 ∧ k = 6 ∨ 23 = 29 ∧ k = 4 ∨ 23 = 36 ∧ k = 4 ∨ 23 = 43 ∧ k = 4 ∨ 23 = 50 ∧ k = 1 ∨ 23 = 69 ∧ k = 1) := fun k c => by omega
theorem x58_59 : ¬ (30 ≤ 25 ∧ 25 ≤ 35 ∨ 37 ≤ 25 ∧ 25 ≤ 42 ∨ 44 ≤ 25 ∧ 25 ≤ 49 ∨ 25 = 70 ∨ 25 = 51) := by omega
theorem x58_60 : ∀ k : Nat, ¬ (25 = 69 ∧ k = 2 ∨ 25 = 69 ∧ k = 3 ∨ 25 = 69 ∧ k = 6 ∨ 25 = 29 ∧ k = 4 ∨ 25 = 36 ∧ k = 4 ∨ 25 = 43 ∧ k = 4 ∨ 25 = 50 ∧ k = 1 ∨ 25 = 69 ∧ k = 1) := fun k c => by omega
theorem x58_61 : ¬ (30 ≤ 22 ∧ 22 ≤ 35 ∨ 37 ≤ 22 ∧ 22 ≤ 42 ∨ 44 ≤ 22 ∧ 22 ≤ 49 ∨ 22 = 70 ∨ 22 = 51) := by omega
theorem x58_62 : ¬ (22 = 69 ∧ 4 = 2 ∨ 22 = 69 ∧ 4 = 3 ∨ 22 = 69 ∧ 4 = 6 ∨ 22 = 29 ∧ 4 = 4 ∨ 22 = 36 ∧ 4 = 4 ∨ 22 = 43 ∧ 4 = 4 ∨ 22 = 50 ∧ 4 = 1 ∨ 22 = 69 ∧ 4 = 1) := by omega
theorem x58_63 : ¬ (30 ≤ 26 ∧ 26 ≤ 35 ∨ 37 ≤ 26 ∧ 26 ≤ 42 ∨ 44 ≤ 26 ∧ 26 ≤ 49 ∨ 26 = 70 ∨ 26 = 51) := by omega
theorem x58_64 : ∀ k : Nat, ¬ (26 = 69 ∧ k = 2 ∨ 26 = 69 ∧ k = 3 ∨ 26 = 69 ∧ k = 6 ∨ 26 = 29 ∧ k = 4 ∨ 26 = 36 ∧ k = 4 ∨ 26 = 43 ∧ k = 4 ∨ 26 = 50 ∧ k = 1 ∨ 26 = 69 ∧ k = 1) := fun k c => by omega
set_option maxRecDepth 4000 in
set_option maxHeartbeats 2000000 in
theorem c_rBlock {E : Nat → Nat × (Nat → Int32)} {d : Nat} {Q : ez_Q} {h : ez_H} {o : Nat → Int} (S : zSh h) (hE : zE E) (hM : zMem h) (hz : 0 ≤ (ez_I h 2 1).toInt ∧ (ez_I h 2 1).toInt ≤ 6000) (hb : aR (ez_I h 3) (ez_I h 2 1).toInt.toNat 0 255) (hp : 0 ≤ (ez_I h 69 6).toInt ∧ (ez_I h 69 6).toInt ≤ 8 * (ez_I h 2 1).toInt) (hm : 0 ≤ (ez_I h 50 1).toInt ∧ (ez_I h 50 1).toInt ≤ 6000) (ho : oR (ez_I h 51) o (ez_I h 50 1).toInt.toNat) (hL15 : aR (ez_I h 16) 288 0 15) (hct15 : ctC (ez_I h 18) (nL (ez_I h 16)) 288) (hcd15 : (ez_I h 15 4).toInt = (plN (nL (ez_I h 16)) 288 16 : Nat)) (hit15 : itI (ez_I h 19) (nL (ez_I h 16)) 288 288) (hL22 : aR (ez_I h 23) 288 0 15) (hct22 : ctC (ez_I h 25) (nL (ez_I h 23)) 288) (hcd22 : (ez_I h 22 4).toInt = (plN (nL (ez_I h 23)) 288 16 : Nat)) (hit22 : itI (ez_I h 26) (nL (ez_I h 23)) 288 288) (hF1 : ∀ k, k < 288 → nL (ez_I h 16) k = fxL k) (hF2 : ∀ k, k < 288 → nL (ez_I h 23) k = fxD k) (Ke : blU (tI (ez_I h 3)) (ez_I h 2 1).toInt.toNat (ez_I h 69 6).toInt.toNat o (ez_I h 50 1).toInt.toNat = none → ∀ h2, zW (fun q k => q = 69 ∧ k = 2 ∨ q = 69 ∧ k = 3 ∨ q = 69 ∧ k = 6 ∨ q = 29 ∧ k = 4 ∨ q = 36 ∧ k = 4 ∨ q = 43 ∧ k = 4 ∨ q = 50 ∧ k = 1 ∨ q = 69 ∧ k = 1) (fun q => 30 ≤ q ∧ q ≤ 35 ∨ 37 ≤ q ∧ q ≤ 42 ∨ 44 ≤ q ∧ q ≤ 49 ∨ q = 70 ∨ q = 51) (fun _ => False) h h2 → Q (.inr 2) (ez_bump h2)) (K : ∀ h2, zW (fun q k => q = 69 ∧ k = 2 ∨ q = 69 ∧ k = 3 ∨ q = 69 ∧ k = 6 ∨ q = 29 ∧ k = 4 ∨ q = 36 ∧ k = 4 ∨ q = 43 ∧ k = 4 ∨ q = 50 ∧ k = 1 ∨ q = 69 ∧ k = 1) (fun q => 30 ≤ q ∧ q ≤ 35 ∨ 37 ≤ q ∧ q ≤ 42 ∨ 44 ≤ q ∧ q ≤ 49 ∨ q = 70 ∨ q = 51) (fun _ => False) h h2 → ∀ (q : Nat) (o2 : Nat → Int) (m2 : Nat), blU (tI (ez_I h 3)) (ez_I h 2 1).toInt.toNat (ez_I h 69 6).toInt.toNat o (ez_I h 50 1).toInt.toNat = some (q, o2, m2) → (ez_I h2 69 6).toInt = q → (ez_I h2 50 1).toInt = m2 → m2 ≤ 6000 → oR (ez_I h2 51) o2 m2 → (ez_I h2 69 1).toInt = (bitT (tI (ez_I h 3)) (ez_I h 69 6).toInt.toNat : Nat) → Q (.inl none) h2) : pw E (d + 5) 133 0 [some (.ref 69), some (.ref 2), none] [] h Q := by
  have F := zW_refl (fun q k => q = 69 ∧ k = 2 ∨ q = 69 ∧ k = 3 ∨ q = 69 ∧ k = 6 ∨ q = 29 ∧ k = 4 ∨ q = 36 ∧ k = 4 ∨ q = 43 ∧ k = 4 ∨ q = 50 ∧ k = 1 ∨ q = 69 ∧ k = 1) (fun q => 30 ≤ q ∧ q ≤ 35 ∨ 37 ≤ q ∧ q ≤ 42 ∨ 44 ≤ q ∧ q ≤ 49 ∨ q = 70 ∨ q = 51) (fun _ => False) h
  apply ez_Wp_in
  show ez_gw _ _ _ _ _ _ (cz_133) _ _ _ _ _
  refine gw_skip _ ?_
  have r1 := z_rng (ez_I h 69 2)
  have r2 := z_rng (ez_I h 69 3)
  have r3 := z_rng (ez_I h 69 6)
  have r4 := z_rng (ez_I h 29 4)
  have r5 := z_rng (ez_I h 36 4)
  have r6 := z_rng (ez_I h 43 4)
  have r7 := z_rng (ez_I h 50 1)
  have r8 := z_rng (ez_I h 69 1)
  refine gw_ld rfl rfl ?_
  refine gw_ld rfl rfl ?_
  refine gw_ld rfl rfl ?_
  refine z_C (m := 1) rfl rfl (fun x9 ex9 => ?_)
  refine z_cl rfl rfl rfl rfl rfl rfl rfl rfl rfl rfl rfl (zT S (by decide) rfl) ?_
  refine c_tb (n := x9) S (zMw F hM) (by rw [(show ez_I h 2 1 = ez_I h 2 1 from zW_f F x58_37 x58_38)]; exact hz) (by rw [(show ez_I h 2 1 = ez_I h 2 1 from zW_f F x58_37 x58_38), (show ez_I h 3 = ez_I h 3 from zW_fn F 3 x58_39 x58_40)]; exact hb) (by rw [(show ez_I h 2 1 = ez_I h 2 1 from zW_f F x58_37 x58_38)]; omega) (by omega) (by rw [(show ez_I h 2 1 = ez_I h 2 1 from zW_f F x58_37 x58_38)]; exact fun q hh FF => Ke (blU_o (.inl (by omega))) hh (zW_tr F (zW_mono FF x58_41 x58_42 x58_6))) (fun h10 x12 F11 k13 k14 k15 => ?_)
  rw [(show ez_I h 3 = ez_I h 3 from zW_fn F 3 x58_39 x58_40), show x9.toInt.toNat = 1 by omega, show (ez_I h 69 6).toInt.toNat = (ez_I h 69 6).toInt.toNat by omega] at k14
  rw [(show ez_I h 2 1 = ez_I h 2 1 from zW_f F x58_37 x58_38)] at k13
  have rx12 := z_rng x12
  have vlx12 := vB_lt (tI (ez_I h 3)) ((ez_I h 69 6).toInt.toNat) (1)
  have vpx12 := Nat.pow_le_pow_right (n := 2) (by decide) (show 1 ≤ 16 by omega)
  have S16 := zW_sh F11 S
  have F17 := zW_tr F (zW_mono F11 (x58_41) (x58_42) (x58_6))
  have r18 := z_rng (ez_I h10 69 2)
  have r19 := z_rng (ez_I h10 69 3)
  have r20 := z_rng (ez_I h10 69 6)
  have f21 : ez_I h10 29 4 = (ez_I h 29 4) := (zW_f F11 (fun c => c) (by decide)).trans (rfl)
  have f22 : ez_I h10 36 4 = (ez_I h 36 4) := (zW_f F11 (fun c => c) (by decide)).trans (rfl)
  have f23 : ez_I h10 43 4 = (ez_I h 43 4) := (zW_f F11 (fun c => c) (by decide)).trans (rfl)
  have f24 : ez_I h10 50 1 = (ez_I h 50 1) := (zW_f F11 (fun c => c) (by decide)).trans (rfl)
  have f25 : ez_I h10 69 1 = (ez_I h 69 1) := (zW_f F11 (fun c => c) (by decide)).trans (rfl)
  have A26 : oR (ez_I h10 51) o (ez_I h 50 1).toInt.toNat := by rw [zW_fn F11 51 (fun c => c) (x58_43)]; exact ho
  have hbt : x12.toInt = (bitT (tI (ez_I h 3)) (ez_I h 69 6).toInt.toNat : Nat) := by rw [← vB_1]; exact k14
  have hb2 := bitT_2 (tI (ez_I h 3)) (ez_I h 69 6).toInt.toNat
  refine z_C (m := 1) rfl rfl (fun x27 ex27 => ?_)
  refine z_b2 (fun c28 => ?_) (fun c28 => ?_)
  · have c28 : x12.toInt ≠ x27.toInt := c28
    refine gw_skip _ ?_
    refine z_C (m := 0) rfl rfl (fun x29 ex29 => ?_)
    refine z_pZ (zT S16 (by decide) rfl) (by omega) (fun h30 e31 => ?_)
    have S32 := zSh_set S16 e31
    have F33 := zW_setF F17 e31 (by decide)
    have f34 : ez_I h30 69 2 = (ez_I h10 69 2) := (zI_ne e31 (by decide)).trans (rfl)
    have f35 : ez_I h30 69 3 = (ez_I h10 69 3) := (zI_ne e31 (by decide)).trans (rfl)
    have f36 : ez_I h30 69 6 = (ez_I h10 69 6) := (zI_ne e31 (by decide)).trans (rfl)
    have f37 : ez_I h30 29 4 = (ez_I h 29 4) := (zI_ne e31 (by decide)).trans (f21)
    have f38 : ez_I h30 36 4 = (ez_I h 36 4) := (zI_ne e31 (by decide)).trans (f22)
    have f39 : ez_I h30 43 4 = (ez_I h 43 4) := (zI_ne e31 (by decide)).trans (f23)
    have f40 : ez_I h30 50 1 = (ez_I h 50 1) := (zI_ne e31 (by decide)).trans (f24)
    have f41 : ez_I h30 69 1 = x29 := zI_eq e31
    have A42 : oR (ez_I h30 51) o (ez_I h 50 1).toInt.toNat := by rw [zI_fn e31 51 (by decide)]; exact A26
    clear A26
    refine gw_ld rfl rfl ?_
    refine gw_ld rfl rfl ?_
    refine z_C (m := 2) rfl rfl (fun x43 ex43 => ?_)
    have t44 := congrArg Int32.toInt (f34)
    have t45 := congrArg Int32.toInt (f35)
    have t46 := congrArg Int32.toInt (f36)
    have t47 := congrArg Int32.toInt (f37)
    have t48 := congrArg Int32.toInt (f38)
    have t49 := congrArg Int32.toInt (f39)
    have t50 := congrArg Int32.toInt (f40)
    have t51 := congrArg Int32.toInt (f41)
    refine z_cl rfl rfl rfl rfl rfl rfl rfl rfl rfl rfl rfl (zT S32 (by decide) rfl) ?_
    refine c_tb (n := x43) S32 (zMw F33 hM) (by rw [(show ez_I h30 2 1 = ez_I h 2 1 from zW_f F33 x58_37 x58_38)]; exact hz) (by rw [(show ez_I h30 2 1 = ez_I h 2 1 from zW_f F33 x58_37 x58_38), (show ez_I h30 3 = ez_I h 3 from zW_fn F33 3 x58_39 x58_40)]; exact hb) (by rw [(show ez_I h30 2 1 = ez_I h 2 1 from zW_f F33 x58_37 x58_38)]; omega) (by omega) (by rw [(show ez_I h30 2 1 = ez_I h 2 1 from zW_f F33 x58_37 x58_38)]; exact fun q hh FF => Ke (blU_o (.inl (by omega))) hh (zW_tr F33 (zW_mono FF x58_41 x58_42 x58_6))) (fun h52 x54 F53 k55 k56 k57 => ?_)
    rw [(show ez_I h30 3 = ez_I h 3 from zW_fn F33 3 x58_39 x58_40), show x43.toInt.toNat = 2 by omega, show (ez_I h30 69 6).toInt.toNat = (ez_I h 69 6).toInt.toNat + 1 by omega] at k56
    rw [(show ez_I h30 2 1 = ez_I h 2 1 from zW_f F33 x58_37 x58_38)] at k55
    have rx54 := z_rng x54
    have vlx54 := vB_lt (tI (ez_I h 3)) ((ez_I h 69 6).toInt.toNat + 1) (2)
    have vpx54 := Nat.pow_le_pow_right (n := 2) (by decide) (show 2 ≤ 16 by omega)
    have S58 := zW_sh F53 S32
    have F59 := zW_tr F33 (zW_mono F53 (x58_41) (x58_42) (x58_6))
    have r60 := z_rng (ez_I h52 69 2)
    have r61 := z_rng (ez_I h52 69 3)
    have r62 := z_rng (ez_I h52 69 6)
    have f63 : ez_I h52 29 4 = (ez_I h 29 4) := (zW_f F53 (fun c => c) (by decide)).trans (f37)
    have f64 : ez_I h52 36 4 = (ez_I h 36 4) := (zW_f F53 (fun c => c) (by decide)).trans (f38)
    have f65 : ez_I h52 43 4 = (ez_I h 43 4) := (zW_f F53 (fun c => c) (by decide)).trans (f39)
    have f66 : ez_I h52 50 1 = (ez_I h 50 1) := (zW_f F53 (fun c => c) (by decide)).trans (f40)
    have f67 : ez_I h52 69 1 = x29 := (zW_f F53 (fun c => c) (by decide)).trans (f41)
    have A68 : oR (ez_I h52 51) o (ez_I h 50 1).toInt.toNat := by rw [zW_fn F53 51 (fun c => c) (x58_43)]; exact A42
    clear A42
    refine gw_st rfl rfl rfl ?_
    show ez_gw _ _ _ _ _ _ _ _ [some (.ref 69), some (.ref 2), some (.int x54)] _ _ _
    refine gw_ld rfl rfl ?_
    refine z_b1 (fun c69 => ?_) (fun c69 => ?_)
    · have c69 : x54.toInt ≠ 0 := c69
      refine gw_skip _ ?_
      refine gw_ld rfl rfl ?_
      refine z_C (m := 1) rfl rfl (fun x70 ex70 => ?_)
      refine z_b2 (fun c71 => ?_) (fun c71 => ?_)
      · have c71 : x54.toInt ≠ x70.toInt := c71
        refine gw_skip _ ?_
        refine gw_ld rfl rfl ?_
        refine z_C (m := 2) rfl rfl (fun x72 ex72 => ?_)
        refine z_b2 (fun c73 => ?_) (fun c73 => ?_)
        · have c73 : x54.toInt ≠ x72.toInt := c73
          refine gw_skip _ ?_
          refine gw_ld rfl rfl ?_
          refine z_C (m := 2) rfl rfl (fun x74 ex74 => ?_)
          have t75 := congrArg Int32.toInt (f63)
          have t76 := congrArg Int32.toInt (f64)
          have t77 := congrArg Int32.toInt (f65)
          have t78 := congrArg Int32.toInt (f66)
          have t79 := congrArg Int32.toInt (f67)
          refine z_cl rfl rfl rfl rfl rfl rfl rfl rfl rfl rfl rfl (zT S58 (by decide) rfl) ?_
          exact c_fail (i := x74) S58 (zMw F59 hM) (by omega) (fun hh FF => Ke (blU_o (.inr (by omega))) hh (zW_tr F59 (zW_mono FF x58_41 x58_42 x58_6))) trivial
        · have c73 : ¬ (x54.toInt ≠ x72.toInt) := c73
          have hv2 : vB (tI (ez_I h 3)) ((ez_I h 69 6).toInt.toNat + 1) 2 = 2 := by omega
          refine gw_ld rfl rfl ?_
          refine gw_ld rfl rfl ?_
          have t80 := congrArg Int32.toInt (f63)
          have t81 := congrArg Int32.toInt (f64)
          have t82 := congrArg Int32.toInt (f65)
          have t83 := congrArg Int32.toInt (f66)
          have t84 := congrArg Int32.toInt (f67)
          refine z_cl rfl rfl rfl rfl rfl rfl rfl rfl rfl rfl rfl (zT S58 (by decide) rfl) ?_
          refine c_rHead S58 hE (zMw F59 hM) (by rw [(show ez_I h52 2 1 = ez_I h 2 1 from zW_f F59 x58_37 x58_38)]; exact hz) (by rw [(show ez_I h52 2 1 = ez_I h 2 1 from zW_f F59 x58_37 x58_38), (show ez_I h52 3 = ez_I h 3 from zW_fn F59 3 x58_39 x58_40)]; exact hb) (by rw [(show ez_I h52 2 1 = ez_I h 2 1 from zW_f F59 x58_37 x58_38)]; omega) (fun qn hh FF => Ke (by have q2 : hdU (tI (ez_I h52 3)) (ez_I h52 2 1).toInt.toNat (ez_I h52 69 6).toInt.toNat = none := qn; rw [(show ez_I h52 3 = ez_I h 3 from zW_fn F59 3 x58_39 x58_40), (show ez_I h52 2 1 = ez_I h 2 1 from zW_f F59 x58_37 x58_38), show (ez_I h52 69 6).toInt.toNat = ((ez_I h 69 6).toInt.toNat + 3) by omega] at q2; exact blU_2n (by omega) hv2 rfl q2) hh (zW_tr F59 (zW_mono FF x58_44 x58_45 x58_6))) (fun h85 F86 q87 L88 L89 k90 k91 k92 k93 k94 k95 k96 k97 k98 k99 k100 k101 => ?_)
          have hhd : hdU (tI (ez_I h52 3)) (ez_I h52 2 1).toInt.toNat (ez_I h52 69 6).toInt.toNat = some (q87, L88, L89) := k90
          rw [(show ez_I h52 3 = ez_I h 3 from zW_fn F59 3 x58_39 x58_40), (show ez_I h52 2 1 = ez_I h 2 1 from zW_f F59 x58_37 x58_38), show (ez_I h52 69 6).toInt.toNat = ((ez_I h 69 6).toInt.toNat + 3) by omega] at hhd
          have hho : ((ez_I h 69 6).toInt.toNat + 3) ≤ q87 ∧ q87 ≤ 8 * (ez_I h 2 1).toInt.toNat := hdU_ok hhd
          have S102 := zW_sh F86 S58
          have F103 := zW_tr F59 (zW_mono F86 (x58_44) (x58_45) (x58_6))
          have r104 := z_rng (ez_I h85 69 2)
          have r105 := z_rng (ez_I h85 69 3)
          have r106 := z_rng (ez_I h85 69 6)
          have r107 := z_rng (ez_I h85 29 4)
          have r108 := z_rng (ez_I h85 36 4)
          have r109 := z_rng (ez_I h85 43 4)
          have f110 : ez_I h85 50 1 = (ez_I h 50 1) := (zW_f F86 (by decide) (by decide)).trans (f66)
          have f111 : ez_I h85 69 1 = x29 := (zW_f F86 (by decide) (by decide)).trans (f67)
          have A112 : oR (ez_I h85 51) o (ez_I h 50 1).toInt.toNat := by rw [zW_fn F86 51 (by decide) (x58_46)]; exact A68
          clear A68
          refine gw_ld rfl rfl ?_
          refine gw_ld rfl rfl ?_
          refine gw_ld rfl rfl ?_
          refine z_gR (q := 14) (zT S102 (by decide) rfl) (zRf S102 (by decide) (by decide) rfl) (by decide) ?_
          refine z_gR (q := 29) (zT S102 (by decide) rfl) (zRf S102 (by decide) (by decide) rfl) (by decide) ?_
          refine gw_ld rfl rfl ?_
          refine z_gR (q := 14) (zT S102 (by decide) rfl) (zRf S102 (by decide) (by decide) rfl) (by decide) ?_
          refine z_gR (q := 36) (zT S102 (by decide) rfl) (zRf S102 (by decide) (by decide) rfl) (by decide) ?_
          have t113 := congrArg Int32.toInt (f110)
          have t114 := congrArg Int32.toInt (f111)
          refine z_cl rfl rfl rfl rfl rfl rfl rfl rfl rfl rfl rfl (zT S102 (by decide) rfl) ?_
          have heq : ∀ F p o m, upP (tI (ez_I h 3)) (ez_I h 2 1).toInt.toNat (nL (ez_I h85 30)) 288 (nL (ez_I h85 37)) 288 F p o m = upP (tI (ez_I h 3)) (ez_I h 2 1).toInt.toNat L88 288 L89 288 F p o m := upP_eq (Nat.le_refl 288) k96 (fun k a b => by omega) (Nat.le_refl 288) k101 (fun k a b => by omega)
          refine c_rParts (p := 29) (w := 36) (o := o) S102 (by decide) (by decide) hE (zMw F103 hM) (by rw [(show ez_I h85 2 1 = ez_I h 2 1 from zW_f F103 x58_37 x58_38)]; exact hz) (by rw [(show ez_I h85 2 1 = ez_I h 2 1 from zW_f F103 x58_37 x58_38), (show ez_I h85 3 = ez_I h 3 from zW_fn F103 3 x58_39 x58_40)]; exact hb) (by rw [(show ez_I h85 2 1 = ez_I h 2 1 from zW_f F103 x58_37 x58_38)]; omega) (by omega) (by rw [show (ez_I h85 50 1).toInt.toNat = (ez_I h 50 1).toInt.toNat by omega]; exact A112) k92 k93 k94 k95 k97 k98 k99 k100 (fun qn hh FF => Ke (by have q2 : upP (tI (ez_I h85 3)) (ez_I h85 2 1).toInt.toNat (nL (ez_I h85 30)) 288 (nL (ez_I h85 37)) 288 (8 * (ez_I h85 2 1).toInt.toNat) (ez_I h85 69 6).toInt.toNat o (ez_I h85 50 1).toInt.toNat = none := qn; rw [(show ez_I h85 3 = ez_I h 3 from zW_fn F103 3 x58_39 x58_40), (show ez_I h85 2 1 = ez_I h 2 1 from zW_f F103 x58_37 x58_38), show (ez_I h85 69 6).toInt.toNat = q87 by omega, show (ez_I h85 50 1).toInt.toNat = (ez_I h 50 1).toInt.toNat by omega] at q2; exact (blU_2y (by omega) hv2 rfl hhd).trans ((heq _ _ _ _).symm.trans q2)) hh (zW_tr F103 (zW_mono FF x58_47 x58_48 x58_6))) (fun h115 F116 q117 o118 m119 k120 k121 k122 k123 k124 => ?_)
          have hsp : upP (tI (ez_I h85 3)) (ez_I h85 2 1).toInt.toNat (nL (ez_I h85 30)) 288 (nL (ez_I h85 37)) 288 (8 * (ez_I h85 2 1).toInt.toNat) (ez_I h85 69 6).toInt.toNat o (ez_I h85 50 1).toInt.toNat = some (q117, o118, m119) := k120
          rw [(show ez_I h85 3 = ez_I h 3 from zW_fn F103 3 x58_39 x58_40), (show ez_I h85 2 1 = ez_I h 2 1 from zW_f F103 x58_37 x58_38), show (ez_I h85 69 6).toInt.toNat = q87 by omega, show (ez_I h85 50 1).toInt.toNat = (ez_I h 50 1).toInt.toNat by omega] at hsp
          have S125 := zW_sh F116 S102
          have F126 := zW_tr F103 (zW_mono F116 (x58_47) (x58_48) (x58_6))
          have r127 := z_rng (ez_I h115 69 2)
          have r128 := z_rng (ez_I h115 69 3)
          have r129 := z_rng (ez_I h115 69 6)
          have f130 : ez_I h115 29 4 = (ez_I h85 29 4) := (zW_f F116 (by decide) (by decide)).trans (rfl)
          have f131 : ez_I h115 36 4 = (ez_I h85 36 4) := (zW_f F116 (by decide) (by decide)).trans (rfl)
          have f132 : ez_I h115 43 4 = (ez_I h85 43 4) := (zW_f F116 (by decide) (by decide)).trans (rfl)
          have r133 := z_rng (ez_I h115 50 1)
          have f134 : ez_I h115 69 1 = x29 := (zW_f F116 (by decide) (by decide)).trans (f111)
          refine z_go ?_
          refine gw_skip _ ?_
          refine z_rv ?_
          have t135 := congrArg Int32.toInt (f130)
          have t136 := congrArg Int32.toInt (f131)
          have t137 := congrArg Int32.toInt (f132)
          have t138 := congrArg Int32.toInt (f134)
          have hsp2 : blU (tI (ez_I h 3)) (ez_I h 2 1).toInt.toNat (ez_I h 69 6).toInt.toNat o (ez_I h 50 1).toInt.toNat = some (q117, o118, m119) := (blU_2y (by omega) hv2 rfl hhd).trans ((heq _ _ _ _).symm.trans hsp)
          exact K _ F126 q117 o118 m119 hsp2 (by omega) (by omega) (by omega) k124 (by omega)
      · have c71 : ¬ (x54.toInt ≠ x70.toInt) := c71
        have hv1 : vB (tI (ez_I h 3)) ((ez_I h 69 6).toInt.toNat + 1) 2 = 1 := by omega
        refine gw_ld rfl rfl ?_
        refine gw_ld rfl rfl ?_
        refine gw_ld rfl rfl ?_
        refine z_gR (q := 14) (zT S58 (by decide) rfl) (zRf S58 (by decide) (by decide) rfl) (by decide) ?_
        refine z_gR (q := 15) (zT S58 (by decide) rfl) (zRf S58 (by decide) (by decide) rfl) (by decide) ?_
        refine gw_ld rfl rfl ?_
        refine z_gR (q := 14) (zT S58 (by decide) rfl) (zRf S58 (by decide) (by decide) rfl) (by decide) ?_
        refine z_gR (q := 22) (zT S58 (by decide) rfl) (zRf S58 (by decide) (by decide) rfl) (by decide) ?_
        have t139 := congrArg Int32.toInt (f63)
        have t140 := congrArg Int32.toInt (f64)
        have t141 := congrArg Int32.toInt (f65)
        have t142 := congrArg Int32.toInt (f66)
        have t143 := congrArg Int32.toInt (f67)
        refine z_cl rfl rfl rfl rfl rfl rfl rfl rfl rfl rfl rfl (zT S58 (by decide) rfl) ?_
        have heq : ∀ F p o m, upP (tI (ez_I h 3)) (ez_I h 2 1).toInt.toNat (nL (ez_I h 16)) 288 (nL (ez_I h 23)) 288 F p o m = upP (tI (ez_I h 3)) (ez_I h 2 1).toInt.toNat fxL 288 fxD 288 F p o m := upP_eq (Nat.le_refl 288) hF1 (fun k a b => by omega) (Nat.le_refl 288) hF2 (fun k a b => by omega)
        have g16 := (show ez_I h52 16 = ez_I h 16 from zW_fn F59 16 x58_49 x58_50)
        have g23 := (show ez_I h52 23 = ez_I h 23 from zW_fn F59 23 x58_57 x58_58)
        refine c_rParts (p := 15) (w := 22) (o := o) S58 (by decide) (by decide) hE (zMw F59 hM) (by rw [(show ez_I h52 2 1 = ez_I h 2 1 from zW_f F59 x58_37 x58_38)]; exact hz) (by rw [(show ez_I h52 2 1 = ez_I h 2 1 from zW_f F59 x58_37 x58_38), (show ez_I h52 3 = ez_I h 3 from zW_fn F59 3 x58_39 x58_40)]; exact hb) (by rw [(show ez_I h52 2 1 = ez_I h 2 1 from zW_f F59 x58_37 x58_38)]; omega) (by omega) (by rw [show (ez_I h52 50 1).toInt.toNat = (ez_I h 50 1).toInt.toNat by omega]; exact A68) (show aR (ez_I h52 16) 288 0 15 by rw [(show ez_I h52 16 = ez_I h 16 from zW_fn F59 16 x58_49 x58_50)]; exact hL15) (show ctC (ez_I h52 18) (nL (ez_I h52 16)) 288 by rw [(show ez_I h52 18 = ez_I h 18 from zW_fn F59 18 x58_51 x58_52), (show ez_I h52 16 = ez_I h 16 from zW_fn F59 16 x58_49 x58_50)]; exact hct15) (show (ez_I h52 15 4).toInt = (plN (nL (ez_I h52 16)) 288 16 : Nat) by rw [(show ez_I h52 15 4 = ez_I h 15 4 from zW_f F59 x58_53 x58_54), (show ez_I h52 16 = ez_I h 16 from zW_fn F59 16 x58_49 x58_50)]; exact hcd15) (show itI (ez_I h52 19) (nL (ez_I h52 16)) 288 288 by rw [(show ez_I h52 19 = ez_I h 19 from zW_fn F59 19 x58_55 x58_56), (show ez_I h52 16 = ez_I h 16 from zW_fn F59 16 x58_49 x58_50)]; exact hit15) (show aR (ez_I h52 23) 288 0 15 by rw [(show ez_I h52 23 = ez_I h 23 from zW_fn F59 23 x58_57 x58_58)]; exact hL22) (show ctC (ez_I h52 25) (nL (ez_I h52 23)) 288 by rw [(show ez_I h52 25 = ez_I h 25 from zW_fn F59 25 x58_59 x58_60), (show ez_I h52 23 = ez_I h 23 from zW_fn F59 23 x58_57 x58_58)]; exact hct22) (show (ez_I h52 22 4).toInt = (plN (nL (ez_I h52 23)) 288 16 : Nat) by rw [(show ez_I h52 22 4 = ez_I h 22 4 from zW_f F59 x58_61 x58_62), (show ez_I h52 23 = ez_I h 23 from zW_fn F59 23 x58_57 x58_58)]; exact hcd22) (show itI (ez_I h52 26) (nL (ez_I h52 23)) 288 288 by rw [(show ez_I h52 26 = ez_I h 26 from zW_fn F59 26 x58_63 x58_64), (show ez_I h52 23 = ez_I h 23 from zW_fn F59 23 x58_57 x58_58)]; exact hit22) (fun qn hh FF => Ke (by have q2 : upP (tI (ez_I h52 3)) (ez_I h52 2 1).toInt.toNat (nL (ez_I h52 16)) 288 (nL (ez_I h52 23)) 288 (8 * (ez_I h52 2 1).toInt.toNat) (ez_I h52 69 6).toInt.toNat o (ez_I h52 50 1).toInt.toNat = none := qn; rw [(show ez_I h52 3 = ez_I h 3 from zW_fn F59 3 x58_39 x58_40), (show ez_I h52 2 1 = ez_I h 2 1 from zW_f F59 x58_37 x58_38), show (ez_I h52 69 6).toInt.toNat = ((ez_I h 69 6).toInt.toNat + 3) by omega, show (ez_I h52 50 1).toInt.toNat = (ez_I h 50 1).toInt.toNat by omega] at q2; exact (blU_1 (by omega) hv1 rfl).trans ((heq _ _ _ _).symm.trans (by rw [g16, g23] at q2; exact q2))) hh (zW_tr F59 (zW_mono FF x58_47 x58_48 x58_6))) (fun h144 F145 q146 o147 m148 k149 k150 k151 k152 k153 => ?_)
        have hsp : upP (tI (ez_I h52 3)) (ez_I h52 2 1).toInt.toNat (nL (ez_I h52 16)) 288 (nL (ez_I h52 23)) 288 (8 * (ez_I h52 2 1).toInt.toNat) (ez_I h52 69 6).toInt.toNat o (ez_I h52 50 1).toInt.toNat = some (q146, o147, m148) := k149
        rw [(show ez_I h52 3 = ez_I h 3 from zW_fn F59 3 x58_39 x58_40), (show ez_I h52 2 1 = ez_I h 2 1 from zW_f F59 x58_37 x58_38), show (ez_I h52 69 6).toInt.toNat = ((ez_I h 69 6).toInt.toNat + 3) by omega, show (ez_I h52 50 1).toInt.toNat = (ez_I h 50 1).toInt.toNat by omega] at hsp
        have S154 := zW_sh F145 S58
        have F155 := zW_tr F59 (zW_mono F145 (x58_47) (x58_48) (x58_6))
        have r156 := z_rng (ez_I h144 69 2)
        have r157 := z_rng (ez_I h144 69 3)
        have r158 := z_rng (ez_I h144 69 6)
        have f159 : ez_I h144 29 4 = (ez_I h 29 4) := (zW_f F145 (by decide) (by decide)).trans (f63)
        have f160 : ez_I h144 36 4 = (ez_I h 36 4) := (zW_f F145 (by decide) (by decide)).trans (f64)
        have f161 : ez_I h144 43 4 = (ez_I h 43 4) := (zW_f F145 (by decide) (by decide)).trans (f65)
        have r162 := z_rng (ez_I h144 50 1)
        have f163 : ez_I h144 69 1 = x29 := (zW_f F145 (by decide) (by decide)).trans (f67)
        refine z_go ?_
        refine gw_skip _ ?_
        refine z_rv ?_
        have t164 := congrArg Int32.toInt (f159)
        have t165 := congrArg Int32.toInt (f160)
        have t166 := congrArg Int32.toInt (f161)
        have t167 := congrArg Int32.toInt (f163)
        have hsp2 : blU (tI (ez_I h 3)) (ez_I h 2 1).toInt.toNat (ez_I h 69 6).toInt.toNat o (ez_I h 50 1).toInt.toNat = some (q146, o147, m148) := (blU_1 (by omega) hv1 rfl).trans ((heq _ _ _ _).symm.trans (by rw [g16, g23] at hsp; exact hsp))
        exact K _ F155 q146 o147 m148 hsp2 (by omega) (by omega) (by omega) k153 (by omega)
    · have c69 : ¬ (x54.toInt ≠ 0) := c69
      have hv0 : vB (tI (ez_I h 3)) ((ez_I h 69 6).toInt.toNat + 1) 2 = 0 := by omega
      refine gw_ld rfl rfl ?_
      refine gw_ld rfl rfl ?_
      have t168 := congrArg Int32.toInt (f63)
      have t169 := congrArg Int32.toInt (f64)
      have t170 := congrArg Int32.toInt (f65)
      have t171 := congrArg Int32.toInt (f66)
      have t172 := congrArg Int32.toInt (f67)
      refine z_cl rfl rfl rfl rfl rfl rfl rfl rfl rfl rfl rfl (zT S58 (by decide) rfl) ?_
      refine c_rStored (o := o) S58  (zMw F59 hM) (by rw [(show ez_I h52 2 1 = ez_I h 2 1 from zW_f F59 x58_37 x58_38)]; exact hz) (by rw [(show ez_I h52 2 1 = ez_I h 2 1 from zW_f F59 x58_37 x58_38), (show ez_I h52 3 = ez_I h 3 from zW_fn F59 3 x58_39 x58_40)]; exact hb) (by rw [(show ez_I h52 2 1 = ez_I h 2 1 from zW_f F59 x58_37 x58_38)]; omega) (by omega) (by rw [show (ez_I h52 50 1).toInt.toNat = (ez_I h 50 1).toInt.toNat by omega]; exact A68)  (fun qn hh FF => Ke (by have q2 : stS (tI (ez_I h52 3)) (ez_I h52 2 1).toInt.toNat (ez_I h52 69 6).toInt.toNat o (ez_I h52 50 1).toInt.toNat = none := qn; rw [(show ez_I h52 3 = ez_I h 3 from zW_fn F59 3 x58_39 x58_40), (show ez_I h52 2 1 = ez_I h 2 1 from zW_f F59 x58_37 x58_38), show (ez_I h52 69 6).toInt.toNat = ((ez_I h 69 6).toInt.toNat + 3) by omega, show (ez_I h52 50 1).toInt.toNat = (ez_I h 50 1).toInt.toNat by omega] at q2; exact (blU_0 (by omega) hv0 rfl).trans q2) hh (zW_tr F59 (zW_mono FF x58_47 x58_48 x58_6))) (fun h173 F174 q175 o176 m177 k178 k179 k180 k181 k182 => ?_)
      have hsp : stS (tI (ez_I h52 3)) (ez_I h52 2 1).toInt.toNat (ez_I h52 69 6).toInt.toNat o (ez_I h52 50 1).toInt.toNat = some (q175, o176, m177) := k178
      rw [(show ez_I h52 3 = ez_I h 3 from zW_fn F59 3 x58_39 x58_40), (show ez_I h52 2 1 = ez_I h 2 1 from zW_f F59 x58_37 x58_38), show (ez_I h52 69 6).toInt.toNat = ((ez_I h 69 6).toInt.toNat + 3) by omega, show (ez_I h52 50 1).toInt.toNat = (ez_I h 50 1).toInt.toNat by omega] at hsp
      have S183 := zW_sh F174 S58
      have F184 := zW_tr F59 (zW_mono F174 (x58_47) (x58_48) (x58_6))
      have r185 := z_rng (ez_I h173 69 2)
      have r186 := z_rng (ez_I h173 69 3)
      have r187 := z_rng (ez_I h173 69 6)
      have f188 : ez_I h173 29 4 = (ez_I h 29 4) := (zW_f F174 (by decide) (by decide)).trans (f63)
      have f189 : ez_I h173 36 4 = (ez_I h 36 4) := (zW_f F174 (by decide) (by decide)).trans (f64)
      have f190 : ez_I h173 43 4 = (ez_I h 43 4) := (zW_f F174 (by decide) (by decide)).trans (f65)
      have r191 := z_rng (ez_I h173 50 1)
      have f192 : ez_I h173 69 1 = x29 := (zW_f F174 (by decide) (by decide)).trans (f67)
      refine z_go ?_
      refine gw_skip _ ?_
      refine z_rv ?_
      have t193 := congrArg Int32.toInt (f188)
      have t194 := congrArg Int32.toInt (f189)
      have t195 := congrArg Int32.toInt (f190)
      have t196 := congrArg Int32.toInt (f192)
      have hsp2 : blU (tI (ez_I h 3)) (ez_I h 2 1).toInt.toNat (ez_I h 69 6).toInt.toNat o (ez_I h 50 1).toInt.toNat = some (q175, o176, m177) := (blU_0 (by omega) hv0 rfl).trans hsp
      exact K _ F184 q175 o176 m177 hsp2 (by omega) (by omega) (by omega) k182 (by omega)
  · have c28 : ¬ (x12.toInt ≠ x27.toInt) := c28
    refine z_C (m := 1) rfl rfl (fun x197 ex197 => ?_)
    refine z_go ?_
    refine gw_skip _ ?_
    refine z_pZ (zT S16 (by decide) rfl) (by omega) (fun h198 e199 => ?_)
    have S200 := zSh_set S16 e199
    have F201 := zW_setF F17 e199 (by decide)
    have f202 : ez_I h198 69 2 = (ez_I h10 69 2) := (zI_ne e199 (by decide)).trans (rfl)
    have f203 : ez_I h198 69 3 = (ez_I h10 69 3) := (zI_ne e199 (by decide)).trans (rfl)
    have f204 : ez_I h198 69 6 = (ez_I h10 69 6) := (zI_ne e199 (by decide)).trans (rfl)
    have f205 : ez_I h198 29 4 = (ez_I h 29 4) := (zI_ne e199 (by decide)).trans (f21)
    have f206 : ez_I h198 36 4 = (ez_I h 36 4) := (zI_ne e199 (by decide)).trans (f22)
    have f207 : ez_I h198 43 4 = (ez_I h 43 4) := (zI_ne e199 (by decide)).trans (f23)
    have f208 : ez_I h198 50 1 = (ez_I h 50 1) := (zI_ne e199 (by decide)).trans (f24)
    have f209 : ez_I h198 69 1 = x197 := zI_eq e199
    have A210 : oR (ez_I h198 51) o (ez_I h 50 1).toInt.toNat := by rw [zI_fn e199 51 (by decide)]; exact A26
    clear A26
    refine gw_ld rfl rfl ?_
    refine gw_ld rfl rfl ?_
    refine z_C (m := 2) rfl rfl (fun x211 ex211 => ?_)
    have t212 := congrArg Int32.toInt (f202)
    have t213 := congrArg Int32.toInt (f203)
    have t214 := congrArg Int32.toInt (f204)
    have t215 := congrArg Int32.toInt (f205)
    have t216 := congrArg Int32.toInt (f206)
    have t217 := congrArg Int32.toInt (f207)
    have t218 := congrArg Int32.toInt (f208)
    have t219 := congrArg Int32.toInt (f209)
    refine z_cl rfl rfl rfl rfl rfl rfl rfl rfl rfl rfl rfl (zT S200 (by decide) rfl) ?_
    refine c_tb (n := x211) S200 (zMw F201 hM) (by rw [(show ez_I h198 2 1 = ez_I h 2 1 from zW_f F201 x58_37 x58_38)]; exact hz) (by rw [(show ez_I h198 2 1 = ez_I h 2 1 from zW_f F201 x58_37 x58_38), (show ez_I h198 3 = ez_I h 3 from zW_fn F201 3 x58_39 x58_40)]; exact hb) (by rw [(show ez_I h198 2 1 = ez_I h 2 1 from zW_f F201 x58_37 x58_38)]; omega) (by omega) (by rw [(show ez_I h198 2 1 = ez_I h 2 1 from zW_f F201 x58_37 x58_38)]; exact fun q hh FF => Ke (blU_o (.inl (by omega))) hh (zW_tr F201 (zW_mono FF x58_41 x58_42 x58_6))) (fun h220 x222 F221 k223 k224 k225 => ?_)
    rw [(show ez_I h198 3 = ez_I h 3 from zW_fn F201 3 x58_39 x58_40), show x211.toInt.toNat = 2 by omega, show (ez_I h198 69 6).toInt.toNat = (ez_I h 69 6).toInt.toNat + 1 by omega] at k224
    rw [(show ez_I h198 2 1 = ez_I h 2 1 from zW_f F201 x58_37 x58_38)] at k223
    have rx222 := z_rng x222
    have vlx222 := vB_lt (tI (ez_I h 3)) ((ez_I h 69 6).toInt.toNat + 1) (2)
    have vpx222 := Nat.pow_le_pow_right (n := 2) (by decide) (show 2 ≤ 16 by omega)
    have S226 := zW_sh F221 S200
    have F227 := zW_tr F201 (zW_mono F221 (x58_41) (x58_42) (x58_6))
    have r228 := z_rng (ez_I h220 69 2)
    have r229 := z_rng (ez_I h220 69 3)
    have r230 := z_rng (ez_I h220 69 6)
    have f231 : ez_I h220 29 4 = (ez_I h 29 4) := (zW_f F221 (fun c => c) (by decide)).trans (f205)
    have f232 : ez_I h220 36 4 = (ez_I h 36 4) := (zW_f F221 (fun c => c) (by decide)).trans (f206)
    have f233 : ez_I h220 43 4 = (ez_I h 43 4) := (zW_f F221 (fun c => c) (by decide)).trans (f207)
    have f234 : ez_I h220 50 1 = (ez_I h 50 1) := (zW_f F221 (fun c => c) (by decide)).trans (f208)
    have f235 : ez_I h220 69 1 = x197 := (zW_f F221 (fun c => c) (by decide)).trans (f209)
    have A236 : oR (ez_I h220 51) o (ez_I h 50 1).toInt.toNat := by rw [zW_fn F221 51 (fun c => c) (x58_43)]; exact A210
    clear A210
    refine gw_st rfl rfl rfl ?_
    show ez_gw _ _ _ _ _ _ _ _ [some (.ref 69), some (.ref 2), some (.int x222)] _ _ _
    refine gw_ld rfl rfl ?_
    refine z_b1 (fun c237 => ?_) (fun c237 => ?_)
    · have c237 : x222.toInt ≠ 0 := c237
      refine gw_skip _ ?_
      refine gw_ld rfl rfl ?_
      refine z_C (m := 1) rfl rfl (fun x238 ex238 => ?_)
      refine z_b2 (fun c239 => ?_) (fun c239 => ?_)
      · have c239 : x222.toInt ≠ x238.toInt := c239
        refine gw_skip _ ?_
        refine gw_ld rfl rfl ?_
        refine z_C (m := 2) rfl rfl (fun x240 ex240 => ?_)
        refine z_b2 (fun c241 => ?_) (fun c241 => ?_)
        · have c241 : x222.toInt ≠ x240.toInt := c241
          refine gw_skip _ ?_
          refine gw_ld rfl rfl ?_
          refine z_C (m := 2) rfl rfl (fun x242 ex242 => ?_)
          have t243 := congrArg Int32.toInt (f231)
          have t244 := congrArg Int32.toInt (f232)
          have t245 := congrArg Int32.toInt (f233)
          have t246 := congrArg Int32.toInt (f234)
          have t247 := congrArg Int32.toInt (f235)
          refine z_cl rfl rfl rfl rfl rfl rfl rfl rfl rfl rfl rfl (zT S226 (by decide) rfl) ?_
          exact c_fail (i := x242) S226 (zMw F227 hM) (by omega) (fun hh FF => Ke (blU_o (.inr (by omega))) hh (zW_tr F227 (zW_mono FF x58_41 x58_42 x58_6))) trivial
        · have c241 : ¬ (x222.toInt ≠ x240.toInt) := c241
          have hv2 : vB (tI (ez_I h 3)) ((ez_I h 69 6).toInt.toNat + 1) 2 = 2 := by omega
          refine gw_ld rfl rfl ?_
          refine gw_ld rfl rfl ?_
          have t248 := congrArg Int32.toInt (f231)
          have t249 := congrArg Int32.toInt (f232)
          have t250 := congrArg Int32.toInt (f233)
          have t251 := congrArg Int32.toInt (f234)
          have t252 := congrArg Int32.toInt (f235)
          refine z_cl rfl rfl rfl rfl rfl rfl rfl rfl rfl rfl rfl (zT S226 (by decide) rfl) ?_
          refine c_rHead S226 hE (zMw F227 hM) (by rw [(show ez_I h220 2 1 = ez_I h 2 1 from zW_f F227 x58_37 x58_38)]; exact hz) (by rw [(show ez_I h220 2 1 = ez_I h 2 1 from zW_f F227 x58_37 x58_38), (show ez_I h220 3 = ez_I h 3 from zW_fn F227 3 x58_39 x58_40)]; exact hb) (by rw [(show ez_I h220 2 1 = ez_I h 2 1 from zW_f F227 x58_37 x58_38)]; omega) (fun qn hh FF => Ke (by have q2 : hdU (tI (ez_I h220 3)) (ez_I h220 2 1).toInt.toNat (ez_I h220 69 6).toInt.toNat = none := qn; rw [(show ez_I h220 3 = ez_I h 3 from zW_fn F227 3 x58_39 x58_40), (show ez_I h220 2 1 = ez_I h 2 1 from zW_f F227 x58_37 x58_38), show (ez_I h220 69 6).toInt.toNat = ((ez_I h 69 6).toInt.toNat + 3) by omega] at q2; exact blU_2n (by omega) hv2 rfl q2) hh (zW_tr F227 (zW_mono FF x58_44 x58_45 x58_6))) (fun h253 F254 q255 L256 L257 k258 k259 k260 k261 k262 k263 k264 k265 k266 k267 k268 k269 => ?_)
          have hhd : hdU (tI (ez_I h220 3)) (ez_I h220 2 1).toInt.toNat (ez_I h220 69 6).toInt.toNat = some (q255, L256, L257) := k258
          rw [(show ez_I h220 3 = ez_I h 3 from zW_fn F227 3 x58_39 x58_40), (show ez_I h220 2 1 = ez_I h 2 1 from zW_f F227 x58_37 x58_38), show (ez_I h220 69 6).toInt.toNat = ((ez_I h 69 6).toInt.toNat + 3) by omega] at hhd
          have hho : ((ez_I h 69 6).toInt.toNat + 3) ≤ q255 ∧ q255 ≤ 8 * (ez_I h 2 1).toInt.toNat := hdU_ok hhd
          have S270 := zW_sh F254 S226
          have F271 := zW_tr F227 (zW_mono F254 (x58_44) (x58_45) (x58_6))
          have r272 := z_rng (ez_I h253 69 2)
          have r273 := z_rng (ez_I h253 69 3)
          have r274 := z_rng (ez_I h253 69 6)
          have r275 := z_rng (ez_I h253 29 4)
          have r276 := z_rng (ez_I h253 36 4)
          have r277 := z_rng (ez_I h253 43 4)
          have f278 : ez_I h253 50 1 = (ez_I h 50 1) := (zW_f F254 (by decide) (by decide)).trans (f234)
          have f279 : ez_I h253 69 1 = x197 := (zW_f F254 (by decide) (by decide)).trans (f235)
          have A280 : oR (ez_I h253 51) o (ez_I h 50 1).toInt.toNat := by rw [zW_fn F254 51 (by decide) (x58_46)]; exact A236
          clear A236
          refine gw_ld rfl rfl ?_
          refine gw_ld rfl rfl ?_
          refine gw_ld rfl rfl ?_
          refine z_gR (q := 14) (zT S270 (by decide) rfl) (zRf S270 (by decide) (by decide) rfl) (by decide) ?_
          refine z_gR (q := 29) (zT S270 (by decide) rfl) (zRf S270 (by decide) (by decide) rfl) (by decide) ?_
          refine gw_ld rfl rfl ?_
          refine z_gR (q := 14) (zT S270 (by decide) rfl) (zRf S270 (by decide) (by decide) rfl) (by decide) ?_
          refine z_gR (q := 36) (zT S270 (by decide) rfl) (zRf S270 (by decide) (by decide) rfl) (by decide) ?_
          have t281 := congrArg Int32.toInt (f278)
          have t282 := congrArg Int32.toInt (f279)
          refine z_cl rfl rfl rfl rfl rfl rfl rfl rfl rfl rfl rfl (zT S270 (by decide) rfl) ?_
          have heq : ∀ F p o m, upP (tI (ez_I h 3)) (ez_I h 2 1).toInt.toNat (nL (ez_I h253 30)) 288 (nL (ez_I h253 37)) 288 F p o m = upP (tI (ez_I h 3)) (ez_I h 2 1).toInt.toNat L256 288 L257 288 F p o m := upP_eq (Nat.le_refl 288) k264 (fun k a b => by omega) (Nat.le_refl 288) k269 (fun k a b => by omega)
          refine c_rParts (p := 29) (w := 36) (o := o) S270 (by decide) (by decide) hE (zMw F271 hM) (by rw [(show ez_I h253 2 1 = ez_I h 2 1 from zW_f F271 x58_37 x58_38)]; exact hz) (by rw [(show ez_I h253 2 1 = ez_I h 2 1 from zW_f F271 x58_37 x58_38), (show ez_I h253 3 = ez_I h 3 from zW_fn F271 3 x58_39 x58_40)]; exact hb) (by rw [(show ez_I h253 2 1 = ez_I h 2 1 from zW_f F271 x58_37 x58_38)]; omega) (by omega) (by rw [show (ez_I h253 50 1).toInt.toNat = (ez_I h 50 1).toInt.toNat by omega]; exact A280) k260 k261 k262 k263 k265 k266 k267 k268 (fun qn hh FF => Ke (by have q2 : upP (tI (ez_I h253 3)) (ez_I h253 2 1).toInt.toNat (nL (ez_I h253 30)) 288 (nL (ez_I h253 37)) 288 (8 * (ez_I h253 2 1).toInt.toNat) (ez_I h253 69 6).toInt.toNat o (ez_I h253 50 1).toInt.toNat = none := qn; rw [(show ez_I h253 3 = ez_I h 3 from zW_fn F271 3 x58_39 x58_40), (show ez_I h253 2 1 = ez_I h 2 1 from zW_f F271 x58_37 x58_38), show (ez_I h253 69 6).toInt.toNat = q255 by omega, show (ez_I h253 50 1).toInt.toNat = (ez_I h 50 1).toInt.toNat by omega] at q2; exact (blU_2y (by omega) hv2 rfl hhd).trans ((heq _ _ _ _).symm.trans q2)) hh (zW_tr F271 (zW_mono FF x58_47 x58_48 x58_6))) (fun h283 F284 q285 o286 m287 k288 k289 k290 k291 k292 => ?_)
          have hsp : upP (tI (ez_I h253 3)) (ez_I h253 2 1).toInt.toNat (nL (ez_I h253 30)) 288 (nL (ez_I h253 37)) 288 (8 * (ez_I h253 2 1).toInt.toNat) (ez_I h253 69 6).toInt.toNat o (ez_I h253 50 1).toInt.toNat = some (q285, o286, m287) := k288
          rw [(show ez_I h253 3 = ez_I h 3 from zW_fn F271 3 x58_39 x58_40), (show ez_I h253 2 1 = ez_I h 2 1 from zW_f F271 x58_37 x58_38), show (ez_I h253 69 6).toInt.toNat = q255 by omega, show (ez_I h253 50 1).toInt.toNat = (ez_I h 50 1).toInt.toNat by omega] at hsp
          have S293 := zW_sh F284 S270
          have F294 := zW_tr F271 (zW_mono F284 (x58_47) (x58_48) (x58_6))
          have r295 := z_rng (ez_I h283 69 2)
          have r296 := z_rng (ez_I h283 69 3)
          have r297 := z_rng (ez_I h283 69 6)
          have f298 : ez_I h283 29 4 = (ez_I h253 29 4) := (zW_f F284 (by decide) (by decide)).trans (rfl)
          have f299 : ez_I h283 36 4 = (ez_I h253 36 4) := (zW_f F284 (by decide) (by decide)).trans (rfl)
          have f300 : ez_I h283 43 4 = (ez_I h253 43 4) := (zW_f F284 (by decide) (by decide)).trans (rfl)
          have r301 := z_rng (ez_I h283 50 1)
          have f302 : ez_I h283 69 1 = x197 := (zW_f F284 (by decide) (by decide)).trans (f279)
          refine z_go ?_
          refine gw_skip _ ?_
          refine z_rv ?_
          have t303 := congrArg Int32.toInt (f298)
          have t304 := congrArg Int32.toInt (f299)
          have t305 := congrArg Int32.toInt (f300)
          have t306 := congrArg Int32.toInt (f302)
          have hsp2 : blU (tI (ez_I h 3)) (ez_I h 2 1).toInt.toNat (ez_I h 69 6).toInt.toNat o (ez_I h 50 1).toInt.toNat = some (q285, o286, m287) := (blU_2y (by omega) hv2 rfl hhd).trans ((heq _ _ _ _).symm.trans hsp)
          exact K _ F294 q285 o286 m287 hsp2 (by omega) (by omega) (by omega) k292 (by omega)
      · have c239 : ¬ (x222.toInt ≠ x238.toInt) := c239
        have hv1 : vB (tI (ez_I h 3)) ((ez_I h 69 6).toInt.toNat + 1) 2 = 1 := by omega
        refine gw_ld rfl rfl ?_
        refine gw_ld rfl rfl ?_
        refine gw_ld rfl rfl ?_
        refine z_gR (q := 14) (zT S226 (by decide) rfl) (zRf S226 (by decide) (by decide) rfl) (by decide) ?_
        refine z_gR (q := 15) (zT S226 (by decide) rfl) (zRf S226 (by decide) (by decide) rfl) (by decide) ?_
        refine gw_ld rfl rfl ?_
        refine z_gR (q := 14) (zT S226 (by decide) rfl) (zRf S226 (by decide) (by decide) rfl) (by decide) ?_
        refine z_gR (q := 22) (zT S226 (by decide) rfl) (zRf S226 (by decide) (by decide) rfl) (by decide) ?_
        have t307 := congrArg Int32.toInt (f231)
        have t308 := congrArg Int32.toInt (f232)
        have t309 := congrArg Int32.toInt (f233)
        have t310 := congrArg Int32.toInt (f234)
        have t311 := congrArg Int32.toInt (f235)
        refine z_cl rfl rfl rfl rfl rfl rfl rfl rfl rfl rfl rfl (zT S226 (by decide) rfl) ?_
        have heq : ∀ F p o m, upP (tI (ez_I h 3)) (ez_I h 2 1).toInt.toNat (nL (ez_I h 16)) 288 (nL (ez_I h 23)) 288 F p o m = upP (tI (ez_I h 3)) (ez_I h 2 1).toInt.toNat fxL 288 fxD 288 F p o m := upP_eq (Nat.le_refl 288) hF1 (fun k a b => by omega) (Nat.le_refl 288) hF2 (fun k a b => by omega)
        have g16 := (show ez_I h220 16 = ez_I h 16 from zW_fn F227 16 x58_49 x58_50)
        have g23 := (show ez_I h220 23 = ez_I h 23 from zW_fn F227 23 x58_57 x58_58)
        refine c_rParts (p := 15) (w := 22) (o := o) S226 (by decide) (by decide) hE (zMw F227 hM) (by rw [(show ez_I h220 2 1 = ez_I h 2 1 from zW_f F227 x58_37 x58_38)]; exact hz) (by rw [(show ez_I h220 2 1 = ez_I h 2 1 from zW_f F227 x58_37 x58_38), (show ez_I h220 3 = ez_I h 3 from zW_fn F227 3 x58_39 x58_40)]; exact hb) (by rw [(show ez_I h220 2 1 = ez_I h 2 1 from zW_f F227 x58_37 x58_38)]; omega) (by omega) (by rw [show (ez_I h220 50 1).toInt.toNat = (ez_I h 50 1).toInt.toNat by omega]; exact A236) (show aR (ez_I h220 16) 288 0 15 by rw [(show ez_I h220 16 = ez_I h 16 from zW_fn F227 16 x58_49 x58_50)]; exact hL15) (show ctC (ez_I h220 18) (nL (ez_I h220 16)) 288 by rw [(show ez_I h220 18 = ez_I h 18 from zW_fn F227 18 x58_51 x58_52), (show ez_I h220 16 = ez_I h 16 from zW_fn F227 16 x58_49 x58_50)]; exact hct15) (show (ez_I h220 15 4).toInt = (plN (nL (ez_I h220 16)) 288 16 : Nat) by rw [(show ez_I h220 15 4 = ez_I h 15 4 from zW_f F227 x58_53 x58_54), (show ez_I h220 16 = ez_I h 16 from zW_fn F227 16 x58_49 x58_50)]; exact hcd15) (show itI (ez_I h220 19) (nL (ez_I h220 16)) 288 288 by rw [(show ez_I h220 19 = ez_I h 19 from zW_fn F227 19 x58_55 x58_56), (show ez_I h220 16 = ez_I h 16 from zW_fn F227 16 x58_49 x58_50)]; exact hit15) (show aR (ez_I h220 23) 288 0 15 by rw [(show ez_I h220 23 = ez_I h 23 from zW_fn F227 23 x58_57 x58_58)]; exact hL22) (show ctC (ez_I h220 25) (nL (ez_I h220 23)) 288 by rw [(show ez_I h220 25 = ez_I h 25 from zW_fn F227 25 x58_59 x58_60), (show ez_I h220 23 = ez_I h 23 from zW_fn F227 23 x58_57 x58_58)]; exact hct22) (show (ez_I h220 22 4).toInt = (plN (nL (ez_I h220 23)) 288 16 : Nat) by rw [(show ez_I h220 22 4 = ez_I h 22 4 from zW_f F227 x58_61 x58_62), (show ez_I h220 23 = ez_I h 23 from zW_fn F227 23 x58_57 x58_58)]; exact hcd22) (show itI (ez_I h220 26) (nL (ez_I h220 23)) 288 288 by rw [(show ez_I h220 26 = ez_I h 26 from zW_fn F227 26 x58_63 x58_64), (show ez_I h220 23 = ez_I h 23 from zW_fn F227 23 x58_57 x58_58)]; exact hit22) (fun qn hh FF => Ke (by have q2 : upP (tI (ez_I h220 3)) (ez_I h220 2 1).toInt.toNat (nL (ez_I h220 16)) 288 (nL (ez_I h220 23)) 288 (8 * (ez_I h220 2 1).toInt.toNat) (ez_I h220 69 6).toInt.toNat o (ez_I h220 50 1).toInt.toNat = none := qn; rw [(show ez_I h220 3 = ez_I h 3 from zW_fn F227 3 x58_39 x58_40), (show ez_I h220 2 1 = ez_I h 2 1 from zW_f F227 x58_37 x58_38), show (ez_I h220 69 6).toInt.toNat = ((ez_I h 69 6).toInt.toNat + 3) by omega, show (ez_I h220 50 1).toInt.toNat = (ez_I h 50 1).toInt.toNat by omega] at q2; exact (blU_1 (by omega) hv1 rfl).trans ((heq _ _ _ _).symm.trans (by rw [g16, g23] at q2; exact q2))) hh (zW_tr F227 (zW_mono FF x58_47 x58_48 x58_6))) (fun h312 F313 q314 o315 m316 k317 k318 k319 k320 k321 => ?_)
        have hsp : upP (tI (ez_I h220 3)) (ez_I h220 2 1).toInt.toNat (nL (ez_I h220 16)) 288 (nL (ez_I h220 23)) 288 (8 * (ez_I h220 2 1).toInt.toNat) (ez_I h220 69 6).toInt.toNat o (ez_I h220 50 1).toInt.toNat = some (q314, o315, m316) := k317
        rw [(show ez_I h220 3 = ez_I h 3 from zW_fn F227 3 x58_39 x58_40), (show ez_I h220 2 1 = ez_I h 2 1 from zW_f F227 x58_37 x58_38), show (ez_I h220 69 6).toInt.toNat = ((ez_I h 69 6).toInt.toNat + 3) by omega, show (ez_I h220 50 1).toInt.toNat = (ez_I h 50 1).toInt.toNat by omega] at hsp
        have S322 := zW_sh F313 S226
        have F323 := zW_tr F227 (zW_mono F313 (x58_47) (x58_48) (x58_6))
        have r324 := z_rng (ez_I h312 69 2)
        have r325 := z_rng (ez_I h312 69 3)
        have r326 := z_rng (ez_I h312 69 6)
        have f327 : ez_I h312 29 4 = (ez_I h 29 4) := (zW_f F313 (by decide) (by decide)).trans (f231)
        have f328 : ez_I h312 36 4 = (ez_I h 36 4) := (zW_f F313 (by decide) (by decide)).trans (f232)
        have f329 : ez_I h312 43 4 = (ez_I h 43 4) := (zW_f F313 (by decide) (by decide)).trans (f233)
        have r330 := z_rng (ez_I h312 50 1)
        have f331 : ez_I h312 69 1 = x197 := (zW_f F313 (by decide) (by decide)).trans (f235)
        refine z_go ?_
        refine gw_skip _ ?_
        refine z_rv ?_
        have t332 := congrArg Int32.toInt (f327)
        have t333 := congrArg Int32.toInt (f328)
        have t334 := congrArg Int32.toInt (f329)
        have t335 := congrArg Int32.toInt (f331)
        have hsp2 : blU (tI (ez_I h 3)) (ez_I h 2 1).toInt.toNat (ez_I h 69 6).toInt.toNat o (ez_I h 50 1).toInt.toNat = some (q314, o315, m316) := (blU_1 (by omega) hv1 rfl).trans ((heq _ _ _ _).symm.trans (by rw [g16, g23] at hsp; exact hsp))
        exact K _ F323 q314 o315 m316 hsp2 (by omega) (by omega) (by omega) k321 (by omega)
    · have c237 : ¬ (x222.toInt ≠ 0) := c237
      have hv0 : vB (tI (ez_I h 3)) ((ez_I h 69 6).toInt.toNat + 1) 2 = 0 := by omega
      refine gw_ld rfl rfl ?_
      refine gw_ld rfl rfl ?_
      have t336 := congrArg Int32.toInt (f231)
      have t337 := congrArg Int32.toInt (f232)
      have t338 := congrArg Int32.toInt (f233)
      have t339 := congrArg Int32.toInt (f234)
      have t340 := congrArg Int32.toInt (f235)
      refine z_cl rfl rfl rfl rfl rfl rfl rfl rfl rfl rfl rfl (zT S226 (by decide) rfl) ?_
      refine c_rStored (o := o) S226  (zMw F227 hM) (by rw [(show ez_I h220 2 1 = ez_I h 2 1 from zW_f F227 x58_37 x58_38)]; exact hz) (by rw [(show ez_I h220 2 1 = ez_I h 2 1 from zW_f F227 x58_37 x58_38), (show ez_I h220 3 = ez_I h 3 from zW_fn F227 3 x58_39 x58_40)]; exact hb) (by rw [(show ez_I h220 2 1 = ez_I h 2 1 from zW_f F227 x58_37 x58_38)]; omega) (by omega) (by rw [show (ez_I h220 50 1).toInt.toNat = (ez_I h 50 1).toInt.toNat by omega]; exact A236)  (fun qn hh FF => Ke (by have q2 : stS (tI (ez_I h220 3)) (ez_I h220 2 1).toInt.toNat (ez_I h220 69 6).toInt.toNat o (ez_I h220 50 1).toInt.toNat = none := qn; rw [(show ez_I h220 3 = ez_I h 3 from zW_fn F227 3 x58_39 x58_40), (show ez_I h220 2 1 = ez_I h 2 1 from zW_f F227 x58_37 x58_38), show (ez_I h220 69 6).toInt.toNat = ((ez_I h 69 6).toInt.toNat + 3) by omega, show (ez_I h220 50 1).toInt.toNat = (ez_I h 50 1).toInt.toNat by omega] at q2; exact (blU_0 (by omega) hv0 rfl).trans q2) hh (zW_tr F227 (zW_mono FF x58_47 x58_48 x58_6))) (fun h341 F342 q343 o344 m345 k346 k347 k348 k349 k350 => ?_)
      have hsp : stS (tI (ez_I h220 3)) (ez_I h220 2 1).toInt.toNat (ez_I h220 69 6).toInt.toNat o (ez_I h220 50 1).toInt.toNat = some (q343, o344, m345) := k346
      rw [(show ez_I h220 3 = ez_I h 3 from zW_fn F227 3 x58_39 x58_40), (show ez_I h220 2 1 = ez_I h 2 1 from zW_f F227 x58_37 x58_38), show (ez_I h220 69 6).toInt.toNat = ((ez_I h 69 6).toInt.toNat + 3) by omega, show (ez_I h220 50 1).toInt.toNat = (ez_I h 50 1).toInt.toNat by omega] at hsp
      have S351 := zW_sh F342 S226
      have F352 := zW_tr F227 (zW_mono F342 (x58_47) (x58_48) (x58_6))
      have r353 := z_rng (ez_I h341 69 2)
      have r354 := z_rng (ez_I h341 69 3)
      have r355 := z_rng (ez_I h341 69 6)
      have f356 : ez_I h341 29 4 = (ez_I h 29 4) := (zW_f F342 (by decide) (by decide)).trans (f231)
      have f357 : ez_I h341 36 4 = (ez_I h 36 4) := (zW_f F342 (by decide) (by decide)).trans (f232)
      have f358 : ez_I h341 43 4 = (ez_I h 43 4) := (zW_f F342 (by decide) (by decide)).trans (f233)
      have r359 := z_rng (ez_I h341 50 1)
      have f360 : ez_I h341 69 1 = x197 := (zW_f F342 (by decide) (by decide)).trans (f235)
      refine z_go ?_
      refine gw_skip _ ?_
      refine z_rv ?_
      have t361 := congrArg Int32.toInt (f356)
      have t362 := congrArg Int32.toInt (f357)
      have t363 := congrArg Int32.toInt (f358)
      have t364 := congrArg Int32.toInt (f360)
      have hsp2 : blU (tI (ez_I h 3)) (ez_I h 2 1).toInt.toNat (ez_I h 69 6).toInt.toNat o (ez_I h 50 1).toInt.toNat = some (q343, o344, m345) := (blU_0 (by omega) hv0 rfl).trans hsp
      exact K _ F352 q343 o344 m345 hsp2 (by omega) (by omega) (by omega) k350 (by omega)
end
section
/-! PRINTED by wip/pack: the class unpacks -/
theorem x58_65 : ∀ q k : Nat, (q = 4 ∧ k = 1) → (q = 69 ∧ k = 2 ∨ q = 69 ∧ k = 3 ∨ q = 69 ∧ k = 6 ∨ q = 29 ∧ k = 4 ∨ q = 36 ∧ k = 4 ∨ q = 43 ∧ k = 4 ∨ q = 50 ∧ k = 1 ∨ q = 69 ∧ k = 1 ∨ q = 4 ∧ k = 1) := fun q k hk => (.inr (.inr (.inr (.inr (.inr (.inr (.inr (.inr hk))))))))
theorem x58_66 : ∀ q : Nat, (q = 5) → (30 ≤ q ∧ q ≤ 35 ∨ 37 ≤ q ∧ q ≤ 42 ∨ 44 ≤ q ∧ q ≤ 49 ∨ q = 70 ∨ q = 51 ∨ q = 5) := fun q hk => (.inr (.inr (.inr (.inr (.inr hk)))))
theorem x58_67 : ∀ k : Nat, ¬ (51 = 4 ∧ k = 1) := fun k c => by omega
theorem x58_68 : ¬ (30 ≤ 2 ∧ 2 ≤ 35 ∨ 37 ≤ 2 ∧ 2 ≤ 42 ∨ 44 ≤ 2 ∧ 2 ≤ 49 ∨ 2 = 70 ∨ 2 = 51 ∨ 2 = 5) := by omega
theorem x58_69 : ¬ (2 = 69 ∧ 1 = 2 ∨ 2 = 69 ∧ 1 = 3 ∨ 2 = 69 ∧ 1 = 6 ∨ 2 = 29 ∧ 1 = 4 ∨ 2 = 36 ∧ 1 = 4 ∨ 2 = 43 ∧ 1 = 4 ∨ 2 = 50 ∧ 1 = 1 ∨ 2 = 69 ∧ 1 = 1 ∨ 2 = 4 ∧ 1 = 1) := by omega
theorem x58_70 : ¬ (30 ≤ 3 ∧ 3 ≤ 35 ∨ 37 ≤ 3 ∧ 3 ≤ 42 ∨ 44 ≤ 3 ∧ 3 ≤ 49 ∨ 3 = 70 ∨ 3 = 51 ∨ 3 = 5) := by omega
theorem x58_71 : ∀ k : Nat, ¬ (3 = 69 ∧ k = 2 ∨ 3 = 69 ∧ k = 3 ∨ 3 = 69 ∧ k = 6 ∨ 3 = 29 ∧ k = 4 ∨ 3 = 36 ∧ k = 4 ∨ 3 = 43 ∧ k = 4 ∨ 3 = 50 ∧ k = 1 ∨ 3 = 69 ∧ k = 1 ∨ 3 = 4 ∧ k = 1) := fun k c => by omega
theorem x58_72 : ¬ (30 ≤ 16 ∧ 16 ≤ 35 ∨ 37 ≤ 16 ∧ 16 ≤ 42 ∨ 44 ≤ 16 ∧ 16 ≤ 49 ∨ 16 = 70 ∨ 16 = 51 ∨ 16 = 5) := by omega
theorem x58_73 : ∀ k : Nat, ¬ (16 = 69 ∧ k = 2 ∨ 16 = 69 ∧ k = 3 ∨ 16 = 69 ∧ k = 6 ∨ 16 = 29 ∧ k = 4 ∨ 16 = 36 ∧ k = 4 ∨ 16 = 43 ∧ k = 4 ∨ 16 = 50 ∧ k = 1 ∨ 16 = 69 ∧ k = 1 ∨ 16 = 4 ∧ k = 1) := fun k c => by omega
theorem x58_74 : ¬ (30 ≤ 18 ∧ 18 ≤ 35 ∨ 37 ≤ 18 ∧ 18 ≤ 42 ∨ 44 ≤ 18 ∧ 18 ≤ 49 ∨ 18 = 70 ∨ 18 = 51 ∨ 18 = 5) := by omega
theorem x58_75 : ∀ k : Nat, ¬ (18 = 69 ∧ k = 2 ∨ 18 = 69 ∧ k = 3 ∨ 18 = 69 ∧ k = 6 ∨ 18 = 29 ∧ k = 4 ∨ 18 = 36 ∧ k = 4 ∨ 18 = 43 ∧ k = 4 ∨ 18 = 50 ∧ k = 1 ∨ 18 = 69 ∧ k = 1 ∨ 18 = 4 ∧ k = 1) := fun k c => by omega
theorem x58_76 : ¬ (30 ≤ 15 ∧ 15 ≤ 35 ∨ 37 ≤ 15 ∧ 15 ≤ 42 ∨ 44 ≤ 15 ∧ 15 ≤ 49 ∨ 15 = 70 ∨ 15 = 51 ∨ 15 = 5) := by omega
theorem x58_77 : ¬ (15 = 69 ∧ 4 = 2 ∨ 15 = 69 ∧ 4 = 3 ∨ 15 = 69 ∧ 4 = 6 ∨ 15 = 29 ∧ 4 = 4 ∨ 15 = 36 ∧ 4 = 4 ∨ 15 = 43 ∧ 4 = 4 ∨ 15 = 50 ∧ 4 = 1 ∨ 15 = 69 ∧ 4 = 1 ∨ 15 = 4 ∧ 4 = 1) := by omega
theorem x58_78 : ¬ (30 ≤ 19 ∧ 19 ≤ 35 ∨ 37 ≤ 19 ∧ 19 ≤ 42 ∨ 44 ≤ 19 ∧ 19 ≤ 49 ∨ 19 = 70 ∨ 19 = 51 ∨ 19 = 5) := by omega
theorem x58_79 : ∀ k : Nat, ¬ (19 = 69 ∧ k = 2 ∨ 19 = 69 ∧ k = 3 ∨ 19 = 69 ∧ k = 6 ∨ 19 = 29 ∧ k = 4 ∨ 19 = 36 ∧ k = 4 ∨ 19 = 43 ∧ k = 4 ∨ 19 = 50 ∧ k = 1 ∨ 19 = 69 ∧ k = 1 ∨ 19 = 4 ∧ k = 1) := fun k c => by omega
theorem x58_80 : ¬ (30 ≤ 23 ∧ 23 ≤ 35 ∨ 37 ≤ 23 ∧ 23 ≤ 42 ∨ 44 ≤ 23 ∧ 23 ≤ 49 ∨ 23 = 70 ∨ 23 = 51 ∨ 23 = 5) := by omega
theorem x58_81 : ∀ k : Nat, ¬ (23 = 69 ∧ k = 2 ∨ 23 = 69 ∧ k = 3 ∨ 23 = 69 ∧ k = 6 ∨ 23 = 29 ∧ k = 4 ∨ 23 = 36 ∧ k = 4 ∨ 23 = 43 ∧ k = 4 ∨ 23 = 50 ∧ k = 1 ∨ 23 = 69 ∧ k = 1 ∨ 23 = 4 ∧ k = 1) := fun k c => by omega
theorem x58_82 : ¬ (30 ≤ 25 ∧ 25 ≤ 35 ∨ 37 ≤ 25 ∧ 25 ≤ 42 ∨ 44 ≤ 25 ∧ 25 ≤ 49 ∨ 25 = 70 ∨ 25 = 51 ∨ 25 = 5) := by omega
theorem x58_83 : ∀ k : Nat, ¬ (25 = 69 ∧ k = 2 ∨ 25 = 69 ∧ k = 3 ∨ 25 = 69 ∧ k = 6 ∨ 25 = 29 ∧ k = 4 ∨ 25 = 36 ∧ k = 4 ∨ 25 = 43 ∧ k = 4 ∨ 25 = 50 ∧ k = 1 ∨ 25 = 69 ∧ k = 1 ∨ 25 = 4 ∧ k = 1) := fun k c => by omega
theorem x58_84 : ¬ (30 ≤ 22 ∧ 22 ≤ 35 ∨ 37 ≤ 22 ∧ 22 ≤ 42 ∨ 44 ≤ 22 ∧ 22 ≤ 49 ∨ 22 = 70 ∨ 22 = 51 ∨ 22 = 5) := by omega
theorem x58_85 : ¬ (22 = 69 ∧ 4 = 2 ∨ 22 = 69 ∧ 4 = 3 ∨ 22 = 69 ∧ 4 = 6 ∨ 22 = 29 ∧ 4 = 4 ∨ 22 = 36 ∧ 4 = 4 ∨ 22 = 43 ∧ 4 = 4 ∨ 22 = 50 ∧ 4 = 1 ∨ 22 = 69 ∧ 4 = 1 ∨ 22 = 4 ∧ 4 = 1) := by omega
theorem x58_86 : ¬ (30 ≤ 26 ∧ 26 ≤ 35 ∨ 37 ≤ 26 ∧ 26 ≤ 42 ∨ 44 ≤ 26 ∧ 26 ≤ 49 ∨ 26 = 70 ∨ 26 = 51 ∨ 26 = 5) := by omega
theorem x58_87 : ∀ k : Nat, ¬ (26 = 69 ∧ k = 2 ∨ 26 = 69 ∧ k = 3 ∨ 26 = 69 ∧ k = 6 ∨ 26 = 29 ∧ k = 4 ∨ 26 = 36 ∧ k = 4 ∨ 26 = 43 ∧ k = 4 ∨ 26 = 50 ∧ k = 1 ∨ 26 = 69 ∧ k = 1 ∨ 26 = 4 ∧ k = 1) := fun k c => by omega
theorem x58_88 : ∀ q k : Nat, (q = 69 ∧ k = 2 ∨ q = 69 ∧ k = 3 ∨ q = 69 ∧ k = 6 ∨ q = 29 ∧ k = 4 ∨ q = 36 ∧ k = 4 ∨ q = 43 ∧ k = 4 ∨ q = 50 ∧ k = 1 ∨ q = 69 ∧ k = 1) → (q = 69 ∧ k = 2 ∨ q = 69 ∧ k = 3 ∨ q = 69 ∧ k = 6 ∨ q = 29 ∧ k = 4 ∨ q = 36 ∧ k = 4 ∨ q = 43 ∧ k = 4 ∨ q = 50 ∧ k = 1 ∨ q = 69 ∧ k = 1 ∨ q = 4 ∧ k = 1) := fun q k hk => hk.elim (fun g => (.inl g)) (fun hk => hk.elim (fun g => (.inr (.inl g))) (fun hk => hk.elim (fun g => (.inr (.inr (.inl g)))) (fun hk => hk.elim (fun g => (.inr (.inr (.inr (.inl g))))) (fun hk => hk.elim (fun g => (.inr (.inr (.inr (.inr (.inl g)))))) (fun hk => hk.elim (fun g => (.inr (.inr (.inr (.inr (.inr (.inl g))))))) (fun hk => hk.elim (fun g => (.inr (.inr (.inr (.inr (.inr (.inr (.inl g)))))))) (fun hk => (.inr (.inr (.inr (.inr (.inr (.inr (.inr (.inl hk)))))))))))))))
theorem x58_89 : ∀ q : Nat, (30 ≤ q ∧ q ≤ 35 ∨ 37 ≤ q ∧ q ≤ 42 ∨ 44 ≤ q ∧ q ≤ 49 ∨ q = 70 ∨ q = 51) → (30 ≤ q ∧ q ≤ 35 ∨ 37 ≤ q ∧ q ≤ 42 ∨ 44 ≤ q ∧ q ≤ 49 ∨ q = 70 ∨ q = 51 ∨ q = 5) := fun q hk => hk.elim (fun g => (.inl g)) (fun hk => hk.elim (fun g => (.inr (.inl g))) (fun hk => hk.elim (fun g => (.inr (.inr (.inl g)))) (fun hk => hk.elim (fun g => (.inr (.inr (.inr (.inl g))))) (fun hk => (.inr (.inr (.inr (.inr (.inl hk)))))))))
set_option maxRecDepth 4000 in
set_option maxHeartbeats 2000000 in
theorem x_unpackF_L0 {E : Nat → Nat × (Nat → Int32)} {d : Nat} {Q : ez_Q} {h : ez_H}  (S : zSh h) (hE : zE E) (hM : zMem h) (hz : 0 ≤ (ez_I h 2 1).toInt ∧ (ez_I h 2 1).toInt ≤ 6000) (hb : aR (ez_I h 3) (ez_I h 2 1).toInt.toNat 0 255) (hL15 : aR (ez_I h 16) 288 0 15) (hct15 : ctC (ez_I h 18) (nL (ez_I h 16)) 288) (hcd15 : (ez_I h 15 4).toInt = (plN (nL (ez_I h 16)) 288 16 : Nat)) (hit15 : itI (ez_I h 19) (nL (ez_I h 16)) 288 288) (hL22 : aR (ez_I h 23) 288 0 15) (hct22 : ctC (ez_I h 25) (nL (ez_I h 23)) 288) (hcd22 : (ez_I h 22 4).toInt = (plN (nL (ez_I h 23)) 288 16 : Nat)) (hit22 : itI (ez_I h 26) (nL (ez_I h 23)) 288 288) (hF1 : ∀ k, k < 288 → nL (ez_I h 16) k = fxL k) (hF2 : ∀ k, k < 288 → nL (ez_I h 23) k = fxD k) (Ke : unL (tI (ez_I h 3)) (ez_I h 2 1).toInt.toNat (8 * (ez_I h 2 1).toInt.toNat) 0 (fun _ => 0) 0 = none → ∀ h2, zW (fun q k => q = 69 ∧ k = 2 ∨ q = 69 ∧ k = 3 ∨ q = 69 ∧ k = 6 ∨ q = 29 ∧ k = 4 ∨ q = 36 ∧ k = 4 ∨ q = 43 ∧ k = 4 ∨ q = 50 ∧ k = 1 ∨ q = 69 ∧ k = 1) (fun q => 30 ≤ q ∧ q ≤ 35 ∨ 37 ≤ q ∧ q ≤ 42 ∨ 44 ≤ q ∧ q ≤ 49 ∨ q = 70 ∨ q = 51) (fun _ => False) h h2 → Q (.inr 2) (ez_bump h2)) (K : ∀ h2 (x : Int32), zW (fun q k => q = 69 ∧ k = 2 ∨ q = 69 ∧ k = 3 ∨ q = 69 ∧ k = 6 ∨ q = 29 ∧ k = 4 ∨ q = 36 ∧ k = 4 ∨ q = 43 ∧ k = 4 ∨ q = 50 ∧ k = 1 ∨ q = 69 ∧ k = 1 ∨ q = 4 ∧ k = 1) (fun q => 30 ≤ q ∧ q ≤ 35 ∨ 37 ≤ q ∧ q ≤ 42 ∨ 44 ≤ q ∧ q ≤ 49 ∨ q = 70 ∨ q = 51 ∨ q = 5) (fun _ => False) h h2 → ∀ (o2 : Nat → Int) (m2 : Nat), unL (tI (ez_I h 3)) (ez_I h 2 1).toInt.toNat (8 * (ez_I h 2 1).toInt.toNat) 0 (fun _ => 0) 0 = some (o2, m2) → x.toInt = m2 → (ez_I h2 4 1).toInt = m2 → m2 ≤ 6000 → oR (ez_I h2 5) o2 m2 → Q (.inl (some (.int x))) h2) : ∀ N : Nat, (∀ (h2 : ez_H) (n : Int32) (p2 : Nat) (o2 : Nat → Int) (m2 : Nat) (dn : Nat), zW (fun q k => q = 69 ∧ k = 2 ∨ q = 69 ∧ k = 3 ∨ q = 69 ∧ k = 6 ∨ q = 29 ∧ k = 4 ∨ q = 36 ∧ k = 4 ∨ q = 43 ∧ k = 4 ∨ q = 50 ∧ k = 1 ∨ q = 69 ∧ k = 1 ∨ q = 4 ∧ k = 1) (fun q => 30 ≤ q ∧ q ≤ 35 ∨ 37 ≤ q ∧ q ≤ 42 ∨ 44 ≤ q ∧ q ≤ 49 ∨ q = 70 ∨ q = 51 ∨ q = 5) (fun _ => False) h h2 → (0 ≤ n.toInt ∧ n.toInt ≤ p2 ∧ (ez_I h2 69 6).toInt = p2 ∧ (p2 : Int) ≤ 8 * (ez_I h 2 1).toInt ∧ (ez_I h2 50 1).toInt = m2 ∧ m2 ≤ 6000 ∧ (ez_I h2 69 1).toInt = dn ∧ dn ≤ 1) → zW (fun q k => q = 69 ∧ k = 2 ∨ q = 69 ∧ k = 3 ∨ q = 69 ∧ k = 6 ∨ q = 29 ∧ k = 4 ∨ q = 36 ∧ k = 4 ∨ q = 43 ∧ k = 4 ∨ q = 50 ∧ k = 1 ∨ q = 69 ∧ k = 1) (fun q => 30 ≤ q ∧ q ≤ 35 ∨ 37 ≤ q ∧ q ≤ 42 ∨ 44 ≤ q ∧ q ≤ 49 ∨ q = 70 ∨ q = 51) (fun _ => False) h h2 → (dn = 0 → unL (tI (ez_I h 3)) (ez_I h 2 1).toInt.toNat (8 * (ez_I h 2 1).toInt.toNat) 0 (fun _ => 0) 0 = unL (tI (ez_I h 3)) (ez_I h 2 1).toInt.toNat (8 * (ez_I h 2 1).toInt.toNat) p2 o2 m2) ∧ (dn = 1 → unL (tI (ez_I h 3)) (ez_I h 2 1).toInt.toNat (8 * (ez_I h 2 1).toInt.toNat) 0 (fun _ => 0) 0 = some (o2, m2)) → oR (ez_I h2 51) o2 m2 → (100000 - n.toInt) < (N : Int) → pw E (d + 6) 13 9 [some (.ref 1), some (.int n)] [] h2 Q) := by
  intro N
  induction N with
  | zero => exact fun h2 n p2 o2 m2 dn F hinv A_fx A_sp A_or hm => absurd hm (by have w_n := z_rng n; omega)
  | succ N ih =>
    refine fun h2 n p2 o2 m2 dn F hinv A_fx A_sp A_or hm => ?_
    · skip
      have w_n := z_rng n
      have S2 := zW_sh F S
      have FX := A_fx
      apply ez_Wp_in
      show ez_gw _ _ _ _ _ _ (cz_13) _ _ _ _ _
      refine gw_skip _ ?_
      have r1 := z_rng (ez_I h2 69 2)
      have r2 := z_rng (ez_I h2 69 3)
      have r3 := z_rng (ez_I h2 69 6)
      have r4 := z_rng (ez_I h2 29 4)
      have r5 := z_rng (ez_I h2 36 4)
      have r6 := z_rng (ez_I h2 43 4)
      have r7 := z_rng (ez_I h2 50 1)
      have r8 := z_rng (ez_I h2 69 1)
      have r9 := z_rng (ez_I h2 4 1)
      refine gw_ld rfl rfl ?_
      refine z_C (m := 48000) rfl rfl (fun x10 ex10 => ?_)
      refine z_b2 (fun c11 => ?_) (fun c11 => ?_)
      · have c11 : x10.toInt < n.toInt := c11
        refine gw_skip _ ?_
        refine gw_ld rfl rfl ?_
        refine z_gR (q := 4) (zT S2 (by decide) rfl) (zRf S2 (by decide) (by decide) rfl) (by decide) ?_
        refine gw_ld rfl rfl ?_
        refine z_gR (q := 69) (zT S2 (by decide) rfl) (zRf S2 (by decide) (by decide) rfl) (by decide) ?_
        refine z_gR (q := 50) (zT S2 (by decide) rfl) (zRf S2 (by decide) (by decide) rfl) (by decide) ?_
        refine z_cl rfl rfl rfl rfl rfl rfl rfl rfl rfl rfl rfl (zT S2 (by decide) rfl) ?_
        refine c_become (p := 4) (q := 50) S2 (by decide) (by decide) (by decide) (by omega) (fun h12 F13 k14 k15 => ?_)
        have hout : oR (ez_I h12 5) o2 m2 := fun k hk => by rw [show ez_I h12 5 k = ez_I h2 51 k from k15 k (by omega)]; exact A_or k hk
        have S16 := zW_sh F13 S2
        have F17 := zW_tr F (zW_mono F13 (x58_65) (x58_66) (x58_6))
        have f18 : ez_I h12 69 2 = (ez_I h2 69 2) := (zW_f F13 (by decide) (by decide)).trans (rfl)
        have f19 : ez_I h12 69 3 = (ez_I h2 69 3) := (zW_f F13 (by decide) (by decide)).trans (rfl)
        have f20 : ez_I h12 69 6 = (ez_I h2 69 6) := (zW_f F13 (by decide) (by decide)).trans (rfl)
        have f21 : ez_I h12 29 4 = (ez_I h2 29 4) := (zW_f F13 (by decide) (by decide)).trans (rfl)
        have f22 : ez_I h12 36 4 = (ez_I h2 36 4) := (zW_f F13 (by decide) (by decide)).trans (rfl)
        have f23 : ez_I h12 43 4 = (ez_I h2 43 4) := (zW_f F13 (by decide) (by decide)).trans (rfl)
        have f24 : ez_I h12 50 1 = (ez_I h2 50 1) := (zW_f F13 (by decide) (by decide)).trans (rfl)
        have f25 : ez_I h12 69 1 = (ez_I h2 69 1) := (zW_f F13 (by decide) (by decide)).trans (rfl)
        have r26 := z_rng (ez_I h12 4 1)
        have A27 : oR (ez_I h12 51) o2 m2 := by rw [zW_fn F13 51 (by decide) (x58_67)]; exact A_or
        refine gw_ld rfl rfl ?_
        refine z_gR (q := 4) (zT S16 (by decide) rfl) (zRf S16 (by decide) (by decide) rfl) (by decide) ?_
        refine z_gI2 (by decide) (zT S16 (by decide) rfl) (rfl) ?_
        refine z_ri ?_
        have t28 := congrArg Int32.toInt (f18)
        have t29 := congrArg Int32.toInt (f19)
        have t30 := congrArg Int32.toInt (f20)
        have t31 := congrArg Int32.toInt (f21)
        have t32 := congrArg Int32.toInt (f22)
        have t33 := congrArg Int32.toInt (f23)
        have t34 := congrArg Int32.toInt (f24)
        have t35 := congrArg Int32.toInt (f25)
        exact K _ _ F17 o2 m2 (A_sp.2 (by omega)) (by omega) (by omega) (by omega) hout
      · have c11 : ¬ (x10.toInt < n.toInt) := c11
        refine gw_ld rfl rfl ?_
        refine z_gR (q := 69) (zT S2 (by decide) rfl) (zRf S2 (by decide) (by decide) rfl) (by decide) ?_
        refine z_gI2 (by decide) (zT S2 (by decide) rfl) (rfl) ?_
        refine z_b1 (fun c36 => ?_) (fun c36 => ?_)
        · have c36 : ((ez_I h2 69 1)).toInt ≠ 0 := c36
          refine gw_skip _ ?_
          refine gw_ld rfl rfl ?_
          refine z_gR (q := 4) (zT S2 (by decide) rfl) (zRf S2 (by decide) (by decide) rfl) (by decide) ?_
          refine gw_ld rfl rfl ?_
          refine z_gR (q := 69) (zT S2 (by decide) rfl) (zRf S2 (by decide) (by decide) rfl) (by decide) ?_
          refine z_gR (q := 50) (zT S2 (by decide) rfl) (zRf S2 (by decide) (by decide) rfl) (by decide) ?_
          refine z_cl rfl rfl rfl rfl rfl rfl rfl rfl rfl rfl rfl (zT S2 (by decide) rfl) ?_
          refine c_become (p := 4) (q := 50) S2 (by decide) (by decide) (by decide) (by omega) (fun h37 F38 k39 k40 => ?_)
          have hout : oR (ez_I h37 5) o2 m2 := fun k hk => by rw [show ez_I h37 5 k = ez_I h2 51 k from k40 k (by omega)]; exact A_or k hk
          have S41 := zW_sh F38 S2
          have F42 := zW_tr F (zW_mono F38 (x58_65) (x58_66) (x58_6))
          have f43 : ez_I h37 69 2 = (ez_I h2 69 2) := (zW_f F38 (by decide) (by decide)).trans (rfl)
          have f44 : ez_I h37 69 3 = (ez_I h2 69 3) := (zW_f F38 (by decide) (by decide)).trans (rfl)
          have f45 : ez_I h37 69 6 = (ez_I h2 69 6) := (zW_f F38 (by decide) (by decide)).trans (rfl)
          have f46 : ez_I h37 29 4 = (ez_I h2 29 4) := (zW_f F38 (by decide) (by decide)).trans (rfl)
          have f47 : ez_I h37 36 4 = (ez_I h2 36 4) := (zW_f F38 (by decide) (by decide)).trans (rfl)
          have f48 : ez_I h37 43 4 = (ez_I h2 43 4) := (zW_f F38 (by decide) (by decide)).trans (rfl)
          have f49 : ez_I h37 50 1 = (ez_I h2 50 1) := (zW_f F38 (by decide) (by decide)).trans (rfl)
          have f50 : ez_I h37 69 1 = (ez_I h2 69 1) := (zW_f F38 (by decide) (by decide)).trans (rfl)
          have r51 := z_rng (ez_I h37 4 1)
          have A52 : oR (ez_I h37 51) o2 m2 := by rw [zW_fn F38 51 (by decide) (x58_67)]; exact A_or
          refine gw_ld rfl rfl ?_
          refine z_gR (q := 4) (zT S41 (by decide) rfl) (zRf S41 (by decide) (by decide) rfl) (by decide) ?_
          refine z_gI2 (by decide) (zT S41 (by decide) rfl) (rfl) ?_
          refine z_ri ?_
          have t53 := congrArg Int32.toInt (f43)
          have t54 := congrArg Int32.toInt (f44)
          have t55 := congrArg Int32.toInt (f45)
          have t56 := congrArg Int32.toInt (f46)
          have t57 := congrArg Int32.toInt (f47)
          have t58 := congrArg Int32.toInt (f48)
          have t59 := congrArg Int32.toInt (f49)
          have t60 := congrArg Int32.toInt (f50)
          exact K _ _ F42 o2 m2 (A_sp.2 (by omega)) (by omega) (by omega) (by omega) hout
        · have c36 : ¬ (((ez_I h2 69 1)).toInt ≠ 0) := c36
          refine gw_ld rfl rfl ?_
          refine z_gR (q := 69) (zT S2 (by decide) rfl) (zRf S2 (by decide) (by decide) rfl) (by decide) ?_
          refine gw_ld rfl rfl ?_
          refine z_gR (q := 2) (zT S2 (by decide) rfl) (zRf S2 (by decide) (by decide) rfl) (by decide) ?_
          refine z_cl rfl rfl rfl rfl rfl rfl rfl rfl rfl rfl rfl (zT S2 (by decide) rfl) ?_
          refine c_rBlock (o := o2) S2 hE (zMw F hM) (by rw [(show ez_I h2 2 1 = ez_I h 2 1 from zW_f F x58_68 x58_69)]; exact hz) (by rw [(show ez_I h2 2 1 = ez_I h 2 1 from zW_f F x58_68 x58_69), (show ez_I h2 3 = ez_I h 3 from zW_fn F 3 x58_70 x58_71)]; exact hb) (by rw [(show ez_I h2 2 1 = ez_I h 2 1 from zW_f F x58_68 x58_69)]; omega) (by omega) (by rw [show (ez_I h2 50 1).toInt.toNat = m2 by omega]; exact A_or) (show aR (ez_I h2 16) 288 0 15 by rw [(show ez_I h2 16 = ez_I h 16 from zW_fn F 16 x58_72 x58_73)]; exact hL15) (show ctC (ez_I h2 18) (nL (ez_I h2 16)) 288 by rw [(show ez_I h2 18 = ez_I h 18 from zW_fn F 18 x58_74 x58_75), (show ez_I h2 16 = ez_I h 16 from zW_fn F 16 x58_72 x58_73)]; exact hct15) (show (ez_I h2 15 4).toInt = (plN (nL (ez_I h2 16)) 288 16 : Nat) by rw [(show ez_I h2 15 4 = ez_I h 15 4 from zW_f F x58_76 x58_77), (show ez_I h2 16 = ez_I h 16 from zW_fn F 16 x58_72 x58_73)]; exact hcd15) (show itI (ez_I h2 19) (nL (ez_I h2 16)) 288 288 by rw [(show ez_I h2 19 = ez_I h 19 from zW_fn F 19 x58_78 x58_79), (show ez_I h2 16 = ez_I h 16 from zW_fn F 16 x58_72 x58_73)]; exact hit15) (show aR (ez_I h2 23) 288 0 15 by rw [(show ez_I h2 23 = ez_I h 23 from zW_fn F 23 x58_80 x58_81)]; exact hL22) (show ctC (ez_I h2 25) (nL (ez_I h2 23)) 288 by rw [(show ez_I h2 25 = ez_I h 25 from zW_fn F 25 x58_82 x58_83), (show ez_I h2 23 = ez_I h 23 from zW_fn F 23 x58_80 x58_81)]; exact hct22) (show (ez_I h2 22 4).toInt = (plN (nL (ez_I h2 23)) 288 16 : Nat) by rw [(show ez_I h2 22 4 = ez_I h 22 4 from zW_f F x58_84 x58_85), (show ez_I h2 23 = ez_I h 23 from zW_fn F 23 x58_80 x58_81)]; exact hcd22) (show itI (ez_I h2 26) (nL (ez_I h2 23)) 288 288 by rw [(show ez_I h2 26 = ez_I h 26 from zW_fn F 26 x58_86 x58_87), (show ez_I h2 23 = ez_I h 23 from zW_fn F 23 x58_80 x58_81)]; exact hit22) (by rw [(show ez_I h2 16 = ez_I h 16 from zW_fn F 16 x58_72 x58_73)]; exact hF1) (by rw [(show ez_I h2 23 = ez_I h 23 from zW_fn F 23 x58_80 x58_81)]; exact hF2) (fun qn hh FF => Ke (by have q2 : blU (tI (ez_I h2 3)) (ez_I h2 2 1).toInt.toNat (ez_I h2 69 6).toInt.toNat o2 (ez_I h2 50 1).toInt.toNat = none := qn; rw [(show ez_I h2 3 = ez_I h 3 from zW_fn F 3 x58_70 x58_71), (show ez_I h2 2 1 = ez_I h 2 1 from zW_f F x58_68 x58_69), show (ez_I h2 69 6).toInt.toNat = p2 by omega, show (ez_I h2 50 1).toInt.toNat = m2 by omega] at q2; exact (A_sp.1 (by omega)).trans (unL_n q2)) hh (zW_tr FX FF)) (fun h61 F62 q63 o64 m65 k66 k67 k68 k69 k70 k71 => ?_)
          have hsp : blU (tI (ez_I h2 3)) (ez_I h2 2 1).toInt.toNat (ez_I h2 69 6).toInt.toNat o2 (ez_I h2 50 1).toInt.toNat = some (q63, o64, m65) := k66
          rw [(show ez_I h2 3 = ez_I h 3 from zW_fn F 3 x58_70 x58_71), (show ez_I h2 2 1 = ez_I h 2 1 from zW_f F x58_68 x58_69), show (ez_I h2 69 6).toInt.toNat = p2 by omega, show (ez_I h2 50 1).toInt.toNat = m2 by omega] at hsp
          rw [(show ez_I h2 3 = ez_I h 3 from zW_fn F 3 x58_70 x58_71), show (ez_I h2 69 6).toInt.toNat = p2 by omega] at k71
          have hbo : p2 < q63 ∧ q63 ≤ 8 * (ez_I h 2 1).toInt.toNat := blU_ok hsp
          have hb2 := bitT_2 (tI (ez_I h 3)) p2
          have FX2 := zW_tr FX F62
          have S72 := zW_sh F62 S2
          have F73 := zW_tr F (zW_mono F62 (x58_88) (x58_89) (x58_6))
          have r74 := z_rng (ez_I h61 69 2)
          have r75 := z_rng (ez_I h61 69 3)
          have r76 := z_rng (ez_I h61 69 6)
          have r77 := z_rng (ez_I h61 29 4)
          have r78 := z_rng (ez_I h61 36 4)
          have r79 := z_rng (ez_I h61 43 4)
          have r80 := z_rng (ez_I h61 50 1)
          have r81 := z_rng (ez_I h61 69 1)
          have f82 : ez_I h61 4 1 = (ez_I h2 4 1) := (zW_f F62 (by decide) (by decide)).trans (rfl)
          refine z_inc rfl (by rw [show (1 : Int32).toInt = 1 from rfl]; omega) (fun x83 ex83 => ?_)
          rw [show (1 : Int32).toInt = 1 from rfl] at ex83
          show ez_gw _ _ _ _ _ _ _ _ [some (.ref 1), some (.int x83)] _ _ _
          refine z_go ?_
          have t84 := congrArg Int32.toInt (f82)
          exact ih h61 x83 q63 o64 m65 (bitT (tI (ez_I h 3)) p2) F73 (by omega) (FX2) (⟨fun q => (A_sp.1 (by omega)).trans (unL_y hsp (by omega)), fun q => (A_sp.1 (by omega)).trans (unL_z hsp (by omega))⟩) (k70) (by omega)
theorem x58_90 : ∀ q k : Nat, (q = 50 ∧ k = 1 ∨ q = 69 ∧ k = 1 ∨ q = 69 ∧ k = 2 ∨ q = 69 ∧ k = 3 ∨ q = 69 ∧ k = 6) → (q = 69 ∧ k = 2 ∨ q = 69 ∧ k = 3 ∨ q = 69 ∧ k = 6 ∨ q = 29 ∧ k = 4 ∨ q = 36 ∧ k = 4 ∨ q = 43 ∧ k = 4 ∨ q = 50 ∧ k = 1 ∨ q = 69 ∧ k = 1 ∨ q = 4 ∧ k = 1) := fun q k hk => hk.elim (fun g => (.inr (.inr (.inr (.inr (.inr (.inr (.inl g)))))))) (fun hk => hk.elim (fun g => (.inr (.inr (.inr (.inr (.inr (.inr (.inr (.inl g))))))))) (fun hk => hk.elim (fun g => (.inl g)) (fun hk => hk.elim (fun g => (.inr (.inl g))) (fun hk => (.inr (.inr (.inl hk)))))))
theorem x58_91 : ∀ q : Nat, (False) → (30 ≤ q ∧ q ≤ 35 ∨ 37 ≤ q ∧ q ≤ 42 ∨ 44 ≤ q ∧ q ≤ 49 ∨ q = 70 ∨ q = 51 ∨ q = 5) := fun q hk => hk.elim
theorem x58_92 : ∀ q k : Nat, (q = 50 ∧ k = 1 ∨ q = 69 ∧ k = 1 ∨ q = 69 ∧ k = 2 ∨ q = 69 ∧ k = 3 ∨ q = 69 ∧ k = 6) → (q = 69 ∧ k = 2 ∨ q = 69 ∧ k = 3 ∨ q = 69 ∧ k = 6 ∨ q = 29 ∧ k = 4 ∨ q = 36 ∧ k = 4 ∨ q = 43 ∧ k = 4 ∨ q = 50 ∧ k = 1 ∨ q = 69 ∧ k = 1) := fun q k hk => hk.elim (fun g => (.inr (.inr (.inr (.inr (.inr (.inr (.inl g)))))))) (fun hk => hk.elim (fun g => (.inr (.inr (.inr (.inr (.inr (.inr (.inr g)))))))) (fun hk => hk.elim (fun g => (.inl g)) (fun hk => hk.elim (fun g => (.inr (.inl g))) (fun hk => (.inr (.inr (.inl hk)))))))
set_option maxRecDepth 4000 in
set_option maxHeartbeats 2000000 in
theorem x_unpackF {E : Nat → Nat × (Nat → Int32)} {d : Nat} {Q : ez_Q} {h : ez_H}  (S : zSh h) (hE : zE E) (hM : zMem h) (hz : 0 ≤ (ez_I h 2 1).toInt ∧ (ez_I h 2 1).toInt ≤ 6000) (hb : aR (ez_I h 3) (ez_I h 2 1).toInt.toNat 0 255) (hL15 : aR (ez_I h 16) 288 0 15) (hct15 : ctC (ez_I h 18) (nL (ez_I h 16)) 288) (hcd15 : (ez_I h 15 4).toInt = (plN (nL (ez_I h 16)) 288 16 : Nat)) (hit15 : itI (ez_I h 19) (nL (ez_I h 16)) 288 288) (hL22 : aR (ez_I h 23) 288 0 15) (hct22 : ctC (ez_I h 25) (nL (ez_I h 23)) 288) (hcd22 : (ez_I h 22 4).toInt = (plN (nL (ez_I h 23)) 288 16 : Nat)) (hit22 : itI (ez_I h 26) (nL (ez_I h 23)) 288 288) (hF1 : ∀ k, k < 288 → nL (ez_I h 16) k = fxL k) (hF2 : ∀ k, k < 288 → nL (ez_I h 23) k = fxD k) (Ke : unL (tI (ez_I h 3)) (ez_I h 2 1).toInt.toNat (8 * (ez_I h 2 1).toInt.toNat) 0 (fun _ => 0) 0 = none → ∀ h2, zW (fun q k => q = 69 ∧ k = 2 ∨ q = 69 ∧ k = 3 ∨ q = 69 ∧ k = 6 ∨ q = 29 ∧ k = 4 ∨ q = 36 ∧ k = 4 ∨ q = 43 ∧ k = 4 ∨ q = 50 ∧ k = 1 ∨ q = 69 ∧ k = 1) (fun q => 30 ≤ q ∧ q ≤ 35 ∨ 37 ≤ q ∧ q ≤ 42 ∨ 44 ≤ q ∧ q ≤ 49 ∨ q = 70 ∨ q = 51) (fun _ => False) h h2 → Q (.inr 2) (ez_bump h2)) (K : ∀ h2 (x : Int32), zW (fun q k => q = 69 ∧ k = 2 ∨ q = 69 ∧ k = 3 ∨ q = 69 ∧ k = 6 ∨ q = 29 ∧ k = 4 ∨ q = 36 ∧ k = 4 ∨ q = 43 ∧ k = 4 ∨ q = 50 ∧ k = 1 ∨ q = 69 ∧ k = 1 ∨ q = 4 ∧ k = 1) (fun q => 30 ≤ q ∧ q ≤ 35 ∨ 37 ≤ q ∧ q ≤ 42 ∨ 44 ≤ q ∧ q ≤ 49 ∨ q = 70 ∨ q = 51 ∨ q = 5) (fun _ => False) h h2 → ∀ (o2 : Nat → Int) (m2 : Nat), unL (tI (ez_I h 3)) (ez_I h 2 1).toInt.toNat (8 * (ez_I h 2 1).toInt.toNat) 0 (fun _ => 0) 0 = some (o2, m2) → x.toInt = m2 → (ez_I h2 4 1).toInt = m2 → m2 ≤ 6000 → oR (ez_I h2 5) o2 m2 → Q (.inl (some (.int x))) h2) : pw E (d + 6) 13 0 [some (.ref 1), none] [] h Q := by
  have F := zW_refl (fun q k => q = 69 ∧ k = 2 ∨ q = 69 ∧ k = 3 ∨ q = 69 ∧ k = 6 ∨ q = 29 ∧ k = 4 ∨ q = 36 ∧ k = 4 ∨ q = 43 ∧ k = 4 ∨ q = 50 ∧ k = 1 ∨ q = 69 ∧ k = 1 ∨ q = 4 ∧ k = 1) (fun q => 30 ≤ q ∧ q ≤ 35 ∨ 37 ≤ q ∧ q ≤ 42 ∨ 44 ≤ q ∧ q ≤ 49 ∨ q = 70 ∨ q = 51 ∨ q = 5) (fun _ => False) h
  apply ez_Wp_in
  show ez_gw _ _ _ _ _ _ (cz_13) _ _ _ _ _
  refine gw_skip _ ?_
  have r1 := z_rng (ez_I h 69 2)
  have r2 := z_rng (ez_I h 69 3)
  have r3 := z_rng (ez_I h 69 6)
  have r4 := z_rng (ez_I h 29 4)
  have r5 := z_rng (ez_I h 36 4)
  have r6 := z_rng (ez_I h 43 4)
  have r7 := z_rng (ez_I h 50 1)
  have r8 := z_rng (ez_I h 69 1)
  have r9 := z_rng (ez_I h 4 1)
  refine gw_ld rfl rfl ?_
  refine z_gR (q := 69) (zT S (by decide) rfl) (zRf S (by decide) (by decide) rfl) (by decide) ?_
  refine z_cl rfl rfl rfl rfl rfl rfl rfl rfl rfl rfl rfl (zT S (by decide) rfl) ?_
  refine c_ubegin S (fun h10 F11 k12 k13 k14 k15 => ?_)
  have S16 := zW_sh F11 S
  have F17 := zW_tr F (zW_mono F11 (x58_90) (x58_91) (x58_6))
  have r18 := z_rng (ez_I h10 69 2)
  have r19 := z_rng (ez_I h10 69 3)
  have r20 := z_rng (ez_I h10 69 6)
  have f21 : ez_I h10 29 4 = (ez_I h 29 4) := (zW_f F11 (fun c => c) (by decide)).trans (rfl)
  have f22 : ez_I h10 36 4 = (ez_I h 36 4) := (zW_f F11 (fun c => c) (by decide)).trans (rfl)
  have f23 : ez_I h10 43 4 = (ez_I h 43 4) := (zW_f F11 (fun c => c) (by decide)).trans (rfl)
  have r24 := z_rng (ez_I h10 50 1)
  have r25 := z_rng (ez_I h10 69 1)
  have f26 : ez_I h10 4 1 = (ez_I h 4 1) := (zW_f F11 (fun c => c) (by decide)).trans (rfl)
  have FX0 : zW (fun q k => q = 69 ∧ k = 2 ∨ q = 69 ∧ k = 3 ∨ q = 69 ∧ k = 6 ∨ q = 29 ∧ k = 4 ∨ q = 36 ∧ k = 4 ∨ q = 43 ∧ k = 4 ∨ q = 50 ∧ k = 1 ∨ q = 69 ∧ k = 1) (fun q => 30 ≤ q ∧ q ≤ 35 ∨ 37 ≤ q ∧ q ≤ 42 ∨ 44 ≤ q ∧ q ≤ 49 ∨ q = 70 ∨ q = 51) (fun _ => False) h h10 := zW_mono F11 x58_92 x58_42 (fun q hk => hk)
  refine z_C (m := 0) rfl rfl (fun x27 ex27 => ?_)
  refine gw_st rfl rfl rfl ?_
  show ez_gw _ _ _ _ _ _ _ _ [some (.ref 1), some (.int x27)] _ _ _
  have t28 := congrArg Int32.toInt (f21)
  have t29 := congrArg Int32.toInt (f22)
  have t30 := congrArg Int32.toInt (f23)
  have t31 := congrArg Int32.toInt (f26)
  exact ez_Wp_at ((x_unpackF_L0  S hE hM hz hb hL15 hct15 hcd15 hit15 hL22 hct22 hcd22 hit22 hF1 hF2 Ke K (((100000 - x27.toInt)).toNat + 1)) h10 x27 0 (fun _ => 0) 0 0 F17 (by omega) (FX0) (⟨fun _ => rfl, fun q => by exfalso; omega⟩) ((fun k hk => by omega)) (by omega)) rfl
end
