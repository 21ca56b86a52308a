/-! the head's rows taken -/
theorem pl_eq {L L' : Nat → Nat} {n : Nat} (h : ∀ k, k < n → L k = L' k) : ∀ l, plN L n l = plN L' n l := by
  intro l
  induction l with
  | zero => rfl
  | succ l ih =>
    by_cases e : l = 0
    · subst e; rfl
    · rw [plN_s (by omega), plN_s (by omega), ih, ctN_congr n h]
theorem tk_aR {g w : Nat → Int32} {r : Nat → Nat} {f n z : Nat} (A : tkI g w f n) (B : rwJ w r z) (h : f + n ≤ z) : aR g 288 0 15 := fun k hk => by
  by_cases c : k < n
  · have h1 := A.1 k c
    have h2 := B (f + k) (by omega)
    rw [h1]
    omega
  · have h1 := A.2 k (by omega) hk
    omega
theorem tk_dis {g w : Nat → Int32} {r : Nat → Nat} {f n z : Nat} (A : tkI g w f n) (B : rwJ w r z) (h : f + n ≤ z) : ∀ k, k < 288 → nL g k = disF f n r k := fun k hk => by
  show (g k).toInt.toNat = if k < n then r (f + k) else 0
  by_cases c : k < n
  · have h1 := A.1 k c
    have h2 := B (f + k) (by omega)
    rw [if_pos c, h1]
    omega
  · have h1 := A.2 k (by omega) hk
    rw [if_neg c]
    omega
theorem tk_lit {g w : Nat → Int32} {r : Nat → Nat} {f n z : Nat} (A : tkI g w f n) (B : rwJ w r z) (h : f + n ≤ z) (h0 : f = 0) : ∀ k, k < 288 → nL g k = litF n r k := fun k hk => by
  subst h0
  rw [tk_dis A B h k hk]
  show (if k < n then r (0 + k) else 0) = if k < n then r k else 0
  rw [Nat.zero_add]
theorem unL_y {T : Nat → Int} {n p : Nat} {o : Nat → Int} {m : Nat} {r : Nat × (Nat → Int) × Nat} (h : blU T n p o m = some r) (hb : bitT T p ≠ 1) : unL T n (8 * n) p o m = unL T n (8 * n) r.1 r.2.1 r.2.2 := by
  have h1 := blU_ok h
  rw [unL_g (F := 8 * n) (G := 8 * n - 1) (by omega) h hb]
  exact unL_f _ _ _ _ _ (by omega) (by omega)
theorem unL_z {T : Nat → Int} {n p : Nat} {o : Nat → Int} {m : Nat} {r : Nat × (Nat → Int) × Nat} (h : blU T n p o m = some r) (hb : bitT T p = 1) : unL T n (8 * n) p o m = some r.2 := by
  have h1 := blU_ok h
  exact unL_l (by omega) h hb
/-! PRINTED by wip/pack: the class reads: the head, a block, all -/
theorem x58_0 : ¬ (30 ≤ 2 ∧ 2 ≤ 35 ∨ 37 ≤ 2 ∧ 2 ≤ 42 ∨ 44 ≤ 2 ∧ 2 ≤ 49 ∨ 2 = 70) := by omega
theorem x58_1 : ¬ (2 = 69 ∧ 1 = 2 ∨ 2 = 69 ∧ 1 = 3 ∨ 2 = 69 ∧ 1 = 6 ∨ 2 = 29 ∧ 1 = 4 ∨ 2 = 36 ∧ 1 = 4 ∨ 2 = 43 ∧ 1 = 4) := by omega
theorem x58_2 : ¬ (30 ≤ 3 ∧ 3 ≤ 35 ∨ 37 ≤ 3 ∧ 3 ≤ 42 ∨ 44 ≤ 3 ∧ 3 ≤ 49 ∨ 3 = 70) := by omega
theorem x58_3 : ∀ k : Nat, ¬ (3 = 69 ∧ k = 2 ∨ 3 = 69 ∧ k = 3 ∨ 3 = 69 ∧ k = 6 ∨ 3 = 29 ∧ k = 4 ∨ 3 = 36 ∧ k = 4 ∨ 3 = 43 ∧ k = 4) := fun k c => by omega
theorem x58_4 : ∀ q k : Nat, (q = 69 ∧ k = 2 ∨ q = 69 ∧ k = 3 ∨ q = 69 ∧ k = 6) → (q = 69 ∧ k = 2 ∨ q = 69 ∧ k = 3 ∨ q = 69 ∧ k = 6 ∨ q = 29 ∧ k = 4 ∨ q = 36 ∧ k = 4 ∨ q = 43 ∧ k = 4) := fun q k hk => hk.elim (fun g => (.inl g)) (fun hk => hk.elim (fun g => (.inr (.inl g))) (fun hk => (.inr (.inr (.inl hk)))))
theorem x58_5 : ∀ q : Nat, (False) → (30 ≤ q ∧ q ≤ 35 ∨ 37 ≤ q ∧ q ≤ 42 ∨ 44 ≤ q ∧ q ≤ 49 ∨ q = 70) := fun q hk => hk.elim
theorem x58_6 : ∀ q : Nat, (False) → (False) := fun q hk => hk.elim
theorem x58_7 : ∀ q k : Nat, (q = 69 ∧ k = 2 ∨ q = 69 ∧ k = 3 ∨ q = 69 ∧ k = 6 ∨ q = 43 ∧ k = 4) → (q = 69 ∧ k = 2 ∨ q = 69 ∧ k = 3 ∨ q = 69 ∧ k = 6 ∨ q = 29 ∧ k = 4 ∨ q = 36 ∧ k = 4 ∨ q = 43 ∧ k = 4) := fun q k hk => hk.elim (fun g => (.inl g)) (fun hk => hk.elim (fun g => (.inr (.inl g))) (fun hk => hk.elim (fun g => (.inr (.inr (.inl g)))) (fun hk => (.inr (.inr (.inr (.inr (.inr hk))))))))
theorem x58_8 : ∀ q : Nat, (q = 44 ∨ q = 45 ∨ q = 46 ∨ q = 47 ∨ q = 48 ∨ q = 49) → (30 ≤ q ∧ q ≤ 35 ∨ 37 ≤ q ∧ q ≤ 42 ∨ 44 ≤ q ∧ q ≤ 49 ∨ q = 70) := fun q hk => hk.elim (fun g => (.inr (.inr (.inl (show 44 ≤ q ∧ q ≤ 49 by omega))))) (fun hk => hk.elim (fun g => (.inr (.inr (.inl (show 44 ≤ q ∧ q ≤ 49 by omega))))) (fun hk => hk.elim (fun g => (.inr (.inr (.inl (show 44 ≤ q ∧ q ≤ 49 by omega))))) (fun hk => hk.elim (fun g => (.inr (.inr (.inl (show 44 ≤ q ∧ q ≤ 49 by omega))))) (fun hk => hk.elim (fun g => (.inr (.inr (.inl (show 44 ≤ q ∧ q ≤ 49 by omega))))) (fun hk => (.inr (.inr (.inl (show 44 ≤ q ∧ q ≤ 49 by omega)))))))))
theorem x58_9 : ∀ q : Nat, (q = 70) → (30 ≤ q ∧ q ≤ 35 ∨ 37 ≤ q ∧ q ≤ 42 ∨ 44 ≤ q ∧ q ≤ 49 ∨ q = 70) := fun q hk => (.inr (.inr (.inr hk)))
theorem x58_10 : ∀ k : Nat, ¬ (44 = 69 ∧ k = 2 ∨ 44 = 69 ∧ k = 3 ∨ 44 = 69 ∧ k = 6) := fun k c => by omega
theorem x58_11 : ∀ k : Nat, ¬ (46 = 69 ∧ k = 2 ∨ 46 = 69 ∧ k = 3 ∨ 46 = 69 ∧ k = 6) := fun k c => by omega
theorem x58_12 : ∀ k : Nat, ¬ (43 = 69 ∧ k = 2 ∨ 43 = 69 ∧ k = 3 ∨ 43 = 69 ∧ k = 6) := fun k c => by omega
theorem x58_13 : ∀ k : Nat, ¬ (47 = 69 ∧ k = 2 ∨ 47 = 69 ∧ k = 3 ∨ 47 = 69 ∧ k = 6) := fun k c => by omega
theorem x58_14 : ∀ q k : Nat, (False) → (q = 69 ∧ k = 2 ∨ q = 69 ∧ k = 3 ∨ q = 69 ∧ k = 6 ∨ q = 29 ∧ k = 4 ∨ q = 36 ∧ k = 4 ∨ q = 43 ∧ k = 4) := fun q k hk => hk.elim
theorem x58_15 : ∀ q : Nat, (q = 30) → (30 ≤ q ∧ q ≤ 35 ∨ 37 ≤ q ∧ q ≤ 42 ∨ 44 ≤ q ∧ q ≤ 49 ∨ q = 70) := fun q hk => (.inl (show 30 ≤ q ∧ q ≤ 35 by omega))
theorem x58_16 : ∀ q k : Nat, (q = 29 ∧ k = 4) → (q = 69 ∧ k = 2 ∨ q = 69 ∧ k = 3 ∨ q = 69 ∧ k = 6 ∨ q = 29 ∧ k = 4 ∨ q = 36 ∧ k = 4 ∨ q = 43 ∧ k = 4) := fun q k hk => (.inr (.inr (.inr (.inl hk))))
theorem x58_17 : ∀ q : Nat, (q = 31 ∨ q = 32 ∨ q = 33 ∨ q = 34 ∨ q = 35) → (30 ≤ q ∧ q ≤ 35 ∨ 37 ≤ q ∧ q ≤ 42 ∨ 44 ≤ q ∧ q ≤ 49 ∨ q = 70) := fun q hk => hk.elim (fun g => (.inl (show 30 ≤ q ∧ q ≤ 35 by omega))) (fun hk => hk.elim (fun g => (.inl (show 30 ≤ q ∧ q ≤ 35 by omega))) (fun hk => hk.elim (fun g => (.inl (show 30 ≤ q ∧ q ≤ 35 by omega))) (fun hk => hk.elim (fun g => (.inl (show 30 ≤ q ∧ q ≤ 35 by omega))) (fun hk => (.inl (show 30 ≤ q ∧ q ≤ 35 by omega))))))
theorem x58_18 : ∀ k : Nat, ¬ (44 = 29 ∧ k = 4) := fun k c => by omega
theorem x58_19 : ∀ k : Nat, ¬ (46 = 29 ∧ k = 4) := fun k c => by omega
theorem x58_20 : ∀ k : Nat, ¬ (43 = 29 ∧ k = 4) := fun k c => by omega
theorem x58_21 : ∀ k : Nat, ¬ (47 = 29 ∧ k = 4) := fun k c => by omega
theorem x58_22 : ∀ k : Nat, ¬ (70 = 29 ∧ k = 4) := fun k c => by omega
theorem x58_23 : ∀ k : Nat, ¬ (30 = 29 ∧ k = 4) := fun k c => by omega
theorem x58_24 : ∀ q : Nat, (q = 37) → (30 ≤ q ∧ q ≤ 35 ∨ 37 ≤ q ∧ q ≤ 42 ∨ 44 ≤ q ∧ q ≤ 49 ∨ q = 70) := fun q hk => (.inr (.inl (show 37 ≤ q ∧ q ≤ 42 by omega)))
theorem x58_25 : ∀ q k : Nat, (q = 36 ∧ k = 4) → (q = 69 ∧ k = 2 ∨ q = 69 ∧ k = 3 ∨ q = 69 ∧ k = 6 ∨ q = 29 ∧ k = 4 ∨ q = 36 ∧ k = 4 ∨ q = 43 ∧ k = 4) := fun q k hk => (.inr (.inr (.inr (.inr (.inl hk)))))
theorem x58_26 : ∀ q : Nat, (q = 38 ∨ q = 39 ∨ q = 40 ∨ q = 41 ∨ q = 42) → (30 ≤ q ∧ q ≤ 35 ∨ 37 ≤ q ∧ q ≤ 42 ∨ 44 ≤ q ∧ q ≤ 49 ∨ q = 70) := fun q hk => hk.elim (fun g => (.inr (.inl (show 37 ≤ q ∧ q ≤ 42 by omega)))) (fun hk => hk.elim (fun g => (.inr (.inl (show 37 ≤ q ∧ q ≤ 42 by omega)))) (fun hk => hk.elim (fun g => (.inr (.inl (show 37 ≤ q ∧ q ≤ 42 by omega)))) (fun hk => hk.elim (fun g => (.inr (.inl (show 37 ≤ q ∧ q ≤ 42 by omega)))) (fun hk => (.inr (.inl (show 37 ≤ q ∧ q ≤ 42 by omega)))))))
theorem x58_27 : ∀ k : Nat, ¬ (44 = 36 ∧ k = 4) := fun k c => by omega
theorem x58_28 : ∀ k : Nat, ¬ (46 = 36 ∧ k = 4) := fun k c => by omega
theorem x58_29 : ∀ k : Nat, ¬ (43 = 36 ∧ k = 4) := fun k c => by omega
theorem x58_30 : ∀ k : Nat, ¬ (47 = 36 ∧ k = 4) := fun k c => by omega
theorem x58_31 : ∀ k : Nat, ¬ (70 = 36 ∧ k = 4) := fun k c => by omega
theorem x58_32 : ∀ k : Nat, ¬ (30 = 36 ∧ k = 4) := fun k c => by omega
theorem x58_33 : ∀ k : Nat, ¬ (32 = 36 ∧ k = 4) := fun k c => by omega
theorem x58_34 : ∀ k : Nat, ¬ (29 = 36 ∧ k = 4) := fun k c => by omega
theorem x58_35 : ∀ k : Nat, ¬ (33 = 36 ∧ k = 4) := fun k c => by omega
theorem x58_36 : ∀ k : Nat, ¬ (37 = 36 ∧ k = 4) := fun k c => by omega
set_option maxRecDepth 4000 in
set_option maxHeartbeats 2000000 in
theorem c_rHead {E : Nat → Nat × (Nat → Int32)} {d : Nat} {Q : ez_Q} {h : ez_H}  (S : zSh h) (hE : zE E) (hM : zMem h) (hz : 0 ≤ (ez_I h 2 1).toInt ∧ (ez_I h 2 1).toInt ≤ 6000) (hb : aR (ez_I h 3) (ez_I h 2 1).toInt.toNat 0 255) (hp : 0 ≤ (ez_I h 69 6).toInt ∧ (ez_I h 69 6).toInt ≤ 8 * (ez_I h 2 1).toInt) (Ke : hdU (tI (ez_I h 3)) (ez_I h 2 1).toInt.toNat (ez_I h 69 6).toInt.toNat = none → ∀ h2, zW (fun q k => q = 69 ∧ k = 2 ∨ q = 69 ∧ k = 3 ∨ q = 69 ∧ k = 6 ∨ q = 29 ∧ k = 4 ∨ q = 36 ∧ k = 4 ∨ q = 43 ∧ k = 4) (fun q => 30 ≤ q ∧ q ≤ 35 ∨ 37 ≤ q ∧ q ≤ 42 ∨ 44 ≤ q ∧ q ≤ 49 ∨ q = 70) (fun _ => False) h h2 → Q (.inr 2) (ez_bump h2)) (K : ∀ h2, zW (fun q k => q = 69 ∧ k = 2 ∨ q = 69 ∧ k = 3 ∨ q = 69 ∧ k = 6 ∨ q = 29 ∧ k = 4 ∨ q = 36 ∧ k = 4 ∨ q = 43 ∧ k = 4) (fun q => 30 ≤ q ∧ q ≤ 35 ∨ 37 ≤ q ∧ q ≤ 42 ∨ 44 ≤ q ∧ q ≤ 49 ∨ q = 70) (fun _ => False) h h2 → ∀ (q : Nat) (L1 L2 : Nat → Nat), hdU (tI (ez_I h 3)) (ez_I h 2 1).toInt.toNat (ez_I h 69 6).toInt.toNat = some (q, L1, L2) → (ez_I h2 69 6).toInt = q → aR (ez_I h2 30) 288 0 15 → ctC (ez_I h2 32) (nL (ez_I h2 30)) 288 → (ez_I h2 29 4).toInt = (plN (nL (ez_I h2 30)) 288 16 : Nat) → itI (ez_I h2 33) (nL (ez_I h2 30)) 288 288 → (∀ k, k < 288 → nL (ez_I h2 30) k = L1 k) → aR (ez_I h2 37) 288 0 15 → ctC (ez_I h2 39) (nL (ez_I h2 37)) 288 → (ez_I h2 36 4).toInt = (plN (nL (ez_I h2 37)) 288 16 : Nat) → itI (ez_I h2 40) (nL (ez_I h2 37)) 288 288 → (∀ k, k < 288 → nL (ez_I h2 37) k = L2 k) → Q (.inl none) h2) : pw E (d + 4) 135 0 [some (.ref 69), some (.ref 2), none, none, none] [] h Q := by
  have F := zW_refl (fun q k => q = 69 ∧ k = 2 ∨ q = 69 ∧ k = 3 ∨ q = 69 ∧ k = 6 ∨ q = 29 ∧ k = 4 ∨ q = 36 ∧ k = 4 ∨ q = 43 ∧ k = 4) (fun q => 30 ≤ q ∧ q ≤ 35 ∨ 37 ≤ q ∧ q ≤ 42 ∨ 44 ≤ q ∧ q ≤ 49 ∨ q = 70) (fun _ => False) h
  apply ez_Wp_in
  show ez_gw _ _ _ _ _ _ (cz_135) _ _ _ _ _
  refine gw_skip _ ?_
  have r1 := z_rng (ez_I h 69 2)
  have r2 := z_rng (ez_I h 69 3)
  have r3 := z_rng (ez_I h 69 6)
  have r4 := z_rng (ez_I h 29 4)
  have r5 := z_rng (ez_I h 36 4)
  have r6 := z_rng (ez_I h 43 4)
  refine z_C (m := 257) rfl rfl (fun x7 ex7 => ?_)
  refine gw_ld rfl rfl ?_
  refine gw_ld rfl rfl ?_
  refine z_C (m := 5) rfl rfl (fun x8 ex8 => ?_)
  refine z_cl rfl rfl rfl rfl rfl rfl rfl rfl rfl rfl rfl (zT S (by decide) rfl) ?_
  refine c_tb (n := x8) S (zMw F hM) (by rw [(show ez_I h 2 1 = ez_I h 2 1 from zW_f F x58_0 x58_1)]; exact hz) (by rw [(show ez_I h 2 1 = ez_I h 2 1 from zW_f F x58_0 x58_1), (show ez_I h 3 = ez_I h 3 from zW_fn F 3 x58_2 x58_3)]; exact hb) (by rw [(show ez_I h 2 1 = ez_I h 2 1 from zW_f F x58_0 x58_1)]; omega) (by omega) (by rw [(show ez_I h 2 1 = ez_I h 2 1 from zW_f F x58_0 x58_1)]; exact fun q hh FF => Ke (hdU_o (.inl (by omega))) hh (zW_tr F (zW_mono FF x58_4 x58_5 x58_6))) (fun h9 x11 F10 k12 k13 k14 => ?_)
  rw [(show ez_I h 3 = ez_I h 3 from zW_fn F 3 x58_2 x58_3), show x8.toInt.toNat = 5 by omega, show (ez_I h 69 6).toInt.toNat = (ez_I h 69 6).toInt.toNat by omega] at k13
  rw [(show ez_I h 2 1 = ez_I h 2 1 from zW_f F x58_0 x58_1)] at k12
  have rx11 := z_rng x11
  have vlx11 := vB_lt (tI (ez_I h 3)) ((ez_I h 69 6).toInt.toNat) (5)
  have vpx11 := Nat.pow_le_pow_right (n := 2) (by decide) (show 5 ≤ 16 by omega)
  have S15 := zW_sh F10 S
  have F16 := zW_tr F (zW_mono F10 (x58_4) (x58_5) (x58_6))
  have r17 := z_rng (ez_I h9 69 2)
  have r18 := z_rng (ez_I h9 69 3)
  have r19 := z_rng (ez_I h9 69 6)
  have f20 : ez_I h9 29 4 = (ez_I h 29 4) := (zW_f F10 (fun c => c) (by decide)).trans (rfl)
  have f21 : ez_I h9 36 4 = (ez_I h 36 4) := (zW_f F10 (fun c => c) (by decide)).trans (rfl)
  have f22 : ez_I h9 43 4 = (ez_I h 43 4) := (zW_f F10 (fun c => c) (by decide)).trans (rfl)
  refine z_add (by omega) (fun x23 ex23 => ?_)
  refine gw_st rfl rfl rfl ?_
  show ez_gw _ _ _ _ _ _ _ _ [some (.ref 69), some (.ref 2), some (.int x23), none, none] _ _ _
  refine z_C (m := 1) rfl rfl (fun x24 ex24 => ?_)
  refine gw_ld rfl rfl ?_
  refine gw_ld rfl rfl ?_
  refine z_C (m := 5) rfl rfl (fun x25 ex25 => ?_)
  have t26 := congrArg Int32.toInt (f20)
  have t27 := congrArg Int32.toInt (f21)
  have t28 := congrArg Int32.toInt (f22)
  refine z_cl rfl rfl rfl rfl rfl rfl rfl rfl rfl rfl rfl (zT S15 (by decide) rfl) ?_
  refine c_tb (n := x25) S15 (zMw F16 hM) (by rw [(show ez_I h9 2 1 = ez_I h 2 1 from zW_f F16 x58_0 x58_1)]; exact hz) (by rw [(show ez_I h9 2 1 = ez_I h 2 1 from zW_f F16 x58_0 x58_1), (show ez_I h9 3 = ez_I h 3 from zW_fn F16 3 x58_2 x58_3)]; exact hb) (by rw [(show ez_I h9 2 1 = ez_I h 2 1 from zW_f F16 x58_0 x58_1)]; omega) (by omega) (by rw [(show ez_I h9 2 1 = ez_I h 2 1 from zW_f F16 x58_0 x58_1)]; exact fun q hh FF => Ke (hdU_o (.inl (by omega))) hh (zW_tr F16 (zW_mono FF x58_4 x58_5 x58_6))) (fun h29 x31 F30 k32 k33 k34 => ?_)
  rw [(show ez_I h9 3 = ez_I h 3 from zW_fn F16 3 x58_2 x58_3), show x25.toInt.toNat = 5 by omega, show (ez_I h9 69 6).toInt.toNat = (ez_I h 69 6).toInt.toNat + 5 by omega] at k33
  rw [(show ez_I h9 2 1 = ez_I h 2 1 from zW_f F16 x58_0 x58_1)] at k32
  have rx31 := z_rng x31
  have vlx31 := vB_lt (tI (ez_I h 3)) ((ez_I h 69 6).toInt.toNat + 5) (5)
  have vpx31 := Nat.pow_le_pow_right (n := 2) (by decide) (show 5 ≤ 16 by omega)
  have S35 := zW_sh F30 S15
  have F36 := zW_tr F16 (zW_mono F30 (x58_4) (x58_5) (x58_6))
  have r37 := z_rng (ez_I h29 69 2)
  have r38 := z_rng (ez_I h29 69 3)
  have r39 := z_rng (ez_I h29 69 6)
  have f40 : ez_I h29 29 4 = (ez_I h 29 4) := (zW_f F30 (fun c => c) (by decide)).trans (f20)
  have f41 : ez_I h29 36 4 = (ez_I h 36 4) := (zW_f F30 (fun c => c) (by decide)).trans (f21)
  have f42 : ez_I h29 43 4 = (ez_I h 43 4) := (zW_f F30 (fun c => c) (by decide)).trans (f22)
  refine z_add (by omega) (fun x43 ex43 => ?_)
  refine gw_st rfl rfl rfl ?_
  show ez_gw _ _ _ _ _ _ _ _ [some (.ref 69), some (.ref 2), some (.int x23), some (.int x43), none] _ _ _
  refine z_C (m := 4) rfl rfl (fun x44 ex44 => ?_)
  refine gw_ld rfl rfl ?_
  refine gw_ld rfl rfl ?_
  refine z_C (m := 4) rfl rfl (fun x45 ex45 => ?_)
  have t46 := congrArg Int32.toInt (f40)
  have t47 := congrArg Int32.toInt (f41)
  have t48 := congrArg Int32.toInt (f42)
  refine z_cl rfl rfl rfl rfl rfl rfl rfl rfl rfl rfl rfl (zT S35 (by decide) rfl) ?_
  refine c_tb (n := x45) S35 (zMw F36 hM) (by rw [(show ez_I h29 2 1 = ez_I h 2 1 from zW_f F36 x58_0 x58_1)]; exact hz) (by rw [(show ez_I h29 2 1 = ez_I h 2 1 from zW_f F36 x58_0 x58_1), (show ez_I h29 3 = ez_I h 3 from zW_fn F36 3 x58_2 x58_3)]; exact hb) (by rw [(show ez_I h29 2 1 = ez_I h 2 1 from zW_f F36 x58_0 x58_1)]; omega) (by omega) (by rw [(show ez_I h29 2 1 = ez_I h 2 1 from zW_f F36 x58_0 x58_1)]; exact fun q hh FF => Ke (hdU_o (.inl (by omega))) hh (zW_tr F36 (zW_mono FF x58_4 x58_5 x58_6))) (fun h49 x51 F50 k52 k53 k54 => ?_)
  rw [(show ez_I h29 3 = ez_I h 3 from zW_fn F36 3 x58_2 x58_3), show x45.toInt.toNat = 4 by omega, show (ez_I h29 69 6).toInt.toNat = (ez_I h 69 6).toInt.toNat + 10 by omega] at k53
  rw [(show ez_I h29 2 1 = ez_I h 2 1 from zW_f F36 x58_0 x58_1)] at k52
  have rx51 := z_rng x51
  have vlx51 := vB_lt (tI (ez_I h 3)) ((ez_I h 69 6).toInt.toNat + 10) (4)
  have vpx51 := Nat.pow_le_pow_right (n := 2) (by decide) (show 4 ≤ 16 by omega)
  have S55 := zW_sh F50 S35
  have F56 := zW_tr F36 (zW_mono F50 (x58_4) (x58_5) (x58_6))
  have r57 := z_rng (ez_I h49 69 2)
  have r58 := z_rng (ez_I h49 69 3)
  have r59 := z_rng (ez_I h49 69 6)
  have f60 : ez_I h49 29 4 = (ez_I h 29 4) := (zW_f F50 (fun c => c) (by decide)).trans (f40)
  have f61 : ez_I h49 36 4 = (ez_I h 36 4) := (zW_f F50 (fun c => c) (by decide)).trans (f41)
  have f62 : ez_I h49 43 4 = (ez_I h 43 4) := (zW_f F50 (fun c => c) (by decide)).trans (f42)
  refine z_add (by omega) (fun x63 ex63 => ?_)
  refine gw_st rfl rfl rfl ?_
  show ez_gw _ _ _ _ _ _ _ _ [some (.ref 69), some (.ref 2), some (.int x23), some (.int x43), some (.int x63)] _ _ _
  refine gw_ld rfl rfl ?_
  refine z_C (m := 286) rfl rfl (fun x64 ex64 => ?_)
  refine z_b2 (fun c65 => ?_) (fun c65 => ?_)
  · have c65 : x64.toInt < x23.toInt := c65
    refine gw_skip _ ?_
    refine gw_ld rfl rfl ?_
    refine z_C (m := 4) rfl rfl (fun x66 ex66 => ?_)
    have t67 := congrArg Int32.toInt (f60)
    have t68 := congrArg Int32.toInt (f61)
    have t69 := congrArg Int32.toInt (f62)
    refine z_cl rfl rfl rfl rfl rfl rfl rfl rfl rfl rfl rfl (zT S55 (by decide) rfl) ?_
    exact c_fail (i := x66) S55 (zMw F56 hM) (by omega) (fun hh FF => Ke (hdU_o (.inr (by omega))) hh (zW_tr F56 (zW_mono FF x58_4 x58_5 x58_6))) trivial
  · have c65 : ¬ (x64.toInt < x23.toInt) := c65
    refine gw_ld rfl rfl ?_
    refine z_C (m := 30) rfl rfl (fun x70 ex70 => ?_)
    refine z_b2 (fun c71 => ?_) (fun c71 => ?_)
    · have c71 : x43.toInt ≤ x70.toInt := c71
      refine gw_skip _ ?_
      refine gw_ld rfl rfl ?_
      refine gw_ld rfl rfl ?_
      refine gw_ld rfl rfl ?_
      have t72 := congrArg Int32.toInt (f60)
      have t73 := congrArg Int32.toInt (f61)
      have t74 := congrArg Int32.toInt (f62)
      refine z_cl rfl rfl rfl rfl rfl rfl rfl rfl rfl rfl rfl (zT S55 (by decide) rfl) ?_
      refine c_rAlph (n := x63) S55 hE (zMw F56 hM) (by rw [(show ez_I h49 2 1 = ez_I h 2 1 from zW_f F56 x58_0 x58_1)]; exact hz) (by rw [(show ez_I h49 2 1 = ez_I h 2 1 from zW_f F56 x58_0 x58_1), (show ez_I h49 3 = ez_I h 3 from zW_fn F56 3 x58_2 x58_3)]; exact hb) (by rw [(show ez_I h49 2 1 = ez_I h 2 1 from zW_f F56 x58_0 x58_1)]; omega) (by omega) (by rw [(show ez_I h49 2 1 = ez_I h 2 1 from zW_f F56 x58_0 x58_1), (show ez_I h49 3 = ez_I h 3 from zW_fn F56 3 x58_2 x58_3), show (ez_I h49 69 6).toInt.toNat = ((ez_I h 69 6).toInt.toNat + 14) by omega]; exact fun q hh FF => Ke (hdU_n (p2 := ((ez_I h 69 6).toInt.toNat + 14)) (nl := x23.toInt.toNat) (nd := x43.toInt.toNat) (i := x63.toInt.toNat) (by omega) (by omega) (by omega) rfl (by omega) (by omega) (by omega) (hd2_o (by omega))) hh (zW_tr F56 (zW_mono FF x58_7 x58_8 x58_6))) (fun h75 F76 k77 k78 k79 k80 k81 k82 k83 => ?_)
      rw [(show ez_I h49 2 1 = ez_I h 2 1 from zW_f F56 x58_0 x58_1)] at k77
      rw [(show ez_I h49 3 = ez_I h 3 from zW_fn F56 3 x58_2 x58_3), show (ez_I h49 69 6).toInt.toNat = ((ez_I h 69 6).toInt.toNat + 14) by omega] at k78 k80
      have S84 := zW_sh F76 S55
      have F85 := zW_tr F56 (zW_mono F76 (x58_7) (x58_8) (x58_6))
      have r86 := z_rng (ez_I h75 69 2)
      have r87 := z_rng (ez_I h75 69 3)
      have r88 := z_rng (ez_I h75 69 6)
      have f89 : ez_I h75 29 4 = (ez_I h 29 4) := (zW_f F76 (by decide) (by decide)).trans (f60)
      have f90 : ez_I h75 36 4 = (ez_I h 36 4) := (zW_f F76 (by decide) (by decide)).trans (f61)
      have r91 := z_rng (ez_I h75 43 4)
      refine gw_ld rfl rfl ?_
      refine gw_ld rfl rfl ?_
      refine gw_ld rfl rfl ?_
      refine gw_ld rfl rfl ?_
      refine z_add (by omega) (fun x92 ex92 => ?_)
      have t93 := congrArg Int32.toInt (f89)
      have t94 := congrArg Int32.toInt (f90)
      refine z_cl rfl rfl rfl rfl rfl rfl rfl rfl rfl rfl rfl (zT S84 (by decide) rfl) ?_
      have hi19 : x63.toInt.toNat ≤ 19 := by omega
      have hal0 : ∀ k, 19 ≤ k → k < 288 → nL (ez_I h75 44) k = 0 := fun k a b => (al_nL k80 k b).trans (alF_0 _ hi19 k a)
      have heq : ∀ F p a r, rwL (tI (ez_I h 3)) (ez_I h 2 1).toInt.toNat (nL (ez_I h75 44)) 288 x92.toInt.toNat F p a r = rwL (tI (ez_I h 3)) (ez_I h 2 1).toInt.toNat (alF (tI (ez_I h 3)) ((ez_I h 69 6).toInt.toNat + 14) x63.toInt.toNat) 288 x92.toInt.toNat F p a r := rwL_eq (Nat.le_refl 288) (al_nL k80) (fun k a b => by omega)
      have hh2 : hd2 (tI (ez_I h 3)) (ez_I h 2 1).toInt.toNat ((ez_I h 69 6).toInt.toNat + 14) x23.toInt.toNat x43.toInt.toNat x63.toInt.toNat = rwL (tI (ez_I h 3)) (ez_I h 2 1).toInt.toNat (nL (ez_I h75 44)) 288 x92.toInt.toNat x92.toInt.toNat (((ez_I h 69 6).toInt.toNat + 14) + 3 * x63.toInt.toNat) 0 (fun _ => 0) := (hd2_y (by omega) k78 (by omega) rfl).trans (heq _ _ _ _).symm
      refine c_rRow (z := x92) S84 hE (zMw F85 hM) (by rw [(show ez_I h75 2 1 = ez_I h 2 1 from zW_f F85 x58_0 x58_1)]; exact hz) (by rw [(show ez_I h75 2 1 = ez_I h 2 1 from zW_f F85 x58_0 x58_1), (show ez_I h75 3 = ez_I h 3 from zW_fn F85 3 x58_2 x58_3)]; exact hb) (by rw [(show ez_I h75 2 1 = ez_I h 2 1 from zW_f F85 x58_0 x58_1)]; omega) (by omega) (al_aR k80) hal0 k81 k82 k83 (fun qn hh FF => Ke (by have q2 : rwL (tI (ez_I h75 3)) (ez_I h75 2 1).toInt.toNat (nL (ez_I h75 44)) 288 x92.toInt.toNat x92.toInt.toNat (ez_I h75 69 6).toInt.toNat 0 (fun _ => 0) = none := qn; rw [(show ez_I h75 3 = ez_I h 3 from zW_fn F85 3 x58_2 x58_3), (show ez_I h75 2 1 = ez_I h 2 1 from zW_f F85 x58_0 x58_1), show (ez_I h75 69 6).toInt.toNat = ((ez_I h 69 6).toInt.toNat + 14) + 3 * x63.toInt.toNat by omega, ← hh2] at q2; exact hdU_n (p2 := ((ez_I h 69 6).toInt.toNat + 14)) (nl := x23.toInt.toNat) (nd := x43.toInt.toNat) (i := x63.toInt.toNat) (by omega) (by omega) (by omega) rfl (by omega) (by omega) (by omega) (q2)) hh (zW_tr F85 (zW_mono FF x58_4 x58_9 x58_6))) (fun h95 F96 q97 r98 k99 k100 k101 => ?_)
      have hrw : rwL (tI (ez_I h75 3)) (ez_I h75 2 1).toInt.toNat (nL (ez_I h75 44)) 288 x92.toInt.toNat x92.toInt.toNat (ez_I h75 69 6).toInt.toNat 0 (fun _ => 0) = some (q97, r98) := k99
      rw [(show ez_I h75 3 = ez_I h 3 from zW_fn F85 3 x58_2 x58_3), (show ez_I h75 2 1 = ez_I h 2 1 from zW_f F85 x58_0 x58_1), show (ez_I h75 69 6).toInt.toNat = ((ez_I h 69 6).toInt.toNat + 14) + 3 * x63.toInt.toNat by omega, ← hh2] at hrw
      have hU := hdU_r (T := (tI (ez_I h 3))) (n := (ez_I h 2 1).toInt.toNat) (p := (ez_I h 69 6).toInt.toNat) (p2 := ((ez_I h 69 6).toInt.toNat + 14)) (nl := x23.toInt.toNat) (nd := x43.toInt.toNat) (i := x63.toInt.toNat) (by omega) (by omega) (by omega) rfl (by omega) (by omega) (by omega) hrw
      have hqo := rwL_ok (T := (tI (ez_I h 3))) (n := (ez_I h 2 1).toInt.toNat) hal0 _ _ _ _ _ (hh2.symm.trans hrw) (by omega)
      have hqo2 : q97 ≤ 8 * (ez_I h 2 1).toInt.toNat := hqo.2
      have S102 := zW_sh F96 S84
      have F103 := zW_tr F85 (zW_mono F96 (x58_4) (x58_9) (x58_6))
      have r104 := z_rng (ez_I h95 69 2)
      have r105 := z_rng (ez_I h95 69 3)
      have r106 := z_rng (ez_I h95 69 6)
      have f107 : ez_I h95 29 4 = (ez_I h 29 4) := (zW_f F96 (by decide) (by decide)).trans (f89)
      have f108 : ez_I h95 36 4 = (ez_I h 36 4) := (zW_f F96 (by decide) (by decide)).trans (f90)
      have f109 : ez_I h95 43 4 = (ez_I h75 43 4) := (zW_f F96 (by decide) (by decide)).trans (rfl)
      have A110 : alI (ez_I h95 44) (tI (ez_I h 3)) ((ez_I h 69 6).toInt.toNat + 14) x63.toInt.toNat 288 := by rw [zW_fn F96 44 (by decide) (x58_10)]; exact k80
      have A111 : ctC (ez_I h95 46) (nL (ez_I h95 44)) 288 := by rw [zW_fn F96 46 (by decide) (x58_11), zW_fn F96 44 (by decide) (x58_10)]; exact k81
      have A112 : (ez_I h95 43 4).toInt = (plN (nL (ez_I h95 44)) 288 16 : Nat) := by rw [zW_fn F96 43 (by decide) (x58_12), zW_fn F96 44 (by decide) (x58_10)]; exact k82
      have A113 : itI (ez_I h95 47) (nL (ez_I h95 44)) 288 288 := by rw [zW_fn F96 47 (by decide) (x58_13), zW_fn F96 44 (by decide) (x58_10)]; exact k83
      refine gw_ld rfl rfl ?_
      refine z_gR (q := 14) (zT S102 (by decide) rfl) (zRf S102 (by decide) (by decide) rfl) (by decide) ?_
      refine z_gR (q := 29) (zT S102 (by decide) rfl) (zRf S102 (by decide) (by decide) rfl) (by decide) ?_
      refine gw_ld rfl rfl ?_
      refine z_gR (q := 70) (zT S102 (by decide) rfl) (zRf S102 (by decide) (by decide) rfl) (by decide) ?_
      refine z_C (m := 0) rfl rfl (fun x114 ex114 => ?_)
      refine gw_ld rfl rfl ?_
      have t115 := congrArg Int32.toInt (f107)
      have t116 := congrArg Int32.toInt (f108)
      have t117 := congrArg Int32.toInt (f109)
      refine z_cl rfl rfl rfl rfl rfl rfl rfl rfl rfl rfl rfl (zT S102 (by decide) rfl) ?_
      refine c_take (p := 29) (f := x114) (m := x23) S102 (by decide) (by omega) (fun h118 F119 k120 => ?_)
      have A121 : aR (ez_I h118 30) 288 0 15 := tk_aR k120 k101 (by omega)
      have A122 : ∀ k, k < 288 → nL (ez_I h118 30) k = litF x23.toInt.toNat r98 k := tk_lit k120 k101 (by omega) (by omega)
      have S123 := zW_sh F119 S102
      have F124 := zW_tr F103 (zW_mono F119 (x58_14) (x58_15) (x58_6))
      have f125 : ez_I h118 69 2 = (ez_I h95 69 2) := (zW_f F119 (by decide) (fun c => c)).trans (rfl)
      have f126 : ez_I h118 69 3 = (ez_I h95 69 3) := (zW_f F119 (by decide) (fun c => c)).trans (rfl)
      have f127 : ez_I h118 69 6 = (ez_I h95 69 6) := (zW_f F119 (by decide) (fun c => c)).trans (rfl)
      have f128 : ez_I h118 29 4 = (ez_I h 29 4) := (zW_f F119 (by decide) (fun c => c)).trans (f107)
      have f129 : ez_I h118 36 4 = (ez_I h 36 4) := (zW_f F119 (by decide) (fun c => c)).trans (f108)
      have f130 : ez_I h118 43 4 = (ez_I h75 43 4) := (zW_f F119 (by decide) (fun c => c)).trans (f109)
      have A131 : alI (ez_I h118 44) (tI (ez_I h 3)) ((ez_I h 69 6).toInt.toNat + 14) x63.toInt.toNat 288 := by rw [zW_fn F119 44 (by decide) (fun _ c => c)]; exact A110
      have A132 : ctC (ez_I h118 46) (nL (ez_I h118 44)) 288 := by rw [zW_fn F119 46 (by decide) (fun _ c => c), zW_fn F119 44 (by decide) (fun _ c => c)]; exact A111
      have A133 : (ez_I h118 43 4).toInt = (plN (nL (ez_I h118 44)) 288 16 : Nat) := by rw [zW_fn F119 43 (by decide) (fun _ c => c), zW_fn F119 44 (by decide) (fun _ c => c)]; exact A112
      have A134 : itI (ez_I h118 47) (nL (ez_I h118 44)) 288 288 := by rw [zW_fn F119 47 (by decide) (fun _ c => c), zW_fn F119 44 (by decide) (fun _ c => c)]; exact A113
      have A135 : rwJ (ez_I h118 70) r98 x92.toInt.toNat := by rw [zW_fn F119 70 (by decide) (fun _ c => c)]; exact k101
      clear A110
      clear A111
      clear A112
      clear A113
      refine gw_ld rfl rfl ?_
      refine z_gR (q := 14) (zT S123 (by decide) rfl) (zRf S123 (by decide) (by decide) rfl) (by decide) ?_
      refine z_gR (q := 29) (zT S123 (by decide) rfl) (zRf S123 (by decide) (by decide) rfl) (by decide) ?_
      have t136 := congrArg Int32.toInt (f125)
      have t137 := congrArg Int32.toInt (f126)
      have t138 := congrArg Int32.toInt (f127)
      have t139 := congrArg Int32.toInt (f128)
      have t140 := congrArg Int32.toInt (f129)
      have t141 := congrArg Int32.toInt (f130)
      refine z_cl rfl rfl rfl rfl rfl rfl rfl rfl rfl rfl rfl (zT S123 (by decide) rfl) ?_
      refine c_settle (p := 29) S123 (by decide) (A121) (fun h142 F143 k144 k145 k146 k147 => ?_)
      have A148 : ctC (ez_I h142 32) (nL (ez_I h142 30)) 288 := by rw [(show ez_I h142 30 = ez_I h118 30 from zW_fn F143 30 (by decide) (fun k c => by omega))]; exact k144
      have A149 : (ez_I h142 29 4).toInt = (plN (nL (ez_I h142 30)) 288 16 : Nat) := by rw [(show ez_I h142 30 = ez_I h118 30 from zW_fn F143 30 (by decide) (fun k c => by omega))]; exact k145
      have A150 : itI (ez_I h142 33) (nL (ez_I h142 30)) 288 288 := by rw [(show ez_I h142 30 = ez_I h118 30 from zW_fn F143 30 (by decide) (fun k c => by omega))]; exact k147
      have S151 := zW_sh F143 S123
      have F152 := zW_tr F124 (zW_mono F143 (x58_16) (x58_17) (x58_6))
      have f153 : ez_I h142 69 2 = (ez_I h95 69 2) := (zW_f F143 (by decide) (by decide)).trans (f125)
      have f154 : ez_I h142 69 3 = (ez_I h95 69 3) := (zW_f F143 (by decide) (by decide)).trans (f126)
      have f155 : ez_I h142 69 6 = (ez_I h95 69 6) := (zW_f F143 (by decide) (by decide)).trans (f127)
      have r156 := z_rng (ez_I h142 29 4)
      have f157 : ez_I h142 36 4 = (ez_I h 36 4) := (zW_f F143 (by decide) (by decide)).trans (f129)
      have f158 : ez_I h142 43 4 = (ez_I h75 43 4) := (zW_f F143 (by decide) (by decide)).trans (f130)
      have A159 : alI (ez_I h142 44) (tI (ez_I h 3)) ((ez_I h 69 6).toInt.toNat + 14) x63.toInt.toNat 288 := by rw [zW_fn F143 44 (by decide) (x58_18)]; exact A131
      have A160 : ctC (ez_I h142 46) (nL (ez_I h142 44)) 288 := by rw [zW_fn F143 46 (by decide) (x58_19), zW_fn F143 44 (by decide) (x58_18)]; exact A132
      have A161 : (ez_I h142 43 4).toInt = (plN (nL (ez_I h142 44)) 288 16 : Nat) := by rw [zW_fn F143 43 (by decide) (x58_20), zW_fn F143 44 (by decide) (x58_18)]; exact A133
      have A162 : itI (ez_I h142 47) (nL (ez_I h142 44)) 288 288 := by rw [zW_fn F143 47 (by decide) (x58_21), zW_fn F143 44 (by decide) (x58_18)]; exact A134
      have A163 : rwJ (ez_I h142 70) r98 x92.toInt.toNat := by rw [zW_fn F143 70 (by decide) (x58_22)]; exact A135
      have A164 : aR (ez_I h142 30) 288 0 15 := by rw [zW_fn F143 30 (by decide) (x58_23)]; exact A121
      have A165 : ∀ k, k < 288 → nL (ez_I h142 30) k = litF x23.toInt.toNat r98 k := by rw [zW_fn F143 30 (by decide) (x58_23)]; exact A122
      clear A131
      clear A132
      clear A133
      clear A134
      clear A135
      clear A121
      clear A122
      refine gw_ld rfl rfl ?_
      refine z_gR (q := 14) (zT S151 (by decide) rfl) (zRf S151 (by decide) (by decide) rfl) (by decide) ?_
      refine z_gR (q := 36) (zT S151 (by decide) rfl) (zRf S151 (by decide) (by decide) rfl) (by decide) ?_
      refine gw_ld rfl rfl ?_
      refine z_gR (q := 70) (zT S151 (by decide) rfl) (zRf S151 (by decide) (by decide) rfl) (by decide) ?_
      refine gw_ld rfl rfl ?_
      refine gw_ld rfl rfl ?_
      have t166 := congrArg Int32.toInt (f153)
      have t167 := congrArg Int32.toInt (f154)
      have t168 := congrArg Int32.toInt (f155)
      have t169 := congrArg Int32.toInt (f157)
      have t170 := congrArg Int32.toInt (f158)
      refine z_cl rfl rfl rfl rfl rfl rfl rfl rfl rfl rfl rfl (zT S151 (by decide) rfl) ?_
      refine c_take (p := 36) (f := x23) (m := x43) S151 (by decide) (by omega) (fun h171 F172 k173 => ?_)
      have A174 : aR (ez_I h171 37) 288 0 15 := tk_aR k173 A163 (by omega)
      have A175 : ∀ k, k < 288 → nL (ez_I h171 37) k = disF x23.toInt.toNat x43.toInt.toNat r98 k := tk_dis k173 A163 (by omega)
      have S176 := zW_sh F172 S151
      have F177 := zW_tr F152 (zW_mono F172 (x58_14) (x58_24) (x58_6))
      have f178 : ez_I h171 69 2 = (ez_I h95 69 2) := (zW_f F172 (by decide) (fun c => c)).trans (f153)
      have f179 : ez_I h171 69 3 = (ez_I h95 69 3) := (zW_f F172 (by decide) (fun c => c)).trans (f154)
      have f180 : ez_I h171 69 6 = (ez_I h95 69 6) := (zW_f F172 (by decide) (fun c => c)).trans (f155)
      have f181 : ez_I h171 29 4 = (ez_I h142 29 4) := (zW_f F172 (by decide) (fun c => c)).trans (rfl)
      have f182 : ez_I h171 36 4 = (ez_I h 36 4) := (zW_f F172 (by decide) (fun c => c)).trans (f157)
      have f183 : ez_I h171 43 4 = (ez_I h75 43 4) := (zW_f F172 (by decide) (fun c => c)).trans (f158)
      have A184 : alI (ez_I h171 44) (tI (ez_I h 3)) ((ez_I h 69 6).toInt.toNat + 14) x63.toInt.toNat 288 := by rw [zW_fn F172 44 (by decide) (fun _ c => c)]; exact A159
      have A185 : ctC (ez_I h171 46) (nL (ez_I h171 44)) 288 := by rw [zW_fn F172 46 (by decide) (fun _ c => c), zW_fn F172 44 (by decide) (fun _ c => c)]; exact A160
      have A186 : (ez_I h171 43 4).toInt = (plN (nL (ez_I h171 44)) 288 16 : Nat) := by rw [zW_fn F172 43 (by decide) (fun _ c => c), zW_fn F172 44 (by decide) (fun _ c => c)]; exact A161
      have A187 : itI (ez_I h171 47) (nL (ez_I h171 44)) 288 288 := by rw [zW_fn F172 47 (by decide) (fun _ c => c), zW_fn F172 44 (by decide) (fun _ c => c)]; exact A162
      have A188 : rwJ (ez_I h171 70) r98 x92.toInt.toNat := by rw [zW_fn F172 70 (by decide) (fun _ c => c)]; exact A163
      have A189 : aR (ez_I h171 30) 288 0 15 := by rw [zW_fn F172 30 (by decide) (fun _ c => c)]; exact A164
      have A190 : ∀ k, k < 288 → nL (ez_I h171 30) k = litF x23.toInt.toNat r98 k := by rw [zW_fn F172 30 (by decide) (fun _ c => c)]; exact A165
      have A191 : ctC (ez_I h171 32) (nL (ez_I h171 30)) 288 := by rw [zW_fn F172 32 (by decide) (fun _ c => c), zW_fn F172 30 (by decide) (fun _ c => c)]; exact A148
      have A192 : (ez_I h171 29 4).toInt = (plN (nL (ez_I h171 30)) 288 16 : Nat) := by rw [zW_fn F172 29 (by decide) (fun _ c => c), zW_fn F172 30 (by decide) (fun _ c => c)]; exact A149
      have A193 : itI (ez_I h171 33) (nL (ez_I h171 30)) 288 288 := by rw [zW_fn F172 33 (by decide) (fun _ c => c), zW_fn F172 30 (by decide) (fun _ c => c)]; exact A150
      clear A159
      clear A160
      clear A161
      clear A162
      clear A163
      clear A164
      clear A165
      clear A148
      clear A149
      clear A150
      refine gw_ld rfl rfl ?_
      refine z_gR (q := 14) (zT S176 (by decide) rfl) (zRf S176 (by decide) (by decide) rfl) (by decide) ?_
      refine z_gR (q := 36) (zT S176 (by decide) rfl) (zRf S176 (by decide) (by decide) rfl) (by decide) ?_
      have t194 := congrArg Int32.toInt (f178)
      have t195 := congrArg Int32.toInt (f179)
      have t196 := congrArg Int32.toInt (f180)
      have t197 := congrArg Int32.toInt (f181)
      have t198 := congrArg Int32.toInt (f182)
      have t199 := congrArg Int32.toInt (f183)
      refine z_cl rfl rfl rfl rfl rfl rfl rfl rfl rfl rfl rfl (zT S176 (by decide) rfl) ?_
      refine c_settle (p := 36) S176 (by decide) (A174) (fun h200 F201 k202 k203 k204 k205 => ?_)
      have A206 : ctC (ez_I h200 39) (nL (ez_I h200 37)) 288 := by rw [(show ez_I h200 37 = ez_I h171 37 from zW_fn F201 37 (by decide) (fun k c => by omega))]; exact k202
      have A207 : (ez_I h200 36 4).toInt = (plN (nL (ez_I h200 37)) 288 16 : Nat) := by rw [(show ez_I h200 37 = ez_I h171 37 from zW_fn F201 37 (by decide) (fun k c => by omega))]; exact k203
      have A208 : itI (ez_I h200 40) (nL (ez_I h200 37)) 288 288 := by rw [(show ez_I h200 37 = ez_I h171 37 from zW_fn F201 37 (by decide) (fun k c => by omega))]; exact k205
      have S209 := zW_sh F201 S176
      have F210 := zW_tr F177 (zW_mono F201 (x58_25) (x58_26) (x58_6))
      have f211 : ez_I h200 69 2 = (ez_I h95 69 2) := (zW_f F201 (by decide) (by decide)).trans (f178)
      have f212 : ez_I h200 69 3 = (ez_I h95 69 3) := (zW_f F201 (by decide) (by decide)).trans (f179)
      have f213 : ez_I h200 69 6 = (ez_I h95 69 6) := (zW_f F201 (by decide) (by decide)).trans (f180)
      have f214 : ez_I h200 29 4 = (ez_I h142 29 4) := (zW_f F201 (by decide) (by decide)).trans (f181)
      have r215 := z_rng (ez_I h200 36 4)
      have f216 : ez_I h200 43 4 = (ez_I h75 43 4) := (zW_f F201 (by decide) (by decide)).trans (f183)
      have A217 : alI (ez_I h200 44) (tI (ez_I h 3)) ((ez_I h 69 6).toInt.toNat + 14) x63.toInt.toNat 288 := by rw [zW_fn F201 44 (by decide) (x58_27)]; exact A184
      have A218 : ctC (ez_I h200 46) (nL (ez_I h200 44)) 288 := by rw [zW_fn F201 46 (by decide) (x58_28), zW_fn F201 44 (by decide) (x58_27)]; exact A185
      have A219 : (ez_I h200 43 4).toInt = (plN (nL (ez_I h200 44)) 288 16 : Nat) := by rw [zW_fn F201 43 (by decide) (x58_29), zW_fn F201 44 (by decide) (x58_27)]; exact A186
      have A220 : itI (ez_I h200 47) (nL (ez_I h200 44)) 288 288 := by rw [zW_fn F201 47 (by decide) (x58_30), zW_fn F201 44 (by decide) (x58_27)]; exact A187
      have A221 : rwJ (ez_I h200 70) r98 x92.toInt.toNat := by rw [zW_fn F201 70 (by decide) (x58_31)]; exact A188
      have A222 : aR (ez_I h200 30) 288 0 15 := by rw [zW_fn F201 30 (by decide) (x58_32)]; exact A189
      have A223 : ∀ k, k < 288 → nL (ez_I h200 30) k = litF x23.toInt.toNat r98 k := by rw [zW_fn F201 30 (by decide) (x58_32)]; exact A190
      have A224 : ctC (ez_I h200 32) (nL (ez_I h200 30)) 288 := by rw [zW_fn F201 32 (by decide) (x58_33), zW_fn F201 30 (by decide) (x58_32)]; exact A191
      have A225 : (ez_I h200 29 4).toInt = (plN (nL (ez_I h200 30)) 288 16 : Nat) := by rw [zW_fn F201 29 (by decide) (x58_34), zW_fn F201 30 (by decide) (x58_32)]; exact A192
      have A226 : itI (ez_I h200 33) (nL (ez_I h200 30)) 288 288 := by rw [zW_fn F201 33 (by decide) (x58_35), zW_fn F201 30 (by decide) (x58_32)]; exact A193
      have A227 : aR (ez_I h200 37) 288 0 15 := by rw [zW_fn F201 37 (by decide) (x58_36)]; exact A174
      have A228 : ∀ k, k < 288 → nL (ez_I h200 37) k = disF x23.toInt.toNat x43.toInt.toNat r98 k := by rw [zW_fn F201 37 (by decide) (x58_36)]; exact A175
      clear A184
      clear A185
      clear A186
      clear A187
      clear A188
      clear A189
      clear A190
      clear A191
      clear A192
      clear A193
      clear A174
      clear A175
      refine gw_ld rfl rfl ?_
      refine z_gR (q := 14) (zT S209 (by decide) rfl) (zRf S209 (by decide) (by decide) rfl) (by decide) ?_
      refine z_gR (q := 29) (zT S209 (by decide) rfl) (zRf S209 (by decide) (by decide) rfl) (by decide) ?_
      have t229 := congrArg Int32.toInt (f211)
      have t230 := congrArg Int32.toInt (f212)
      have t231 := congrArg Int32.toInt (f213)
      have t232 := congrArg Int32.toInt (f214)
      have t233 := congrArg Int32.toInt (f216)
      refine z_cl rfl rfl rfl rfl rfl rfl rfl rfl rfl rfl rfl (zT S209 (by decide) rfl) ?_
      refine c_whole (p := 29) S209 (by decide) A222 A224 (fun x234 k235 => ?_)
      have rx234 := z_rng x234
      rw [show wsN (nL (ez_I h200 (29 + 1))) 288 = wsN (litF x23.toInt.toNat r98) 288 from ws_eq 288 A223] at k235
      refine z_b1 (fun c236 => ?_) (fun c236 => ?_)
      · have c236 : x234.toInt = 0 := c236
        refine gw_skip _ ?_
        refine gw_ld rfl rfl ?_
        refine z_C (m := 5) rfl rfl (fun x237 ex237 => ?_)
        refine z_cl rfl rfl rfl rfl rfl rfl rfl rfl rfl rfl rfl (zT S209 (by decide) rfl) ?_
        exact c_fail (i := x237) S209 (zMw F210 hM) (by omega) (fun hh FF => Ke (hU.trans (if_neg (fun ok => by obtain ⟨o1, o2, o3⟩ := ok; omega))) hh (zW_tr F210 (zW_mono FF x58_4 x58_5 x58_6))) trivial
      · have c236 : ¬ (x234.toInt = 0) := c236
        refine gw_ld rfl rfl ?_
        refine z_gR (q := 14) (zT S209 (by decide) rfl) (zRf S209 (by decide) (by decide) rfl) (by decide) ?_
        refine z_gR (q := 29) (zT S209 (by decide) rfl) (zRf S209 (by decide) (by decide) rfl) (by decide) ?_
        refine z_gR (q := 30) (zT S209 (by decide) rfl) (zRf S209 (by decide) (by decide) rfl) (by decide) ?_
        refine z_C (m := 256) rfl rfl (fun x238 ex238 => ?_)
        refine z_ia (n := 288) (zT S209 (by decide) rfl) (zN S209 (by decide) rfl) (by omega) ?_
        generalize ex239 : ez_I h200 30 x238.toInt.toNat = x239
        have rx239 := z_rng x239
        have y2 := A223 256 (by decide)
        have y3 := A222 256 (by decide)
        rw [show x238.toInt.toNat = 256 by omega] at ex239
        rw [show nL (ez_I h200 30) 256 = x239.toInt.toNat from congrArg (fun v => v.toInt.toNat) ex239] at y2
        rw [ex239] at y3
        refine z_b1 (fun c240 => ?_) (fun c240 => ?_)
        · have c240 : x239.toInt ≠ 0 := c240
          refine gw_skip _ ?_
          refine gw_ld rfl rfl ?_
          refine z_gR (q := 14) (zT S209 (by decide) rfl) (zRf S209 (by decide) (by decide) rfl) (by decide) ?_
          refine z_gR (q := 36) (zT S209 (by decide) rfl) (zRf S209 (by decide) (by decide) rfl) (by decide) ?_
          refine z_cl rfl rfl rfl rfl rfl rfl rfl rfl rfl rfl rfl (zT S209 (by decide) rfl) ?_
          refine c_whole (p := 36) S209 (by decide) A227 A206 (fun x241 k242 => ?_)
          have rx241 := z_rng x241
          rw [show wsN (nL (ez_I h200 (36 + 1))) 288 = wsN (disF x23.toInt.toNat x43.toInt.toNat r98) 288 from ws_eq 288 A228] at k242
          refine z_b1 (fun c243 => ?_) (fun c243 => ?_)
          · have c243 : x241.toInt ≠ 0 := c243
            refine gw_skip _ ?_
            refine z_rv ?_
            exact K _ F210 q97 (litF x23.toInt.toNat r98) (disF x23.toInt.toNat x43.toInt.toNat r98) (hU.trans (if_pos ⟨by omega, by omega, by omega⟩)) (by omega) A222 A224 A225 A226 A223 A227 A206 A207 A208 A228
          · have c243 : ¬ (x241.toInt ≠ 0) := c243
            refine gw_ld rfl rfl ?_
            refine z_gR (q := 14) (zT S209 (by decide) rfl) (zRf S209 (by decide) (by decide) rfl) (by decide) ?_
            refine z_gR (q := 36) (zT S209 (by decide) rfl) (zRf S209 (by decide) (by decide) rfl) (by decide) ?_
            refine z_cl rfl rfl rfl rfl rfl rfl rfl rfl rfl rfl rfl (zT S209 (by decide) rfl) ?_
            refine c_one (p := 36) S209 (by decide) A227 A206 (fun x244 k245 => ?_)
            have rx244 := z_rng x244
            have hcd2 := A207
            rw [pl_eq A228] at hcd2
            rw [show ctN (nL (ez_I h200 (36 + 1))) 1 288 = ctN (disF x23.toInt.toNat x43.toInt.toNat r98) 1 288 from ctN_congr 288 A228] at k245
            refine z_b1 (fun c246 => ?_) (fun c246 => ?_)
            · have c246 : x244.toInt ≠ 0 := c246
              refine gw_skip _ ?_
              refine z_rv ?_
              exact K _ F210 q97 (litF x23.toInt.toNat r98) (disF x23.toInt.toNat x43.toInt.toNat r98) (hU.trans (if_pos ⟨by omega, by omega, by omega⟩)) (by omega) A222 A224 A225 A226 A223 A227 A206 A207 A208 A228
            · have c246 : ¬ (x244.toInt ≠ 0) := c246
              refine gw_ld rfl rfl ?_
              refine z_C (m := 5) rfl rfl (fun x247 ex247 => ?_)
              refine z_cl rfl rfl rfl rfl rfl rfl rfl rfl rfl rfl rfl (zT S209 (by decide) rfl) ?_
              exact c_fail (i := x247) S209 (zMw F210 hM) (by omega) (fun hh FF => Ke (hU.trans (if_neg (fun ok => by obtain ⟨o1, o2, o3⟩ := ok; omega))) hh (zW_tr F210 (zW_mono FF x58_4 x58_5 x58_6))) trivial
        · have c240 : ¬ (x239.toInt ≠ 0) := c240
          refine gw_ld rfl rfl ?_
          refine z_C (m := 5) rfl rfl (fun x248 ex248 => ?_)
          refine z_cl rfl rfl rfl rfl rfl rfl rfl rfl rfl rfl rfl (zT S209 (by decide) rfl) ?_
          exact c_fail (i := x248) S209 (zMw F210 hM) (by omega) (fun hh FF => Ke (hU.trans (if_neg (fun ok => by obtain ⟨o1, o2, o3⟩ := ok; omega))) hh (zW_tr F210 (zW_mono FF x58_4 x58_5 x58_6))) trivial
    · have c71 : ¬ (x43.toInt ≤ x70.toInt) := c71
      refine gw_ld rfl rfl ?_
      refine z_C (m := 4) rfl rfl (fun x249 ex249 => ?_)
      have t250 := congrArg Int32.toInt (f60)
      have t251 := congrArg Int32.toInt (f61)
      have t252 := congrArg Int32.toInt (f62)
      refine z_cl rfl rfl rfl rfl rfl rfl rfl rfl rfl rfl rfl (zT S55 (by decide) rfl) ?_
      exact c_fail (i := x249) S55 (zMw F56 hM) (by omega) (fun hh FF => Ke (hdU_o (.inr (by omega))) hh (zW_tr F56 (zW_mono FF x58_4 x58_5 x58_6))) trivial
