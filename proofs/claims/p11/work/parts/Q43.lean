/-! PRINTED by wip/pack: the class: a block written -/
theorem x66_0 : ∀ q k : Nat, (q = 68 ∧ k = 1 ∨ q = 68 ∧ k = 2 ∨ q = 50 ∧ k = 1) → (q = 68 ∧ k = 1 ∨ q = 68 ∧ k = 2 ∨ q = 50 ∧ k = 1 ∨ q = 29 ∧ k = 4 ∨ q = 36 ∧ k = 4) := fun q k hk => hk.elim (fun g => (.inl g)) (fun hk => hk.elim (fun g => (.inr (.inl g))) (fun hk => (.inr (.inr (.inl hk)))))
theorem x66_1 : ∀ q : Nat, (q = 51) → (q = 51 ∨ q = 57 ∨ 31 ≤ q ∧ q ≤ 35 ∨ 38 ≤ q ∧ q ≤ 42) := fun q hk => (.inl hk)
theorem x66_2 : ∀ q : Nat, (False) → (False) := fun q hk => hk.elim
theorem x66_3 : ∀ k : Nat, ¬ (57 = 68 ∧ k = 1 ∨ 57 = 68 ∧ k = 2 ∨ 57 = 50 ∧ k = 1) := fun k c => by omega
theorem x66_4 : ¬ (55 = 51 ∨ 55 = 57 ∨ 31 ≤ 55 ∧ 55 ≤ 35 ∨ 38 ≤ 55 ∧ 55 ≤ 42) := by omega
theorem x66_5 : ¬ (55 = 68 ∧ 2 = 1 ∨ 55 = 68 ∧ 2 = 2 ∨ 55 = 50 ∧ 2 = 1 ∨ 55 = 29 ∧ 2 = 4 ∨ 55 = 36 ∧ 2 = 4) := by omega
theorem x66_6 : ¬ (30 = 51 ∨ 30 = 57 ∨ 31 ≤ 30 ∧ 30 ≤ 35 ∨ 38 ≤ 30 ∧ 30 ≤ 42) := by omega
theorem x66_7 : ∀ k : Nat, ¬ (30 = 68 ∧ k = 1 ∨ 30 = 68 ∧ k = 2 ∨ 30 = 50 ∧ k = 1 ∨ 30 = 29 ∧ k = 4 ∨ 30 = 36 ∧ k = 4) := fun k c => by omega
theorem x66_8 : ¬ (37 = 51 ∨ 37 = 57 ∨ 31 ≤ 37 ∧ 37 ≤ 35 ∨ 38 ≤ 37 ∧ 37 ≤ 42) := by omega
theorem x66_9 : ∀ k : Nat, ¬ (37 = 68 ∧ k = 1 ∨ 37 = 68 ∧ k = 2 ∨ 37 = 50 ∧ k = 1 ∨ 37 = 29 ∧ k = 4 ∨ 37 = 36 ∧ k = 4) := fun k c => by omega
theorem x66_10 : ¬ (44 = 51 ∨ 44 = 57 ∨ 31 ≤ 44 ∧ 44 ≤ 35 ∨ 38 ≤ 44 ∧ 44 ≤ 42) := by omega
theorem x66_11 : ∀ k : Nat, ¬ (44 = 68 ∧ k = 1 ∨ 44 = 68 ∧ k = 2 ∨ 44 = 50 ∧ k = 1 ∨ 44 = 29 ∧ k = 4 ∨ 44 = 36 ∧ k = 4) := fun k c => by omega
theorem x66_12 : ∀ q k : Nat, (False) → (q = 68 ∧ k = 1 ∨ q = 68 ∧ k = 2 ∨ q = 50 ∧ k = 1 ∨ q = 29 ∧ k = 4 ∨ q = 36 ∧ k = 4) := fun q k hk => hk.elim
theorem x66_13 : ∀ q : Nat, (q = 57) → (q = 51 ∨ q = 57 ∨ 31 ≤ q ∧ q ≤ 35 ∨ 38 ≤ q ∧ q ≤ 42) := fun q hk => (.inr (.inl hk))
theorem x66_14 : ∀ q k : Nat, (q = 29 ∧ k = 4) → (q = 68 ∧ k = 1 ∨ q = 68 ∧ k = 2 ∨ q = 50 ∧ k = 1 ∨ q = 29 ∧ k = 4 ∨ q = 36 ∧ k = 4) := fun q k hk => (.inr (.inr (.inr (.inl hk))))
theorem x66_15 : ∀ q : Nat, (q = 31 ∨ q = 32 ∨ q = 33 ∨ q = 34 ∨ q = 35) → (q = 51 ∨ q = 57 ∨ 31 ≤ q ∧ q ≤ 35 ∨ 38 ≤ q ∧ q ≤ 42) := fun q hk => hk.elim (fun g => (.inr (.inr (.inl (show 31 ≤ q ∧ q ≤ 35 by omega))))) (fun hk => hk.elim (fun g => (.inr (.inr (.inl (show 31 ≤ q ∧ q ≤ 35 by omega))))) (fun hk => hk.elim (fun g => (.inr (.inr (.inl (show 31 ≤ q ∧ q ≤ 35 by omega))))) (fun hk => hk.elim (fun g => (.inr (.inr (.inl (show 31 ≤ q ∧ q ≤ 35 by omega))))) (fun hk => (.inr (.inr (.inl (show 31 ≤ q ∧ q ≤ 35 by omega))))))))
theorem x66_16 : ∀ k : Nat, ¬ (51 = 29 ∧ k = 4) := fun k c => by omega
theorem x66_17 : ∀ k : Nat, ¬ (50 = 29 ∧ k = 4) := fun k c => by omega
theorem x66_18 : ∀ k : Nat, ¬ (68 = 29 ∧ k = 4) := fun k c => by omega
theorem x66_19 : ∀ k : Nat, ¬ (57 = 29 ∧ k = 4) := fun k c => by omega
theorem x66_20 : ∀ q k : Nat, (q = 36 ∧ k = 4) → (q = 68 ∧ k = 1 ∨ q = 68 ∧ k = 2 ∨ q = 50 ∧ k = 1 ∨ q = 29 ∧ k = 4 ∨ q = 36 ∧ k = 4) := fun q k hk => (.inr (.inr (.inr (.inr hk))))
theorem x66_21 : ∀ q : Nat, (q = 38 ∨ q = 39 ∨ q = 40 ∨ q = 41 ∨ q = 42) → (q = 51 ∨ q = 57 ∨ 31 ≤ q ∧ q ≤ 35 ∨ 38 ≤ q ∧ q ≤ 42) := fun q hk => hk.elim (fun g => (.inr (.inr (.inr (show 38 ≤ q ∧ q ≤ 42 by omega))))) (fun hk => hk.elim (fun g => (.inr (.inr (.inr (show 38 ≤ q ∧ q ≤ 42 by omega))))) (fun hk => hk.elim (fun g => (.inr (.inr (.inr (show 38 ≤ q ∧ q ≤ 42 by omega))))) (fun hk => hk.elim (fun g => (.inr (.inr (.inr (show 38 ≤ q ∧ q ≤ 42 by omega))))) (fun hk => (.inr (.inr (.inr (show 38 ≤ q ∧ q ≤ 42 by omega))))))))
theorem x66_22 : ∀ k : Nat, ¬ (51 = 36 ∧ k = 4) := fun k c => by omega
theorem x66_23 : ∀ k : Nat, ¬ (50 = 36 ∧ k = 4) := fun k c => by omega
theorem x66_24 : ∀ k : Nat, ¬ (68 = 36 ∧ k = 4) := fun k c => by omega
theorem x66_25 : ∀ k : Nat, ¬ (57 = 36 ∧ k = 4) := fun k c => by omega
theorem x66_26 : ∀ k : Nat, ¬ (31 = 36 ∧ k = 4) := fun k c => by omega
theorem x66_27 : ¬ (61 = 51 ∨ 61 = 57 ∨ 31 ≤ 61 ∧ 61 ≤ 35 ∨ 38 ≤ 61 ∧ 61 ≤ 42) := by omega
theorem x66_28 : ∀ k : Nat, ¬ (61 = 68 ∧ k = 1 ∨ 61 = 68 ∧ k = 2 ∨ 61 = 50 ∧ k = 1 ∨ 61 = 29 ∧ k = 4 ∨ 61 = 36 ∧ k = 4) := fun k c => by omega
theorem x66_29 : ¬ (63 = 51 ∨ 63 = 57 ∨ 31 ≤ 63 ∧ 63 ≤ 35 ∨ 38 ≤ 63 ∧ 63 ≤ 42) := by omega
theorem x66_30 : ∀ k : Nat, ¬ (63 = 68 ∧ k = 1 ∨ 63 = 68 ∧ k = 2 ∨ 63 = 50 ∧ k = 1 ∨ 63 = 29 ∧ k = 4 ∨ 63 = 36 ∧ k = 4) := fun k c => by omega
theorem x66_31 : ¬ (64 = 51 ∨ 64 = 57 ∨ 31 ≤ 64 ∧ 64 ≤ 35 ∨ 38 ≤ 64 ∧ 64 ≤ 42) := by omega
theorem x66_32 : ∀ k : Nat, ¬ (64 = 68 ∧ k = 1 ∨ 64 = 68 ∧ k = 2 ∨ 64 = 50 ∧ k = 1 ∨ 64 = 29 ∧ k = 4 ∨ 64 = 36 ∧ k = 4) := fun k c => by omega
theorem x66_33 : ¬ (45 = 51 ∨ 45 = 57 ∨ 31 ≤ 45 ∧ 45 ≤ 35 ∨ 38 ≤ 45 ∧ 45 ≤ 42) := by omega
theorem x66_34 : ∀ k : Nat, ¬ (45 = 68 ∧ k = 1 ∨ 45 = 68 ∧ k = 2 ∨ 45 = 50 ∧ k = 1 ∨ 45 = 29 ∧ k = 4 ∨ 45 = 36 ∧ k = 4) := fun k c => by omega
theorem x66_35 : ∀ k : Nat, ¬ (31 = 68 ∧ k = 1 ∨ 31 = 68 ∧ k = 2 ∨ 31 = 50 ∧ k = 1) := fun k c => by omega
theorem x66_36 : ∀ k : Nat, ¬ (38 = 68 ∧ k = 1 ∨ 38 = 68 ∧ k = 2 ∨ 38 = 50 ∧ k = 1) := fun k c => by omega
theorem x66_37 : ¬ (53 = 51 ∨ 53 = 57 ∨ 31 ≤ 53 ∧ 53 ≤ 35 ∨ 38 ≤ 53 ∧ 53 ≤ 42) := by omega
theorem x66_38 : ¬ (53 = 68 ∧ 1 = 1 ∨ 53 = 68 ∧ 1 = 2 ∨ 53 = 50 ∧ 1 = 1 ∨ 53 = 29 ∧ 1 = 4 ∨ 53 = 36 ∧ 1 = 4) := by omega
theorem x66_39 : ¬ (54 = 51 ∨ 54 = 57 ∨ 31 ≤ 54 ∧ 54 ≤ 35 ∨ 38 ≤ 54 ∧ 54 ≤ 42) := by omega
theorem x66_40 : ∀ k : Nat, ¬ (54 = 68 ∧ k = 1 ∨ 54 = 68 ∧ k = 2 ∨ 54 = 50 ∧ k = 1 ∨ 54 = 29 ∧ k = 4 ∨ 54 = 36 ∧ k = 4) := fun k c => by omega
theorem x66_41 : ¬ (16 = 51 ∨ 16 = 57 ∨ 31 ≤ 16 ∧ 16 ≤ 35 ∨ 38 ≤ 16 ∧ 16 ≤ 42) := by omega
theorem x66_42 : ∀ k : Nat, ¬ (16 = 68 ∧ k = 1 ∨ 16 = 68 ∧ k = 2 ∨ 16 = 50 ∧ k = 1 ∨ 16 = 29 ∧ k = 4 ∨ 16 = 36 ∧ k = 4) := fun k c => by omega
theorem x66_43 : ¬ (17 = 51 ∨ 17 = 57 ∨ 31 ≤ 17 ∧ 17 ≤ 35 ∨ 38 ≤ 17 ∧ 17 ≤ 42) := by omega
theorem x66_44 : ∀ k : Nat, ¬ (17 = 68 ∧ k = 1 ∨ 17 = 68 ∧ k = 2 ∨ 17 = 50 ∧ k = 1 ∨ 17 = 29 ∧ k = 4 ∨ 17 = 36 ∧ k = 4) := fun k c => by omega
theorem x66_45 : ¬ (23 = 51 ∨ 23 = 57 ∨ 31 ≤ 23 ∧ 23 ≤ 35 ∨ 38 ≤ 23 ∧ 23 ≤ 42) := by omega
theorem x66_46 : ∀ k : Nat, ¬ (23 = 68 ∧ k = 1 ∨ 23 = 68 ∧ k = 2 ∨ 23 = 50 ∧ k = 1 ∨ 23 = 29 ∧ k = 4 ∨ 23 = 36 ∧ k = 4) := fun k c => by omega
theorem x66_47 : ¬ (24 = 51 ∨ 24 = 57 ∨ 31 ≤ 24 ∧ 24 ≤ 35 ∨ 38 ≤ 24 ∧ 24 ≤ 42) := by omega
theorem x66_48 : ∀ k : Nat, ¬ (24 = 68 ∧ k = 1 ∨ 24 = 68 ∧ k = 2 ∨ 24 = 50 ∧ k = 1 ∨ 24 = 29 ∧ k = 4 ∨ 24 = 36 ∧ k = 4) := fun k c => by omega
theorem x66_49 : ¬ (2 = 51 ∨ 2 = 57 ∨ 31 ≤ 2 ∧ 2 ≤ 35 ∨ 38 ≤ 2 ∧ 2 ≤ 42) := by omega
theorem x66_50 : ¬ (2 = 68 ∧ 1 = 1 ∨ 2 = 68 ∧ 1 = 2 ∨ 2 = 50 ∧ 1 = 1 ∨ 2 = 29 ∧ 1 = 4 ∨ 2 = 36 ∧ 1 = 4) := by omega
theorem x66_51 : ¬ (3 = 51 ∨ 3 = 57 ∨ 31 ≤ 3 ∧ 3 ≤ 35 ∨ 38 ≤ 3 ∧ 3 ≤ 42) := by omega
theorem x66_52 : ∀ k : Nat, ¬ (3 = 68 ∧ k = 1 ∨ 3 = 68 ∧ k = 2 ∨ 3 = 50 ∧ k = 1 ∨ 3 = 29 ∧ k = 4 ∨ 3 = 36 ∧ k = 4) := fun k c => by omega
theorem x66_53 : ¬ (52 = 51 ∨ 52 = 57 ∨ 31 ≤ 52 ∧ 52 ≤ 35 ∨ 38 ≤ 52 ∧ 52 ≤ 42) := by omega
theorem x66_54 : ¬ (52 = 68 ∧ 11 = 1 ∨ 52 = 68 ∧ 11 = 2 ∨ 52 = 50 ∧ 11 = 1 ∨ 52 = 29 ∧ 11 = 4 ∨ 52 = 36 ∧ 11 = 4) := by omega
set_option maxRecDepth 4000 in
set_option maxHeartbeats 2000000 in
theorem c_wBlock {E : Nat → Nat × (Nat → Int32)} {d : Nat} {Q : ez_Q} {h : ez_H} {k : Int32} {fr : Int32} {to : Int32} {pl : Int32} (S : zSh h) {l c cc : Nat} {s0 : Nat × Nat} (hE : zE E) (hs : stC (ez_I h 51) (ez_I h 50 1).toInt (ez_I h 68 1).toInt (ez_I h 68 2).toInt (wr s0 l 1)) (h7 : (ez_I h 68 2).toInt ≤ 7) (hz : 0 ≤ (ez_I h 2 1).toInt ∧ (ez_I h 2 1).toInt ≤ 6000) (hb : aR (ez_I h 3) (ez_I h 2 1).toInt.toNat 0 255) (hk : 0 ≤ k.toInt ∧ k.toInt < (ez_I h 55 2).toInt ∧ (ez_I h 55 2).toInt ≤ 10) (hW : (ez_I h 56 (6 * k.toInt).toNat).toInt = ((bkW (tI (ez_I h 3)) (ez_I h 2 1).toInt.toNat fr.toInt.toNat (to.toInt.toNat - fr.toInt.toNat) s0.2) : Nat)) (hy : (ez_I h 52 11).toInt = ((bkY (tI (ez_I h 3)) (ez_I h 2 1).toInt.toNat fr.toInt.toNat (to.toInt.toNat - fr.toInt.toNat)) : Nat)) (hpl : pl.toInt = (ptP (tI (ez_I h 3)) (ez_I h 2 1).toInt.toNat fr.toInt.toNat : Nat)) (hc : (ez_I h 53 1).toInt = c ∧ c ≤ 6000) (hlt : ltP (tI (ez_I h 3)) (ez_I h 2 1).toInt.toNat c) (hpe : ptP (tI (ez_I h 3)) (ez_I h 2 1).toInt.toNat c = (ez_I h 2 1).toInt.toNat) (hpq : pqG (ez_I h 54) (aM (tI (ez_I h 3)) (ez_I h 2 1).toInt.toNat) (dI (tI (ez_I h 3)) (ez_I h 2 1).toInt.toNat) c) (hf : 0 ≤ fr.toInt ∧ fr.toInt ≤ to.toInt ∧ to.toInt ≤ c) (a16 : aR (ez_I h 16) 288 0 15) (w17 : wdI (ez_I h 17) (nL (ez_I h 16)) 288 288) (f16 : ∀ k, k < 288 → nL (ez_I h 16) k = fxL k) (a23 : aR (ez_I h 23) 288 0 15) (w24 : wdI (ez_I h 24) (nL (ez_I h 23)) 288 288) (f23 : ∀ k, k < 288 → nL (ez_I h 23) k = fxD k) (hpp : plP (ez_I h 61) (ez_I h 63) (ez_I h 64) (ez_I h 44) (ez_I h 45) (nL (ez_I h 30)) (nL (ez_I h 37)) cc) (e30 : ∀ k, k < 288 → nL (ez_I h 30) k = (bkL (tI (ez_I h 3)) (ez_I h 2 1).toInt.toNat fr.toInt.toNat (to.toInt.toNat - fr.toInt.toNat)) k) (a30 : aR (ez_I h 30) 288 0 15) (u30 : ∀ k, k < 286 → 1 ≤ (bkC (tI (ez_I h 3)) (ez_I h 2 1).toInt.toNat fr.toInt.toNat (to.toInt.toNat - fr.toInt.toNat)) k → 1 ≤ nL (ez_I h 30) k) (e37 : ∀ k, k < 288 → nL (ez_I h 37) k = (bkE (tI (ez_I h 3)) (ez_I h 2 1).toInt.toNat fr.toInt.toNat (to.toInt.toNat - fr.toInt.toNat)) k) (a37 : aR (ez_I h 37) 288 0 15) (u37 : ∀ k, k < 30 → 1 ≤ (bkD (tI (ez_I h 3)) (ez_I h 2 1).toInt.toNat fr.toInt.toNat (to.toInt.toNat - fr.toInt.toNat)) k → 1 ≤ nL (ez_I h 37) k) (hr : s0.2 + 50 + 8 * (bkY (tI (ez_I h 3)) (ez_I h 2 1).toInt.toNat fr.toInt.toNat (to.toInt.toNat - fr.toInt.toNat)) ≤ 48800) (K : ∀ h2, zW (fun q k => q = 68 ∧ k = 1 ∨ q = 68 ∧ k = 2 ∨ q = 50 ∧ k = 1 ∨ q = 29 ∧ k = 4 ∨ q = 36 ∧ k = 4) (fun q => q = 51 ∨ q = 57 ∨ 31 ≤ q ∧ q ≤ 35 ∨ 38 ≤ q ∧ q ≤ 42) (fun _ => False) h h2 → stC (ez_I h2 51) (ez_I h2 50 1).toInt (ez_I h2 68 1).toInt (ez_I h2 68 2).toInt (bkS (tI (ez_I h 3)) (ez_I h 2 1).toInt.toNat fr.toInt.toNat (to.toInt.toNat - fr.toInt.toNat) l s0) → (ez_I h2 68 2).toInt ≤ 7 → ((bkW (tI (ez_I h 3)) (ez_I h 2 1).toInt.toNat fr.toInt.toNat (to.toInt.toNat - fr.toInt.toNat) s0.2) = 2 → (∀ s, s < 286 → ez_I h2 57 ((335 * k.toInt).toNat + s) = ez_I h 30 s) ∧ (∀ s, s < 30 → ez_I h2 57 ((335 * k.toInt).toNat + 286 + s) = ez_I h 37 s) ∧ (∀ s, s < 19 → ez_I h2 57 ((335 * k.toInt).toNat + 316 + s) = ez_I h 44 s)) → (∀ j, (j < (335 * k.toInt).toNat ∨ (335 * k.toInt).toNat + 335 ≤ j) → ez_I h2 57 j = ez_I h 57 j) → Q (.inl none) h2) : pw E (d + 4) 119 0 [some (.ref 52), some (.int k), some (.int fr), some (.int to), some (.ref 2), some (.int pl), none] [] h Q := by
  have gk := z_rng k
  have gfr := z_rng fr
  have gto := z_rng to
  have gpl := z_rng pl
  have hT : ∀ i, i < (ez_I h 2 1).toInt.toNat → 0 ≤ (tI (ez_I h 3)) i ∧ (tI (ez_I h 3)) i ≤ 255 := fun i hi => hb i hi
  have F := zW_refl (fun q k => q = 68 ∧ k = 1 ∨ q = 68 ∧ k = 2 ∨ q = 50 ∧ k = 1 ∨ q = 29 ∧ k = 4 ∨ q = 36 ∧ k = 4) (fun q => q = 51 ∨ q = 57 ∨ 31 ≤ q ∧ q ≤ 35 ∨ 38 ≤ q ∧ q ≤ 42) (fun _ => False) h
  apply ez_Wp_in
  show ez_gw _ _ _ _ _ _ (cz_119) _ _ _ _ _
  refine gw_skip _ ?_
  have r1 := z_rng (ez_I h 68 1)
  have r2 := z_rng (ez_I h 68 2)
  have r3 := z_rng (ez_I h 50 1)
  have r4 := z_rng (ez_I h 29 4)
  have r5 := z_rng (ez_I h 36 4)
  refine gw_ld rfl rfl ?_
  refine z_gR (q := 55) (zT S (by decide) rfl) (zRf S (by decide) (by decide) rfl) (by decide) ?_
  refine gw_ld rfl rfl ?_
  refine z_C (m := 0) rfl rfl (fun x6 ex6 => ?_)
  refine z_cl rfl rfl rfl rfl rfl rfl rfl rfl rfl rfl rfl (zT S (by decide) rfl) ?_
  refine c_fact (k := k) (w := x6) S (by omega) (fun x7 k8 k9 => ?_)
  have rx7 := z_rng x7
  have hwx : x7.toInt = ((bkW (tI (ez_I h 3)) (ez_I h 2 1).toInt.toNat fr.toInt.toNat (to.toInt.toNat - fr.toInt.toNat) s0.2) : Nat) := by rw [k8 (by omega), show (6 * k.toInt + x6.toInt).toNat = (6 * k.toInt).toNat by omega]; exact hW
  have hw2 := bkW_2 (tI (ez_I h 3)) (ez_I h 2 1).toInt.toNat fr.toInt.toNat (to.toInt.toNat - fr.toInt.toNat) s0.2
  refine gw_st rfl rfl rfl ?_
  show ez_gw _ _ _ _ _ _ _ _ [some (.ref 52), some (.int k), some (.int fr), some (.int to), some (.ref 2), some (.int pl), some (.int x7)] _ _ _
  refine gw_ld rfl rfl ?_
  refine z_gR (q := 68) (zT S (by decide) rfl) (zRf S (by decide) (by decide) rfl) (by decide) ?_
  refine gw_ld rfl rfl ?_
  refine z_C (m := 2) rfl rfl (fun x10 ex10 => ?_)
  refine z_cl rfl rfl rfl rfl rfl rfl rfl rfl rfl rfl rfl (zT S (by decide) rfl) ?_
  have hpw : (2 : Int) ^ x10.toInt.toNat = 4 := by rw [show x10.toInt.toNat = 2 by omega]; rfl
  refine c_put (s := wr s0 l 1) (v := x7) (n := x10) S hs h7 (by omega) (by omega) (by show s0.2 + 1 + _ ≤ _; omega) (fun h11 F12 k13 k14 => ?_)
  rw [show x7.toInt.toNat = (bkW (tI (ez_I h 3)) (ez_I h 2 1).toInt.toNat fr.toInt.toNat (to.toInt.toNat - fr.toInt.toNat) s0.2) by omega, show x10.toInt.toNat = 2 by omega] at k13
  have hst : stC (ez_I h11 51) (ez_I h11 50 1).toInt (ez_I h11 68 1).toInt (ez_I h11 68 2).toInt (bk1 (tI (ez_I h 3)) (ez_I h 2 1).toInt.toNat fr.toInt.toNat (to.toInt.toNat - fr.toInt.toNat) l s0) := k13
  have S15 := zW_sh F12 S
  have F16 := zW_tr F (zW_mono F12 (x66_0) (x66_1) (x66_2))
  have r17 := z_rng (ez_I h11 68 1)
  have r18 := z_rng (ez_I h11 68 2)
  have r19 := z_rng (ez_I h11 50 1)
  have f20 : ez_I h11 29 4 = (ez_I h 29 4) := (zW_f F12 (by decide) (by decide)).trans (rfl)
  have f21 : ez_I h11 36 4 = (ez_I h 36 4) := (zW_f F12 (by decide) (by decide)).trans (rfl)
  have A22 : ez_I h11 57 = ez_I h 57 := by rw [zW_fn F12 57 (by decide) (x66_3)]
  refine gw_ld rfl rfl ?_
  refine z_b1 (fun c23 => ?_) (fun c23 => ?_)
  · have c23 : x7.toInt ≠ 0 := c23
    refine gw_skip _ ?_
    refine gw_ld rfl rfl ?_
    refine z_C (m := 1) rfl rfl (fun x24 ex24 => ?_)
    refine z_b2 (fun c25 => ?_) (fun c25 => ?_)
    · have c25 : x7.toInt ≠ x24.toInt := c25
      refine gw_skip _ ?_
      have hw2_ : (bkW (tI (ez_I h 3)) (ez_I h 2 1).toInt.toNat fr.toInt.toNat (to.toInt.toNat - fr.toInt.toNat) s0.2) = 2 := by omega
      refine gw_ld rfl rfl ?_
      refine z_gR (q := 55) (zT S15 (by decide) rfl) (zRf S15 (by decide) (by decide) rfl) (by decide) ?_
      refine gw_ld rfl rfl ?_
      refine gw_ld rfl rfl ?_
      refine z_gR (q := 14) (zT S15 (by decide) rfl) (zRf S15 (by decide) (by decide) rfl) (by decide) ?_
      have t26 := congrArg Int32.toInt (f20)
      have t27 := congrArg Int32.toInt (f21)
      refine z_cl rfl rfl rfl rfl rfl rfl rfl rfl rfl rfl rfl (zT S15 (by decide) rfl) ?_
      refine c_keep (k := k) S15 (by rw [(show ez_I h11 55 2 = ez_I h 55 2 from zW_f F16 x66_4 x66_5)]; omega) (fun h28 F29 k30 k31 k32 k33 => ?_)
      rw [(show ez_I h11 30 = ez_I h 30 from zW_fn F16 30 x66_6 x66_7)] at k30
      rw [(show ez_I h11 37 = ez_I h 37 from zW_fn F16 37 x66_8 x66_9)] at k31
      rw [(show ez_I h11 44 = ez_I h 44 from zW_fn F16 44 x66_10 x66_11)] at k32
      rw [A22] at k33
      have S34 := zW_sh F29 S15
      have F35 := zW_tr F16 (zW_mono F29 (x66_12) (x66_13) (x66_2))
      have f36 : ez_I h28 68 1 = (ez_I h11 68 1) := (zW_f F29 (by decide) (fun c => c)).trans (rfl)
      have f37 : ez_I h28 68 2 = (ez_I h11 68 2) := (zW_f F29 (by decide) (fun c => c)).trans (rfl)
      have f38 : ez_I h28 50 1 = (ez_I h11 50 1) := (zW_f F29 (by decide) (fun c => c)).trans (rfl)
      have f39 : ez_I h28 29 4 = (ez_I h 29 4) := (zW_f F29 (by decide) (fun c => c)).trans (f20)
      have f40 : ez_I h28 36 4 = (ez_I h 36 4) := (zW_f F29 (by decide) (fun c => c)).trans (f21)
      have A41 : stC (ez_I h28 51) (ez_I h28 50 1).toInt (ez_I h28 68 1).toInt (ez_I h28 68 2).toInt (bk1 (tI (ez_I h 3)) (ez_I h 2 1).toInt.toNat fr.toInt.toNat (to.toInt.toNat - fr.toInt.toNat) l s0) := by rw [zW_fn F29 51 (by decide) (fun _ c => c), zW_fn F29 50 (by decide) (fun _ c => c), zW_fn F29 68 (by decide) (fun _ c => c)]; exact hst
      refine gw_ld rfl rfl ?_
      refine z_gR (q := 14) (zT S34 (by decide) rfl) (zRf S34 (by decide) (by decide) rfl) (by decide) ?_
      refine z_gR (q := 29) (zT S34 (by decide) rfl) (zRf S34 (by decide) (by decide) rfl) (by decide) ?_
      have t42 := congrArg Int32.toInt (f36)
      have t43 := congrArg Int32.toInt (f37)
      have t44 := congrArg Int32.toInt (f38)
      have t45 := congrArg Int32.toInt (f39)
      have t46 := congrArg Int32.toInt (f40)
      refine z_cl rfl rfl rfl rfl rfl rfl rfl rfl rfl rfl rfl (zT S34 (by decide) rfl) ?_
      have y29 := (show ez_I h28 30 = ez_I h 30 from zW_fn F35 30 x66_6 x66_7)
      refine c_settle (p := 29) S34 (by decide) (show aR (ez_I h28 30) 288 0 15 by rw [y29]; exact a30) (fun h47 F48 k49 k50 k51 k52 => ?_)
      have wd29 : wdI (ez_I h47 31) (nL (ez_I h 30)) 288 288 := by rw [← y29]; exact k51
      have S53 := zW_sh F48 S34
      have F54 := zW_tr F35 (zW_mono F48 (x66_14) (x66_15) (x66_2))
      have f55 : ez_I h47 68 1 = (ez_I h11 68 1) := (zW_f F48 (by decide) (by decide)).trans (f36)
      have f56 : ez_I h47 68 2 = (ez_I h11 68 2) := (zW_f F48 (by decide) (by decide)).trans (f37)
      have f57 : ez_I h47 50 1 = (ez_I h11 50 1) := (zW_f F48 (by decide) (by decide)).trans (f38)
      have r58 := z_rng (ez_I h47 29 4)
      have f59 : ez_I h47 36 4 = (ez_I h 36 4) := (zW_f F48 (by decide) (by decide)).trans (f40)
      have A60 : stC (ez_I h47 51) (ez_I h47 50 1).toInt (ez_I h47 68 1).toInt (ez_I h47 68 2).toInt (bk1 (tI (ez_I h 3)) (ez_I h 2 1).toInt.toNat fr.toInt.toNat (to.toInt.toNat - fr.toInt.toNat) l s0) := by rw [zW_fn F48 51 (by decide) (x66_16), zW_fn F48 50 (by decide) (x66_17), zW_fn F48 68 (by decide) (x66_18)]; exact A41
      have A61 : (∀ s, s < 286 → ez_I h47 57 ((335 * k.toInt).toNat + s) = ez_I h 30 s) := by rw [zW_fn F48 57 (by decide) (x66_19)]; exact k30
      have A62 : (∀ s, s < 30 → ez_I h47 57 ((335 * k.toInt).toNat + 286 + s) = ez_I h 37 s) := by rw [zW_fn F48 57 (by decide) (x66_19)]; exact k31
      have A63 : (∀ s, s < 19 → ez_I h47 57 ((335 * k.toInt).toNat + 316 + s) = ez_I h 44 s) := by rw [zW_fn F48 57 (by decide) (x66_19)]; exact k32
      have A64 : (∀ j, (j < (335 * k.toInt).toNat ∨ (335 * k.toInt).toNat + 335 ≤ j) → ez_I h47 57 j = ez_I h 57 j) := by rw [zW_fn F48 57 (by decide) (x66_19)]; exact k33
      clear A41
      refine gw_ld rfl rfl ?_
      refine z_gR (q := 14) (zT S53 (by decide) rfl) (zRf S53 (by decide) (by decide) rfl) (by decide) ?_
      refine z_gR (q := 36) (zT S53 (by decide) rfl) (zRf S53 (by decide) (by decide) rfl) (by decide) ?_
      have t65 := congrArg Int32.toInt (f55)
      have t66 := congrArg Int32.toInt (f56)
      have t67 := congrArg Int32.toInt (f57)
      have t68 := congrArg Int32.toInt (f59)
      refine z_cl rfl rfl rfl rfl rfl rfl rfl rfl rfl rfl rfl (zT S53 (by decide) rfl) ?_
      have y36 := (show ez_I h47 37 = ez_I h 37 from zW_fn F54 37 x66_8 x66_9)
      refine c_settle (p := 36) S53 (by decide) (show aR (ez_I h47 37) 288 0 15 by rw [y36]; exact a37) (fun h69 F70 k71 k72 k73 k74 => ?_)
      have wd36 : wdI (ez_I h69 38) (nL (ez_I h 37)) 288 288 := by rw [← y36]; exact k73
      have S75 := zW_sh F70 S53
      have F76 := zW_tr F54 (zW_mono F70 (x66_20) (x66_21) (x66_2))
      have f77 : ez_I h69 68 1 = (ez_I h11 68 1) := (zW_f F70 (by decide) (by decide)).trans (f55)
      have f78 : ez_I h69 68 2 = (ez_I h11 68 2) := (zW_f F70 (by decide) (by decide)).trans (f56)
      have f79 : ez_I h69 50 1 = (ez_I h11 50 1) := (zW_f F70 (by decide) (by decide)).trans (f57)
      have f80 : ez_I h69 29 4 = (ez_I h47 29 4) := (zW_f F70 (by decide) (by decide)).trans (rfl)
      have r81 := z_rng (ez_I h69 36 4)
      have A82 : stC (ez_I h69 51) (ez_I h69 50 1).toInt (ez_I h69 68 1).toInt (ez_I h69 68 2).toInt (bk1 (tI (ez_I h 3)) (ez_I h 2 1).toInt.toNat fr.toInt.toNat (to.toInt.toNat - fr.toInt.toNat) l s0) := by rw [zW_fn F70 51 (by decide) (x66_22), zW_fn F70 50 (by decide) (x66_23), zW_fn F70 68 (by decide) (x66_24)]; exact A60
      have A83 : (∀ s, s < 286 → ez_I h69 57 ((335 * k.toInt).toNat + s) = ez_I h 30 s) := by rw [zW_fn F70 57 (by decide) (x66_25)]; exact A61
      have A84 : (∀ s, s < 30 → ez_I h69 57 ((335 * k.toInt).toNat + 286 + s) = ez_I h 37 s) := by rw [zW_fn F70 57 (by decide) (x66_25)]; exact A62
      have A85 : (∀ s, s < 19 → ez_I h69 57 ((335 * k.toInt).toNat + 316 + s) = ez_I h 44 s) := by rw [zW_fn F70 57 (by decide) (x66_25)]; exact A63
      have A86 : (∀ j, (j < (335 * k.toInt).toNat ∨ (335 * k.toInt).toNat + 335 ≤ j) → ez_I h69 57 j = ez_I h 57 j) := by rw [zW_fn F70 57 (by decide) (x66_25)]; exact A64
      have A87 : wdI (ez_I h69 31) (nL (ez_I h 30)) 288 288 := by rw [zW_fn F70 31 (by decide) (x66_26)]; exact wd29
      clear A60
      clear A61
      clear A62
      clear A63
      clear A64
      refine gw_ld rfl rfl ?_
      refine z_gR (q := 61) (zT S75 (by decide) rfl) (zRf S75 (by decide) (by decide) rfl) (by decide) ?_
      refine gw_ld rfl rfl ?_
      refine z_gR (q := 14) (zT S75 (by decide) rfl) (zRf S75 (by decide) (by decide) rfl) (by decide) ?_
      refine z_gR (q := 43) (zT S75 (by decide) rfl) (zRf S75 (by decide) (by decide) rfl) (by decide) ?_
      refine gw_ld rfl rfl ?_
      refine z_gR (q := 68) (zT S75 (by decide) rfl) (zRf S75 (by decide) (by decide) rfl) (by decide) ?_
      have t88 := congrArg Int32.toInt (f77)
      have t89 := congrArg Int32.toInt (f78)
      have t90 := congrArg Int32.toInt (f79)
      have t91 := congrArg Int32.toInt (f80)
      refine z_cl rfl rfl rfl rfl rfl rfl rfl rfl rfl rfl rfl (zT S75 (by decide) rfl) ?_
      have g61 := (show ez_I h69 61 = ez_I h 61 from zW_fn F76 61 x66_27 x66_28)
      have g63 := (show ez_I h69 63 = ez_I h 63 from zW_fn F76 63 x66_29 x66_30)
      have g64 := (show ez_I h69 64 = ez_I h 64 from zW_fn F76 64 x66_31 x66_32)
      have g44 := (show ez_I h69 44 = ez_I h 44 from zW_fn F76 44 x66_10 x66_11)
      have g45 := (show ez_I h69 45 = ez_I h 45 from zW_fn F76 45 x66_33 x66_34)
      have g30 := (show ez_I h69 30 = ez_I h 30 from zW_fn F76 30 x66_6 x66_7)
      have g37 := (show ez_I h69 37 = ez_I h 37 from zW_fn F76 37 x66_8 x66_9)
      have b30 : ∀ k, k < 286 → nL (ez_I h 30) k ≤ 15 := fun k hk => by have := a30 k (by omega); show (ez_I h 30 k).toInt.toNat ≤ 15; omega
      have b37 : ∀ k, k < 30 → nL (ez_I h 37) k ≤ 15 := fun k hk => by have := a37 k (by omega); show (ez_I h 37 k).toInt.toNat ≤ 15; omega
      have hcl := bkH_cl (T := (tI (ez_I h 3))) (n := (ez_I h 2 1).toInt.toNat) (a := fr.toInt.toNat) (j := (to.toInt.toNat - fr.toInt.toNat)) (s := (bk1 (tI (ez_I h 3)) (ez_I h 2 1).toInt.toNat fr.toInt.toNat (to.toInt.toNat - fr.toInt.toNat) l s0)) hpp (fun k hk => e30 k (by omega)) (fun k hk => e37 k (by omega)) b30 b37
      obtain ⟨hcc, hcs, hct⟩ := hcl
      obtain ⟨p1, p2, p5, p7, ptp, plt, pte, pA, pa, pu, pw⟩ := hpp
      have hc3 := row_c b30 b37 plt
      have htd1 := tdM_rng (nL (ez_I h 30)) 257 29
      have htd2 := tdM_rng (nL (ez_I h 37)) 1 29
      have htd3 := tdM_rng (fun k => rowA (nL (ez_I h 30)) (nL (ez_I h 37)) cc (ORf k)) 4 15
      have hro : rowO (nL (ez_I h 30)) (nL (ez_I h 37)) cc = tdM (fun k => rowA (nL (ez_I h 30)) (nL (ez_I h 37)) cc (ORf k)) 4 15 := rfl
      have hh2 := bkH_2 (T := (tI (ez_I h 3))) (n := (ez_I h 2 1).toInt.toNat) (a := fr.toInt.toNat) (j := (to.toInt.toNat - fr.toInt.toNat)) (s := (bk1 (tI (ez_I h 3)) (ez_I h 2 1).toInt.toNat fr.toInt.toNat (to.toInt.toNat - fr.toInt.toNat) l s0)) hct
      have hb1 := (bk_w2 (l := l) hw2_).2
      have hb2 := bkB_le (T := (tI (ez_I h 3))) (n := (ez_I h 2 1).toInt.toNat) (a := fr.toInt.toNat) (j := (to.toInt.toNat - fr.toInt.toNat)) (z := s0.2)
      have hb3 : (bkDY (tI (ez_I h 3)) (ez_I h 2 1).toInt.toNat fr.toInt.toNat (to.toInt.toNat - fr.toInt.toNat)) = 3 + hdB (bkL (tI (ez_I h 3)) (ez_I h 2 1).toInt.toNat fr.toInt.toNat (to.toInt.toNat - fr.toInt.toNat)) (bkE (tI (ez_I h 3)) (ez_I h 2 1).toInt.toNat fr.toInt.toNat (to.toInt.toNat - fr.toInt.toNat)) (bkR (tI (ez_I h 3)) (ez_I h 2 1).toInt.toNat fr.toInt.toNat (to.toInt.toNat - fr.toInt.toNat)) + xB (aM (tI (ez_I h 3)) (ez_I h 2 1).toInt.toNat) (dI (tI (ez_I h 3)) (ez_I h 2 1).toInt.toNat) fr.toInt.toNat (to.toInt.toNat - fr.toInt.toNat) + sN (fun i => (bkD (tI (ez_I h 3)) (ez_I h 2 1).toInt.toNat fr.toInt.toNat (to.toInt.toNat - fr.toInt.toNat)) i * LNf (bkD (tI (ez_I h 3)) (ez_I h 2 1).toInt.toNat fr.toInt.toNat (to.toInt.toNat - fr.toInt.toNat)) 30 15 i) 30 + sN (fun i => (bkC (tI (ez_I h 3)) (ez_I h 2 1).toInt.toNat fr.toInt.toNat (to.toInt.toNat - fr.toInt.toNat)) i * (bkL (tI (ez_I h 3)) (ez_I h 2 1).toInt.toNat fr.toInt.toNat (to.toInt.toNat - fr.toInt.toNat)) i) 286 := rfl
      have hb4 := bk1_2 (tI (ez_I h 3)) (ez_I h 2 1).toInt.toNat fr.toInt.toNat (to.toInt.toNat - fr.toInt.toNat) l s0
      refine c_hwrite (s := (bk1 (tI (ez_I h 3)) (ez_I h 2 1).toInt.toNat fr.toInt.toNat (to.toInt.toNat - fr.toInt.toNat) l s0)) (f := (rowF (nL (ez_I h 30)) (nL (ez_I h 37)))) (M := (rowM (nL (ez_I h 30)) (nL (ez_I h 37)))) (c := cc) S75 hE A82 (by omega) (by rw [g61]; omega) (by rw [g61]; omega) (by rw [g63, g64]; exact pte) (fun i hi => tSX_ok plt (row15c b30 b37) hi) (by rw [g44]; exact fun k hk => by have := pa k hk; omega) (by rw [g44]; exact fun k hk => by have := pa k (by omega); omega) (wd_hW (f := ez_I h69 45) (g := ez_I h69 44) (by rw [g45, g44]; exact pw)) (fun i hi => by rw [g44]; exact pu _ (by have := (tSX_ok plt (row15c b30 b37) hi).1; omega) (tC_pos cc i hi)) (by rw [g61, g44, g45, hcs]; omega) (fun h92 F93 k94 k95 => ?_)
      rw [g61, g44, g45, hcs] at k94
      have S96 := zW_sh F93 S75
      have F97 := zW_tr F76 (zW_mono F93 (x66_0) (x66_1) (x66_2))
      have r98 := z_rng (ez_I h92 68 1)
      have r99 := z_rng (ez_I h92 68 2)
      have r100 := z_rng (ez_I h92 50 1)
      have f101 : ez_I h92 29 4 = (ez_I h47 29 4) := (zW_f F93 (by decide) (by decide)).trans (f80)
      have f102 : ez_I h92 36 4 = (ez_I h69 36 4) := (zW_f F93 (by decide) (by decide)).trans (rfl)
      have A103 : (∀ s, s < 286 → ez_I h92 57 ((335 * k.toInt).toNat + s) = ez_I h 30 s) := by rw [zW_fn F93 57 (by decide) (x66_3)]; exact A83
      have A104 : (∀ s, s < 30 → ez_I h92 57 ((335 * k.toInt).toNat + 286 + s) = ez_I h 37 s) := by rw [zW_fn F93 57 (by decide) (x66_3)]; exact A84
      have A105 : (∀ s, s < 19 → ez_I h92 57 ((335 * k.toInt).toNat + 316 + s) = ez_I h 44 s) := by rw [zW_fn F93 57 (by decide) (x66_3)]; exact A85
      have A106 : (∀ j, (j < (335 * k.toInt).toNat ∨ (335 * k.toInt).toNat + 335 ≤ j) → ez_I h92 57 j = ez_I h 57 j) := by rw [zW_fn F93 57 (by decide) (x66_3)]; exact A86
      have A107 : wdI (ez_I h92 31) (nL (ez_I h 30)) 288 288 := by rw [zW_fn F93 31 (by decide) (x66_35)]; exact A87
      have A108 : wdI (ez_I h92 38) (nL (ez_I h 37)) 288 288 := by rw [zW_fn F93 38 (by decide) (x66_36)]; exact wd36
      clear A83
      clear A84
      clear A85
      clear A86
      clear A87
      refine gw_ld rfl rfl ?_
      refine gw_ld rfl rfl ?_
      refine gw_ld rfl rfl ?_
      refine gw_ld rfl rfl ?_
      refine z_gR (q := 14) (zT S96 (by decide) rfl) (zRf S96 (by decide) (by decide) rfl) (by decide) ?_
      refine z_gR (q := 29) (zT S96 (by decide) rfl) (zRf S96 (by decide) (by decide) rfl) (by decide) ?_
      refine gw_ld rfl rfl ?_
      refine z_gR (q := 14) (zT S96 (by decide) rfl) (zRf S96 (by decide) (by decide) rfl) (by decide) ?_
      refine z_gR (q := 36) (zT S96 (by decide) rfl) (zRf S96 (by decide) (by decide) rfl) (by decide) ?_
      have t109 := congrArg Int32.toInt (f101)
      have t110 := congrArg Int32.toInt (f102)
      refine z_cl rfl rfl rfl rfl rfl rfl rfl rfl rfl rfl rfl (zT S96 (by decide) rfl) ?_
      have q30 := (show ez_I h92 30 = ez_I h 30 from zW_fn F97 30 x66_6 x66_7)
      have q37 := (show ez_I h92 37 = ez_I h 37 from zW_fn F97 37 x66_8 x66_9)
      have hL_ : ∀ k, k < 286 → nL (ez_I h92 30) k = (bkL (tI (ez_I h 3)) (ez_I h 2 1).toInt.toNat fr.toInt.toNat (to.toInt.toNat - fr.toInt.toNat)) k := fun k hk => by rw [q30]; exact e30 k (by omega)
      have hW_ : ∀ k, k < 286 → 1 ≤ (bkL (tI (ez_I h 3)) (ez_I h 2 1).toInt.toNat fr.toInt.toNat (to.toInt.toNat - fr.toInt.toNat)) k → nL (ez_I h92 31) k = cdN (bkL (tI (ez_I h 3)) (ez_I h 2 1).toInt.toNat fr.toInt.toNat (to.toInt.toNat - fr.toInt.toNat)) 288 k := fun k hk h1 => wd_nL A107 (by decide) (by decide) e30 (fun l _ => ctN_congr 288 e30) k (by omega) h1
      have hE_ : ∀ k, k < 30 → nL (ez_I h92 37) k = (bkE (tI (ez_I h 3)) (ez_I h 2 1).toInt.toNat fr.toInt.toNat (to.toInt.toNat - fr.toInt.toNat)) k := fun k hk => by rw [q37]; exact e37 k (by omega)
      have hV_ : ∀ k, k < 30 → 1 ≤ (bkE (tI (ez_I h 3)) (ez_I h 2 1).toInt.toNat fr.toInt.toNat (to.toInt.toNat - fr.toInt.toNat)) k → nL (ez_I h92 38) k = cdN (bkE (tI (ez_I h 3)) (ez_I h 2 1).toInt.toNat fr.toInt.toNat (to.toInt.toNat - fr.toInt.toNat)) 288 k := fun k hk h1 => wd_nL A108 (by decide) (by decide) e37 (fun l _ => ctN_congr 288 e37) k (by omega) h1
      have u1_ : ∀ i, i < (to.toInt.toNat - fr.toInt.toNat) → 1 ≤ (bkL (tI (ez_I h 3)) (ez_I h 2 1).toInt.toNat fr.toInt.toNat (to.toInt.toNat - fr.toInt.toNat)) (lSy (aM (tI (ez_I h 3)) (ez_I h 2 1).toInt.toNat) (dI (tI (ez_I h 3)) (ez_I h 2 1).toInt.toNat) (fr.toInt.toNat + i)) := fun i hi => by have h8 := (lSy_lt hT hlt (k := fr.toInt.toNat + i) (by omega)).1; rw [← e30 _ (by omega)]; exact u30 _ h8 (bkC_pos hi)
      have u2_ : ∀ i, i < (to.toInt.toNat - fr.toInt.toNat) → (dI (tI (ez_I h 3)) (ez_I h 2 1).toInt.toNat) (fr.toInt.toNat + i) ≠ 0 → 1 ≤ (bkE (tI (ez_I h 3)) (ez_I h 2 1).toInt.toNat fr.toInt.toNat (to.toInt.toNat - fr.toInt.toNat)) (kD ((dI (tI (ez_I h 3)) (ez_I h 2 1).toInt.toNat) (fr.toInt.toNat + i))) := fun i hi q => by have h8 := (lSy_lt hT hlt (k := fr.toInt.toNat + i) (by omega)).2 q; rw [← e37 _ (by omega)]; exact u37 _ h8 (bkD_pos hi q)
      have u3_ : 1 ≤ (bkL (tI (ez_I h 3)) (ez_I h 2 1).toInt.toNat fr.toInt.toNat (to.toInt.toNat - fr.toInt.toNat)) 256 := by rw [← e30 256 (by decide)]; exact u30 256 (by decide) (cL_256 _ _ _ _)
      have v1_ : ∀ i, i < (to.toInt.toNat - fr.toInt.toNat) → 1 ≤ nL (ez_I h92 30) (lSy (aM (tI (ez_I h 3)) (ez_I h 2 1).toInt.toNat) (dI (tI (ez_I h 3)) (ez_I h 2 1).toInt.toNat) (fr.toInt.toNat + i)) := fun i hi => by rw [hL_ _ ((lSy_lt hT hlt (k := fr.toInt.toNat + i) (by omega)).1)]; exact u1_ i hi
      have v2_ : ∀ i, i < (to.toInt.toNat - fr.toInt.toNat) → (dI (tI (ez_I h 3)) (ez_I h 2 1).toInt.toNat) (fr.toInt.toNat + i) ≠ 0 → 1 ≤ nL (ez_I h92 37) (kD ((dI (tI (ez_I h 3)) (ez_I h 2 1).toInt.toNat) (fr.toInt.toNat + i))) := fun i hi q => by rw [hE_ _ ((lSy_lt hT hlt (k := fr.toInt.toNat + i) (by omega)).2 q)]; exact u2_ i hi q
      have hpb := bkP_cl (s := (bkH (tI (ez_I h 3)) (ez_I h 2 1).toInt.toNat fr.toInt.toNat (to.toInt.toNat - fr.toInt.toNat) (bk1 (tI (ez_I h 3)) (ez_I h 2 1).toInt.toNat fr.toInt.toNat (to.toInt.toNat - fr.toInt.toNat) l s0))) (W1 := nL (ez_I h92 31)) (L1 := nL (ez_I h92 30)) (W2 := nL (ez_I h92 38)) (L2 := nL (ez_I h92 37)) (L := (bkL (tI (ez_I h 3)) (ez_I h 2 1).toInt.toNat fr.toInt.toNat (to.toInt.toNat - fr.toInt.toNat))) (E := (bkE (tI (ez_I h 3)) (ez_I h 2 1).toInt.toNat fr.toInt.toNat (to.toInt.toNat - fr.toInt.toNat))) (N := 0) (M := 0) hT hlt (show fr.toInt.toNat + (to.toInt.toNat - fr.toInt.toNat) ≤ c by omega) hL_ hW_ hE_ hV_ u1_ u2_ u3_
      have hp2 := bkP_2 (T := (tI (ez_I h 3))) (n := (ez_I h 2 1).toInt.toNat) (a := fr.toInt.toNat) (j := (to.toInt.toNat - fr.toInt.toNat)) (L := (bkL (tI (ez_I h 3)) (ez_I h 2 1).toInt.toNat fr.toInt.toNat (to.toInt.toNat - fr.toInt.toNat))) (E := (bkE (tI (ez_I h 3)) (ez_I h 2 1).toInt.toNat fr.toInt.toNat (to.toInt.toNat - fr.toInt.toNat))) (s := (bkH (tI (ez_I h 3)) (ez_I h 2 1).toInt.toNat fr.toInt.toNat (to.toInt.toNat - fr.toInt.toNat) (bk1 (tI (ez_I h 3)) (ez_I h 2 1).toInt.toNat fr.toInt.toNat (to.toInt.toNat - fr.toInt.toNat) l s0))) hT hlt (by omega)
      have hld := LD_sum (bkD (tI (ez_I h 3)) (ez_I h 2 1).toInt.toNat fr.toInt.toNat (to.toInt.toNat - fr.toInt.toNat))
      have hld2 : sN (fun i => (bkD (tI (ez_I h 3)) (ez_I h 2 1).toInt.toNat fr.toInt.toNat (to.toInt.toNat - fr.toInt.toNat)) i * (bkE (tI (ez_I h 3)) (ez_I h 2 1).toInt.toNat fr.toInt.toNat (to.toInt.toNat - fr.toInt.toNat)) i) 30 = sN (fun i => (bkD (tI (ez_I h 3)) (ez_I h 2 1).toInt.toNat fr.toInt.toNat (to.toInt.toNat - fr.toInt.toNat)) i * LNf (bkD (tI (ez_I h 3)) (ez_I h 2 1).toInt.toNat fr.toInt.toNat (to.toInt.toNat - fr.toInt.toNat)) 30 15 i) 30 := hld
      refine c_wParts (am := (aM (tI (ez_I h 3)) (ez_I h 2 1).toInt.toNat)) (di := (dI (tI (ez_I h 3)) (ez_I h 2 1).toInt.toNat)) (c := c) (s := (bkH (tI (ez_I h 3)) (ez_I h 2 1).toInt.toNat fr.toInt.toNat (to.toInt.toNat - fr.toInt.toNat) (bk1 (tI (ez_I h 3)) (ez_I h 2 1).toInt.toNat fr.toInt.toNat (to.toInt.toNat - fr.toInt.toNat) l s0))) (fr := fr) (to := to) (p := 29) (q := 36) S96 hE (by decide) (by decide) k94 k95 (by rw [(show ez_I h92 53 1 = ez_I h 53 1 from zW_f F97 x66_37 x66_38)]; exact hc) (by rw [(show ez_I h92 54 = ez_I h 54 from zW_fn F97 54 x66_39 x66_40)]; exact hpq) (by omega) (show aR (ez_I h92 30) 288 0 15 by rw [q30]; exact a30) (show aR (ez_I h92 37) 288 0 15 by rw [q37]; exact a37) (wd_hW (f := ez_I h92 31) (g := ez_I h92 30) (by rw [q30]; exact A107)) (wd_hW (f := ez_I h92 38) (g := ez_I h92 37) (by rw [q37]; exact A108)) (fun k hk => by have q9 := k - fr.toInt.toNat; exact ⟨by have h9 := v1_ (k - fr.toInt.toNat) (by omega); rw [show fr.toInt.toNat + (k - fr.toInt.toNat) = k by omega] at h9; exact h9, fun q => by have h9 := v2_ (k - fr.toInt.toNat) (by omega); rw [show fr.toInt.toNat + (k - fr.toInt.toNat) = k by omega] at h9; exact h9 q⟩) (show 1 ≤ nL (ez_I h92 30) 256 by rw [hL_ 256 (by decide)]; exact u3_) (by rw [hpb]; omega) (fun h111 F112 k113 k114 => ?_)
      rw [hpb] at k113
      have hsf : stC (ez_I h111 51) (ez_I h111 50 1).toInt (ez_I h111 68 1).toInt (ez_I h111 68 2).toInt (bkS (tI (ez_I h 3)) (ez_I h 2 1).toInt.toNat fr.toInt.toNat (to.toInt.toNat - fr.toInt.toNat) l s0) := by rw [(bk_w2 hw2_).1]; exact k113
      have S115 := zW_sh F112 S96
      have F116 := zW_tr F97 (zW_mono F112 (x66_0) (x66_1) (x66_2))
      have r117 := z_rng (ez_I h111 68 1)
      have r118 := z_rng (ez_I h111 68 2)
      have r119 := z_rng (ez_I h111 50 1)
      have f120 : ez_I h111 29 4 = (ez_I h47 29 4) := (zW_f F112 (by decide) (by decide)).trans (f101)
      have f121 : ez_I h111 36 4 = (ez_I h69 36 4) := (zW_f F112 (by decide) (by decide)).trans (f102)
      have A122 : (∀ s, s < 286 → ez_I h111 57 ((335 * k.toInt).toNat + s) = ez_I h 30 s) := by rw [zW_fn F112 57 (by decide) (x66_3)]; exact A103
      have A123 : (∀ s, s < 30 → ez_I h111 57 ((335 * k.toInt).toNat + 286 + s) = ez_I h 37 s) := by rw [zW_fn F112 57 (by decide) (x66_3)]; exact A104
      have A124 : (∀ s, s < 19 → ez_I h111 57 ((335 * k.toInt).toNat + 316 + s) = ez_I h 44 s) := by rw [zW_fn F112 57 (by decide) (x66_3)]; exact A105
      have A125 : (∀ j, (j < (335 * k.toInt).toNat ∨ (335 * k.toInt).toNat + 335 ≤ j) → ez_I h111 57 j = ez_I h 57 j) := by rw [zW_fn F112 57 (by decide) (x66_3)]; exact A106
      have A126 : wdI (ez_I h111 31) (nL (ez_I h 30)) 288 288 := by rw [zW_fn F112 31 (by decide) (x66_35)]; exact A107
      have A127 : wdI (ez_I h111 38) (nL (ez_I h 37)) 288 288 := by rw [zW_fn F112 38 (by decide) (x66_36)]; exact A108
      clear A103
      clear A104
      clear A105
      clear A106
      clear A107
      clear A108
      refine z_rv ?_
      have t128 := congrArg Int32.toInt (f120)
      have t129 := congrArg Int32.toInt (f121)
      exact K _ F116 hsf k114 (fun _ => ⟨A122, A123, A124⟩) A125
    · have c25 : ¬ (x7.toInt ≠ x24.toInt) := c25
      have hw1 : (bkW (tI (ez_I h 3)) (ez_I h 2 1).toInt.toNat fr.toInt.toNat (to.toInt.toNat - fr.toInt.toNat) s0.2) = 1 := by omega
      refine gw_ld rfl rfl ?_
      refine gw_ld rfl rfl ?_
      refine gw_ld rfl rfl ?_
      refine gw_ld rfl rfl ?_
      refine z_gR (q := 14) (zT S15 (by decide) rfl) (zRf S15 (by decide) (by decide) rfl) (by decide) ?_
      refine z_gR (q := 15) (zT S15 (by decide) rfl) (zRf S15 (by decide) (by decide) rfl) (by decide) ?_
      refine gw_ld rfl rfl ?_
      refine z_gR (q := 14) (zT S15 (by decide) rfl) (zRf S15 (by decide) (by decide) rfl) (by decide) ?_
      refine z_gR (q := 22) (zT S15 (by decide) rfl) (zRf S15 (by decide) (by decide) rfl) (by decide) ?_
      have t130 := congrArg Int32.toInt (f20)
      have t131 := congrArg Int32.toInt (f21)
      refine z_cl rfl rfl rfl rfl rfl rfl rfl rfl rfl rfl rfl (zT S15 (by decide) rfl) ?_
      have g16 := (show ez_I h11 16 = ez_I h 16 from zW_fn F16 16 x66_41 x66_42)
      have g17 := (show ez_I h11 17 = ez_I h 17 from zW_fn F16 17 x66_43 x66_44)
      have g23 := (show ez_I h11 23 = ez_I h 23 from zW_fn F16 23 x66_45 x66_46)
      have g24 := (show ez_I h11 24 = ez_I h 24 from zW_fn F16 24 x66_47 x66_48)
      have hL_ : ∀ k, k < 286 → nL (ez_I h11 16) k = fxL k := fun k hk => by rw [g16]; exact f16 k (by omega)
      have hW_ : ∀ k, k < 286 → 1 ≤ fxL k → nL (ez_I h11 17) k = cdN fxL 288 k := fun k hk h1 => by rw [g17]; exact wd_nL w17 (by decide) (by decide) f16 (fun l _ => ctN_congr 288 f16) k (by omega) h1
      have hE_ : ∀ k, k < 30 → nL (ez_I h11 23) k = fxD k := fun k hk => by rw [g23]; exact f23 k (by omega)
      have hV_ : ∀ k, k < 30 → 1 ≤ fxD k → nL (ez_I h11 24) k = cdN fxD 288 k := fun k hk h1 => by rw [g24]; exact wd_nL w24 (by decide) (by decide) f23 (fun l _ => ctN_congr 288 f23) k (by omega) h1
      have u1_ : ∀ i, i < (to.toInt.toNat - fr.toInt.toNat) → 1 ≤ fxL (lSy (aM (tI (ez_I h 3)) (ez_I h 2 1).toInt.toNat) (dI (tI (ez_I h 3)) (ez_I h 2 1).toInt.toNat) (fr.toInt.toNat + i)) := fun i _ => (fxL_1 _).1
      have u2_ : ∀ i, i < (to.toInt.toNat - fr.toInt.toNat) → (dI (tI (ez_I h 3)) (ez_I h 2 1).toInt.toNat) (fr.toInt.toNat + i) ≠ 0 → 1 ≤ fxD (kD ((dI (tI (ez_I h 3)) (ez_I h 2 1).toInt.toNat) (fr.toInt.toNat + i))) := fun i hi q => fxD_1 ((lSy_lt hT hlt (k := fr.toInt.toNat + i) (by omega)).2 q)
      have v1_ : ∀ i, i < (to.toInt.toNat - fr.toInt.toNat) → 1 ≤ nL (ez_I h11 16) (lSy (aM (tI (ez_I h 3)) (ez_I h 2 1).toInt.toNat) (dI (tI (ez_I h 3)) (ez_I h 2 1).toInt.toNat) (fr.toInt.toNat + i)) := fun i hi => by rw [hL_ _ ((lSy_lt hT hlt (k := fr.toInt.toNat + i) (by omega)).1)]; exact u1_ i hi
      have v2_ : ∀ i, i < (to.toInt.toNat - fr.toInt.toNat) → (dI (tI (ez_I h 3)) (ez_I h 2 1).toInt.toNat) (fr.toInt.toNat + i) ≠ 0 → 1 ≤ nL (ez_I h11 23) (kD ((dI (tI (ez_I h 3)) (ez_I h 2 1).toInt.toNat) (fr.toInt.toNat + i))) := fun i hi q => by rw [hE_ _ ((lSy_lt hT hlt (k := fr.toInt.toNat + i) (by omega)).2 q)]; exact u2_ i hi q
      have hpb := bkP_cl (s := (bk1 (tI (ez_I h 3)) (ez_I h 2 1).toInt.toNat fr.toInt.toNat (to.toInt.toNat - fr.toInt.toNat) l s0)) (W1 := nL (ez_I h11 17)) (L1 := nL (ez_I h11 16)) (W2 := nL (ez_I h11 24)) (L2 := nL (ez_I h11 23)) (L := fxL) (E := fxD) (N := 0) (M := 0) hT hlt (show fr.toInt.toNat + (to.toInt.toNat - fr.toInt.toNat) ≤ c by omega) hL_ hW_ hE_ hV_ u1_ u2_ (fxL_1 256).1
      have hp2 := bkP_2 (T := (tI (ez_I h 3))) (n := (ez_I h 2 1).toInt.toNat) (a := fr.toInt.toNat) (j := (to.toInt.toNat - fr.toInt.toNat)) (L := fxL) (E := fxD) (s := (bk1 (tI (ez_I h 3)) (ez_I h 2 1).toInt.toNat fr.toInt.toNat (to.toInt.toNat - fr.toInt.toNat) l s0)) hT hlt (by omega)
      have hb1 := (bk_w1 (l := l) hw1).2
      have hb2 := bkB_le (T := (tI (ez_I h 3))) (n := (ez_I h 2 1).toInt.toNat) (a := fr.toInt.toNat) (j := (to.toInt.toNat - fr.toInt.toNat)) (z := s0.2)
      have hb3 : (bkFX (tI (ez_I h 3)) (ez_I h 2 1).toInt.toNat fr.toInt.toNat (to.toInt.toNat - fr.toInt.toNat)) = 3 + xB (aM (tI (ez_I h 3)) (ez_I h 2 1).toInt.toNat) (dI (tI (ez_I h 3)) (ez_I h 2 1).toInt.toNat) fr.toInt.toNat (to.toInt.toNat - fr.toInt.toNat) + sN (fun i => (bkC (tI (ez_I h 3)) (ez_I h 2 1).toInt.toNat fr.toInt.toNat (to.toInt.toNat - fr.toInt.toNat)) i * fxL i) 286 + sN (fun i => (bkD (tI (ez_I h 3)) (ez_I h 2 1).toInt.toNat fr.toInt.toNat (to.toInt.toNat - fr.toInt.toNat)) i * fxD i) 30 := rfl
      have hb4 := bk1_2 (tI (ez_I h 3)) (ez_I h 2 1).toInt.toNat fr.toInt.toNat (to.toInt.toNat - fr.toInt.toNat) l s0
      refine c_wParts (am := (aM (tI (ez_I h 3)) (ez_I h 2 1).toInt.toNat)) (di := (dI (tI (ez_I h 3)) (ez_I h 2 1).toInt.toNat)) (c := c) (s := (bk1 (tI (ez_I h 3)) (ez_I h 2 1).toInt.toNat fr.toInt.toNat (to.toInt.toNat - fr.toInt.toNat) l s0)) (fr := fr) (to := to) (p := 15) (q := 22) S15 hE (by decide) (by decide) hst k14 (by rw [(show ez_I h11 53 1 = ez_I h 53 1 from zW_f F16 x66_37 x66_38)]; exact hc) (by rw [(show ez_I h11 54 = ez_I h 54 from zW_fn F16 54 x66_39 x66_40)]; exact hpq) (by omega) (show aR (ez_I h11 16) 288 0 15 by rw [g16]; exact a16) (show aR (ez_I h11 23) 288 0 15 by rw [g23]; exact a23) (wd_hW (f := ez_I h11 17) (g := ez_I h11 16) (by rw [g17, g16]; exact w17)) (wd_hW (f := ez_I h11 24) (g := ez_I h11 23) (by rw [g24, g23]; exact w24)) (fun k hk => by have q9 := k - fr.toInt.toNat; exact ⟨by have h9 := v1_ (k - fr.toInt.toNat) (by omega); rw [show fr.toInt.toNat + (k - fr.toInt.toNat) = k by omega] at h9; exact h9, fun q => by have h9 := v2_ (k - fr.toInt.toNat) (by omega); rw [show fr.toInt.toNat + (k - fr.toInt.toNat) = k by omega] at h9; exact h9 q⟩) (show 1 ≤ nL (ez_I h11 16) 256 by rw [hL_ 256 (by decide)]; exact (fxL_1 256).1) (by rw [hpb]; omega) (fun h132 F133 k134 k135 => ?_)
      rw [hpb] at k134
      have hsf : stC (ez_I h132 51) (ez_I h132 50 1).toInt (ez_I h132 68 1).toInt (ez_I h132 68 2).toInt (bkS (tI (ez_I h 3)) (ez_I h 2 1).toInt.toNat fr.toInt.toNat (to.toInt.toNat - fr.toInt.toNat) l s0) := by rw [(bk_w1 hw1).1]; exact k134
      have S136 := zW_sh F133 S15
      have F137 := zW_tr F16 (zW_mono F133 (x66_0) (x66_1) (x66_2))
      have r138 := z_rng (ez_I h132 68 1)
      have r139 := z_rng (ez_I h132 68 2)
      have r140 := z_rng (ez_I h132 50 1)
      have f141 : ez_I h132 29 4 = (ez_I h 29 4) := (zW_f F133 (by decide) (by decide)).trans (f20)
      have f142 : ez_I h132 36 4 = (ez_I h 36 4) := (zW_f F133 (by decide) (by decide)).trans (f21)
      have A143 : ez_I h132 57 = ez_I h 57 := by rw [zW_fn F133 57 (by decide) (x66_3)]; exact A22
      clear A22
      refine z_go ?_
      refine gw_skip _ ?_
      refine z_rv ?_
      have t144 := congrArg Int32.toInt (f141)
      have t145 := congrArg Int32.toInt (f142)
      exact K _ F137 hsf k135 (fun q => by exfalso; omega) (fun j _ => congrFun A143 j)
  · have c23 : ¬ (x7.toInt ≠ 0) := c23
    have hw0 : (bkW (tI (ez_I h 3)) (ez_I h 2 1).toInt.toNat fr.toInt.toNat (to.toInt.toNat - fr.toInt.toNat) s0.2) = 0 := by omega
    refine gw_ld rfl rfl ?_
    refine gw_ld rfl rfl ?_
    refine gw_ld rfl rfl ?_
    have t146 := congrArg Int32.toInt (f20)
    have t147 := congrArg Int32.toInt (f21)
    refine z_cl rfl rfl rfl rfl rfl rfl rfl rfl rfl rfl rfl (zT S15 (by decide) rfl) ?_
    have hby := bY_pt (T := (tI (ez_I h 3))) (n := (ez_I h 2 1).toInt.toNat) (a := fr.toInt.toNat) hT hlt (to.toInt.toNat - fr.toInt.toNat) (by omega)
    have hbk : (bkY (tI (ez_I h 3)) (ez_I h 2 1).toInt.toNat fr.toInt.toNat (to.toInt.toNat - fr.toInt.toNat)) = bY (aM (tI (ez_I h 3)) (ez_I h 2 1).toInt.toNat) (dI (tI (ez_I h 3)) (ez_I h 2 1).toInt.toNat) fr.toInt.toNat (to.toInt.toNat - fr.toInt.toNat) := rfl
    have hpk := ptP_k (T := (tI (ez_I h 3))) (n := (ez_I h 2 1).toInt.toNat) (fr.toInt.toNat + (to.toInt.toNat - fr.toInt.toNat)) (fun j hj => hlt j (by omega))
    refine c_wStored (s := (bk1 (tI (ez_I h 3)) (ez_I h 2 1).toInt.toNat fr.toInt.toNat (to.toInt.toNat - fr.toInt.toNat) l s0)) (b := pl) S15 hst k14 (by rw [(show ez_I h11 2 1 = ez_I h 2 1 from zW_f F16 x66_49 x66_50)]; exact hz) (by rw [(show ez_I h11 2 1 = ez_I h 2 1 from zW_f F16 x66_49 x66_50), (show ez_I h11 3 = ez_I h 3 from zW_fn F16 3 x66_51 x66_52)]; exact hb) (by rw [(show ez_I h11 52 11 = ez_I h 52 11 from zW_f F16 x66_53 x66_54), (show ez_I h11 2 1 = ez_I h 2 1 from zW_f F16 x66_49 x66_50)]; omega) (by rw [(show ez_I h11 52 11 = ez_I h 52 11 from zW_f F16 x66_53 x66_54), bk1_2]; omega) (fun h148 F149 k150 k151 => ?_)
    rw [(show ez_I h11 52 11 = ez_I h 52 11 from zW_f F16 x66_53 x66_54), (show ez_I h11 3 = ez_I h 3 from zW_fn F16 3 x66_51 x66_52), show (ez_I h 52 11).toInt.toNat = (bkY (tI (ez_I h 3)) (ez_I h 2 1).toInt.toNat fr.toInt.toNat (to.toInt.toNat - fr.toInt.toNat)) by omega, show pl.toInt.toNat = ptP (tI (ez_I h 3)) (ez_I h 2 1).toInt.toNat fr.toInt.toNat by omega] at k150
    have hsf : stC (ez_I h148 51) (ez_I h148 50 1).toInt (ez_I h148 68 1).toInt (ez_I h148 68 2).toInt (bkS (tI (ez_I h 3)) (ez_I h 2 1).toInt.toNat fr.toInt.toNat (to.toInt.toNat - fr.toInt.toNat) l s0) := by rw [(bk_w0 hw0).1]; exact k150
    have S152 := zW_sh F149 S15
    have F153 := zW_tr F16 (zW_mono F149 (x66_0) (x66_1) (x66_2))
    have r154 := z_rng (ez_I h148 68 1)
    have r155 := z_rng (ez_I h148 68 2)
    have r156 := z_rng (ez_I h148 50 1)
    have f157 : ez_I h148 29 4 = (ez_I h 29 4) := (zW_f F149 (by decide) (by decide)).trans (f20)
    have f158 : ez_I h148 36 4 = (ez_I h 36 4) := (zW_f F149 (by decide) (by decide)).trans (f21)
    have A159 : ez_I h148 57 = ez_I h 57 := by rw [zW_fn F149 57 (by decide) (x66_3)]; exact A22
    clear A22
    refine z_go ?_
    refine gw_skip _ ?_
    refine z_rv ?_
    have t160 := congrArg Int32.toInt (f157)
    have t161 := congrArg Int32.toInt (f158)
    exact K _ F153 hsf k151 (fun q => by exfalso; omega) (fun j _ => congrFun A159 j)
