/-! PRINTED by wip/pack: the model unpacks -/
theorem x74_4 : ∀ q k : Nat, (q = 71 ∧ k = 59 ∨ q = 71 ∧ k = 61 ∨ q = 71 ∧ k = 60) → (q = 71 ∧ k = 59 ∨ q = 71 ∧ k = 61 ∨ q = 71 ∧ k = 60 ∨ q = 71 ∧ k = 62 ∨ q = 71 ∧ k = 63 ∨ q = 71 ∧ k = 0 ∨ q = 71 ∧ k = 7) := fun q k hk => hk.elim (fun g => (.inl g)) (fun hk => hk.elim (fun g => (.inr (.inl g))) (fun hk => (.inr (.inr (.inl hk)))))
theorem x74_5 : ∀ q : Nat, (q = 76 ∨ q = 115 ∨ q = 120 ∨ q = 121 ∨ q = 122 ∨ q = 123) → (q = 73 ∨ q = 76 ∨ q = 115 ∨ q = 120 ∨ q = 121 ∨ q = 122 ∨ q = 123) := fun q hk => hk.elim (fun g => (.inr (.inl g))) (fun hk => hk.elim (fun g => (.inr (.inr (.inl g)))) (fun hk => hk.elim (fun g => (.inr (.inr (.inr (.inl g))))) (fun hk => hk.elim (fun g => (.inr (.inr (.inr (.inr (.inl g)))))) (fun hk => hk.elim (fun g => (.inr (.inr (.inr (.inr (.inr (.inl g))))))) (fun hk => (.inr (.inr (.inr (.inr (.inr (.inr hk)))))))))))
theorem x74_6 : ∀ q : Nat, (False) → (False) := fun q hk => hk.elim
theorem x74_7 : ∀ q k : Nat, (q = 71 ∧ k = 62 ∨ q = 71 ∧ k = 63 ∨ q = 71 ∧ k = 0 ∨ q = 71 ∧ k = 7) → (q = 71 ∧ k = 59 ∨ q = 71 ∧ k = 61 ∨ q = 71 ∧ k = 60 ∨ q = 71 ∧ k = 62 ∨ q = 71 ∧ k = 63 ∨ q = 71 ∧ k = 0 ∨ q = 71 ∧ k = 7) := fun q k hk => hk.elim (fun g => (.inr (.inr (.inr (.inl g))))) (fun hk => hk.elim (fun g => (.inr (.inr (.inr (.inr (.inl g)))))) (fun hk => hk.elim (fun g => (.inr (.inr (.inr (.inr (.inr (.inl g))))))) (fun hk => (.inr (.inr (.inr (.inr (.inr (.inr hk)))))))))
theorem x74_8 : ∀ q : Nat, (q = 73) → (q = 73 ∨ q = 76 ∨ q = 115 ∨ q = 120 ∨ q = 121 ∨ q = 122 ∨ q = 123) := fun q hk => (.inl hk)
theorem x74_9 : ¬ (72 = 76 ∨ 72 = 115 ∨ 72 = 120 ∨ 72 = 121 ∨ 72 = 122 ∨ 72 = 123) := by omega
theorem x74_10 : ∀ k : Nat, ¬ (72 = 71 ∧ k = 59 ∨ 72 = 71 ∧ k = 61 ∨ 72 = 71 ∧ k = 60) := fun k c => by omega
theorem x74_11 : ¬ (71 = 76 ∨ 71 = 115 ∨ 71 = 120 ∨ 71 = 121 ∨ 71 = 122 ∨ 71 = 123) := by omega
theorem x74_12 : ¬ (71 = 71 ∧ 6 = 59 ∨ 71 = 71 ∧ 6 = 61 ∨ 71 = 71 ∧ 6 = 60) := by omega
theorem x74_13 : ∀ q k : Nat, (q = 71 ∧ k = 59 ∨ q = 71 ∧ k = 61) → (q = 71 ∧ k = 59 ∨ q = 71 ∧ k = 61 ∨ q = 71 ∧ k = 60) := fun q k hk => hk.elim (fun g => (.inl g)) (fun hk => (.inr (.inl hk)))
theorem x74_14 : ∀ q : Nat, (False) → (q = 76 ∨ q = 115 ∨ q = 120 ∨ q = 121 ∨ q = 122 ∨ q = 123) := fun q hk => hk.elim
theorem x74_15 : ∀ k : Nat, ¬ (76 = 71 ∧ k = 59 ∨ 76 = 71 ∧ k = 61) := fun k c => by omega
theorem x74_16 : ∀ q k : Nat, (q = 71 ∧ k = 62 ∨ q = 71 ∧ k = 63 ∨ q = 71 ∧ k = 0) → (q = 71 ∧ k = 59 ∨ q = 71 ∧ k = 61 ∨ q = 71 ∧ k = 60 ∨ q = 71 ∧ k = 62 ∨ q = 71 ∧ k = 63 ∨ q = 71 ∧ k = 0 ∨ q = 71 ∧ k = 7) := fun q k hk => hk.elim (fun g => (.inr (.inr (.inr (.inl g))))) (fun hk => hk.elim (fun g => (.inr (.inr (.inr (.inr (.inl g)))))) (fun hk => (.inr (.inr (.inr (.inr (.inr (.inl hk))))))))
theorem x74_17 : ∀ q : Nat, (False) → (q = 73 ∨ q = 76 ∨ q = 115 ∨ q = 120 ∨ q = 121 ∨ q = 122 ∨ q = 123) := fun q hk => hk.elim
theorem x74_18 : ¬ (71 = 71 ∧ 7 = 62 ∨ 71 = 71 ∧ 7 = 63 ∨ 71 = 71 ∧ 7 = 0) := by omega
theorem x74_19 : ¬ (71 = 71 ∧ 7 = 59 ∨ 71 = 71 ∧ 7 = 61 ∨ 71 = 71 ∧ 7 = 60) := by omega
theorem x74_20 : ∀ k : Nat, ¬ (73 = 71 ∧ k = 62 ∨ 73 = 71 ∧ k = 63 ∨ 73 = 71 ∧ k = 0) := fun k c => by omega
theorem x74_21 : ¬ (73 = 76 ∨ 73 = 115 ∨ 73 = 120 ∨ 73 = 121 ∨ 73 = 122 ∨ 73 = 123) := by omega
theorem x74_22 : ∀ k : Nat, ¬ (73 = 71 ∧ k = 59 ∨ 73 = 71 ∧ k = 61 ∨ 73 = 71 ∧ k = 60) := fun k c => by omega
theorem x74_23 : ¬ (96 = 76 ∨ 96 = 115 ∨ 96 = 120 ∨ 96 = 121 ∨ 96 = 122 ∨ 96 = 123) := by omega
theorem x74_24 : ∀ k : Nat, ¬ (96 = 71 ∧ k = 59 ∨ 96 = 71 ∧ k = 61 ∨ 96 = 71 ∧ k = 60) := fun k c => by omega
theorem x74_25 : ∀ q : Nat, (q = 115 ∨ q = 120 ∨ q = 121 ∨ q = 122 ∨ q = 123) → (q = 76 ∨ q = 115 ∨ q = 120 ∨ q = 121 ∨ q = 122 ∨ q = 123) := fun q hk => hk.elim (fun g => (.inr (.inl g))) (fun hk => hk.elim (fun g => (.inr (.inr (.inl g)))) (fun hk => hk.elim (fun g => (.inr (.inr (.inr (.inl g))))) (fun hk => hk.elim (fun g => (.inr (.inr (.inr (.inr (.inl g)))))) (fun hk => (.inr (.inr (.inr (.inr (.inr hk)))))))))
theorem x74_26 : ∀ q k : Nat, (q = 71 ∧ k = 59 ∨ q = 71 ∧ k = 61 ∨ q = 71 ∧ k = 60) → (q = 71 ∧ k = 59 ∨ q = 71 ∧ k = 61 ∨ q = 71 ∧ k = 60) := fun q k hk => hk.elim (fun g => (.inl g)) (fun hk => hk.elim (fun g => (.inr (.inl g))) (fun hk => (.inr (.inr hk))))
theorem x74_27 : ∀ q : Nat, (q = 76) → (q = 76 ∨ q = 115 ∨ q = 120 ∨ q = 121 ∨ q = 122 ∨ q = 123) := fun q hk => (.inl hk)
theorem x74_28 : ∀ q k : Nat, (q = 71 ∧ k = 61) → (q = 71 ∧ k = 59 ∨ q = 71 ∧ k = 61 ∨ q = 71 ∧ k = 60) := fun q k hk => (.inr (.inl hk))
theorem x74_29 : ∀ k : Nat, ¬ (76 = 71 ∧ k = 61) := fun k c => by omega
theorem x74_30 : ¬ (92 = 76 ∨ 92 = 115 ∨ 92 = 120 ∨ 92 = 121 ∨ 92 = 122 ∨ 92 = 123) := by omega
theorem x74_31 : ∀ k : Nat, ¬ (92 = 71 ∧ k = 59 ∨ 92 = 71 ∧ k = 61 ∨ 92 = 71 ∧ k = 60) := fun k c => by omega
theorem x74_32 : ¬ (93 = 76 ∨ 93 = 115 ∨ 93 = 120 ∨ 93 = 121 ∨ 93 = 122 ∨ 93 = 123) := by omega
theorem x74_33 : ∀ k : Nat, ¬ (93 = 71 ∧ k = 59 ∨ 93 = 71 ∧ k = 61 ∨ 93 = 71 ∧ k = 60) := fun k c => by omega
theorem x74_34 : ¬ (94 = 76 ∨ 94 = 115 ∨ 94 = 120 ∨ 94 = 121 ∨ 94 = 122 ∨ 94 = 123) := by omega
theorem x74_35 : ∀ k : Nat, ¬ (94 = 71 ∧ k = 59 ∨ 94 = 71 ∧ k = 61 ∨ 94 = 71 ∧ k = 60) := fun k c => by omega
theorem x74_36 : ¬ (95 = 76 ∨ 95 = 115 ∨ 95 = 120 ∨ 95 = 121 ∨ 95 = 122 ∨ 95 = 123) := by omega
theorem x74_37 : ∀ k : Nat, ¬ (95 = 71 ∧ k = 59 ∨ 95 = 71 ∧ k = 61 ∨ 95 = 71 ∧ k = 60) := fun k c => by omega
theorem x74_38 : ∀ q : Nat, (q = 76 ∨ q = 115) → (q = 76 ∨ q = 115 ∨ q = 120 ∨ q = 121 ∨ q = 122 ∨ q = 123) := fun q hk => hk.elim (fun g => (.inl g)) (fun hk => (.inr (.inl hk)))
theorem x74_39 : ∀ k : Nat, ¬ (120 = 71 ∧ k = 59 ∨ 120 = 71 ∧ k = 61 ∨ 120 = 71 ∧ k = 60) := fun k c => by omega
theorem x74_40 : ∀ k : Nat, ¬ (121 = 71 ∧ k = 59 ∨ 121 = 71 ∧ k = 61 ∨ 121 = 71 ∧ k = 60) := fun k c => by omega
set_option maxRecDepth 4000 in
set_option maxHeartbeats 2000000 in
theorem u_17_L0 {E : Nat → Nat × (Nat → Int32)} {d : Nat} {Q : ez_Q} {h : ez_H} {ls0 : Int32} {l2 : Option Value} {l3 : Option Value} (S : zSh h) {T : Nat → Int} {n : Nat} (hT : tB (ez_I h 72) = T) (hN : (ez_I h 71 6).toInt = (n : Nat)) (hn6 : n ≤ 6000) {U : Option ((Nat → Int) × Nat)} (t92 : ctI (ez_I h 92) LBf 29) (t93 : ctI (ez_I h 93) LEf 29) (t94 : ctI (ez_I h 94) DBf 30) (t95 : ctI (ez_I h 95) DEf 30) (t96 : ctI (ez_I h 96) ORf 19) (hp : (ez_I h 71 59).toInt = 0) (hg : (ez_I h 71 60).toInt = 0) (hf : (ez_I h 71 61).toInt = 0) (hl : ls0.toInt = 0) (hU : U = unL T n (8 * n) 0 (fun _ => 0) 0) (K : ∀ h2 (x : Int32), zW (fun q k => q = 71 ∧ k = 59 ∨ q = 71 ∧ k = 61 ∨ q = 71 ∧ k = 60 ∨ q = 71 ∧ k = 62 ∨ q = 71 ∧ k = 63 ∨ q = 71 ∧ k = 0 ∨ q = 71 ∧ k = 7) (fun q => q = 73 ∨ q = 76 ∨ q = 115 ∨ q = 120 ∨ q = 121 ∨ q = 122 ∨ q = 123) (fun _ => False) h h2 → ((∃ (o2 : Nat → Int) (m2 : Nat), U = some (o2, m2) ∧ (ez_I h2 71 0).toInt = 0 ∧ x.toInt = (m2 : Nat) ∧ (ez_I h2 71 7).toInt = (m2 : Nat) ∧ m2 ≤ 6000 ∧ oM (ez_I h2 73) o2 m2) ∨ (U = none ∧ (ez_I h2 71 0).toInt = 1 ∧ (ez_I h2 71 7).toInt = (ez_I h 71 7).toInt ∧ ez_I h2 73 = ez_I h 73)) → Q (.inl (some (.int x))) h2) : ∀ N : Nat, (∀ (h2 : ez_H) (ls : Int32) (l2 : Option Value) (l3 : Option Value) (p2 : Nat) (o2 : Nat → Int) (m2 : Nat), zW (fun q k => q = 71 ∧ k = 59 ∨ q = 71 ∧ k = 61 ∨ q = 71 ∧ k = 60) (fun q => q = 76 ∨ q = 115 ∨ q = 120 ∨ q = 121 ∨ q = 122 ∨ q = 123) (fun _ => False) h h2 → (0 ≤ ls.toInt ∧ ls.toInt ≤ 1 ∧ (ez_I h2 71 59).toInt = (p2 : Nat) ∧ (ez_I h2 71 61).toInt = 0 ∧ (ez_I h2 71 60).toInt = (m2 : Nat) ∧ m2 ≤ 6000 ∧ p2 ≤ 8 * n) → (lsP ls.toInt (U = unL T n (8 * n) p2 o2 m2) (U = some (o2, m2))) → (oM (ez_I h2 76) o2 m2) → (1000 * (60000 - (p2 : Int)) - 0) < (N : Int) → pw E (d + 3) 60 17 [some (.ref 71), some (.int ls), l2, l3] [] h2 Q) ∧ (∀ (h2 : ez_H) (ls : Int32) (l2 : Option Value) (l3 : Option Value) (p2 : Nat) (o2 : Nat → Int) (m2 : Nat), zW (fun q k => q = 71 ∧ k = 59 ∨ q = 71 ∧ k = 61 ∨ q = 71 ∧ k = 60) (fun q => q = 76 ∨ q = 115 ∨ q = 120 ∨ q = 121 ∨ q = 122 ∨ q = 123) (fun _ => False) h h2 → (ls.toInt = (bitT T p2 : Nat) ∧ p2 + 1 ≤ 8 * n ∧ (ez_I h2 71 59).toInt = ((p2 + 1 : Nat) : Int) ∧ (ez_I h2 71 61).toInt = 0 ∧ (ez_I h2 71 60).toInt = (m2 : Nat) ∧ m2 ≤ 6000 ∧ p2 ≤ 8 * n) → (U = unL T n (8 * n) p2 o2 m2) → (oM (ez_I h2 76) o2 m2) → (1000 * (60000 - (p2 : Int)) - 1) < (N : Int) → pw E (d + 3) 60 43 [some (.ref 71), some (.int ls), l2, l3] [] h2 Q) ∧ (∀ (h2 : ez_H) (ls : Int32) (kd : Int32) (l3 : Option Value) (p2 : Nat) (o2 : Nat → Int) (m2 : Nat), zW (fun q k => q = 71 ∧ k = 59 ∨ q = 71 ∧ k = 61 ∨ q = 71 ∧ k = 60) (fun q => q = 76 ∨ q = 115 ∨ q = 120 ∨ q = 121 ∨ q = 122 ∨ q = 123) (fun _ => False) h h2 → (kd.toInt = (vB T (p2 + 1) 2 : Nat) ∧ ls.toInt = (bitT T p2 : Nat) ∧ p2 + 3 ≤ 8 * n ∧ (ez_I h2 71 59).toInt = ((p2 + 3 : Nat) : Int) ∧ (ez_I h2 71 61).toInt = 0 ∧ (ez_I h2 71 60).toInt = (m2 : Nat) ∧ m2 ≤ 6000 ∧ p2 ≤ 8 * n) → (U = unL T n (8 * n) p2 o2 m2) → (oM (ez_I h2 76) o2 m2) → (1000 * (60000 - (p2 : Int)) - 2) < (N : Int) → pw E (d + 3) 60 59 [some (.ref 71), some (.int ls), some (.int kd), l3] [] h2 Q) ∧ (∀ (h2 : ez_H) (ls : Int32) (kd : Int32) (k : Int32) (p2 : Nat) (o2 : Nat → Int) (m2 : Nat), zW (fun q k => q = 71 ∧ k = 59 ∨ q = 71 ∧ k = 61 ∨ q = 71 ∧ k = 60) (fun q => q = 76 ∨ q = 115 ∨ q = 120 ∨ q = 121 ∨ q = 122 ∨ q = 123) (fun _ => False) h h2 → (0 ≤ k.toInt ∧ k.toInt ≤ 288 ∧ kd.toInt = 1 ∧ kd.toInt = (vB T (p2 + 1) 2 : Nat) ∧ ls.toInt = (bitT T p2 : Nat) ∧ p2 + 3 ≤ 8 * n ∧ (ez_I h2 71 59).toInt = ((p2 + 3 : Nat) : Int) ∧ (ez_I h2 71 61).toInt = 0 ∧ (ez_I h2 71 60).toInt = (m2 : Nat) ∧ m2 ≤ 6000 ∧ p2 ≤ 8 * n) → (U = unL T n (8 * n) p2 o2 m2) → (oM (ez_I h2 76) o2 m2) → (cpN (ez_I h2 120) fxL k.toInt.toNat) → (1000 * (60000 - (p2 : Int)) - (3 + k.toInt)) < (N : Int) → pw E (d + 3) 60 84 [some (.ref 71), some (.int ls), some (.int kd), some (.int k)] [] h2 Q) ∧ (∀ (h2 : ez_H) (ls : Int32) (kd : Int32) (k : Int32) (p2 : Nat) (o2 : Nat → Int) (m2 : Nat), zW (fun q k => q = 71 ∧ k = 59 ∨ q = 71 ∧ k = 61 ∨ q = 71 ∧ k = 60) (fun q => q = 76 ∨ q = 115 ∨ q = 120 ∨ q = 121 ∨ q = 122 ∨ q = 123) (fun _ => False) h h2 → (0 ≤ k.toInt ∧ k.toInt ≤ 32 ∧ kd.toInt = 1 ∧ kd.toInt = (vB T (p2 + 1) 2 : Nat) ∧ ls.toInt = (bitT T p2 : Nat) ∧ p2 + 3 ≤ 8 * n ∧ (ez_I h2 71 59).toInt = ((p2 + 3 : Nat) : Int) ∧ (ez_I h2 71 61).toInt = 0 ∧ (ez_I h2 71 60).toInt = (m2 : Nat) ∧ m2 ≤ 6000 ∧ p2 ≤ 8 * n) → (U = unL T n (8 * n) p2 o2 m2) → (oM (ez_I h2 76) o2 m2) → (cpN (ez_I h2 120) fxL 288) → (cpN (ez_I h2 121) fxD k.toInt.toNat) → (1000 * (60000 - (p2 : Int)) - (300 + k.toInt)) < (N : Int) → pw E (d + 3) 60 143 [some (.ref 71), some (.int ls), some (.int kd), some (.int k)] [] h2 Q) ∧ (∀ (h2 : ez_H) (ls : Int32) (kd : Int32) (l3 : Option Value) (p2 : Nat) (o2 : Nat → Int) (m2 : Nat) (p3 : Nat), zW (fun q k => q = 71 ∧ k = 59 ∨ q = 71 ∧ k = 61 ∨ q = 71 ∧ k = 60) (fun q => q = 76 ∨ q = 115 ∨ q = 120 ∨ q = 121 ∨ q = 122 ∨ q = 123) (fun _ => False) h h2 → (1 ≤ kd.toInt ∧ kd.toInt ≤ 2 ∧ ls.toInt = (bitT T p2 : Nat) ∧ p2 + 3 ≤ 8 * n ∧ (ez_I h2 71 59).toInt = (p3 : Nat) ∧ p3 ≤ 8 * n ∧ (ez_I h2 71 61).toInt = 0 ∧ (ez_I h2 71 60).toInt = (m2 : Nat) ∧ m2 ≤ 6000 ∧ p2 ≤ 8 * n) → (U = unL T n (8 * n) p2 o2 m2) → (oM (ez_I h2 76) o2 m2) → (cdP (ez_I h2 120) (ez_I h2 121) T n p2 p3) → (1000 * (60000 - (p2 : Int)) - 500) < (N : Int) → pw E (d + 3) 60 171 [some (.ref 71), some (.int ls), some (.int kd), l3] [] h2 Q) := by
  intro N
  induction N with
  | zero => exact ⟨fun h2 ls l2 l3 p2 o2 m2 F hinv A_sp A_or hm => absurd hm (by have w_ls := z_rng ls; have gls0 := z_rng ls0; omega), fun h2 ls l2 l3 p2 o2 m2 F hinv A_sp A_or hm => absurd hm (by have w_ls := z_rng ls; have gls0 := z_rng ls0; omega), fun h2 ls kd l3 p2 o2 m2 F hinv A_sp A_or hm => absurd hm (by have w_ls := z_rng ls; have w_kd := z_rng kd; have gls0 := z_rng ls0; omega), fun h2 ls kd k p2 o2 m2 F hinv A_sp A_or A_li hm => absurd hm (by have w_ls := z_rng ls; have w_kd := z_rng kd; have w_k := z_rng k; have gls0 := z_rng ls0; omega), fun h2 ls kd k p2 o2 m2 F hinv A_sp A_or A_li A_di hm => absurd hm (by have w_ls := z_rng ls; have w_kd := z_rng kd; have w_k := z_rng k; have gls0 := z_rng ls0; omega), fun h2 ls kd l3 p2 o2 m2 p3 F hinv A_sp A_or A_cd hm => absurd hm (by have w_ls := z_rng ls; have w_kd := z_rng kd; have gls0 := z_rng ls0; omega)⟩
  | succ N ih =>
    refine ⟨fun h2 ls l2 l3 p2 o2 m2 F hinv A_sp A_or hm => ?_, fun h2 ls l2 l3 p2 o2 m2 F hinv A_sp A_or hm => ?_, fun h2 ls kd l3 p2 o2 m2 F hinv A_sp A_or hm => ?_, fun h2 ls kd k p2 o2 m2 F hinv A_sp A_or A_li hm => ?_, fun h2 ls kd k p2 o2 m2 F hinv A_sp A_or A_li A_di hm => ?_, fun h2 ls kd l3 p2 o2 m2 p3 F hinv A_sp A_or A_cd hm => ?_⟩
    · skip
      have w_ls := z_rng ls
      have gls0 := z_rng ls0
      have S2 := zW_sh F S
      apply ez_Wp_in
      show ez_gw _ _ _ _ _ _ (cz_60) _ _ _ _ _
      refine gw_skip _ ?_
      have r1 := z_rng (ez_I h2 71 59)
      have r2 := z_rng (ez_I h2 71 61)
      have r3 := z_rng (ez_I h2 71 60)
      refine gw_ld rfl rfl ?_
      refine z_b1 (fun c4 => ?_) (fun c4 => ?_)
      · have c4 : ls.toInt ≠ 0 := c4
        suffices tl : pw E (d + 3) 60 195 [some (.ref 71), some (.int ls), l2, l3] [] h2 Q from gw_skip _ (ez_Wp_at tl rfl)
        refine u_T195 (o2 := o2) (m2 := m2) S2 (by omega) (by omega) (by omega) A_or (fun h5 x6 F7 k9 k10 k11 k12 => ?_)
        have F8 := zW_tr (zW_mono F x74_4 x74_5 x74_6) (zW_mono F7 x74_7 x74_8 x74_6)
        exact K _ _ F8 (.inl ⟨o2, m2, A_sp.2 (by omega), k9, k10, k11, by omega, k12⟩)
      · have c4 : ¬ (ls.toInt ≠ 0) := c4
        refine gw_ld rfl rfl ?_
        refine z_gI2 (by decide) (zT S2 (by decide) rfl) (rfl) ?_
        refine z_b1 (fun c13 => ?_) (fun c13 => ?_)
        · have c13 : ((ez_I h2 71 61)).toInt ≠ 0 := c13
          exfalso; omega
        · have c13 : ¬ (((ez_I h2 71 61)).toInt ≠ 0) := c13
          refine gw_ld rfl rfl ?_
          refine z_C (m := 1) rfl rfl (fun x14 ex14 => ?_)
          refine z_cl rfl rfl rfl rfl rfl rfl rfl rfl rfl rfl rfl (zT S2 (by decide) rfl) ?_
          refine d_tbO (v := x14) (T := T) (n := n) (N := 1) (p := p2) S2 (by rw [(show ez_I h2 72 = ez_I h 72 from zW_fn F 72 x74_9 x74_10)]; exact hT) (by rw [(show ez_I h2 71 6 = ez_I h 71 6 from zW_f F x74_11 x74_12)]; exact hN) hn6 (by omega) (by omega) (by omega) (by omega) (by omega) (fun h15 x16 F17 k18 k19 k20 k21 k22 => ?_) (fun h23 x24 F25 k26 k27 k28 k29 k30 => ?_)
          · have rx16 := z_rng x16
            have S31 := zW_sh F17 S2
            have F32 := zW_tr F (zW_mono F17 (x74_13) (x74_14) (x74_6))
            have r33 := z_rng (ez_I h15 71 59)
            have r34 := z_rng (ez_I h15 71 61)
            have f35 : ez_I h15 71 60 = (ez_I h2 71 60) := (zW_f F17 (fun c => c) (by decide)).trans (rfl)
            have A36 : oM (ez_I h15 76) o2 m2 := by rw [zW_fn F17 76 (fun c => c) (x74_15)]; exact A_or
            have hbt : x16.toInt = (bitT T p2 : Nat) := by rw [← vB_1]; exact k19
            have hb2 := bitT_2 T p2
            refine z_C (m := 1) rfl rfl (fun x37 ex37 => ?_)
            refine z_b2 (fun c38 => ?_) (fun c38 => ?_)
            · have c38 : x16.toInt ≠ x37.toInt := c38
              refine gw_skip _ ?_
              refine z_C (m := 0) rfl rfl (fun x39 ex39 => ?_)
              refine gw_st rfl rfl rfl ?_
              show ez_gw _ _ _ _ _ _ _ _ [some (.ref 71), some (.int x39), l2, l3] _ _ _
              have t40 := congrArg Int32.toInt (f35)
              exact ez_Wp_at (ih.2.1 h15 x39 (l2) (l3) p2 o2 m2 F32 (by omega) ((A_sp.1 (by omega))) A36 (by omega)) rfl
            · have c38 : ¬ (x16.toInt ≠ x37.toInt) := c38
              refine z_C (m := 1) rfl rfl (fun x41 ex41 => ?_)
              refine z_go ?_
              refine gw_skip _ ?_
              refine gw_st rfl rfl rfl ?_
              show ez_gw _ _ _ _ _ _ _ _ [some (.ref 71), some (.int x41), l2, l3] _ _ _
              have t42 := congrArg Int32.toInt (f35)
              exact ez_Wp_at (ih.2.1 h15 x41 (l2) (l3) p2 o2 m2 F32 (by omega) ((A_sp.1 (by omega))) A36 (by omega)) rfl
          · have rx24 := z_rng x24
            have S43 := zW_sh F25 S2
            have F44 := zW_tr F (zW_mono F25 (x74_13) (x74_14) (x74_6))
            have r45 := z_rng (ez_I h23 71 59)
            have r46 := z_rng (ez_I h23 71 61)
            have f47 : ez_I h23 71 60 = (ez_I h2 71 60) := (zW_f F25 (fun c => c) (by decide)).trans (rfl)
            have A48 : oM (ez_I h23 76) o2 m2 := by rw [zW_fn F25 76 (fun c => c) (x74_15)]; exact A_or
            refine z_C (m := 1) rfl rfl (fun x49 ex49 => ?_)
            refine z_b2 (fun c50 => ?_) (fun c50 => ?_)
            · have c50 : x24.toInt ≠ x49.toInt := c50
              refine gw_skip _ ?_
              refine z_C (m := 0) rfl rfl (fun x51 ex51 => ?_)
              refine gw_st rfl rfl rfl ?_
              show ez_gw _ _ _ _ _ _ _ _ [some (.ref 71), some (.int x51), l2, l3] _ _ _
              refine gw_ld rfl rfl ?_
              refine z_C (m := 2) rfl rfl (fun x52 ex52 => ?_)
              have t53 := congrArg Int32.toInt (f47)
              refine z_cl rfl rfl rfl rfl rfl rfl rfl rfl rfl rfl rfl (zT S43 (by decide) rfl) ?_
              refine d_tbF (v := x52) (n := n) (N := 2) S43 (by rw [(show ez_I h23 71 6 = ez_I h 71 6 from zW_f F44 x74_11 x74_12)]; exact hN) hn6 (by omega) (by omega) (by omega) (by omega) (fun h54 x55 F56 k57 k58 k59 k60 => ?_)
              have rx55 := z_rng x55
              have S61 := zW_sh F56 S43
              have F62 := zW_tr F44 (zW_mono F56 (x74_13) (x74_14) (x74_6))
              have r63 := z_rng (ez_I h54 71 59)
              have r64 := z_rng (ez_I h54 71 61)
              have f65 : ez_I h54 71 60 = (ez_I h2 71 60) := (zW_f F56 (fun c => c) (by decide)).trans (f47)
              have A66 : oM (ez_I h54 76) o2 m2 := by rw [zW_fn F56 76 (fun c => c) (x74_15)]; exact A48
              clear A48
              refine gw_st rfl rfl rfl ?_
              show ez_gw _ _ _ _ _ _ _ _ [some (.ref 71), some (.int x51), some (.int x55), l3] _ _ _
              refine gw_ld rfl rfl ?_
              refine z_gI2 (by decide) (zT S61 (by decide) rfl) (rfl) ?_
              refine z_b1 (fun c67 => ?_) (fun c67 => ?_)
              · have c67 : ((ez_I h54 71 61)).toInt ≤ 0 := c67
                exfalso; omega
              · have c67 : ¬ (((ez_I h54 71 61)).toInt ≤ 0) := c67
                refine z_go ?_
                have t68 := congrArg Int32.toInt (f65)
                refine u_F17 S61 (by omega) (by omega) (fun h69 x70 F71 k73 => ?_)
                have F72 := zW_tr (zW_mono F62 x74_4 x74_5 x74_6) (zW_mono F71 x74_16 x74_17 x74_6)
                exact K _ _ F72 (.inr ⟨A_sp.1 (by omega) |>.trans (unL_n (blU_o (.inl (by omega)))), k73, by rw [(show ez_I h69 71 7 = ez_I h54 71 7 from zW_f F71 (fun c => c) x74_18), (show ez_I h54 71 7 = ez_I h 71 7 from zW_f F62 x74_11 x74_19)], by rw [(show ez_I h69 73 = ez_I h54 73 from zW_fn F71 73 (fun c => c) x74_20), (show ez_I h54 73 = ez_I h 73 from zW_fn F62 73 x74_21 x74_22)]⟩)
            · have c50 : ¬ (x24.toInt ≠ x49.toInt) := c50
              refine z_C (m := 1) rfl rfl (fun x74 ex74 => ?_)
              refine z_go ?_
              refine gw_skip _ ?_
              refine gw_st rfl rfl rfl ?_
              show ez_gw _ _ _ _ _ _ _ _ [some (.ref 71), some (.int x74), l2, l3] _ _ _
              refine gw_ld rfl rfl ?_
              refine z_C (m := 2) rfl rfl (fun x75 ex75 => ?_)
              have t76 := congrArg Int32.toInt (f47)
              refine z_cl rfl rfl rfl rfl rfl rfl rfl rfl rfl rfl rfl (zT S43 (by decide) rfl) ?_
              refine d_tbF (v := x75) (n := n) (N := 2) S43 (by rw [(show ez_I h23 71 6 = ez_I h 71 6 from zW_f F44 x74_11 x74_12)]; exact hN) hn6 (by omega) (by omega) (by omega) (by omega) (fun h77 x78 F79 k80 k81 k82 k83 => ?_)
              have rx78 := z_rng x78
              have S84 := zW_sh F79 S43
              have F85 := zW_tr F44 (zW_mono F79 (x74_13) (x74_14) (x74_6))
              have r86 := z_rng (ez_I h77 71 59)
              have r87 := z_rng (ez_I h77 71 61)
              have f88 : ez_I h77 71 60 = (ez_I h2 71 60) := (zW_f F79 (fun c => c) (by decide)).trans (f47)
              have A89 : oM (ez_I h77 76) o2 m2 := by rw [zW_fn F79 76 (fun c => c) (x74_15)]; exact A48
              clear A48
              refine gw_st rfl rfl rfl ?_
              show ez_gw _ _ _ _ _ _ _ _ [some (.ref 71), some (.int x74), some (.int x78), l3] _ _ _
              refine gw_ld rfl rfl ?_
              refine z_gI2 (by decide) (zT S84 (by decide) rfl) (rfl) ?_
              refine z_b1 (fun c90 => ?_) (fun c90 => ?_)
              · have c90 : ((ez_I h77 71 61)).toInt ≤ 0 := c90
                exfalso; omega
              · have c90 : ¬ (((ez_I h77 71 61)).toInt ≤ 0) := c90
                refine z_go ?_
                have t91 := congrArg Int32.toInt (f88)
                refine u_F17 S84 (by omega) (by omega) (fun h92 x93 F94 k96 => ?_)
                have F95 := zW_tr (zW_mono F85 x74_4 x74_5 x74_6) (zW_mono F94 x74_16 x74_17 x74_6)
                exact K _ _ F95 (.inr ⟨A_sp.1 (by omega) |>.trans (unL_n (blU_o (.inl (by omega)))), k96, by rw [(show ez_I h92 71 7 = ez_I h77 71 7 from zW_f F94 (fun c => c) x74_18), (show ez_I h77 71 7 = ez_I h 71 7 from zW_f F85 x74_11 x74_19)], by rw [(show ez_I h92 73 = ez_I h77 73 from zW_fn F94 73 (fun c => c) x74_20), (show ez_I h77 73 = ez_I h 73 from zW_fn F85 73 x74_21 x74_22)]⟩)
    · skip
      have w_ls := z_rng ls
      have gls0 := z_rng ls0
      have S2 := zW_sh F S
      have hb2 := bitT_2 T p2
      apply ez_Wp_in
      show ez_gw _ _ _ _ _ _ (cz_60) _ _ _ _ _
      refine gw_skip _ ?_
      have r97 := z_rng (ez_I h2 71 59)
      have r98 := z_rng (ez_I h2 71 61)
      have r99 := z_rng (ez_I h2 71 60)
      refine gw_ld rfl rfl ?_
      refine z_C (m := 2) rfl rfl (fun x100 ex100 => ?_)
      refine z_cl rfl rfl rfl rfl rfl rfl rfl rfl rfl rfl rfl (zT S2 (by decide) rfl) ?_
      refine d_tbO (v := x100) (T := T) (n := n) (N := 2) (p := (p2 + 1)) S2 (by rw [(show ez_I h2 72 = ez_I h 72 from zW_fn F 72 x74_9 x74_10)]; exact hT) (by rw [(show ez_I h2 71 6 = ez_I h 71 6 from zW_f F x74_11 x74_12)]; exact hN) hn6 (by omega) (by omega) (by omega) (by omega) (by omega) (fun h101 x102 F103 k104 k105 k106 k107 k108 => ?_) (fun h109 x110 F111 k112 k113 k114 k115 k116 => ?_)
      · have rx102 := z_rng x102
        have S117 := zW_sh F103 S2
        have F118 := zW_tr F (zW_mono F103 (x74_13) (x74_14) (x74_6))
        have r119 := z_rng (ez_I h101 71 59)
        have r120 := z_rng (ez_I h101 71 61)
        have f121 : ez_I h101 71 60 = (ez_I h2 71 60) := (zW_f F103 (fun c => c) (by decide)).trans (rfl)
        have A122 : oM (ez_I h101 76) o2 m2 := by rw [zW_fn F103 76 (fun c => c) (x74_15)]; exact A_or
        refine gw_st rfl rfl rfl ?_
        show ez_gw _ _ _ _ _ _ _ _ [some (.ref 71), some (.int ls), some (.int x102), l3] _ _ _
        refine gw_ld rfl rfl ?_
        refine z_gI2 (by decide) (zT S117 (by decide) rfl) (rfl) ?_
        refine z_b1 (fun c123 => ?_) (fun c123 => ?_)
        · have c123 : ((ez_I h101 71 61)).toInt ≤ 0 := c123
          have t124 := congrArg Int32.toInt (f121)
          exact gw_skip _ (ez_Wp_at (ih.2.2.1 h101 ls x102 (l3) p2 o2 m2 F118 (by omega) (A_sp) A122 (by omega)) rfl)
        · have c123 : ¬ (((ez_I h101 71 61)).toInt ≤ 0) := c123
          exfalso; omega
      · have rx110 := z_rng x110
        have S125 := zW_sh F111 S2
        have F126 := zW_tr F (zW_mono F111 (x74_13) (x74_14) (x74_6))
        have r127 := z_rng (ez_I h109 71 59)
        have r128 := z_rng (ez_I h109 71 61)
        have f129 : ez_I h109 71 60 = (ez_I h2 71 60) := (zW_f F111 (fun c => c) (by decide)).trans (rfl)
        have A130 : oM (ez_I h109 76) o2 m2 := by rw [zW_fn F111 76 (fun c => c) (x74_15)]; exact A_or
        refine gw_st rfl rfl rfl ?_
        show ez_gw _ _ _ _ _ _ _ _ [some (.ref 71), some (.int ls), some (.int x110), l3] _ _ _
        refine gw_ld rfl rfl ?_
        refine z_gI2 (by decide) (zT S125 (by decide) rfl) (rfl) ?_
        refine z_b1 (fun c131 => ?_) (fun c131 => ?_)
        · have c131 : ((ez_I h109 71 61)).toInt ≤ 0 := c131
          exfalso; omega
        · have c131 : ¬ (((ez_I h109 71 61)).toInt ≤ 0) := c131
          refine z_go ?_
          have t132 := congrArg Int32.toInt (f129)
          refine u_F17 S125 (by omega) (by omega) (fun h133 x134 F135 k137 => ?_)
          have F136 := zW_tr (zW_mono F126 x74_4 x74_5 x74_6) (zW_mono F135 x74_16 x74_17 x74_6)
          exact K _ _ F136 (.inr ⟨A_sp.trans (unL_n (blU_o (.inl (by omega)))), k137, by rw [(show ez_I h133 71 7 = ez_I h109 71 7 from zW_f F135 (fun c => c) x74_18), (show ez_I h109 71 7 = ez_I h 71 7 from zW_f F126 x74_11 x74_19)], by rw [(show ez_I h133 73 = ez_I h109 73 from zW_fn F135 73 (fun c => c) x74_20), (show ez_I h109 73 = ez_I h 73 from zW_fn F126 73 x74_21 x74_22)]⟩)
    · skip
      have w_ls := z_rng ls
      have w_kd := z_rng kd
      have gls0 := z_rng ls0
      have S2 := zW_sh F S
      have hb2 := bitT_2 T p2
      have hv4 := vB_lt T (p2 + 1) 2
      rw [show (2 ^ 2 : Nat) = 4 from rfl] at hv4
      apply ez_Wp_in
      show ez_gw _ _ _ _ _ _ (cz_60) _ _ _ _ _
      refine gw_skip _ ?_
      have r138 := z_rng (ez_I h2 71 59)
      have r139 := z_rng (ez_I h2 71 61)
      have r140 := z_rng (ez_I h2 71 60)
      refine gw_ld rfl rfl ?_
      refine z_C (m := 3) rfl rfl (fun x141 ex141 => ?_)
      refine z_b2 (fun c142 => ?_) (fun c142 => ?_)
      · have c142 : kd.toInt ≠ x141.toInt := c142
        refine gw_skip _ ?_
        refine gw_ld rfl rfl ?_
        refine z_b1 (fun c143 => ?_) (fun c143 => ?_)
        · have c143 : kd.toInt ≠ 0 := c143
          refine gw_skip _ ?_
          refine gw_ld rfl rfl ?_
          refine z_C (m := 1) rfl rfl (fun x144 ex144 => ?_)
          refine z_b2 (fun c145 => ?_) (fun c145 => ?_)
          · have c145 : kd.toInt ≠ x144.toInt := c145
            refine gw_skip _ ?_
            refine gw_ld rfl rfl ?_
            refine z_C (m := 2) rfl rfl (fun x146 ex146 => ?_)
            refine z_b2 (fun c147 => ?_) (fun c147 => ?_)
            · have c147 : kd.toInt ≠ x146.toInt := c147
              refine gw_skip _ ?_
              exfalso; omega
            · have c147 : ¬ (kd.toInt ≠ x146.toInt) := c147
              refine gw_ld rfl rfl ?_
              refine z_cl rfl rfl rfl rfl rfl rfl rfl rfl rfl rfl rfl (zT S2 (by decide) rfl) ?_
              refine d_hdO (T := T) (n := n) (p2 := p2) (p := p2 + 3) S2 (by rw [(show ez_I h2 72 = ez_I h 72 from zW_fn F 72 x74_9 x74_10)]; exact hT) (by rw [(show ez_I h2 71 6 = ez_I h 71 6 from zW_f F x74_11 x74_12)]; exact hN) hn6 (by omega) (by omega) (by omega) (by rw [(show ez_I h2 96 = ez_I h 96 from zW_fn F 96 x74_23 x74_24)]; exact t96) rfl (by omega) (fun h148 q149 F150 k151 k152 k153 k154 => ?_) (fun h155 F156 k157 k158 k159 => ?_)
              · skip
                have S160 := zW_sh F150 S2
                have F161 := zW_tr F (zW_mono F150 (x74_13) (x74_25) (x74_6))
                have r162 := z_rng (ez_I h148 71 59)
                have r163 := z_rng (ez_I h148 71 61)
                have f164 : ez_I h148 71 60 = (ez_I h2 71 60) := (zW_f F150 (by decide) (by decide)).trans (rfl)
                have A165 : oM (ez_I h148 76) o2 m2 := by rw [zW_fn F150 76 (by decide) (x74_15)]; exact A_or
                have t166 := congrArg Int32.toInt (f164)
                exact ez_Wp_at (ih.2.2.2.2.2 h148 ls kd (l3) p2 o2 m2 q149 F161 (by omega) (A_sp) A165 (k153) (by omega)) rfl
              · skip
                have S167 := zW_sh F156 S2
                have F168 := zW_tr F (zW_mono F156 (x74_13) (x74_25) (x74_6))
                have r169 := z_rng (ez_I h155 71 59)
                have r170 := z_rng (ez_I h155 71 61)
                have f171 : ez_I h155 71 60 = (ez_I h2 71 60) := (zW_f F156 (by decide) (by decide)).trans (rfl)
                have A172 : oM (ez_I h155 76) o2 m2 := by rw [zW_fn F156 76 (by decide) (x74_15)]; exact A_or
                refine gw_ld rfl rfl ?_
                refine z_C (m := 1) rfl rfl (fun x173 ex173 => ?_)
                refine z_b2 (fun c174 => ?_) (fun c174 => ?_)
                · have c174 : kd.toInt = x173.toInt := c174
                  exfalso; omega
                · have c174 : ¬ (kd.toInt = x173.toInt) := c174
                  refine gw_ld rfl rfl ?_
                  refine z_C (m := 2) rfl rfl (fun x175 ex175 => ?_)
                  refine z_b2 (fun c176 => ?_) (fun c176 => ?_)
                  · have c176 : kd.toInt ≠ x175.toInt := c176
                    exfalso; omega
                  · have c176 : ¬ (kd.toInt ≠ x175.toInt) := c176
                    refine gw_ld rfl rfl ?_
                    refine z_gI2 (by decide) (zT S167 (by decide) rfl) (rfl) ?_
                    refine z_b1 (fun c177 => ?_) (fun c177 => ?_)
                    · have c177 : ((ez_I h155 71 61)).toInt ≠ 0 := c177
                      refine gw_skip _ ?_
                      refine z_go ?_
                      have t178 := congrArg Int32.toInt (f171)
                      refine u_F17 S167 (by omega) (by omega) (fun h179 x180 F181 k183 => ?_)
                      have F182 := zW_tr (zW_mono F168 x74_4 x74_5 x74_6) (zW_mono F181 x74_16 x74_17 x74_6)
                      exact K _ _ F182 (.inr ⟨A_sp.trans (unL_n (k157 _ _)), k183, by rw [(show ez_I h179 71 7 = ez_I h155 71 7 from zW_f F181 (fun c => c) x74_18), (show ez_I h155 71 7 = ez_I h 71 7 from zW_f F168 x74_11 x74_19)], by rw [(show ez_I h179 73 = ez_I h155 73 from zW_fn F181 73 (fun c => c) x74_20), (show ez_I h155 73 = ez_I h 73 from zW_fn F168 73 x74_21 x74_22)]⟩)
                    · have c177 : ¬ (((ez_I h155 71 61)).toInt ≠ 0) := c177
                      exfalso; omega
          · have c145 : ¬ (kd.toInt ≠ x144.toInt) := c145
            refine z_C (m := 0) rfl rfl (fun x184 ex184 => ?_)
            refine gw_st rfl rfl rfl ?_
            show ez_gw _ _ _ _ _ _ _ _ [some (.ref 71), some (.int ls), some (.int kd), some (.int x184)] _ _ _
            exact ez_Wp_at (ih.2.2.2.1 h2 ls kd x184 p2 o2 m2 F (by omega) (A_sp) A_or ((fun j hj => by omega)) (by omega)) rfl
        · have c143 : ¬ (kd.toInt ≠ 0) := c143
          refine gw_ld rfl rfl ?_
          refine z_cl rfl rfl rfl rfl rfl rfl rfl rfl rfl rfl rfl (zT S2 (by decide) rfl) ?_
          refine d_stO (T := T) (n := n) (p := p2 + 3) (m := m2) (o := o2) S2 (by rw [(show ez_I h2 72 = ez_I h 72 from zW_fn F 72 x74_9 x74_10)]; exact hT) (by rw [(show ez_I h2 71 6 = ez_I h 71 6 from zW_f F x74_11 x74_12)]; exact hN) hn6 (by omega) (by omega) (by omega) (by omega) (by omega) A_or (fun h185 q186 o187 m188 F189 k190 k191 k192 k193 k194 k195 => ?_) (fun h196 F197 k198 k199 k200 => ?_)
          · have hbl := (blU_0 (T := T) (n := n) (p := p2) (o := o2) (m := m2) (by omega) (by omega) rfl).trans k190
            have hbo : p2 < q186 ∧ q186 ≤ 8 * n := blU_ok hbl
            have S201 := zW_sh F189 S2
            have F202 := zW_tr F (zW_mono F189 (x74_26) (x74_27) (x74_6))
            have r203 := z_rng (ez_I h185 71 59)
            have r204 := z_rng (ez_I h185 71 61)
            have r205 := z_rng (ez_I h185 71 60)
            refine gw_ld rfl rfl ?_
            refine z_C (m := 1) rfl rfl (fun x206 ex206 => ?_)
            refine z_b2 (fun c207 => ?_) (fun c207 => ?_)
            · have c207 : kd.toInt ≠ x206.toInt := c207
              refine gw_skip _ ?_
              refine gw_ld rfl rfl ?_
              refine z_C (m := 2) rfl rfl (fun x208 ex208 => ?_)
              refine z_b2 (fun c209 => ?_) (fun c209 => ?_)
              · have c209 : kd.toInt ≠ x208.toInt := c209
                refine gw_skip _ ?_
                refine gw_ld rfl rfl ?_
                refine z_C (m := 1) rfl rfl (fun x210 ex210 => ?_)
                refine z_b2 (fun c211 => ?_) (fun c211 => ?_)
                · have c211 : kd.toInt = x210.toInt := c211
                  exfalso; omega
                · have c211 : ¬ (kd.toInt = x210.toInt) := c211
                  refine gw_ld rfl rfl ?_
                  refine z_C (m := 2) rfl rfl (fun x212 ex212 => ?_)
                  refine z_b2 (fun c213 => ?_) (fun c213 => ?_)
                  · have c213 : kd.toInt ≠ x212.toInt := c213
                    refine gw_skip _ ?_
                    refine z_go ?_
                    exact ih.1 h185 ls (some (.int kd)) (l3) q186 o187 m188 F202 (by omega) (⟨fun q => A_sp.trans (unL_y hbl (by omega)), fun q => A_sp.trans (unL_z hbl (by omega))⟩) (k194) (by omega)
                  · have c213 : ¬ (kd.toInt ≠ x212.toInt) := c213
                    exfalso; omega
              · have c209 : ¬ (kd.toInt ≠ x208.toInt) := c209
                exfalso; omega
            · have c207 : ¬ (kd.toInt ≠ x206.toInt) := c207
              exfalso; omega
          · have hbn := (blU_0 (T := T) (n := n) (p := p2) (o := o2) (m := m2) (by omega) (by omega) rfl).trans k198
            have S214 := zW_sh F197 S2
            have F215 := zW_tr F (zW_mono F197 (x74_26) (x74_27) (x74_6))
            have r216 := z_rng (ez_I h196 71 59)
            have r217 := z_rng (ez_I h196 71 61)
            have r218 := z_rng (ez_I h196 71 60)
            refine gw_ld rfl rfl ?_
            refine z_C (m := 1) rfl rfl (fun x219 ex219 => ?_)
            refine z_b2 (fun c220 => ?_) (fun c220 => ?_)
            · have c220 : kd.toInt ≠ x219.toInt := c220
              refine gw_skip _ ?_
              refine gw_ld rfl rfl ?_
              refine z_C (m := 2) rfl rfl (fun x221 ex221 => ?_)
              refine z_b2 (fun c222 => ?_) (fun c222 => ?_)
              · have c222 : kd.toInt ≠ x221.toInt := c222
                refine gw_skip _ ?_
                refine gw_ld rfl rfl ?_
                refine z_C (m := 1) rfl rfl (fun x223 ex223 => ?_)
                refine z_b2 (fun c224 => ?_) (fun c224 => ?_)
                · have c224 : kd.toInt = x223.toInt := c224
                  exfalso; omega
                · have c224 : ¬ (kd.toInt = x223.toInt) := c224
                  refine gw_ld rfl rfl ?_
                  refine z_C (m := 2) rfl rfl (fun x225 ex225 => ?_)
                  refine z_b2 (fun c226 => ?_) (fun c226 => ?_)
                  · have c226 : kd.toInt ≠ x225.toInt := c226
                    refine gw_skip _ ?_
                    refine z_go ?_
                    refine u_F17 S214 (by omega) (by omega) (fun h227 x228 F229 k231 => ?_)
                    have F230 := zW_tr (zW_mono F215 x74_4 x74_5 x74_6) (zW_mono F229 x74_16 x74_17 x74_6)
                    exact K _ _ F230 (.inr ⟨A_sp.trans (unL_n hbn), k231, by rw [(show ez_I h227 71 7 = ez_I h196 71 7 from zW_f F229 (fun c => c) x74_18), (show ez_I h196 71 7 = ez_I h 71 7 from zW_f F215 x74_11 x74_19)], by rw [(show ez_I h227 73 = ez_I h196 73 from zW_fn F229 73 (fun c => c) x74_20), (show ez_I h196 73 = ez_I h 73 from zW_fn F215 73 x74_21 x74_22)]⟩)
                  · have c226 : ¬ (kd.toInt ≠ x225.toInt) := c226
                    exfalso; omega
              · have c222 : ¬ (kd.toInt ≠ x221.toInt) := c222
                exfalso; omega
            · have c220 : ¬ (kd.toInt ≠ x219.toInt) := c220
              exfalso; omega
      · have c142 : ¬ (kd.toInt ≠ x141.toInt) := c142
        refine gw_ld rfl rfl ?_
        refine z_C (m := 2) rfl rfl (fun x232 ex232 => ?_)
        refine z_cl rfl rfl rfl rfl rfl rfl rfl rfl rfl rfl rfl (zT S2 (by decide) rfl) ?_
        refine d_wrong (n := x232) S2 (fun h233 F234 k235 k236 => ?_)
        have kw237 := k235 (by omega)
        clear k235 k236
        have S238 := zW_sh F234 S2
        have F239 := zW_tr F (zW_mono F234 (x74_28) (x74_14) (x74_6))
        have f240 : ez_I h233 71 59 = (ez_I h2 71 59) := (zW_f F234 (fun c => c) (by decide)).trans (rfl)
        have r241 := z_rng (ez_I h233 71 61)
        have f242 : ez_I h233 71 60 = (ez_I h2 71 60) := (zW_f F234 (fun c => c) (by decide)).trans (rfl)
        have A243 : oM (ez_I h233 76) o2 m2 := by rw [zW_fn F234 76 (fun c => c) (x74_29)]; exact A_or
        refine gw_ld rfl rfl ?_
        refine z_b1 (fun c244 => ?_) (fun c244 => ?_)
        · have c244 : kd.toInt ≠ 0 := c244
          refine gw_skip _ ?_
          refine gw_ld rfl rfl ?_
          refine z_C (m := 1) rfl rfl (fun x245 ex245 => ?_)
          refine z_b2 (fun c246 => ?_) (fun c246 => ?_)
          · have c246 : kd.toInt ≠ x245.toInt := c246
            refine gw_skip _ ?_
            refine gw_ld rfl rfl ?_
            refine z_C (m := 2) rfl rfl (fun x247 ex247 => ?_)
            refine z_b2 (fun c248 => ?_) (fun c248 => ?_)
            · have c248 : kd.toInt ≠ x247.toInt := c248
              refine gw_skip _ ?_
              refine gw_ld rfl rfl ?_
              refine z_C (m := 1) rfl rfl (fun x249 ex249 => ?_)
              refine z_b2 (fun c250 => ?_) (fun c250 => ?_)
              · have c250 : kd.toInt = x249.toInt := c250
                exfalso; omega
              · have c250 : ¬ (kd.toInt = x249.toInt) := c250
                refine gw_ld rfl rfl ?_
                refine z_C (m := 2) rfl rfl (fun x251 ex251 => ?_)
                refine z_b2 (fun c252 => ?_) (fun c252 => ?_)
                · have c252 : kd.toInt ≠ x251.toInt := c252
                  refine gw_skip _ ?_
                  refine z_go ?_
                  have t253 := congrArg Int32.toInt (f240)
                  have t254 := congrArg Int32.toInt (f242)
                  refine u_F17 S238 (by omega) (by omega) (fun h255 x256 F257 k259 => ?_)
                  have F258 := zW_tr (zW_mono F239 x74_4 x74_5 x74_6) (zW_mono F257 x74_16 x74_17 x74_6)
                  exact K _ _ F258 (.inr ⟨A_sp.trans (unL_n (blU_o (.inr (by omega)))), k259, by rw [(show ez_I h255 71 7 = ez_I h233 71 7 from zW_f F257 (fun c => c) x74_18), (show ez_I h233 71 7 = ez_I h 71 7 from zW_f F239 x74_11 x74_19)], by rw [(show ez_I h255 73 = ez_I h233 73 from zW_fn F257 73 (fun c => c) x74_20), (show ez_I h233 73 = ez_I h 73 from zW_fn F239 73 x74_21 x74_22)]⟩)
                · have c252 : ¬ (kd.toInt ≠ x251.toInt) := c252
                  exfalso; omega
            · have c248 : ¬ (kd.toInt ≠ x247.toInt) := c248
              exfalso; omega
          · have c246 : ¬ (kd.toInt ≠ x245.toInt) := c246
            exfalso; omega
        · have c244 : ¬ (kd.toInt ≠ 0) := c244
          exfalso; omega
    · skip
      have w_ls := z_rng ls
      have w_kd := z_rng kd
      have w_k := z_rng k
      have gls0 := z_rng ls0
      have S2 := zW_sh F S
      have hb2 := bitT_2 T p2
      apply ez_Wp_in
      show ez_gw _ _ _ _ _ _ (cz_60) _ _ _ _ _
      refine gw_skip _ ?_
      have r260 := z_rng (ez_I h2 71 59)
      have r261 := z_rng (ez_I h2 71 61)
      have r262 := z_rng (ez_I h2 71 60)
      refine gw_ld rfl rfl ?_
      refine z_C (m := 288) rfl rfl (fun x263 ex263 => ?_)
      refine z_b2 (fun c264 => ?_) (fun c264 => ?_)
      · have c264 : x263.toInt ≤ k.toInt := c264
        refine gw_skip _ ?_
        refine z_C (m := 0) rfl rfl (fun x265 ex265 => ?_)
        refine gw_st rfl rfl rfl ?_
        show ez_gw _ _ _ _ _ _ _ _ [some (.ref 71), some (.int ls), some (.int kd), some (.int x265)] _ _ _
        exact ez_Wp_at (ih.2.2.2.2.1 h2 ls kd x265 p2 o2 m2 F (by omega) (A_sp) A_or ((by have b1 := A_li; rw [show k.toInt.toNat = 288 by omega] at b1; exact b1)) ((fun j hj => by omega)) (by omega)) rfl
      · have c264 : ¬ (x263.toInt ≤ k.toInt) := c264
        refine gw_ld rfl rfl ?_
        refine z_gR (q := 120) (zT S2 (by decide) rfl) (zRf S2 (by decide) (by decide) rfl) (by decide) ?_
        refine gw_ld rfl rfl ?_
        refine gw_ld rfl rfl ?_
        refine z_C (m := 144) rfl rfl (fun x266 ex266 => ?_)
        refine z_b2 (fun c267 => ?_) (fun c267 => ?_)
        · have c267 : x266.toInt ≤ k.toInt := c267
          refine gw_skip _ ?_
          refine gw_ld rfl rfl ?_
          refine z_C (m := 256) rfl rfl (fun x268 ex268 => ?_)
          refine z_b2 (fun c269 => ?_) (fun c269 => ?_)
          · have c269 : x268.toInt ≤ k.toInt := c269
            refine gw_skip _ ?_
            refine gw_ld rfl rfl ?_
            refine z_C (m := 280) rfl rfl (fun x270 ex270 => ?_)
            refine z_b2 (fun c271 => ?_) (fun c271 => ?_)
            · have c271 : x270.toInt ≤ k.toInt := c271
              refine gw_skip _ ?_
              refine z_C (m := 8) rfl rfl (fun x272 ex272 => ?_)
              refine z_is (n := 288) (zT S2 (by decide) rfl) (zN S2 (by decide) rfl) (by omega) (fun h273 e274 => ?_)
              have S275 := zSh_set S2 e274
              have F276 := zW_setA F e274 (by decide)
              have f277 : ez_I h273 71 59 = (ez_I h2 71 59) := (zI_ne e274 (by omega)).trans (rfl)
              have f278 : ez_I h273 71 61 = (ez_I h2 71 61) := (zI_ne e274 (by omega)).trans (rfl)
              have f279 : ez_I h273 71 60 = (ez_I h2 71 60) := (zI_ne e274 (by omega)).trans (rfl)
              have A280 : oM (ez_I h273 76) o2 m2 := by rw [zI_fn e274 76 (by decide)]; exact A_or
              have A281 : cpN (ez_I h273 120) fxL (k.toInt.toNat + 1) := cpN_s A_li e274 (by omega) (by show x272.toInt = ((if k.toInt.toNat < 144 then 8 else if k.toInt.toNat < 256 then 9 else if k.toInt.toNat < 280 then 7 else 8 : Nat) : Int); rw [if_neg (by omega), if_neg (by omega), if_neg (by omega)]; omega) rfl
              refine z_inc rfl (by rw [show (1 : Int32).toInt = 1 from rfl]; omega) (fun x282 ex282 => ?_)
              rw [show (1 : Int32).toInt = 1 from rfl] at ex282
              show ez_gw _ _ _ _ _ _ _ _ [some (.ref 71), some (.int ls), some (.int kd), some (.int x282)] _ _ _
              refine z_go ?_
              have t283 := congrArg Int32.toInt (f277)
              have t284 := congrArg Int32.toInt (f278)
              have t285 := congrArg Int32.toInt (f279)
              exact ih.2.2.2.1 h273 ls kd x282 p2 o2 m2 F276 (by omega) (A_sp) A280 ((by rw [show x282.toInt.toNat = k.toInt.toNat + 1 by omega]; exact A281)) (by omega)
            · have c271 : ¬ (x270.toInt ≤ k.toInt) := c271
              refine z_C (m := 7) rfl rfl (fun x286 ex286 => ?_)
              refine z_go ?_
              refine gw_skip _ ?_
              refine z_is (n := 288) (zT S2 (by decide) rfl) (zN S2 (by decide) rfl) (by omega) (fun h287 e288 => ?_)
              have S289 := zSh_set S2 e288
              have F290 := zW_setA F e288 (by decide)
              have f291 : ez_I h287 71 59 = (ez_I h2 71 59) := (zI_ne e288 (by omega)).trans (rfl)
              have f292 : ez_I h287 71 61 = (ez_I h2 71 61) := (zI_ne e288 (by omega)).trans (rfl)
              have f293 : ez_I h287 71 60 = (ez_I h2 71 60) := (zI_ne e288 (by omega)).trans (rfl)
              have A294 : oM (ez_I h287 76) o2 m2 := by rw [zI_fn e288 76 (by decide)]; exact A_or
              have A295 : cpN (ez_I h287 120) fxL (k.toInt.toNat + 1) := cpN_s A_li e288 (by omega) (by show x286.toInt = ((if k.toInt.toNat < 144 then 8 else if k.toInt.toNat < 256 then 9 else if k.toInt.toNat < 280 then 7 else 8 : Nat) : Int); rw [if_neg (by omega), if_neg (by omega), if_pos (by omega)]; omega) rfl
              refine z_inc rfl (by rw [show (1 : Int32).toInt = 1 from rfl]; omega) (fun x296 ex296 => ?_)
              rw [show (1 : Int32).toInt = 1 from rfl] at ex296
              show ez_gw _ _ _ _ _ _ _ _ [some (.ref 71), some (.int ls), some (.int kd), some (.int x296)] _ _ _
              refine z_go ?_
              have t297 := congrArg Int32.toInt (f291)
              have t298 := congrArg Int32.toInt (f292)
              have t299 := congrArg Int32.toInt (f293)
              exact ih.2.2.2.1 h287 ls kd x296 p2 o2 m2 F290 (by omega) (A_sp) A294 ((by rw [show x296.toInt.toNat = k.toInt.toNat + 1 by omega]; exact A295)) (by omega)
          · have c269 : ¬ (x268.toInt ≤ k.toInt) := c269
            refine z_C (m := 9) rfl rfl (fun x300 ex300 => ?_)
            refine z_go ?_
            refine gw_skip _ ?_
            refine z_is (n := 288) (zT S2 (by decide) rfl) (zN S2 (by decide) rfl) (by omega) (fun h301 e302 => ?_)
            have S303 := zSh_set S2 e302
            have F304 := zW_setA F e302 (by decide)
            have f305 : ez_I h301 71 59 = (ez_I h2 71 59) := (zI_ne e302 (by omega)).trans (rfl)
            have f306 : ez_I h301 71 61 = (ez_I h2 71 61) := (zI_ne e302 (by omega)).trans (rfl)
            have f307 : ez_I h301 71 60 = (ez_I h2 71 60) := (zI_ne e302 (by omega)).trans (rfl)
            have A308 : oM (ez_I h301 76) o2 m2 := by rw [zI_fn e302 76 (by decide)]; exact A_or
            have A309 : cpN (ez_I h301 120) fxL (k.toInt.toNat + 1) := cpN_s A_li e302 (by omega) (by show x300.toInt = ((if k.toInt.toNat < 144 then 8 else if k.toInt.toNat < 256 then 9 else if k.toInt.toNat < 280 then 7 else 8 : Nat) : Int); rw [if_neg (by omega), if_pos (by omega)]; omega) rfl
            refine z_inc rfl (by rw [show (1 : Int32).toInt = 1 from rfl]; omega) (fun x310 ex310 => ?_)
            rw [show (1 : Int32).toInt = 1 from rfl] at ex310
            show ez_gw _ _ _ _ _ _ _ _ [some (.ref 71), some (.int ls), some (.int kd), some (.int x310)] _ _ _
            refine z_go ?_
            have t311 := congrArg Int32.toInt (f305)
            have t312 := congrArg Int32.toInt (f306)
            have t313 := congrArg Int32.toInt (f307)
            exact ih.2.2.2.1 h301 ls kd x310 p2 o2 m2 F304 (by omega) (A_sp) A308 ((by rw [show x310.toInt.toNat = k.toInt.toNat + 1 by omega]; exact A309)) (by omega)
        · have c267 : ¬ (x266.toInt ≤ k.toInt) := c267
          refine z_C (m := 8) rfl rfl (fun x314 ex314 => ?_)
          refine z_go ?_
          refine gw_skip _ ?_
          refine z_is (n := 288) (zT S2 (by decide) rfl) (zN S2 (by decide) rfl) (by omega) (fun h315 e316 => ?_)
          have S317 := zSh_set S2 e316
          have F318 := zW_setA F e316 (by decide)
          have f319 : ez_I h315 71 59 = (ez_I h2 71 59) := (zI_ne e316 (by omega)).trans (rfl)
          have f320 : ez_I h315 71 61 = (ez_I h2 71 61) := (zI_ne e316 (by omega)).trans (rfl)
          have f321 : ez_I h315 71 60 = (ez_I h2 71 60) := (zI_ne e316 (by omega)).trans (rfl)
          have A322 : oM (ez_I h315 76) o2 m2 := by rw [zI_fn e316 76 (by decide)]; exact A_or
          have A323 : cpN (ez_I h315 120) fxL (k.toInt.toNat + 1) := cpN_s A_li e316 (by omega) (by show x314.toInt = ((if k.toInt.toNat < 144 then 8 else if k.toInt.toNat < 256 then 9 else if k.toInt.toNat < 280 then 7 else 8 : Nat) : Int); rw [if_pos (by omega)]; omega) rfl
          refine z_inc rfl (by rw [show (1 : Int32).toInt = 1 from rfl]; omega) (fun x324 ex324 => ?_)
          rw [show (1 : Int32).toInt = 1 from rfl] at ex324
          show ez_gw _ _ _ _ _ _ _ _ [some (.ref 71), some (.int ls), some (.int kd), some (.int x324)] _ _ _
          refine z_go ?_
          have t325 := congrArg Int32.toInt (f319)
          have t326 := congrArg Int32.toInt (f320)
          have t327 := congrArg Int32.toInt (f321)
          exact ih.2.2.2.1 h315 ls kd x324 p2 o2 m2 F318 (by omega) (A_sp) A322 ((by rw [show x324.toInt.toNat = k.toInt.toNat + 1 by omega]; exact A323)) (by omega)
    · skip
      have w_ls := z_rng ls
      have w_kd := z_rng kd
      have w_k := z_rng k
      have gls0 := z_rng ls0
      have S2 := zW_sh F S
      have hb2 := bitT_2 T p2
      apply ez_Wp_in
      show ez_gw _ _ _ _ _ _ (cz_60) _ _ _ _ _
      refine gw_skip _ ?_
      have r328 := z_rng (ez_I h2 71 59)
      have r329 := z_rng (ez_I h2 71 61)
      have r330 := z_rng (ez_I h2 71 60)
      refine gw_ld rfl rfl ?_
      refine z_C (m := 32) rfl rfl (fun x331 ex331 => ?_)
      refine z_b2 (fun c332 => ?_) (fun c332 => ?_)
      · have c332 : x331.toInt ≤ k.toInt := c332
        refine gw_skip _ ?_
        refine gw_ld rfl rfl ?_
        refine z_C (m := 2) rfl rfl (fun x333 ex333 => ?_)
        refine z_b2 (fun c334 => ?_) (fun c334 => ?_)
        · have c334 : kd.toInt ≠ x333.toInt := c334
          exact gw_skip _ (ez_Wp_at (ih.2.2.2.2.2 h2 ls kd (some (.int k)) p2 o2 m2 (p2 + 3) F (by omega) (A_sp) A_or ((cdP_1 A_li (by have b1 := A_di; rw [show k.toInt.toNat = 32 by omega] at b1; exact b1) (by omega) (by omega))) (by omega)) rfl)
        · have c334 : ¬ (kd.toInt ≠ x333.toInt) := c334
          refine gw_ld rfl rfl ?_
          refine z_cl rfl rfl rfl rfl rfl rfl rfl rfl rfl rfl rfl (zT S2 (by decide) rfl) ?_
          refine d_hdO (T := T) (n := n) (p2 := p2) (p := p2 + 3) S2 (by rw [(show ez_I h2 72 = ez_I h 72 from zW_fn F 72 x74_9 x74_10)]; exact hT) (by rw [(show ez_I h2 71 6 = ez_I h 71 6 from zW_f F x74_11 x74_12)]; exact hN) hn6 (by omega) (by omega) (by omega) (by rw [(show ez_I h2 96 = ez_I h 96 from zW_fn F 96 x74_23 x74_24)]; exact t96) rfl (by omega) (fun h335 q336 F337 k338 k339 k340 k341 => ?_) (fun h342 F343 k344 k345 k346 => ?_)
          · skip
            have S347 := zW_sh F337 S2
            have F348 := zW_tr F (zW_mono F337 (x74_13) (x74_25) (x74_6))
            have r349 := z_rng (ez_I h335 71 59)
            have r350 := z_rng (ez_I h335 71 61)
            have f351 : ez_I h335 71 60 = (ez_I h2 71 60) := (zW_f F337 (by decide) (by decide)).trans (rfl)
            have A352 : oM (ez_I h335 76) o2 m2 := by rw [zW_fn F337 76 (by decide) (x74_15)]; exact A_or
            have t353 := congrArg Int32.toInt (f351)
            exact ez_Wp_at (ih.2.2.2.2.2 h335 ls kd (some (.int k)) p2 o2 m2 q336 F348 (by omega) (A_sp) A352 (k340) (by omega)) rfl
          · skip
            have S354 := zW_sh F343 S2
            have F355 := zW_tr F (zW_mono F343 (x74_13) (x74_25) (x74_6))
            have r356 := z_rng (ez_I h342 71 59)
            have r357 := z_rng (ez_I h342 71 61)
            have f358 : ez_I h342 71 60 = (ez_I h2 71 60) := (zW_f F343 (by decide) (by decide)).trans (rfl)
            have A359 : oM (ez_I h342 76) o2 m2 := by rw [zW_fn F343 76 (by decide) (x74_15)]; exact A_or
            refine gw_ld rfl rfl ?_
            refine z_C (m := 1) rfl rfl (fun x360 ex360 => ?_)
            refine z_b2 (fun c361 => ?_) (fun c361 => ?_)
            · have c361 : kd.toInt = x360.toInt := c361
              exfalso; omega
            · have c361 : ¬ (kd.toInt = x360.toInt) := c361
              refine gw_ld rfl rfl ?_
              refine z_C (m := 2) rfl rfl (fun x362 ex362 => ?_)
              refine z_b2 (fun c363 => ?_) (fun c363 => ?_)
              · have c363 : kd.toInt ≠ x362.toInt := c363
                exfalso; omega
              · have c363 : ¬ (kd.toInt ≠ x362.toInt) := c363
                refine gw_ld rfl rfl ?_
                refine z_gI2 (by decide) (zT S354 (by decide) rfl) (rfl) ?_
                refine z_b1 (fun c364 => ?_) (fun c364 => ?_)
                · have c364 : ((ez_I h342 71 61)).toInt ≠ 0 := c364
                  refine gw_skip _ ?_
                  refine z_go ?_
                  have t365 := congrArg Int32.toInt (f358)
                  refine u_F17 S354 (by omega) (by omega) (fun h366 x367 F368 k370 => ?_)
                  have F369 := zW_tr (zW_mono F355 x74_4 x74_5 x74_6) (zW_mono F368 x74_16 x74_17 x74_6)
                  exact K _ _ F369 (.inr ⟨A_sp.trans (unL_n (k344 _ _)), k370, by rw [(show ez_I h366 71 7 = ez_I h342 71 7 from zW_f F368 (fun c => c) x74_18), (show ez_I h342 71 7 = ez_I h 71 7 from zW_f F355 x74_11 x74_19)], by rw [(show ez_I h366 73 = ez_I h342 73 from zW_fn F368 73 (fun c => c) x74_20), (show ez_I h342 73 = ez_I h 73 from zW_fn F355 73 x74_21 x74_22)]⟩)
                · have c364 : ¬ (((ez_I h342 71 61)).toInt ≠ 0) := c364
                  exfalso; omega
      · have c332 : ¬ (x331.toInt ≤ k.toInt) := c332
        refine gw_ld rfl rfl ?_
        refine z_gR (q := 121) (zT S2 (by decide) rfl) (zRf S2 (by decide) (by decide) rfl) (by decide) ?_
        refine gw_ld rfl rfl ?_
        refine z_C (m := 5) rfl rfl (fun x371 ex371 => ?_)
        refine z_is (n := 32) (zT S2 (by decide) rfl) (zN S2 (by decide) rfl) (by omega) (fun h372 e373 => ?_)
        have S374 := zSh_set S2 e373
        have F375 := zW_setA F e373 (by decide)
        have f376 : ez_I h372 71 59 = (ez_I h2 71 59) := (zI_ne e373 (by omega)).trans (rfl)
        have f377 : ez_I h372 71 61 = (ez_I h2 71 61) := (zI_ne e373 (by omega)).trans (rfl)
        have f378 : ez_I h372 71 60 = (ez_I h2 71 60) := (zI_ne e373 (by omega)).trans (rfl)
        have A379 : oM (ez_I h372 76) o2 m2 := by rw [zI_fn e373 76 (by decide)]; exact A_or
        have A380 : cpN (ez_I h372 120) fxL 288 := by rw [zI_fn e373 120 (by decide)]; exact A_li
        have A381 : cpN (ez_I h372 121) fxD (k.toInt.toNat + 1) := cpN_s A_di e373 (by omega) (by show x371.toInt = ((if k.toInt.toNat < 32 then 5 else 0 : Nat) : Int); rw [if_pos (by omega)]; omega) rfl
        refine z_inc rfl (by rw [show (1 : Int32).toInt = 1 from rfl]; omega) (fun x382 ex382 => ?_)
        rw [show (1 : Int32).toInt = 1 from rfl] at ex382
        show ez_gw _ _ _ _ _ _ _ _ [some (.ref 71), some (.int ls), some (.int kd), some (.int x382)] _ _ _
        refine z_go ?_
        have t383 := congrArg Int32.toInt (f376)
        have t384 := congrArg Int32.toInt (f377)
        have t385 := congrArg Int32.toInt (f378)
        exact ih.2.2.2.2.1 h372 ls kd x382 p2 o2 m2 F375 (by omega) (A_sp) A379 (A380) ((by rw [show x382.toInt.toNat = k.toInt.toNat + 1 by omega]; exact A381)) (by omega)
    · skip
      have w_ls := z_rng ls
      have w_kd := z_rng kd
      have gls0 := z_rng ls0
      have S2 := zW_sh F S
      have hb2 := bitT_2 T p2
      apply ez_Wp_in
      show ez_gw _ _ _ _ _ _ (cz_60) _ _ _ _ _
      refine gw_skip _ ?_
      have r386 := z_rng (ez_I h2 71 59)
      have r387 := z_rng (ez_I h2 71 61)
      have r388 := z_rng (ez_I h2 71 60)
      refine gw_ld rfl rfl ?_
      refine z_C (m := 1) rfl rfl (fun x389 ex389 => ?_)
      refine z_b2 (fun c390 => ?_) (fun c390 => ?_)
      · have c390 : kd.toInt = x389.toInt := c390
        refine gw_skip _ ?_
        refine gw_ld rfl rfl ?_
        refine z_gI2 (by decide) (zT S2 (by decide) rfl) (rfl) ?_
        refine z_b1 (fun c391 => ?_) (fun c391 => ?_)
        · have c391 : ((ez_I h2 71 61)).toInt ≠ 0 := c391
          exfalso; omega
        · have c391 : ¬ (((ez_I h2 71 61)).toInt ≠ 0) := c391
          refine gw_ld rfl rfl ?_
          refine z_cl rfl rfl rfl rfl rfl rfl rfl rfl rfl rfl rfl (zT S2 (by decide) rfl) ?_
          refine d_cdO (T := T) (n := n) (p2 := p2) (p := p3) (m := m2) (o := o2) S2 (by rw [(show ez_I h2 72 = ez_I h 72 from zW_fn F 72 x74_9 x74_10)]; exact hT) (by rw [(show ez_I h2 71 6 = ez_I h 71 6 from zW_f F x74_11 x74_12)]; exact hN) hn6 (by omega) (by omega) (by omega) (by omega) (by omega) A_or (by rw [(show ez_I h2 92 = ez_I h 92 from zW_fn F 92 x74_30 x74_31)]; exact t92) (by rw [(show ez_I h2 93 = ez_I h 93 from zW_fn F 93 x74_32 x74_33)]; exact t93) (by rw [(show ez_I h2 94 = ez_I h 94 from zW_fn F 94 x74_34 x74_35)]; exact t94) (by rw [(show ez_I h2 95 = ez_I h 95 from zW_fn F 95 x74_36 x74_37)]; exact t95) A_cd (fun h392 q393 o394 m395 F396 k397 k398 k399 k400 k401 k402 => ?_) (fun h403 F404 k405 k406 k407 => ?_)
          · have hbl := k397
            have hbo : p2 < q393 ∧ q393 ≤ 8 * n := blU_ok hbl
            have S408 := zW_sh F396 S2
            have F409 := zW_tr F (zW_mono F396 (x74_26) (x74_38) (x74_6))
            have r410 := z_rng (ez_I h392 71 59)
            have r411 := z_rng (ez_I h392 71 61)
            have r412 := z_rng (ez_I h392 71 60)
            have A413 : cdP (ez_I h392 120) (ez_I h392 121) T n p2 p3 := by rw [zW_fn F396 120 (by decide) (x74_39), zW_fn F396 121 (by decide) (x74_40)]; exact A_cd
            refine z_go ?_
            exact ih.1 h392 ls (some (.int kd)) (l3) q393 o394 m395 F409 (by omega) (⟨fun q => A_sp.trans (unL_y hbl (by omega)), fun q => A_sp.trans (unL_z hbl (by omega))⟩) (k401) (by omega)
          · have hbn := k405
            have S414 := zW_sh F404 S2
            have F415 := zW_tr F (zW_mono F404 (x74_26) (x74_38) (x74_6))
            have r416 := z_rng (ez_I h403 71 59)
            have r417 := z_rng (ez_I h403 71 61)
            have r418 := z_rng (ez_I h403 71 60)
            have A419 : cdP (ez_I h403 120) (ez_I h403 121) T n p2 p3 := by rw [zW_fn F404 120 (by decide) (x74_39), zW_fn F404 121 (by decide) (x74_40)]; exact A_cd
            refine z_go ?_
            refine u_F17 S414 (by omega) (by omega) (fun h420 x421 F422 k424 => ?_)
            have F423 := zW_tr (zW_mono F415 x74_4 x74_5 x74_6) (zW_mono F422 x74_16 x74_17 x74_6)
            exact K _ _ F423 (.inr ⟨A_sp.trans (unL_n hbn), k424, by rw [(show ez_I h420 71 7 = ez_I h403 71 7 from zW_f F422 (fun c => c) x74_18), (show ez_I h403 71 7 = ez_I h 71 7 from zW_f F415 x74_11 x74_19)], by rw [(show ez_I h420 73 = ez_I h403 73 from zW_fn F422 73 (fun c => c) x74_20), (show ez_I h403 73 = ez_I h 73 from zW_fn F415 73 x74_21 x74_22)]⟩)
      · have c390 : ¬ (kd.toInt = x389.toInt) := c390
        refine gw_ld rfl rfl ?_
        refine z_C (m := 2) rfl rfl (fun x425 ex425 => ?_)
        refine z_b2 (fun c426 => ?_) (fun c426 => ?_)
        · have c426 : kd.toInt ≠ x425.toInt := c426
          refine gw_skip _ ?_
          exfalso; omega
        · have c426 : ¬ (kd.toInt ≠ x425.toInt) := c426
          refine gw_ld rfl rfl ?_
          refine z_gI2 (by decide) (zT S2 (by decide) rfl) (rfl) ?_
          refine z_b1 (fun c427 => ?_) (fun c427 => ?_)
          · have c427 : ((ez_I h2 71 61)).toInt ≠ 0 := c427
            exfalso; omega
          · have c427 : ¬ (((ez_I h2 71 61)).toInt ≠ 0) := c427
            refine gw_ld rfl rfl ?_
            refine z_cl rfl rfl rfl rfl rfl rfl rfl rfl rfl rfl rfl (zT S2 (by decide) rfl) ?_
            refine d_cdO (T := T) (n := n) (p2 := p2) (p := p3) (m := m2) (o := o2) S2 (by rw [(show ez_I h2 72 = ez_I h 72 from zW_fn F 72 x74_9 x74_10)]; exact hT) (by rw [(show ez_I h2 71 6 = ez_I h 71 6 from zW_f F x74_11 x74_12)]; exact hN) hn6 (by omega) (by omega) (by omega) (by omega) (by omega) A_or (by rw [(show ez_I h2 92 = ez_I h 92 from zW_fn F 92 x74_30 x74_31)]; exact t92) (by rw [(show ez_I h2 93 = ez_I h 93 from zW_fn F 93 x74_32 x74_33)]; exact t93) (by rw [(show ez_I h2 94 = ez_I h 94 from zW_fn F 94 x74_34 x74_35)]; exact t94) (by rw [(show ez_I h2 95 = ez_I h 95 from zW_fn F 95 x74_36 x74_37)]; exact t95) A_cd (fun h428 q429 o430 m431 F432 k433 k434 k435 k436 k437 k438 => ?_) (fun h439 F440 k441 k442 k443 => ?_)
            · have hbl := k433
              have hbo : p2 < q429 ∧ q429 ≤ 8 * n := blU_ok hbl
              have S444 := zW_sh F432 S2
              have F445 := zW_tr F (zW_mono F432 (x74_26) (x74_38) (x74_6))
              have r446 := z_rng (ez_I h428 71 59)
              have r447 := z_rng (ez_I h428 71 61)
              have r448 := z_rng (ez_I h428 71 60)
              have A449 : cdP (ez_I h428 120) (ez_I h428 121) T n p2 p3 := by rw [zW_fn F432 120 (by decide) (x74_39), zW_fn F432 121 (by decide) (x74_40)]; exact A_cd
              refine z_go ?_
              exact ih.1 h428 ls (some (.int kd)) (l3) q429 o430 m431 F445 (by omega) (⟨fun q => A_sp.trans (unL_y hbl (by omega)), fun q => A_sp.trans (unL_z hbl (by omega))⟩) (k437) (by omega)
            · have hbn := k441
              have S450 := zW_sh F440 S2
              have F451 := zW_tr F (zW_mono F440 (x74_26) (x74_38) (x74_6))
              have r452 := z_rng (ez_I h439 71 59)
              have r453 := z_rng (ez_I h439 71 61)
              have r454 := z_rng (ez_I h439 71 60)
              have A455 : cdP (ez_I h439 120) (ez_I h439 121) T n p2 p3 := by rw [zW_fn F440 120 (by decide) (x74_39), zW_fn F440 121 (by decide) (x74_40)]; exact A_cd
              refine z_go ?_
              refine u_F17 S450 (by omega) (by omega) (fun h456 x457 F458 k460 => ?_)
              have F459 := zW_tr (zW_mono F451 x74_4 x74_5 x74_6) (zW_mono F458 x74_16 x74_17 x74_6)
              exact K _ _ F459 (.inr ⟨A_sp.trans (unL_n hbn), k460, by rw [(show ez_I h456 71 7 = ez_I h439 71 7 from zW_f F458 (fun c => c) x74_18), (show ez_I h439 71 7 = ez_I h 71 7 from zW_f F451 x74_11 x74_19)], by rw [(show ez_I h456 73 = ez_I h439 73 from zW_fn F458 73 (fun c => c) x74_20), (show ez_I h439 73 = ez_I h 73 from zW_fn F451 73 x74_21 x74_22)]⟩)
set_option maxRecDepth 4000 in
set_option maxHeartbeats 2000000 in
theorem u_17 {E : Nat → Nat × (Nat → Int32)} {d : Nat} {Q : ez_Q} {h : ez_H} {ls0 : Int32} {l2 : Option Value} {l3 : Option Value} (S : zSh h) {T : Nat → Int} {n : Nat} (hT : tB (ez_I h 72) = T) (hN : (ez_I h 71 6).toInt = (n : Nat)) (hn6 : n ≤ 6000) {U : Option ((Nat → Int) × Nat)} (t92 : ctI (ez_I h 92) LBf 29) (t93 : ctI (ez_I h 93) LEf 29) (t94 : ctI (ez_I h 94) DBf 30) (t95 : ctI (ez_I h 95) DEf 30) (t96 : ctI (ez_I h 96) ORf 19) (hp : (ez_I h 71 59).toInt = 0) (hg : (ez_I h 71 60).toInt = 0) (hf : (ez_I h 71 61).toInt = 0) (hl : ls0.toInt = 0) (hU : U = unL T n (8 * n) 0 (fun _ => 0) 0) (K : ∀ h2 (x : Int32), zW (fun q k => q = 71 ∧ k = 59 ∨ q = 71 ∧ k = 61 ∨ q = 71 ∧ k = 60 ∨ q = 71 ∧ k = 62 ∨ q = 71 ∧ k = 63 ∨ q = 71 ∧ k = 0 ∨ q = 71 ∧ k = 7) (fun q => q = 73 ∨ q = 76 ∨ q = 115 ∨ q = 120 ∨ q = 121 ∨ q = 122 ∨ q = 123) (fun _ => False) h h2 → ((∃ (o2 : Nat → Int) (m2 : Nat), U = some (o2, m2) ∧ (ez_I h2 71 0).toInt = 0 ∧ x.toInt = (m2 : Nat) ∧ (ez_I h2 71 7).toInt = (m2 : Nat) ∧ m2 ≤ 6000 ∧ oM (ez_I h2 73) o2 m2) ∨ (U = none ∧ (ez_I h2 71 0).toInt = 1 ∧ (ez_I h2 71 7).toInt = (ez_I h 71 7).toInt ∧ ez_I h2 73 = ez_I h 73)) → Q (.inl (some (.int x))) h2) : pw E (d + 3) 60 17 [some (.ref 71), some (.int ls0), l2, l3] [] h Q := by
  have gls0 := z_rng ls0
  have F := zW_refl (fun q k => q = 71 ∧ k = 59 ∨ q = 71 ∧ k = 61 ∨ q = 71 ∧ k = 60) (fun q => q = 76 ∨ q = 115 ∨ q = 120 ∨ q = 121 ∨ q = 122 ∨ q = 123) (fun _ => False) h
  apply ez_Wp_in
  show ez_gw _ _ _ _ _ _ (cz_60) _ _ _ _ _
  refine gw_skip _ ?_
  have r1 := z_rng (ez_I h 71 59)
  have r2 := z_rng (ez_I h 71 61)
  have r3 := z_rng (ez_I h 71 60)
  exact ez_Wp_at ((u_17_L0 (ls0 := ls0) (l2 := l2) (l3 := l3) S hT hN hn6 t92 t93 t94 t95 t96 hp hg hf hl hU K (((1000 * (60000 - (0 : Int)) - 0)).toNat + 1)).1 h ls0 (l2) (l3) 0 (fun _ => 0) 0 F (by omega) (⟨fun _ => hU, fun q => by exfalso; omega⟩) ((fun k hk => by omega)) (by omega)) rfl
theorem x74_41 : ∀ q k : Nat, (q = 71 ∧ k = 59 ∨ q = 71 ∧ k = 61 ∨ q = 71 ∧ k = 60 ∨ q = 71 ∧ k = 62 ∨ q = 71 ∧ k = 63 ∨ q = 71 ∧ k = 0 ∨ q = 71 ∧ k = 7) → (q = 71 ∧ k = 59 ∨ q = 71 ∧ k = 61 ∨ q = 71 ∧ k = 60 ∨ q = 71 ∧ k = 62 ∨ q = 71 ∧ k = 63 ∨ q = 71 ∧ k = 0 ∨ q = 71 ∧ k = 7) := fun q k hk => hk.elim (fun g => (.inl g)) (fun hk => hk.elim (fun g => (.inr (.inl g))) (fun hk => hk.elim (fun g => (.inr (.inr (.inl g)))) (fun hk => hk.elim (fun g => (.inr (.inr (.inr (.inl g))))) (fun hk => hk.elim (fun g => (.inr (.inr (.inr (.inr (.inl g)))))) (fun hk => hk.elim (fun g => (.inr (.inr (.inr (.inr (.inr (.inl g))))))) (fun hk => (.inr (.inr (.inr (.inr (.inr (.inr hk))))))))))))
theorem x74_42 : ∀ q : Nat, (q = 73 ∨ q = 76 ∨ q = 115 ∨ q = 120 ∨ q = 121 ∨ q = 122 ∨ q = 123) → (q = 73 ∨ q = 76 ∨ q = 115 ∨ q = 120 ∨ q = 121 ∨ q = 122 ∨ q = 123) := fun q hk => hk.elim (fun g => (.inl g)) (fun hk => hk.elim (fun g => (.inr (.inl g))) (fun hk => hk.elim (fun g => (.inr (.inr (.inl g)))) (fun hk => hk.elim (fun g => (.inr (.inr (.inr (.inl g))))) (fun hk => hk.elim (fun g => (.inr (.inr (.inr (.inr (.inl g)))))) (fun hk => hk.elim (fun g => (.inr (.inr (.inr (.inr (.inr (.inl g))))))) (fun hk => (.inr (.inr (.inr (.inr (.inr (.inr hk))))))))))))
set_option maxRecDepth 4000 in
set_option maxHeartbeats 2000000 in
theorem d_unpackF {E : Nat → Nat × (Nat → Int32)} {d : Nat} {Q : ez_Q} {h : ez_H}  (S : zSh h) (hz : 0 ≤ (ez_I h 71 6).toInt ∧ (ez_I h 71 6).toInt ≤ 6000) (t92 : ctI (ez_I h 92) LBf 29) (t93 : ctI (ez_I h 93) LEf 29) (t94 : ctI (ez_I h 94) DBf 30) (t95 : ctI (ez_I h 95) DEf 30) (t96 : ctI (ez_I h 96) ORf 19) (K : ∀ h2 (x : Int32), zW (fun q k => q = 71 ∧ k = 59 ∨ q = 71 ∧ k = 61 ∨ q = 71 ∧ k = 60 ∨ q = 71 ∧ k = 62 ∨ q = 71 ∧ k = 63 ∨ q = 71 ∧ k = 0 ∨ q = 71 ∧ k = 7) (fun q => q = 73 ∨ q = 76 ∨ q = 115 ∨ q = 120 ∨ q = 121 ∨ q = 122 ∨ q = 123) (fun _ => False) h h2 → ((∃ (o2 : Nat → Int) (m2 : Nat), (unL (tB (ez_I h 72)) (ez_I h 71 6).toInt.toNat (8 * (ez_I h 71 6).toInt.toNat) 0 (fun _ => 0) 0) = some (o2, m2) ∧ (ez_I h2 71 0).toInt = 0 ∧ x.toInt = (m2 : Nat) ∧ (ez_I h2 71 7).toInt = (m2 : Nat) ∧ m2 ≤ 6000 ∧ oM (ez_I h2 73) o2 m2) ∨ ((unL (tB (ez_I h 72)) (ez_I h 71 6).toInt.toNat (8 * (ez_I h 71 6).toInt.toNat) 0 (fun _ => 0) 0) = none ∧ (ez_I h2 71 0).toInt = 1 ∧ (ez_I h2 71 7).toInt = (ez_I h 71 7).toInt ∧ ez_I h2 73 = ez_I h 73)) → Q (.inl (some (.int x))) h2) : pw E (d + 3) 60 0 [some (.ref 71), none, none, none] [] h Q := by
  have F := zW_refl (fun q k => q = 71 ∧ k = 59 ∨ q = 71 ∧ k = 61 ∨ q = 71 ∧ k = 60) (fun _ => False) (fun _ => False) h
  apply ez_Wp_in
  show ez_gw _ _ _ _ _ _ (cz_60) _ _ _ _ _
  refine gw_skip _ ?_
  have r1 := z_rng (ez_I h 71 59)
  have r2 := z_rng (ez_I h 71 61)
  have r3 := z_rng (ez_I h 71 60)
  refine gw_ld rfl rfl ?_
  refine z_C (m := 0) rfl rfl (fun x4 ex4 => ?_)
  refine z_pI (zT S (by decide) rfl) (fun h5 e6 => ?_)
  have S7 := zSh_set S e6
  have F8 := zW_setF F e6 (by decide)
  have f9 : ez_I h5 71 59 = x4 := zI_eq e6
  have f10 : ez_I h5 71 61 = (ez_I h 71 61) := (zI_ne e6 (by decide)).trans (rfl)
  have f11 : ez_I h5 71 60 = (ez_I h 71 60) := (zI_ne e6 (by decide)).trans (rfl)
  refine gw_ld rfl rfl ?_
  refine z_C (m := 0) rfl rfl (fun x12 ex12 => ?_)
  refine z_pI (zT S7 (by decide) rfl) (fun h13 e14 => ?_)
  have S15 := zSh_set S7 e14
  have F16 := zW_setF F8 e14 (by decide)
  have f17 : ez_I h13 71 59 = x4 := (zI_ne e14 (by decide)).trans (f9)
  have f18 : ez_I h13 71 61 = (ez_I h 71 61) := (zI_ne e14 (by decide)).trans (f10)
  have f19 : ez_I h13 71 60 = x12 := zI_eq e14
  refine gw_ld rfl rfl ?_
  refine z_C (m := 0) rfl rfl (fun x20 ex20 => ?_)
  refine z_pI (zT S15 (by decide) rfl) (fun h21 e22 => ?_)
  have S23 := zSh_set S15 e22
  have F24 := zW_setF F16 e22 (by decide)
  have f25 : ez_I h21 71 59 = x4 := (zI_ne e22 (by decide)).trans (f17)
  have f26 : ez_I h21 71 61 = x20 := zI_eq e22
  have f27 : ez_I h21 71 60 = x12 := (zI_ne e22 (by decide)).trans (f19)
  refine z_C (m := 0) rfl rfl (fun x28 ex28 => ?_)
  refine gw_st rfl rfl rfl ?_
  show ez_gw _ _ _ _ _ _ _ _ [some (.ref 71), some (.int x28), none, none] _ _ _
  have t29 := congrArg Int32.toInt (f25)
  have t30 := congrArg Int32.toInt (f26)
  have t31 := congrArg Int32.toInt (f27)
  suffices tl : pw E (d + 3) 60 17 [some (.ref 71), some (.int x28), none, none] [] h21 Q from ez_Wp_at tl rfl
  refine u_17 (T := tB (ez_I h 72)) (n := (ez_I h 71 6).toInt.toNat) (U := (unL (tB (ez_I h 72)) (ez_I h 71 6).toInt.toNat (8 * (ez_I h 71 6).toInt.toNat) 0 (fun _ => 0) 0)) S23 (by rw [(show ez_I h21 72 = ez_I h 72 from zW_fn F24 72 (fun c => c) x74_10)]) (by rw [(show ez_I h21 71 6 = ez_I h 71 6 from zW_f F24 (fun c => c) x74_12)]; omega) (by omega) (by rw [(show ez_I h21 92 = ez_I h 92 from zW_fn F24 92 (fun c => c) x74_31)]; exact t92) (by rw [(show ez_I h21 93 = ez_I h 93 from zW_fn F24 93 (fun c => c) x74_33)]; exact t93) (by rw [(show ez_I h21 94 = ez_I h 94 from zW_fn F24 94 (fun c => c) x74_35)]; exact t94) (by rw [(show ez_I h21 95 = ez_I h 95 from zW_fn F24 95 (fun c => c) x74_37)]; exact t95) (by rw [(show ez_I h21 96 = ez_I h 96 from zW_fn F24 96 (fun c => c) x74_24)]; exact t96) (by omega) (by omega) (by omega) (by omega) rfl (fun h32 x33 F34 k36 => ?_)
  have F35 := zW_tr (zW_mono F24 x74_4 x74_17 x74_6) (zW_mono F34 x74_41 x74_42 x74_6)
  rw [(show ez_I h21 71 7 = ez_I h 71 7 from zW_f F24 (fun c => c) x74_19), (show ez_I h21 73 = ez_I h 73 from zW_fn F24 73 (fun c => c) x74_22)] at k36
  exact K _ _ F35 k36
