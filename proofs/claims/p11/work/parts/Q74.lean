/-! PRINTED by wip/pack: the law: its own helpers -/
theorem zV_m {PF PF2 : Nat → Nat → Prop} {PA PA2 : Nat → Prop} {h h2 : ez_H} (V : zV PF PA h h2) (a : ∀ q k, PF q k → PF2 q k) (b : ∀ q, PA q → PA2 q) : zV PF2 PA2 h h2 := ⟨V.1, fun p k x y => V.2 p k (fun c => x (b p c)) (fun c => y (a p k c))⟩
theorem zV_r {PF : Nat → Nat → Prop} {PA : Nat → Prop} {h : ez_H} (S : zSh h) : zV PF PA h h := ⟨S, fun _ _ _ _ => rfl⟩
theorem zV_b {PF : Nat → Nat → Prop} {PA : Nat → Prop} {h h2 : ez_H} (V : zV PF PA h h2) : zV PF PA h (ez_bump h2) := ⟨V.1, V.2⟩
theorem zV_L {PF : Nat → Nat → Prop} {PA : Nat → Prop} {h h1 h2 : ez_H} {p k : Nat} {v : Int64} (V : zV PF PA h h1) (e : h2 = ez_setL h1 p k v) : zV PF PA h h2 := by subst e; exact V
def lC (h h2 : ez_H) : Prop := ez_n h2 ≤ ez_n h + 1 ∧ ez_u h2 ≤ ez_u h + 6
theorem lC_W {PF : Nat → Nat → Prop} {PA PL : Nat → Prop} {h h2 : ez_H} (F : zW PF PA PL h h2) : lC h h2 := ⟨by rw [F.1]; omega, by rw [F.2.1]; omega⟩
theorem lC_b {PF : Nat → Nat → Prop} {PA PL : Nat → Prop} {h h2 : ez_H} (F : zW PF PA PL h h2) : lC h (ez_bump h2) := ⟨by show ez_n h2 + 1 ≤ _; rw [F.1]; omega, by show ez_u h2 + 6 ≤ _; rw [F.2.1]; omega⟩
theorem lC_b0 (h : ez_H) : lC h (ez_bump h) := ⟨Nat.le_refl _, Nat.le_refl _⟩
theorem lC_L {h h1 h2 : ez_H} {p k : Nat} {v : Int64} (A : lC h h1) (e : h2 = ez_setL h1 p k v) : lC h h2 := by subst e; exact A
theorem lC_t {PF : Nat → Nat → Prop} {PA PL : Nat → Prop} {h h1 h2 : ez_H} (A : lC h h1) (F : zW PF PA PL h1 h2) : lC h h2 := ⟨by rw [F.1]; exact A.1, by rw [F.2.1]; exact A.2⟩
theorem ez_IL {h1 h2 : ez_H} {p k : Nat} {v : Int64} (e : h2 = ez_setL h1 p k v) (q : Nat) : ez_I h2 q = ez_I h1 q := zIL_fn e q
theorem l_takeR {E : Nat → Nat × (Nat → Int32)} {d : Nat} {Q : ez_Q} {h : ez_H} (R : RR h) (hM : zMem h) (K : ∀ h2 (x : Int32), lC h h2 → zV (fun q k => q = 2 ∧ k = 1) (fun q => q = 3) h h2 → ((6000 < (ez_I h 4 1).toInt ∧ ez_I h2 2 1 = ez_I h 2 1 ∧ ez_I h2 3 = ez_I h 3) ∨ ((ez_I h 4 1).toInt ≤ 6000 ∧ (ez_I h2 2 1).toInt = (ez_I h 4 1).toInt ∧ (∀ k : Nat, (k : Int) < (ez_I h 4 1).toInt → ez_I h2 3 k = ez_I h 5 k))) → ((6000 < (ez_I h 4 1).toInt ∧ x.toInt = 1) ∨ ((ez_I h 4 1).toInt ≤ 6000 ∧ x.toInt = 0 ∧ (ez_L h2 126 0).toInt = (ez_I h 4 1).toInt)) → Q (.inl (some (.int x))) h2) : pw E (d + 2) 144 0 [some (.ref 1), some (.ref 126), none] [] h Q := by
  apply ez_Wp_in
  show ez_gw _ _ _ _ _ _ (cz_144) _ _ _ _ _
  refine gw_skip _ ?_
  refine gw_ld rfl rfl ?_
  refine z_C (m := 0) rfl rfl (fun x1 ex1 => ?_)
  refine gw_ld rfl rfl ?_
  refine z_cl rfl rfl rfl rfl rfl rfl rfl rfl rfl rfl rfl (zT R.1 (by decide) rfl) ?_
  refine x_takeF R.1 hM (RR_o R) (fun q => ?_) (fun h2 x F k1 k2 k3 k4 => ?_)
  · show ez_gw _ _ _ _ _ _ _ (12 + 1) [some (.ref 1), some (.ref 126), none] [] _ _
    refine gw_skip _ ?_
    refine z_C (m := 1) rfl rfl (fun x2 ex2 => ?_)
    refine z_ri ?_
    exact K _ _ (lC_b0 h) (zV_b (zV_r R.1)) (.inl ⟨q, rfl, rfl⟩) (.inl ⟨q, by omega⟩)
  · have S2 := zW_sh F R.1
    refine z_i2l (fun l el => ?_)
    refine z_ls (n := 1) (zT S2 (by decide) rfl) (zN S2 (by decide) rfl) (by omega) (fun h3 e3 => ?_)
    refine z_go ?_
    refine gw_skip _ ?_
    refine z_C (m := 0) rfl rfl (fun x2 ex2 => ?_)
    refine z_ri ?_
    exact K _ _ (lC_L (lC_W F) e3) (zV_L (zV_of R.1 F) e3) (.inr ⟨k1, by rw [ez_IL e3]; exact k3, fun k hk => by rw [ez_IL e3]; exact k4 k hk⟩) (.inr ⟨k1, by omega, by rw [show x1.toInt.toNat = 0 by omega] at e3; rw [zL_eq e3, el, k2]; exact k3⟩)
theorem x77_2 : ¬ (30 ≤ 4 ∧ 4 ≤ 35 ∨ 37 ≤ 4 ∧ 4 ≤ 42 ∨ 44 ≤ 4 ∧ 4 ≤ 49 ∨ 4 = 70 ∨ 4 = 51) := by omega
theorem x77_3 : ¬ (30 ≤ 5 ∧ 5 ≤ 35 ∨ 37 ≤ 5 ∧ 5 ≤ 42 ∨ 44 ≤ 5 ∧ 5 ≤ 49 ∨ 5 = 70 ∨ 5 = 51) := by omega
theorem x77_4 : ¬ (4 = 69 ∧ 1 = 2 ∨ 4 = 69 ∧ 1 = 3 ∨ 4 = 69 ∧ 1 = 6 ∨ 4 = 29 ∧ 1 = 4 ∨ 4 = 36 ∧ 1 = 4 ∨ 4 = 43 ∧ 1 = 4 ∨ 4 = 50 ∧ 1 = 1 ∨ 4 = 69 ∧ 1 = 1) := by omega
theorem x77_5 : ∀ k : Nat, ¬ (5 = 69 ∧ k = 2 ∨ 5 = 69 ∧ k = 3 ∨ 5 = 69 ∧ k = 6 ∨ 5 = 29 ∧ k = 4 ∨ 5 = 36 ∧ k = 4 ∨ 5 = 43 ∧ k = 4 ∨ 5 = 50 ∧ k = 1 ∨ 5 = 69 ∧ k = 1) := fun k c => by omega
theorem x77_6 : ∀ q k : Nat, (q = 69 ∧ k = 2 ∨ q = 69 ∧ k = 3 ∨ q = 69 ∧ k = 6 ∨ q = 29 ∧ k = 4 ∨ q = 36 ∧ k = 4 ∨ q = 43 ∧ k = 4 ∨ q = 50 ∧ k = 1 ∨ q = 69 ∧ k = 1) → (q = 69 ∧ k = 2 ∨ q = 69 ∧ k = 3 ∨ q = 69 ∧ k = 6 ∨ q = 29 ∧ k = 4 ∨ q = 36 ∧ k = 4 ∨ q = 43 ∧ k = 4 ∨ q = 50 ∧ k = 1 ∨ q = 69 ∧ k = 1 ∨ q = 4 ∧ k = 1) := fun q k hk => hk.elim (fun g => (.inl g)) (fun hk => hk.elim (fun g => (.inr (.inl g))) (fun hk => hk.elim (fun g => (.inr (.inr (.inl g)))) (fun hk => hk.elim (fun g => (.inr (.inr (.inr (.inl g))))) (fun hk => hk.elim (fun g => (.inr (.inr (.inr (.inr (.inl g)))))) (fun hk => hk.elim (fun g => (.inr (.inr (.inr (.inr (.inr (.inl g))))))) (fun hk => hk.elim (fun g => (.inr (.inr (.inr (.inr (.inr (.inr (.inl g)))))))) (fun hk => (.inr (.inr (.inr (.inr (.inr (.inr (.inr (.inl hk)))))))))))))))
theorem x77_7 : ∀ q : Nat, (30 ≤ q ∧ q ≤ 35 ∨ 37 ≤ q ∧ q ≤ 42 ∨ 44 ≤ q ∧ q ≤ 49 ∨ q = 70 ∨ q = 51) → (30 ≤ q ∧ q ≤ 35 ∨ 37 ≤ q ∧ q ≤ 42 ∨ 44 ≤ q ∧ q ≤ 49 ∨ q = 70 ∨ q = 51 ∨ q = 5) := fun q hk => hk.elim (fun g => (.inl g)) (fun hk => hk.elim (fun g => (.inr (.inl g))) (fun hk => hk.elim (fun g => (.inr (.inr (.inl g)))) (fun hk => hk.elim (fun g => (.inr (.inr (.inr (.inl g))))) (fun hk => (.inr (.inr (.inr (.inr (.inl hk)))))))))
theorem l_unpackR {E : Nat → Nat × (Nat → Int32)} {d : Nat} {Q : ez_Q} {h : ez_H} (R : RR h) (hE : zE E) (hM : zMem h) (K : ∀ h2 (x : Int32), lC h h2 → zV (fun q k => q = 69 ∧ k = 2 ∨ q = 69 ∧ k = 3 ∨ q = 69 ∧ k = 6 ∨ q = 29 ∧ k = 4 ∨ q = 36 ∧ k = 4 ∨ q = 43 ∧ k = 4 ∨ q = 50 ∧ k = 1 ∨ q = 69 ∧ k = 1 ∨ q = 4 ∧ k = 1) (fun q => 30 ≤ q ∧ q ≤ 35 ∨ 37 ≤ q ∧ q ≤ 42 ∨ 44 ≤ q ∧ q ≤ 49 ∨ q = 70 ∨ q = 51 ∨ q = 5) h h2 → (((unL (tI (ez_I h 3)) (ez_I h 2 1).toInt.toNat (8 * (ez_I h 2 1).toInt.toNat) 0 (fun _ => 0) 0) = none ∧ ez_I h2 4 1 = ez_I h 4 1 ∧ ez_I h2 5 = ez_I h 5) ∨ ∃ (o2 : Nat → Int) (m2 : Nat), (unL (tI (ez_I h 3)) (ez_I h 2 1).toInt.toNat (8 * (ez_I h 2 1).toInt.toNat) 0 (fun _ => 0) 0) = some (o2, m2) ∧ (ez_I h2 4 1).toInt = (m2 : Nat) ∧ m2 ≤ 6000 ∧ oR (ez_I h2 5) o2 m2) → (((unL (tI (ez_I h 3)) (ez_I h 2 1).toInt.toNat (8 * (ez_I h 2 1).toInt.toNat) 0 (fun _ => 0) 0) = none ∧ x.toInt = 1) ∨ ∃ (o2 : Nat → Int) (m2 : Nat), (unL (tI (ez_I h 3)) (ez_I h 2 1).toInt.toNat (8 * (ez_I h 2 1).toInt.toNat) 0 (fun _ => 0) 0) = some (o2, m2) ∧ x.toInt = 0 ∧ (ez_L h2 126 0).toInt = (m2 : Nat)) → Q (.inl (some (.int x))) h2) : pw E (d + 7) 145 0 [some (.ref 1), some (.ref 126), none] [] h Q := by
  apply ez_Wp_in
  show ez_gw _ _ _ _ _ _ (cz_145) _ _ _ _ _
  refine gw_skip _ ?_
  refine gw_ld rfl rfl ?_
  refine z_C (m := 0) rfl rfl (fun x1 ex1 => ?_)
  refine gw_ld rfl rfl ?_
  refine z_cl rfl rfl rfl rfl rfl rfl rfl rfl rfl rfl rfl (zT R.1 (by decide) rfl) ?_
  refine x_unpackF R.1 hE hM (RR_z R) (RR_b R) R.2.1.1.1 R.2.1.1.2.2.2.1 R.2.1.1.2.2.2.2.1 R.2.1.1.2.2.2.2.2 R.2.1.2.1 R.2.1.2.2.2.2.1 R.2.1.2.2.2.2.2.1 R.2.1.2.2.2.2.2.2 R.2.1.1.2.2.1 R.2.1.2.2.2.1 (fun q h2 F => ?_) (fun h2 x F o2 m2 k1 k2 k3 k4 k5 => ?_)
  · show ez_gw _ _ _ _ _ _ _ (12 + 1) [some (.ref 1), some (.ref 126), none] [] _ _
    refine gw_skip _ ?_
    refine z_C (m := 1) rfl rfl (fun x2 ex2 => ?_)
    refine z_ri ?_
    exact K _ _ (lC_b F) (zV_b (zV_m (zV_of R.1 F) x77_6 x77_7)) (.inl ⟨q, show ez_I h2 4 1 = ez_I h 4 1 from zW_f F x77_2 x77_4, show ez_I h2 5 = ez_I h 5 from zW_fn F 5 x77_3 x77_5⟩) (.inl ⟨q, by omega⟩)
  · have S2 := zW_sh F R.1
    refine z_i2l (fun l el => ?_)
    refine z_ls (n := 1) (zT S2 (by decide) rfl) (zN S2 (by decide) rfl) (by omega) (fun h3 e3 => ?_)
    refine z_go ?_
    refine gw_skip _ ?_
    refine z_C (m := 0) rfl rfl (fun x2 ex2 => ?_)
    refine z_ri ?_
    exact K _ _ (lC_L (lC_W F) e3) (zV_L (zV_of R.1 F) e3) (.inr ⟨o2, m2, k1, by rw [ez_IL e3]; exact k3, k4, by rw [ez_IL e3]; exact k5⟩) (.inr ⟨o2, m2, k1, by omega, by rw [show x1.toInt.toNat = 0 by omega] at e3; rw [zL_eq e3, el]; exact k2⟩)
theorem x77_8 : ∀ q k : Nat, (False) → (False) := fun q k hk => hk.elim
theorem x77_9 : ∀ q : Nat, (q = 7) → (q = 7 ∨ q = 8 ∨ q = 10 ∨ q = 13) := fun q hk => (.inl hk)
theorem x77_10 : ∀ q : Nat, (q = 10 ∨ q = 13 ∨ q = 8) → (q = 7 ∨ q = 8 ∨ q = 10 ∨ q = 13) := fun q hk => hk.elim (fun g => (.inr (.inr (.inl g)))) (fun hk => hk.elim (fun g => (.inr (.inr (.inr g)))) (fun hk => (.inr (.inl hk))))
theorem l_weighR {E : Nat → Nat × (Nat → Int32)} {d : Nat} {Q : ez_Q} {h : ez_H} {y w : Int32} (R : RR h) (hM : zMem h) (K : ∀ h2 (x : Int32), lC h h2 → zV (fun _ _ => False) (fun q => q = 7 ∨ q = 8 ∨ q = 10 ∨ q = 13) h h2 → aR (ez_I h2 7) 64 0 1000000 → Q (.inl (some (.int x))) h2) : pw E (d + 1) 146 0 [some (.ref 1), some (.int y), some (.int w), none] [] h Q := by
  apply ez_Wp_in
  show ez_gw _ _ _ _ _ _ (cz_146) _ _ _ _ _
  refine gw_skip _ ?_
  refine gw_ld rfl rfl ?_
  refine gw_ld rfl rfl ?_
  refine gw_ld rfl rfl ?_
  refine z_cl rfl rfl rfl rfl rfl rfl rfl rfl rfl rfl rfl (zT R.1 (by decide) rfl) ?_
  refine f_weigh R.1 hM (fun q => ?_) (fun q q2 => ?_) (fun h2 F q v => ?_)
  · show ez_gw _ _ _ _ _ _ _ (10 + 1) [some (.ref 1), some (.int y), some (.int w), none] [] _ _
    refine gw_skip _ ?_
    refine z_C (m := 1) rfl rfl (fun x2 ex2 => ?_)
    refine z_ri ?_
    exact K _ _ (lC_b0 h) (zV_b (zV_r R.1)) R.2.2.2.1.1
  · show ez_gw _ _ _ _ _ _ _ (13 + 1) [some (.ref 1), some (.int y), some (.int w), none] [] _ _
    refine gw_skip _ ?_
    refine z_C (m := 2) rfl rfl (fun x2 ex2 => ?_)
    refine z_ri ?_
    exact K _ _ (lC_b0 h) (zV_b (zV_r R.1)) R.2.2.2.1.1
  · refine z_go ?_
    refine gw_skip _ ?_
    refine z_C (m := 0) rfl rfl (fun x2 ex2 => ?_)
    refine z_ri ?_
    refine K _ _ (lC_W (zW_ofK F)) (zV_m (zV_of R.1 (zW_ofK F)) x77_8 x77_9) (fun k hk => ?_)
    by_cases e : k = y.toInt.toNat
    · rw [e, v.1]; exact ⟨q.2.2.1, q.2.2.2⟩
    · rw [v.2 k e]; exact R.2.2.2.1.1 k hk
theorem l_measureR {E : Nat → Nat × (Nat → Int32)} {d : Nat} {Q : ez_Q} {h : ez_H} {m : Int32} (R : RR h) (hE : zE E) (hM : zMem h) (K : ∀ h2 (x : Int32), lC h h2 → zV (fun _ _ => False) (fun q => q = 7 ∨ q = 8 ∨ q = 10 ∨ q = 13) h h2 → aR (ez_I h2 7) 64 0 1000000 → Q (.inl (some (.int x))) h2) : pw E (d + 4) 147 0 [some (.ref 1), some (.int m), some (.ref 126), none] [] h Q := by
  apply ez_Wp_in
  show ez_gw _ _ _ _ _ _ (cz_147) _ _ _ _ _
  refine gw_skip _ ?_
  refine gw_ld rfl rfl ?_
  refine z_C (m := 0) rfl rfl (fun x1 ex1 => ?_)
  refine gw_ld rfl rfl ?_
  refine gw_ld rfl rfl ?_
  refine z_cl rfl rfl rfl rfl rfl rfl rfl rfl rfl rfl rfl (zT R.1 (by decide) rfl) ?_
  refine f_measure R.1 hE hM R.2.2.2.1.1 (fun q => ?_) (fun q q2 => ?_) (fun h2 x F q q2 lp ws => ?_)
  · show ez_gw _ _ _ _ _ _ _ (13 + 1) [some (.ref 1), some (.int m), some (.ref 126), none] [] _ _
    refine gw_skip _ ?_
    refine z_C (m := 1) rfl rfl (fun x2 ex2 => ?_)
    refine z_ri ?_
    exact K _ _ (lC_b0 h) (zV_b (zV_r R.1)) R.2.2.2.1.1
  · show ez_gw _ _ _ _ _ _ _ (16 + 1) [some (.ref 1), some (.int m), some (.ref 126), none] [] _ _
    refine gw_skip _ ?_
    refine z_C (m := 2) rfl rfl (fun x2 ex2 => ?_)
    refine z_ri ?_
    exact K _ _ (lC_b0 h) (zV_b (zV_r R.1)) R.2.2.2.1.1
  · have FW := zW_ofK F
    have S2 := zW_sh FW R.1
    refine z_i2l (fun l el => ?_)
    refine z_ls (n := 1) (zT S2 (by decide) rfl) (zN S2 (by decide) rfl) (by omega) (fun h3 e3 => ?_)
    refine z_go ?_
    refine gw_skip _ ?_
    refine z_C (m := 0) rfl rfl (fun x2 ex2 => ?_)
    refine z_ri ?_
    exact K _ _ (lC_L (lC_W FW) e3) (zV_L (zV_m (zV_of R.1 FW) x77_8 x77_10) e3) (by rw [ez_IL e3, zW_fn FW 7 (by omega) (fun _ c => c)]; exact R.2.2.2.1.1)
theorem m_wR {h h2 : ez_H} {y w : Int32} (A : aR (ez_I h 124) 64 0 1000000) (k1 : (0 ≤ y.toInt ∧ y.toInt < 64 ∧ 0 ≤ w.toInt ∧ w.toInt ≤ 1000000) → ez_I h2 124 y.toInt.toNat = w ∧ ∀ k, k ≠ y.toInt.toNat → ez_I h2 124 k = ez_I h 124 k) (k2 : ¬ (0 ≤ y.toInt ∧ y.toInt < 64 ∧ 0 ≤ w.toInt ∧ w.toInt ≤ 1000000) → ez_I h2 124 = ez_I h 124) : aR (ez_I h2 124) 64 0 1000000 := by
  by_cases c : 0 ≤ y.toInt ∧ y.toInt < 64 ∧ 0 ≤ w.toInt ∧ w.toInt ≤ 1000000
  · intro k hk
    by_cases e : k = y.toInt.toNat
    · rw [e, (k1 c).1]; exact ⟨c.2.2.1, c.2.2.2⟩
    · rw [(k1 c).2 k e]; exact A k hk
  · rw [k2 c]; exact A
