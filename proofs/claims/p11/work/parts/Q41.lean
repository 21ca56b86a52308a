/-! PRINTED by wip/pack: end of both -/
/-- the ready bytes laid n by n behind z -/
def enT (f g : Nat → Int32) (z n : Nat) (i : Nat) : Int32 := if i < z then f i else g ((i - z) % n)
def enM (f g : Nat → Int32) (z n : Nat) (i : Nat) : Int32 := if i < z then f i else (g ((i - z) % n)).toInt8.toInt32
theorem en_0 {f g : Nat → Int32} {z n i : Nat} (h : i < z) : enT f g z n i = f i := if_pos h
theorem em_0 {f g : Nat → Int32} {z n i : Nat} (h : i < z) : enM f g z n i = f i := if_pos h
theorem md_0 {a j n : Nat} (h : a % n = 0) (hj : j < n) : (a + j) % n = j := by rw [Nat.add_mod, h, Nat.zero_add, Nat.mod_mod, Nat.mod_eq_of_lt hj]
theorem en_v {f g : Nat → Int32} {z n a j : Nat} (h : a % n = 0) (hj : j < n) : enT f g z n (z + a + j) = g j := by
  unfold enT
  rw [if_neg (by omega), show z + a + j - z = a + j by omega, md_0 h hj]
theorem em_v {f g : Nat → Int32} {z n a j : Nat} (h : a % n = 0) (hj : j < n) : enM f g z n (z + a + j) = (g j).toInt8.toInt32 := by
  unfold enM
  rw [if_neg (by omega), show z + a + j - z = a + j by omega, md_0 h hj]
theorem en_s {f f2 : Nat → Int32} {e : Nat → Int32} {m k : Nat} {v : Int32} (A : ∀ i, i < m + k → f i = e i) (h1 : f2 (m + k) = v) (h2 : ∀ i, i ≠ m + k → f2 i = f i) (hv : v = e (m + k)) : ∀ i, i < m + (k + 1) → f2 i = e i := fun i hi => by
  by_cases q : i = m + k
  · rw [q, h1, hv]
  · rw [h2 i q]; exact A i (by omega)
theorem z_b0 {y : Int32} (h : y.toInt = 0) : (y.toInt8.toInt32).toInt = 0 := by
  have h1 := n_i2b y
  have h2 := n_i2b_rng y
  omega
theorem x65_0 : ∀ q k : Nat, (q = 2 ∧ k = 1) → (q = 2 ∧ k = 1) := fun q k hk => hk
theorem x65_1 : ∀ q : Nat, (q = 3) → (q = 3 ∨ q = 6) := fun q hk => (.inl hk)
theorem x65_2 : ∀ q : Nat, (False) → (False) := fun q hk => hk.elim
theorem x65_3 : ∀ k : Nat, ¬ (6 = 2 ∧ k = 1) := fun k c => by omega
set_option maxRecDepth 4000 in
set_option maxHeartbeats 2000000 in
theorem x_endF_L0 {E : Nat → Nat × (Nat → Int32)} {d : Nat} {Q : ez_Q} {h : ez_H} {n : Int32} {t : Int32} (S : zSh h) (hz : 0 ≤ (ez_I h 2 1).toInt ∧ (ez_I h 2 1).toInt ≤ 6000) (K : ∀ h2 (x : Int32), zW (fun q k => q = 2 ∧ k = 1) (fun q => q = 3 ∨ q = 6) (fun _ => False) h h2 → (((0 ≤ n.toInt ∧ n.toInt ≤ 20 ∧ 1 ≤ t.toInt ∧ t.toInt ≤ 100 ∧ (ez_I h 2 1).toInt + n.toInt * t.toInt ≤ 6000) ∧ x.toInt = (ez_I h 2 1).toInt + n.toInt * t.toInt ∧ (ez_I h2 2 1).toInt = (ez_I h 2 1).toInt + n.toInt * t.toInt ∧ (∀ i : Nat, (i : Int) < (ez_I h 2 1).toInt + n.toInt * t.toInt → ez_I h2 3 i = enT (ez_I h 3) (ez_I h 6) (ez_I h 2 1).toInt.toNat n.toInt.toNat i) ∧ (∀ k, k < 20 → (ez_I h2 6 k).toInt = 0)) ∨ (¬ (0 ≤ n.toInt ∧ n.toInt ≤ 20 ∧ 1 ≤ t.toInt ∧ t.toInt ≤ 100 ∧ (ez_I h 2 1).toInt + n.toInt * t.toInt ≤ 6000) ∧ x.toInt = -1 ∧ ez_I h2 2 1 = ez_I h 2 1 ∧ ez_I h2 3 = ez_I h 3 ∧ ez_I h2 6 = ez_I h 6)) → Q (.inl (some (.int x))) h2) : ∀ N : Nat, (∀ (h2 : ez_H) (r : Int32) (l4 : Option Value) (a : Nat), zW (fun q k => q = 2 ∧ k = 1) (fun q => q = 3 ∨ q = 6) (fun _ => False) h h2 → ((0 ≤ n.toInt ∧ n.toInt ≤ 20 ∧ 1 ≤ t.toInt ∧ t.toInt ≤ 100 ∧ (ez_I h 2 1).toInt + n.toInt * t.toInt ≤ 6000) ∧ 0 ≤ r.toInt ∧ r.toInt ≤ t.toInt ∧ (a : Int) = r.toInt * n.toInt ∧ (ez_I h2 2 1).toInt = (ez_I h 2 1).toInt + a ∧ a % n.toInt.toNat = 0) → (ez_I h2 6 = ez_I h 6) → ((∀ i, i < (ez_I h 2 1).toInt.toNat + a → ez_I h2 3 i = enT (ez_I h 3) (ez_I h 6) (ez_I h 2 1).toInt.toNat n.toInt.toNat i)) → (1000 * (200 - r.toInt)) < (N : Int) → pw E (d + 1) 2 42 [some (.ref 1), some (.int n), some (.int t), some (.int r), l4] [] h2 Q) ∧ (∀ (h2 : ez_H) (r : Int32) (j : Int32) (a : Nat), zW (fun q k => q = 2 ∧ k = 1) (fun q => q = 3 ∨ q = 6) (fun _ => False) h h2 → ((0 ≤ n.toInt ∧ n.toInt ≤ 20 ∧ 1 ≤ t.toInt ∧ t.toInt ≤ 100 ∧ (ez_I h 2 1).toInt + n.toInt * t.toInt ≤ 6000) ∧ 0 ≤ r.toInt ∧ r.toInt < t.toInt ∧ (a : Int) = r.toInt * n.toInt ∧ 0 ≤ j.toInt ∧ j.toInt ≤ n.toInt ∧ (ez_I h2 2 1).toInt = (ez_I h 2 1).toInt + a + j.toInt ∧ a % n.toInt.toNat = 0) → (ez_I h2 6 = ez_I h 6) → ((∀ i, i < (ez_I h 2 1).toInt.toNat + a + j.toInt.toNat → ez_I h2 3 i = enT (ez_I h 3) (ez_I h 6) (ez_I h 2 1).toInt.toNat n.toInt.toNat i)) → (1000 * (200 - r.toInt) - 1 - j.toInt) < (N : Int) → pw E (d + 1) 2 50 [some (.ref 1), some (.int n), some (.int t), some (.int r), some (.int j)] [] h2 Q) := by
  intro N
  induction N with
  | zero => exact ⟨fun h2 r l4 a F hinv A_b6 A_en hm => absurd hm (by have w_r := z_rng r; have gn := z_rng n; have gt := z_rng t; have hmul := fun (q1 : 0 ≤ n.toInt ∧ n.toInt ≤ 20) (q2 : 0 ≤ t.toInt ∧ t.toInt ≤ 100) => mulB (x := n.toInt) (y := t.toInt) (a := 20) (b := 100) (c := 2000) q1 q2 (by decide); omega), fun h2 r j a F hinv A_b6 A_en hm => absurd hm (by have w_r := z_rng r; have w_j := z_rng j; have gn := z_rng n; have gt := z_rng t; have hmul := fun (q1 : 0 ≤ n.toInt ∧ n.toInt ≤ 20) (q2 : 0 ≤ t.toInt ∧ t.toInt ≤ 100) => mulB (x := n.toInt) (y := t.toInt) (a := 20) (b := 100) (c := 2000) q1 q2 (by decide); omega)⟩
  | succ N ih =>
    refine ⟨fun h2 r l4 a F hinv A_b6 A_en hm => ?_, fun h2 r j a F hinv A_b6 A_en hm => ?_⟩
    · skip
      have w_r := z_rng r
      have gn := z_rng n
      have gt := z_rng t
      have hmul := fun (q1 : 0 ≤ n.toInt ∧ n.toInt ≤ 20) (q2 : 0 ≤ t.toInt ∧ t.toInt ≤ 100) => mulB (x := n.toInt) (y := t.toInt) (a := 20) (b := 100) (c := 2000) q1 q2 (by decide)
      have S2 := zW_sh F S
      have hm1 : r.toInt < t.toInt → (r.toInt + 1) * n.toInt ≤ t.toInt * n.toInt := fun q => Int.mul_le_mul_of_nonneg_right (by omega) (by omega)
      have hm2 : (r.toInt + 1) * n.toInt = r.toInt * n.toInt + n.toInt := by rw [Int.add_mul, Int.one_mul]
      have hm3 : t.toInt * n.toInt = n.toInt * t.toInt := Int.mul_comm _ _
      apply ez_Wp_in
      show ez_gw _ _ _ _ _ _ (cz_2) _ _ _ _ _
      refine gw_skip _ ?_
      have r1 := z_rng (ez_I h2 2 1)
      refine gw_ld rfl rfl ?_
      refine gw_ld rfl rfl ?_
      refine z_b2 (fun c2 => ?_) (fun c2 => ?_)
      · have c2 : t.toInt ≤ r.toInt := c2
        refine gw_skip _ ?_
        have hrt : r.toInt = t.toInt := by omega
        have hrn : r.toInt * n.toInt = n.toInt * t.toInt := by rw [hrt, Int.mul_comm]
        refine gw_ld rfl rfl ?_
        refine z_gR (q := 6) (zT S2 (by decide) rfl) (zRf S2 (by decide) (by decide) rfl) (by decide) ?_
        refine z_C (m := 0) rfl rfl (fun x3 ex3 => ?_)
        refine z_cl rfl rfl rfl rfl rfl rfl rfl rfl rfl rfl rfl (trivial) ?_
        refine wp_fill (zT S2 (by decide) rfl) (by rw [show ez_l h2 6 = 20 from zN S2 (by decide) rfl]; omega) ?_
        generalize e5 : ez_rowI h2 6 (pf_fill (ez_I h2 6) (ez_l h2 6) x3) = h4
        have e5 := e5.symm
        have A6 := zIr_at e5 (show ez_l h2 6 = 20 from zN S2 (by decide) rfl)
        have S7 := zSh_row S2 e5
        have F8 := zW_row F e5 (by omega)
        have A9 : (∀ i, i < (ez_I h 2 1).toInt.toNat + a → ez_I h4 3 i = enT (ez_I h 3) (ez_I h 6) (ez_I h 2 1).toInt.toNat n.toInt.toNat i) := by rw [zIr_fn e5 3 (by omega)]; exact A_en
        have f10 : ez_I h4 2 1 = (ez_I h2 2 1) := (zI_row e5 (by omega)).trans (rfl)
        have A11 : (∀ k, k < 20 → ez_I h4 6 k = x3) := A6
        refine gw_ld rfl rfl ?_
        refine z_gR (q := 2) (zT S7 (by decide) rfl) (zRf S7 (by decide) (by decide) rfl) (by decide) ?_
        refine z_gI2 (by decide) (zT S7 (by decide) rfl) (f10) ?_
        refine z_ri ?_
        have t12 := congrArg Int32.toInt (f10)
        exact K _ _ F8 (.inl ⟨by omega, by omega, by omega, (fun i hi => A9 i (by omega)), (fun k hk => by rw [A11 k hk]; omega)⟩)
      · have c2 : ¬ (t.toInt ≤ r.toInt) := c2
        refine z_C (m := 0) rfl rfl (fun x13 ex13 => ?_)
        refine gw_st rfl rfl rfl ?_
        show ez_gw _ _ _ _ _ _ _ _ [some (.ref 1), some (.int n), some (.int t), some (.int r), some (.int x13)] _ _ _
        exact ez_Wp_at (ih.2 h2 r x13 a F (by omega) A_b6 ((by rw [show x13.toInt.toNat = 0 by omega]; exact A_en)) (by omega)) rfl
    · skip
      have w_r := z_rng r
      have w_j := z_rng j
      have gn := z_rng n
      have gt := z_rng t
      have hmul := fun (q1 : 0 ≤ n.toInt ∧ n.toInt ≤ 20) (q2 : 0 ≤ t.toInt ∧ t.toInt ≤ 100) => mulB (x := n.toInt) (y := t.toInt) (a := 20) (b := 100) (c := 2000) q1 q2 (by decide)
      have S2 := zW_sh F S
      have hm1 : r.toInt < t.toInt → (r.toInt + 1) * n.toInt ≤ t.toInt * n.toInt := fun q => Int.mul_le_mul_of_nonneg_right (by omega) (by omega)
      have hm2 : (r.toInt + 1) * n.toInt = r.toInt * n.toInt + n.toInt := by rw [Int.add_mul, Int.one_mul]
      have hm3 : t.toInt * n.toInt = n.toInt * t.toInt := Int.mul_comm _ _
      apply ez_Wp_in
      show ez_gw _ _ _ _ _ _ (cz_2) _ _ _ _ _
      refine gw_skip _ ?_
      have r14 := z_rng (ez_I h2 2 1)
      refine gw_ld rfl rfl ?_
      refine gw_ld rfl rfl ?_
      refine z_b2 (fun c15 => ?_) (fun c15 => ?_)
      · have c15 : n.toInt ≤ j.toInt := c15
        refine gw_skip _ ?_
        refine z_inc rfl (by rw [show (1 : Int32).toInt = 1 from rfl]; omega) (fun x16 ex16 => ?_)
        rw [show (1 : Int32).toInt = 1 from rfl] at ex16
        show ez_gw _ _ _ _ _ _ _ _ [some (.ref 1), some (.int n), some (.int t), some (.int x16), some (.int j)] _ _ _
        refine z_go ?_
        exact ih.1 h2 x16 (some (.int j)) (a + n.toInt.toNat) F (⟨by omega, by omega, by omega, by rw [show x16.toInt = r.toInt + 1 by omega]; omega, by omega, by rw [Nat.add_mod_right]; omega⟩) (A_b6) ((by rw [show (ez_I h 2 1).toInt.toNat + (a + n.toInt.toNat) = (ez_I h 2 1).toInt.toNat + a + j.toInt.toNat by omega]; exact A_en)) (by omega)
      · have c15 : ¬ (n.toInt ≤ j.toInt) := c15
        refine gw_ld rfl rfl ?_
        refine z_gR (q := 2) (zT S2 (by decide) rfl) (zRf S2 (by decide) (by decide) rfl) (by decide) ?_
        refine gw_ld rfl rfl ?_
        refine z_gR (q := 6) (zT S2 (by decide) rfl) (zRf S2 (by decide) (by decide) rfl) (by decide) ?_
        refine gw_ld rfl rfl ?_
        refine z_iaV (n := 20) (zT S2 (by decide) rfl) (zN S2 (by decide) rfl) (by omega) (congrFun A_b6 _) ?_
        generalize ex17 : ez_I h 6 j.toInt.toNat = x17
        have rx17 := z_rng x17
        refine z_cl rfl rfl rfl rfl rfl rfl rfl rfl rfl rfl rfl (zT S2 (by decide) rfl) ?_
        refine c_add (p := 2) (v := x17) S2 (by decide) (by omega) (fun h18 F19 k20 k21 k22 => ?_)
        rw [show (ez_I h2 2 1).toInt.toNat = (ez_I h 2 1).toInt.toNat + a + j.toInt.toNat by omega] at k21 k22
        have A23 : ∀ i, i < (ez_I h 2 1).toInt.toNat + a + (j.toInt.toNat + 1) → ez_I h18 3 i = enT (ez_I h 3) (ez_I h 6) (ez_I h 2 1).toInt.toNat n.toInt.toNat i := en_s A_en k21 k22 (by rw [en_v (by omega) (by omega)]; exact ex17.symm)
        have S24 := zW_sh F19 S2
        have F25 := zW_tr F (zW_mono F19 (x65_0) (x65_1) (x65_2))
        have r26 := z_rng (ez_I h18 2 1)
        have A27 : ez_I h18 6 = ez_I h 6 := by rw [zW_fn F19 6 (by decide) (x65_3)]; exact A_b6
        refine z_inc rfl (by rw [show (1 : Int32).toInt = 1 from rfl]; omega) (fun x28 ex28 => ?_)
        rw [show (1 : Int32).toInt = 1 from rfl] at ex28
        show ez_gw _ _ _ _ _ _ _ _ [some (.ref 1), some (.int n), some (.int t), some (.int r), some (.int x28)] _ _ _
        refine z_go ?_
        exact ih.2 h18 r x28 a F25 (by omega) A27 ((by rw [show x28.toInt.toNat = j.toInt.toNat + 1 by omega]; exact A23)) (by omega)
set_option maxRecDepth 4000 in
set_option maxHeartbeats 2000000 in
theorem x_endF {E : Nat → Nat × (Nat → Int32)} {d : Nat} {Q : ez_Q} {h : ez_H} {n : Int32} {t : Int32} (S : zSh h) (hz : 0 ≤ (ez_I h 2 1).toInt ∧ (ez_I h 2 1).toInt ≤ 6000) (K : ∀ h2 (x : Int32), zW (fun q k => q = 2 ∧ k = 1) (fun q => q = 3 ∨ q = 6) (fun _ => False) h h2 → (((0 ≤ n.toInt ∧ n.toInt ≤ 20 ∧ 1 ≤ t.toInt ∧ t.toInt ≤ 100 ∧ (ez_I h 2 1).toInt + n.toInt * t.toInt ≤ 6000) ∧ x.toInt = (ez_I h 2 1).toInt + n.toInt * t.toInt ∧ (ez_I h2 2 1).toInt = (ez_I h 2 1).toInt + n.toInt * t.toInt ∧ (∀ i : Nat, (i : Int) < (ez_I h 2 1).toInt + n.toInt * t.toInt → ez_I h2 3 i = enT (ez_I h 3) (ez_I h 6) (ez_I h 2 1).toInt.toNat n.toInt.toNat i) ∧ (∀ k, k < 20 → (ez_I h2 6 k).toInt = 0)) ∨ (¬ (0 ≤ n.toInt ∧ n.toInt ≤ 20 ∧ 1 ≤ t.toInt ∧ t.toInt ≤ 100 ∧ (ez_I h 2 1).toInt + n.toInt * t.toInt ≤ 6000) ∧ x.toInt = -1 ∧ ez_I h2 2 1 = ez_I h 2 1 ∧ ez_I h2 3 = ez_I h 3 ∧ ez_I h2 6 = ez_I h 6)) → Q (.inl (some (.int x))) h2) : pw E (d + 1) 2 0 [some (.ref 1), some (.int n), some (.int t), none, none] [] h Q := by
  have gn := z_rng n
  have gt := z_rng t
  have hmul := fun (q1 : 0 ≤ n.toInt ∧ n.toInt ≤ 20) (q2 : 0 ≤ t.toInt ∧ t.toInt ≤ 100) => mulB (x := n.toInt) (y := t.toInt) (a := 20) (b := 100) (c := 2000) q1 q2 (by decide)
  have F := zW_refl (fun q k => q = 2 ∧ k = 1) (fun q => q = 3 ∨ q = 6) (fun _ => False) h
  apply ez_Wp_in
  show ez_gw _ _ _ _ _ _ (cz_2) _ _ _ _ _
  refine gw_skip _ ?_
  have r1 := z_rng (ez_I h 2 1)
  refine gw_ld rfl rfl ?_
  refine z_b1 (fun c2 => ?_) (fun c2 => ?_)
  · have c2 : n.toInt < 0 := c2
    refine gw_skip _ ?_
    refine z_C (m := -1) rfl rfl (fun x3 ex3 => ?_)
    refine z_ri ?_
    exact K _ _ F (.inr ⟨by omega, by omega, rfl, rfl, rfl⟩)
  · have c2 : ¬ (n.toInt < 0) := c2
    refine gw_ld rfl rfl ?_
    refine z_C (m := 20) rfl rfl (fun x4 ex4 => ?_)
    refine z_b2 (fun c5 => ?_) (fun c5 => ?_)
    · have c5 : x4.toInt < n.toInt := c5
      refine gw_skip _ ?_
      refine z_C (m := -1) rfl rfl (fun x6 ex6 => ?_)
      refine z_ri ?_
      exact K _ _ F (.inr ⟨by omega, by omega, rfl, rfl, rfl⟩)
    · have c5 : ¬ (x4.toInt < n.toInt) := c5
      refine gw_ld rfl rfl ?_
      refine z_C (m := 1) rfl rfl (fun x7 ex7 => ?_)
      refine z_b2 (fun c8 => ?_) (fun c8 => ?_)
      · have c8 : t.toInt < x7.toInt := c8
        refine gw_skip _ ?_
        refine z_C (m := -1) rfl rfl (fun x9 ex9 => ?_)
        refine z_ri ?_
        exact K _ _ F (.inr ⟨by omega, by omega, rfl, rfl, rfl⟩)
      · have c8 : ¬ (t.toInt < x7.toInt) := c8
        refine gw_ld rfl rfl ?_
        refine z_C (m := 100) rfl rfl (fun x10 ex10 => ?_)
        refine z_b2 (fun c11 => ?_) (fun c11 => ?_)
        · have c11 : x10.toInt < t.toInt := c11
          refine gw_skip _ ?_
          refine z_C (m := -1) rfl rfl (fun x12 ex12 => ?_)
          refine z_ri ?_
          exact K _ _ F (.inr ⟨by omega, by omega, rfl, rfl, rfl⟩)
        · have c11 : ¬ (x10.toInt < t.toInt) := c11
          refine gw_ld rfl rfl ?_
          refine z_gR (q := 2) (zT S (by decide) rfl) (zRf S (by decide) (by decide) rfl) (by decide) ?_
          refine z_gI2 (by decide) (zT S (by decide) rfl) (rfl) ?_
          refine gw_ld rfl rfl ?_
          refine gw_ld rfl rfl ?_
          refine z_mul (by have hml := hmul (by omega) (by omega); omega) (fun x13 ex13 => ?_)
          have hml := hmul (by omega) (by omega)
          refine z_add (by have hml := hmul (by omega) (by omega); omega) (fun x14 ex14 => ?_)
          refine z_C (m := 6000) rfl rfl (fun x15 ex15 => ?_)
          refine z_b2 (fun c16 => ?_) (fun c16 => ?_)
          · have c16 : x14.toInt ≤ x15.toInt := c16
            refine gw_skip _ ?_
            refine z_C (m := 0) rfl rfl (fun x17 ex17 => ?_)
            refine gw_st rfl rfl rfl ?_
            show ez_gw _ _ _ _ _ _ _ _ [some (.ref 1), some (.int n), some (.int t), some (.int x17), none] _ _ _
            exact ez_Wp_at ((x_endF_L0 (n := n) (t := t) S hz K (((1000 * (200 - x17.toInt))).toNat + 1)).1 h x17 (none) 0 F (⟨by omega, by omega, by omega, by rw [show x17.toInt = 0 by omega, Int.zero_mul]; rfl, by omega, Nat.zero_mod _⟩) (rfl) ((fun i hi => (en_0 (by omega)).symm)) (by omega)) rfl
          · have c16 : ¬ (x14.toInt ≤ x15.toInt) := c16
            refine z_C (m := -1) rfl rfl (fun x18 ex18 => ?_)
            refine z_ri ?_
            exact K _ _ F (.inr ⟨by omega, by omega, rfl, rfl, rfl⟩)
set_option maxRecDepth 4000 in
set_option maxHeartbeats 2000000 in
theorem m_endF_L1 {E : Nat → Nat × (Nat → Int32)} {d : Nat} {Q : ez_Q} {h : ez_H} {n : Int32} {t : Int32} (S : zSh h) (hz : 0 ≤ (ez_I h 71 6).toInt ∧ (ez_I h 71 6).toInt ≤ 6000) (hb : aR (ez_I h 72) 6000 (-128) 127) (K : ∀ h2 (x : Int32), zW (fun q k => q = 71 ∧ k = 0 ∨ q = 71 ∧ k = 6) (fun q => q = 72 ∨ q = 74) (fun _ => False) h h2 → (((0 ≤ n.toInt ∧ n.toInt ≤ 20 ∧ 1 ≤ t.toInt ∧ t.toInt ≤ 100 ∧ (ez_I h 71 6).toInt + n.toInt * t.toInt ≤ 6000) ∧ x.toInt = (ez_I h 71 6).toInt + n.toInt * t.toInt ∧ (ez_I h2 71 6).toInt = (ez_I h 71 6).toInt + n.toInt * t.toInt ∧ (∀ i : Nat, (i : Int) < (ez_I h 71 6).toInt + n.toInt * t.toInt → ez_I h2 72 i = enM (ez_I h 72) (ez_I h 74) (ez_I h 71 6).toInt.toNat n.toInt.toNat i) ∧ aR (ez_I h2 72) 6000 (-128) 127 ∧ (∀ k, k < 20 → (ez_I h2 74 k).toInt = 0)) ∨ (¬ (0 ≤ n.toInt ∧ n.toInt ≤ 20 ∧ 1 ≤ t.toInt ∧ t.toInt ≤ 100 ∧ (ez_I h 71 6).toInt + n.toInt * t.toInt ≤ 6000) ∧ x.toInt = -1 ∧ ez_I h2 71 6 = ez_I h 71 6 ∧ ez_I h2 72 = ez_I h 72 ∧ ez_I h2 74 = ez_I h 74)) → Q (.inl (some (.int x))) h2) : ∀ N : Nat, (∀ (h2 : ez_H) (k : Int32) (l4 : Option Value) , zW (fun q k => q = 71 ∧ k = 0 ∨ q = 71 ∧ k = 6) (fun q => q = 72 ∨ q = 74) (fun _ => False) h h2 → ((0 ≤ n.toInt ∧ n.toInt ≤ 20 ∧ 1 ≤ t.toInt ∧ t.toInt ≤ 100 ∧ (ez_I h 71 6).toInt + n.toInt * t.toInt ≤ 6000) ∧ 0 ≤ k.toInt ∧ k.toInt ≤ 20 ∧ (ez_I h2 71 6).toInt = (ez_I h 71 6).toInt + n.toInt * t.toInt) → ((∀ i, i < ((ez_I h 71 6).toInt + n.toInt * t.toInt).toNat → ez_I h2 72 i = enM (ez_I h 72) (ez_I h 74) (ez_I h 71 6).toInt.toNat n.toInt.toNat i)) → (aR (ez_I h2 72) 6000 (-128) 127) → (∀ j, j < k.toInt.toNat → (ez_I h2 74 j).toInt = 0) → (100 - k.toInt) < (N : Int) → pw E d 26 101 [some (.ref 71), some (.int n), some (.int t), some (.int k), l4] [] h2 Q) := by
  intro N
  induction N with
  | zero => exact fun h2 k l4  F hinv A_en A_ar A_z0 hm => absurd hm (by have w_k := z_rng k; have gn := z_rng n; have gt := z_rng t; have hmul := fun (q1 : 0 ≤ n.toInt ∧ n.toInt ≤ 20) (q2 : 0 ≤ t.toInt ∧ t.toInt ≤ 100) => mulB (x := n.toInt) (y := t.toInt) (a := 20) (b := 100) (c := 2000) q1 q2 (by decide); omega)
  | succ N ih =>
    refine fun h2 k l4  F hinv A_en A_ar A_z0 hm => ?_
    · skip
      have w_k := z_rng k
      have gn := z_rng n
      have gt := z_rng t
      have hmul := fun (q1 : 0 ≤ n.toInt ∧ n.toInt ≤ 20) (q2 : 0 ≤ t.toInt ∧ t.toInt ≤ 100) => mulB (x := n.toInt) (y := t.toInt) (a := 20) (b := 100) (c := 2000) q1 q2 (by decide)
      have S2 := zW_sh F S
      apply ez_Wp_in
      show ez_gw _ _ _ _ _ _ (cz_26) _ _ _ _ _
      refine gw_skip _ ?_
      have r1 := z_rng (ez_I h2 71 0)
      have r2 := z_rng (ez_I h2 71 6)
      refine gw_ld rfl rfl ?_
      refine z_C (m := 20) rfl rfl (fun x3 ex3 => ?_)
      refine z_b2 (fun c4 => ?_) (fun c4 => ?_)
      · have c4 : x3.toInt ≤ k.toInt := c4
        refine gw_skip _ ?_
        refine gw_ld rfl rfl ?_
        refine z_gI2 (by decide) (zT S2 (by decide) rfl) (rfl) ?_
        refine z_ri ?_
        exact K _ _ F (.inl ⟨by omega, by omega, by omega, (fun i hi => A_en i (by omega)), A_ar, (fun k hk => A_z0 k (by omega))⟩)
      · have c4 : ¬ (x3.toInt ≤ k.toInt) := c4
        refine gw_ld rfl rfl ?_
        refine z_gR (q := 74) (zT S2 (by decide) rfl) (zRf S2 (by decide) (by decide) rfl) (by decide) ?_
        refine gw_ld rfl rfl ?_
        refine z_C (m := 0) rfl rfl (fun x5 ex5 => ?_)
        refine z_bs (n := 20) (zT S2 (by decide) rfl) (zN S2 (by decide) rfl) (by omega) (fun h6 e7 => ?_)
        have S9 := zSh_set S2 e7
        have F10 := zW_setA F e7 (by decide)
        have f11 : ez_I h6 71 0 = (ez_I h2 71 0) := (zI_ne e7 (by omega)).trans (rfl)
        have f12 : ez_I h6 71 6 = (ez_I h2 71 6) := (zI_ne e7 (by omega)).trans (rfl)
        have A13 : (∀ i, i < ((ez_I h 71 6).toInt + n.toInt * t.toInt).toNat → ez_I h6 72 i = enM (ez_I h 72) (ez_I h 74) (ez_I h 71 6).toInt.toNat n.toInt.toNat i) := by rw [zI_fn e7 72 (by decide)]; exact A_en
        have A14 : aR (ez_I h6 72) 6000 (-128) 127 := by rw [zI_fn e7 72 (by decide)]; exact A_ar
        have A15 : ∀ j, j < k.toInt.toNat + 1 → (ez_I h6 74 j).toInt = 0 := z0_s A_z0 e7 (by omega) (z_b0 (by omega)) rfl
        refine z_inc rfl (by rw [show (1 : Int32).toInt = 1 from rfl]; omega) (fun x16 ex16 => ?_)
        rw [show (1 : Int32).toInt = 1 from rfl] at ex16
        show ez_gw _ _ _ _ _ _ _ _ [some (.ref 71), some (.int n), some (.int t), some (.int x16), l4] _ _ _
        refine z_go ?_
        have t17 := congrArg Int32.toInt (f11)
        have t18 := congrArg Int32.toInt (f12)
        exact ih h6 x16 (l4) F10 (by omega) (A13) A14 ((by rw [show x16.toInt.toNat = k.toInt.toNat + 1 by omega]; exact A15)) (by omega)
set_option maxRecDepth 4000 in
set_option maxHeartbeats 2000000 in
theorem m_endF_L0 {E : Nat → Nat × (Nat → Int32)} {d : Nat} {Q : ez_Q} {h : ez_H} {n : Int32} {t : Int32} (S : zSh h) (hz : 0 ≤ (ez_I h 71 6).toInt ∧ (ez_I h 71 6).toInt ≤ 6000) (hb : aR (ez_I h 72) 6000 (-128) 127) (K : ∀ h2 (x : Int32), zW (fun q k => q = 71 ∧ k = 0 ∨ q = 71 ∧ k = 6) (fun q => q = 72 ∨ q = 74) (fun _ => False) h h2 → (((0 ≤ n.toInt ∧ n.toInt ≤ 20 ∧ 1 ≤ t.toInt ∧ t.toInt ≤ 100 ∧ (ez_I h 71 6).toInt + n.toInt * t.toInt ≤ 6000) ∧ x.toInt = (ez_I h 71 6).toInt + n.toInt * t.toInt ∧ (ez_I h2 71 6).toInt = (ez_I h 71 6).toInt + n.toInt * t.toInt ∧ (∀ i : Nat, (i : Int) < (ez_I h 71 6).toInt + n.toInt * t.toInt → ez_I h2 72 i = enM (ez_I h 72) (ez_I h 74) (ez_I h 71 6).toInt.toNat n.toInt.toNat i) ∧ aR (ez_I h2 72) 6000 (-128) 127 ∧ (∀ k, k < 20 → (ez_I h2 74 k).toInt = 0)) ∨ (¬ (0 ≤ n.toInt ∧ n.toInt ≤ 20 ∧ 1 ≤ t.toInt ∧ t.toInt ≤ 100 ∧ (ez_I h 71 6).toInt + n.toInt * t.toInt ≤ 6000) ∧ x.toInt = -1 ∧ ez_I h2 71 6 = ez_I h 71 6 ∧ ez_I h2 72 = ez_I h 72 ∧ ez_I h2 74 = ez_I h 74)) → Q (.inl (some (.int x))) h2) : ∀ N : Nat, (∀ (h2 : ez_H) (r : Int32) (l4 : Option Value) (a : Nat), zW (fun q k => q = 71 ∧ k = 0 ∨ q = 71 ∧ k = 6) (fun q => q = 72 ∨ q = 74) (fun _ => False) h h2 → ((0 ≤ n.toInt ∧ n.toInt ≤ 20 ∧ 1 ≤ t.toInt ∧ t.toInt ≤ 100 ∧ (ez_I h 71 6).toInt + n.toInt * t.toInt ≤ 6000) ∧ 0 ≤ r.toInt ∧ r.toInt ≤ t.toInt ∧ (a : Int) = r.toInt * n.toInt ∧ (ez_I h2 71 6).toInt = (ez_I h 71 6).toInt + a ∧ a % n.toInt.toNat = 0) → (ez_I h2 74 = ez_I h 74) → ((∀ i, i < (ez_I h 71 6).toInt.toNat + a → ez_I h2 72 i = enM (ez_I h 72) (ez_I h 74) (ez_I h 71 6).toInt.toNat n.toInt.toNat i)) → (aR (ez_I h2 72) 6000 (-128) 127) → (1000 * (200 - r.toInt)) < (N : Int) → pw E d 26 44 [some (.ref 71), some (.int n), some (.int t), some (.int r), l4] [] h2 Q) ∧ (∀ (h2 : ez_H) (r : Int32) (j : Int32) (a : Nat), zW (fun q k => q = 71 ∧ k = 0 ∨ q = 71 ∧ k = 6) (fun q => q = 72 ∨ q = 74) (fun _ => False) h h2 → ((0 ≤ n.toInt ∧ n.toInt ≤ 20 ∧ 1 ≤ t.toInt ∧ t.toInt ≤ 100 ∧ (ez_I h 71 6).toInt + n.toInt * t.toInt ≤ 6000) ∧ 0 ≤ r.toInt ∧ r.toInt < t.toInt ∧ (a : Int) = r.toInt * n.toInt ∧ 0 ≤ j.toInt ∧ j.toInt ≤ n.toInt ∧ (ez_I h2 71 6).toInt = (ez_I h 71 6).toInt + a ∧ a % n.toInt.toNat = 0) → (ez_I h2 74 = ez_I h 74) → ((∀ i, i < (ez_I h 71 6).toInt.toNat + a + j.toInt.toNat → ez_I h2 72 i = enM (ez_I h 72) (ez_I h 74) (ez_I h 71 6).toInt.toNat n.toInt.toNat i)) → (aR (ez_I h2 72) 6000 (-128) 127) → (1000 * (200 - r.toInt) - 1 - j.toInt) < (N : Int) → pw E d 26 52 [some (.ref 71), some (.int n), some (.int t), some (.int r), some (.int j)] [] h2 Q) := by
  intro N
  induction N with
  | zero => exact ⟨fun h2 r l4 a F hinv A_b74 A_en A_ar hm => absurd hm (by have w_r := z_rng r; have gn := z_rng n; have gt := z_rng t; have hmul := fun (q1 : 0 ≤ n.toInt ∧ n.toInt ≤ 20) (q2 : 0 ≤ t.toInt ∧ t.toInt ≤ 100) => mulB (x := n.toInt) (y := t.toInt) (a := 20) (b := 100) (c := 2000) q1 q2 (by decide); omega), fun h2 r j a F hinv A_b74 A_en A_ar hm => absurd hm (by have w_r := z_rng r; have w_j := z_rng j; have gn := z_rng n; have gt := z_rng t; have hmul := fun (q1 : 0 ≤ n.toInt ∧ n.toInt ≤ 20) (q2 : 0 ≤ t.toInt ∧ t.toInt ≤ 100) => mulB (x := n.toInt) (y := t.toInt) (a := 20) (b := 100) (c := 2000) q1 q2 (by decide); omega)⟩
  | succ N ih =>
    refine ⟨fun h2 r l4 a F hinv A_b74 A_en A_ar hm => ?_, fun h2 r j a F hinv A_b74 A_en A_ar hm => ?_⟩
    · skip
      have w_r := z_rng r
      have gn := z_rng n
      have gt := z_rng t
      have hmul := fun (q1 : 0 ≤ n.toInt ∧ n.toInt ≤ 20) (q2 : 0 ≤ t.toInt ∧ t.toInt ≤ 100) => mulB (x := n.toInt) (y := t.toInt) (a := 20) (b := 100) (c := 2000) q1 q2 (by decide)
      have S2 := zW_sh F S
      have hm1 : r.toInt < t.toInt → (r.toInt + 1) * n.toInt ≤ t.toInt * n.toInt := fun q => Int.mul_le_mul_of_nonneg_right (by omega) (by omega)
      have hm2 : (r.toInt + 1) * n.toInt = r.toInt * n.toInt + n.toInt := by rw [Int.add_mul, Int.one_mul]
      have hm3 : t.toInt * n.toInt = n.toInt * t.toInt := Int.mul_comm _ _
      apply ez_Wp_in
      show ez_gw _ _ _ _ _ _ (cz_26) _ _ _ _ _
      refine gw_skip _ ?_
      have r1 := z_rng (ez_I h2 71 0)
      have r2 := z_rng (ez_I h2 71 6)
      refine gw_ld rfl rfl ?_
      refine gw_ld rfl rfl ?_
      refine z_b2 (fun c3 => ?_) (fun c3 => ?_)
      · have c3 : t.toInt ≤ r.toInt := c3
        refine gw_skip _ ?_
        have hrt : r.toInt = t.toInt := by omega
        have hrn : r.toInt * n.toInt = n.toInt * t.toInt := by rw [hrt, Int.mul_comm]
        refine z_C (m := 0) rfl rfl (fun x4 ex4 => ?_)
        refine gw_st rfl rfl rfl ?_
        show ez_gw _ _ _ _ _ _ _ _ [some (.ref 71), some (.int n), some (.int t), some (.int x4), l4] _ _ _
        exact ez_Wp_at ((m_endF_L1 (n := n) (t := t) S hz hb K (((100 - x4.toInt)).toNat + 1)) h2 x4 (l4) F (by omega) ((fun i hi => A_en i (by omega))) A_ar ((fun j hj => by omega)) (by omega)) rfl
      · have c3 : ¬ (t.toInt ≤ r.toInt) := c3
        refine z_C (m := 0) rfl rfl (fun x5 ex5 => ?_)
        refine gw_st rfl rfl rfl ?_
        show ez_gw _ _ _ _ _ _ _ _ [some (.ref 71), some (.int n), some (.int t), some (.int r), some (.int x5)] _ _ _
        exact ez_Wp_at (ih.2 h2 r x5 a F (by omega) A_b74 ((by rw [show x5.toInt.toNat = 0 by omega]; exact A_en)) A_ar (by omega)) rfl
    · skip
      have w_r := z_rng r
      have w_j := z_rng j
      have gn := z_rng n
      have gt := z_rng t
      have hmul := fun (q1 : 0 ≤ n.toInt ∧ n.toInt ≤ 20) (q2 : 0 ≤ t.toInt ∧ t.toInt ≤ 100) => mulB (x := n.toInt) (y := t.toInt) (a := 20) (b := 100) (c := 2000) q1 q2 (by decide)
      have S2 := zW_sh F S
      have hm1 : r.toInt < t.toInt → (r.toInt + 1) * n.toInt ≤ t.toInt * n.toInt := fun q => Int.mul_le_mul_of_nonneg_right (by omega) (by omega)
      have hm2 : (r.toInt + 1) * n.toInt = r.toInt * n.toInt + n.toInt := by rw [Int.add_mul, Int.one_mul]
      have hm3 : t.toInt * n.toInt = n.toInt * t.toInt := Int.mul_comm _ _
      apply ez_Wp_in
      show ez_gw _ _ _ _ _ _ (cz_26) _ _ _ _ _
      refine gw_skip _ ?_
      have r6 := z_rng (ez_I h2 71 0)
      have r7 := z_rng (ez_I h2 71 6)
      refine gw_ld rfl rfl ?_
      refine gw_ld rfl rfl ?_
      refine z_b2 (fun c8 => ?_) (fun c8 => ?_)
      · have c8 : n.toInt ≤ j.toInt := c8
        refine gw_skip _ ?_
        refine gw_ld rfl rfl ?_
        refine gw_op rfl ?_
        refine z_gI2 (by decide) (zT S2 (by decide) rfl) (rfl) ?_
        refine gw_ld rfl rfl ?_
        refine z_add (by omega) (fun x9 ex9 => ?_)
        refine z_pI (zT S2 (by decide) rfl) (fun h10 e11 => ?_)
        have S12 := zSh_set S2 e11
        have F13 := zW_setF F e11 (by decide)
        have f14 : ez_I h10 71 0 = (ez_I h2 71 0) := (zI_ne e11 (by decide)).trans (rfl)
        have f15 : ez_I h10 71 6 = x9 := zI_eq e11
        have A16 : ez_I h10 74 = ez_I h 74 := by rw [zI_fn e11 74 (by decide)]; exact A_b74
        have A17 : (∀ i, i < (ez_I h 71 6).toInt.toNat + a + j.toInt.toNat → ez_I h10 72 i = enM (ez_I h 72) (ez_I h 74) (ez_I h 71 6).toInt.toNat n.toInt.toNat i) := by rw [zI_fn e11 72 (by decide)]; exact A_en
        have A18 : aR (ez_I h10 72) 6000 (-128) 127 := by rw [zI_fn e11 72 (by decide)]; exact A_ar
        refine z_inc rfl (by rw [show (1 : Int32).toInt = 1 from rfl]; omega) (fun x19 ex19 => ?_)
        rw [show (1 : Int32).toInt = 1 from rfl] at ex19
        show ez_gw _ _ _ _ _ _ _ _ [some (.ref 71), some (.int n), some (.int t), some (.int x19), some (.int j)] _ _ _
        refine z_go ?_
        have t20 := congrArg Int32.toInt (f14)
        have t21 := congrArg Int32.toInt (f15)
        exact ih.1 h10 x19 (some (.int j)) (a + n.toInt.toNat) F13 (⟨by omega, by omega, by omega, by rw [show x19.toInt = r.toInt + 1 by omega]; omega, by omega, by rw [Nat.add_mod_right]; omega⟩) (A16) ((by rw [show (ez_I h 71 6).toInt.toNat + (a + n.toInt.toNat) = (ez_I h 71 6).toInt.toNat + a + j.toInt.toNat by omega]; exact A17)) (A18) (by omega)
      · have c8 : ¬ (n.toInt ≤ j.toInt) := c8
        refine gw_ld rfl rfl ?_
        refine z_gR (q := 72) (zT S2 (by decide) rfl) (zRf S2 (by decide) (by decide) rfl) (by decide) ?_
        refine gw_ld rfl rfl ?_
        refine z_gI2 (by decide) (zT S2 (by decide) rfl) (rfl) ?_
        refine gw_ld rfl rfl ?_
        refine z_add (by omega) (fun x22 ex22 => ?_)
        refine gw_ld rfl rfl ?_
        refine z_gR (q := 74) (zT S2 (by decide) rfl) (zRf S2 (by decide) (by decide) rfl) (by decide) ?_
        refine gw_ld rfl rfl ?_
        refine z_baV (n := 20) (zT S2 (by decide) rfl) (zN S2 (by decide) rfl) (by omega) (congrFun A_b74 _) ?_
        generalize ex23 : ez_I h 74 j.toInt.toNat = x23
        have rx23 := z_rng x23
        refine z_bs (n := 6000) (zT S2 (by decide) rfl) (zN S2 (by decide) rfl) (by omega) (fun h24 e25 => ?_)
        have S27 := zSh_set S2 e25
        have F28 := zW_setA F e25 (by decide)
        have f29 : ez_I h24 71 0 = (ez_I h2 71 0) := (zI_ne e25 (by omega)).trans (rfl)
        have f30 : ez_I h24 71 6 = (ez_I h2 71 6) := (zI_ne e25 (by omega)).trans (rfl)
        have A31 : ez_I h24 74 = ez_I h 74 := by rw [zI_fn e25 74 (by decide)]; exact A_b74
        have A32 : (∀ i, i < (ez_I h 71 6).toInt.toNat + a + (j.toInt.toNat + 1) → ez_I h24 72 i = enM (ez_I h 72) (ez_I h 74) (ez_I h 71 6).toInt.toNat n.toInt.toNat i) := en_s (v := (x23).toInt8.toInt32) A_en (by rw [show (ez_I h 71 6).toInt.toNat + a + j.toInt.toNat = x22.toInt.toNat by omega]; exact zI_eq e25) (fun k hk => zI_ne e25 (by omega)) (by rw [em_v (by omega) (by omega), ex23])
        have A33 : aR (ez_I h24 72) 6000 (-128) 127 := aR_up A_ar e25 (n_i2b_rng _)
        refine z_inc rfl (by rw [show (1 : Int32).toInt = 1 from rfl]; omega) (fun x34 ex34 => ?_)
        rw [show (1 : Int32).toInt = 1 from rfl] at ex34
        show ez_gw _ _ _ _ _ _ _ _ [some (.ref 71), some (.int n), some (.int t), some (.int r), some (.int x34)] _ _ _
        refine z_go ?_
        have t35 := congrArg Int32.toInt (f29)
        have t36 := congrArg Int32.toInt (f30)
        exact ih.2 h24 r x34 a F28 (by omega) A31 ((by rw [show x34.toInt.toNat = j.toInt.toNat + 1 by omega]; exact A32)) A33 (by omega)
set_option maxRecDepth 4000 in
set_option maxHeartbeats 2000000 in
theorem m_endF {E : Nat → Nat × (Nat → Int32)} {d : Nat} {Q : ez_Q} {h : ez_H} {n : Int32} {t : Int32} (S : zSh h) (hz : 0 ≤ (ez_I h 71 6).toInt ∧ (ez_I h 71 6).toInt ≤ 6000) (hb : aR (ez_I h 72) 6000 (-128) 127) (K : ∀ h2 (x : Int32), zW (fun q k => q = 71 ∧ k = 0 ∨ q = 71 ∧ k = 6) (fun q => q = 72 ∨ q = 74) (fun _ => False) h h2 → (((0 ≤ n.toInt ∧ n.toInt ≤ 20 ∧ 1 ≤ t.toInt ∧ t.toInt ≤ 100 ∧ (ez_I h 71 6).toInt + n.toInt * t.toInt ≤ 6000) ∧ x.toInt = (ez_I h 71 6).toInt + n.toInt * t.toInt ∧ (ez_I h2 71 6).toInt = (ez_I h 71 6).toInt + n.toInt * t.toInt ∧ (∀ i : Nat, (i : Int) < (ez_I h 71 6).toInt + n.toInt * t.toInt → ez_I h2 72 i = enM (ez_I h 72) (ez_I h 74) (ez_I h 71 6).toInt.toNat n.toInt.toNat i) ∧ aR (ez_I h2 72) 6000 (-128) 127 ∧ (∀ k, k < 20 → (ez_I h2 74 k).toInt = 0)) ∨ (¬ (0 ≤ n.toInt ∧ n.toInt ≤ 20 ∧ 1 ≤ t.toInt ∧ t.toInt ≤ 100 ∧ (ez_I h 71 6).toInt + n.toInt * t.toInt ≤ 6000) ∧ x.toInt = -1 ∧ ez_I h2 71 6 = ez_I h 71 6 ∧ ez_I h2 72 = ez_I h 72 ∧ ez_I h2 74 = ez_I h 74)) → Q (.inl (some (.int x))) h2) : pw E d 26 0 [some (.ref 71), some (.int n), some (.int t), none, none] [] h Q := by
  have gn := z_rng n
  have gt := z_rng t
  have hmul := fun (q1 : 0 ≤ n.toInt ∧ n.toInt ≤ 20) (q2 : 0 ≤ t.toInt ∧ t.toInt ≤ 100) => mulB (x := n.toInt) (y := t.toInt) (a := 20) (b := 100) (c := 2000) q1 q2 (by decide)
  have F := zW_refl (fun q k => q = 71 ∧ k = 0 ∨ q = 71 ∧ k = 6) (fun q => q = 72 ∨ q = 74) (fun _ => False) h
  apply ez_Wp_in
  show ez_gw _ _ _ _ _ _ (cz_26) _ _ _ _ _
  refine gw_skip _ ?_
  have r1 := z_rng (ez_I h 71 0)
  have r2 := z_rng (ez_I h 71 6)
  refine gw_ld rfl rfl ?_
  refine z_C (m := 0) rfl rfl (fun x3 ex3 => ?_)
  refine z_pI (zT S (by decide) rfl) (fun h4 e5 => ?_)
  have S6 := zSh_set S e5
  have F7 := zW_setF F e5 (by decide)
  have f8 : ez_I h4 71 0 = x3 := zI_eq e5
  have f9 : ez_I h4 71 6 = (ez_I h 71 6) := (zI_ne e5 (by decide)).trans (rfl)
  have A10 : ez_I h4 72 = ez_I h 72 := by rw [zI_fn e5 72 (by decide)]
  have A11 : ez_I h4 74 = ez_I h 74 := by rw [zI_fn e5 74 (by decide)]
  refine gw_ld rfl rfl ?_
  refine z_b1 (fun c12 => ?_) (fun c12 => ?_)
  · have c12 : n.toInt < 0 := c12
    refine gw_skip _ ?_
    refine z_C (m := -1) rfl rfl (fun x13 ex13 => ?_)
    refine z_ri ?_
    have t14 := congrArg Int32.toInt (f8)
    have t15 := congrArg Int32.toInt (f9)
    exact K _ _ F7 (.inr ⟨by omega, by omega, f9, A10, A11⟩)
  · have c12 : ¬ (n.toInt < 0) := c12
    refine gw_ld rfl rfl ?_
    refine z_C (m := 20) rfl rfl (fun x16 ex16 => ?_)
    refine z_b2 (fun c17 => ?_) (fun c17 => ?_)
    · have c17 : x16.toInt < n.toInt := c17
      refine gw_skip _ ?_
      refine z_C (m := -1) rfl rfl (fun x18 ex18 => ?_)
      refine z_ri ?_
      have t19 := congrArg Int32.toInt (f8)
      have t20 := congrArg Int32.toInt (f9)
      exact K _ _ F7 (.inr ⟨by omega, by omega, f9, A10, A11⟩)
    · have c17 : ¬ (x16.toInt < n.toInt) := c17
      refine gw_ld rfl rfl ?_
      refine z_C (m := 1) rfl rfl (fun x21 ex21 => ?_)
      refine z_b2 (fun c22 => ?_) (fun c22 => ?_)
      · have c22 : t.toInt < x21.toInt := c22
        refine gw_skip _ ?_
        refine z_C (m := -1) rfl rfl (fun x23 ex23 => ?_)
        refine z_ri ?_
        have t24 := congrArg Int32.toInt (f8)
        have t25 := congrArg Int32.toInt (f9)
        exact K _ _ F7 (.inr ⟨by omega, by omega, f9, A10, A11⟩)
      · have c22 : ¬ (t.toInt < x21.toInt) := c22
        refine gw_ld rfl rfl ?_
        refine z_C (m := 100) rfl rfl (fun x26 ex26 => ?_)
        refine z_b2 (fun c27 => ?_) (fun c27 => ?_)
        · have c27 : x26.toInt < t.toInt := c27
          refine gw_skip _ ?_
          refine z_C (m := -1) rfl rfl (fun x28 ex28 => ?_)
          refine z_ri ?_
          have t29 := congrArg Int32.toInt (f8)
          have t30 := congrArg Int32.toInt (f9)
          exact K _ _ F7 (.inr ⟨by omega, by omega, f9, A10, A11⟩)
        · have c27 : ¬ (x26.toInt < t.toInt) := c27
          refine gw_ld rfl rfl ?_
          refine z_gI2 (by decide) (zT S6 (by decide) rfl) (f9) ?_
          refine gw_ld rfl rfl ?_
          refine gw_ld rfl rfl ?_
          refine z_mul (by have hml := hmul (by omega) (by omega); omega) (fun x31 ex31 => ?_)
          have hml := hmul (by omega) (by omega)
          refine z_add (by have hml := hmul (by omega) (by omega); omega) (fun x32 ex32 => ?_)
          refine z_C (m := 6000) rfl rfl (fun x33 ex33 => ?_)
          refine z_b2 (fun c34 => ?_) (fun c34 => ?_)
          · have c34 : x32.toInt ≤ x33.toInt := c34
            refine gw_skip _ ?_
            refine z_C (m := 0) rfl rfl (fun x35 ex35 => ?_)
            refine gw_st rfl rfl rfl ?_
            show ez_gw _ _ _ _ _ _ _ _ [some (.ref 71), some (.int n), some (.int t), some (.int x35), none] _ _ _
            have t36 := congrArg Int32.toInt (f8)
            have t37 := congrArg Int32.toInt (f9)
            exact ez_Wp_at ((m_endF_L0 (n := n) (t := t) S hz hb K (((1000 * (200 - x35.toInt))).toNat + 1)).1 h4 x35 (none) 0 F7 (⟨by omega, by omega, by omega, by rw [show x35.toInt = 0 by omega, Int.zero_mul]; rfl, by omega, Nat.zero_mod _⟩) (A11) ((fun i hi => (congrFun A10 i).trans (em_0 (by omega)).symm)) ((by rw [A10]; exact hb)) (by omega)) rfl
          · have c34 : ¬ (x32.toInt ≤ x33.toInt) := c34
            refine z_C (m := -1) rfl rfl (fun x38 ex38 => ?_)
            refine z_ri ?_
            have t39 := congrArg Int32.toInt (f8)
            have t40 := congrArg Int32.toInt (f9)
            exact K _ _ F7 (.inr ⟨by omega, by omega, f9, A10, A11⟩)
theorem x65_4 : ∀ k : Nat, ¬ (73 = 71 ∧ k = 0 ∨ 73 = 71 ∧ k = 6) := fun k c => by omega
set_option maxRecDepth 4000 in
set_option maxHeartbeats 2000000 in
theorem m_takeG_L0 {E : Nat → Nat × (Nat → Int32)} {d : Nat} {Q : ez_Q} {h : ez_H}  (S : zSh h) (hz : 0 ≤ (ez_I h 71 7).toInt ∧ (ez_I h 71 7).toInt ≤ 6200) (hb : aR (ez_I h 72) 6000 (-128) 127) (K : ∀ h2 (x : Int32), zW (fun q k => q = 71 ∧ k = 0 ∨ q = 71 ∧ k = 6) (fun q => q = 72) (fun _ => False) h h2 → (6000 < (ez_I h 71 7).toInt → ez_I h2 71 6 = ez_I h 71 6 ∧ ez_I h2 72 = ez_I h 72 ∧ (ez_I h2 71 0).toInt = 1) → ((ez_I h 71 7).toInt ≤ 6000 → x = ez_I h2 71 6 ∧ (ez_I h2 71 6).toInt = (ez_I h 71 7).toInt ∧ (∀ j : Nat, (j : Int) < (ez_I h 71 7).toInt → ez_I h2 72 j = (ez_I h 73 j).toInt8.toInt32) ∧ (ez_I h2 71 0).toInt = 0) → aR (ez_I h2 72) 6000 (-128) 127 → Q (.inl (some (.int x))) h2) : ∀ N : Nat, (∀ (h2 : ez_H) (k : Int32) , zW (fun q k => q = 71 ∧ k = 0 ∨ q = 71 ∧ k = 6) (fun q => q = 72) (fun _ => False) h h2 → (0 ≤ k.toInt ∧ k.toInt ≤ (ez_I h 71 7).toInt ∧ (ez_I h 71 7).toInt ≤ 6000 ∧ (ez_I h2 71 0).toInt = 0) → ((∀ j : Nat, (j : Int) < k.toInt → ez_I h2 72 j = (ez_I h 73 j).toInt8.toInt32)) → (aR (ez_I h2 72) 6000 (-128) 127) → (10000 - k.toInt) < (N : Int) → pw E d 29 30 [some (.ref 71), some (.int k)] [] h2 Q) := by
  intro N
  induction N with
  | zero => exact fun h2 k  F hinv A_cp A_ar hm => absurd hm (by have w_k := z_rng k; omega)
  | succ N ih =>
    refine fun h2 k  F hinv A_cp A_ar hm => ?_
    · skip
      have w_k := z_rng k
      have S2 := zW_sh F S
      apply ez_Wp_in
      show ez_gw _ _ _ _ _ _ (cz_29) _ _ _ _ _
      refine gw_skip _ ?_
      have r1 := z_rng (ez_I h2 71 0)
      have r2 := z_rng (ez_I h2 71 6)
      refine gw_ld rfl rfl ?_
      refine gw_ld rfl rfl ?_
      have r3 := z_rng (ez_I h 71 7)
      refine z_gI2 (by decide) (zT S2 (by decide) rfl) (zW_f F (by decide) (by decide)) ?_
      refine z_b2 (fun c4 => ?_) (fun c4 => ?_)
      · have c4 : ((ez_I h 71 7)).toInt ≤ k.toInt := c4
        refine gw_skip _ ?_
        refine gw_ld rfl rfl ?_
        refine gw_ld rfl rfl ?_
        refine z_gI2 (by decide) (zT S2 (by decide) rfl) (zW_f F (by decide) (by decide)) ?_
        refine z_pI (zT S2 (by decide) rfl) (fun h5 e6 => ?_)
        have S7 := zSh_set S2 e6
        have F8 := zW_setF F e6 (by decide)
        have f9 : ez_I h5 71 0 = (ez_I h2 71 0) := (zI_ne e6 (by decide)).trans (rfl)
        have f10 : ez_I h5 71 6 = (ez_I h 71 7) := zI_eq e6
        have A11 : (∀ j : Nat, (j : Int) < k.toInt → ez_I h5 72 j = (ez_I h 73 j).toInt8.toInt32) := by rw [zI_fn e6 72 (by decide)]; exact A_cp
        have A12 : aR (ez_I h5 72) 6000 (-128) 127 := by rw [zI_fn e6 72 (by decide)]; exact A_ar
        refine gw_ld rfl rfl ?_
        refine z_gI2 (by decide) (zT S7 (by decide) rfl) (f10) ?_
        refine z_ri ?_
        have t13 := congrArg Int32.toInt (f9)
        have t14 := congrArg Int32.toInt (f10)
        exact K _ _ F8 (fun q => by exfalso; omega) (fun _ => ⟨(f10).symm, by omega, fun j hj => A11 j (by omega), by omega⟩) A12
      · have c4 : ¬ (((ez_I h 71 7)).toInt ≤ k.toInt) := c4
        refine gw_ld rfl rfl ?_
        refine z_gR (q := 72) (zT S2 (by decide) rfl) (zRf S2 (by decide) (by decide) rfl) (by decide) ?_
        refine gw_ld rfl rfl ?_
        refine gw_ld rfl rfl ?_
        refine z_gR (q := 73) (zT S2 (by decide) rfl) (zRf S2 (by decide) (by decide) rfl) (by decide) ?_
        refine gw_ld rfl rfl ?_
        refine z_baV (n := 6200) (zT S2 (by decide) rfl) (zN S2 (by decide) rfl) (by omega) (zW_f F (by decide) (x65_4 _)) ?_
        generalize ex15 : ez_I h 73 k.toInt.toNat = x15
        have rx15 := z_rng x15
        refine z_bs (n := 6000) (zT S2 (by decide) rfl) (zN S2 (by decide) rfl) (by omega) (fun h16 e17 => ?_)
        have S19 := zSh_set S2 e17
        have F20 := zW_setA F e17 (by decide)
        have f21 : ez_I h16 71 0 = (ez_I h2 71 0) := (zI_ne e17 (by omega)).trans (rfl)
        have f22 : ez_I h16 71 6 = (ez_I h2 71 6) := (zI_ne e17 (by omega)).trans (rfl)
        have A23 : (∀ j : Nat, (j : Int) < k.toInt + 1 → ez_I h16 72 j = (ez_I h 73 j).toInt8.toInt32) := fun j hj => by
          by_cases q : j = k.toInt.toNat
          · subst q; rw [zI_eq e17, ex15]
          · rw [zI_ne e17 (by omega)]; exact A_cp j (by omega)
        have A24 : aR (ez_I h16 72) 6000 (-128) 127 := aR_up A_ar e17 (n_i2b_rng _)
        refine z_inc rfl (by rw [show (1 : Int32).toInt = 1 from rfl]; omega) (fun x25 ex25 => ?_)
        rw [show (1 : Int32).toInt = 1 from rfl] at ex25
        show ez_gw _ _ _ _ _ _ _ _ [some (.ref 71), some (.int x25)] _ _ _
        refine z_go ?_
        have t26 := congrArg Int32.toInt (f21)
        have t27 := congrArg Int32.toInt (f22)
        exact ih h16 x25 F20 (by omega) (fun j hj => A23 j (by omega)) (A24) (by omega)
set_option maxRecDepth 4000 in
set_option maxHeartbeats 2000000 in
theorem m_takeG {E : Nat → Nat × (Nat → Int32)} {d : Nat} {Q : ez_Q} {h : ez_H}  (S : zSh h) (hz : 0 ≤ (ez_I h 71 7).toInt ∧ (ez_I h 71 7).toInt ≤ 6200) (hb : aR (ez_I h 72) 6000 (-128) 127) (K : ∀ h2 (x : Int32), zW (fun q k => q = 71 ∧ k = 0 ∨ q = 71 ∧ k = 6) (fun q => q = 72) (fun _ => False) h h2 → (6000 < (ez_I h 71 7).toInt → ez_I h2 71 6 = ez_I h 71 6 ∧ ez_I h2 72 = ez_I h 72 ∧ (ez_I h2 71 0).toInt = 1) → ((ez_I h 71 7).toInt ≤ 6000 → x = ez_I h2 71 6 ∧ (ez_I h2 71 6).toInt = (ez_I h 71 7).toInt ∧ (∀ j : Nat, (j : Int) < (ez_I h 71 7).toInt → ez_I h2 72 j = (ez_I h 73 j).toInt8.toInt32) ∧ (ez_I h2 71 0).toInt = 0) → aR (ez_I h2 72) 6000 (-128) 127 → Q (.inl (some (.int x))) h2) : pw E d 29 0 [some (.ref 71), none] [] h Q := by
  have F := zW_refl (fun q k => q = 71 ∧ k = 0 ∨ q = 71 ∧ k = 6) (fun q => q = 72) (fun _ => False) h
  apply ez_Wp_in
  show ez_gw _ _ _ _ _ _ (cz_29) _ _ _ _ _
  refine gw_skip _ ?_
  have r1 := z_rng (ez_I h 71 0)
  have r2 := z_rng (ez_I h 71 6)
  refine gw_ld rfl rfl ?_
  refine gw_ld rfl rfl ?_
  have r3 := z_rng (ez_I h 71 7)
  refine z_gI2 (by decide) (zT S (by decide) rfl) (zW_f F (by decide) (by decide)) ?_
  refine z_C (m := 6000) rfl rfl (fun x4 ex4 => ?_)
  refine z_b2 (fun c5 => ?_) (fun c5 => ?_)
  · have c5 : ((ez_I h 71 7)).toInt ≤ x4.toInt := c5
    refine gw_skip _ ?_
    refine z_C (m := 0) rfl rfl (fun x6 ex6 => ?_)
    refine z_pI (zT S (by decide) rfl) (fun h7 e8 => ?_)
    have S9 := zSh_set S e8
    have F10 := zW_setF F e8 (by decide)
    have f11 : ez_I h7 71 0 = x6 := zI_eq e8
    have f12 : ez_I h7 71 6 = (ez_I h 71 6) := (zI_ne e8 (by decide)).trans (rfl)
    have A13 : ez_I h7 72 = ez_I h 72 := by rw [zI_fn e8 72 (by decide)]
    refine gw_ld rfl rfl ?_
    refine z_gI2 (by decide) (zT S9 (by decide) rfl) (f11) ?_
    refine z_b1 (fun c14 => ?_) (fun c14 => ?_)
    · have c14 : x6.toInt ≤ 0 := c14
      refine gw_skip _ ?_
      refine z_C (m := 0) rfl rfl (fun x15 ex15 => ?_)
      refine gw_st rfl rfl rfl ?_
      show ez_gw _ _ _ _ _ _ _ _ [some (.ref 71), some (.int x15)] _ _ _
      have t16 := congrArg Int32.toInt (f11)
      have t17 := congrArg Int32.toInt (f12)
      exact ez_Wp_at ((m_takeG_L0  S hz hb K (((10000 - x15.toInt)).toNat + 1)) h7 x15 F10 (by omega) (fun j hj => by omega) ((by rw [A13]; exact hb)) (by omega)) rfl
    · have c14 : ¬ (x6.toInt ≤ 0) := c14
      exfalso; omega
  · have c5 : ¬ (((ez_I h 71 7)).toInt ≤ x4.toInt) := c5
    refine z_C (m := 1) rfl rfl (fun x18 ex18 => ?_)
    refine z_go ?_
    refine gw_skip _ ?_
    refine z_pI (zT S (by decide) rfl) (fun h19 e20 => ?_)
    have S21 := zSh_set S e20
    have F22 := zW_setF F e20 (by decide)
    have f23 : ez_I h19 71 0 = x18 := zI_eq e20
    have f24 : ez_I h19 71 6 = (ez_I h 71 6) := (zI_ne e20 (by decide)).trans (rfl)
    have A25 : ez_I h19 72 = ez_I h 72 := by rw [zI_fn e20 72 (by decide)]
    refine gw_ld rfl rfl ?_
    refine z_gI2 (by decide) (zT S21 (by decide) rfl) (f23) ?_
    refine z_b1 (fun c26 => ?_) (fun c26 => ?_)
    · have c26 : x18.toInt ≤ 0 := c26
      exfalso; omega
    · have c26 : ¬ (x18.toInt ≤ 0) := c26
      refine z_C (m := 0) rfl rfl (fun x27 ex27 => ?_)
      refine z_ri ?_
      have t28 := congrArg Int32.toInt (f23)
      have t29 := congrArg Int32.toInt (f24)
      exact K _ _ F22 (fun _ => ⟨f24, A25, by omega⟩) (fun q => by exfalso; omega) (by rw [A25]; exact hb)
