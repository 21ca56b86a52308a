/-! the class's codes told: where each begins, how many symbols -/
theorem cs_3 {n : Nat} {z : Int} (h : n < 3) (hz : z = ([286, 30, 19].getD n 0 : Nat)) : n = 0 ∧ z = 286 ∨ n = 1 ∧ z = 30 ∨ n = 2 ∧ z = 19 := by
  match n, h with
  | 0, _ => exact .inl ⟨rfl, hz⟩
  | 1, _ => exact .inr (.inl ⟨rfl, hz⟩)
  | 2, _ => exact .inr (.inr ⟨rfl, hz⟩)
theorem cf_3 {n : Nat} {z : Int} (h : n < 3) (hz : z = ([0, 286, 316].getD n 0 : Nat)) : n = 0 ∧ z = 0 ∨ n = 1 ∧ z = 286 ∨ n = 2 ∧ z = 316 := by
  match n, h with
  | 0, _ => exact .inl ⟨rfl, hz⟩
  | 1, _ => exact .inr (.inl ⟨rfl, hz⟩)
  | 2, _ => exact .inr (.inr ⟨rfl, hz⟩)
/-! PRINTED by wip/pack: a code length told by the class -/
set_option maxRecDepth 4000 in
set_option maxHeartbeats 2000000 in
theorem c_codeL {E : Nat → Nat × (Nat → Int32)} {d : Nat} {Q : ez_Q} {h : ez_H} {k : Int32} {w : Int32} {s : Int32} (S : zSh h) (hE : zE E) (hb : 0 ≤ (ez_I h 55 2).toInt ∧ (ez_I h 55 2).toInt ≤ 10) (K : ∀ x : Int32, (¬ (0 ≤ k.toInt ∧ k.toInt < (ez_I h 55 2).toInt ∧ (ez_I h 56 (6 * k.toInt.toNat)).toInt = 2 ∧ 0 ≤ s.toInt ∧ 0 ≤ w.toInt ∧ w.toInt ≤ 2) → x.toInt = -1) → (0 ≤ k.toInt ∧ k.toInt < (ez_I h 55 2).toInt ∧ (ez_I h 56 (6 * k.toInt.toNat)).toInt = 2 ∧ 0 ≤ s.toInt → w.toInt = 0 → 286 ≤ s.toInt → x.toInt = -1) → (0 ≤ k.toInt ∧ k.toInt < (ez_I h 55 2).toInt ∧ (ez_I h 56 (6 * k.toInt.toNat)).toInt = 2 ∧ 0 ≤ s.toInt → w.toInt = 0 → s.toInt < 286 → x = ez_I h 57 (335 * k.toInt.toNat + 0 + s.toInt.toNat)) → (0 ≤ k.toInt ∧ k.toInt < (ez_I h 55 2).toInt ∧ (ez_I h 56 (6 * k.toInt.toNat)).toInt = 2 ∧ 0 ≤ s.toInt → w.toInt = 1 → 30 ≤ s.toInt → x.toInt = -1) → (0 ≤ k.toInt ∧ k.toInt < (ez_I h 55 2).toInt ∧ (ez_I h 56 (6 * k.toInt.toNat)).toInt = 2 ∧ 0 ≤ s.toInt → w.toInt = 1 → s.toInt < 30 → x = ez_I h 57 (335 * k.toInt.toNat + 286 + s.toInt.toNat)) → (0 ≤ k.toInt ∧ k.toInt < (ez_I h 55 2).toInt ∧ (ez_I h 56 (6 * k.toInt.toNat)).toInt = 2 ∧ 0 ≤ s.toInt → w.toInt = 2 → 19 ≤ s.toInt → x.toInt = -1) → (0 ≤ k.toInt ∧ k.toInt < (ez_I h 55 2).toInt ∧ (ez_I h 56 (6 * k.toInt.toNat)).toInt = 2 ∧ 0 ≤ s.toInt → w.toInt = 2 → s.toInt < 19 → x = ez_I h 57 (335 * k.toInt.toNat + 316 + s.toInt.toNat)) → Q (.inl (some (.int x))) h) : pw E (d + 2) 78 0 [some (.ref 55), some (.int k), some (.int w), some (.int s)] [] h Q := by
  have gk := z_rng k
  have gw := z_rng w
  have gs := z_rng s
  have F := zW_refl (fun _ _ => False) (fun _ => False) (fun _ => False) h
  apply ez_Wp_in
  show ez_gw _ _ _ _ _ _ (cz_78) _ _ _ _ _
  refine gw_skip _ ?_
  refine gw_ld rfl rfl ?_
  refine gw_ld rfl rfl ?_
  refine z_C (m := 0) rfl rfl (fun x1 ex1 => ?_)
  refine z_cl rfl rfl rfl rfl rfl rfl rfl rfl rfl rfl rfl (zT S (by decide) rfl) ?_
  refine c_fact (k := k) (w := x1) S hb (fun x2 k3 k4 => ?_)
  have rx2 := z_rng x2
  have hf1 : 0 ≤ k.toInt ∧ k.toInt < (ez_I h 55 2).toInt → x2.toInt = (ez_I h 56 (6 * k.toInt.toNat)).toInt := fun q => by rw [k3 (by omega), show (6 * k.toInt + x1.toInt).toNat = 6 * k.toInt.toNat by omega]
  have hf2 : ¬ (0 ≤ k.toInt ∧ k.toInt < (ez_I h 55 2).toInt) → x2.toInt = -1 := fun q => k4 (by omega)
  refine z_C (m := 2) rfl rfl (fun x5 ex5 => ?_)
  refine z_b2 (fun c6 => ?_) (fun c6 => ?_)
  · have c6 : x2.toInt ≠ x5.toInt := c6
    refine gw_skip _ ?_
    refine z_C (m := -1) rfl rfl (fun x7 ex7 => ?_)
    refine z_ri ?_
    exact zW_Q F (K _ (fun q => by omega) (fun q1 q2 q3 => by omega) (fun q1 q2 q3 => by exfalso; omega) (fun q1 q2 q3 => by omega) (fun q1 q2 q3 => by exfalso; omega) (fun q1 q2 q3 => by omega) (fun q1 q2 q3 => by exfalso; omega))
  · have c6 : ¬ (x2.toInt ≠ x5.toInt) := c6
    refine gw_ld rfl rfl ?_
    refine z_b1 (fun c8 => ?_) (fun c8 => ?_)
    · have c8 : w.toInt < 0 := c8
      refine gw_skip _ ?_
      refine z_C (m := -1) rfl rfl (fun x9 ex9 => ?_)
      refine z_ri ?_
      exact zW_Q F (K _ (fun q => by omega) (fun q1 q2 q3 => by omega) (fun q1 q2 q3 => by exfalso; omega) (fun q1 q2 q3 => by omega) (fun q1 q2 q3 => by exfalso; omega) (fun q1 q2 q3 => by omega) (fun q1 q2 q3 => by exfalso; omega))
    · have c8 : ¬ (w.toInt < 0) := c8
      refine gw_ld rfl rfl ?_
      refine z_gs ?_
      refine z_alE (n := 3) (by rw [hE 9]; rfl) (by omega) (fun x10 ex10 => ?_)
      refine z_b2 (fun c11 => ?_) (fun c11 => ?_)
      · have c11 : w.toInt < x10.toInt := c11
        refine gw_skip _ ?_
        refine gw_ld rfl rfl ?_
        refine z_b1 (fun c12 => ?_) (fun c12 => ?_)
        · have c12 : s.toInt < 0 := c12
          refine gw_skip _ ?_
          refine z_C (m := -1) rfl rfl (fun x13 ex13 => ?_)
          refine z_ri ?_
          exact zW_Q F (K _ (fun q => by omega) (fun q1 q2 q3 => by omega) (fun q1 q2 q3 => by exfalso; omega) (fun q1 q2 q3 => by omega) (fun q1 q2 q3 => by exfalso; omega) (fun q1 q2 q3 => by omega) (fun q1 q2 q3 => by exfalso; omega))
        · have c12 : ¬ (s.toInt < 0) := c12
          refine gw_ld rfl rfl ?_
          refine z_gs ?_
          refine gw_ld rfl rfl ?_
          refine z_iaE (n := 3) (hE 10) (by omega) ?_
          generalize ex14 : (tz_ar (10 + 1)).getD w.toInt.toNat 0 = x14
          have rx14 := z_rng x14
          have ox14 := tz_CS (n := w.toInt.toNat) (by omega)
          rw [ex14] at ox14
          have ocx14 := cs_3 (by omega) ox14
          refine z_b2 (fun c15 => ?_) (fun c15 => ?_)
          · have c15 : s.toInt < x14.toInt := c15
            refine gw_skip _ ?_
            refine gw_ld rfl rfl ?_
            refine z_gR (q := 57) (zT S (by decide) rfl) (zRf S (by decide) (by decide) rfl) (by decide) ?_
            refine gw_ld rfl rfl ?_
            refine z_C (m := 335) rfl rfl (fun x16 ex16 => ?_)
            refine z_mulR (c := 335) ex16 (by omega) (fun x17 ex17 => ?_)
            refine z_gs ?_
            refine gw_ld rfl rfl ?_
            refine z_iaE (n := 3) (hE 9) (by omega) ?_
            generalize ex18 : (tz_ar (9 + 1)).getD w.toInt.toNat 0 = x18
            have rx18 := z_rng x18
            have ox18 := tz_CF (n := w.toInt.toNat) (by omega)
            rw [ex18] at ox18
            have ocx18 := cf_3 (by omega) ox18
            refine z_add (by omega) (fun x19 ex19 => ?_)
            refine gw_ld rfl rfl ?_
            refine z_add (by omega) (fun x20 ex20 => ?_)
            refine z_iaV (n := 3350) (zT S (by decide) rfl) (zN S (by decide) rfl) (by omega) (zW_f F (fun c => c) (fun c => c)) ?_
            generalize ex21 : ez_I h 57 x20.toInt.toNat = x21
            have rx21 := z_rng x21
            have tx21 := ex21
            refine z_ri ?_
            exact zW_Q F (K _ (fun q => by omega) (fun q1 q2 q3 => by omega) (fun q1 q2 q3 => by rw [show 335 * k.toInt.toNat + 0 + s.toInt.toNat = x20.toInt.toNat by omega]; exact ex21.symm) (fun q1 q2 q3 => by omega) (fun q1 q2 q3 => by rw [show 335 * k.toInt.toNat + 286 + s.toInt.toNat = x20.toInt.toNat by omega]; exact ex21.symm) (fun q1 q2 q3 => by omega) (fun q1 q2 q3 => by rw [show 335 * k.toInt.toNat + 316 + s.toInt.toNat = x20.toInt.toNat by omega]; exact ex21.symm))
          · have c15 : ¬ (s.toInt < x14.toInt) := c15
            refine z_C (m := -1) rfl rfl (fun x22 ex22 => ?_)
            refine z_ri ?_
            exact zW_Q F (K _ (fun q => by omega) (fun q1 q2 q3 => by omega) (fun q1 q2 q3 => by exfalso; omega) (fun q1 q2 q3 => by omega) (fun q1 q2 q3 => by exfalso; omega) (fun q1 q2 q3 => by omega) (fun q1 q2 q3 => by exfalso; omega))
      · have c11 : ¬ (w.toInt < x10.toInt) := c11
        refine z_C (m := -1) rfl rfl (fun x23 ex23 => ?_)
        refine z_ri ?_
        exact zW_Q F (K _ (fun q => by omega) (fun q1 q2 q3 => by omega) (fun q1 q2 q3 => by exfalso; omega) (fun q1 q2 q3 => by omega) (fun q1 q2 q3 => by exfalso; omega) (fun q1 q2 q3 => by omega) (fun q1 q2 q3 => by exfalso; omega))
set_option maxRecDepth 4000 in
set_option maxHeartbeats 2000000 in
theorem x_codeF {E : Nat → Nat × (Nat → Int32)} {d : Nat} {Q : ez_Q} {h : ez_H} {k : Int32} {w : Int32} {s : Int32} (S : zSh h) (hE : zE E) (hb : 0 ≤ (ez_I h 55 2).toInt ∧ (ez_I h 55 2).toInt ≤ 10) (K : ∀ x : Int32, (¬ (0 ≤ k.toInt ∧ k.toInt < (ez_I h 55 2).toInt ∧ (ez_I h 56 (6 * k.toInt.toNat)).toInt = 2 ∧ 0 ≤ s.toInt ∧ 0 ≤ w.toInt ∧ w.toInt ≤ 2) → x.toInt = -1) → (0 ≤ k.toInt ∧ k.toInt < (ez_I h 55 2).toInt ∧ (ez_I h 56 (6 * k.toInt.toNat)).toInt = 2 ∧ 0 ≤ s.toInt → w.toInt = 0 → 286 ≤ s.toInt → x.toInt = -1) → (0 ≤ k.toInt ∧ k.toInt < (ez_I h 55 2).toInt ∧ (ez_I h 56 (6 * k.toInt.toNat)).toInt = 2 ∧ 0 ≤ s.toInt → w.toInt = 0 → s.toInt < 286 → x = ez_I h 57 (335 * k.toInt.toNat + 0 + s.toInt.toNat)) → (0 ≤ k.toInt ∧ k.toInt < (ez_I h 55 2).toInt ∧ (ez_I h 56 (6 * k.toInt.toNat)).toInt = 2 ∧ 0 ≤ s.toInt → w.toInt = 1 → 30 ≤ s.toInt → x.toInt = -1) → (0 ≤ k.toInt ∧ k.toInt < (ez_I h 55 2).toInt ∧ (ez_I h 56 (6 * k.toInt.toNat)).toInt = 2 ∧ 0 ≤ s.toInt → w.toInt = 1 → s.toInt < 30 → x = ez_I h 57 (335 * k.toInt.toNat + 286 + s.toInt.toNat)) → (0 ≤ k.toInt ∧ k.toInt < (ez_I h 55 2).toInt ∧ (ez_I h 56 (6 * k.toInt.toNat)).toInt = 2 ∧ 0 ≤ s.toInt → w.toInt = 2 → 19 ≤ s.toInt → x.toInt = -1) → (0 ≤ k.toInt ∧ k.toInt < (ez_I h 55 2).toInt ∧ (ez_I h 56 (6 * k.toInt.toNat)).toInt = 2 ∧ 0 ≤ s.toInt → w.toInt = 2 → s.toInt < 19 → x = ez_I h 57 (335 * k.toInt.toNat + 316 + s.toInt.toNat)) → Q (.inl (some (.int x))) h) : pw E (d + 3) 12 0 [some (.ref 1), some (.int k), some (.int w), some (.int s)] [] h Q := by
  have gk := z_rng k
  have gw := z_rng w
  have gs := z_rng s
  have F := zW_refl (fun _ _ => False) (fun _ => False) (fun _ => False) h
  apply ez_Wp_in
  show ez_gw _ _ _ _ _ _ (cz_12) _ _ _ _ _
  refine gw_skip _ ?_
  refine gw_ld rfl rfl ?_
  refine z_gR (q := 52) (zT S (by decide) rfl) (zRf S (by decide) (by decide) rfl) (by decide) ?_
  refine z_gR (q := 55) (zT S (by decide) rfl) (zRf S (by decide) (by decide) rfl) (by decide) ?_
  refine gw_ld rfl rfl ?_
  refine gw_ld rfl rfl ?_
  refine gw_ld rfl rfl ?_
  refine z_cl rfl rfl rfl rfl rfl rfl rfl rfl rfl rfl rfl (zT S (by decide) rfl) ?_
  refine c_codeL (k := k) (w := w) (s := s) S hE hb (fun x1 k2 k3 k4 k5 k6 k7 k8 => ?_)
  have rx1 := z_rng x1
  refine z_ri ?_
  exact zW_Q F (K _ k2 k3 k4 k5 k6 k7 k8)
