/-! PRINTED by wip/pack: codes kept; the row told by the model -/
set_option maxRecDepth 4000 in
set_option maxHeartbeats 2000000 in
theorem c_keep {E : Nat → Nat × (Nat → Int32)} {d : Nat} {Q : ez_Q} {h : ez_H} {k : Int32} (S : zSh h) (hk : 0 ≤ k.toInt ∧ k.toInt < (ez_I h 55 2).toInt ∧ (ez_I h 55 2).toInt ≤ 10) (K : ∀ h2, zW (fun _ _ => False) (fun q => q = 57) (fun _ => False) h h2 → (∀ s, s < 286 → ez_I h2 57 ((335 * k.toInt).toNat + s) = ez_I h 30 s) → (∀ s, s < 30 → ez_I h2 57 ((335 * k.toInt).toNat + 286 + s) = ez_I h 37 s) → (∀ s, s < 19 → ez_I h2 57 ((335 * k.toInt).toNat + 316 + s) = ez_I h 44 s) → (∀ j, (j < (335 * k.toInt).toNat ∨ (335 * k.toInt).toNat + 335 ≤ j) → ez_I h2 57 j = ez_I h 57 j) → Q (.inl none) h2) : pw E (d + 1) 77 0 [some (.ref 55), some (.int k), some (.ref 14), none] [] h Q := by
  have gk := z_rng k
  have F := zW_refl (fun _ _ => False) (fun q => q = 57) (fun _ => False) h
  apply ez_Wp_in
  show ez_gw _ _ _ _ _ _ (cz_77) _ _ _ _ _
  refine gw_skip _ ?_
  refine gw_ld rfl rfl ?_
  refine gw_ld rfl rfl ?_
  refine z_cl rfl rfl rfl rfl rfl rfl rfl rfl rfl rfl rfl (zT S (by decide) rfl) ?_
  refine c_bhas S (k := k) (fun x1 k2 k3 k4 => ?_)
  have rx1 := z_rng x1
  refine z_b1 (fun c5 => ?_) (fun c5 => ?_)
  · have c5 : x1.toInt = 0 := c5
    refine gw_skip _ ?_
    refine z_rv ?_
    exfalso; omega
  · have c5 : ¬ (x1.toInt = 0) := c5
    refine gw_ld rfl rfl ?_
    refine z_C (m := 335) rfl rfl (fun x6 ex6 => ?_)
    refine z_mulR (c := 335) ex6 (by omega) (fun x7 ex7 => ?_)
    refine gw_st rfl rfl rfl ?_
    show ez_gw _ _ _ _ _ _ _ _ [some (.ref 55), some (.int k), some (.ref 14), some (.int x7)] _ _ _
    refine gw_ld rfl rfl ?_
    refine z_gR (q := 29) (zT S (by decide) rfl) (zRf S (by decide) (by decide) rfl) (by decide) ?_
    refine z_gR (q := 30) (zT S (by decide) rfl) (zRf S (by decide) (by decide) rfl) (by decide) ?_
    refine z_C (m := 0) rfl rfl (fun x8 ex8 => ?_)
    refine gw_ld rfl rfl ?_
    refine z_gR (q := 57) (zT S (by decide) rfl) (zRf S (by decide) (by decide) rfl) (by decide) ?_
    refine gw_ld rfl rfl ?_
    refine z_C (m := 286) rfl rfl (fun x9 ex9 => ?_)
    refine z_ac (n := 288) (m := 3350) rfl (zT S (by decide) rfl) (zT S (by decide) rfl) (zN S (by decide) rfl) (zN S (by decide) rfl) (by omega) (fun h10 e11 => ?_)
    have S12 := zSh_row S e11
    have F13 := zW_row F e11 (by omega)
    have A14 : (∀ s, s < 286 → ez_I h10 57 ((335 * k.toInt).toNat + s) = ez_I h 30 s) := fun s hs => by have q := (zIr_cp e11).1 s (by omega); rw [show x7.toInt.toNat + s = (335 * k.toInt).toNat + s by omega, show x8.toInt.toNat + s = s by omega, (show ez_I h 30 = ez_I h 30 from zW_fn F 30 (by decide) (fun k c => by omega))] at q; exact q
    have A15 : (∀ j, (j < (335 * k.toInt).toNat ∨ (335 * k.toInt).toNat + 335 ≤ j) → ez_I h10 57 j = ez_I h 57 j) := fun j hj => (zIr_cp e11).2 j (by omega)
    refine gw_ld rfl rfl ?_
    refine z_gR (q := 36) (zT S12 (by decide) rfl) (zRf S12 (by decide) (by decide) rfl) (by decide) ?_
    refine z_gR (q := 37) (zT S12 (by decide) rfl) (zRf S12 (by decide) (by decide) rfl) (by decide) ?_
    refine z_C (m := 0) rfl rfl (fun x16 ex16 => ?_)
    refine gw_ld rfl rfl ?_
    refine z_gR (q := 57) (zT S12 (by decide) rfl) (zRf S12 (by decide) (by decide) rfl) (by decide) ?_
    refine gw_ld rfl rfl ?_
    refine z_C (m := 286) rfl rfl (fun x17 ex17 => ?_)
    refine z_add (by omega) (fun x18 ex18 => ?_)
    refine z_C (m := 30) rfl rfl (fun x19 ex19 => ?_)
    refine z_ac (n := 288) (m := 3350) rfl (zT S12 (by decide) rfl) (zT S12 (by decide) rfl) (zN S12 (by decide) rfl) (zN S12 (by decide) rfl) (by omega) (fun h20 e21 => ?_)
    have S22 := zSh_row S12 e21
    have F23 := zW_row F13 e21 (by omega)
    have A24 : (∀ s, s < 286 → ez_I h20 57 ((335 * k.toInt).toNat + s) = ez_I h 30 s) := fun s hs => ((zIr_cp e21).2 _ (by omega)).trans (A14 s hs)
    have A25 : (∀ j, (j < (335 * k.toInt).toNat ∨ (335 * k.toInt).toNat + 335 ≤ j) → ez_I h20 57 j = ez_I h 57 j) := fun s hs => ((zIr_cp e21).2 _ (by omega)).trans (A15 s hs)
    have A26 : (∀ s, s < 30 → ez_I h20 57 ((335 * k.toInt).toNat + 286 + s) = ez_I h 37 s) := fun s hs => by have q := (zIr_cp e21).1 s (by omega); rw [show x18.toInt.toNat + s = (335 * k.toInt).toNat + 286 + s by omega, show x16.toInt.toNat + s = s by omega, (show ez_I h10 37 = ez_I h 37 from zW_fn F13 37 (by decide) (fun k c => by omega))] at q; exact q
    clear A14
    clear A15
    refine gw_ld rfl rfl ?_
    refine z_gR (q := 43) (zT S22 (by decide) rfl) (zRf S22 (by decide) (by decide) rfl) (by decide) ?_
    refine z_gR (q := 44) (zT S22 (by decide) rfl) (zRf S22 (by decide) (by decide) rfl) (by decide) ?_
    refine z_C (m := 0) rfl rfl (fun x27 ex27 => ?_)
    refine gw_ld rfl rfl ?_
    refine z_gR (q := 57) (zT S22 (by decide) rfl) (zRf S22 (by decide) (by decide) rfl) (by decide) ?_
    refine gw_ld rfl rfl ?_
    refine z_C (m := 286) rfl rfl (fun x28 ex28 => ?_)
    refine z_add (by omega) (fun x29 ex29 => ?_)
    refine z_C (m := 30) rfl rfl (fun x30 ex30 => ?_)
    refine z_add (by omega) (fun x31 ex31 => ?_)
    refine z_C (m := 19) rfl rfl (fun x32 ex32 => ?_)
    refine z_ac (n := 288) (m := 3350) rfl (zT S22 (by decide) rfl) (zT S22 (by decide) rfl) (zN S22 (by decide) rfl) (zN S22 (by decide) rfl) (by omega) (fun h33 e34 => ?_)
    have S35 := zSh_row S22 e34
    have F36 := zW_row F23 e34 (by omega)
    have A37 : (∀ s, s < 286 → ez_I h33 57 ((335 * k.toInt).toNat + s) = ez_I h 30 s) := fun s hs => ((zIr_cp e34).2 _ (by omega)).trans (A24 s hs)
    have A38 : (∀ j, (j < (335 * k.toInt).toNat ∨ (335 * k.toInt).toNat + 335 ≤ j) → ez_I h33 57 j = ez_I h 57 j) := fun s hs => ((zIr_cp e34).2 _ (by omega)).trans (A25 s hs)
    have A39 : (∀ s, s < 30 → ez_I h33 57 ((335 * k.toInt).toNat + 286 + s) = ez_I h 37 s) := fun s hs => ((zIr_cp e34).2 _ (by omega)).trans (A26 s hs)
    have A40 : (∀ s, s < 19 → ez_I h33 57 ((335 * k.toInt).toNat + 316 + s) = ez_I h 44 s) := fun s hs => by have q := (zIr_cp e34).1 s (by omega); rw [show x31.toInt.toNat + s = (335 * k.toInt).toNat + 316 + s by omega, show x27.toInt.toNat + s = s by omega, (show ez_I h20 44 = ez_I h 44 from zW_fn F23 44 (by decide) (fun k c => by omega))] at q; exact q
    clear A24
    clear A25
    clear A26
    refine z_rv ?_
    exact K _ F36 A37 A39 A40 A38
set_option maxRecDepth 4000 in
set_option maxHeartbeats 2000000 in
theorem d_rest {E : Nat → Nat × (Nat → Int32)} {d : Nat} {Q : ez_Q} {h : ez_H} {y : Int32} (S : zSh h) (hy : 0 ≤ y.toInt ∧ y.toInt ≤ 18) (K : ∀ x : Int32, x.toInt = (rEf y.toInt.toNat : Nat) → Q (.inl (some (.int x))) h) : pw E d 43 0 [some (.int y)] [] h Q := by
  have gy := z_rng y
  have F := zW_refl (fun _ _ => False) (fun _ => False) (fun _ => False) h
  apply ez_Wp_in
  show ez_gw _ _ _ _ _ _ (cz_43) _ _ _ _ _
  refine gw_skip _ ?_
  refine gw_ld rfl rfl ?_
  refine z_C (m := 16) rfl rfl (fun x1 ex1 => ?_)
  refine z_b2 (fun c2 => ?_) (fun c2 => ?_)
  · have c2 : y.toInt ≠ x1.toInt := c2
    refine gw_skip _ ?_
    refine gw_ld rfl rfl ?_
    refine z_C (m := 17) rfl rfl (fun x3 ex3 => ?_)
    refine z_b2 (fun c4 => ?_) (fun c4 => ?_)
    · have c4 : y.toInt ≠ x3.toInt := c4
      refine gw_skip _ ?_
      refine gw_ld rfl rfl ?_
      refine z_C (m := 18) rfl rfl (fun x5 ex5 => ?_)
      refine z_b2 (fun c6 => ?_) (fun c6 => ?_)
      · have c6 : y.toInt ≠ x5.toInt := c6
        refine gw_skip _ ?_
        refine z_C (m := 0) rfl rfl (fun x7 ex7 => ?_)
        refine z_ri ?_
        have h6 : y.toInt.toNat = 16 → rEf y.toInt.toNat = 2 := fun q => by rw [q]; rfl
        have h7 : y.toInt.toNat = 17 → rEf y.toInt.toNat = 3 := fun q => by rw [q]; rfl
        have h8 : y.toInt.toNat = 18 → rEf y.toInt.toNat = 7 := fun q => by rw [q]; rfl
        have hw : ¬ 16 ≤ y.toInt → rEf y.toInt.toNat = 0 := fun q => if_neg (by omega)
        exact zW_Q F (K _ (by omega))
      · have c6 : ¬ (y.toInt ≠ x5.toInt) := c6
        refine z_C (m := 7) rfl rfl (fun x8 ex8 => ?_)
        refine z_go ?_
        refine gw_skip _ ?_
        refine z_ri ?_
        have h6 : y.toInt.toNat = 16 → rEf y.toInt.toNat = 2 := fun q => by rw [q]; rfl
        have h7 : y.toInt.toNat = 17 → rEf y.toInt.toNat = 3 := fun q => by rw [q]; rfl
        have h8 : y.toInt.toNat = 18 → rEf y.toInt.toNat = 7 := fun q => by rw [q]; rfl
        have hw : ¬ 16 ≤ y.toInt → rEf y.toInt.toNat = 0 := fun q => if_neg (by omega)
        exact zW_Q F (K _ (by omega))
    · have c4 : ¬ (y.toInt ≠ x3.toInt) := c4
      refine z_C (m := 3) rfl rfl (fun x9 ex9 => ?_)
      refine z_go ?_
      refine gw_skip _ ?_
      refine z_ri ?_
      have h6 : y.toInt.toNat = 16 → rEf y.toInt.toNat = 2 := fun q => by rw [q]; rfl
      have h7 : y.toInt.toNat = 17 → rEf y.toInt.toNat = 3 := fun q => by rw [q]; rfl
      have h8 : y.toInt.toNat = 18 → rEf y.toInt.toNat = 7 := fun q => by rw [q]; rfl
      have hw : ¬ 16 ≤ y.toInt → rEf y.toInt.toNat = 0 := fun q => if_neg (by omega)
      exact zW_Q F (K _ (by omega))
  · have c2 : ¬ (y.toInt ≠ x1.toInt) := c2
    refine z_C (m := 2) rfl rfl (fun x10 ex10 => ?_)
    refine z_go ?_
    refine gw_skip _ ?_
    refine z_ri ?_
    have h6 : y.toInt.toNat = 16 → rEf y.toInt.toNat = 2 := fun q => by rw [q]; rfl
    have h7 : y.toInt.toNat = 17 → rEf y.toInt.toNat = 3 := fun q => by rw [q]; rfl
    have h8 : y.toInt.toNat = 18 → rEf y.toInt.toNat = 7 := fun q => by rw [q]; rfl
    have hw : ¬ 16 ≤ y.toInt → rEf y.toInt.toNat = 0 := fun q => if_neg (by omega)
    exact zW_Q F (K _ (by omega))
set_option maxRecDepth 4000 in
set_option maxHeartbeats 2000000 in
theorem d_tr {E : Nat → Nat × (Nat → Int32)} {d : Nat} {Q : ez_Q} {h : ez_H} {a : Int32} {b : Int32} (S : zSh h) (ha : 0 ≤ a.toInt ∧ a.toInt ≤ 18) (hc : 0 ≤ (ez_I h 71 56).toInt ∧ (ez_I h 71 56).toInt < 330) (hC : aR (ez_I h 99) 19 0 1000) (K : ∀ h2, zW (fun q k => q = 71 ∧ k = 56) (fun q => q = 99 ∨ q = 117 ∨ q = 118) (fun _ => False) h h2 → (ez_I h2 71 56).toInt = (ez_I h 71 56).toInt + 1 → (ez_I h2 117 (ez_I h 71 56).toInt.toNat = a ∧ ∀ k, k ≠ (ez_I h 71 56).toInt.toNat → ez_I h2 117 k = ez_I h 117 k) → (ez_I h2 118 (ez_I h 71 56).toInt.toNat = b ∧ ∀ k, k ≠ (ez_I h 71 56).toInt.toNat → ez_I h2 118 k = ez_I h 118 k) → upE (ez_I h 99) (ez_I h2 99) a.toInt.toNat → Q (.inl none) h2) : pw E d 41 0 [some (.ref 71), some (.int a), some (.int b)] [] h Q := by
  have ga := z_rng a
  have gb := z_rng b
  have F := zW_refl (fun q k => q = 71 ∧ k = 56) (fun q => q = 99 ∨ q = 117 ∨ q = 118) (fun _ => False) h
  apply ez_Wp_in
  show ez_gw _ _ _ _ _ _ (cz_41) _ _ _ _ _
  refine gw_skip _ ?_
  have r1 := z_rng (ez_I h 71 56)
  refine gw_ld rfl rfl ?_
  refine z_gR (q := 117) (zT S (by decide) rfl) (zRf S (by decide) (by decide) rfl) (by decide) ?_
  refine gw_ld rfl rfl ?_
  refine z_gI2 (by decide) (zT S (by decide) rfl) (rfl) ?_
  refine gw_ld rfl rfl ?_
  refine z_is (n := 330) (zT S (by decide) rfl) (zN S (by decide) rfl) (by omega) (fun h2 e3 => ?_)
  have S4 := zSh_set S e3
  have F5 := zW_setA F e3 (by omega)
  have f6 : ez_I h2 71 56 = (ez_I h 71 56) := (zI_ne e3 (by omega)).trans (rfl)
  have A7 : ez_I h2 99 = ez_I h 99 := by rw [zI_fn e3 99 (by decide)]
  have A8 : ez_I h2 118 = ez_I h 118 := by rw [zI_fn e3 118 (by decide)]
  have A9 : (ez_I h2 117 (ez_I h 71 56).toInt.toNat = a ∧ ∀ k, k ≠ (ez_I h 71 56).toInt.toNat → ez_I h2 117 k = ez_I h 117 k) := ⟨zI_eq e3, fun k hk => zI_ne e3 (by omega)⟩
  refine gw_ld rfl rfl ?_
  refine z_gR (q := 118) (zT S4 (by decide) rfl) (zRf S4 (by decide) (by decide) rfl) (by decide) ?_
  refine gw_ld rfl rfl ?_
  refine z_gI2 (by decide) (zT S4 (by decide) rfl) (f6) ?_
  refine gw_ld rfl rfl ?_
  refine z_is (n := 330) (zT S4 (by decide) rfl) (zN S4 (by decide) rfl) (by omega) (fun h10 e11 => ?_)
  have S12 := zSh_set S4 e11
  have F13 := zW_setA F5 e11 (by omega)
  have f14 : ez_I h10 71 56 = (ez_I h 71 56) := (zI_ne e11 (by omega)).trans (f6)
  have A15 : ez_I h10 99 = ez_I h 99 := by rw [zI_fn e11 99 (by decide)]; exact A7
  have A16 : (ez_I h10 117 (ez_I h 71 56).toInt.toNat = a ∧ ∀ k, k ≠ (ez_I h 71 56).toInt.toNat → ez_I h10 117 k = ez_I h 117 k) := by rw [zI_fn e11 117 (by decide)]; exact A9
  have A17 : (ez_I h10 118 (ez_I h 71 56).toInt.toNat = b ∧ ∀ k, k ≠ (ez_I h 71 56).toInt.toNat → ez_I h10 118 k = ez_I h 118 k) := ⟨zI_eq e11, fun k hk => (zI_ne e11 (by omega)).trans (congrFun A8 k)⟩
  clear A7
  clear A9
  refine gw_ld rfl rfl ?_
  refine z_gR (q := 99) (zT S12 (by decide) rfl) (zRf S12 (by decide) (by decide) rfl) (by decide) ?_
  refine gw_ld rfl rfl ?_
  refine gw_op rfl ?_
  refine z_iaV (n := 19) (zT S12 (by decide) rfl) (zN S12 (by decide) rfl) (by omega) (congrFun A15 _) ?_
  generalize ex18 : ez_I h 99 a.toInt.toNat = x18
  have rx18 := z_rng x18
  have yx18 := hC a.toInt.toNat (by omega)
  rw [ex18] at yx18
  refine z_C (m := 1) rfl rfl (fun x19 ex19 => ?_)
  refine z_add (by omega) (fun x20 ex20 => ?_)
  refine z_is (n := 19) (zT S12 (by decide) rfl) (zN S12 (by decide) rfl) (by omega) (fun h21 e22 => ?_)
  have S23 := zSh_set S12 e22
  have F24 := zW_setA F13 e22 (by omega)
  have f25 : ez_I h21 71 56 = (ez_I h 71 56) := (zI_ne e22 (by omega)).trans (f14)
  have A26 : (ez_I h21 117 (ez_I h 71 56).toInt.toNat = a ∧ ∀ k, k ≠ (ez_I h 71 56).toInt.toNat → ez_I h21 117 k = ez_I h 117 k) := by rw [zI_fn e22 117 (by decide)]; exact A16
  have A27 : (ez_I h21 118 (ez_I h 71 56).toInt.toNat = b ∧ ∀ k, k ≠ (ez_I h 71 56).toInt.toNat → ez_I h21 118 k = ez_I h 118 k) := by rw [zI_fn e22 118 (by decide)]; exact A17
  have A28 : upE (ez_I h 99) (ez_I h21 99) a.toInt.toNat := ⟨x18, x20, ex18, by omega, zI_eq e22, fun k hk => (zI_ne e22 (by omega)).trans (congrFun A15 k)⟩
  clear A16
  clear A17
  refine gw_ld rfl rfl ?_
  refine gw_op rfl ?_
  refine z_gI2 (by decide) (zT S23 (by decide) rfl) (f25) ?_
  refine z_C (m := 1) rfl rfl (fun x29 ex29 => ?_)
  refine z_add (by omega) (fun x30 ex30 => ?_)
  refine z_pI (zT S23 (by decide) rfl) (fun h31 e32 => ?_)
  have S33 := zSh_set S23 e32
  have F34 := zW_setF F24 e32 (by omega)
  have f35 : ez_I h31 71 56 = x30 := zI_eq e32
  have A36 : (ez_I h31 117 (ez_I h 71 56).toInt.toNat = a ∧ ∀ k, k ≠ (ez_I h 71 56).toInt.toNat → ez_I h31 117 k = ez_I h 117 k) := by rw [zI_fn e32 117 (by decide)]; exact A26
  have A37 : (ez_I h31 118 (ez_I h 71 56).toInt.toNat = b ∧ ∀ k, k ≠ (ez_I h 71 56).toInt.toNat → ez_I h31 118 k = ez_I h 118 k) := by rw [zI_fn e32 118 (by decide)]; exact A27
  have A38 : upE (ez_I h 99) (ez_I h31 99) a.toInt.toNat := by rw [zI_fn e32 99 (by decide)]; exact A28
  clear A26
  clear A27
  clear A28
  refine z_rv ?_
  have t39 := congrArg Int32.toInt (f35)
  exact K _ F34 (by omega) A36 A37 A38
