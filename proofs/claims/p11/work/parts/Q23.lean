/-! lengths taken out of a row -/
def tkI (g r : Nat → Int32) (f n : Nat) : Prop := (∀ k, k < n → g k = r (f + k)) ∧ ∀ k, n ≤ k → k < 288 → (g k).toInt = 0
theorem tk_0 {g r : Nat → Int32} {v : Int32} {f : Nat} (A : ∀ k, k < 288 → g k = v) (hv : v.toInt = 0) : tkI g r f 0 := ⟨fun k hk => by omega, fun k _ hk => by rw [A k hk, hv]⟩
theorem tk_s {h h2 : ez_H} {c x n m f : Nat} {y : Int32} {r : Nat → Int32} (A : tkI (ez_I h c) r f n) (e : h2 = ez_setI h c x y) (hx : x = n) (hy : y = r (f + n)) (hm : m = n + 1) : tkI (ez_I h2 c) r f m := by
  subst hm
  subst hx
  refine ⟨fun k hk => ?_, fun k hk hk2 => ?_⟩
  · by_cases q : k = x
    · rw [q, zI_eq e, hy]
    · rw [zI_ne e (by omega)]
      exact A.1 k (by omega)
  · rw [zI_ne e (by omega)]
    exact A.2 k (by omega) hk2
/-! PRINTED by wip/pack: the lengths of a code taken out of the row -/
set_option maxRecDepth 4000 in
set_option maxHeartbeats 2000000 in
theorem c_take_L0 {E : Nat → Nat × (Nat → Int32)} {d : Nat} {Q : ez_Q} {h : ez_H} {p : Nat} {f : Int32} {m : Int32} (S : zSh h) (hp : p = 15 ∨ p = 22 ∨ p = 29 ∨ p = 36 ∨ p = 43) (hf : 0 ≤ f.toInt ∧ 0 ≤ m.toInt ∧ m.toInt ≤ 288 ∧ f.toInt + m.toInt ≤ 316) (K : ∀ h2, zW (fun _ _ => False) (fun q => q = (p + 1)) (fun _ => False) h h2 → tkI (ez_I h2 (p + 1)) (ez_I h 70) f.toInt.toNat m.toInt.toNat → Q (.inl none) h2) : ∀ N : Nat, (∀ (h2 : ez_H) (i : Int32) , zW (fun _ _ => False) (fun q => q = (p + 1)) (fun _ => False) h h2 → (0 ≤ i.toInt ∧ i.toInt ≤ m.toInt) → tkI (ez_I h2 (p + 1)) (ez_I h 70) f.toInt.toNat i.toInt.toNat → (1000 - i.toInt) < (N : Int) → pw E (d + 1) 81 11 [some (.ref p), some (.ref 70), some (.int f), some (.int m), some (.int i)] [] h2 Q) := by
  intro N
  induction N with
  | zero => exact fun h2 i  F hinv A_tk hm => absurd hm (by have w_i := z_rng i; have gf := z_rng f; have gm := z_rng m; omega)
  | succ N ih =>
    refine fun h2 i  F hinv A_tk hm => ?_
    · skip
      have w_i := z_rng i
      have gf := z_rng f
      have gm := z_rng m
      have S2 := zW_sh F S
      apply ez_Wp_in
      show ez_gw _ _ _ _ _ _ (cz_81) _ _ _ _ _
      refine gw_skip _ ?_
      refine gw_ld rfl rfl ?_
      refine gw_ld rfl rfl ?_
      refine z_b2 (fun c1 => ?_) (fun c1 => ?_)
      · have c1 : m.toInt ≤ i.toInt := c1
        refine gw_skip _ ?_
        refine z_rv ?_
        have b1 := A_tk
        rw [show i.toInt.toNat = m.toInt.toNat by omega] at b1
        exact K _ F b1
      · have c1 : ¬ (m.toInt ≤ i.toInt) := c1
        refine gw_ld rfl rfl ?_
        refine gw_ld rfl rfl ?_
        refine z_gR (q := (p + 1)) ((zCode S2 hp).1) ((zCode S2 hp).2.1.1) (by omega) ?_
        refine z_al (n := 288) (.inl ((zCode S2 hp).2.2.1.1)) ((zCode S2 hp).2.2.2.1) (by omega) (fun x2 ex2 => ?_)
        refine z_b2 (fun c3 => ?_) (fun c3 => ?_)
        · have c3 : x2.toInt ≤ i.toInt := c3
          refine gw_skip _ ?_
          refine z_rv ?_
          have b1 := A_tk
          rw [show i.toInt.toNat = m.toInt.toNat by omega] at b1
          exact K _ F b1
        · have c3 : ¬ (x2.toInt ≤ i.toInt) := c3
          refine gw_ld rfl rfl ?_
          refine gw_ld rfl rfl ?_
          refine z_add (by omega) (fun x4 ex4 => ?_)
          refine z_b1 (fun c5 => ?_) (fun c5 => ?_)
          · have c5 : x4.toInt < 0 := c5
            refine gw_skip _ ?_
            refine z_inc rfl (by rw [show (1 : Int32).toInt = 1 from rfl]; omega) (fun x6 ex6 => ?_)
            rw [show (1 : Int32).toInt = 1 from rfl] at ex6
            show ez_gw _ _ _ _ _ _ _ _ [some (.ref p), some (.ref 70), some (.int f), some (.int m), some (.int x6)] _ _ _
            refine z_go ?_
            exact ih h2 x6 F (by omega) ((by exfalso; omega)) (by omega)
          · have c5 : ¬ (x4.toInt < 0) := c5
            refine gw_ld rfl rfl ?_
            refine gw_ld rfl rfl ?_
            refine z_add (by omega) (fun x7 ex7 => ?_)
            refine gw_ld rfl rfl ?_
            refine z_al (n := 316) (.inl (zT S2 (by decide) rfl)) (zN S2 (by decide) rfl) (by omega) (fun x8 ex8 => ?_)
            refine z_b2 (fun c9 => ?_) (fun c9 => ?_)
            · have c9 : x8.toInt ≤ x7.toInt := c9
              refine gw_skip _ ?_
              refine z_inc rfl (by rw [show (1 : Int32).toInt = 1 from rfl]; omega) (fun x10 ex10 => ?_)
              rw [show (1 : Int32).toInt = 1 from rfl] at ex10
              show ez_gw _ _ _ _ _ _ _ _ [some (.ref p), some (.ref 70), some (.int f), some (.int m), some (.int x10)] _ _ _
              refine z_go ?_
              exact ih h2 x10 F (by omega) ((by exfalso; omega)) (by omega)
            · have c9 : ¬ (x8.toInt ≤ x7.toInt) := c9
              refine gw_ld rfl rfl ?_
              refine z_gR (q := (p + 1)) ((zCode S2 hp).1) ((zCode S2 hp).2.1.1) (by omega) ?_
              refine gw_ld rfl rfl ?_
              refine gw_ld rfl rfl ?_
              refine gw_ld rfl rfl ?_
              refine gw_ld rfl rfl ?_
              refine z_add (by omega) (fun x11 ex11 => ?_)
              refine z_iaV (n := 316) (zT S2 (by decide) rfl) (zN S2 (by decide) rfl) (by omega) (zW_f F (by omega) (fun c => c)) ?_
              generalize ex12 : ez_I h 70 x11.toInt.toNat = x12
              have rx12 := z_rng x12
              refine z_is (n := 288) ((zCode S2 hp).2.2.1.1) ((zCode S2 hp).2.2.2.1) (by omega) (fun h13 e14 => ?_)
              have S15 := zSh_set S2 e14
              have F16 := zW_setA F e14 (by omega)
              have A17 : tkI (ez_I h13 (p + 1)) (ez_I h 70) f.toInt.toNat (i.toInt.toNat + 1) := tk_s A_tk e14 (by omega) (by rw [show f.toInt.toNat + i.toInt.toNat = x11.toInt.toNat by omega]; exact ex12.symm) rfl
              refine z_inc rfl (by rw [show (1 : Int32).toInt = 1 from rfl]; omega) (fun x18 ex18 => ?_)
              rw [show (1 : Int32).toInt = 1 from rfl] at ex18
              show ez_gw _ _ _ _ _ _ _ _ [some (.ref p), some (.ref 70), some (.int f), some (.int m), some (.int x18)] _ _ _
              refine z_go ?_
              exact ih h13 x18 F16 (by omega) ((by rw [show x18.toInt.toNat = i.toInt.toNat + 1 by omega]; exact A17)) (by omega)
set_option maxRecDepth 4000 in
set_option maxHeartbeats 2000000 in
theorem c_take {E : Nat → Nat × (Nat → Int32)} {d : Nat} {Q : ez_Q} {h : ez_H} {p : Nat} {f : Int32} {m : Int32} (S : zSh h) (hp : p = 15 ∨ p = 22 ∨ p = 29 ∨ p = 36 ∨ p = 43) (hf : 0 ≤ f.toInt ∧ 0 ≤ m.toInt ∧ m.toInt ≤ 288 ∧ f.toInt + m.toInt ≤ 316) (K : ∀ h2, zW (fun _ _ => False) (fun q => q = (p + 1)) (fun _ => False) h h2 → tkI (ez_I h2 (p + 1)) (ez_I h 70) f.toInt.toNat m.toInt.toNat → Q (.inl none) h2) : pw E (d + 1) 81 0 [some (.ref p), some (.ref 70), some (.int f), some (.int m), none] [] h Q := by
  have gf := z_rng f
  have gm := z_rng m
  have F := zW_refl (fun _ _ => False) (fun q => q = (p + 1)) (fun _ => False) h
  apply ez_Wp_in
  show ez_gw _ _ _ _ _ _ (cz_81) _ _ _ _ _
  refine gw_skip _ ?_
  refine gw_ld rfl rfl ?_
  refine z_gR (q := (p + 1)) ((zCode S hp).1) ((zCode S hp).2.1.1) (by omega) ?_
  refine z_C (m := 0) rfl rfl (fun x1 ex1 => ?_)
  refine z_cl rfl rfl rfl rfl rfl rfl rfl rfl rfl rfl rfl (trivial) ?_
  refine wp_fill ((zCode S hp).2.2.1.1) (by rw [show ez_l h (p + 1) = 288 from (zCode S hp).2.2.2.1]; omega) ?_
  generalize e3 : ez_rowI h (p + 1) (pf_fill (ez_I h (p + 1)) (ez_l h (p + 1)) x1) = h2
  have e3 := e3.symm
  have A4 := zIr_at e3 (show ez_l h (p + 1) = 288 from (zCode S hp).2.2.2.1)
  have S5 := zSh_row S e3
  have F6 := zW_row F e3 (by omega)
  have A7 : tkI (ez_I h2 (p + 1)) (ez_I h 70) f.toInt.toNat 0 := tk_0 A4 (by omega)
  refine z_C (m := 0) rfl rfl (fun x8 ex8 => ?_)
  refine gw_st rfl rfl rfl ?_
  show ez_gw _ _ _ _ _ _ _ _ [some (.ref p), some (.ref 70), some (.int f), some (.int m), some (.int x8)] _ _ _
  exact ez_Wp_at ((c_take_L0 (p := p) (f := f) (m := m) S hp hf K (((1000 - x8.toInt)).toNat + 1)) h2 x8 F6 (by omega) ((by rw [show x8.toInt.toNat = 0 by omega]; exact A7)) (by omega)) rfl
