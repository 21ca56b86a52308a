theorem zMk {PA PL : Nat → Prop} {h h2 : ez_H} (F : zK PA PL h h2) (hM : zMem h) : zMem h2 := by
  unfold zMem
  rw [F.1, F.2.1]
  exact hM
theorem poC_y {U : Nat → Int32} {s s' : Nat} {v : Int32} {c : Int} (e : U s = v) (hv : 0 < v.toInt) (hc : c = (poC U s : Nat) + 1) (hs : s' = s + 1) : c = (poC U s' : Nat) := by
  subst hs
  have h : 0 < (U s).toInt := by rw [e]; exact hv
  have : poC U (s + 1) = poC U s + 1 := by
    show poC U s + (if 0 < (U s).toInt then 1 else 0) = _
    simp only [h, ↓reduceIte]
  omega
theorem poC_n {U : Nat → Int32} {s s' : Nat} {v : Int32} {c : Int} (e : U s = v) (hv : ¬ 0 < v.toInt) (hc : c = (poC U s : Nat)) (hs : s' = s + 1) : c = (poC U s' : Nat) := by
  subst hs
  have h : ¬ 0 < (U s).toInt := by rw [e]; exact hv
  have : poC U (s + 1) = poC U s := by
    show poC U s + (if 0 < (U s).toInt then 1 else 0) = _
    simp only [h, ↓reduceIte]; rfl
  omega
def wsI (U R : Nat → Int32) : Nat → Int32
  | 0 => 0
  | k + 1 => wsI U R k + U k * R k
theorem wsI_s {U R : Nat → Int32} {k k' : Nat} {a b c d z : Int32} (A : c = wsI U R k) (ea : U k = a) (eb : R k = b) (hz : z = a * b) (hd : d = c + z) (hk : k' = k + 1) : d = wsI U R k' := by
  subst hk
  rw [hd, hz, A, ← ea, ← eb]
  rfl
theorem poC_congr {U U' : Nat → Int32} : ∀ s, (∀ k, k < s → U k = U' k) → poC U s = poC U' s
  | 0, _ => rfl
  | s + 1, h => by
    show poC U s + _ = poC U' s + _
    rw [poC_congr s (fun k hk => h k (by omega)), h s (by omega)]
theorem cnU_congr {U U' : Nat → Int32} {x : Int} : ∀ s, (∀ k, k < s → U k = U' k) → cnU U x s = cnU U' x s
  | 0, _ => rfl
  | s + 1, h => by
    show cnU U x s + (if 0 < (U s).toInt ∧ (U s).toInt * 512 + (s : Int) = x then 1 else 0) = cnU U' x s + (if 0 < (U' s).toInt ∧ (U' s).toInt * 512 + (s : Int) = x then 1 else 0)
    rw [cnU_congr s (fun k hk => h k (by omega)), h s (by omega)]
theorem lnP_U {U U' R : Nat → Int32} {al li : Nat} (h : ∀ k, k < al → U k = U' k) (A : lnP U R al li) : lnP U' R al li := by
  obtain ⟨n, kf, a1, a2, a3, a4, a5⟩ := A
  exact ⟨n, kf, by rw [a1]; exact poC_congr al h, a2, fun x => by rw [a3 x]; exact cnU_congr al h, a4, a5⟩
/-! PRINTED by wip/p18/con23.py: weigh and measure of the class, told in full -/
set_option maxRecDepth 4000 in
set_option maxHeartbeats 20000000 in
theorem f_weighed_L0 {E : Nat → Nat × (Nat → Int32)} {d : Nat} {Q : ez_Q} {h : ez_H}  (S : zSh h) (hU : aR (ez_I h 7) 64 0 1000000) (K : ∀ x : Int32, x.toInt = (poC (ez_I h 7) 64 : Nat) → Q (.inl (some (.int x))) h) : ∀ N : Nat, (∀ (h2 : ez_H) (c : Int32) (i : Int32) , zK (fun _ => False) (fun _ => False) h h2 → (0 ≤ c.toInt ∧ c.toInt ≤ 64 ∧ 0 ≤ i.toInt ∧ i.toInt ≤ 64 ∧ c.toInt ≤ i.toInt ∧ c.toInt = (poC (ez_I h 7) i.toInt.toNat : Nat)) → (100 - i.toInt) < (N : Int) → pw E d 21 4 [some (.ref 1), some (.int c), some (.int i)] [] h2 Q) := by
  intro N
  induction N with
  | zero => exact fun h2 c i  F hinv  hm => absurd hm (by have w_c := z_rng c; have w_i := z_rng i; omega)
  | succ N ih =>
    refine fun h2 c i  F hinv  hm => ?_
    · skip
      have w_c := z_rng c
      have w_i := z_rng i
      have S2 := zK_sh F S
      apply ez_Wp_in
      show ez_gw _ _ _ _ _ _ (cz_21) _ _ _ _ _
      refine gw_skip _ ?_
      refine gw_ld rfl rfl ?_
      refine z_C (m := 64) rfl rfl (fun x1 ex1 => ?_)
      refine z_b2 (fun c2 => ?_) (fun c2 => ?_)
      · have c2 : x1.toInt ≤ i.toInt := c2
        refine gw_skip _ ?_
        refine gw_ld rfl rfl ?_
        refine z_ri ?_
        exact zK_Q F (K c (by rw [show (64 : Nat) = i.toInt.toNat by omega]; omega))
      · have c2 : ¬ (x1.toInt ≤ i.toInt) := c2
        refine gw_ld rfl rfl ?_
        refine z_gR (q := 7) (zT S2 (by decide) rfl) (zRf S2 (by decide) (by decide) rfl) (by decide) ?_
        refine gw_ld rfl rfl ?_
        refine z_iaV (n := 64) (zT S2 (by decide) rfl) (zN S2 (by decide) rfl) (by omega) (zK_a F (fun c => c)) ?_
        generalize ex3 : ez_I h 7 i.toInt.toNat = x3
        have rx3 := z_rng x3
        have yx3 := hU i.toInt.toNat (by omega)
        rw [ex3] at yx3
        refine z_b1 (fun c4 => ?_) (fun c4 => ?_)
        · have c4 : x3.toInt ≤ 0 := c4
          refine gw_skip _ ?_
          refine z_inc rfl (by rw [show (1 : Int32).toInt = 1 from rfl]; omega) (fun x5 ex5 => ?_)
          rw [show (1 : Int32).toInt = 1 from rfl] at ex5
          show ez_gw _ _ _ _ _ _ _ _ [some (.ref 1), some (.int c), some (.int x5)] _ _ _
          refine z_go ?_
          exact ih h2 c x5 F (⟨by omega, by omega, by omega, by omega, by omega, poC_n ex3 (by omega) (by omega) (by omega)⟩)  (by omega)
        · have c4 : ¬ (x3.toInt ≤ 0) := c4
          refine z_inc rfl (by rw [show (1 : Int32).toInt = 1 from rfl]; omega) (fun x6 ex6 => ?_)
          rw [show (1 : Int32).toInt = 1 from rfl] at ex6
          show ez_gw _ _ _ _ _ _ _ _ [some (.ref 1), some (.int x6), some (.int i)] _ _ _
          refine z_inc rfl (by rw [show (1 : Int32).toInt = 1 from rfl]; omega) (fun x7 ex7 => ?_)
          rw [show (1 : Int32).toInt = 1 from rfl] at ex7
          show ez_gw _ _ _ _ _ _ _ _ [some (.ref 1), some (.int x6), some (.int x7)] _ _ _
          refine z_go ?_
          exact ih h2 x6 x7 F (⟨by omega, by omega, by omega, by omega, by omega, poC_y ex3 (by omega) (by omega) (by omega)⟩)  (by omega)
set_option maxRecDepth 4000 in
set_option maxHeartbeats 20000000 in
theorem f_weighed {E : Nat → Nat × (Nat → Int32)} {d : Nat} {Q : ez_Q} {h : ez_H}  (S : zSh h) (hU : aR (ez_I h 7) 64 0 1000000) (K : ∀ x : Int32, x.toInt = (poC (ez_I h 7) 64 : Nat) → Q (.inl (some (.int x))) h) : pw E d 21 0 [some (.ref 1), none, none] [] h Q := by
  have F := zK_refl (fun _ => False) (fun _ => False) h
  apply ez_Wp_in
  show ez_gw _ _ _ _ _ _ (cz_21) _ _ _ _ _
  refine gw_skip _ ?_
  refine z_C (m := 0) rfl rfl (fun x1 ex1 => ?_)
  refine gw_st rfl rfl rfl ?_
  show ez_gw _ _ _ _ _ _ _ _ [some (.ref 1), some (.int x1), none] _ _ _
  refine z_C (m := 0) rfl rfl (fun x2 ex2 => ?_)
  refine gw_st rfl rfl rfl ?_
  show ez_gw _ _ _ _ _ _ _ _ [some (.ref 1), some (.int x1), some (.int x2)] _ _ _
  exact ez_Wp_at ((f_weighed_L0  S hU K (((100 - x2.toInt)).toNat + 1)) h x1 x2 F (by rw [show x2.toInt.toNat = 0 by omega]; have : poC (ez_I h 7) 0 = 0 := rfl; omega)  (by omega)) rfl
set_option maxRecDepth 4000 in
set_option maxHeartbeats 20000000 in
theorem f_wsum_L0 {E : Nat → Nat × (Nat → Int32)} {d : Nat} {Q : ez_Q} {h : ez_H} {u : Nat} {w : Nat} {n : Int32} (S : zSh h) (hu : zA u 64) (hw : zA w 64) (hn : n.toInt = 64) (K : ∀ x : Int32, x = wsI (ez_I h u) (ez_I h w) 64 → Q (.inl (some (.int x))) h) : ∀ N : Nat, (∀ (h2 : ez_H) (c : Int32) (i : Int32) , zK (fun _ => False) (fun _ => False) h h2 → (0 ≤ i.toInt ∧ i.toInt ≤ 64) → c = wsI (ez_I h u) (ez_I h w) i.toInt.toNat → (100 - i.toInt) < (N : Int) → pw E d 22 5 [some (.ref u), some (.ref w), some (.int n), some (.int c), some (.int i)] [] h2 Q) := by
  intro N
  induction N with
  | zero => exact fun h2 c i  F hinv A_ws hm => absurd hm (by have w_c := z_rng c; have w_i := z_rng i; have gn := z_rng n; omega)
  | succ N ih =>
    refine fun h2 c i  F hinv A_ws hm => ?_
    · skip
      have w_c := z_rng c
      have w_i := z_rng i
      have gn := z_rng n
      have S2 := zK_sh F S
      apply ez_Wp_in
      show ez_gw _ _ _ _ _ _ (cz_22) _ _ _ _ _
      refine gw_skip _ ?_
      refine gw_ld rfl rfl ?_
      refine gw_ld rfl rfl ?_
      refine z_b2 (fun c1 => ?_) (fun c1 => ?_)
      · have c1 : n.toInt ≤ i.toInt := c1
        refine gw_skip _ ?_
        refine gw_ld rfl rfl ?_
        refine z_ri ?_
        exact zK_Q F (K c (by rw [show (64 : Nat) = i.toInt.toNat by omega]; exact A_ws))
      · have c1 : ¬ (n.toInt ≤ i.toInt) := c1
        refine gw_ld rfl rfl ?_
        refine gw_ld rfl rfl ?_
        refine z_al (n := 64) (.inl ((hu _ S2).1)) ((hu _ S2).2) (by omega) (fun x2 ex2 => ?_)
        refine z_b2 (fun c3 => ?_) (fun c3 => ?_)
        · have c3 : x2.toInt ≤ i.toInt := c3
          refine gw_skip _ ?_
          refine gw_ld rfl rfl ?_
          refine z_ri ?_
          exact zK_Q F (K c (by rw [show (64 : Nat) = i.toInt.toNat by omega]; exact A_ws))
        · have c3 : ¬ (x2.toInt ≤ i.toInt) := c3
          refine gw_ld rfl rfl ?_
          refine gw_ld rfl rfl ?_
          refine z_al (n := 64) (.inl ((hw _ S2).1)) ((hw _ S2).2) (by omega) (fun x4 ex4 => ?_)
          refine z_b2 (fun c5 => ?_) (fun c5 => ?_)
          · have c5 : x4.toInt ≤ i.toInt := c5
            refine gw_skip _ ?_
            refine gw_ld rfl rfl ?_
            refine z_ri ?_
            exact zK_Q F (K c (by rw [show (64 : Nat) = i.toInt.toNat by omega]; exact A_ws))
          · have c5 : ¬ (x4.toInt ≤ i.toInt) := c5
            refine gw_ld rfl rfl ?_
            refine gw_ld rfl rfl ?_
            refine gw_ld rfl rfl ?_
            refine z_iaV (n := 64) ((hu _ S2).1) ((hu _ S2).2) (by omega) (zK_a F (fun c => c)) ?_
            generalize ex6 : ez_I h u i.toInt.toNat = x6
            have rx6 := z_rng x6
            refine gw_ld rfl rfl ?_
            refine gw_ld rfl rfl ?_
            refine z_iaV (n := 64) ((hw _ S2).1) ((hw _ S2).2) (by omega) (zK_a F (fun c => c)) ?_
            generalize ex7 : ez_I h w i.toInt.toNat = x7
            have rx7 := z_rng x7
            refine z_mulW (fun x8 ex8 => ?_)
            have rx8 := z_rng x8
            refine z_addW (fun x9 ex9 => ?_)
            have rx9 := z_rng x9
            refine gw_st rfl rfl rfl ?_
            show ez_gw _ _ _ _ _ _ _ _ [some (.ref u), some (.ref w), some (.int n), some (.int x9), some (.int i)] _ _ _
            refine z_inc rfl (by rw [show (1 : Int32).toInt = 1 from rfl]; omega) (fun x10 ex10 => ?_)
            rw [show (1 : Int32).toInt = 1 from rfl] at ex10
            show ez_gw _ _ _ _ _ _ _ _ [some (.ref u), some (.ref w), some (.int n), some (.int x9), some (.int x10)] _ _ _
            refine z_go ?_
            exact ih h2 x9 x10 F (by omega) (wsI_s A_ws ex6 ex7 ex8 ex9 (by omega)) (by omega)
set_option maxRecDepth 4000 in
set_option maxHeartbeats 20000000 in
theorem f_wsum {E : Nat → Nat × (Nat → Int32)} {d : Nat} {Q : ez_Q} {h : ez_H} {u : Nat} {w : Nat} {n : Int32} (S : zSh h) (hu : zA u 64) (hw : zA w 64) (hn : n.toInt = 64) (K : ∀ x : Int32, x = wsI (ez_I h u) (ez_I h w) 64 → Q (.inl (some (.int x))) h) : pw E d 22 0 [some (.ref u), some (.ref w), some (.int n), none, none] [] h Q := by
  have gn := z_rng n
  have F := zK_refl (fun _ => False) (fun _ => False) h
  apply ez_Wp_in
  show ez_gw _ _ _ _ _ _ (cz_22) _ _ _ _ _
  refine gw_skip _ ?_
  refine z_C (m := 0) rfl rfl (fun x1 ex1 => ?_)
  refine gw_st rfl rfl rfl ?_
  show ez_gw _ _ _ _ _ _ _ _ [some (.ref u), some (.ref w), some (.int n), some (.int x1), none] _ _ _
  refine z_C (m := 0) rfl rfl (fun x2 ex2 => ?_)
  refine gw_st rfl rfl rfl ?_
  show ez_gw _ _ _ _ _ _ _ _ [some (.ref u), some (.ref w), some (.int n), some (.int x1), some (.int x2)] _ _ _
  exact ez_Wp_at ((f_wsum_L0 (u := u) (w := w) (n := n) S hu hw hn K (((100 - x2.toInt)).toNat + 1)) h x1 x2 F (by omega) ((by rw [show x2.toInt.toNat = 0 by omega]; exact z_inj (by omega : x1.toInt = 0))) (by omega)) rfl
set_option maxRecDepth 4000 in
set_option maxHeartbeats 20000000 in
theorem f_weigh {E : Nat → Nat × (Nat → Int32)} {d : Nat} {Q : ez_Q} {h : ez_H} {y : Int32} {w : Int32} (S : zSh h) (hM : zMem h) (K3 : ¬ (0 ≤ y.toInt ∧ y.toInt < 64) → Q (.inr 3) (ez_bump h)) (K2 : (0 ≤ y.toInt ∧ y.toInt < 64) → ¬ (0 ≤ w.toInt ∧ w.toInt ≤ 1000000) → Q (.inr 2) (ez_bump h)) (K : ∀ h2, zK (fun q => q = 7) (fun _ => False) h h2 → (0 ≤ y.toInt ∧ y.toInt < 64 ∧ 0 ≤ w.toInt ∧ w.toInt ≤ 1000000) → (ez_I h2 7 y.toInt.toNat = w ∧ ∀ k, k ≠ y.toInt.toNat → ez_I h2 7 k = ez_I h 7 k) → Q (.inl none) h2) : pw E d 16 0 [some (.ref 1), some (.int y), some (.int w)] [] h Q := by
  have gy := z_rng y
  have gw := z_rng w
  have F := zK_refl (fun q => q = 7) (fun _ => False) h
  apply ez_Wp_in
  show ez_gw _ _ _ _ _ _ (cz_16) _ _ _ _ _
  refine gw_skip _ ?_
  refine gw_ld rfl rfl ?_
  refine z_b1 (fun c1 => ?_) (fun c1 => ?_)
  · have c1 : y.toInt < 0 := c1
    refine gw_skip _ ?_
    refine z_th (zMk F hM) ?_
    exact K3 (by omega)
  · have c1 : ¬ (y.toInt < 0) := c1
    refine gw_ld rfl rfl ?_
    refine z_C (m := 64) rfl rfl (fun x2 ex2 => ?_)
    refine z_b2 (fun c3 => ?_) (fun c3 => ?_)
    · have c3 : y.toInt < x2.toInt := c3
      refine gw_skip _ ?_
      refine gw_ld rfl rfl ?_
      refine z_b1 (fun c4 => ?_) (fun c4 => ?_)
      · have c4 : w.toInt < 0 := c4
        refine gw_skip _ ?_
        refine z_th (zMk F hM) ?_
        exact K2 (by omega) (by omega)
      · have c4 : ¬ (w.toInt < 0) := c4
        refine gw_ld rfl rfl ?_
        refine z_C (m := 1000000) rfl rfl (fun x5 ex5 => ?_)
        refine z_b2 (fun c6 => ?_) (fun c6 => ?_)
        · have c6 : w.toInt ≤ x5.toInt := c6
          refine gw_skip _ ?_
          refine gw_ld rfl rfl ?_
          refine z_gR (q := 7) (zT S (by decide) rfl) (zRf S (by decide) (by decide) rfl) (by decide) ?_
          refine gw_ld rfl rfl ?_
          refine gw_ld rfl rfl ?_
          refine z_is (n := 64) (zT S (by decide) rfl) (zN S (by decide) rfl) (by omega) (fun h7 e8 => ?_)
          have S9 := zSh_set S e8
          have F10 := zK_set F e8 (by omega)
          have A11 : ez_I h7 7 y.toInt.toNat = w ∧ ∀ k, k ≠ y.toInt.toNat → ez_I h7 7 k = ez_I h 7 k := ⟨zI_eq e8, fun k hk => zI_ne e8 (by omega)⟩
          refine z_rv ?_
          exact K _ F10 (by omega) (A11)
        · have c6 : ¬ (w.toInt ≤ x5.toInt) := c6
          refine z_th (zMk F hM) ?_
          exact K2 (by omega) (by omega)
    · have c3 : ¬ (y.toInt < x2.toInt) := c3
      refine z_th (zMk F hM) ?_
      exact K3 (by omega)
set_option maxRecDepth 4000 in
set_option maxHeartbeats 20000000 in
theorem f_measure {E : Nat → Nat × (Nat → Int32)} {d : Nat} {Q : ez_Q} {h : ez_H} {m : Int32} (S : zSh h) (hE : zE E) (hM : zMem h) (hU : aR (ez_I h 7) 64 0 1000000) (K2 : ¬ (1 ≤ m.toInt ∧ m.toInt ≤ 15) → Q (.inr 2) (ez_bump h)) (K1 : (1 ≤ m.toInt ∧ m.toInt ≤ 15) → ¬ (poC (ez_I h 7) 64 : Int) ≤ 2 ^ m.toInt.toNat → Q (.inr 1) (ez_bump h)) (K : ∀ h2 (x : Int32), zK (fun q => q = 10 ∨ q = 13 ∨ q = 8) (fun q => q = 11 ∨ q = 12) h h2 → (1 ≤ m.toInt ∧ m.toInt ≤ 15) → (poC (ez_I h 7) 64 : Int) ≤ 2 ^ m.toInt.toNat → lnP (ez_I h 7) (ez_I h2 8) 64 m.toInt.toNat → x = wsI (ez_I h 7) (ez_I h2 8) 64 → Q (.inl (some (.int x))) h2) : pw E (d + 3) 17 0 [some (.ref 1), some (.int m)] [] h Q := by
  have gm := z_rng m
  have F := zK_refl (fun q => q = 10 ∨ q = 13 ∨ q = 8) (fun k => k = 11 ∨ k = 12) h
  apply ez_Wp_in
  show ez_gw _ _ _ _ _ _ (cz_17) _ _ _ _ _
  refine gw_skip _ ?_
  refine gw_ld rfl rfl ?_
  refine z_C (m := 1) rfl rfl (fun x1 ex1 => ?_)
  refine z_b2 (fun c2 => ?_) (fun c2 => ?_)
  · have c2 : m.toInt < x1.toInt := c2
    refine gw_skip _ ?_
    refine z_th (zMk F hM) ?_
    exact K2 (by omega)
  · have c2 : ¬ (m.toInt < x1.toInt) := c2
    refine gw_ld rfl rfl ?_
    refine z_C (m := 15) rfl rfl (fun x3 ex3 => ?_)
    refine z_b2 (fun c4 => ?_) (fun c4 => ?_)
    · have c4 : m.toInt ≤ x3.toInt := c4
      refine gw_skip _ ?_
      refine gw_ld rfl rfl ?_
      refine z_cl rfl rfl rfl rfl rfl rfl rfl rfl rfl rfl rfl (zT S (by decide) rfl) ?_
      refine f_weighed S hU (fun x5 k6 => ?_)
      have rx5 := z_rng x5
      refine z_C (m := 1) rfl rfl (fun x7 ex7 => ?_)
      refine gw_ld rfl rfl ?_
      refine z_2 rfl (fun x8 ex8 => ?_)
      have rx8 := z_rng x8
      have vx8 := u_shl (T := m.toInt.toNat) (o := x7) (r := m) (by omega) (by omega) (by omega) ex8
      have hpw : (2 : Nat) ^ m.toInt.toNat ≤ 2 ^ 15 := Nat.pow_le_pow_right (by decide) (by omega)
      have hpw2 : (2 : Nat) ^ 15 = 32768 := rfl
      have htx8 := z_of_u (x := x8) (by omega)
      have hpc : (2 : Int) ^ m.toInt.toNat = ((2 ^ m.toInt.toNat : Nat) : Int) := by rw [Int.natCast_pow]; rfl
      refine z_b2 (fun c9 => ?_) (fun c9 => ?_)
      · have c9 : x5.toInt ≤ x8.toInt := c9
        refine gw_skip _ ?_
        have hp2 : (poC (ez_I h 7) 64 : Int) ≤ 2 ^ m.toInt.toNat := by omega
        refine gw_ld rfl rfl ?_
        refine z_gR (q := 9) (zT S (by decide) rfl) (zRf S (by decide) (by decide) rfl) (by decide) ?_
        refine gw_ld rfl rfl ?_
        refine z_gR (q := 7) (zT S (by decide) rfl) (zRf S (by decide) (by decide) rfl) (by decide) ?_
        refine z_C (m := 64) rfl rfl (fun x10 ex10 => ?_)
        refine gw_ld rfl rfl ?_
        refine gw_ld rfl rfl ?_
        refine z_gR (q := 8) (zT S (by decide) rfl) (zRf S (by decide) (by decide) rfl) (by decide) ?_
        refine z_cl rfl rfl rfl rfl rfl rfl rfl rfl rfl rfl rfl (zT S (by decide) rfl) ?_
        refine f_make (u := 7) (w := 8) (al := x10) (li := m) (mx := 1000000) S hE (show zA 7 64 from fun _ S => ⟨zT S (by decide) rfl, zN S (by decide) rfl⟩) (show zA 8 64 from fun _ S => ⟨zT S (by decide) rfl, zN S (by decide) rfl⟩) (by decide) (by omega) (by omega) (by rw [show x10.toInt.toNat = 64 by omega]; exact hU) (by decide) (by rw [show x10.toInt.toNat = 64 by omega]; decide) (by rw [show x10.toInt.toNat = 64 by omega]; exact hp2) (fun h11 F12 k13 => ?_)
        rw [show x10.toInt.toNat = 64 by omega] at k13
        have S14 := zK_sh F12 S
        have F15 := zK_tr F (zK_mono F12 (fun k hk => by first | omega | exact False.elim hk) (fun k hk => by first | omega | exact False.elim hk))
        refine gw_ld rfl rfl ?_
        refine z_gR (q := 7) (zT S14 (by decide) rfl) (zRf S14 (by decide) (by decide) rfl) (by decide) ?_
        refine gw_ld rfl rfl ?_
        refine z_gR (q := 8) (zT S14 (by decide) rfl) (zRf S14 (by decide) (by decide) rfl) (by decide) ?_
        refine z_C (m := 64) rfl rfl (fun x16 ex16 => ?_)
        refine z_cl rfl rfl rfl rfl rfl rfl rfl rfl rfl rfl rfl (trivial) ?_
        refine f_wsum (u := 7) (w := 8) (n := x16) S14 (show zA 7 64 from fun _ S => ⟨zT S (by decide) rfl, zN S (by decide) rfl⟩) (show zA 8 64 from fun _ S => ⟨zT S (by decide) rfl, zN S (by decide) rfl⟩) (by omega) (fun x17 k18 => ?_)
        rw [zK_fn F15 7 (by decide)] at k18
        refine z_ri ?_
        exact K _ x17 F15 (by omega) hp2 k13 k18
      · have c9 : ¬ (x5.toInt ≤ x8.toInt) := c9
        refine z_th (zMk F hM) ?_
        exact K1 (by omega) (by omega)
    · have c4 : ¬ (m.toInt ≤ x3.toInt) := c4
      refine z_th (zMk F hM) ?_
      exact K2 (by omega)

