/-! between class and reference: weigh and measure -/
theorem xI_K {PA PL : Nat → Prop} {h h2 : ez_H} (X : xI h) (F : zK PA PL h h2) (hp : ¬ PA 2 ∧ ¬ PA 4 ∧ ¬ PA 50 ∧ ¬ PA 53 ∧ ¬ PA 55 ∧ ¬ PA 61) : xI h2 := by
  refine ⟨zK_sh F X.1, ?_⟩
  rw [zK_fn F 2 hp.1, zK_fn F 4 hp.2.1, zK_fn F 50 hp.2.2.1, zK_fn F 53 hp.2.2.2.1, zK_fn F 55 hp.2.2.2.2.1, zK_fn F 61 hp.2.2.2.2.2]
  exact X.2
theorem mI_K {PA PL : Nat → Prop} {h h2 : ez_H} (M : mI h) (F : zK PA PL h h2) (hp : ∀ q, PA q → q ≤ 70) : mI h2 := by
  have e : ∀ q, 71 ≤ q → ez_I h2 q = ez_I h q := fun q hq => zK_fn F q (fun c => by have := hp q c; omega)
  refine ⟨?_, ?_⟩
  · unfold mR; rw [e 71 (by decide)]; exact M.1
  · unfold cC; rw [e 92 (by decide), e 93 (by decide), e 94 (by decide), e 95 (by decide), e 96 (by decide)]; exact M.2
theorem xI_G {PF PA : Nat → Prop} {h h2 : ez_H} (X : xI h) (F : zG PF PA h h2) (hp : ∀ q, PA q → 72 ≤ q) : xI h2 := by
  have e : ∀ q, q ≤ 70 → ez_I h2 q = ez_I h q := fun q hq => zG_fn F q (by omega) (fun c => by have := hp q c; omega)
  refine ⟨zG_sh F X.1, ?_⟩
  rw [e 2 (by decide), e 4 (by decide), e 50 (by decide), e 53 (by decide), e 55 (by decide), e 61 (by decide)]
  exact X.2
theorem mI_G0 {PA : Nat → Prop} {h h2 : ez_H} (M : mI h) (F : zG (fun k => k = 0) PA h h2) (hp : ∀ q, 92 ≤ q ∧ q ≤ 96 → ¬ PA q) : mI h2 := by
  refine mI_G M F hp ?_
  rw [zG_f F (k := 6) (by decide), zG_f F (k := 7) (by decide), zG_f F (k := 14) (by decide), zG_f F (k := 15) (by decide)]
  exact M.1
/-- the helper around weigh -/
theorem l_weigh {E : Nat → Nat × (Nat → Int32)} {d : Nat} {Q : ez_Q} {h : ez_H} {y w : Int32} (X : xI h) (M : mI h ∧ wV h) (hM : zMem h) (K : ∀ h2 (x : Int32), xI h2 → mI h2 → (ez_n h2 ≤ ez_n h + 1 ∧ ez_u h2 ≤ ez_u h + 6) → (ez_I h2 8 = ez_I h 8 ∧ ez_I h2 124 = ez_I h 124 ∧ ez_I h2 125 = ez_I h 125) → ((0 ≤ y.toInt ∧ y.toInt < 64 ∧ 0 ≤ w.toInt ∧ w.toInt ≤ 1000000) → ez_I h2 7 y.toInt.toNat = w ∧ ∀ k, k ≠ y.toInt.toNat → ez_I h2 7 k = ez_I h 7 k) → (¬ (0 ≤ y.toInt ∧ y.toInt < 64 ∧ 0 ≤ w.toInt ∧ w.toInt ≤ 1000000) → ez_I h2 7 = ez_I h 7) → Q (.inl (some (.int x))) h2) : pw E (d + 1) 146 0 [some (.ref 1), some (.int y), some (.int w), none] [] h Q := by
  apply ez_Wp_in
  show ez_gw _ _ _ _ _ _ (cz_146) _ _ _ _ _
  refine gw_skip _ ?_
  refine gw_ld rfl rfl ?_
  refine gw_ld rfl rfl ?_
  refine gw_ld rfl rfl ?_
  refine z_cl rfl rfl rfl rfl rfl rfl rfl rfl rfl rfl rfl (zT X.1 (by decide) rfl) ?_
  refine f_weigh X.1 hM (fun q => ?_) (fun q q2 => ?_) (fun h2 F q v => ?_)
  · show ez_gw _ _ _ _ _ _ _ (10 + 1) [some (.ref 1), some (.int y), some (.int w), none] [] _ _
    refine gw_skip _ ?_
    refine z_C (m := 1) rfl rfl (fun x2 ex2 => ?_)
    refine z_ri ?_
    exact K _ _ X M.1 ⟨Nat.le_refl _, Nat.le_refl _⟩ ⟨rfl, rfl, rfl⟩ (fun c => absurd ⟨c.1, c.2.1⟩ q) (fun _ => rfl)
  · show ez_gw _ _ _ _ _ _ _ (13 + 1) [some (.ref 1), some (.int y), some (.int w), none] [] _ _
    refine gw_skip _ ?_
    refine z_C (m := 2) rfl rfl (fun x2 ex2 => ?_)
    refine z_ri ?_
    exact K _ _ X M.1 ⟨Nat.le_refl _, Nat.le_refl _⟩ ⟨rfl, rfl, rfl⟩ (fun c => absurd c.2.2 q2) (fun _ => rfl)
  · refine z_go ?_
    refine gw_skip _ ?_
    refine z_C (m := 0) rfl rfl (fun x2 ex2 => ?_)
    refine z_ri ?_
    exact K _ _ (xI_K X F (by omega)) (mI_K M.1 F (fun q hq => by omega)) ⟨by rw [F.1]; omega, by rw [F.2.1]; omega⟩ ⟨zK_fn F 8 (by decide), zK_fn F 124 (by decide), zK_fn F 125 (by decide)⟩ (fun _ => v) (fun c => absurd q c)
/-- the helper around measure -/
theorem l_measure {E : Nat → Nat × (Nat → Int32)} {d : Nat} {Q : ez_Q} {h : ez_H} {m : Int32} (X : xI h) (M : mI h ∧ wV h) (hE : zE E) (hM : zMem h) (K : ∀ h2 (x : Int32), xI h2 → mI h2 → (ez_n h2 ≤ ez_n h + 1 ∧ ez_u h2 ≤ ez_u h + 6) → (ez_I h2 7 = ez_I h 7 ∧ ez_I h2 124 = ez_I h 124 ∧ ez_I h2 125 = ez_I h 125) → (x.toInt = if ¬ (1 ≤ m.toInt ∧ m.toInt ≤ 15) then 1 else if ¬ (poC (ez_I h 7) 64 : Int) ≤ 2 ^ m.toInt.toNat then 2 else 0) → (((1 ≤ m.toInt ∧ m.toInt ≤ 15) ∧ (poC (ez_I h 7) 64 : Int) ≤ 2 ^ m.toInt.toNat) → lnP (ez_I h 7) (ez_I h2 8) 64 m.toInt.toNat ∧ (ez_L h2 126 0).toInt = (wsI (ez_I h 7) (ez_I h2 8) 64).toInt) → (¬ ((1 ≤ m.toInt ∧ m.toInt ≤ 15) ∧ (poC (ez_I h 7) 64 : Int) ≤ 2 ^ m.toInt.toNat) → ez_I h2 8 = ez_I h 8) → Q (.inl (some (.int x))) h2) : pw E (d + 4) 147 0 [some (.ref 1), some (.int m), some (.ref 126), none] [] h Q := by
  apply ez_Wp_in
  show ez_gw _ _ _ _ _ _ (cz_147) _ _ _ _ _
  refine gw_skip _ ?_
  refine gw_ld rfl rfl ?_
  refine z_C (m := 0) rfl rfl (fun x1 ex1 => ?_)
  refine gw_ld rfl rfl ?_
  refine gw_ld rfl rfl ?_
  refine z_cl rfl rfl rfl rfl rfl rfl rfl rfl rfl rfl rfl (zT X.1 (by decide) rfl) ?_
  refine f_measure X.1 hE hM M.2.2.1 (fun q => ?_) (fun q q2 => ?_) (fun h2 x F q q2 lp ws => ?_)
  · show ez_gw _ _ _ _ _ _ _ (13 + 1) [some (.ref 1), some (.int m), some (.ref 126), none] [] _ _
    refine gw_skip _ ?_
    refine z_C (m := 1) rfl rfl (fun x2 ex2 => ?_)
    refine z_ri ?_
    exact K _ _ X M.1 ⟨Nat.le_refl _, Nat.le_refl _⟩ ⟨rfl, rfl, rfl⟩ (by rw [if_pos q]; exact ex2) (fun c => absurd c.1 q) (fun _ => rfl)
  · show ez_gw _ _ _ _ _ _ _ (16 + 1) [some (.ref 1), some (.int m), some (.ref 126), none] [] _ _
    refine gw_skip _ ?_
    refine z_C (m := 2) rfl rfl (fun x2 ex2 => ?_)
    refine z_ri ?_
    exact K _ _ X M.1 ⟨Nat.le_refl _, Nat.le_refl _⟩ ⟨rfl, rfl, rfl⟩ (by rw [if_neg (fun c => c q), if_pos q2]; exact ex2) (fun c => absurd c.2 q2) (fun _ => rfl)
  · have X2 := xI_K X F (by omega)
    have M2 := mI_K M.1 F (fun q hq => by omega)
    refine z_i2l (fun l el => ?_)
    refine z_ls (n := 1) (zT X2.1 (by decide) rfl) (zN X2.1 (by decide) rfl) (by omega) (fun h3 e3 => ?_)
    refine z_go ?_
    refine gw_skip _ ?_
    refine z_C (m := 0) rfl rfl (fun x2 ex2 => ?_)
    refine z_ri ?_
    have X3 : xI h3 := by subst e3; exact X2
    have M3 : mI h3 := by subst e3; exact M2
    have n3 : ez_n h3 = ez_n h := by subst e3; exact F.1
    have u3 : ez_u h3 = ez_u h := by subst e3; exact F.2.1
    have eI : ∀ q, ez_I h3 q = ez_I h2 q := fun q => zIL_fn e3 q
    refine K _ _ X3 M3 ⟨by omega, by omega⟩ ⟨by rw [eI, zK_fn F 7 (by decide)], by rw [eI, zK_fn F 124 (by decide)], by rw [eI, zK_fn F 125 (by decide)]⟩ (by rw [if_neg (fun c => c q), if_neg (fun c => c q2)]; exact ex2) (fun _ => ⟨by rw [eI]; exact lp, ?_⟩) (fun c => absurd ⟨q, q2⟩ c)
    have e0 : x1.toInt.toNat = 0 := by omega
    rw [e0] at e3
    rw [zL_eq e3, el, ws, eI]
theorem wV_w {h h1 h2 : ez_H} {y w : Int32} (V : wV h) (a8 : ez_I h1 8 = ez_I h 8) (a4 : ez_I h1 124 = ez_I h 124) (a5 : ez_I h1 125 = ez_I h 125) (v1 : (0 ≤ y.toInt ∧ y.toInt < 64 ∧ 0 ≤ w.toInt ∧ w.toInt ≤ 1000000) → ez_I h1 7 y.toInt.toNat = w ∧ ∀ k, k ≠ y.toInt.toNat → ez_I h1 7 k = ez_I h 7 k) (v2 : ¬ (0 ≤ y.toInt ∧ y.toInt < 64 ∧ 0 ≤ w.toInt ∧ w.toInt ≤ 1000000) → ez_I h1 7 = ez_I h 7) (b7 : ez_I h2 7 = ez_I h1 7) (b8 : ez_I h2 8 = ez_I h1 8) (b5 : ez_I h2 125 = ez_I h1 125) (w1 : (0 ≤ y.toInt ∧ y.toInt < 64 ∧ 0 ≤ w.toInt ∧ w.toInt ≤ 1000000) → ez_I h2 124 y.toInt.toNat = w ∧ ∀ k, k ≠ y.toInt.toNat → ez_I h2 124 k = ez_I h1 124 k) (w2 : ¬ (0 ≤ y.toInt ∧ y.toInt < 64 ∧ 0 ≤ w.toInt ∧ w.toInt ≤ 1000000) → ez_I h2 124 = ez_I h1 124) : wV h2 := by
  by_cases c : 0 ≤ y.toInt ∧ y.toInt < 64 ∧ 0 ≤ w.toInt ∧ w.toInt ≤ 1000000
  · obtain ⟨p1, p2⟩ := v1 c
    obtain ⟨q1, q2⟩ := w1 c
    refine ⟨fun k hk => ?_, fun k hk => ?_, fun k hk => ?_⟩
    · by_cases e : k = y.toInt.toNat
      · subst e; rw [b7, p1, q1]
      · rw [b7, p2 k e, q2 k e, a4]; exact V.1 k hk
    · by_cases e : k = y.toInt.toNat
      · subst e; rw [b7, p1]; exact ⟨c.2.2.1, c.2.2.2⟩
      · rw [b7, p2 k e]; exact V.2.1 k hk
    · rw [b8, a8, b5, a5]; exact V.2.2 k hk
  · exact wV_of V (b7.trans (v2 c)) (b8.trans a8) ((w2 c).trans a4) (b5.trans a5)
theorem wV_m {h h1 h2 : ez_H} {m : Int32} (V : wV h) (a7 : ez_I h1 7 = ez_I h 7) (a4 : ez_I h1 124 = ez_I h 124) (a5 : ez_I h1 125 = ez_I h 125) (p1 : ((1 ≤ m.toInt ∧ m.toInt ≤ 15) ∧ (poC (ez_I h 7) 64 : Int) ≤ 2 ^ m.toInt.toNat) → lnP (ez_I h 7) (ez_I h1 8) 64 m.toInt.toNat) (p2 : ¬ ((1 ≤ m.toInt ∧ m.toInt ≤ 15) ∧ (poC (ez_I h 7) 64 : Int) ≤ 2 ^ m.toInt.toNat) → ez_I h1 8 = ez_I h 8) (b7 : ez_I h2 7 = ez_I h1 7) (b8 : ez_I h2 8 = ez_I h1 8) (b4 : ez_I h2 124 = ez_I h1 124) (q1 : ((1 ≤ m.toInt ∧ m.toInt ≤ 15) ∧ (poC (ez_I h1 124) 64 : Int) ≤ 2 ^ m.toInt.toNat) → lnP (ez_I h1 124) (ez_I h2 125) 64 m.toInt.toNat) (q2 : ¬ ((1 ≤ m.toInt ∧ m.toInt ≤ 15) ∧ (poC (ez_I h1 124) 64 : Int) ≤ 2 ^ m.toInt.toNat) → ez_I h2 125 = ez_I h1 125) : wV h2 := by
  have ep : poC (ez_I h1 124) 64 = poC (ez_I h 7) 64 := by rw [a4]; exact (poC_congr 64 (fun k hk => V.1 k hk)).symm
  rw [ep] at q1 q2
  refine ⟨fun k hk => by rw [b7, a7, b4, a4]; exact V.1 k hk, fun k hk => by rw [b7, a7]; exact V.2.1 k hk, fun k hk => ?_⟩
  by_cases c : (1 ≤ m.toInt ∧ m.toInt ≤ 15) ∧ (poC (ez_I h 7) 64 : Int) ≤ 2 ^ m.toInt.toNat
  · have l1 := p1 c
    have l2 := q1 c
    rw [a4] at l2
    have l3 := lnP_U (U' := ez_I h 7) (fun k hk => (V.1 k hk).symm) l2
    rw [b8]
    exact z_inj (lnP_eq (by decide) l1 l3 k hk)
  · rw [b8, p2 c, q2 c, a5]
    exact V.2.2 k hk
/-! the law's own helpers: PRINTED by wip/p17/con17.py -/
theorem l_take {E : Nat → Nat × (Nat → Int32)} {d : Nat} {Q : ez_Q} {h : ez_H} (X : xI h) (M : mI h ∧ wV h) (hM : zMem h) (K : ∀ h2 (x : Int32), lJ h h2 → Q (.inl (some (.int x))) h2) : pw E (d + 2) 144 0 [some (.ref 1), some (.ref 126), none] [] h Q := by
  apply ez_Wp_in
  show ez_gw _ _ _ _ _ _ (cz_144) _ _ _ _ _
  refine gw_skip _ ?_
  refine gw_ld rfl rfl ?_
  refine z_C (m := 0) rfl rfl (fun x1 ex1 => ?_)
  refine gw_ld rfl rfl ?_
  refine z_cl rfl rfl rfl rfl rfl rfl rfl rfl rfl rfl rfl (zT X.1 (by decide) rfl) ?_
  refine x_take X hM (fun h2 F X2 => ?_) (fun h2 x F X2 => ?_)
  · show ez_gw _ _ _ _ _ _ _ (12 + 1) [some (.ref 1), some (.ref 126), none] [] _ _
    refine gw_skip _ ?_
    refine z_C (m := 1) rfl rfl (fun x2 ex2 => ?_)
    refine z_ri ?_
    exact K _ _ (lJ_b (lS_X (lS_r X M) F X2))
  · refine z_i2l (fun l el => ?_)
    refine z_ls (n := 1) (zT X2.1 (by decide) rfl) (zN X2.1 (by decide) rfl) (by omega) (fun h3 e3 => ?_)
    refine z_go ?_
    refine gw_skip _ ?_
    refine z_C (m := 0) rfl rfl (fun x2 ex2 => ?_)
    refine z_ri ?_
    exact K _ _ (lJ_S (lS_L (lS_X (lS_r X M) F X2) e3))
theorem l_unpack {E : Nat → Nat × (Nat → Int32)} {d : Nat} {Q : ez_Q} {h : ez_H} (X : xI h) (M : mI h ∧ wV h) (hE : zE E) (hM : zMem h) (K : ∀ h2 (x : Int32), lJ h h2 → Q (.inl (some (.int x))) h2) : pw E (d + 7) 145 0 [some (.ref 1), some (.ref 126), none] [] h Q := by
  apply ez_Wp_in
  show ez_gw _ _ _ _ _ _ (cz_145) _ _ _ _ _
  refine gw_skip _ ?_
  refine gw_ld rfl rfl ?_
  refine z_C (m := 0) rfl rfl (fun x1 ex1 => ?_)
  refine gw_ld rfl rfl ?_
  refine z_cl rfl rfl rfl rfl rfl rfl rfl rfl rfl rfl rfl (zT X.1 (by decide) rfl) ?_
  refine x_unpack X hE hM (fun h2 F X2 => ?_) (fun h2 x F X2 => ?_)
  · show ez_gw _ _ _ _ _ _ _ (12 + 1) [some (.ref 1), some (.ref 126), none] [] _ _
    refine gw_skip _ ?_
    refine z_C (m := 1) rfl rfl (fun x2 ex2 => ?_)
    refine z_ri ?_
    exact K _ _ (lJ_b (lS_X (lS_r X M) F X2))
  · refine z_i2l (fun l el => ?_)
    refine z_ls (n := 1) (zT X2.1 (by decide) rfl) (zN X2.1 (by decide) rfl) (by omega) (fun h3 e3 => ?_)
    refine z_go ?_
    refine gw_skip _ ?_
    refine z_C (m := 0) rfl rfl (fun x2 ex2 => ?_)
    refine z_ri ?_
    exact K _ _ (lJ_S (lS_L (lS_X (lS_r X M) F X2) e3))
/-! the law's loop -/
def lw_Qq : ez_Q := fun o _ => o = .inl (some (.int 1))
theorem lw_cn {h h2 : ez_H} {c : Nat} (hc : ez_n h ≤ 126 + c ∧ ez_u h ≤ 522573 + 6 * c) (A : lJ h h2) : ez_n h2 ≤ 126 + (c + 1) ∧ ez_u h2 ≤ 522573 + 6 * (c + 1) := by
  have a := A.2.2.1
  have b := A.2.2.2
  omega
theorem zMm (h : ez_H) {c : Nat} {i : Int32} (hc : ez_n h ≤ 126 + c ∧ ez_u h ≤ 522573 + 6 * c) (hi : i.toInt = 6 * c ∧ c ≤ 600) : zMem h := by
  unfold zMem
  rw [show ez_MC = 601024 from rfl, show ez_MS = 7293034 from rfl]
  omega
set_option maxRecDepth 4000 in
theorem lw_c0 {L : Nat} {xs : Nat → Int32} (hL : L ≤ 3072) {N : Nat} (ih : ∀ (h : ez_H) (i : Int32) (c : Nat) (l5 l6 : Option Value), xI h → (mI h ∧ wV h) → (ez_n h ≤ 126 + c ∧ ez_u h ≤ 522573 + 6 * c) → (i.toInt = 6 * c ∧ c ≤ 600) → 4000 - i.toInt < (N : Int) → pw (tz_E L xs) 10 149 23 [some (.retAddr 0), some (.ref 1), some (.ref 71), some (.ref 126), some (.int i), l5, l6] [] h lw_Qq) (h : ez_H) (i : Int32) (c : Nat) (l5 l6 : Option Value) (X : xI h) (M : mI h ∧ wV h) (hc : ez_n h ≤ 126 + c ∧ ez_u h ≤ 522573 + 6 * c) (hi : (i.toInt = 6 * c ∧ c ≤ 600) ∧ i.toInt + 6 ≤ L) (hm : 4000 - i.toInt < ((N + 1 : Nat) : Int)) : ez_gw (ez_Wp (tz_E L xs) tz_ml tz_hn tz_co) (tz_E L xs) tz_ml (tz_hn 149) 149 10 (ev_skip 40 cz_149).tail 133 [some (.retAddr 0), some (.ref 1), some (.ref 71), some (.ref 126), some (.int i), l5, l6] [] h lw_Qq := by
  have hE : zE (tz_E L xs) := fun j => rfl
  have gi := z_rng i
  refine gw_skip _ ?_
  refine gw_ld rfl rfl ?_
  refine gw_ld rfl rfl ?_
  refine gw_ld rfl rfl ?_
  refine z_C (m := 1) rfl rfl (fun x1 ex1 => ?_)
  refine z_add (by omega) (fun x2 ex2 => ?_)
  refine z_iaE (n := L) (f := xs) rfl (by omega) ?_
  generalize ex3 : xs _ = x3
  refine gw_ld rfl rfl ?_
  refine gw_ld rfl rfl ?_
  refine z_C (m := 2) rfl rfl (fun x4 ex4 => ?_)
  refine z_add (by omega) (fun x5 ex5 => ?_)
  refine z_iaE (n := L) (f := xs) rfl (by omega) ?_
  generalize ex6 : xs _ = x6
  refine gw_ld rfl rfl ?_
  refine gw_ld rfl rfl ?_
  refine z_C (m := 3) rfl rfl (fun x7 ex7 => ?_)
  refine z_add (by omega) (fun x8 ex8 => ?_)
  refine z_iaE (n := L) (f := xs) rfl (by omega) ?_
  generalize ex9 : xs _ = x9
  refine gw_ld rfl rfl ?_
  refine gw_ld rfl rfl ?_
  refine z_C (m := 4) rfl rfl (fun x10 ex10 => ?_)
  refine z_add (by omega) (fun x11 ex11 => ?_)
  refine z_iaE (n := L) (f := xs) rfl (by omega) ?_
  generalize ex12 : xs _ = x12
  refine gw_ld rfl rfl ?_
  refine gw_ld rfl rfl ?_
  refine z_C (m := 5) rfl rfl (fun x13 ex13 => ?_)
  refine z_add (by omega) (fun x14 ex14 => ?_)
  refine z_iaE (n := L) (f := xs) rfl (by omega) ?_
  generalize ex15 : xs _ = x15
  refine z_cl rfl rfl rfl rfl rfl rfl rfl rfl rfl rfl rfl (zT X.1 (by decide) rfl) ?_
  refine x_feed X (fun h16  F17 X21 => ?_)
  have A19 := lS_X (lS_r X M) F17 X21
  refine gw_ld rfl rfl ?_
  refine gw_ld rfl rfl ?_
  refine gw_ld rfl rfl ?_
  refine z_C (m := 1) rfl rfl (fun x22 ex22 => ?_)
  refine z_add (by omega) (fun x23 ex23 => ?_)
  refine z_iaE (n := L) (f := xs) rfl (by omega) ?_
  generalize ex24 : xs _ = x24
  refine gw_ld rfl rfl ?_
  refine gw_ld rfl rfl ?_
  refine z_C (m := 2) rfl rfl (fun x25 ex25 => ?_)
  refine z_add (by omega) (fun x26 ex26 => ?_)
  refine z_iaE (n := L) (f := xs) rfl (by omega) ?_
  generalize ex27 : xs _ = x27
  refine gw_ld rfl rfl ?_
  refine gw_ld rfl rfl ?_
  refine z_C (m := 3) rfl rfl (fun x28 ex28 => ?_)
  refine z_add (by omega) (fun x29 ex29 => ?_)
  refine z_iaE (n := L) (f := xs) rfl (by omega) ?_
  generalize ex30 : xs _ = x30
  refine gw_ld rfl rfl ?_
  refine gw_ld rfl rfl ?_
  refine z_C (m := 4) rfl rfl (fun x31 ex31 => ?_)
  refine z_add (by omega) (fun x32 ex32 => ?_)
  refine z_iaE (n := L) (f := xs) rfl (by omega) ?_
  generalize ex33 : xs _ = x33
  refine gw_ld rfl rfl ?_
  refine gw_ld rfl rfl ?_
  refine z_C (m := 5) rfl rfl (fun x34 ex34 => ?_)
  refine z_add (by omega) (fun x35 ex35 => ?_)
  refine z_iaE (n := L) (f := xs) rfl (by omega) ?_
  generalize ex36 : xs _ = x36
  refine z_cl rfl rfl rfl rfl rfl rfl rfl rfl rfl rfl rfl (zT A19.1.1 (by decide) rfl) ?_
  refine m_feed A19.1.1 A19.2.1.1 (fun h37  F38 M42  => ?_)
  have A40 := lJ_Y (lJ_S A19) F38 M42
  refine z_go ?_
  refine gw_skip _ ?_
  refine z_inc rfl (by rw [show (6 : Int32).toInt = 6 from rfl]; omega) (fun x43 ex43 => ?_)
  rw [show (6 : Int32).toInt = 6 from rfl] at ex43
  show ez_gw _ _ _ _ _ _ _ _ [some (.retAddr 0), some (.ref 1), some (.ref 71), some (.ref 126), some (.int x43), l5, l6] _ _ _
  refine z_go ?_
  exact ih h37 x43 (c + 1) (l5) (l6) A40.1 A40.2.1 (lw_cn hc A40) (by omega) (by omega)
set_option maxRecDepth 4000 in
theorem lw_c1 {L : Nat} {xs : Nat → Int32} (hL : L ≤ 3072) {N : Nat} (ih : ∀ (h : ez_H) (i : Int32) (c : Nat) (l5 l6 : Option Value), xI h → (mI h ∧ wV h) → (ez_n h ≤ 126 + c ∧ ez_u h ≤ 522573 + 6 * c) → (i.toInt = 6 * c ∧ c ≤ 600) → 4000 - i.toInt < (N : Int) → pw (tz_E L xs) 10 149 23 [some (.retAddr 0), some (.ref 1), some (.ref 71), some (.ref 126), some (.int i), l5, l6] [] h lw_Qq) (h : ez_H) (i : Int32) (c : Nat) (l5 l6 : Option Value) (X : xI h) (M : mI h ∧ wV h) (hc : ez_n h ≤ 126 + c ∧ ez_u h ≤ 522573 + 6 * c) (hi : (i.toInt = 6 * c ∧ c ≤ 600) ∧ i.toInt + 6 ≤ L) (hm : 4000 - i.toInt < ((N + 1 : Nat) : Int)) : ez_gw (ez_Wp (tz_E L xs) tz_ml tz_hn tz_co) (tz_E L xs) tz_ml (tz_hn 149) 149 10 (ev_skip 40 cz_149).tail 204 [some (.retAddr 0), some (.ref 1), some (.ref 71), some (.ref 126), some (.int i), l5, l6] [] h lw_Qq := by
  have hE : zE (tz_E L xs) := fun j => rfl
  have gi := z_rng i
  refine gw_skip _ ?_
  refine gw_ld rfl rfl ?_
  refine gw_ld rfl rfl ?_
  refine gw_ld rfl rfl ?_
  refine z_C (m := 1) rfl rfl (fun x44 ex44 => ?_)
  refine z_add (by omega) (fun x45 ex45 => ?_)
  refine z_iaE (n := L) (f := xs) rfl (by omega) ?_
  generalize ex46 : xs _ = x46
  refine gw_ld rfl rfl ?_
  refine gw_ld rfl rfl ?_
  refine z_C (m := 2) rfl rfl (fun x47 ex47 => ?_)
  refine z_add (by omega) (fun x48 ex48 => ?_)
  refine z_iaE (n := L) (f := xs) rfl (by omega) ?_
  generalize ex49 : xs _ = x49
  refine z_cl rfl rfl rfl rfl rfl rfl rfl rfl rfl rfl rfl (zT X.1 (by decide) rfl) ?_
  refine x_end X (fun h50 x52 F51 X55 => ?_)
  have A53 := lS_X (lS_r X M) F51 X55
  refine gw_op rfl ?_
  refine gw_ld rfl rfl ?_
  refine gw_ld rfl rfl ?_
  refine gw_ld rfl rfl ?_
  refine z_C (m := 1) rfl rfl (fun x56 ex56 => ?_)
  refine z_add (by omega) (fun x57 ex57 => ?_)
  refine z_iaE (n := L) (f := xs) rfl (by omega) ?_
  generalize ex58 : xs _ = x58
  refine gw_ld rfl rfl ?_
  refine gw_ld rfl rfl ?_
  refine z_C (m := 2) rfl rfl (fun x59 ex59 => ?_)
  refine z_add (by omega) (fun x60 ex60 => ?_)
  refine z_iaE (n := L) (f := xs) rfl (by omega) ?_
  generalize ex61 : xs _ = x61
  refine z_cl rfl rfl rfl rfl rfl rfl rfl rfl rfl rfl rfl (zT A53.1.1 (by decide) rfl) ?_
  refine m_end A53.1.1 A53.2.1.1 (fun h62 x64 F63 M67  => ?_)
  have A65 := lJ_Y (lJ_S A53) F63 M67
  refine gw_op rfl ?_
  refine z_go ?_
  refine gw_skip _ ?_
  refine z_inc rfl (by rw [show (6 : Int32).toInt = 6 from rfl]; omega) (fun x68 ex68 => ?_)
  rw [show (6 : Int32).toInt = 6 from rfl] at ex68
  show ez_gw _ _ _ _ _ _ _ _ [some (.retAddr 0), some (.ref 1), some (.ref 71), some (.ref 126), some (.int x68), l5, l6] _ _ _
  refine z_go ?_
  exact ih h62 x68 (c + 1) (l5) (l6) A65.1 A65.2.1 (lw_cn hc A65) (by omega) (by omega)
set_option maxRecDepth 4000 in
theorem lw_c2 {L : Nat} {xs : Nat → Int32} (hL : L ≤ 3072) {N : Nat} (ih : ∀ (h : ez_H) (i : Int32) (c : Nat) (l5 l6 : Option Value), xI h → (mI h ∧ wV h) → (ez_n h ≤ 126 + c ∧ ez_u h ≤ 522573 + 6 * c) → (i.toInt = 6 * c ∧ c ≤ 600) → 4000 - i.toInt < (N : Int) → pw (tz_E L xs) 10 149 23 [some (.retAddr 0), some (.ref 1), some (.ref 71), some (.ref 126), some (.int i), l5, l6] [] h lw_Qq) (h : ez_H) (i : Int32) (c : Nat) (l5 l6 : Option Value) (X : xI h) (M : mI h ∧ wV h) (hc : ez_n h ≤ 126 + c ∧ ez_u h ≤ 522573 + 6 * c) (hi : (i.toInt = 6 * c ∧ c ≤ 600) ∧ i.toInt + 6 ≤ L) (hm : 4000 - i.toInt < ((N + 1 : Nat) : Int)) : ez_gw (ez_Wp (tz_E L xs) tz_ml tz_hn tz_co) (tz_E L xs) tz_ml (tz_hn 149) 149 10 (ev_skip 40 cz_149).tail 241 [some (.retAddr 0), some (.ref 1), some (.ref 71), some (.ref 126), some (.int i), l5, l6] [] h lw_Qq := by
  have hE : zE (tz_E L xs) := fun j => rfl
  have gi := z_rng i
  refine gw_skip _ ?_
  refine gw_ld rfl rfl ?_
  refine gw_ld rfl rfl ?_
  refine gw_ld rfl rfl ?_
  refine z_C (m := 1) rfl rfl (fun x69 ex69 => ?_)
  refine z_add (by omega) (fun x70 ex70 => ?_)
  refine z_iaE (n := L) (f := xs) rfl (by omega) ?_
  generalize ex71 : xs _ = x71
  refine z_cl rfl rfl rfl rfl rfl rfl rfl rfl rfl rfl rfl (zT X.1 (by decide) rfl) ?_
  refine x_cut X (fun h72 x74 F73 X77 => ?_)
  have A75 := lS_X (lS_r X M) F73 X77
  refine gw_op rfl ?_
  refine gw_ld rfl rfl ?_
  refine gw_ld rfl rfl ?_
  refine gw_ld rfl rfl ?_
  refine z_C (m := 1) rfl rfl (fun x78 ex78 => ?_)
  refine z_add (by omega) (fun x79 ex79 => ?_)
  refine z_iaE (n := L) (f := xs) rfl (by omega) ?_
  generalize ex80 : xs _ = x80
  refine z_cl rfl rfl rfl rfl rfl rfl rfl rfl rfl rfl rfl (zT A75.1.1 (by decide) rfl) ?_
  refine m_cut A75.1.1 A75.2.1.1 (fun h81 x83 F82 M86  => ?_)
  have A84 := lJ_Y (lJ_S A75) F82 M86
  refine gw_op rfl ?_
  refine z_go ?_
  refine gw_skip _ ?_
  refine z_inc rfl (by rw [show (6 : Int32).toInt = 6 from rfl]; omega) (fun x87 ex87 => ?_)
  rw [show (6 : Int32).toInt = 6 from rfl] at ex87
  show ez_gw _ _ _ _ _ _ _ _ [some (.retAddr 0), some (.ref 1), some (.ref 71), some (.ref 126), some (.int x87), l5, l6] _ _ _
  refine z_go ?_
  exact ih h81 x87 (c + 1) (l5) (l6) A84.1 A84.2.1 (lw_cn hc A84) (by omega) (by omega)
set_option maxRecDepth 4000 in
theorem lw_c3 {L : Nat} {xs : Nat → Int32} (hL : L ≤ 3072) {N : Nat} (ih : ∀ (h : ez_H) (i : Int32) (c : Nat) (l5 l6 : Option Value), xI h → (mI h ∧ wV h) → (ez_n h ≤ 126 + c ∧ ez_u h ≤ 522573 + 6 * c) → (i.toInt = 6 * c ∧ c ≤ 600) → 4000 - i.toInt < (N : Int) → pw (tz_E L xs) 10 149 23 [some (.retAddr 0), some (.ref 1), some (.ref 71), some (.ref 126), some (.int i), l5, l6] [] h lw_Qq) (h : ez_H) (i : Int32) (c : Nat) (l5 l6 : Option Value) (X : xI h) (M : mI h ∧ wV h) (hc : ez_n h ≤ 126 + c ∧ ez_u h ≤ 522573 + 6 * c) (hi : (i.toInt = 6 * c ∧ c ≤ 600) ∧ i.toInt + 6 ≤ L) (hm : 4000 - i.toInt < ((N + 1 : Nat) : Int)) : ez_gw (ez_Wp (tz_E L xs) tz_ml tz_hn tz_co) (tz_E L xs) tz_ml (tz_hn 149) 149 10 (ev_skip 40 cz_149).tail 266 [some (.retAddr 0), some (.ref 1), some (.ref 71), some (.ref 126), some (.int i), l5, l6] [] h lw_Qq := by
  have hE : zE (tz_E L xs) := fun j => rfl
  have gi := z_rng i
  refine gw_skip _ ?_
  refine gw_ld rfl rfl ?_
  refine gw_ld rfl rfl ?_
  refine gw_ld rfl rfl ?_
  refine z_C (m := 1) rfl rfl (fun x88 ex88 => ?_)
  refine z_add (by omega) (fun x89 ex89 => ?_)
  refine z_iaE (n := L) (f := xs) rfl (by omega) ?_
  generalize ex90 : xs _ = x90
  refine gw_ld rfl rfl ?_
  refine gw_ld rfl rfl ?_
  refine z_C (m := 2) rfl rfl (fun x91 ex91 => ?_)
  refine z_add (by omega) (fun x92 ex92 => ?_)
  refine z_iaE (n := L) (f := xs) rfl (by omega) ?_
  generalize ex93 : xs _ = x93
  refine z_cl rfl rfl rfl rfl rfl rfl rfl rfl rfl rfl rfl (zT X.1 (by decide) rfl) ?_
  refine x_flip X (fun h94 x96 F95 X99 => ?_)
  have A97 := lS_X (lS_r X M) F95 X99
  refine gw_op rfl ?_
  refine gw_ld rfl rfl ?_
  refine gw_ld rfl rfl ?_
  refine gw_ld rfl rfl ?_
  refine z_C (m := 1) rfl rfl (fun x100 ex100 => ?_)
  refine z_add (by omega) (fun x101 ex101 => ?_)
  refine z_iaE (n := L) (f := xs) rfl (by omega) ?_
  generalize ex102 : xs _ = x102
  refine gw_ld rfl rfl ?_
  refine gw_ld rfl rfl ?_
  refine z_C (m := 2) rfl rfl (fun x103 ex103 => ?_)
  refine z_add (by omega) (fun x104 ex104 => ?_)
  refine z_iaE (n := L) (f := xs) rfl (by omega) ?_
  generalize ex105 : xs _ = x105
  refine z_cl rfl rfl rfl rfl rfl rfl rfl rfl rfl rfl rfl (zT A97.1.1 (by decide) rfl) ?_
  refine m_flip A97.1.1 A97.2.1.1 (fun h106 x108 F107 M111  => ?_)
  have A109 := lJ_Y (lJ_S A97) F107 M111
  refine gw_op rfl ?_
  refine z_go ?_
  refine gw_skip _ ?_
  refine z_inc rfl (by rw [show (6 : Int32).toInt = 6 from rfl]; omega) (fun x112 ex112 => ?_)
  rw [show (6 : Int32).toInt = 6 from rfl] at ex112
  show ez_gw _ _ _ _ _ _ _ _ [some (.retAddr 0), some (.ref 1), some (.ref 71), some (.ref 126), some (.int x112), l5, l6] _ _ _
  refine z_go ?_
  exact ih h106 x112 (c + 1) (l5) (l6) A109.1 A109.2.1 (lw_cn hc A109) (by omega) (by omega)
set_option maxRecDepth 4000 in
theorem lw_c4 {L : Nat} {xs : Nat → Int32} (hL : L ≤ 3072) {N : Nat} (ih : ∀ (h : ez_H) (i : Int32) (c : Nat) (l5 l6 : Option Value), xI h → (mI h ∧ wV h) → (ez_n h ≤ 126 + c ∧ ez_u h ≤ 522573 + 6 * c) → (i.toInt = 6 * c ∧ c ≤ 600) → 4000 - i.toInt < (N : Int) → pw (tz_E L xs) 10 149 23 [some (.retAddr 0), some (.ref 1), some (.ref 71), some (.ref 126), some (.int i), l5, l6] [] h lw_Qq) (h : ez_H) (i : Int32) (c : Nat) (l5 l6 : Option Value) (X : xI h) (M : mI h ∧ wV h) (hc : ez_n h ≤ 126 + c ∧ ez_u h ≤ 522573 + 6 * c) (hi : (i.toInt = 6 * c ∧ c ≤ 600) ∧ i.toInt + 6 ≤ L) (hm : 4000 - i.toInt < ((N + 1 : Nat) : Int)) : ez_gw (ez_Wp (tz_E L xs) tz_ml tz_hn tz_co) (tz_E L xs) tz_ml (tz_hn 149) 149 10 (ev_skip 40 cz_149).tail 303 [some (.retAddr 0), some (.ref 1), some (.ref 71), some (.ref 126), some (.int i), l5, l6] [] h lw_Qq := by
  have hE : zE (tz_E L xs) := fun j => rfl
  have gi := z_rng i
  refine gw_skip _ ?_
  refine gw_ld rfl rfl ?_
  refine gw_ld rfl rfl ?_
  refine z_cl rfl rfl rfl rfl rfl rfl rfl rfl rfl rfl rfl (trivial) ?_
  refine l_take X M (by first | exact zMm h hc hi.1) (fun h113 x115 A116  => ?_)
  refine gw_st rfl rfl rfl ?_
  show ez_gw _ _ _ _ _ _ _ _ [some (.retAddr 0), some (.ref 1), some (.ref 71), some (.ref 126), some (.int i), some (.int x115), l6] _ _ _
  refine gw_ld rfl rfl ?_
  refine z_cl rfl rfl rfl rfl rfl rfl rfl rfl rfl rfl rfl (zT A116.1.1 (by decide) rfl) ?_
  refine m_take A116.1.1 A116.2.1.1 (fun h118 x120 F119 M123  => ?_)
  have A121 := lJ_Y (A116) F119 M123
  refine gw_st rfl rfl rfl ?_
  show ez_gw _ _ _ _ _ _ _ _ [some (.retAddr 0), some (.ref 1), some (.ref 71), some (.ref 126), some (.int i), some (.int x115), some (.int x120)] _ _ _
  refine z_go ?_
  refine gw_skip _ ?_
  refine z_inc rfl (by rw [show (6 : Int32).toInt = 6 from rfl]; omega) (fun x124 ex124 => ?_)
  rw [show (6 : Int32).toInt = 6 from rfl] at ex124
  show ez_gw _ _ _ _ _ _ _ _ [some (.retAddr 0), some (.ref 1), some (.ref 71), some (.ref 126), some (.int x124), some (.int x115), some (.int x120)] _ _ _
  refine z_go ?_
  exact ih h118 x124 (c + 1) (some (.int x115)) (some (.int x120)) A121.1 A121.2.1 (lw_cn hc A121) (by omega) (by omega)
set_option maxRecDepth 4000 in
theorem lw_c5 {L : Nat} {xs : Nat → Int32} (hL : L ≤ 3072) {N : Nat} (ih : ∀ (h : ez_H) (i : Int32) (c : Nat) (l5 l6 : Option Value), xI h → (mI h ∧ wV h) → (ez_n h ≤ 126 + c ∧ ez_u h ≤ 522573 + 6 * c) → (i.toInt = 6 * c ∧ c ≤ 600) → 4000 - i.toInt < (N : Int) → pw (tz_E L xs) 10 149 23 [some (.retAddr 0), some (.ref 1), some (.ref 71), some (.ref 126), some (.int i), l5, l6] [] h lw_Qq) (h : ez_H) (i : Int32) (c : Nat) (l5 l6 : Option Value) (X : xI h) (M : mI h ∧ wV h) (hc : ez_n h ≤ 126 + c ∧ ez_u h ≤ 522573 + 6 * c) (hi : (i.toInt = 6 * c ∧ c ≤ 600) ∧ i.toInt + 6 ≤ L) (hm : 4000 - i.toInt < ((N + 1 : Nat) : Int)) : ez_gw (ez_Wp (tz_E L xs) tz_ml tz_hn tz_co) (tz_E L xs) tz_ml (tz_hn 149) 149 10 (ev_skip 40 cz_149).tail 319 [some (.retAddr 0), some (.ref 1), some (.ref 71), some (.ref 126), some (.int i), l5, l6] [] h lw_Qq := by
  have hE : zE (tz_E L xs) := fun j => rfl
  have gi := z_rng i
  refine gw_skip _ ?_
  refine gw_ld rfl rfl ?_
  refine z_cl rfl rfl rfl rfl rfl rfl rfl rfl rfl rfl rfl (zT X.1 (by decide) rfl) ?_
  refine x_crc X hE (fun h125 x127 F126 X130 => ?_)
  have A128 := lS_X (lS_r X M) F126 X130
  refine gw_op rfl ?_
  refine gw_ld rfl rfl ?_
  refine z_cl rfl rfl rfl rfl rfl rfl rfl rfl rfl rfl rfl (zT A128.1.1 (by decide) rfl) ?_
  refine m_crc A128.1.1 A128.2.1.1 (fun h131 x133 F132 M136  => ?_)
  have A134 := lJ_Y (lJ_S A128) F132 M136
  refine gw_op rfl ?_
  refine z_go ?_
  refine gw_skip _ ?_
  refine z_inc rfl (by rw [show (6 : Int32).toInt = 6 from rfl]; omega) (fun x137 ex137 => ?_)
  rw [show (6 : Int32).toInt = 6 from rfl] at ex137
  show ez_gw _ _ _ _ _ _ _ _ [some (.retAddr 0), some (.ref 1), some (.ref 71), some (.ref 126), some (.int x137), l5, l6] _ _ _
  refine z_go ?_
  exact ih h131 x137 (c + 1) (l5) (l6) A134.1 A134.2.1 (lw_cn hc A134) (by omega) (by omega)
set_option maxRecDepth 4000 in
theorem lw_c6 {L : Nat} {xs : Nat → Int32} (hL : L ≤ 3072) {N : Nat} (ih : ∀ (h : ez_H) (i : Int32) (c : Nat) (l5 l6 : Option Value), xI h → (mI h ∧ wV h) → (ez_n h ≤ 126 + c ∧ ez_u h ≤ 522573 + 6 * c) → (i.toInt = 6 * c ∧ c ≤ 600) → 4000 - i.toInt < (N : Int) → pw (tz_E L xs) 10 149 23 [some (.retAddr 0), some (.ref 1), some (.ref 71), some (.ref 126), some (.int i), l5, l6] [] h lw_Qq) (h : ez_H) (i : Int32) (c : Nat) (l5 l6 : Option Value) (X : xI h) (M : mI h ∧ wV h) (hc : ez_n h ≤ 126 + c ∧ ez_u h ≤ 522573 + 6 * c) (hi : (i.toInt = 6 * c ∧ c ≤ 600) ∧ i.toInt + 6 ≤ L) (hm : 4000 - i.toInt < ((N + 1 : Nat) : Int)) : ez_gw (ez_Wp (tz_E L xs) tz_ml tz_hn tz_co) (tz_E L xs) tz_ml (tz_hn 149) 149 10 (ev_skip 40 cz_149).tail 332 [some (.retAddr 0), some (.ref 1), some (.ref 71), some (.ref 126), some (.int i), l5, l6] [] h lw_Qq := by
  have hE : zE (tz_E L xs) := fun j => rfl
  have gi := z_rng i
  refine gw_skip _ ?_
  refine gw_ld rfl rfl ?_
  refine z_cl rfl rfl rfl rfl rfl rfl rfl rfl rfl rfl rfl (zT X.1 (by decide) rfl) ?_
  refine x_pack X hE (fun h138 x140 F139 X143 => ?_)
  have A141 := lS_X (lS_r X M) F139 X143
  refine gw_op rfl ?_
  refine gw_ld rfl rfl ?_
  refine z_cl rfl rfl rfl rfl rfl rfl rfl rfl rfl rfl rfl (zT A141.1.1 (by decide) rfl) ?_
  refine m_pack A141.1.1 A141.2.1.1 (fun h144 x146 F145 M149  => ?_)
  have A147 := lJ_Y (lJ_S A141) F145 M149
  refine gw_op rfl ?_
  refine z_go ?_
  refine gw_skip _ ?_
  refine z_inc rfl (by rw [show (6 : Int32).toInt = 6 from rfl]; omega) (fun x150 ex150 => ?_)
  rw [show (6 : Int32).toInt = 6 from rfl] at ex150
  show ez_gw _ _ _ _ _ _ _ _ [some (.retAddr 0), some (.ref 1), some (.ref 71), some (.ref 126), some (.int x150), l5, l6] _ _ _
  refine z_go ?_
  exact ih h144 x150 (c + 1) (l5) (l6) A147.1 A147.2.1 (lw_cn hc A147) (by omega) (by omega)
set_option maxRecDepth 4000 in
theorem lw_c7 {L : Nat} {xs : Nat → Int32} (hL : L ≤ 3072) {N : Nat} (ih : ∀ (h : ez_H) (i : Int32) (c : Nat) (l5 l6 : Option Value), xI h → (mI h ∧ wV h) → (ez_n h ≤ 126 + c ∧ ez_u h ≤ 522573 + 6 * c) → (i.toInt = 6 * c ∧ c ≤ 600) → 4000 - i.toInt < (N : Int) → pw (tz_E L xs) 10 149 23 [some (.retAddr 0), some (.ref 1), some (.ref 71), some (.ref 126), some (.int i), l5, l6] [] h lw_Qq) (h : ez_H) (i : Int32) (c : Nat) (l5 l6 : Option Value) (X : xI h) (M : mI h ∧ wV h) (hc : ez_n h ≤ 126 + c ∧ ez_u h ≤ 522573 + 6 * c) (hi : (i.toInt = 6 * c ∧ c ≤ 600) ∧ i.toInt + 6 ≤ L) (hm : 4000 - i.toInt < ((N + 1 : Nat) : Int)) : ez_gw (ez_Wp (tz_E L xs) tz_ml tz_hn tz_co) (tz_E L xs) tz_ml (tz_hn 149) 149 10 (ev_skip 40 cz_149).tail 345 [some (.retAddr 0), some (.ref 1), some (.ref 71), some (.ref 126), some (.int i), l5, l6] [] h lw_Qq := by
  have hE : zE (tz_E L xs) := fun j => rfl
  have gi := z_rng i
  refine gw_skip _ ?_
  refine gw_ld rfl rfl ?_
  refine z_cl rfl rfl rfl rfl rfl rfl rfl rfl rfl rfl rfl (zT X.1 (by decide) rfl) ?_
  refine x_parts X (fun h151 x153 F152 X156 => ?_)
  have A154 := lS_X (lS_r X M) F152 X156
  refine gw_op rfl ?_
  refine gw_ld rfl rfl ?_
  refine z_cl rfl rfl rfl rfl rfl rfl rfl rfl rfl rfl rfl (zT A154.1.1 (by decide) rfl) ?_
  refine m_parts A154.1.1 A154.2.1.1 (fun h157 x159 F158 M162  => ?_)
  have A160 := lJ_Y (lJ_S A154) F158 M162
  refine gw_op rfl ?_
  refine z_go ?_
  refine gw_skip _ ?_
  refine z_inc rfl (by rw [show (6 : Int32).toInt = 6 from rfl]; omega) (fun x163 ex163 => ?_)
  rw [show (6 : Int32).toInt = 6 from rfl] at ex163
  show ez_gw _ _ _ _ _ _ _ _ [some (.retAddr 0), some (.ref 1), some (.ref 71), some (.ref 126), some (.int x163), l5, l6] _ _ _
  refine z_go ?_
  exact ih h157 x163 (c + 1) (l5) (l6) A160.1 A160.2.1 (lw_cn hc A160) (by omega) (by omega)
set_option maxRecDepth 4000 in
theorem lw_c8 {L : Nat} {xs : Nat → Int32} (hL : L ≤ 3072) {N : Nat} (ih : ∀ (h : ez_H) (i : Int32) (c : Nat) (l5 l6 : Option Value), xI h → (mI h ∧ wV h) → (ez_n h ≤ 126 + c ∧ ez_u h ≤ 522573 + 6 * c) → (i.toInt = 6 * c ∧ c ≤ 600) → 4000 - i.toInt < (N : Int) → pw (tz_E L xs) 10 149 23 [some (.retAddr 0), some (.ref 1), some (.ref 71), some (.ref 126), some (.int i), l5, l6] [] h lw_Qq) (h : ez_H) (i : Int32) (c : Nat) (l5 l6 : Option Value) (X : xI h) (M : mI h ∧ wV h) (hc : ez_n h ≤ 126 + c ∧ ez_u h ≤ 522573 + 6 * c) (hi : (i.toInt = 6 * c ∧ c ≤ 600) ∧ i.toInt + 6 ≤ L) (hm : 4000 - i.toInt < ((N + 1 : Nat) : Int)) : ez_gw (ez_Wp (tz_E L xs) tz_ml tz_hn tz_co) (tz_E L xs) tz_ml (tz_hn 149) 149 10 (ev_skip 40 cz_149).tail 358 [some (.retAddr 0), some (.ref 1), some (.ref 71), some (.ref 126), some (.int i), l5, l6] [] h lw_Qq := by
  have hE : zE (tz_E L xs) := fun j => rfl
  have gi := z_rng i
  refine gw_skip _ ?_
  refine gw_ld rfl rfl ?_
  refine gw_ld rfl rfl ?_
  refine gw_ld rfl rfl ?_
  refine z_C (m := 1) rfl rfl (fun x164 ex164 => ?_)
  refine z_add (by omega) (fun x165 ex165 => ?_)
  refine z_iaE (n := L) (f := xs) rfl (by omega) ?_
  generalize ex166 : xs _ = x166
  refine gw_ld rfl rfl ?_
  refine gw_ld rfl rfl ?_
  refine z_C (m := 2) rfl rfl (fun x167 ex167 => ?_)
  refine z_add (by omega) (fun x168 ex168 => ?_)
  refine z_iaE (n := L) (f := xs) rfl (by omega) ?_
  generalize ex169 : xs _ = x169
  refine z_cl rfl rfl rfl rfl rfl rfl rfl rfl rfl rfl rfl (zT X.1 (by decide) rfl) ?_
  refine x_part X (fun h170 x172 F171 X175 => ?_)
  have A173 := lS_X (lS_r X M) F171 X175
  refine gw_op rfl ?_
  refine gw_ld rfl rfl ?_
  refine gw_ld rfl rfl ?_
  refine gw_ld rfl rfl ?_
  refine z_C (m := 1) rfl rfl (fun x176 ex176 => ?_)
  refine z_add (by omega) (fun x177 ex177 => ?_)
  refine z_iaE (n := L) (f := xs) rfl (by omega) ?_
  generalize ex178 : xs _ = x178
  refine gw_ld rfl rfl ?_
  refine gw_ld rfl rfl ?_
  refine z_C (m := 2) rfl rfl (fun x179 ex179 => ?_)
  refine z_add (by omega) (fun x180 ex180 => ?_)
  refine z_iaE (n := L) (f := xs) rfl (by omega) ?_
  generalize ex181 : xs _ = x181
  refine z_cl rfl rfl rfl rfl rfl rfl rfl rfl rfl rfl rfl (zT A173.1.1 (by decide) rfl) ?_
  refine m_part A173.1.1 A173.2.1.1 (fun h182 x184 F183 M187  => ?_)
  have A185 := lJ_Y (lJ_S A173) F183 M187
  refine gw_op rfl ?_
  refine z_go ?_
  refine gw_skip _ ?_
  refine z_inc rfl (by rw [show (6 : Int32).toInt = 6 from rfl]; omega) (fun x188 ex188 => ?_)
  rw [show (6 : Int32).toInt = 6 from rfl] at ex188
  show ez_gw _ _ _ _ _ _ _ _ [some (.retAddr 0), some (.ref 1), some (.ref 71), some (.ref 126), some (.int x188), l5, l6] _ _ _
  refine z_go ?_
  exact ih h182 x188 (c + 1) (l5) (l6) A185.1 A185.2.1 (lw_cn hc A185) (by omega) (by omega)
set_option maxRecDepth 4000 in
theorem lw_c9 {L : Nat} {xs : Nat → Int32} (hL : L ≤ 3072) {N : Nat} (ih : ∀ (h : ez_H) (i : Int32) (c : Nat) (l5 l6 : Option Value), xI h → (mI h ∧ wV h) → (ez_n h ≤ 126 + c ∧ ez_u h ≤ 522573 + 6 * c) → (i.toInt = 6 * c ∧ c ≤ 600) → 4000 - i.toInt < (N : Int) → pw (tz_E L xs) 10 149 23 [some (.retAddr 0), some (.ref 1), some (.ref 71), some (.ref 126), some (.int i), l5, l6] [] h lw_Qq) (h : ez_H) (i : Int32) (c : Nat) (l5 l6 : Option Value) (X : xI h) (M : mI h ∧ wV h) (hc : ez_n h ≤ 126 + c ∧ ez_u h ≤ 522573 + 6 * c) (hi : (i.toInt = 6 * c ∧ c ≤ 600) ∧ i.toInt + 6 ≤ L) (hm : 4000 - i.toInt < ((N + 1 : Nat) : Int)) : ez_gw (ez_Wp (tz_E L xs) tz_ml tz_hn tz_co) (tz_E L xs) tz_ml (tz_hn 149) 149 10 (ev_skip 40 cz_149).tail 395 [some (.retAddr 0), some (.ref 1), some (.ref 71), some (.ref 126), some (.int i), l5, l6] [] h lw_Qq := by
  have hE : zE (tz_E L xs) := fun j => rfl
  have gi := z_rng i
  refine gw_skip _ ?_
  refine gw_ld rfl rfl ?_
  refine z_cl rfl rfl rfl rfl rfl rfl rfl rfl rfl rfl rfl (zT X.1 (by decide) rfl) ?_
  refine x_blocks X (fun h189 x191 F190 X194 => ?_)
  have A192 := lS_X (lS_r X M) F190 X194
  refine gw_op rfl ?_
  refine gw_ld rfl rfl ?_
  refine z_cl rfl rfl rfl rfl rfl rfl rfl rfl rfl rfl rfl (zT A192.1.1 (by decide) rfl) ?_
  refine m_blocks A192.1.1 A192.2.1.1 (fun h195 x197 F196 M200  => ?_)
  have A198 := lJ_Y (lJ_S A192) F196 M200
  refine gw_op rfl ?_
  refine z_go ?_
  refine gw_skip _ ?_
  refine z_inc rfl (by rw [show (6 : Int32).toInt = 6 from rfl]; omega) (fun x201 ex201 => ?_)
  rw [show (6 : Int32).toInt = 6 from rfl] at ex201
  show ez_gw _ _ _ _ _ _ _ _ [some (.retAddr 0), some (.ref 1), some (.ref 71), some (.ref 126), some (.int x201), l5, l6] _ _ _
  refine z_go ?_
  exact ih h195 x201 (c + 1) (l5) (l6) A198.1 A198.2.1 (lw_cn hc A198) (by omega) (by omega)
set_option maxRecDepth 4000 in
theorem lw_c10 {L : Nat} {xs : Nat → Int32} (hL : L ≤ 3072) {N : Nat} (ih : ∀ (h : ez_H) (i : Int32) (c : Nat) (l5 l6 : Option Value), xI h → (mI h ∧ wV h) → (ez_n h ≤ 126 + c ∧ ez_u h ≤ 522573 + 6 * c) → (i.toInt = 6 * c ∧ c ≤ 600) → 4000 - i.toInt < (N : Int) → pw (tz_E L xs) 10 149 23 [some (.retAddr 0), some (.ref 1), some (.ref 71), some (.ref 126), some (.int i), l5, l6] [] h lw_Qq) (h : ez_H) (i : Int32) (c : Nat) (l5 l6 : Option Value) (X : xI h) (M : mI h ∧ wV h) (hc : ez_n h ≤ 126 + c ∧ ez_u h ≤ 522573 + 6 * c) (hi : (i.toInt = 6 * c ∧ c ≤ 600) ∧ i.toInt + 6 ≤ L) (hm : 4000 - i.toInt < ((N + 1 : Nat) : Int)) : ez_gw (ez_Wp (tz_E L xs) tz_ml tz_hn tz_co) (tz_E L xs) tz_ml (tz_hn 149) 149 10 (ev_skip 40 cz_149).tail 408 [some (.retAddr 0), some (.ref 1), some (.ref 71), some (.ref 126), some (.int i), l5, l6] [] h lw_Qq := by
  have hE : zE (tz_E L xs) := fun j => rfl
  have gi := z_rng i
  refine gw_skip _ ?_
  refine gw_ld rfl rfl ?_
  refine gw_ld rfl rfl ?_
  refine gw_ld rfl rfl ?_
  refine z_C (m := 1) rfl rfl (fun x202 ex202 => ?_)
  refine z_add (by omega) (fun x203 ex203 => ?_)
  refine z_iaE (n := L) (f := xs) rfl (by omega) ?_
  generalize ex204 : xs _ = x204
  refine gw_ld rfl rfl ?_
  refine gw_ld rfl rfl ?_
  refine z_C (m := 2) rfl rfl (fun x205 ex205 => ?_)
  refine z_add (by omega) (fun x206 ex206 => ?_)
  refine z_iaE (n := L) (f := xs) rfl (by omega) ?_
  generalize ex207 : xs _ = x207
  refine z_cl rfl rfl rfl rfl rfl rfl rfl rfl rfl rfl rfl (zT X.1 (by decide) rfl) ?_
  refine x_block X (fun h208 x210 F209 X213 => ?_)
  have A211 := lS_X (lS_r X M) F209 X213
  refine gw_op rfl ?_
  refine gw_ld rfl rfl ?_
  refine gw_ld rfl rfl ?_
  refine gw_ld rfl rfl ?_
  refine z_C (m := 1) rfl rfl (fun x214 ex214 => ?_)
  refine z_add (by omega) (fun x215 ex215 => ?_)
  refine z_iaE (n := L) (f := xs) rfl (by omega) ?_
  generalize ex216 : xs _ = x216
  refine gw_ld rfl rfl ?_
  refine gw_ld rfl rfl ?_
  refine z_C (m := 2) rfl rfl (fun x217 ex217 => ?_)
  refine z_add (by omega) (fun x218 ex218 => ?_)
  refine z_iaE (n := L) (f := xs) rfl (by omega) ?_
  generalize ex219 : xs _ = x219
  refine z_cl rfl rfl rfl rfl rfl rfl rfl rfl rfl rfl rfl (zT A211.1.1 (by decide) rfl) ?_
  refine m_block A211.1.1 A211.2.1.1 (fun h220 x222 F221 M225  => ?_)
  have A223 := lJ_Y (lJ_S A211) F221 M225
  refine gw_op rfl ?_
  refine z_go ?_
  refine gw_skip _ ?_
  refine z_inc rfl (by rw [show (6 : Int32).toInt = 6 from rfl]; omega) (fun x226 ex226 => ?_)
  rw [show (6 : Int32).toInt = 6 from rfl] at ex226
  show ez_gw _ _ _ _ _ _ _ _ [some (.retAddr 0), some (.ref 1), some (.ref 71), some (.ref 126), some (.int x226), l5, l6] _ _ _
  refine z_go ?_
  exact ih h220 x226 (c + 1) (l5) (l6) A223.1 A223.2.1 (lw_cn hc A223) (by omega) (by omega)
set_option maxRecDepth 4000 in
theorem lw_c11 {L : Nat} {xs : Nat → Int32} (hL : L ≤ 3072) {N : Nat} (ih : ∀ (h : ez_H) (i : Int32) (c : Nat) (l5 l6 : Option Value), xI h → (mI h ∧ wV h) → (ez_n h ≤ 126 + c ∧ ez_u h ≤ 522573 + 6 * c) → (i.toInt = 6 * c ∧ c ≤ 600) → 4000 - i.toInt < (N : Int) → pw (tz_E L xs) 10 149 23 [some (.retAddr 0), some (.ref 1), some (.ref 71), some (.ref 126), some (.int i), l5, l6] [] h lw_Qq) (h : ez_H) (i : Int32) (c : Nat) (l5 l6 : Option Value) (X : xI h) (M : mI h ∧ wV h) (hc : ez_n h ≤ 126 + c ∧ ez_u h ≤ 522573 + 6 * c) (hi : (i.toInt = 6 * c ∧ c ≤ 600) ∧ i.toInt + 6 ≤ L) (hm : 4000 - i.toInt < ((N + 1 : Nat) : Int)) : ez_gw (ez_Wp (tz_E L xs) tz_ml tz_hn tz_co) (tz_E L xs) tz_ml (tz_hn 149) 149 10 (ev_skip 40 cz_149).tail 445 [some (.retAddr 0), some (.ref 1), some (.ref 71), some (.ref 126), some (.int i), l5, l6] [] h lw_Qq := by
  have hE : zE (tz_E L xs) := fun j => rfl
  have gi := z_rng i
  refine gw_skip _ ?_
  refine gw_ld rfl rfl ?_
  refine gw_ld rfl rfl ?_
  refine gw_ld rfl rfl ?_
  refine z_C (m := 1) rfl rfl (fun x227 ex227 => ?_)
  refine z_add (by omega) (fun x228 ex228 => ?_)
  refine z_iaE (n := L) (f := xs) rfl (by omega) ?_
  generalize ex229 : xs _ = x229
  refine gw_ld rfl rfl ?_
  refine gw_ld rfl rfl ?_
  refine z_C (m := 2) rfl rfl (fun x230 ex230 => ?_)
  refine z_add (by omega) (fun x231 ex231 => ?_)
  refine z_iaE (n := L) (f := xs) rfl (by omega) ?_
  generalize ex232 : xs _ = x232
  refine gw_ld rfl rfl ?_
  refine gw_ld rfl rfl ?_
  refine z_C (m := 3) rfl rfl (fun x233 ex233 => ?_)
  refine z_add (by omega) (fun x234 ex234 => ?_)
  refine z_iaE (n := L) (f := xs) rfl (by omega) ?_
  generalize ex235 : xs _ = x235
  refine z_cl rfl rfl rfl rfl rfl rfl rfl rfl rfl rfl rfl (zT X.1 (by decide) rfl) ?_
  refine x_code X hE (fun h236 x238 F237 X241 => ?_)
  have A239 := lS_X (lS_r X M) F237 X241
  refine gw_op rfl ?_
  refine gw_ld rfl rfl ?_
  refine gw_ld rfl rfl ?_
  refine gw_ld rfl rfl ?_
  refine z_C (m := 1) rfl rfl (fun x242 ex242 => ?_)
  refine z_add (by omega) (fun x243 ex243 => ?_)
  refine z_iaE (n := L) (f := xs) rfl (by omega) ?_
  generalize ex244 : xs _ = x244
  refine gw_ld rfl rfl ?_
  refine gw_ld rfl rfl ?_
  refine z_C (m := 2) rfl rfl (fun x245 ex245 => ?_)
  refine z_add (by omega) (fun x246 ex246 => ?_)
  refine z_iaE (n := L) (f := xs) rfl (by omega) ?_
  generalize ex247 : xs _ = x247
  refine gw_ld rfl rfl ?_
  refine gw_ld rfl rfl ?_
  refine z_C (m := 3) rfl rfl (fun x248 ex248 => ?_)
  refine z_add (by omega) (fun x249 ex249 => ?_)
  refine z_iaE (n := L) (f := xs) rfl (by omega) ?_
  generalize ex250 : xs _ = x250
  refine z_cl rfl rfl rfl rfl rfl rfl rfl rfl rfl rfl rfl (zT A239.1.1 (by decide) rfl) ?_
  refine m_code A239.1.1 A239.2.1.1 (fun h251 x253 F252 M256  => ?_)
  have A254 := lJ_Y (lJ_S A239) F252 M256
  refine gw_op rfl ?_
  refine z_go ?_
  refine gw_skip _ ?_
  refine z_inc rfl (by rw [show (6 : Int32).toInt = 6 from rfl]; omega) (fun x257 ex257 => ?_)
  rw [show (6 : Int32).toInt = 6 from rfl] at ex257
  show ez_gw _ _ _ _ _ _ _ _ [some (.retAddr 0), some (.ref 1), some (.ref 71), some (.ref 126), some (.int x257), l5, l6] _ _ _
  refine z_go ?_
  exact ih h251 x257 (c + 1) (l5) (l6) A254.1 A254.2.1 (lw_cn hc A254) (by omega) (by omega)
set_option maxRecDepth 4000 in
theorem lw_c12 {L : Nat} {xs : Nat → Int32} (hL : L ≤ 3072) {N : Nat} (ih : ∀ (h : ez_H) (i : Int32) (c : Nat) (l5 l6 : Option Value), xI h → (mI h ∧ wV h) → (ez_n h ≤ 126 + c ∧ ez_u h ≤ 522573 + 6 * c) → (i.toInt = 6 * c ∧ c ≤ 600) → 4000 - i.toInt < (N : Int) → pw (tz_E L xs) 10 149 23 [some (.retAddr 0), some (.ref 1), some (.ref 71), some (.ref 126), some (.int i), l5, l6] [] h lw_Qq) (h : ez_H) (i : Int32) (c : Nat) (l5 l6 : Option Value) (X : xI h) (M : mI h ∧ wV h) (hc : ez_n h ≤ 126 + c ∧ ez_u h ≤ 522573 + 6 * c) (hi : (i.toInt = 6 * c ∧ c ≤ 600) ∧ i.toInt + 6 ≤ L) (hm : 4000 - i.toInt < ((N + 1 : Nat) : Int)) : ez_gw (ez_Wp (tz_E L xs) tz_ml tz_hn tz_co) (tz_E L xs) tz_ml (tz_hn 149) 149 10 (ev_skip 40 cz_149).tail 494 [some (.retAddr 0), some (.ref 1), some (.ref 71), some (.ref 126), some (.int i), l5, l6] [] h lw_Qq := by
  have hE : zE (tz_E L xs) := fun j => rfl
  have gi := z_rng i
  refine gw_skip _ ?_
  refine gw_ld rfl rfl ?_
  refine gw_ld rfl rfl ?_
  refine z_cl rfl rfl rfl rfl rfl rfl rfl rfl rfl rfl rfl (trivial) ?_
  refine l_unpack X M hE (by first | exact zMm h hc hi.1) (fun h258 x260 A261  => ?_)
  refine gw_st rfl rfl rfl ?_
  show ez_gw _ _ _ _ _ _ _ _ [some (.retAddr 0), some (.ref 1), some (.ref 71), some (.ref 126), some (.int i), some (.int x260), l6] _ _ _
  refine gw_ld rfl rfl ?_
  refine z_cl rfl rfl rfl rfl rfl rfl rfl rfl rfl rfl rfl (zT A261.1.1 (by decide) rfl) ?_
  refine m_unpack A261.1.1 A261.2.1.1 (fun h263 x265 F264 M268  => ?_)
  have A266 := lJ_Y (A261) F264 M268
  refine gw_st rfl rfl rfl ?_
  show ez_gw _ _ _ _ _ _ _ _ [some (.retAddr 0), some (.ref 1), some (.ref 71), some (.ref 126), some (.int i), some (.int x260), some (.int x265)] _ _ _
  refine z_go ?_
  refine gw_skip _ ?_
  refine z_inc rfl (by rw [show (6 : Int32).toInt = 6 from rfl]; omega) (fun x269 ex269 => ?_)
  rw [show (6 : Int32).toInt = 6 from rfl] at ex269
  show ez_gw _ _ _ _ _ _ _ _ [some (.retAddr 0), some (.ref 1), some (.ref 71), some (.ref 126), some (.int x269), some (.int x260), some (.int x265)] _ _ _
  refine z_go ?_
  exact ih h263 x269 (c + 1) (some (.int x260)) (some (.int x265)) A266.1 A266.2.1 (lw_cn hc A266) (by omega) (by omega)
set_option maxRecDepth 4000 in
theorem lw_c13 {L : Nat} {xs : Nat → Int32} (hL : L ≤ 3072) {N : Nat} (ih : ∀ (h : ez_H) (i : Int32) (c : Nat) (l5 l6 : Option Value), xI h → (mI h ∧ wV h) → (ez_n h ≤ 126 + c ∧ ez_u h ≤ 522573 + 6 * c) → (i.toInt = 6 * c ∧ c ≤ 600) → 4000 - i.toInt < (N : Int) → pw (tz_E L xs) 10 149 23 [some (.retAddr 0), some (.ref 1), some (.ref 71), some (.ref 126), some (.int i), l5, l6] [] h lw_Qq) (h : ez_H) (i : Int32) (c : Nat) (l5 l6 : Option Value) (X : xI h) (M : mI h ∧ wV h) (hc : ez_n h ≤ 126 + c ∧ ez_u h ≤ 522573 + 6 * c) (hi : (i.toInt = 6 * c ∧ c ≤ 600) ∧ i.toInt + 6 ≤ L) (hm : 4000 - i.toInt < ((N + 1 : Nat) : Int)) : ez_gw (ez_Wp (tz_E L xs) tz_ml tz_hn tz_co) (tz_E L xs) tz_ml (tz_hn 149) 149 10 (ev_skip 40 cz_149).tail 510 [some (.retAddr 0), some (.ref 1), some (.ref 71), some (.ref 126), some (.int i), l5, l6] [] h lw_Qq := by
  have hE : zE (tz_E L xs) := fun j => rfl
  have gi := z_rng i
  refine gw_skip _ ?_
  refine gw_ld rfl rfl ?_
  refine gw_ld rfl rfl ?_
  refine gw_ld rfl rfl ?_
  refine z_C (m := 1) rfl rfl (fun x270 ex270 => ?_)
  refine z_add (by omega) (fun x271 ex271 => ?_)
  refine z_iaE (n := L) (f := xs) rfl (by omega) ?_
  generalize ex272 : xs _ = x272
  refine z_cl rfl rfl rfl rfl rfl rfl rfl rfl rfl rfl rfl (zT X.1 (by decide) rfl) ?_
  refine x_fault X (fun h273 x275 F274 X278 => ?_)
  have A276 := lS_X (lS_r X M) F274 X278
  refine gw_op rfl ?_
  refine gw_ld rfl rfl ?_
  refine gw_ld rfl rfl ?_
  refine gw_ld rfl rfl ?_
  refine z_C (m := 1) rfl rfl (fun x279 ex279 => ?_)
  refine z_add (by omega) (fun x280 ex280 => ?_)
  refine z_iaE (n := L) (f := xs) rfl (by omega) ?_
  generalize ex281 : xs _ = x281
  refine z_cl rfl rfl rfl rfl rfl rfl rfl rfl rfl rfl rfl (zT A276.1.1 (by decide) rfl) ?_
  refine m_fault A276.1.1 A276.2.1.1 (fun h282 x284 F283 M287  => ?_)
  have A285 := lJ_Y (lJ_S A276) F283 M287
  refine gw_op rfl ?_
  refine z_go ?_
  refine gw_skip _ ?_
  refine z_inc rfl (by rw [show (6 : Int32).toInt = 6 from rfl]; omega) (fun x288 ex288 => ?_)
  rw [show (6 : Int32).toInt = 6 from rfl] at ex288
  show ez_gw _ _ _ _ _ _ _ _ [some (.retAddr 0), some (.ref 1), some (.ref 71), some (.ref 126), some (.int x288), l5, l6] _ _ _
  refine z_go ?_
  exact ih h282 x288 (c + 1) (l5) (l6) A285.1 A285.2.1 (lw_cn hc A285) (by omega) (by omega)
set_option maxRecDepth 4000 in
theorem lw_c14 {L : Nat} {xs : Nat → Int32} (hL : L ≤ 3072) {N : Nat} (ih : ∀ (h : ez_H) (i : Int32) (c : Nat) (l5 l6 : Option Value), xI h → (mI h ∧ wV h) → (ez_n h ≤ 126 + c ∧ ez_u h ≤ 522573 + 6 * c) → (i.toInt = 6 * c ∧ c ≤ 600) → 4000 - i.toInt < (N : Int) → pw (tz_E L xs) 10 149 23 [some (.retAddr 0), some (.ref 1), some (.ref 71), some (.ref 126), some (.int i), l5, l6] [] h lw_Qq) (h : ez_H) (i : Int32) (c : Nat) (l5 l6 : Option Value) (X : xI h) (M : mI h ∧ wV h) (hc : ez_n h ≤ 126 + c ∧ ez_u h ≤ 522573 + 6 * c) (hi : (i.toInt = 6 * c ∧ c ≤ 600) ∧ i.toInt + 6 ≤ L) (hm : 4000 - i.toInt < ((N + 1 : Nat) : Int)) : ez_gw (ez_Wp (tz_E L xs) tz_ml tz_hn tz_co) (tz_E L xs) tz_ml (tz_hn 149) 149 10 (ev_skip 40 cz_149).tail 535 [some (.retAddr 0), some (.ref 1), some (.ref 71), some (.ref 126), some (.int i), l5, l6] [] h lw_Qq := by
  have hE : zE (tz_E L xs) := fun j => rfl
  have gi := z_rng i
  refine gw_skip _ ?_
  refine gw_ld rfl rfl ?_
  refine gw_ld rfl rfl ?_
  refine gw_ld rfl rfl ?_
  refine z_C (m := 1) rfl rfl (fun x289 ex289 => ?_)
  refine z_add (by omega) (fun x290 ex290 => ?_)
  refine z_iaE (n := L) (f := xs) rfl (by omega) ?_
  generalize ex291 : xs _ = x291
  refine z_cl rfl rfl rfl rfl rfl rfl rfl rfl rfl rfl rfl (zT X.1 (by decide) rfl) ?_
  refine x_output X (fun h292 x294 F293 X297 => ?_)
  have A295 := lS_X (lS_r X M) F293 X297
  refine gw_op rfl ?_
  refine gw_ld rfl rfl ?_
  refine gw_ld rfl rfl ?_
  refine gw_ld rfl rfl ?_
  refine z_C (m := 1) rfl rfl (fun x298 ex298 => ?_)
  refine z_add (by omega) (fun x299 ex299 => ?_)
  refine z_iaE (n := L) (f := xs) rfl (by omega) ?_
  generalize ex300 : xs _ = x300
  refine z_cl rfl rfl rfl rfl rfl rfl rfl rfl rfl rfl rfl (zT A295.1.1 (by decide) rfl) ?_
  refine m_output A295.1.1 A295.2.1.1 (fun h301 x303 F302 M306  => ?_)
  have A304 := lJ_Y (lJ_S A295) F302 M306
  refine gw_op rfl ?_
  refine z_go ?_
  refine gw_skip _ ?_
  refine z_inc rfl (by rw [show (6 : Int32).toInt = 6 from rfl]; omega) (fun x307 ex307 => ?_)
  rw [show (6 : Int32).toInt = 6 from rfl] at ex307
  show ez_gw _ _ _ _ _ _ _ _ [some (.retAddr 0), some (.ref 1), some (.ref 71), some (.ref 126), some (.int x307), l5, l6] _ _ _
  refine z_go ?_
  exact ih h301 x307 (c + 1) (l5) (l6) A304.1 A304.2.1 (lw_cn hc A304) (by omega) (by omega)
set_option maxRecDepth 4000 in
theorem lw_c15 {L : Nat} {xs : Nat → Int32} (hL : L ≤ 3072) {N : Nat} (ih : ∀ (h : ez_H) (i : Int32) (c : Nat) (l5 l6 : Option Value), xI h → (mI h ∧ wV h) → (ez_n h ≤ 126 + c ∧ ez_u h ≤ 522573 + 6 * c) → (i.toInt = 6 * c ∧ c ≤ 600) → 4000 - i.toInt < (N : Int) → pw (tz_E L xs) 10 149 23 [some (.retAddr 0), some (.ref 1), some (.ref 71), some (.ref 126), some (.int i), l5, l6] [] h lw_Qq) (h : ez_H) (i : Int32) (c : Nat) (l5 l6 : Option Value) (X : xI h) (M : mI h ∧ wV h) (hc : ez_n h ≤ 126 + c ∧ ez_u h ≤ 522573 + 6 * c) (hi : (i.toInt = 6 * c ∧ c ≤ 600) ∧ i.toInt + 6 ≤ L) (hm : 4000 - i.toInt < ((N + 1 : Nat) : Int)) : ez_gw (ez_Wp (tz_E L xs) tz_ml tz_hn tz_co) (tz_E L xs) tz_ml (tz_hn 149) 149 10 (ev_skip 40 cz_149).tail 560 [some (.retAddr 0), some (.ref 1), some (.ref 71), some (.ref 126), some (.int i), l5, l6] [] h lw_Qq := by
  have hE : zE (tz_E L xs) := fun j => rfl
  have gi := z_rng i
  refine gw_skip _ ?_
  refine gw_ld rfl rfl ?_
  refine gw_ld rfl rfl ?_
  refine gw_ld rfl rfl ?_
  refine z_C (m := 1) rfl rfl (fun x308 ex308 => ?_)
  refine z_add (by omega) (fun x309 ex309 => ?_)
  refine z_iaE (n := L) (f := xs) rfl (by omega) ?_
  generalize ex310 : xs _ = x310
  refine gw_ld rfl rfl ?_
  refine gw_ld rfl rfl ?_
  refine z_C (m := 2) rfl rfl (fun x311 ex311 => ?_)
  refine z_add (by omega) (fun x312 ex312 => ?_)
  refine z_iaE (n := L) (f := xs) rfl (by omega) ?_
  generalize ex313 : xs _ = x313
  refine z_cl rfl rfl rfl rfl rfl rfl rfl rfl rfl rfl rfl (trivial) ?_
  refine l_weigh (y := x310) (w := x313) X M (zMm h hc hi.1) (fun h314 x316 b320 b321 b322 b323 b324 b325 => ?_)
  refine gw_st rfl rfl rfl ?_
  show ez_gw _ _ _ _ _ _ _ _ [some (.retAddr 0), some (.ref 1), some (.ref 71), some (.ref 126), some (.int i), some (.int x316), l6] _ _ _
  refine gw_ld rfl rfl ?_
  refine gw_ld rfl rfl ?_
  refine gw_ld rfl rfl ?_
  refine z_C (m := 1) rfl rfl (fun x326 ex326 => ?_)
  refine z_add (by omega) (fun x327 ex327 => ?_)
  refine z_iaE (n := L) (f := xs) rfl (by omega) ?_
  generalize ex328 : xs _ = x328
  refine gw_ld rfl rfl ?_
  refine gw_ld rfl rfl ?_
  refine z_C (m := 2) rfl rfl (fun x329 ex329 => ?_)
  refine z_add (by omega) (fun x330 ex330 => ?_)
  refine z_iaE (n := L) (f := xs) rfl (by omega) ?_
  generalize ex331 : xs _ = x331
  refine z_cl rfl rfl rfl rfl rfl rfl rfl rfl rfl rfl rfl (zT b320.1 (by decide) rfl) ?_
  have q0 : x328 = x310 := ex328.symm.trans ((congrArg xs (by omega)).trans ex310)
  have q1 : x331 = x313 := ex331.symm.trans ((congrArg xs (by omega)).trans ex313)
  refine m_weighF (y := x328) (w := x331) b320.1 (fun h332 F333 b337 b338 b339 => ?_)
  rw [q0, q1] at b338 b339
  have A335 : lJ h h332 := ⟨xI_G b320 F333 (fun q hq => by omega), ⟨mI_G0 b321 F333 (fun q hq => by omega), wV_w M.2 b323.1 b323.2.1 b323.2.2 b324 b325 (zG_fn F333 7 (by decide) (by decide)) (zG_fn F333 8 (by decide) (by decide)) (zG_fn F333 125 (by decide) (by decide)) b338 b339⟩, by rw [F333.1]; exact b322.1, by rw [F333.2.1]; exact b322.2⟩
  refine z_go ?_
  refine gw_skip _ ?_
  refine z_inc rfl (by rw [show (6 : Int32).toInt = 6 from rfl]; omega) (fun x340 ex340 => ?_)
  rw [show (6 : Int32).toInt = 6 from rfl] at ex340
  show ez_gw _ _ _ _ _ _ _ _ [some (.retAddr 0), some (.ref 1), some (.ref 71), some (.ref 126), some (.int x340), some (.int x316), l6] _ _ _
  refine z_go ?_
  exact ih h332 x340 (c + 1) (some (.int x316)) (l6) A335.1 A335.2.1 (lw_cn hc A335) (by omega) (by omega)
set_option maxRecDepth 4000 in
theorem lw_c16 {L : Nat} {xs : Nat → Int32} (hL : L ≤ 3072) {N : Nat} (ih : ∀ (h : ez_H) (i : Int32) (c : Nat) (l5 l6 : Option Value), xI h → (mI h ∧ wV h) → (ez_n h ≤ 126 + c ∧ ez_u h ≤ 522573 + 6 * c) → (i.toInt = 6 * c ∧ c ≤ 600) → 4000 - i.toInt < (N : Int) → pw (tz_E L xs) 10 149 23 [some (.retAddr 0), some (.ref 1), some (.ref 71), some (.ref 126), some (.int i), l5, l6] [] h lw_Qq) (h : ez_H) (i : Int32) (c : Nat) (l5 l6 : Option Value) (X : xI h) (M : mI h ∧ wV h) (hc : ez_n h ≤ 126 + c ∧ ez_u h ≤ 522573 + 6 * c) (hi : (i.toInt = 6 * c ∧ c ≤ 600) ∧ i.toInt + 6 ≤ L) (hm : 4000 - i.toInt < ((N + 1 : Nat) : Int)) : ez_gw (ez_Wp (tz_E L xs) tz_ml tz_hn tz_co) (tz_E L xs) tz_ml (tz_hn 149) 149 10 (ev_skip 40 cz_149).tail 597 [some (.retAddr 0), some (.ref 1), some (.ref 71), some (.ref 126), some (.int i), l5, l6] [] h lw_Qq := by
  have hE : zE (tz_E L xs) := fun j => rfl
  have gi := z_rng i
  refine gw_skip _ ?_
  refine gw_ld rfl rfl ?_
  refine gw_ld rfl rfl ?_
  refine gw_ld rfl rfl ?_
  refine z_C (m := 1) rfl rfl (fun x341 ex341 => ?_)
  refine z_add (by omega) (fun x342 ex342 => ?_)
  refine z_iaE (n := L) (f := xs) rfl (by omega) ?_
  generalize ex343 : xs _ = x343
  refine gw_ld rfl rfl ?_
  refine z_cl rfl rfl rfl rfl rfl rfl rfl rfl rfl rfl rfl (trivial) ?_
  refine l_measure (m := x343) X M hE (zMm h hc hi.1) (fun h344 x346 b349 b350 b351 b352 b353 b354 b355 => ?_)
  refine gw_st rfl rfl rfl ?_
  show ez_gw _ _ _ _ _ _ _ _ [some (.retAddr 0), some (.ref 1), some (.ref 71), some (.ref 126), some (.int i), some (.int x346), l6] _ _ _
  refine gw_ld rfl rfl ?_
  refine gw_ld rfl rfl ?_
  refine gw_ld rfl rfl ?_
  refine z_C (m := 1) rfl rfl (fun x356 ex356 => ?_)
  refine z_add (by omega) (fun x357 ex357 => ?_)
  refine z_iaE (n := L) (f := xs) rfl (by omega) ?_
  generalize ex358 : xs _ = x358
  refine z_cl rfl rfl rfl rfl rfl rfl rfl rfl rfl rfl rfl (zT b349.1 (by decide) rfl) ?_
  have q0 : x358 = x343 := ex358.symm.trans ((congrArg xs (by omega)).trans ex343)
  refine m_measF (m := x358) b349.1 (by rw [b352.2.1]; exact fun k hk => by rw [← M.2.1 k hk]; exact M.2.2.1 k hk) (fun h359 x361 F360 b364 b365 b366 => ?_)
  rw [q0] at b364 b365 b366
  have A362 : lJ h h359 := ⟨xI_G b349 F360 (fun q hq => by omega), ⟨mI_G0 b350 F360 (fun q hq => by omega), wV_m M.2 b352.1 b352.2.1 b352.2.2 (fun c => (b354 c).1) b355 (zG_fn F360 7 (by decide) (by decide)) (zG_fn F360 8 (by decide) (by decide)) (zG_fn F360 124 (by decide) (by decide)) (fun c => (b365 c).1) b366⟩, by rw [F360.1]; exact b351.1, by rw [F360.2.1]; exact b351.2⟩
  have ep : poC (ez_I h344 124) 64 = poC (ez_I h 7) 64 := by rw [b352.2.1]; exact (poC_congr 64 (fun k hk => M.2.1 k hk)).symm
  rw [ep] at b364 b365
  have eth : (ez_I h359 71 0).toInt = x346.toInt := b364.trans b353.symm
  refine gw_st rfl rfl rfl ?_
  show ez_gw _ _ _ _ _ _ _ _ [some (.retAddr 0), some (.ref 1), some (.ref 71), some (.ref 126), some (.int i), some (.int x346), some (.int x361)] _ _ _
  refine z_go ?_
  refine gw_skip _ ?_
  refine z_inc rfl (by rw [show (6 : Int32).toInt = 6 from rfl]; omega) (fun x367 ex367 => ?_)
  rw [show (6 : Int32).toInt = 6 from rfl] at ex367
  show ez_gw _ _ _ _ _ _ _ _ [some (.retAddr 0), some (.ref 1), some (.ref 71), some (.ref 126), some (.int x367), some (.int x346), some (.int x361)] _ _ _
  refine z_go ?_
  exact ih h359 x367 (c + 1) (some (.int x346)) (some (.int x361)) A362.1 A362.2.1 (lw_cn hc A362) (by omega) (by omega)
set_option maxRecDepth 4000 in
theorem lw_c17 {L : Nat} {xs : Nat → Int32} (hL : L ≤ 3072) {N : Nat} (ih : ∀ (h : ez_H) (i : Int32) (c : Nat) (l5 l6 : Option Value), xI h → (mI h ∧ wV h) → (ez_n h ≤ 126 + c ∧ ez_u h ≤ 522573 + 6 * c) → (i.toInt = 6 * c ∧ c ≤ 600) → 4000 - i.toInt < (N : Int) → pw (tz_E L xs) 10 149 23 [some (.retAddr 0), some (.ref 1), some (.ref 71), some (.ref 126), some (.int i), l5, l6] [] h lw_Qq) (h : ez_H) (i : Int32) (c : Nat) (l5 l6 : Option Value) (X : xI h) (M : mI h ∧ wV h) (hc : ez_n h ≤ 126 + c ∧ ez_u h ≤ 522573 + 6 * c) (hi : (i.toInt = 6 * c ∧ c ≤ 600) ∧ i.toInt + 6 ≤ L) (hm : 4000 - i.toInt < ((N + 1 : Nat) : Int)) : ez_gw (ez_Wp (tz_E L xs) tz_ml tz_hn tz_co) (tz_E L xs) tz_ml (tz_hn 149) 149 10 (ev_skip 40 cz_149).tail 625 [some (.retAddr 0), some (.ref 1), some (.ref 71), some (.ref 126), some (.int i), l5, l6] [] h lw_Qq := by
  have hE : zE (tz_E L xs) := fun j => rfl
  have gi := z_rng i
  refine gw_skip _ ?_
  refine gw_ld rfl rfl ?_
  refine gw_ld rfl rfl ?_
  refine gw_ld rfl rfl ?_
  refine z_C (m := 1) rfl rfl (fun x368 ex368 => ?_)
  refine z_add (by omega) (fun x369 ex369 => ?_)
  refine z_iaE (n := L) (f := xs) rfl (by omega) ?_
  generalize ex370 : xs _ = x370
  refine z_cl rfl rfl rfl rfl rfl rfl rfl rfl rfl rfl rfl (zT X.1 (by decide) rfl) ?_
  refine x_length X (fun h371 x373 F372 X376 p375 => ?_)
  have A374 := lS_X (lS_r X M) F372 X376
  refine gw_ld rfl rfl ?_
  refine gw_ld rfl rfl ?_
  refine gw_ld rfl rfl ?_
  refine z_C (m := 1) rfl rfl (fun x377 ex377 => ?_)
  refine z_add (by omega) (fun x378 ex378 => ?_)
  refine z_iaE (n := L) (f := xs) rfl (by omega) ?_
  generalize ex379 : xs _ = x379
  refine z_cl rfl rfl rfl rfl rfl rfl rfl rfl rfl rfl rfl (zT A374.1.1 (by decide) rfl) ?_
  refine m_length A374.1.1 A374.2.1.1 (fun h380 x382 F381 M385  p384 => ?_)
  have A383 := lJ_Y (lJ_S A374) F381 M385
  refine z_b2 (fun c386 => ?_) (fun c386 => ?_)
  · have c386 : x373.toInt = x382.toInt := c386
    refine gw_skip _ ?_
    refine z_inc rfl (by rw [show (6 : Int32).toInt = 6 from rfl]; omega) (fun x387 ex387 => ?_)
    rw [show (6 : Int32).toInt = 6 from rfl] at ex387
    show ez_gw _ _ _ _ _ _ _ _ [some (.retAddr 0), some (.ref 1), some (.ref 71), some (.ref 126), some (.int x387), l5, l6] _ _ _
    refine z_go ?_
    exact ih h380 x387 (c + 1) (l5) (l6) A383.1 A383.2.1 (lw_cn hc A383) (by omega) (by omega)
  · have c386 : ¬ (x373.toInt = x382.toInt) := c386
    exfalso
    have q0 : x379 = x370 := ex379.symm.trans ((congrArg xs (by omega)).trans ex370)
    rw [q0, (F372.2.2.2.2.2 125 (by unfold zX; omega)).1] at p384
    apply c386
    rw [p375, p384]
    split
    · rw [M.2.2.2 _ (by omega)]
    · rfl
set_option maxRecDepth 4000 in
theorem lw_c18 {L : Nat} {xs : Nat → Int32} (hL : L ≤ 3072) {N : Nat} (ih : ∀ (h : ez_H) (i : Int32) (c : Nat) (l5 l6 : Option Value), xI h → (mI h ∧ wV h) → (ez_n h ≤ 126 + c ∧ ez_u h ≤ 522573 + 6 * c) → (i.toInt = 6 * c ∧ c ≤ 600) → 4000 - i.toInt < (N : Int) → pw (tz_E L xs) 10 149 23 [some (.retAddr 0), some (.ref 1), some (.ref 71), some (.ref 126), some (.int i), l5, l6] [] h lw_Qq) (h : ez_H) (i : Int32) (c : Nat) (l5 l6 : Option Value) (X : xI h) (M : mI h ∧ wV h) (hc : ez_n h ≤ 126 + c ∧ ez_u h ≤ 522573 + 6 * c) (hi : (i.toInt = 6 * c ∧ c ≤ 600) ∧ i.toInt + 6 ≤ L) (hm : 4000 - i.toInt < ((N + 1 : Nat) : Int)) : ez_gw (ez_Wp (tz_E L xs) tz_ml tz_hn tz_co) (tz_E L xs) tz_ml (tz_hn 149) 149 10 (ev_skip 40 cz_149).tail 650 [some (.retAddr 0), some (.ref 1), some (.ref 71), some (.ref 126), some (.int i), l5, l6] [] h lw_Qq := by
  have hE : zE (tz_E L xs) := fun j => rfl
  have gi := z_rng i
  refine gw_skip _ ?_
  refine gw_ld rfl rfl ?_
  refine gw_ld rfl rfl ?_
  refine gw_ld rfl rfl ?_
  refine z_C (m := 1) rfl rfl (fun x388 ex388 => ?_)
  refine z_add (by omega) (fun x389 ex389 => ?_)
  refine z_iaE (n := L) (f := xs) rfl (by omega) ?_
  generalize ex390 : xs _ = x390
  refine z_cl rfl rfl rfl rfl rfl rfl rfl rfl rfl rfl rfl (zT X.1 (by decide) rfl) ?_
  refine x_about X (fun h391 x393 F392 X396 => ?_)
  have A394 := lS_X (lS_r X M) F392 X396
  refine gw_op rfl ?_
  refine gw_ld rfl rfl ?_
  refine gw_ld rfl rfl ?_
  refine gw_ld rfl rfl ?_
  refine z_C (m := 1) rfl rfl (fun x397 ex397 => ?_)
  refine z_add (by omega) (fun x398 ex398 => ?_)
  refine z_iaE (n := L) (f := xs) rfl (by omega) ?_
  generalize ex399 : xs _ = x399
  refine z_cl rfl rfl rfl rfl rfl rfl rfl rfl rfl rfl rfl (zT A394.1.1 (by decide) rfl) ?_
  refine m_about A394.1.1 A394.2.1.1 (fun h400 x402 F401 M405  => ?_)
  have A403 := lJ_Y (lJ_S A394) F401 M405
  refine gw_op rfl ?_
  refine z_go ?_
  refine gw_skip _ ?_
  refine z_inc rfl (by rw [show (6 : Int32).toInt = 6 from rfl]; omega) (fun x406 ex406 => ?_)
  rw [show (6 : Int32).toInt = 6 from rfl] at ex406
  show ez_gw _ _ _ _ _ _ _ _ [some (.retAddr 0), some (.ref 1), some (.ref 71), some (.ref 126), some (.int x406), l5, l6] _ _ _
  refine z_go ?_
  exact ih h400 x406 (c + 1) (l5) (l6) A403.1 A403.2.1 (lw_cn hc A403) (by omega) (by omega)
set_option maxRecDepth 4000 in
theorem lw_cD {L : Nat} {xs : Nat → Int32} (hL : L ≤ 3072) {N : Nat} (ih : ∀ (h : ez_H) (i : Int32) (c : Nat) (l5 l6 : Option Value), xI h → (mI h ∧ wV h) → (ez_n h ≤ 126 + c ∧ ez_u h ≤ 522573 + 6 * c) → (i.toInt = 6 * c ∧ c ≤ 600) → 4000 - i.toInt < (N : Int) → pw (tz_E L xs) 10 149 23 [some (.retAddr 0), some (.ref 1), some (.ref 71), some (.ref 126), some (.int i), l5, l6] [] h lw_Qq) (h : ez_H) (i : Int32) (c : Nat) (l5 l6 : Option Value) (X : xI h) (M : mI h ∧ wV h) (hc : ez_n h ≤ 126 + c ∧ ez_u h ≤ 522573 + 6 * c) (hi : (i.toInt = 6 * c ∧ c ≤ 600) ∧ i.toInt + 6 ≤ L) (hm : 4000 - i.toInt < ((N + 1 : Nat) : Int)) : ez_gw (ez_Wp (tz_E L xs) tz_ml tz_hn tz_co) (tz_E L xs) tz_ml (tz_hn 149) 149 10 (ev_skip 40 cz_149).tail 675 [some (.retAddr 0), some (.ref 1), some (.ref 71), some (.ref 126), some (.int i), l5, l6] [] h lw_Qq := by
  have hE : zE (tz_E L xs) := fun j => rfl
  have gi := z_rng i
  refine gw_skip _ ?_
  refine z_inc rfl (by rw [show (6 : Int32).toInt = 6 from rfl]; omega) (fun x407 ex407 => ?_)
  rw [show (6 : Int32).toInt = 6 from rfl] at ex407
  show ez_gw _ _ _ _ _ _ _ _ [some (.retAddr 0), some (.ref 1), some (.ref 71), some (.ref 126), some (.int x407), l5, l6] _ _ _
  refine z_go ?_
  exact ih h x407 (c + 1) (l5) (l6) X M (lw_cn hc (lJ_S (lS_r X M))) (by omega) (by omega)
set_option maxRecDepth 8000 in
theorem lw_loop {L : Nat} {xs : Nat → Int32} (hL : L ≤ 3072) : ∀ N : Nat, ∀ (h : ez_H) (i : Int32) (c : Nat) (l5 l6 : Option Value), xI h → (mI h ∧ wV h) → (ez_n h ≤ 126 + c ∧ ez_u h ≤ 522573 + 6 * c) → (i.toInt = 6 * c ∧ c ≤ 600) → 4000 - i.toInt < (N : Int) → pw (tz_E L xs) 10 149 23 [some (.retAddr 0), some (.ref 1), some (.ref 71), some (.ref 126), some (.int i), l5, l6] [] h lw_Qq := by
  intro N
  induction N with
  | zero => exact fun h i c l5 l6 X M hc hi hm => absurd hm (by omega)
  | succ N ih =>
    intro h i c l5 l6 X M hc hi hm
    apply ez_Wp_in
    show ez_gw _ _ _ _ _ _ (cz_149) _ _ _ _ _
    refine gw_skip _ ?_
    have gi := z_rng i
    refine gw_ld rfl rfl ?_
    refine gw_ld rfl rfl ?_
    refine z_alE (n := L) rfl (by omega) (fun x1 ex1 => ?_)
    refine z_C (m := 6) rfl rfl (fun x2 ex2 => ?_)
    refine z_sub (by omega) (fun x3 ex3 => ?_)
    refine z_b2 (fun c4 => ?_) (fun c4 => ?_)
    · refine gw_skip _ ?_
      refine z_C (m := 1) rfl rfl (fun x5 ex5 => ?_)
      refine z_rz (by omega) ?_
      exact congrArg (fun q => Sum.inl (some (Value.int q))) (z_inj ex5)
    · have c4 : ¬ (x3.toInt < i.toInt) := c4
      have hi2 : (i.toInt = 6 * c ∧ c ≤ 600) ∧ i.toInt + 6 ≤ L := ⟨hi, by omega⟩
      refine gw_ld rfl rfl ?_
      refine gw_ld rfl rfl ?_
      refine z_iaE (n := L) (f := xs) rfl (by omega) ?_
      refine z_C (m := 31) rfl rfl (fun x6 ex6 => ?_)
      refine z_and (fun x7 ex7 ux7 wx7 => ?_)
      refine gw_jp rfl rfl rfl rfl rfl rfl rfl ?_
      refine ⟨fun _ => lw_c0 hL ih h i c l5 l6 X M hc hi2 hm, fun _ => ?_⟩
      refine ⟨fun _ => lw_c1 hL ih h i c l5 l6 X M hc hi2 hm, fun _ => ?_⟩
      refine ⟨fun _ => lw_c2 hL ih h i c l5 l6 X M hc hi2 hm, fun _ => ?_⟩
      refine ⟨fun _ => lw_c3 hL ih h i c l5 l6 X M hc hi2 hm, fun _ => ?_⟩
      refine ⟨fun _ => lw_c4 hL ih h i c l5 l6 X M hc hi2 hm, fun _ => ?_⟩
      refine ⟨fun _ => lw_c5 hL ih h i c l5 l6 X M hc hi2 hm, fun _ => ?_⟩
      refine ⟨fun _ => lw_c6 hL ih h i c l5 l6 X M hc hi2 hm, fun _ => ?_⟩
      refine ⟨fun _ => lw_c7 hL ih h i c l5 l6 X M hc hi2 hm, fun _ => ?_⟩
      refine ⟨fun _ => lw_c8 hL ih h i c l5 l6 X M hc hi2 hm, fun _ => ?_⟩
      refine ⟨fun _ => lw_c9 hL ih h i c l5 l6 X M hc hi2 hm, fun _ => ?_⟩
      refine ⟨fun _ => lw_c10 hL ih h i c l5 l6 X M hc hi2 hm, fun _ => ?_⟩
      refine ⟨fun _ => lw_c11 hL ih h i c l5 l6 X M hc hi2 hm, fun _ => ?_⟩
      refine ⟨fun _ => lw_c12 hL ih h i c l5 l6 X M hc hi2 hm, fun _ => ?_⟩
      refine ⟨fun _ => lw_c13 hL ih h i c l5 l6 X M hc hi2 hm, fun _ => ?_⟩
      refine ⟨fun _ => lw_c14 hL ih h i c l5 l6 X M hc hi2 hm, fun _ => ?_⟩
      refine ⟨fun _ => lw_c15 hL ih h i c l5 l6 X M hc hi2 hm, fun _ => ?_⟩
      refine ⟨fun _ => lw_c16 hL ih h i c l5 l6 X M hc hi2 hm, fun _ => ?_⟩
      refine ⟨fun _ => lw_c17 hL ih h i c l5 l6 X M hc hi2 hm, fun _ => ?_⟩
      refine ⟨fun _ => lw_c18 hL ih h i c l5 l6 X M hc hi2 hm, fun _ => ?_⟩
      exact lw_cD hL ih h i c l5 l6 X M hc hi2 hm
theorem lw_law {L : Nat} {xs : Nat → Int32} (hL : L ≤ 3072) : tz_Law L xs := by
  refine lw_upto (fun h hr => ?_)
  have e1 := hr.1
  have e2 := hr.2.1
  have K := lw_loop (xs := xs) hL 5000 h 0 0 none none (g3_xI hr) ⟨g3_mI hr, g3_wV hr⟩ ⟨by rw [e1]; exact Nat.le_refl _, by rw [e2]; exact Nat.le_refl _⟩ ⟨rfl, by omega⟩ (by decide)
  exact ez_Wp_out K
