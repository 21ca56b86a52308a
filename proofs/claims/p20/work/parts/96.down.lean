section
/-! counting down, and the maker as a whole -/
theorem z_and511 {x y z : Int32} (hx : 0 ≤ x.toInt) (hy : y.toInt = 511) (hz : z = x &&& y) : z.toInt = x.toInt % 512 := by
  have ey : y = 511 := z_inj hy
  subst ey
  have h1 := z_u hx
  have h2 : ev_u z = ev_u x % 512 := by
    rw [hz, ef_and_ok]
    show ev_u x &&& (2 ^ 9 - 1) = _
    rw [Nat.and_two_pow_sub_one_eq_mod]
  have := z_of_u (x := z) (by omega)
  omega
theorem z_bit {x r o a z : Int32} {t : Nat} (hx : ev_u x < 2147483648) (hr : r.toInt = t) (ht : t < 16) (ho : o.toInt = 1) (ha : a = x >>> (r &&& 31)) (hz : z = a &&& o) : (z.toInt = 1 ∧ (ev_u x).testBit t = true) ∨ (z.toInt = 0 ∧ ¬ (ev_u x).testBit t = true) := by
  have eo : o = 1 := z_inj ho
  subst eo
  have hx0 := z_of_u hx
  have h1 : a.toInt = x.toInt / 2 ^ t := by rw [ha]; exact z_shr hr (by omega)
  have hp : (2 : Int) ^ t = ((2 ^ t : Nat) : Int) := by rw [Int.natCast_pow]; rfl
  have h0 : a.toInt = ((ev_u x / 2 ^ t : Nat) : Int) := by rw [h1, hx0, hp, Int.natCast_ediv]
  have h2 := z_u (x := a) (by rw [h0]; exact Int.natCast_nonneg _)
  have h3 : ev_u a = ev_u x / 2 ^ t := by exact_mod_cast h2.trans h0
  have h4 : ev_u z = ev_u x / 2 ^ t % 2 := by
    rw [hz, ef_and_ok]
    show ev_u a &&& 1 = _
    rw [Nat.and_one_is_mod, h3]
  have h6 : (ev_u x).testBit t = decide (ev_u x / 2 ^ t % 2 = 1) := Nat.testBit_eq_decide_div_mod_eq
  clear h0 h1 h3 h2
  generalize ev_u x / 2 ^ t = q at *
  have h5 := z_of_u (x := z) (by omega)
  by_cases c : q % 2 = 1
  · refine .inl ⟨by omega, ?_⟩
    rw [h6]; exact decide_eq_true c
  · refine .inr ⟨by omega, ?_⟩
    rw [h6]
    intro w
    exact c (of_decide_eq_true w)
noncomputable def kS (K : Nat → Int32) (j : Nat) : Int := (K j).toInt % 512
def syK (K : Nat → Int32) (n al : Nat) : Prop := ∀ j, j < n → (0 ≤ (K j).toInt ∧ kS K j < al) ∧ ∀ i, i < n → i ≠ j → kS K j ≠ kS K i
def cdI (R K : Nat → Int32) (n al : Nat) (c : Nat → Int) : Prop := (∀ j, j < n → (R (kS K j).toNat).toInt = c j) ∧ ∀ s : Nat, s < al → (∀ j, j < n → kS K j ≠ s) → (R s).toInt = 0
theorem cdI_c {R K : Nat → Int32} {n al : Nat} {c c' : Nat → Int} (A : cdI R K n al c) (h : ∀ j, j < n → c j = c' j) : cdI R K n al c' := ⟨fun j hj => (A.1 j hj).trans (h j hj), A.2⟩
theorem cdI_0 {R K : Nat → Int32} {n al : Nat} {c : Nat → Int} (Z : aR R al 0 0) (S : syK K n al) (h : ∀ j, j < n → c j = 0) : cdI R K n al c := ⟨fun j hj => by
  have a := (S j hj).1
  have b : 0 ≤ kS K j := by unfold kS; omega
  have := Z (kS K j).toNat (by omega)
  rw [h j hj]; omega, fun s hs _ => by have := Z s hs; omega⟩
theorem cdI_s {R R' K : Nat → Int32} {n al k : Nat} {c c' : Nat → Int} (A : cdI R K n al c) (S : syK K n al) (U : upd1 R R' (kS K k).toNat) (hk : k < n) (h : ∀ j, j < n → c' j = c j + unit1 k j) : cdI R' K n al c' := by
  have b : ∀ j, 0 ≤ kS K j := fun j => by unfold kS; omega
  refine ⟨fun j hj => ?_, fun s hs hne => ?_⟩
  · by_cases e : j = k
    · subst e
      rw [U.1, A.1 j hj, h j hj]
      unfold unit1
      simp only [↓reduceIte]
    · have d := (S j hj).2 k hk (fun q => e q.symm)
      have b1 := b j
      have b2 := b k
      rw [U.2 _ (by omega), A.1 j hj, h j hj]
      unfold unit1
      simp only [e, ↓reduceIte]
      omega
  · have d := hne k hk
    have b2 := b k
    rw [U.2 _ (by omega)]
    exact A.2 s hs hne
noncomputable def FFz (W : Nat → Int) (n : Nat) : Nat → Nat → Nat → Int
  | 0 => fun _ _ => 0
  | t + 1 => FF W n t
theorem FFz_s {W : Nat → Int} {n q tk tk' sy j : Nat} (hs : sy = cS W n q tk) (ht : tk' = 2 * (tk - sy)) : FFz W n (q + 1) tk j = lt1 sy j + FFz W n q tk' j := by
  subst hs; subst ht
  cases q with
  | zero =>
    show lt1 (tk : Int) j = lt1 ((cS W n 0 tk : Nat) : Int) j + 0
    show lt1 (tk : Int) j = lt1 (tk : Int) j + 0
    omega
  | succ t => rfl
theorem FFz_bd (W : Nat → Int) (n j : Nat) (q k : Nat) (hq : q ≤ 15) : 0 ≤ FFz W n q k j ∧ FFz W n q k j ≤ 15 := by
  cases q with
  | zero => exact ⟨Int.le_refl _, by show (0 : Int) ≤ 15; decide⟩
  | succ t =>
    have := FF_bd W n j t k
    show 0 ≤ FF W n t k j ∧ FF W n t k j ≤ 15
    omega
theorem cS_lt {W : Nat → Int} {n q i : Nat} (h : sgB W n q i) (hi : i < rz n q) : cS W n q i < n := by
  cases q with
  | zero => exact hi
  | succ t => exact h.1
theorem cS_rz {W : Nat → Int} {n q tk : Nat} (h : tk ≤ rz n (q + 1)) : 2 * (tk - cS W n (q + 1) tk) ≤ rz n q := xs1_p tk h
theorem cS_le {W : Nat → Int} {n q k : Nat} : cS W n q k ≤ k := by
  cases q with
  | zero => exact Nat.le_refl _
  | succ t => exact (xs1_le k).1
/-- every key is a symbol's -/
theorem cnU_ex {U : Nat → Int32} {x : Int} : ∀ s, 0 < cnU U x s → ∃ a, a < s ∧ 0 < (U a).toInt ∧ kyU U a = x
  | 0, h => by have : cnU U x 0 = 0 := rfl; omega
  | s + 1, h => by
    by_cases c : 0 < (U s).toInt ∧ kyU U s = x
    · exact ⟨s, by omega, c.1, c.2⟩
    · have e : cnU U x (s + 1) = cnU U x s := by
        show cnU U x s + (if 0 < (U s).toInt ∧ kyU U s = x then 1 else 0) = _
        simp only [c, ↓reduceIte]; rfl
      obtain ⟨a, h1, h2⟩ := cnU_ex (U := U) (x := x) s (by omega)
      exact ⟨a, by omega, h2⟩
theorem cnU_one {U : Nat → Int32} {x : Int} : ∀ s, s ≤ 512 → (∀ a, a < s → 0 ≤ (U a).toInt) → cnU U x s ≤ 1
  | 0, _, _ => by show 0 ≤ 1; decide
  | s + 1, hs, hU => by
    have ih := cnU_one (U := U) (x := x) s (by omega) (fun a ha => hU a (by omega))
    show cnU U x s + (if 0 < (U s).toInt ∧ kyU U s = x then 1 else 0) ≤ 1
    by_cases c : 0 < (U s).toInt ∧ kyU U s = x
    · simp only [c, ↓reduceIte]
      have z : cnU U x s = 0 := by
        by_cases d : 0 < cnU U x s
        · obtain ⟨a, h1, h2, h3⟩ := cnU_ex s d
          have := c.2
          unfold kyU at h3 this
          omega
        · omega
      simp only [true_and, and_self, ↓reduceIte]
      omega
    · simp only [c, ↓reduceIte]; exact ih
theorem cnZ_pos {f : Nat → Int} {n j : Nat} (hj : j < n) : 0 < cnZ f (f j) n := by
  induction n with
  | zero => omega
  | succ n ih =>
    by_cases e : j = n
    · subst e; rw [cnZ_y rfl]; omega
    · have := ih (by omega)
      show 0 < cnZ f (f j) n + _
      omega
theorem cnZ_two {f : Nat → Int} {n i j : Nat} (hi : i < n) (hj : j < n) (hne : i ≠ j) (he : f i = f j) : 2 ≤ cnZ f (f j) n := by
  induction n with
  | zero => omega
  | succ n ih =>
    by_cases c : j = n
    · subst c
      rw [cnZ_y rfl]
      have := cnZ_pos (f := f) (n := j) (j := i) (by omega)
      rw [he] at this
      omega
    · by_cases d : i = n
      · subst d
        rw [cnZ_y he]
        have := cnZ_pos (f := f) (n := i) (j := j) (by omega)
        omega
      · have := ih (by omega) (by omega)
        show 2 ≤ cnZ f (f j) n + _
        omega
theorem cK_mem {U K : Nat → Int32} {n al j : Nat} (A : cK U K n al) (hj : j < n) : ∃ s, s < al ∧ 0 < (U s).toInt ∧ (K j).toInt = kyU U s := by
  have h := cnZ_pos (f := kfn K) hj
  rw [A.2] at h
  obtain ⟨s, h1, h2, h3⟩ := cnU_ex al h
  exact ⟨s, h1, h2, h3.symm⟩
theorem cK_sy {U K : Nat → Int32} {n al : Nat} (A : cK U K n al) (hal : al ≤ 512) (hU : ∀ a, a < al → 0 ≤ (U a).toInt) : syK K n al := fun j hj => by
  obtain ⟨s, h1, h2, h3⟩ := cK_mem A hj
  refine ⟨?_, fun i hi hne e => ?_⟩
  · unfold kS
    rw [h3]
    unfold kyU
    omega
  · obtain ⟨s', g1, g2, g3⟩ := cK_mem A hi
    have es : s = s' := by
      unfold kS at e
      rw [h3, g3] at e
      unfold kyU at e
      omega
    subst es
    have t := cnZ_two (f := kfn K) hi hj hne (show (K i).toInt = (K j).toInt by rw [h3, g3])
    have o := cnU_one (U := U) (x := kfn K j) al hal hU
    rw [A.2] at t
    omega
theorem cK_kw {U K : Nat → Int32} {n al : Nat} {mx : Int} (A : cK U K n al) (hal : al ≤ 512) (hU : aR U al 0 mx) : ∀ j, j < n → (0 ≤ (K j).toInt / 512 ∧ (K j).toInt / 512 ≤ mx) ∧ 0 ≤ (K j).toInt := fun j hj => by
  obtain ⟨s, h1, h2, h3⟩ := cK_mem A hj
  have := hU s h1
  rw [h3]
  unfold kyU
  omega
theorem poC_le (U : Nat → Int32) : ∀ s, poC U s ≤ s
  | 0 => Nat.le_refl _
  | s + 1 => by
    have := poC_le U s
    show poC U s + (if 0 < (U s).toInt then 1 else 0) ≤ s + 1
    split <;> omega
noncomputable def WK (K : Nat → Int32) (n : Nat) : Nat → Int := cut1 n (fun i => kfn K i / 512)
theorem WK_kw {K : Nat → Int32} {n : Nat} (h : ∀ j, j < n → 0 ≤ (K j).toInt) : kwI (WK K n) K n := fun i hi => ⟨cut1_e hi, h i hi⟩
theorem WK_b {U K : Nat → Int32} {n al : Nat} {mx : Int} (A : cK U K n al) (hal : al ≤ 512) (hU : aR U al 0 mx) (hn : n ≤ al) (hm : 0 ≤ mx) (hB : (al : Int) * mx ≤ 100000000) : (∀ j, j < n → 0 ≤ WK K n j) ∧ sm (WK K n) n ≤ 100000000 := by
  have r : ∀ j, j < n → 0 ≤ WK K n j ∧ WK K n j ≤ mx := fun j hj => by
    have := (cK_kw A hal hU j hj).1
    rw [show WK K n j = kfn K j / 512 from cut1_e hj]
    exact this
  refine ⟨fun j hj => (r j hj).1, ?_⟩
  have h1 : sm (WK K n) n ≤ sm (fun _ => mx) n := sm_le (fun k hk => (r k hk).2)
  rw [sm_const] at h1
  have h2 : mx * (n : Int) ≤ mx * al := Int.mul_le_mul_of_nonneg_left (by omega) hm
  rw [Int.mul_comm mx al] at h2
  omega
theorem cK_cS {U K K' : Nat → Int32} {n al : Nat} (A : cK U K n al) (B : cS2 (kfn K') (kfn K) n) : cK U K' n al := ⟨A.1, fun x => by rw [B x]; exact A.2 x⟩
/-- the lengths are those -/
theorem lnP_K {U K R : Nat → Int32} {n al li : Nat} (A : cK U K n al) (S : n ≠ 0 → soS (kfn K) n) (C : cdI R K n al (fun j => if n = 1 then 1 else FF (WK K n) n (li - 1) (2 * n - 2) j)) : lnP U R al li := by
  refine ⟨n, kfn K, A.1, fun i hi => S (by omega) i hi, A.2, fun j hj => ?_, fun s hs hne => C.2 s hs hne⟩
  exact C.1 j hj
theorem cS_rz2 {W : Nat → Int} {n q tk : Nat} (hq : 1 ≤ q) (h : tk ≤ rz n q) : 2 * (tk - cS W n q tk) ≤ rz n (q - 1) := by
  obtain ⟨t, rfl⟩ : ∃ t, q = t + 1 := ⟨q - 1, by omega⟩
  exact cS_rz h
/-! PRINTED by wip/p18/con21.py: the class's maker of lengths: counting down -/
set_option maxRecDepth 4000 in
set_option maxHeartbeats 20000000 in
theorem f_lengthen {E : Nat → Nat × (Nat → Int32)} {d : Nat} {Q : ez_Q} {h : ez_H} {w : Nat} {k : Int32} (S : zSh h) {nw : Nat} (hw : zA w nw) (hd : w ≠ 10 ∧ w ≠ 13) (hk : 0 ≤ k.toInt ∧ k.toInt < 288 ∧ nw ≤ 1000) (hK : 0 ≤ (ez_I h 10 k.toInt.toNat).toInt ∧ kS (ez_I h 10) k.toInt.toNat < nw) (hR : -1000 ≤ (ez_I h w (kS (ez_I h 10) k.toInt.toNat).toNat).toInt ∧ (ez_I h w (kS (ez_I h 10) k.toInt.toNat).toNat).toInt ≤ 1000) (K : ∀ h2, zK (fun q => q = w) (fun _ => False) h h2 → upd1 (ez_I h w) (ez_I h2 w) (kS (ez_I h 10) k.toInt.toNat).toNat → Q (.inl none) h2) : pw E d 107 0 [some (.ref 9), some (.ref w), some (.int k), none] [] h Q := by
  have gk := z_rng k
  have F := zK_refl (fun q => q = w) (fun _ => False) h
  apply ez_Wp_in
  show ez_gw _ _ _ _ _ _ (cz_107) _ _ _ _ _
  refine gw_skip _ ?_
  refine gw_ld rfl rfl ?_
  refine z_b1 (fun c1 => ?_) (fun c1 => ?_)
  · have c1 : k.toInt < 0 := c1
    refine gw_skip _ ?_
    refine z_C (m := -1) rfl rfl (fun x2 ex2 => ?_)
    refine gw_st rfl rfl rfl ?_
    show ez_gw _ _ _ _ _ _ _ _ [some (.ref 9), some (.ref w), some (.int k), some (.int x2)] _ _ _
    refine gw_ld rfl rfl ?_
    refine z_b1 (fun c3 => ?_) (fun c3 => ?_)
    · have c3 : x2.toInt < 0 := c3
      refine gw_skip _ ?_
      refine z_rv ?_
      exfalso; omega
    · have c3 : ¬ (x2.toInt < 0) := c3
      exfalso; omega
  · have c1 : ¬ (k.toInt < 0) := c1
    refine gw_ld rfl rfl ?_
    refine gw_ld rfl rfl ?_
    refine z_gR (q := 10) (zT S (by decide) rfl) (zRf S (by decide) (by decide) rfl) (by decide) ?_
    refine z_al (n := 288) (.inl (zT S (by decide) rfl)) (zN S (by decide) rfl) (by omega) (fun x4 ex4 => ?_)
    refine z_b2 (fun c5 => ?_) (fun c5 => ?_)
    · have c5 : x4.toInt ≤ k.toInt := c5
      refine gw_skip _ ?_
      refine z_C (m := -1) rfl rfl (fun x6 ex6 => ?_)
      refine gw_st rfl rfl rfl ?_
      show ez_gw _ _ _ _ _ _ _ _ [some (.ref 9), some (.ref w), some (.int k), some (.int x6)] _ _ _
      refine gw_ld rfl rfl ?_
      refine z_b1 (fun c7 => ?_) (fun c7 => ?_)
      · have c7 : x6.toInt < 0 := c7
        refine gw_skip _ ?_
        refine z_rv ?_
        exfalso; omega
      · have c7 : ¬ (x6.toInt < 0) := c7
        exfalso; omega
    · have c5 : ¬ (x4.toInt ≤ k.toInt) := c5
      refine gw_ld rfl rfl ?_
      refine z_gR (q := 10) (zT S (by decide) rfl) (zRf S (by decide) (by decide) rfl) (by decide) ?_
      refine gw_ld rfl rfl ?_
      refine z_iaV (n := 288) (zT S (by decide) rfl) (zN S (by decide) rfl) (by omega) (zK_a F (by omega)) ?_
      generalize ex8 : ez_I h 10 k.toInt.toNat = x8
      have rx8 := z_rng x8
      have ksx8 : kS (ez_I h 10) k.toInt.toNat = x8.toInt % 512 := by unfold kS; rw [ex8]
      rw [ksx8] at hK hR
      rw [ex8] at hK
      refine z_C (m := 511) rfl rfl (fun x9 ex9 => ?_)
      refine z_and (fun x10 ex10 ux10 wx10 => ?_)
      have rx10 := z_rng x10
      replace ux10 := ux10 (by omega)
      clear wx10
      have ox10 := z_and511 (by omega) (by omega) ex10
      refine z_go ?_
      refine gw_skip _ ?_
      refine gw_st rfl rfl rfl ?_
      show ez_gw _ _ _ _ _ _ _ _ [some (.ref 9), some (.ref w), some (.int k), some (.int x10)] _ _ _
      refine gw_ld rfl rfl ?_
      refine z_b1 (fun c11 => ?_) (fun c11 => ?_)
      · have c11 : x10.toInt < 0 := c11
        refine gw_skip _ ?_
        refine z_rv ?_
        exfalso; omega
      · have c11 : ¬ (x10.toInt < 0) := c11
        refine gw_ld rfl rfl ?_
        refine gw_ld rfl rfl ?_
        refine z_al (n := nw) (.inl ((hw _ S).1)) ((hw _ S).2) (by omega) (fun x12 ex12 => ?_)
        refine z_b2 (fun c13 => ?_) (fun c13 => ?_)
        · have c13 : x12.toInt ≤ x10.toInt := c13
          refine gw_skip _ ?_
          refine z_rv ?_
          exfalso; omega
        · have c13 : ¬ (x12.toInt ≤ x10.toInt) := c13
          refine gw_ld rfl rfl ?_
          refine gw_ld rfl rfl ?_
          refine gw_op rfl ?_
          refine z_ia (n := nw) ((hw _ S).1) ((hw _ S).2) (by omega) ?_
          generalize ex14 : ez_I h w x10.toInt.toNat = x14
          have rx14 := z_rng x14
          rw [show (x8.toInt % 512).toNat = x10.toInt.toNat by omega, ex14] at hR
          refine z_C (m := 1) rfl rfl (fun x15 ex15 => ?_)
          refine z_add (by omega) (fun x16 ex16 => ?_)
          refine z_is (n := nw) ((hw _ S).1) ((hw _ S).2) (by omega) (fun h17 e18 => ?_)
          have S19 := zSh_set S e18
          have F20 := zK_set F e18 (by omega)
          have A21 : upd1 (ez_I h w) (ez_I h17 w) (kS (ez_I h 10) k.toInt.toNat).toNat := by rw [ksx8, show (x8.toInt % 512).toNat = x10.toInt.toNat by omega]; exact upd1_of e18 ex14 (by omega)
          refine z_rv ?_
          exact K _ F20 A21
set_option maxRecDepth 4000 in
set_option maxHeartbeats 20000000 in
theorem f_down_L0 {E : Nat → Nat × (Nat → Int32)} {d : Nat} {Q : ez_Q} {h : ez_H} {n : Int32} {li : Int32} {w : Nat} (S : zSh h) {W : Nat → Int} {al : Nat} {nw : Nat} (hw : zA w nw) (hd : w ≠ 10 ∧ w ≠ 13) (hn : 2 ≤ n.toInt ∧ n.toInt ≤ 288 ∧ al ≤ nw ∧ nw ≤ 1000) (hl : 1 ≤ li.toInt ∧ li.toInt ≤ 15) (hal : alB (ez_I h 13) W n.toInt.toNat li.toInt.toNat) (hrz : 2 * n.toInt.toNat - 2 ≤ rz n.toInt.toNat (li.toInt.toNat - 1)) (hS : syK (ez_I h 10) n.toInt.toNat al) (h0 : aR (ez_I h w) al 0 0) (K : ∀ h2, zK (fun q => q = w) (fun _ => False) h h2 → cdI (ez_I h2 w) (ez_I h 10) n.toInt.toNat al (fun j => FF W n.toInt.toNat (li.toInt.toNat - 1) (2 * n.toInt.toNat - 2) j) → Q (.inl none) h2) : ∀ N : Nat, (∀ (h2 : ez_H) (tk : Int32) (rd : Int32) (l6 : Option Value) (l7 : Option Value) , zK (fun q => q = w) (fun _ => False) h h2 → (-1 ≤ rd.toInt ∧ rd.toInt < li.toInt ∧ 0 ≤ tk.toInt ∧ tk.toInt ≤ 600 ∧ (0 ≤ rd.toInt → tk.toInt ≤ (rz n.toInt.toNat rd.toInt.toNat : Nat))) → cdI (ez_I h2 w) (ez_I h 10) n.toInt.toNat al (fun j => FF W n.toInt.toNat (li.toInt.toNat - 1) (2 * n.toInt.toNat - 2) j - FFz W n.toInt.toNat (rd.toInt + 1).toNat tk.toInt.toNat j) → (1000 * (rd.toInt + 1)) < (N : Int) → pw E (d + 1) 106 12 [some (.ref 9), some (.int n), some (.int li), some (.ref w), some (.int tk), some (.int rd), l6, l7] [] h2 Q) ∧ (∀ (h2 : ez_H) (tk : Int32) (rd : Int32) (sy : Int32) (i : Int32) , zK (fun q => q = w) (fun _ => False) h h2 → (0 ≤ rd.toInt ∧ rd.toInt < li.toInt ∧ 0 ≤ tk.toInt ∧ tk.toInt ≤ 600 ∧ tk.toInt ≤ (rz n.toInt.toNat rd.toInt.toNat : Nat) ∧ 0 ≤ i.toInt ∧ i.toInt ≤ tk.toInt ∧ sy.toInt = (cS W n.toInt.toNat rd.toInt.toNat i.toInt.toNat : Nat)) → cdI (ez_I h2 w) (ez_I h 10) n.toInt.toNat al (fun j => FF W n.toInt.toNat (li.toInt.toNat - 1) (2 * n.toInt.toNat - 2) j - FFz W n.toInt.toNat (rd.toInt + 1).toNat tk.toInt.toNat j + lt1 sy.toInt j) → (1000 * (rd.toInt + 1) - 900 + (800 - i.toInt)) < (N : Int) → pw E (d + 1) 106 23 [some (.ref 9), some (.int n), some (.int li), some (.ref w), some (.int tk), some (.int rd), some (.int sy), some (.int i)] [] h2 Q) := by
  intro N
  induction N with
  | zero => exact ⟨fun h2 tk rd l6 l7  F hinv A_cd hm => absurd hm (by have w_tk := z_rng tk; have w_rd := z_rng rd; have gn := z_rng n; have gli := z_rng li; omega), fun h2 tk rd sy i  F hinv A_ci hm => absurd hm (by have w_tk := z_rng tk; have w_rd := z_rng rd; have w_sy := z_rng sy; have w_i := z_rng i; have gn := z_rng n; have gli := z_rng li; omega)⟩
  | succ N ih =>
    refine ⟨fun h2 tk rd l6 l7  F hinv A_cd hm => ?_, fun h2 tk rd sy i  F hinv A_ci hm => ?_⟩
    · skip
      have w_tk := z_rng tk
      have w_rd := z_rng rd
      have gn := z_rng n
      have gli := z_rng li
      have S2 := zK_sh F S
      apply ez_Wp_in
      show ez_gw _ _ _ _ _ _ (cz_106) _ _ _ _ _
      refine gw_skip _ ?_
      refine gw_ld rfl rfl ?_
      refine z_b1 (fun c1 => ?_) (fun c1 => ?_)
      · have c1 : rd.toInt < 0 := c1
        refine gw_skip _ ?_
        refine z_rv ?_
        exact K _ F (cdI_c A_cd (fun j _ => by rw [show (rd.toInt + 1).toNat = 0 by omega]; exact Int.sub_zero _))
      · have c1 : ¬ (rd.toInt < 0) := c1
        refine z_C (m := 0) rfl rfl (fun x2 ex2 => ?_)
        refine gw_st rfl rfl rfl ?_
        show ez_gw _ _ _ _ _ _ _ _ [some (.ref 9), some (.int n), some (.int li), some (.ref w), some (.int tk), some (.int rd), some (.int x2), l7] _ _ _
        refine z_C (m := 0) rfl rfl (fun x3 ex3 => ?_)
        refine gw_st rfl rfl rfl ?_
        show ez_gw _ _ _ _ _ _ _ _ [some (.ref 9), some (.int n), some (.int li), some (.ref w), some (.int tk), some (.int rd), some (.int x2), some (.int x3)] _ _ _
        exact ez_Wp_at (ih.2 h2 tk rd x2 x3 F (by rw [show x3.toInt.toNat = 0 by omega]; have hc0 : cS W n.toInt.toNat rd.toInt.toNat 0 = 0 := Nat.le_antisymm cS_le (Nat.zero_le _); omega) (cdI_c A_cd (fun j _ => by show _ = _ + lt1 x2.toInt j; have : lt1 x2.toInt j = 0 := if_neg (by omega); omega)) (by omega)) rfl
    · skip
      have w_tk := z_rng tk
      have w_rd := z_rng rd
      have w_sy := z_rng sy
      have w_i := z_rng i
      have gn := z_rng n
      have gli := z_rng li
      have S2 := zK_sh F S
      have hcl := cS_le (W := W) (n := n.toInt.toNat) (q := rd.toInt.toNat) (k := i.toInt.toNat)
      have hrl := (rz_le n.toInt.toNat rd.toInt.toNat).2 (by omega)
      have hab : i.toInt < tk.toInt → _ := fun q => hal i.toInt.toNat (by omega)
      apply ez_Wp_in
      show ez_gw _ _ _ _ _ _ (cz_106) _ _ _ _ _
      refine gw_skip _ ?_
      refine gw_ld rfl rfl ?_
      refine gw_ld rfl rfl ?_
      refine z_b2 (fun c4 => ?_) (fun c4 => ?_)
      · have c4 : tk.toInt ≤ i.toInt := c4
        refine gw_skip _ ?_
        refine z_C (m := 2) rfl rfl (fun x5 ex5 => ?_)
        refine gw_ld rfl rfl ?_
        refine gw_ld rfl rfl ?_
        refine z_sub (by omega) (fun x6 ex6 => ?_)
        refine z_mulL (c := 2) ex5 (by omega) (fun x7 ex7 => ?_)
        refine gw_st rfl rfl rfl ?_
        show ez_gw _ _ _ _ _ _ _ _ [some (.ref 9), some (.int n), some (.int li), some (.ref w), some (.int x7), some (.int rd), some (.int sy), some (.int i)] _ _ _
        refine z_inc rfl (by rw [show ((-1) : Int32).toInt = (-1) from rfl]; omega) (fun x8 ex8 => ?_)
        rw [show ((-1) : Int32).toInt = (-1) from rfl] at ex8
        show ez_gw _ _ _ _ _ _ _ _ [some (.ref 9), some (.int n), some (.int li), some (.ref w), some (.int x7), some (.int x8), some (.int sy), some (.int i)] _ _ _
        refine z_go ?_
        exact ih.1 h2 x7 x8 (some (.int sy)) (some (.int i)) F (by have hcr : 1 ≤ rd.toInt.toNat → _ := fun q => cS_rz2 (W := W) (n := n.toInt.toNat) (tk := tk.toInt.toNat) q (by omega); have hc0 : rd.toInt.toNat = 0 → cS W n.toInt.toNat rd.toInt.toNat tk.toInt.toNat = tk.toInt.toNat := fun q => (by rw [q]; rfl); have hrl2 := (rz_le n.toInt.toNat (rd.toInt.toNat - 1)).2 (by omega); rw [show i.toInt.toNat = tk.toInt.toNat by omega] at hinv hcl; refine ⟨by omega, by omega, by omega, by omega, fun q => ?_⟩; rw [show x8.toInt.toNat = rd.toInt.toNat - 1 by omega]; have := hcr (by omega); omega) (cdI_c A_ci (fun j _ => by have e := FFz_s (W := W) (n := n.toInt.toNat) (q := rd.toInt.toNat) (tk := tk.toInt.toNat) (tk' := x7.toInt.toNat) (sy := sy.toInt.toNat) (j := j) (by rw [show tk.toInt.toNat = i.toInt.toNat by omega]; omega) (by omega); rw [show (x8.toInt + 1).toNat = rd.toInt.toNat by omega]; rw [show rd.toInt.toNat + 1 = (rd.toInt + 1).toNat by omega, show ((sy.toInt.toNat : Nat) : Int) = sy.toInt by omega] at e; omega)) (by omega)
      · have c4 : ¬ (tk.toInt ≤ i.toInt) := c4
        refine gw_ld rfl rfl ?_
        refine gw_ld rfl rfl ?_
        refine z_gR (q := 13) (zT S2 (by decide) rfl) (zRf S2 (by decide) (by decide) rfl) (by decide) ?_
        refine z_al (n := 576) (.inl (zT S2 (by decide) rfl)) (zN S2 (by decide) rfl) (by omega) (fun x9 ex9 => ?_)
        refine z_b2 (fun c10 => ?_) (fun c10 => ?_)
        · have c10 : x9.toInt ≤ i.toInt := c10
          refine gw_skip _ ?_
          refine z_C (m := 2) rfl rfl (fun x11 ex11 => ?_)
          refine gw_ld rfl rfl ?_
          refine gw_ld rfl rfl ?_
          refine z_sub (by omega) (fun x12 ex12 => ?_)
          refine z_mulL (c := 2) ex11 (by omega) (fun x13 ex13 => ?_)
          refine gw_st rfl rfl rfl ?_
          show ez_gw _ _ _ _ _ _ _ _ [some (.ref 9), some (.int n), some (.int li), some (.ref w), some (.int x13), some (.int rd), some (.int sy), some (.int i)] _ _ _
          refine z_inc rfl (by rw [show ((-1) : Int32).toInt = (-1) from rfl]; omega) (fun x14 ex14 => ?_)
          rw [show ((-1) : Int32).toInt = (-1) from rfl] at ex14
          show ez_gw _ _ _ _ _ _ _ _ [some (.ref 9), some (.int n), some (.int li), some (.ref w), some (.int x13), some (.int x14), some (.int sy), some (.int i)] _ _ _
          refine z_go ?_
          exact ih.1 h2 x13 x14 (some (.int sy)) (some (.int i)) F (by have hcr : 1 ≤ rd.toInt.toNat → _ := fun q => cS_rz2 (W := W) (n := n.toInt.toNat) (tk := tk.toInt.toNat) q (by omega); have hc0 : rd.toInt.toNat = 0 → cS W n.toInt.toNat rd.toInt.toNat tk.toInt.toNat = tk.toInt.toNat := fun q => (by rw [q]; rfl); have hrl2 := (rz_le n.toInt.toNat (rd.toInt.toNat - 1)).2 (by omega); rw [show i.toInt.toNat = tk.toInt.toNat by omega] at hinv hcl; refine ⟨by omega, by omega, by omega, by omega, fun q => ?_⟩; rw [show x14.toInt.toNat = rd.toInt.toNat - 1 by omega]; have := hcr (by omega); omega) (cdI_c A_ci (fun j _ => by have e := FFz_s (W := W) (n := n.toInt.toNat) (q := rd.toInt.toNat) (tk := tk.toInt.toNat) (tk' := x13.toInt.toNat) (sy := sy.toInt.toNat) (j := j) (by rw [show tk.toInt.toNat = i.toInt.toNat by omega]; omega) (by omega); rw [show (x14.toInt + 1).toNat = rd.toInt.toNat by omega]; rw [show rd.toInt.toNat + 1 = (rd.toInt + 1).toNat by omega, show ((sy.toInt.toNat : Nat) : Int) = sy.toInt by omega] at e; omega)) (by omega)
        · have c10 : ¬ (x9.toInt ≤ i.toInt) := c10
          refine gw_ld rfl rfl ?_
          refine z_gR (q := 13) (zT S2 (by decide) rfl) (zRf S2 (by decide) (by decide) rfl) (by decide) ?_
          refine gw_ld rfl rfl ?_
          refine z_iaV (n := 576) (zT S2 (by decide) rfl) (zN S2 (by decide) rfl) (by omega) (zK_a F (by omega)) ?_
          generalize ex15 : ez_I h 13 i.toInt.toNat = x15
          have rx15 := z_rng x15
          have hb := hab (by omega)
          rw [ex15] at hb
          have hb1 : ev_u x15 < 2147483648 := Nat.lt_of_lt_of_le hb.1 (Nat.le_trans (Nat.pow_le_pow_right (by decide) (show li.toInt.toNat ≤ 15 by omega)) (by decide))
          have hb2 := hb.2 rd.toInt.toNat (by omega)
          refine gw_ld rfl rfl ?_
          refine z_2 rfl (fun x16 ex16 => ?_)
          have rx16 := z_rng x16
          have eA := ex16
          refine z_C (m := 1) rfl rfl (fun x17 ex17 => ?_)
          refine z_and (fun x18 ex18 ux18 wx18 => ?_)
          have rx18 := z_rng x18
          replace ux18 := ux18 (by omega)
          clear wx18
          have ox18 := z_bit hb1 (t := rd.toInt.toNat) (by omega) (by omega) (by omega) eA ex18
          refine z_C (m := 1) rfl rfl (fun x19 ex19 => ?_)
          refine z_b2 (fun c20 => ?_) (fun c20 => ?_)
          · have c20 : x18.toInt ≠ x19.toInt := c20
            refine gw_skip _ ?_
            have hsb : ¬ sgB W n.toInt.toNat rd.toInt.toNat i.toInt.toNat := fun c => by rcases ox18 with q | q; omega; exact q.2 (hb2.mpr ⟨by omega, c⟩)
            have hcy := cS_n hsb
            refine z_inc rfl (by rw [show (1 : Int32).toInt = 1 from rfl]; omega) (fun x21 ex21 => ?_)
            rw [show (1 : Int32).toInt = 1 from rfl] at ex21
            show ez_gw _ _ _ _ _ _ _ _ [some (.ref 9), some (.int n), some (.int li), some (.ref w), some (.int tk), some (.int rd), some (.int sy), some (.int x21)] _ _ _
            refine z_go ?_
            exact ih.2 h2 tk rd sy x21 F (by rw [show x21.toInt.toNat = i.toInt.toNat + 1 by omega]; omega) (A_ci) (by omega)
          · have c20 : ¬ (x18.toInt ≠ x19.toInt) := c20
            have hsb : sgB W n.toInt.toNat rd.toInt.toNat i.toInt.toNat := (hb2.mp (by rcases ox18 with q | q; exact q.2; exfalso; omega)).2
            have hcy := cS_y hsb
            have hcn := cS_lt hsb (by omega)
            refine gw_ld rfl rfl ?_
            refine gw_ld rfl rfl ?_
            refine gw_ld rfl rfl ?_
            refine z_cl rfl rfl rfl rfl rfl rfl rfl rfl rfl rfl rfl (zT S2 (by decide) rfl) ?_
            have hsy := hS sy.toInt.toNat (by omega)
            have hr0 : (ez_I h2 w (kS (ez_I h 10) sy.toInt.toNat).toNat).toInt = FF W n.toInt.toNat (li.toInt.toNat - 1) (2 * n.toInt.toNat - 2) sy.toInt.toNat - FFz W n.toInt.toNat (rd.toInt + 1).toNat tk.toInt.toNat sy.toInt.toNat + lt1 sy.toInt sy.toInt.toNat := A_ci.1 sy.toInt.toNat (by omega)
            have hg0 := FFz_bd W n.toInt.toNat sy.toInt.toNat (li.toInt.toNat - 1 + 1) (2 * n.toInt.toNat - 2) (by omega)
            have hg1 := FFz_bd W n.toInt.toNat sy.toInt.toNat (rd.toInt + 1).toNat tk.toInt.toNat (by omega)
            have hl1 : lt1 sy.toInt sy.toInt.toNat = 0 := if_neg (by omega)
            have hg2 : FFz W n.toInt.toNat (li.toInt.toNat - 1 + 1) (2 * n.toInt.toNat - 2) sy.toInt.toNat = FF W n.toInt.toNat (li.toInt.toNat - 1) (2 * n.toInt.toNat - 2) sy.toInt.toNat := rfl
            refine f_lengthen (w := w) (k := sy) S2 hw (by omega) (by omega) (by rw [zK_fn F 10 (by omega)]; exact ⟨hsy.1.1, by omega⟩) (by rw [zK_fn F 10 (by omega)]; omega) (fun h22 F23 k24 => ?_)
            rw [zK_fn F 10 (by omega)] at k24
            have S25 := zK_sh F23 S2
            have F26 := zK_tr F (zK_mono F23 (fun k hk => by first | omega | exact False.elim hk) (fun k hk => by first | omega | exact False.elim hk))
            have A27 : cdI (ez_I h22 w) (ez_I h 10) n.toInt.toNat al (fun j => FF W n.toInt.toNat (li.toInt.toNat - 1) (2 * n.toInt.toNat - 2) j - FFz W n.toInt.toNat (rd.toInt + 1).toNat tk.toInt.toNat j + lt1 (sy.toInt + 1) j) := cdI_s A_ci hS k24 (by omega) (fun j _ => by have := lt1_up sy.toInt.toNat j; rw [show ((sy.toInt.toNat : Nat) : Int) = sy.toInt by omega] at this; show _ = _ + lt1 sy.toInt j + unit1 sy.toInt.toNat j; omega)
            refine z_inc rfl (by rw [show (1 : Int32).toInt = 1 from rfl]; omega) (fun x28 ex28 => ?_)
            rw [show (1 : Int32).toInt = 1 from rfl] at ex28
            show ez_gw _ _ _ _ _ _ _ _ [some (.ref 9), some (.int n), some (.int li), some (.ref w), some (.int tk), some (.int rd), some (.int x28), some (.int i)] _ _ _
            refine z_inc rfl (by rw [show (1 : Int32).toInt = 1 from rfl]; omega) (fun x29 ex29 => ?_)
            rw [show (1 : Int32).toInt = 1 from rfl] at ex29
            show ez_gw _ _ _ _ _ _ _ _ [some (.ref 9), some (.int n), some (.int li), some (.ref w), some (.int tk), some (.int rd), some (.int x28), some (.int x29)] _ _ _
            refine z_go ?_
            exact ih.2 h22 tk rd x28 x29 F26 (by rw [show x29.toInt.toNat = i.toInt.toNat + 1 by omega]; omega) ((by rw [show x28.toInt = sy.toInt + 1 by omega]; exact A27)) (by omega)
set_option maxRecDepth 4000 in
set_option maxHeartbeats 20000000 in
theorem f_down {E : Nat → Nat × (Nat → Int32)} {d : Nat} {Q : ez_Q} {h : ez_H} {n : Int32} {li : Int32} {w : Nat} (S : zSh h) {W : Nat → Int} {al : Nat} {nw : Nat} (hw : zA w nw) (hd : w ≠ 10 ∧ w ≠ 13) (hn : 2 ≤ n.toInt ∧ n.toInt ≤ 288 ∧ al ≤ nw ∧ nw ≤ 1000) (hl : 1 ≤ li.toInt ∧ li.toInt ≤ 15) (hal : alB (ez_I h 13) W n.toInt.toNat li.toInt.toNat) (hrz : 2 * n.toInt.toNat - 2 ≤ rz n.toInt.toNat (li.toInt.toNat - 1)) (hS : syK (ez_I h 10) n.toInt.toNat al) (h0 : aR (ez_I h w) al 0 0) (K : ∀ h2, zK (fun q => q = w) (fun _ => False) h h2 → cdI (ez_I h2 w) (ez_I h 10) n.toInt.toNat al (fun j => FF W n.toInt.toNat (li.toInt.toNat - 1) (2 * n.toInt.toNat - 2) j) → Q (.inl none) h2) : pw E (d + 1) 106 0 [some (.ref 9), some (.int n), some (.int li), some (.ref w), none, none, none, none] [] h Q := by
  have gn := z_rng n
  have gli := z_rng li
  have F := zK_refl (fun q => q = w) (fun _ => False) h
  apply ez_Wp_in
  show ez_gw _ _ _ _ _ _ (cz_106) _ _ _ _ _
  refine gw_skip _ ?_
  refine z_C (m := 2) rfl rfl (fun x1 ex1 => ?_)
  refine gw_ld rfl rfl ?_
  refine z_mulL (c := 2) ex1 (by omega) (fun x2 ex2 => ?_)
  refine z_C (m := 2) rfl rfl (fun x3 ex3 => ?_)
  refine z_sub (by omega) (fun x4 ex4 => ?_)
  refine gw_st rfl rfl rfl ?_
  show ez_gw _ _ _ _ _ _ _ _ [some (.ref 9), some (.int n), some (.int li), some (.ref w), some (.int x4), none, none, none] _ _ _
  refine gw_ld rfl rfl ?_
  refine z_C (m := 1) rfl rfl (fun x5 ex5 => ?_)
  refine z_sub (by omega) (fun x6 ex6 => ?_)
  refine gw_st rfl rfl rfl ?_
  show ez_gw _ _ _ _ _ _ _ _ [some (.ref 9), some (.int n), some (.int li), some (.ref w), some (.int x4), some (.int x6), none, none] _ _ _
  exact ez_Wp_at ((f_down_L0 (n := n) (li := li) (w := w) S hw hd hn hl hal hrz hS h0 K (((1000 * (x6.toInt + 1))).toNat + 1)).1 h x4 x6 (none) (none) F (by rw [show x6.toInt.toNat = li.toInt.toNat - 1 by omega]; omega) (cdI_0 h0 hS (fun j _ => by rw [show (x6.toInt + 1).toNat = li.toInt.toNat - 1 + 1 by omega, show x4.toInt.toNat = 2 * n.toInt.toNat - 2 by omega]; exact Int.sub_self _)) (by omega)) rfl
end
section
theorem z_gap2 {n : Nat} (h : n < 6) : (1 ≤ ((tz_ar (5 + 1)).getD n 0).toInt ∧ ((tz_ar (5 + 1)).getD n 0).toInt ≤ 132) ∧ (n = 5 → ((tz_ar (5 + 1)).getD n 0).toInt = 1) := by
  revert n; decide
theorem aR_fill {R : Nat → Int32} {n m : Nat} {v : Int32} (h : ∀ k, k < n → R k = v) (hv : v.toInt = 0) (hm : m ≤ n) : aR R m 0 0 := fun k hk => by
  rw [h k (by omega), hv]; omega
/-! PRINTED by wip/p18/con22.py: the class's maker of lengths as a whole -/
set_option maxRecDepth 4000 in
set_option maxHeartbeats 20000000 in
theorem f_make_L0 {E : Nat → Nat × (Nat → Int32)} {d : Nat} {Q : ez_Q} {h : ez_H} {u : Nat} {al : Int32} {li : Int32} {w : Nat} (S : zSh h) {nu nw : Nat} {mx : Int} (hE : zE E) (hu : zA u nu) (hw : zA w nw) (hd : u ≠ 10 ∧ u ≠ 13 ∧ u ≠ w ∧ w ≠ 10 ∧ w ≠ 13) (hn : 1 ≤ al.toInt ∧ al.toInt ≤ nu ∧ al.toInt ≤ nw ∧ al.toInt ≤ 288 ∧ nu ≤ 1000 ∧ nw ≤ 1000) (hl : 1 ≤ li.toInt ∧ li.toInt ≤ 15) (hU : aR (ez_I h u) al.toInt.toNat 0 mx) (hmx : 0 ≤ mx ∧ mx ≤ 1000000) (hmB : (al.toInt.toNat : Int) * mx ≤ 100000000) (hP : (poC (ez_I h u) al.toInt.toNat : Int) ≤ 2 ^ li.toInt.toNat) (K : ∀ h2, zK (fun q => q = 10 ∨ q = 13 ∨ q = w) (fun k => k = 11 ∨ k = 12) h h2 → lnP (ez_I h u) (ez_I h2 w) al.toInt.toNat li.toInt.toNat → Q (.inl none) h2) : ∀ N : Nat, (∀ (h2 : ez_H) (cm : Int32) (ln : Int32) (i : Int32) (l9 : Option Value) , zK (fun q => q = 10 ∨ q = 13 ∨ q = w) (fun k => k = 11 ∨ k = 12) h h2 → (0 ≤ cm.toInt ∧ cm.toInt ≤ al.toInt ∧ ln.toInt = 6 ∧ 0 ≤ i.toInt ∧ i.toInt ≤ 6) → cK (ez_I h u) (ez_I h2 10) cm.toInt.toNat al.toInt.toNat → (i.toInt = 6 → soS (kfn (ez_I h2 10)) cm.toInt.toNat) → aR (ez_I h2 w) al.toInt.toNat 0 0 → (100 - i.toInt) < (N : Int) → pw E (d + 2) 101 33 [some (.ref 9), some (.ref u), some (.int al), some (.int li), some (.ref w), some (.int cm), some (.retAddr 6), some (.int ln), some (.int i), l9] [] h2 Q) := by
  intro N
  induction N with
  | zero => exact fun h2 cm ln i l9  F hinv A_ck A_so A_z0 hm => absurd hm (by have w_cm := z_rng cm; have w_ln := z_rng ln; have w_i := z_rng i; have gal := z_rng al; have gli := z_rng li; omega)
  | succ N ih =>
    refine fun h2 cm ln i l9  F hinv A_ck A_so A_z0 hm => ?_
    · skip
      have w_cm := z_rng cm
      have w_ln := z_rng ln
      have w_i := z_rng i
      have gal := z_rng al
      have gli := z_rng li
      have S2 := zK_sh F S
      apply ez_Wp_in
      show ez_gw _ _ _ _ _ _ (cz_101) _ _ _ _ _
      refine gw_skip _ ?_
      refine gw_ld rfl rfl ?_
      refine gw_ld rfl rfl ?_
      refine z_b2 (fun c1 => ?_) (fun c1 => ?_)
      · have c1 : ln.toInt ≤ i.toInt := c1
        refine gw_skip _ ?_
        refine gw_ld rfl rfl ?_
        refine z_C (m := 1) rfl rfl (fun x2 ex2 => ?_)
        refine z_b2 (fun c3 => ?_) (fun c3 => ?_)
        · have c3 : cm.toInt ≠ x2.toInt := c3
          refine gw_skip _ ?_
          refine gw_ld rfl rfl ?_
          refine z_C (m := 1) rfl rfl (fun x4 ex4 => ?_)
          refine z_b2 (fun c5 => ?_) (fun c5 => ?_)
          · have c5 : cm.toInt ≤ x4.toInt := c5
            refine gw_skip _ ?_
            refine z_rv ?_
            exact K _ F (lnP_K (K := ez_I h2 10) A_ck (fun q => by exfalso; omega) (cdI_0 A_z0 (cK_sy A_ck (by omega) (fun a ha => (hU a ha).1)) (fun j hj => by exfalso; omega)))
          · have c5 : ¬ (cm.toInt ≤ x4.toInt) := c5
            refine gw_ld rfl rfl ?_
            refine gw_ld rfl rfl ?_
            refine gw_ld rfl rfl ?_
            refine z_cl rfl rfl rfl rfl rfl rfl rfl rfl rfl rfl rfl (zT S2 (by decide) rfl) ?_
            have hkw := cK_kw A_ck (by omega) hU
            have hpo := A_ck.1
            have hpl := poC_le (ez_I h u) al.toInt.toNat
            refine f_rounds (n := cm) (li := li) (W := WK (ez_I h2 10) cm.toInt.toNat) S2 (by omega) (by omega) (WK_kw (fun j hj => (hkw j hj).2)) (WK_b A_ck (by omega) hU (by omega) hmx.1 hmB) (fun h6 F7 k8 => ?_)
            have S9 := zK_sh F7 S2
            have F10 := zK_tr F (zK_mono F7 (fun k hk => by first | omega | exact False.elim hk) (fun k hk => by first | omega | exact False.elim hk))
            have A11 : cK (ez_I h u) (ez_I h6 10) cm.toInt.toNat al.toInt.toNat := by rw [zK_fn F7 10 (by first | omega | exact fun c => c)]; exact A_ck
            have A12 : (i.toInt = 6 → soS (kfn (ez_I h6 10)) cm.toInt.toNat) := by rw [zK_fn F7 10 (by first | omega | exact fun c => c)]; exact A_so
            have A13 : aR (ez_I h6 w) al.toInt.toNat 0 0 := by rw [zK_fn F7 w (by first | omega | exact fun c => c)]; exact A_z0
            refine gw_ld rfl rfl ?_
            refine gw_ld rfl rfl ?_
            refine gw_ld rfl rfl ?_
            refine gw_ld rfl rfl ?_
            refine z_cl rfl rfl rfl rfl rfl rfl rfl rfl rfl rfl rfl (zT S9 (by decide) rfl) ?_
            refine f_down (n := cm) (li := li) (w := w) (W := WK (ez_I h2 10) cm.toInt.toNat) (al := al.toInt.toNat) S9 hw (by omega) (by omega) (by omega) k8 (rz_end (by omega) (by omega)) (by rw [(show ez_I h6 10 = ez_I h2 10 from zK_fn F7 10 (by decide))]; exact (cK_sy A_ck (by omega) (fun a ha => (hU a ha).1))) A13 (fun h14 F15 k16 => ?_)
            rw [(show ez_I h6 10 = ez_I h2 10 from zK_fn F7 10 (by decide))] at k16
            have S17 := zK_sh F15 S9
            have F18 := zK_tr F10 (zK_mono F15 (fun k hk => by first | omega | exact False.elim hk) (fun k hk => by first | omega | exact False.elim hk))
            have A19 : cK (ez_I h u) (ez_I h14 10) cm.toInt.toNat al.toInt.toNat := by rw [zK_fn F15 10 (by first | omega | exact fun c => c)]; exact A11
            have A20 : (i.toInt = 6 → soS (kfn (ez_I h14 10)) cm.toInt.toNat) := by rw [zK_fn F15 10 (by first | omega | exact fun c => c)]; exact A12
            have A21 : alB (ez_I h14 13) (WK (ez_I h2 10) cm.toInt.toNat) cm.toInt.toNat li.toInt.toNat := by rw [zK_fn F15 13 (by first | omega | exact fun c => c)]; exact k8
            refine z_rv ?_
            exact K _ F18 (lnP_K (K := ez_I h2 10) A_ck (fun _ => A_so (by omega)) (cdI_c k16 (fun j _ => by rw [if_neg (by omega)])))
        · have c3 : ¬ (cm.toInt ≠ x2.toInt) := c3
          refine gw_ld rfl rfl ?_
          refine gw_ld rfl rfl ?_
          refine z_C (m := 0) rfl rfl (fun x22 ex22 => ?_)
          refine z_cl rfl rfl rfl rfl rfl rfl rfl rfl rfl rfl rfl (zT S2 (by decide) rfl) ?_
          have hsy := (cK_sy A_ck (by omega) (fun a ha => (hU a ha).1))
          have hs0 := hsy 0 (by omega)
          have hz0 : 0 ≤ kS (ez_I h2 10) 0 := by unfold kS; omega
          have hr0 := A_z0 (kS (ez_I h2 10) 0).toNat (by omega)
          refine f_lengthen (w := w) (k := x22) S2 hw (by omega) (by omega) (by rw [show x22.toInt.toNat = 0 by omega]; exact ⟨hs0.1.1, by omega⟩) (by rw [show x22.toInt.toNat = 0 by omega]; omega) (fun h23 F24 k25 => ?_)
          rw [show x22.toInt.toNat = 0 by omega] at k25
          have S26 := zK_sh F24 S2
          have F27 := zK_tr F (zK_mono F24 (fun k hk => by first | omega | exact False.elim hk) (fun k hk => by first | omega | exact False.elim hk))
          have A28 : cK (ez_I h u) (ez_I h23 10) cm.toInt.toNat al.toInt.toNat := by rw [zK_fn F24 10 (by first | omega | exact fun c => c)]; exact A_ck
          have A29 : (i.toInt = 6 → soS (kfn (ez_I h23 10)) cm.toInt.toNat) := by rw [zK_fn F24 10 (by first | omega | exact fun c => c)]; exact A_so
          refine z_go ?_
          refine gw_skip _ ?_
          refine z_rv ?_
          exact K _ F27 (lnP_K (K := ez_I h2 10) A_ck (fun _ => A_so (by omega)) (cdI_s (cdI_0 (c := fun _ => 0) A_z0 hsy (fun _ _ => rfl)) hsy k25 (by omega) (fun j hj => by rw [if_pos (by omega), show j = 0 by omega]; rfl)))
      · have c1 : ¬ (ln.toInt ≤ i.toInt) := c1
        refine gw_ld rfl rfl ?_
        refine gw_ld rfl rfl ?_
        refine z_iaE (n := 6) (hE 5) (by omega) ?_
        generalize ex30 : (tz_ar (5 + 1)).getD i.toInt.toNat 0 = x30
        have rx30 := z_rng x30
        have ox30 := z_gap2 (n := i.toInt.toNat) (by omega)
        rw [ex30] at ox30
        refine gw_st rfl rfl rfl ?_
        show ez_gw _ _ _ _ _ _ _ _ [some (.ref 9), some (.ref u), some (.int al), some (.int li), some (.ref w), some (.int cm), some (.retAddr 6), some (.int ln), some (.int i), some (.int x30)] _ _ _
        refine gw_ld rfl rfl ?_
        refine gw_ld rfl rfl ?_
        refine gw_ld rfl rfl ?_
        refine z_cl rfl rfl rfl rfl rfl rfl rfl rfl rfl rfl rfl (zT S2 (by decide) rfl) ?_
        refine f_sort (n := cm) (gp := x30) S2 (by omega) (by omega) (fun h31 F32 k33 k34 => ?_)
        have S35 := zK_sh F32 S2
        have F36 := zK_tr F (zK_mono F32 (fun k hk => by first | omega | exact False.elim hk) (fun k hk => by first | omega | exact False.elim hk))
        have A37 : aR (ez_I h31 w) al.toInt.toNat 0 0 := by rw [zK_fn F32 w (by first | omega | exact fun c => c)]; exact A_z0
        refine z_inc rfl (by rw [show (1 : Int32).toInt = 1 from rfl]; omega) (fun x38 ex38 => ?_)
        rw [show (1 : Int32).toInt = 1 from rfl] at ex38
        show ez_gw _ _ _ _ _ _ _ _ [some (.ref 9), some (.ref u), some (.int al), some (.int li), some (.ref w), some (.int cm), some (.retAddr 6), some (.int ln), some (.int x38), some (.int x30)] _ _ _
        refine z_go ?_
        exact ih h31 cm ln x38 (some (.int x30)) F36 (by omega) (cK_cS A_ck k33) (fun q => k34 (ox30.2 (by omega))) A37 (by omega)
set_option maxRecDepth 4000 in
set_option maxHeartbeats 20000000 in
theorem f_make {E : Nat → Nat × (Nat → Int32)} {d : Nat} {Q : ez_Q} {h : ez_H} {u : Nat} {al : Int32} {li : Int32} {w : Nat} (S : zSh h) {nu nw : Nat} {mx : Int} (hE : zE E) (hu : zA u nu) (hw : zA w nw) (hd : u ≠ 10 ∧ u ≠ 13 ∧ u ≠ w ∧ w ≠ 10 ∧ w ≠ 13) (hn : 1 ≤ al.toInt ∧ al.toInt ≤ nu ∧ al.toInt ≤ nw ∧ al.toInt ≤ 288 ∧ nu ≤ 1000 ∧ nw ≤ 1000) (hl : 1 ≤ li.toInt ∧ li.toInt ≤ 15) (hU : aR (ez_I h u) al.toInt.toNat 0 mx) (hmx : 0 ≤ mx ∧ mx ≤ 1000000) (hmB : (al.toInt.toNat : Int) * mx ≤ 100000000) (hP : (poC (ez_I h u) al.toInt.toNat : Int) ≤ 2 ^ li.toInt.toNat) (K : ∀ h2, zK (fun q => q = 10 ∨ q = 13 ∨ q = w) (fun k => k = 11 ∨ k = 12) h h2 → lnP (ez_I h u) (ez_I h2 w) al.toInt.toNat li.toInt.toNat → Q (.inl none) h2) : pw E (d + 2) 101 0 [some (.ref 9), some (.ref u), some (.int al), some (.int li), some (.ref w), none, none, none, none, none] [] h Q := by
  have gal := z_rng al
  have gli := z_rng li
  have F := zK_refl (fun q => q = 10 ∨ q = 13 ∨ q = w) (fun k => k = 11 ∨ k = 12) h
  apply ez_Wp_in
  show ez_gw _ _ _ _ _ _ (cz_101) _ _ _ _ _
  refine gw_skip _ ?_
  refine gw_ld rfl rfl ?_
  refine z_C (m := 0) rfl rfl (fun x1 ex1 => ?_)
  refine z_cl rfl rfl rfl rfl rfl rfl rfl rfl rfl rfl rfl (trivial) ?_
  refine wp_fill ((hw _ S).1) (by rw [show ez_l h w = nw from (hw _ S).2]; omega) ?_
  generalize e3 : ez_rowI h w (pf_fill (ez_I h w) (ez_l h w) x1) = h2
  have e3 := e3.symm
  have S4 := zSh_row S e3
  have F5 := zK_row F e3 (by omega)
  have A6 := zIr_at e3 (show ez_l h w = nw from (hw _ S).2)
  refine gw_ld rfl rfl ?_
  refine gw_ld rfl rfl ?_
  refine gw_ld rfl rfl ?_
  refine gw_ld rfl rfl ?_
  refine z_al (n := nw) (.inl ((hw _ S4).1)) ((hw _ S4).2) (by omega) (fun x7 ex7 => ?_)
  refine z_min rfl (fun x8 ex8 => ?_)
  refine z_cl rfl rfl rfl rfl rfl rfl rfl rfl rfl rfl rfl (zT S4 (by decide) rfl) ?_
  refine f_gather (u := u) (n := x8) S4 hu (by omega) (by omega) (by rw [zK_fn F5 u (by omega), show x8.toInt.toNat = al.toInt.toNat by omega]; exact aR_le hU (by omega)) (fun h9 x11 F10 k12 k13 => ?_)
  have rx11 := z_rng x11
  rw [zK_fn F5 u (by omega), show x8.toInt.toNat = al.toInt.toNat by omega] at k13
  have S14 := zK_sh F10 S4
  have F15 := zK_tr F5 (zK_mono F10 (fun k hk => by first | omega | exact False.elim hk) (fun k hk => by first | omega | exact False.elim hk))
  have A16 : aR (ez_I h9 w) al.toInt.toNat 0 0 := by rw [zK_fn F10 w (by first | omega | exact fun c => c)]; exact (aR_fill A6 (by omega) (by omega))
  refine gw_st rfl rfl rfl ?_
  show ez_gw _ _ _ _ _ _ _ _ [some (.ref 9), some (.ref u), some (.int al), some (.int li), some (.ref w), some (.int x11), none, none, none, none] _ _ _
  refine z_gs ?_
  refine gw_st rfl rfl rfl ?_
  show ez_gw _ _ _ _ _ _ _ _ [some (.ref 9), some (.ref u), some (.int al), some (.int li), some (.ref w), some (.int x11), some (.retAddr 6), none, none, none] _ _ _
  refine gw_ld rfl rfl ?_
  refine z_alE (n := 6) (by rw [hE 5]; rfl) (by omega) (fun x17 ex17 => ?_)
  refine gw_st rfl rfl rfl ?_
  show ez_gw _ _ _ _ _ _ _ _ [some (.ref 9), some (.ref u), some (.int al), some (.int li), some (.ref w), some (.int x11), some (.retAddr 6), some (.int x17), none, none] _ _ _
  refine z_C (m := 0) rfl rfl (fun x18 ex18 => ?_)
  refine gw_st rfl rfl rfl ?_
  show ez_gw _ _ _ _ _ _ _ _ [some (.ref 9), some (.ref u), some (.int al), some (.int li), some (.ref w), some (.int x11), some (.retAddr 6), some (.int x17), some (.int x18), none] _ _ _
  exact ez_Wp_at ((f_make_L0 (u := u) (al := al) (li := li) (w := w) S hE hu hw hd hn hl hU hmx hmB hP K (((100 - x18.toInt)).toNat + 1)) h9 x11 x17 x18 (none) F15 (by omega) k13 (fun q => by exfalso; omega) A16 (by omega)) rfl
end
section
theorem zMk {PA PL : Nat → Prop} {h h2 : ez_H} (F : zK PA PL h h2) (hM : zMem h) : zMem h2 := by
  unfold zMem
  rw [F.1, F.2.1]
  exact hM
theorem poC_y {U : Nat → Int32} {s s' : Nat} {v : Int32} {c : Int} (e : U s = v) (hv : 0 < v.toInt) (hc : c = (poC U s : Nat) + 1) (hs : s' = s + 1) : c = (poC U s' : Nat) := by
  subst hs
  have h : 0 < (U s).toInt := by rw [e]; exact hv
  have : poC U (s + 1) = poC U s + 1 := by
    show poC U s + (if 0 < (U s).toInt then 1 else 0) = _
    simp only [h, ↓reduceIte]
  omega
theorem poC_n {U : Nat → Int32} {s s' : Nat} {v : Int32} {c : Int} (e : U s = v) (hv : ¬ 0 < v.toInt) (hc : c = (poC U s : Nat)) (hs : s' = s + 1) : c = (poC U s' : Nat) := by
  subst hs
  have h : ¬ 0 < (U s).toInt := by rw [e]; exact hv
  have : poC U (s + 1) = poC U s := by
    show poC U s + (if 0 < (U s).toInt then 1 else 0) = _
    simp only [h, ↓reduceIte]; rfl
  omega
noncomputable def wsI (U R : Nat → Int32) : Nat → Int32
  | 0 => 0
  | k + 1 => wsI U R k + U k * R k
theorem wsI_s {U R : Nat → Int32} {k k' : Nat} {a b c d z : Int32} (A : c = wsI U R k) (ea : U k = a) (eb : R k = b) (hz : z = a * b) (hd : d = c + z) (hk : k' = k + 1) : d = wsI U R k' := by
  subst hk
  rw [hd, hz, A, ← ea, ← eb]
  rfl
theorem poC_congr {U U' : Nat → Int32} : ∀ s, (∀ k, k < s → U k = U' k) → poC U s = poC U' s
  | 0, _ => rfl
  | s + 1, h => by
    show poC U s + _ = poC U' s + _
    rw [poC_congr s (fun k hk => h k (by omega)), h s (by omega)]
theorem cnU_congr {U U' : Nat → Int32} {x : Int} : ∀ s, (∀ k, k < s → U k = U' k) → cnU U x s = cnU U' x s
  | 0, _ => rfl
  | s + 1, h => by
    show cnU U x s + (if 0 < (U s).toInt ∧ (U s).toInt * 512 + (s : Int) = x then 1 else 0) = cnU U' x s + (if 0 < (U' s).toInt ∧ (U' s).toInt * 512 + (s : Int) = x then 1 else 0)
    rw [cnU_congr s (fun k hk => h k (by omega)), h s (by omega)]
theorem lnP_U {U U' R : Nat → Int32} {al li : Nat} (h : ∀ k, k < al → U k = U' k) (A : lnP U R al li) : lnP U' R al li := by
  obtain ⟨n, kf, a1, a2, a3, a4, a5⟩ := A
  exact ⟨n, kf, by rw [a1]; exact poC_congr al h, a2, fun x => by rw [a3 x]; exact cnU_congr al h, a4, a5⟩
/-! PRINTED by wip/p18/con23.py: weigh and measure of the class, told in full -/
set_option maxRecDepth 4000 in
set_option maxHeartbeats 20000000 in
theorem f_weighed_L0 {E : Nat → Nat × (Nat → Int32)} {d : Nat} {Q : ez_Q} {h : ez_H}  (S : zSh h) (hU : aR (ez_I h 7) 64 0 1000000) (K : ∀ x : Int32, x.toInt = (poC (ez_I h 7) 64 : Nat) → Q (.inl (some (.int x))) h) : ∀ N : Nat, (∀ (h2 : ez_H) (c : Int32) (i : Int32) , zK (fun _ => False) (fun _ => False) h h2 → (0 ≤ c.toInt ∧ c.toInt ≤ 64 ∧ 0 ≤ i.toInt ∧ i.toInt ≤ 64 ∧ c.toInt ≤ i.toInt ∧ c.toInt = (poC (ez_I h 7) i.toInt.toNat : Nat)) → (100 - i.toInt) < (N : Int) → pw E d 21 4 [some (.ref 1), some (.int c), some (.int i)] [] h2 Q) := by
  intro N
  induction N with
  | zero => exact fun h2 c i  F hinv  hm => absurd hm (by have w_c := z_rng c; have w_i := z_rng i; omega)
  | succ N ih =>
    refine fun h2 c i  F hinv  hm => ?_
    · skip
      have w_c := z_rng c
      have w_i := z_rng i
      have S2 := zK_sh F S
      apply ez_Wp_in
      show ez_gw _ _ _ _ _ _ (cz_21) _ _ _ _ _
      refine gw_skip _ ?_
      refine gw_ld rfl rfl ?_
      refine z_C (m := 64) rfl rfl (fun x1 ex1 => ?_)
      refine z_b2 (fun c2 => ?_) (fun c2 => ?_)
      · have c2 : x1.toInt ≤ i.toInt := c2
        refine gw_skip _ ?_
        refine gw_ld rfl rfl ?_
        refine z_ri ?_
        exact zK_Q F (K c (by rw [show (64 : Nat) = i.toInt.toNat by omega]; omega))
      · have c2 : ¬ (x1.toInt ≤ i.toInt) := c2
        refine gw_ld rfl rfl ?_
        refine z_gR (q := 7) (zT S2 (by decide) rfl) (zRf S2 (by decide) (by decide) rfl) (by decide) ?_
        refine gw_ld rfl rfl ?_
        refine z_iaV (n := 64) (zT S2 (by decide) rfl) (zN S2 (by decide) rfl) (by omega) (zK_a F (fun c => c)) ?_
        generalize ex3 : ez_I h 7 i.toInt.toNat = x3
        have rx3 := z_rng x3
        have yx3 := hU i.toInt.toNat (by omega)
        rw [ex3] at yx3
        refine z_b1 (fun c4 => ?_) (fun c4 => ?_)
        · have c4 : x3.toInt ≤ 0 := c4
          refine gw_skip _ ?_
          refine z_inc rfl (by rw [show (1 : Int32).toInt = 1 from rfl]; omega) (fun x5 ex5 => ?_)
          rw [show (1 : Int32).toInt = 1 from rfl] at ex5
          show ez_gw _ _ _ _ _ _ _ _ [some (.ref 1), some (.int c), some (.int x5)] _ _ _
          refine z_go ?_
          exact ih h2 c x5 F (⟨by omega, by omega, by omega, by omega, by omega, poC_n ex3 (by omega) (by omega) (by omega)⟩)  (by omega)
        · have c4 : ¬ (x3.toInt ≤ 0) := c4
          refine z_inc rfl (by rw [show (1 : Int32).toInt = 1 from rfl]; omega) (fun x6 ex6 => ?_)
          rw [show (1 : Int32).toInt = 1 from rfl] at ex6
          show ez_gw _ _ _ _ _ _ _ _ [some (.ref 1), some (.int x6), some (.int i)] _ _ _
          refine z_inc rfl (by rw [show (1 : Int32).toInt = 1 from rfl]; omega) (fun x7 ex7 => ?_)
          rw [show (1 : Int32).toInt = 1 from rfl] at ex7
          show ez_gw _ _ _ _ _ _ _ _ [some (.ref 1), some (.int x6), some (.int x7)] _ _ _
          refine z_go ?_
          exact ih h2 x6 x7 F (⟨by omega, by omega, by omega, by omega, by omega, poC_y ex3 (by omega) (by omega) (by omega)⟩)  (by omega)
set_option maxRecDepth 4000 in
set_option maxHeartbeats 20000000 in
theorem f_weighed {E : Nat → Nat × (Nat → Int32)} {d : Nat} {Q : ez_Q} {h : ez_H}  (S : zSh h) (hU : aR (ez_I h 7) 64 0 1000000) (K : ∀ x : Int32, x.toInt = (poC (ez_I h 7) 64 : Nat) → Q (.inl (some (.int x))) h) : pw E d 21 0 [some (.ref 1), none, none] [] h Q := by
  have F := zK_refl (fun _ => False) (fun _ => False) h
  apply ez_Wp_in
  show ez_gw _ _ _ _ _ _ (cz_21) _ _ _ _ _
  refine gw_skip _ ?_
  refine z_C (m := 0) rfl rfl (fun x1 ex1 => ?_)
  refine gw_st rfl rfl rfl ?_
  show ez_gw _ _ _ _ _ _ _ _ [some (.ref 1), some (.int x1), none] _ _ _
  refine z_C (m := 0) rfl rfl (fun x2 ex2 => ?_)
  refine gw_st rfl rfl rfl ?_
  show ez_gw _ _ _ _ _ _ _ _ [some (.ref 1), some (.int x1), some (.int x2)] _ _ _
  exact ez_Wp_at ((f_weighed_L0  S hU K (((100 - x2.toInt)).toNat + 1)) h x1 x2 F (by rw [show x2.toInt.toNat = 0 by omega]; have : poC (ez_I h 7) 0 = 0 := rfl; omega)  (by omega)) rfl
set_option maxRecDepth 4000 in
set_option maxHeartbeats 20000000 in
theorem f_wsum_L0 {E : Nat → Nat × (Nat → Int32)} {d : Nat} {Q : ez_Q} {h : ez_H} {u : Nat} {w : Nat} {n : Int32} (S : zSh h) (hu : zA u 64) (hw : zA w 64) (hn : n.toInt = 64) (K : ∀ x : Int32, x = wsI (ez_I h u) (ez_I h w) 64 → Q (.inl (some (.int x))) h) : ∀ N : Nat, (∀ (h2 : ez_H) (c : Int32) (i : Int32) , zK (fun _ => False) (fun _ => False) h h2 → (0 ≤ i.toInt ∧ i.toInt ≤ 64) → c = wsI (ez_I h u) (ez_I h w) i.toInt.toNat → (100 - i.toInt) < (N : Int) → pw E d 22 5 [some (.ref u), some (.ref w), some (.int n), some (.int c), some (.int i)] [] h2 Q) := by
  intro N
  induction N with
  | zero => exact fun h2 c i  F hinv A_ws hm => absurd hm (by have w_c := z_rng c; have w_i := z_rng i; have gn := z_rng n; omega)
  | succ N ih =>
    refine fun h2 c i  F hinv A_ws hm => ?_
    · skip
      have w_c := z_rng c
      have w_i := z_rng i
      have gn := z_rng n
      have S2 := zK_sh F S
      apply ez_Wp_in
      show ez_gw _ _ _ _ _ _ (cz_22) _ _ _ _ _
      refine gw_skip _ ?_
      refine gw_ld rfl rfl ?_
      refine gw_ld rfl rfl ?_
      refine z_b2 (fun c1 => ?_) (fun c1 => ?_)
      · have c1 : n.toInt ≤ i.toInt := c1
        refine gw_skip _ ?_
        refine gw_ld rfl rfl ?_
        refine z_ri ?_
        exact zK_Q F (K c (by rw [show (64 : Nat) = i.toInt.toNat by omega]; exact A_ws))
      · have c1 : ¬ (n.toInt ≤ i.toInt) := c1
        refine gw_ld rfl rfl ?_
        refine gw_ld rfl rfl ?_
        refine z_al (n := 64) (.inl ((hu _ S2).1)) ((hu _ S2).2) (by omega) (fun x2 ex2 => ?_)
        refine z_b2 (fun c3 => ?_) (fun c3 => ?_)
        · have c3 : x2.toInt ≤ i.toInt := c3
          refine gw_skip _ ?_
          refine gw_ld rfl rfl ?_
          refine z_ri ?_
          exact zK_Q F (K c (by rw [show (64 : Nat) = i.toInt.toNat by omega]; exact A_ws))
        · have c3 : ¬ (x2.toInt ≤ i.toInt) := c3
          refine gw_ld rfl rfl ?_
          refine gw_ld rfl rfl ?_
          refine z_al (n := 64) (.inl ((hw _ S2).1)) ((hw _ S2).2) (by omega) (fun x4 ex4 => ?_)
          refine z_b2 (fun c5 => ?_) (fun c5 => ?_)
          · have c5 : x4.toInt ≤ i.toInt := c5
            refine gw_skip _ ?_
            refine gw_ld rfl rfl ?_
            refine z_ri ?_
            exact zK_Q F (K c (by rw [show (64 : Nat) = i.toInt.toNat by omega]; exact A_ws))
          · have c5 : ¬ (x4.toInt ≤ i.toInt) := c5
            refine gw_ld rfl rfl ?_
            refine gw_ld rfl rfl ?_
            refine gw_ld rfl rfl ?_
            refine z_iaV (n := 64) ((hu _ S2).1) ((hu _ S2).2) (by omega) (zK_a F (fun c => c)) ?_
            generalize ex6 : ez_I h u i.toInt.toNat = x6
            have rx6 := z_rng x6
            refine gw_ld rfl rfl ?_
            refine gw_ld rfl rfl ?_
            refine z_iaV (n := 64) ((hw _ S2).1) ((hw _ S2).2) (by omega) (zK_a F (fun c => c)) ?_
            generalize ex7 : ez_I h w i.toInt.toNat = x7
            have rx7 := z_rng x7
            refine z_mulW (fun x8 ex8 => ?_)
            have rx8 := z_rng x8
            refine z_addW (fun x9 ex9 => ?_)
            have rx9 := z_rng x9
            refine gw_st rfl rfl rfl ?_
            show ez_gw _ _ _ _ _ _ _ _ [some (.ref u), some (.ref w), some (.int n), some (.int x9), some (.int i)] _ _ _
            refine z_inc rfl (by rw [show (1 : Int32).toInt = 1 from rfl]; omega) (fun x10 ex10 => ?_)
            rw [show (1 : Int32).toInt = 1 from rfl] at ex10
            show ez_gw _ _ _ _ _ _ _ _ [some (.ref u), some (.ref w), some (.int n), some (.int x9), some (.int x10)] _ _ _
            refine z_go ?_
            exact ih h2 x9 x10 F (by omega) (wsI_s A_ws ex6 ex7 ex8 ex9 (by omega)) (by omega)
set_option maxRecDepth 4000 in
set_option maxHeartbeats 20000000 in
theorem f_wsum {E : Nat → Nat × (Nat → Int32)} {d : Nat} {Q : ez_Q} {h : ez_H} {u : Nat} {w : Nat} {n : Int32} (S : zSh h) (hu : zA u 64) (hw : zA w 64) (hn : n.toInt = 64) (K : ∀ x : Int32, x = wsI (ez_I h u) (ez_I h w) 64 → Q (.inl (some (.int x))) h) : pw E d 22 0 [some (.ref u), some (.ref w), some (.int n), none, none] [] h Q := by
  have gn := z_rng n
  have F := zK_refl (fun _ => False) (fun _ => False) h
  apply ez_Wp_in
  show ez_gw _ _ _ _ _ _ (cz_22) _ _ _ _ _
  refine gw_skip _ ?_
  refine z_C (m := 0) rfl rfl (fun x1 ex1 => ?_)
  refine gw_st rfl rfl rfl ?_
  show ez_gw _ _ _ _ _ _ _ _ [some (.ref u), some (.ref w), some (.int n), some (.int x1), none] _ _ _
  refine z_C (m := 0) rfl rfl (fun x2 ex2 => ?_)
  refine gw_st rfl rfl rfl ?_
  show ez_gw _ _ _ _ _ _ _ _ [some (.ref u), some (.ref w), some (.int n), some (.int x1), some (.int x2)] _ _ _
  exact ez_Wp_at ((f_wsum_L0 (u := u) (w := w) (n := n) S hu hw hn K (((100 - x2.toInt)).toNat + 1)) h x1 x2 F (by omega) ((by rw [show x2.toInt.toNat = 0 by omega]; exact z_inj (by omega : x1.toInt = 0))) (by omega)) rfl
set_option maxRecDepth 4000 in
set_option maxHeartbeats 20000000 in
theorem f_weigh {E : Nat → Nat × (Nat → Int32)} {d : Nat} {Q : ez_Q} {h : ez_H} {y : Int32} {w : Int32} (S : zSh h) (hM : zMem h) (K3 : ¬ (0 ≤ y.toInt ∧ y.toInt < 64) → Q (.inr 3) (ez_bump h)) (K2 : (0 ≤ y.toInt ∧ y.toInt < 64) → ¬ (0 ≤ w.toInt ∧ w.toInt ≤ 1000000) → Q (.inr 2) (ez_bump h)) (K : ∀ h2, zK (fun q => q = 7) (fun _ => False) h h2 → (0 ≤ y.toInt ∧ y.toInt < 64 ∧ 0 ≤ w.toInt ∧ w.toInt ≤ 1000000) → (ez_I h2 7 y.toInt.toNat = w ∧ ∀ k, k ≠ y.toInt.toNat → ez_I h2 7 k = ez_I h 7 k) → Q (.inl none) h2) : pw E d 16 0 [some (.ref 1), some (.int y), some (.int w)] [] h Q := by
  have gy := z_rng y
  have gw := z_rng w
  have F := zK_refl (fun q => q = 7) (fun _ => False) h
  apply ez_Wp_in
  show ez_gw _ _ _ _ _ _ (cz_16) _ _ _ _ _
  refine gw_skip _ ?_
  refine gw_ld rfl rfl ?_
  refine z_b1 (fun c1 => ?_) (fun c1 => ?_)
  · have c1 : y.toInt < 0 := c1
    refine gw_skip _ ?_
    refine z_th (zMk F hM) ?_
    exact K3 (by omega)
  · have c1 : ¬ (y.toInt < 0) := c1
    refine gw_ld rfl rfl ?_
    refine z_C (m := 64) rfl rfl (fun x2 ex2 => ?_)
    refine z_b2 (fun c3 => ?_) (fun c3 => ?_)
    · have c3 : y.toInt < x2.toInt := c3
      refine gw_skip _ ?_
      refine gw_ld rfl rfl ?_
      refine z_b1 (fun c4 => ?_) (fun c4 => ?_)
      · have c4 : w.toInt < 0 := c4
        refine gw_skip _ ?_
        refine z_th (zMk F hM) ?_
        exact K2 (by omega) (by omega)
      · have c4 : ¬ (w.toInt < 0) := c4
        refine gw_ld rfl rfl ?_
        refine z_C (m := 1000000) rfl rfl (fun x5 ex5 => ?_)
        refine z_b2 (fun c6 => ?_) (fun c6 => ?_)
        · have c6 : w.toInt ≤ x5.toInt := c6
          refine gw_skip _ ?_
          refine gw_ld rfl rfl ?_
          refine z_gR (q := 7) (zT S (by decide) rfl) (zRf S (by decide) (by decide) rfl) (by decide) ?_
          refine gw_ld rfl rfl ?_
          refine gw_ld rfl rfl ?_
          refine z_is (n := 64) (zT S (by decide) rfl) (zN S (by decide) rfl) (by omega) (fun h7 e8 => ?_)
          have S9 := zSh_set S e8
          have F10 := zK_set F e8 (by omega)
          have A11 : ez_I h7 7 y.toInt.toNat = w ∧ ∀ k, k ≠ y.toInt.toNat → ez_I h7 7 k = ez_I h 7 k := ⟨zI_eq e8, fun k hk => zI_ne e8 (by omega)⟩
          refine z_rv ?_
          exact K _ F10 (by omega) (A11)
        · have c6 : ¬ (w.toInt ≤ x5.toInt) := c6
          refine z_th (zMk F hM) ?_
          exact K2 (by omega) (by omega)
    · have c3 : ¬ (y.toInt < x2.toInt) := c3
      refine z_th (zMk F hM) ?_
      exact K3 (by omega)
set_option maxRecDepth 4000 in
set_option maxHeartbeats 20000000 in
theorem f_measure {E : Nat → Nat × (Nat → Int32)} {d : Nat} {Q : ez_Q} {h : ez_H} {m : Int32} (S : zSh h) (hE : zE E) (hM : zMem h) (hU : aR (ez_I h 7) 64 0 1000000) (K2 : ¬ (1 ≤ m.toInt ∧ m.toInt ≤ 15) → Q (.inr 2) (ez_bump h)) (K1 : (1 ≤ m.toInt ∧ m.toInt ≤ 15) → ¬ (poC (ez_I h 7) 64 : Int) ≤ 2 ^ m.toInt.toNat → Q (.inr 1) (ez_bump h)) (K : ∀ h2 (x : Int32), zK (fun q => q = 10 ∨ q = 13 ∨ q = 8) (fun q => q = 11 ∨ q = 12) h h2 → (1 ≤ m.toInt ∧ m.toInt ≤ 15) → (poC (ez_I h 7) 64 : Int) ≤ 2 ^ m.toInt.toNat → lnP (ez_I h 7) (ez_I h2 8) 64 m.toInt.toNat → x = wsI (ez_I h 7) (ez_I h2 8) 64 → Q (.inl (some (.int x))) h2) : pw E (d + 3) 17 0 [some (.ref 1), some (.int m)] [] h Q := by
  have gm := z_rng m
  have F := zK_refl (fun q => q = 10 ∨ q = 13 ∨ q = 8) (fun k => k = 11 ∨ k = 12) h
  apply ez_Wp_in
  show ez_gw _ _ _ _ _ _ (cz_17) _ _ _ _ _
  refine gw_skip _ ?_
  refine gw_ld rfl rfl ?_
  refine z_C (m := 1) rfl rfl (fun x1 ex1 => ?_)
  refine z_b2 (fun c2 => ?_) (fun c2 => ?_)
  · have c2 : m.toInt < x1.toInt := c2
    refine gw_skip _ ?_
    refine z_th (zMk F hM) ?_
    exact K2 (by omega)
  · have c2 : ¬ (m.toInt < x1.toInt) := c2
    refine gw_ld rfl rfl ?_
    refine z_C (m := 15) rfl rfl (fun x3 ex3 => ?_)
    refine z_b2 (fun c4 => ?_) (fun c4 => ?_)
    · have c4 : m.toInt ≤ x3.toInt := c4
      refine gw_skip _ ?_
      refine gw_ld rfl rfl ?_
      refine z_cl rfl rfl rfl rfl rfl rfl rfl rfl rfl rfl rfl (zT S (by decide) rfl) ?_
      refine f_weighed S hU (fun x5 k6 => ?_)
      have rx5 := z_rng x5
      refine z_C (m := 1) rfl rfl (fun x7 ex7 => ?_)
      refine gw_ld rfl rfl ?_
      refine z_2 rfl (fun x8 ex8 => ?_)
      have rx8 := z_rng x8
      have vx8 := u_shl (T := m.toInt.toNat) (o := x7) (r := m) (by omega) (by omega) (by omega) ex8
      have hpw : (2 : Nat) ^ m.toInt.toNat ≤ 2 ^ 15 := Nat.pow_le_pow_right (by decide) (by omega)
      have hpw2 : (2 : Nat) ^ 15 = 32768 := rfl
      have htx8 := z_of_u (x := x8) (by omega)
      have hpc : (2 : Int) ^ m.toInt.toNat = ((2 ^ m.toInt.toNat : Nat) : Int) := by rw [Int.natCast_pow]; rfl
      refine z_b2 (fun c9 => ?_) (fun c9 => ?_)
      · have c9 : x5.toInt ≤ x8.toInt := c9
        refine gw_skip _ ?_
        have hp2 : (poC (ez_I h 7) 64 : Int) ≤ 2 ^ m.toInt.toNat := by omega
        refine gw_ld rfl rfl ?_
        refine z_gR (q := 9) (zT S (by decide) rfl) (zRf S (by decide) (by decide) rfl) (by decide) ?_
        refine gw_ld rfl rfl ?_
        refine z_gR (q := 7) (zT S (by decide) rfl) (zRf S (by decide) (by decide) rfl) (by decide) ?_
        refine z_C (m := 64) rfl rfl (fun x10 ex10 => ?_)
        refine gw_ld rfl rfl ?_
        refine gw_ld rfl rfl ?_
        refine z_gR (q := 8) (zT S (by decide) rfl) (zRf S (by decide) (by decide) rfl) (by decide) ?_
        refine z_cl rfl rfl rfl rfl rfl rfl rfl rfl rfl rfl rfl (zT S (by decide) rfl) ?_
        refine f_make (u := 7) (w := 8) (al := x10) (li := m) (mx := 1000000) S hE (show zA 7 64 from fun _ S => ⟨zT S (by decide) rfl, zN S (by decide) rfl⟩) (show zA 8 64 from fun _ S => ⟨zT S (by decide) rfl, zN S (by decide) rfl⟩) (by decide) (by omega) (by omega) (by rw [show x10.toInt.toNat = 64 by omega]; exact hU) (by decide) (by rw [show x10.toInt.toNat = 64 by omega]; decide) (by rw [show x10.toInt.toNat = 64 by omega]; exact hp2) (fun h11 F12 k13 => ?_)
        rw [show x10.toInt.toNat = 64 by omega] at k13
        have S14 := zK_sh F12 S
        have F15 := zK_tr F (zK_mono F12 (fun k hk => by first | omega | exact False.elim hk) (fun k hk => by first | omega | exact False.elim hk))
        refine gw_ld rfl rfl ?_
        refine z_gR (q := 7) (zT S14 (by decide) rfl) (zRf S14 (by decide) (by decide) rfl) (by decide) ?_
        refine gw_ld rfl rfl ?_
        refine z_gR (q := 8) (zT S14 (by decide) rfl) (zRf S14 (by decide) (by decide) rfl) (by decide) ?_
        refine z_C (m := 64) rfl rfl (fun x16 ex16 => ?_)
        refine z_cl rfl rfl rfl rfl rfl rfl rfl rfl rfl rfl rfl (trivial) ?_
        refine f_wsum (u := 7) (w := 8) (n := x16) S14 (show zA 7 64 from fun _ S => ⟨zT S (by decide) rfl, zN S (by decide) rfl⟩) (show zA 8 64 from fun _ S => ⟨zT S (by decide) rfl, zN S (by decide) rfl⟩) (by omega) (fun x17 k18 => ?_)
        rw [zK_fn F15 7 (by decide)] at k18
        refine z_ri ?_
        exact K _ x17 F15 (by omega) hp2 k13 k18
      · have c9 : ¬ (x5.toInt ≤ x8.toInt) := c9
        refine z_th (zMk F hM) ?_
        exact K1 (by omega) (by omega)
    · have c4 : ¬ (m.toInt ≤ x3.toInt) := c4
      refine z_th (zMk F hM) ?_
      exact K2 (by omega)

end
section
/-! PRINTED by wip/p18/con24.py: weigh and measure of the model, told in full -/
set_option maxRecDepth 4000 in
set_option maxHeartbeats 20000000 in
theorem m_weighF {E : Nat → Nat × (Nat → Int32)} {d : Nat} {Q : ez_Q} {h : ez_H} {y : Int32} {w : Int32} (S : zSh h)  (K : ∀ h2, zG (fun k => k = 0) (fun q => q = 124) h h2 → ((ez_I h2 71 0).toInt = (if y.toInt < 0 ∨ 63 < y.toInt then 1 else if w.toInt < 0 ∨ 1000000 < w.toInt then 2 else 0)) → ((0 ≤ y.toInt ∧ y.toInt < 64 ∧ 0 ≤ w.toInt ∧ w.toInt ≤ 1000000) → ez_I h2 124 y.toInt.toNat = w ∧ ∀ k, k ≠ y.toInt.toNat → ez_I h2 124 k = ez_I h 124 k) → (¬ (0 ≤ y.toInt ∧ y.toInt < 64 ∧ 0 ≤ w.toInt ∧ w.toInt ≤ 1000000) → ez_I h2 124 = ez_I h 124) → Q (.inl none) h2) : pw E d 63 0 [some (.ref 71), some (.int y), some (.int w)] [] h Q := by
  have gy := z_rng y
  have gw := z_rng w
  have F := zG_refl (fun k => k = 0) (fun q => q = 124) h
  apply ez_Wp_in
  show ez_gw _ _ _ _ _ _ (cz_63) _ _ _ _ _
  refine gw_skip _ ?_
  have r1 := z_rng (ez_I h 71 0)
  refine gw_ld rfl rfl ?_
  refine gw_ld rfl rfl ?_
  refine z_b1 (fun c2 => ?_) (fun c2 => ?_)
  · have c2 : y.toInt < 0 := c2
    refine gw_skip _ ?_
    refine z_C (m := 1) rfl rfl (fun x3 ex3 => ?_)
    refine z_go ?_
    refine gw_skip _ ?_
    refine z_pI (zT S (by decide) rfl) (fun h4 e5 => ?_)
    have S6 := zSh_set S e5
    have F7 := zG_setF F e5 (by decide)
    have f8 : ez_I h4 71 0 = x3 := zI_eq e5
    refine gw_ld rfl rfl ?_
    refine z_gI2 (by decide) (zT S6 (by decide) rfl) (f8) ?_
    refine z_b1 (fun c9 => ?_) (fun c9 => ?_)
    · have c9 : x3.toInt ≠ 0 := c9
      refine gw_skip _ ?_
      refine z_rv ?_
      have t10 := congrArg Int32.toInt (f8)
      exact K _ F7 (by split <;> (try split) <;> omega) (fun q => by exfalso; omega) (fun _ => zI_fn e5 124 (by decide))
    · have c9 : ¬ (x3.toInt ≠ 0) := c9
      exfalso; omega
  · have c2 : ¬ (y.toInt < 0) := c2
    refine gw_ld rfl rfl ?_
    refine z_C (m := 63) rfl rfl (fun x11 ex11 => ?_)
    refine z_b2 (fun c12 => ?_) (fun c12 => ?_)
    · have c12 : y.toInt ≤ x11.toInt := c12
      refine gw_skip _ ?_
      refine gw_ld rfl rfl ?_
      refine z_b1 (fun c13 => ?_) (fun c13 => ?_)
      · have c13 : w.toInt < 0 := c13
        refine gw_skip _ ?_
        refine z_C (m := 2) rfl rfl (fun x14 ex14 => ?_)
        refine z_go ?_
        refine gw_skip _ ?_
        refine z_pI (zT S (by decide) rfl) (fun h15 e16 => ?_)
        have S17 := zSh_set S e16
        have F18 := zG_setF F e16 (by decide)
        have f19 : ez_I h15 71 0 = x14 := zI_eq e16
        refine gw_ld rfl rfl ?_
        refine z_gI2 (by decide) (zT S17 (by decide) rfl) (f19) ?_
        refine z_b1 (fun c20 => ?_) (fun c20 => ?_)
        · have c20 : x14.toInt ≠ 0 := c20
          refine gw_skip _ ?_
          refine z_rv ?_
          have t21 := congrArg Int32.toInt (f19)
          exact K _ F18 (by split <;> (try split) <;> omega) (fun q => by exfalso; omega) (fun _ => zI_fn e16 124 (by decide))
        · have c20 : ¬ (x14.toInt ≠ 0) := c20
          exfalso; omega
      · have c13 : ¬ (w.toInt < 0) := c13
        refine gw_ld rfl rfl ?_
        refine z_C (m := 1000000) rfl rfl (fun x22 ex22 => ?_)
        refine z_b2 (fun c23 => ?_) (fun c23 => ?_)
        · have c23 : w.toInt ≤ x22.toInt := c23
          refine gw_skip _ ?_
          refine z_C (m := 0) rfl rfl (fun x24 ex24 => ?_)
          refine z_pI (zT S (by decide) rfl) (fun h25 e26 => ?_)
          have S27 := zSh_set S e26
          have F28 := zG_setF F e26 (by decide)
          have f29 : ez_I h25 71 0 = x24 := zI_eq e26
          refine gw_ld rfl rfl ?_
          refine z_gI2 (by decide) (zT S27 (by decide) rfl) (f29) ?_
          refine z_b1 (fun c30 => ?_) (fun c30 => ?_)
          · have c30 : x24.toInt ≠ 0 := c30
            exfalso; omega
          · have c30 : ¬ (x24.toInt ≠ 0) := c30
            refine gw_ld rfl rfl ?_
            refine z_gR (q := 124) (zT S27 (by decide) rfl) (zRf S27 (by decide) (by decide) rfl) (by decide) ?_
            refine gw_ld rfl rfl ?_
            refine gw_ld rfl rfl ?_
            refine z_is (n := 64) (zT S27 (by decide) rfl) (zN S27 (by decide) rfl) (by omega) (fun h31 e32 => ?_)
            have S33 := zSh_set S27 e32
            have F34 := zG_setA F28 e32 (by decide) (by decide)
            have f35 : ez_I h31 71 0 = x24 := (zI_ne e32 (by omega)).trans (f29)
            have A36 : ez_I h31 124 y.toInt.toNat = w ∧ ∀ k, k ≠ y.toInt.toNat → ez_I h31 124 k = ez_I h 124 k := ⟨zI_eq e32, fun k hk => (zI_ne e32 (by omega)).trans (zI_ne e26 (by omega))⟩
            refine z_rv ?_
            have t37 := congrArg Int32.toInt (f35)
            exact K _ F34 (by split <;> (try split) <;> omega) (fun _ => A36) (fun q => by exfalso; omega)
        · have c23 : ¬ (w.toInt ≤ x22.toInt) := c23
          refine z_C (m := 2) rfl rfl (fun x38 ex38 => ?_)
          refine z_go ?_
          refine gw_skip _ ?_
          refine z_pI (zT S (by decide) rfl) (fun h39 e40 => ?_)
          have S41 := zSh_set S e40
          have F42 := zG_setF F e40 (by decide)
          have f43 : ez_I h39 71 0 = x38 := zI_eq e40
          refine gw_ld rfl rfl ?_
          refine z_gI2 (by decide) (zT S41 (by decide) rfl) (f43) ?_
          refine z_b1 (fun c44 => ?_) (fun c44 => ?_)
          · have c44 : x38.toInt ≠ 0 := c44
            refine gw_skip _ ?_
            refine z_rv ?_
            have t45 := congrArg Int32.toInt (f43)
            exact K _ F42 (by split <;> (try split) <;> omega) (fun q => by exfalso; omega) (fun _ => zI_fn e40 124 (by decide))
          · have c44 : ¬ (x38.toInt ≠ 0) := c44
            exfalso; omega
    · have c12 : ¬ (y.toInt ≤ x11.toInt) := c12
      refine z_C (m := 1) rfl rfl (fun x46 ex46 => ?_)
      refine z_go ?_
      refine gw_skip _ ?_
      refine z_pI (zT S (by decide) rfl) (fun h47 e48 => ?_)
      have S49 := zSh_set S e48
      have F50 := zG_setF F e48 (by decide)
      have f51 : ez_I h47 71 0 = x46 := zI_eq e48
      refine gw_ld rfl rfl ?_
      refine z_gI2 (by decide) (zT S49 (by decide) rfl) (f51) ?_
      refine z_b1 (fun c52 => ?_) (fun c52 => ?_)
      · have c52 : x46.toInt ≠ 0 := c52
        refine gw_skip _ ?_
        refine z_rv ?_
        have t53 := congrArg Int32.toInt (f51)
        exact K _ F50 (by split <;> (try split) <;> omega) (fun q => by exfalso; omega) (fun _ => zI_fn e48 124 (by decide))
      · have c52 : ¬ (x46.toInt ≠ 0) := c52
        exfalso; omega
set_option maxRecDepth 4000 in
set_option maxHeartbeats 20000000 in
theorem m_measF_L1 {E : Nat → Nat × (Nat → Int32)} {d : Nat} {Q : ez_Q} {h : ez_H} {m : Int32} (S : zSh h) (hU : aR (ez_I h 124) 64 0 1000000) (K : ∀ h2 (x : Int32), zG (fun k => k = 0) (fun q => 110 ≤ q ∧ q ≤ 114 ∨ q = 125) h h2 → ((ez_I h2 71 0).toInt = (if ¬ (1 ≤ m.toInt ∧ m.toInt ≤ 15) then 1 else if ¬ (poC (ez_I h 124) 64 : Int) ≤ 2 ^ m.toInt.toNat then 2 else 0)) → ((1 ≤ m.toInt ∧ m.toInt ≤ 15) ∧ (poC (ez_I h 124) 64 : Int) ≤ 2 ^ m.toInt.toNat → lnP (ez_I h 124) (ez_I h2 125) 64 m.toInt.toNat ∧ x = wsI (ez_I h 124) (ez_I h2 125) 64) → (¬ ((1 ≤ m.toInt ∧ m.toInt ≤ 15) ∧ (poC (ez_I h 124) 64 : Int) ≤ 2 ^ m.toInt.toNat) → ez_I h2 125 = ez_I h 125) → Q (.inl (some (.int x))) h2) : ∀ N : Nat, (∀ (h2 : ez_H) (n : Int32) (c : Int32) (i : Int32) , zG (fun k => k = 0) (fun q => 110 ≤ q ∧ q ≤ 114 ∨ q = 125) h h2 → (0 ≤ i.toInt ∧ i.toInt ≤ 64 ∧ (ez_I h2 71 0).toInt = 0 ∧ 1 ≤ m.toInt ∧ m.toInt ≤ 15) → lnP (ez_I h 124) (ez_I h2 125) 64 m.toInt.toNat → c = wsI (ez_I h 124) (ez_I h2 125) i.toInt.toNat → (poC (ez_I h 124) 64 : Int) ≤ 2 ^ m.toInt.toNat → (100 - i.toInt) < (N : Int) → pw E (d + 2) 64 93 [some (.ref 71), some (.int m), some (.int n), some (.int c), some (.int i)] [] h2 Q) := by
  intro N
  induction N with
  | zero => exact fun h2 n c i  F hinv A_ln A_ws A_p2 hm => absurd hm (by have w_n := z_rng n; have w_c := z_rng c; have w_i := z_rng i; have gm := z_rng m; omega)
  | succ N ih =>
    refine fun h2 n c i  F hinv A_ln A_ws A_p2 hm => ?_
    · skip
      have w_n := z_rng n
      have w_c := z_rng c
      have w_i := z_rng i
      have gm := z_rng m
      have S2 := zG_sh F S
      have hp2 := A_p2
      apply ez_Wp_in
      show ez_gw _ _ _ _ _ _ (cz_64) _ _ _ _ _
      refine gw_skip _ ?_
      have r1 := z_rng (ez_I h2 71 0)
      refine gw_ld rfl rfl ?_
      refine z_C (m := 64) rfl rfl (fun x2 ex2 => ?_)
      refine z_b2 (fun c3 => ?_) (fun c3 => ?_)
      · have c3 : x2.toInt ≤ i.toInt := c3
        refine gw_skip _ ?_
        refine gw_ld rfl rfl ?_
        refine z_ri ?_
        exact K _ c F (by rw [if_neg (fun q => q (by omega)), if_neg (fun q => q hp2)]; omega) (fun _ => ⟨A_ln, by rw [show (64 : Nat) = i.toInt.toNat by omega]; exact A_ws⟩) (fun q => absurd ⟨by omega, hp2⟩ q)
      · have c3 : ¬ (x2.toInt ≤ i.toInt) := c3
        refine gw_ld rfl rfl ?_
        refine gw_ld rfl rfl ?_
        refine z_gR (q := 124) (zT S2 (by decide) rfl) (zRf S2 (by decide) (by decide) rfl) (by decide) ?_
        refine gw_ld rfl rfl ?_
        refine z_iaV (n := 64) (zT S2 (by decide) rfl) (zN S2 (by decide) rfl) (by omega) (zG_a F (by decide) (by decide)) ?_
        generalize ex4 : ez_I h 124 i.toInt.toNat = x4
        have rx4 := z_rng x4
        refine gw_ld rfl rfl ?_
        refine z_gR (q := 125) (zT S2 (by decide) rfl) (zRf S2 (by decide) (by decide) rfl) (by decide) ?_
        refine gw_ld rfl rfl ?_
        refine z_ia (n := 64) (zT S2 (by decide) rfl) (zN S2 (by decide) rfl) (by omega) ?_
        generalize ex5 : ez_I h2 125 i.toInt.toNat = x5
        have rx5 := z_rng x5
        refine z_mulW (fun x6 ex6 => ?_)
        have rx6 := z_rng x6
        refine z_addW (fun x7 ex7 => ?_)
        have rx7 := z_rng x7
        refine gw_st rfl rfl rfl ?_
        show ez_gw _ _ _ _ _ _ _ _ [some (.ref 71), some (.int m), some (.int n), some (.int x7), some (.int i)] _ _ _
        refine z_inc rfl (by rw [show (1 : Int32).toInt = 1 from rfl]; omega) (fun x8 ex8 => ?_)
        rw [show (1 : Int32).toInt = 1 from rfl] at ex8
        show ez_gw _ _ _ _ _ _ _ _ [some (.ref 71), some (.int m), some (.int n), some (.int x7), some (.int x8)] _ _ _
        refine z_go ?_
        exact ih h2 n x7 x8 F (by omega) A_ln (wsI_s A_ws ex4 ex5 ex6 ex7 (by omega)) (hp2) (by omega)
set_option maxRecDepth 4000 in
set_option maxHeartbeats 20000000 in
theorem m_measF_L0 {E : Nat → Nat × (Nat → Int32)} {d : Nat} {Q : ez_Q} {h : ez_H} {m : Int32} (S : zSh h) (hU : aR (ez_I h 124) 64 0 1000000) (K : ∀ h2 (x : Int32), zG (fun k => k = 0) (fun q => 110 ≤ q ∧ q ≤ 114 ∨ q = 125) h h2 → ((ez_I h2 71 0).toInt = (if ¬ (1 ≤ m.toInt ∧ m.toInt ≤ 15) then 1 else if ¬ (poC (ez_I h 124) 64 : Int) ≤ 2 ^ m.toInt.toNat then 2 else 0)) → ((1 ≤ m.toInt ∧ m.toInt ≤ 15) ∧ (poC (ez_I h 124) 64 : Int) ≤ 2 ^ m.toInt.toNat → lnP (ez_I h 124) (ez_I h2 125) 64 m.toInt.toNat ∧ x = wsI (ez_I h 124) (ez_I h2 125) 64) → (¬ ((1 ≤ m.toInt ∧ m.toInt ≤ 15) ∧ (poC (ez_I h 124) 64 : Int) ≤ 2 ^ m.toInt.toNat) → ez_I h2 125 = ez_I h 125) → Q (.inl (some (.int x))) h2) : ∀ N : Nat, (∀ (h2 : ez_H) (n : Int32) (i : Int32) (l4 : Option Value) , zG (fun k => k = 0) (fun q => 110 ≤ q ∧ q ≤ 114 ∨ q = 125) h h2 → (0 ≤ n.toInt ∧ n.toInt ≤ i.toInt ∧ 0 ≤ i.toInt ∧ i.toInt ≤ 64 ∧ n.toInt = (poC (ez_I h 124) i.toInt.toNat : Nat)) → ez_I h2 125 = ez_I h 125 ∧ True → (100 - i.toInt) < (N : Int) → pw E (d + 2) 64 4 [some (.ref 71), some (.int m), some (.int n), some (.int i), l4] [] h2 Q) := by
  intro N
  induction N with
  | zero => exact fun h2 n i l4  F hinv A_s5 hm => absurd hm (by have w_n := z_rng n; have w_i := z_rng i; have gm := z_rng m; omega)
  | succ N ih =>
    refine fun h2 n i l4  F hinv A_s5 hm => ?_
    · skip
      have w_n := z_rng n
      have w_i := z_rng i
      have gm := z_rng m
      have S2 := zG_sh F S
      apply ez_Wp_in
      show ez_gw _ _ _ _ _ _ (cz_64) _ _ _ _ _
      refine gw_skip _ ?_
      have r1 := z_rng (ez_I h2 71 0)
      refine gw_ld rfl rfl ?_
      refine z_C (m := 64) rfl rfl (fun x2 ex2 => ?_)
      refine z_b2 (fun c3 => ?_) (fun c3 => ?_)
      · have c3 : x2.toInt ≤ i.toInt := c3
        refine gw_skip _ ?_
        refine gw_ld rfl rfl ?_
        refine gw_ld rfl rfl ?_
        refine z_C (m := 1) rfl rfl (fun x4 ex4 => ?_)
        refine z_b2 (fun c5 => ?_) (fun c5 => ?_)
        · have c5 : m.toInt < x4.toInt := c5
          refine gw_skip _ ?_
          refine z_C (m := 1) rfl rfl (fun x6 ex6 => ?_)
          refine z_go ?_
          refine gw_skip _ ?_
          refine z_pI (zT S2 (by decide) rfl) (fun h7 e8 => ?_)
          have S9 := zSh_set S2 e8
          have F10 := zG_setF F e8 (by decide)
          have f11 : ez_I h7 71 0 = x6 := zI_eq e8
          have A12 : ez_I h7 125 = ez_I h 125 ∧ True := by rw [zI_fn e8 125 (by decide)]; exact A_s5
          refine gw_ld rfl rfl ?_
          refine z_gI2 (by decide) (zT S9 (by decide) rfl) (f11) ?_
          refine z_b1 (fun c13 => ?_) (fun c13 => ?_)
          · have c13 : x6.toInt ≤ 0 := c13
            exfalso; omega
          · have c13 : ¬ (x6.toInt ≤ 0) := c13
            refine z_C (m := 0) rfl rfl (fun x14 ex14 => ?_)
            refine z_ri ?_
            have t15 := congrArg Int32.toInt (f11)
            exact K _ x14 F10 (by first | (rw [if_pos (by omega)]; omega) | (rw [if_neg (fun q => q (by omega)), if_pos hp3]; omega)) (fun q => by exfalso; first | omega | exact hp3 q.2) (fun _ => (A12).1)
        · have c5 : ¬ (m.toInt < x4.toInt) := c5
          refine gw_ld rfl rfl ?_
          refine z_C (m := 15) rfl rfl (fun x16 ex16 => ?_)
          refine z_b2 (fun c17 => ?_) (fun c17 => ?_)
          · have c17 : m.toInt ≤ x16.toInt := c17
            refine gw_skip _ ?_
            refine gw_ld rfl rfl ?_
            refine z_C (m := 1) rfl rfl (fun x18 ex18 => ?_)
            refine gw_ld rfl rfl ?_
            refine z_2 rfl (fun x19 ex19 => ?_)
            have rx19 := z_rng x19
            have vx19 := u_shl (T := m.toInt.toNat) (o := x18) (r := m) (by omega) (by omega) (by omega) ex19
            have hpw : (2 : Nat) ^ m.toInt.toNat ≤ 2 ^ 15 := Nat.pow_le_pow_right (by decide) (by omega)
            have hpw2 : (2 : Nat) ^ 15 = 32768 := rfl
            have htx19 := z_of_u (x := x19) (by omega)
            have hpc : (2 : Int) ^ m.toInt.toNat = ((2 ^ m.toInt.toNat : Nat) : Int) := by rw [Int.natCast_pow]; rfl
            have hn6 : n.toInt = (poC (ez_I h 124) 64 : Nat) := by rw [show (64 : Nat) = i.toInt.toNat by omega]; omega
            refine z_b2 (fun c20 => ?_) (fun c20 => ?_)
            · have c20 : n.toInt ≤ x19.toInt := c20
              refine gw_skip _ ?_
              have hp2 : (poC (ez_I h 124) 64 : Int) ≤ 2 ^ m.toInt.toNat := by omega
              refine z_C (m := 0) rfl rfl (fun x21 ex21 => ?_)
              refine z_pI (zT S2 (by decide) rfl) (fun h22 e23 => ?_)
              have S24 := zSh_set S2 e23
              have F25 := zG_setF F e23 (by decide)
              have f26 : ez_I h22 71 0 = x21 := zI_eq e23
              have A27 : ez_I h22 125 = ez_I h 125 ∧ True := by rw [zI_fn e23 125 (by decide)]; exact A_s5
              refine gw_ld rfl rfl ?_
              refine z_gI2 (by decide) (zT S24 (by decide) rfl) (f26) ?_
              refine z_b1 (fun c28 => ?_) (fun c28 => ?_)
              · have c28 : x21.toInt ≤ 0 := c28
                refine gw_skip _ ?_
                refine gw_ld rfl rfl ?_
                refine gw_ld rfl rfl ?_
                refine z_gR (q := 124) (zT S24 (by decide) rfl) (zRf S24 (by decide) (by decide) rfl) (by decide) ?_
                refine z_C (m := 64) rfl rfl (fun x29 ex29 => ?_)
                refine gw_ld rfl rfl ?_
                refine gw_ld rfl rfl ?_
                refine z_gR (q := 125) (zT S24 (by decide) rfl) (zRf S24 (by decide) (by decide) rfl) (by decide) ?_
                have t30 := congrArg Int32.toInt (f26)
                refine z_cl rfl rfl rfl rfl rfl rfl rfl rfl rfl rfl rfl (zT S24 (by decide) rfl) ?_
                refine m_lenF (u := 124) (w := 125) (al := x29) (li := m) (mx := 1000000) S24 (show zA 124 64 from fun _ S => ⟨zT S (by decide) rfl, zN S (by decide) rfl⟩) (show zA 125 64 from fun _ S => ⟨zT S (by decide) rfl, zN S (by decide) rfl⟩) (by decide) (by omega) (by omega) (by rw [zG_fn F25 124 (by decide) (by decide), show x29.toInt.toNat = 64 by omega]; exact hU) (by decide) (by rw [show x29.toInt.toNat = 64 by omega]; decide) (by rw [zG_fn F25 124 (by decide) (by decide), show x29.toInt.toNat = 64 by omega]; exact hp2) (fun h31 F32 k33 => ?_)
                rw [zG_fn F25 124 (by decide) (by decide), show x29.toInt.toNat = 64 by omega] at k33
                have S34 := zG_sh F32 S24
                have F35 := zG_tr F25 (zG_mono F32 (fun k hk => by first | omega | exact False.elim hk) (fun k hk => by first | omega | exact False.elim hk))
                have f36 : ez_I h31 71 0 = x21 := (zG_f F32 (by decide)).trans (f26)
                refine z_C (m := 0) rfl rfl (fun x37 ex37 => ?_)
                refine gw_st rfl rfl rfl ?_
                show ez_gw _ _ _ _ _ _ _ _ [some (.ref 71), some (.int m), some (.int n), some (.int x37), l4] _ _ _
                refine z_C (m := 0) rfl rfl (fun x38 ex38 => ?_)
                refine gw_st rfl rfl rfl ?_
                show ez_gw _ _ _ _ _ _ _ _ [some (.ref 71), some (.int m), some (.int n), some (.int x37), some (.int x38)] _ _ _
                have t39 := congrArg Int32.toInt (f36)
                exact ez_Wp_at ((m_measF_L1 (m := m) S hU K (((100 - x38.toInt)).toNat + 1)) h31 n x37 x38 F35 (by omega) k33 ((by rw [show x38.toInt.toNat = 0 by omega]; exact z_inj (by omega : x37.toInt = 0))) (hp2) (by omega)) rfl
              · have c28 : ¬ (x21.toInt ≤ 0) := c28
                exfalso; omega
            · have c20 : ¬ (n.toInt ≤ x19.toInt) := c20
              have hp3 : ¬ (poC (ez_I h 124) 64 : Int) ≤ 2 ^ m.toInt.toNat := by omega
              refine z_C (m := 2) rfl rfl (fun x40 ex40 => ?_)
              refine z_go ?_
              refine gw_skip _ ?_
              refine z_pI (zT S2 (by decide) rfl) (fun h41 e42 => ?_)
              have S43 := zSh_set S2 e42
              have F44 := zG_setF F e42 (by decide)
              have f45 : ez_I h41 71 0 = x40 := zI_eq e42
              have A46 : ez_I h41 125 = ez_I h 125 ∧ True := by rw [zI_fn e42 125 (by decide)]; exact A_s5
              refine gw_ld rfl rfl ?_
              refine z_gI2 (by decide) (zT S43 (by decide) rfl) (f45) ?_
              refine z_b1 (fun c47 => ?_) (fun c47 => ?_)
              · have c47 : x40.toInt ≤ 0 := c47
                exfalso; omega
              · have c47 : ¬ (x40.toInt ≤ 0) := c47
                refine z_C (m := 0) rfl rfl (fun x48 ex48 => ?_)
                refine z_ri ?_
                have t49 := congrArg Int32.toInt (f45)
                exact K _ x48 F44 (by first | (rw [if_pos (by omega)]; omega) | (rw [if_neg (fun q => q (by omega)), if_pos hp3]; omega)) (fun q => by exfalso; first | omega | exact hp3 q.2) (fun _ => (A46).1)
          · have c17 : ¬ (m.toInt ≤ x16.toInt) := c17
            refine z_C (m := 1) rfl rfl (fun x50 ex50 => ?_)
            refine z_go ?_
            refine gw_skip _ ?_
            refine z_pI (zT S2 (by decide) rfl) (fun h51 e52 => ?_)
            have S53 := zSh_set S2 e52
            have F54 := zG_setF F e52 (by decide)
            have f55 : ez_I h51 71 0 = x50 := zI_eq e52
            have A56 : ez_I h51 125 = ez_I h 125 ∧ True := by rw [zI_fn e52 125 (by decide)]; exact A_s5
            refine gw_ld rfl rfl ?_
            refine z_gI2 (by decide) (zT S53 (by decide) rfl) (f55) ?_
            refine z_b1 (fun c57 => ?_) (fun c57 => ?_)
            · have c57 : x50.toInt ≤ 0 := c57
              exfalso; omega
            · have c57 : ¬ (x50.toInt ≤ 0) := c57
              refine z_C (m := 0) rfl rfl (fun x58 ex58 => ?_)
              refine z_ri ?_
              have t59 := congrArg Int32.toInt (f55)
              exact K _ x58 F54 (by first | (rw [if_pos (by omega)]; omega) | (rw [if_neg (fun q => q (by omega)), if_pos hp3]; omega)) (fun q => by exfalso; first | omega | exact hp3 q.2) (fun _ => (A56).1)
      · have c3 : ¬ (x2.toInt ≤ i.toInt) := c3
        refine gw_ld rfl rfl ?_
        refine gw_ld rfl rfl ?_
        refine z_gR (q := 124) (zT S2 (by decide) rfl) (zRf S2 (by decide) (by decide) rfl) (by decide) ?_
        refine gw_ld rfl rfl ?_
        refine z_iaV (n := 64) (zT S2 (by decide) rfl) (zN S2 (by decide) rfl) (by omega) (zG_a F (by decide) (by decide)) ?_
        generalize ex60 : ez_I h 124 i.toInt.toNat = x60
        have rx60 := z_rng x60
        have yx60 := hU i.toInt.toNat (by omega)
        rw [ex60] at yx60
        refine z_b1 (fun c61 => ?_) (fun c61 => ?_)
        · have c61 : x60.toInt ≤ 0 := c61
          refine gw_skip _ ?_
          refine z_C (m := 0) rfl rfl (fun x62 ex62 => ?_)
          refine z_add (by omega) (fun x63 ex63 => ?_)
          refine gw_st rfl rfl rfl ?_
          show ez_gw _ _ _ _ _ _ _ _ [some (.ref 71), some (.int m), some (.int x63), some (.int i), l4] _ _ _
          refine z_inc rfl (by rw [show (1 : Int32).toInt = 1 from rfl]; omega) (fun x64 ex64 => ?_)
          rw [show (1 : Int32).toInt = 1 from rfl] at ex64
          show ez_gw _ _ _ _ _ _ _ _ [some (.ref 71), some (.int m), some (.int x63), some (.int x64), l4] _ _ _
          refine z_go ?_
          exact ih h2 x63 x64 (l4) F (⟨by omega, by omega, by omega, by omega, poC_n ex60 (by omega) (by omega) (by omega)⟩) (A_s5) (by omega)
        · have c61 : ¬ (x60.toInt ≤ 0) := c61
          refine z_C (m := 1) rfl rfl (fun x65 ex65 => ?_)
          refine z_go ?_
          refine gw_skip _ ?_
          refine z_add (by omega) (fun x66 ex66 => ?_)
          refine gw_st rfl rfl rfl ?_
          show ez_gw _ _ _ _ _ _ _ _ [some (.ref 71), some (.int m), some (.int x66), some (.int i), l4] _ _ _
          refine z_inc rfl (by rw [show (1 : Int32).toInt = 1 from rfl]; omega) (fun x67 ex67 => ?_)
          rw [show (1 : Int32).toInt = 1 from rfl] at ex67
          show ez_gw _ _ _ _ _ _ _ _ [some (.ref 71), some (.int m), some (.int x66), some (.int x67), l4] _ _ _
          refine z_go ?_
          exact ih h2 x66 x67 (l4) F (⟨by omega, by omega, by omega, by omega, poC_y ex60 (by omega) (by omega) (by omega)⟩) (A_s5) (by omega)
set_option maxRecDepth 4000 in
set_option maxHeartbeats 20000000 in
theorem m_measF {E : Nat → Nat × (Nat → Int32)} {d : Nat} {Q : ez_Q} {h : ez_H} {m : Int32} (S : zSh h) (hU : aR (ez_I h 124) 64 0 1000000) (K : ∀ h2 (x : Int32), zG (fun k => k = 0) (fun q => 110 ≤ q ∧ q ≤ 114 ∨ q = 125) h h2 → ((ez_I h2 71 0).toInt = (if ¬ (1 ≤ m.toInt ∧ m.toInt ≤ 15) then 1 else if ¬ (poC (ez_I h 124) 64 : Int) ≤ 2 ^ m.toInt.toNat then 2 else 0)) → ((1 ≤ m.toInt ∧ m.toInt ≤ 15) ∧ (poC (ez_I h 124) 64 : Int) ≤ 2 ^ m.toInt.toNat → lnP (ez_I h 124) (ez_I h2 125) 64 m.toInt.toNat ∧ x = wsI (ez_I h 124) (ez_I h2 125) 64) → (¬ ((1 ≤ m.toInt ∧ m.toInt ≤ 15) ∧ (poC (ez_I h 124) 64 : Int) ≤ 2 ^ m.toInt.toNat) → ez_I h2 125 = ez_I h 125) → Q (.inl (some (.int x))) h2) : pw E (d + 2) 64 0 [some (.ref 71), some (.int m), none, none, none] [] h Q := by
  have gm := z_rng m
  have F := zG_refl (fun k => k = 0) (fun q => 110 ≤ q ∧ q ≤ 114 ∨ q = 125) h
  apply ez_Wp_in
  show ez_gw _ _ _ _ _ _ (cz_64) _ _ _ _ _
  refine gw_skip _ ?_
  have r1 := z_rng (ez_I h 71 0)
  refine z_C (m := 0) rfl rfl (fun x2 ex2 => ?_)
  refine gw_st rfl rfl rfl ?_
  show ez_gw _ _ _ _ _ _ _ _ [some (.ref 71), some (.int m), some (.int x2), none, none] _ _ _
  refine z_C (m := 0) rfl rfl (fun x3 ex3 => ?_)
  refine gw_st rfl rfl rfl ?_
  show ez_gw _ _ _ _ _ _ _ _ [some (.ref 71), some (.int m), some (.int x2), some (.int x3), none] _ _ _
  exact ez_Wp_at ((m_measF_L0 (m := m) S hU K (((100 - x3.toInt)).toNat + 1)) h x2 x3 (none) F (by rw [show x3.toInt.toNat = 0 by omega]; have : poC (ez_I h 124) 0 = 0 := rfl; omega) (⟨rfl, trivial⟩) (by omega)) rfl
end
