/-! counting down, and the maker as a whole -/
theorem z_and511 {x y z : Int32} (hx : 0 ≤ x.toInt) (hy : y.toInt = 511) (hz : z = x &&& y) : z.toInt = x.toInt % 512 := by
  have ey : y = 511 := z_inj hy
  subst ey
  have h1 := z_u hx
  have h2 : ev_u z = ev_u x % 512 := by
    rw [hz, ef_and_ok]
    show ev_u x &&& (2 ^ 9 - 1) = _
    rw [Nat.and_two_pow_sub_one_eq_mod]
  have := z_of_u (x := z) (by omega)
  omega
theorem z_bit {x r o a z : Int32} {t : Nat} (hx : ev_u x < 2147483648) (hr : r.toInt = t) (ht : t < 16) (ho : o.toInt = 1) (ha : a = x >>> (r &&& 31)) (hz : z = a &&& o) : (z.toInt = 1 ∧ (ev_u x).testBit t = true) ∨ (z.toInt = 0 ∧ ¬ (ev_u x).testBit t = true) := by
  have eo : o = 1 := z_inj ho
  subst eo
  have hx0 := z_of_u hx
  have h1 : a.toInt = x.toInt / 2 ^ t := by rw [ha]; exact z_shr hr (by omega)
  have hp : (2 : Int) ^ t = ((2 ^ t : Nat) : Int) := by rw [Int.natCast_pow]; rfl
  have h0 : a.toInt = ((ev_u x / 2 ^ t : Nat) : Int) := by rw [h1, hx0, hp, Int.natCast_ediv]
  have h2 := z_u (x := a) (by rw [h0]; exact Int.natCast_nonneg _)
  have h3 : ev_u a = ev_u x / 2 ^ t := by exact_mod_cast h2.trans h0
  have h4 : ev_u z = ev_u x / 2 ^ t % 2 := by
    rw [hz, ef_and_ok]
    show ev_u a &&& 1 = _
    rw [Nat.and_one_is_mod, h3]
  have h6 : (ev_u x).testBit t = decide (ev_u x / 2 ^ t % 2 = 1) := Nat.testBit_eq_decide_div_mod_eq
  clear h0 h1 h3 h2
  generalize ev_u x / 2 ^ t = q at *
  have h5 := z_of_u (x := z) (by omega)
  by_cases c : q % 2 = 1
  · refine .inl ⟨by omega, ?_⟩
    rw [h6]; exact decide_eq_true c
  · refine .inr ⟨by omega, ?_⟩
    rw [h6]
    intro w
    exact c (of_decide_eq_true w)
def kS (K : Nat → Int32) (j : Nat) : Int := (K j).toInt % 512
def syK (K : Nat → Int32) (n al : Nat) : Prop := ∀ j, j < n → (0 ≤ (K j).toInt ∧ kS K j < al) ∧ ∀ i, i < n → i ≠ j → kS K j ≠ kS K i
def cdI (R K : Nat → Int32) (n al : Nat) (c : Nat → Int) : Prop := (∀ j, j < n → (R (kS K j).toNat).toInt = c j) ∧ ∀ s : Nat, s < al → (∀ j, j < n → kS K j ≠ s) → (R s).toInt = 0
theorem cdI_c {R K : Nat → Int32} {n al : Nat} {c c' : Nat → Int} (A : cdI R K n al c) (h : ∀ j, j < n → c j = c' j) : cdI R K n al c' := ⟨fun j hj => (A.1 j hj).trans (h j hj), A.2⟩
theorem cdI_0 {R K : Nat → Int32} {n al : Nat} {c : Nat → Int} (Z : aR R al 0 0) (S : syK K n al) (h : ∀ j, j < n → c j = 0) : cdI R K n al c := ⟨fun j hj => by
  have a := (S j hj).1
  have b : 0 ≤ kS K j := by unfold kS; omega
  have := Z (kS K j).toNat (by omega)
  rw [h j hj]; omega, fun s hs _ => by have := Z s hs; omega⟩
theorem cdI_s {R R' K : Nat → Int32} {n al k : Nat} {c c' : Nat → Int} (A : cdI R K n al c) (S : syK K n al) (U : upd1 R R' (kS K k).toNat) (hk : k < n) (h : ∀ j, j < n → c' j = c j + unit1 k j) : cdI R' K n al c' := by
  have b : ∀ j, 0 ≤ kS K j := fun j => by unfold kS; omega
  refine ⟨fun j hj => ?_, fun s hs hne => ?_⟩
  · by_cases e : j = k
    · subst e
      rw [U.1, A.1 j hj, h j hj]
      unfold unit1
      simp only [↓reduceIte]
    · have d := (S j hj).2 k hk (fun q => e q.symm)
      have b1 := b j
      have b2 := b k
      rw [U.2 _ (by omega), A.1 j hj, h j hj]
      unfold unit1
      simp only [e, ↓reduceIte]
      omega
  · have d := hne k hk
    have b2 := b k
    rw [U.2 _ (by omega)]
    exact A.2 s hs hne
noncomputable def FFz (W : Nat → Int) (n : Nat) : Nat → Nat → Nat → Int
  | 0 => fun _ _ => 0
  | t + 1 => FF W n t
theorem FFz_s {W : Nat → Int} {n q tk tk' sy j : Nat} (hs : sy = cS W n q tk) (ht : tk' = 2 * (tk - sy)) : FFz W n (q + 1) tk j = lt1 sy j + FFz W n q tk' j := by
  subst hs; subst ht
  cases q with
  | zero =>
    show lt1 (tk : Int) j = lt1 ((cS W n 0 tk : Nat) : Int) j + 0
    show lt1 (tk : Int) j = lt1 (tk : Int) j + 0
    omega
  | succ t => rfl
theorem FFz_bd (W : Nat → Int) (n j : Nat) (q k : Nat) (hq : q ≤ 15) : 0 ≤ FFz W n q k j ∧ FFz W n q k j ≤ 15 := by
  cases q with
  | zero => exact ⟨Int.le_refl _, by show (0 : Int) ≤ 15; decide⟩
  | succ t =>
    have := FF_bd W n j t k
    show 0 ≤ FF W n t k j ∧ FF W n t k j ≤ 15
    omega
theorem cS_lt {W : Nat → Int} {n q i : Nat} (h : sgB W n q i) (hi : i < rz n q) : cS W n q i < n := by
  cases q with
  | zero => exact hi
  | succ t => exact h.1
theorem cS_rz {W : Nat → Int} {n q tk : Nat} (h : tk ≤ rz n (q + 1)) : 2 * (tk - cS W n (q + 1) tk) ≤ rz n q := xs1_p tk h
theorem cS_le {W : Nat → Int} {n q k : Nat} : cS W n q k ≤ k := by
  cases q with
  | zero => exact Nat.le_refl _
  | succ t => exact (xs1_le k).1
/-- every key is a symbol's -/
theorem cnU_ex {U : Nat → Int32} {x : Int} : ∀ s, 0 < cnU U x s → ∃ a, a < s ∧ 0 < (U a).toInt ∧ kyU U a = x
  | 0, h => by have : cnU U x 0 = 0 := rfl; omega
  | s + 1, h => by
    by_cases c : 0 < (U s).toInt ∧ kyU U s = x
    · exact ⟨s, by omega, c.1, c.2⟩
    · have e : cnU U x (s + 1) = cnU U x s := by
        show cnU U x s + (if 0 < (U s).toInt ∧ kyU U s = x then 1 else 0) = _
        simp only [c, ↓reduceIte]; rfl
      obtain ⟨a, h1, h2⟩ := cnU_ex (U := U) (x := x) s (by omega)
      exact ⟨a, by omega, h2⟩
theorem cnU_one {U : Nat → Int32} {x : Int} : ∀ s, s ≤ 512 → (∀ a, a < s → 0 ≤ (U a).toInt) → cnU U x s ≤ 1
  | 0, _, _ => by show 0 ≤ 1; decide
  | s + 1, hs, hU => by
    have ih := cnU_one (U := U) (x := x) s (by omega) (fun a ha => hU a (by omega))
    show cnU U x s + (if 0 < (U s).toInt ∧ kyU U s = x then 1 else 0) ≤ 1
    by_cases c : 0 < (U s).toInt ∧ kyU U s = x
    · simp only [c, ↓reduceIte]
      have z : cnU U x s = 0 := by
        by_cases d : 0 < cnU U x s
        · obtain ⟨a, h1, h2, h3⟩ := cnU_ex s d
          have := c.2
          unfold kyU at h3 this
          omega
        · omega
      simp only [true_and, and_self, ↓reduceIte]
      omega
    · simp only [c, ↓reduceIte]; exact ih
theorem cnZ_pos {f : Nat → Int} {n j : Nat} (hj : j < n) : 0 < cnZ f (f j) n := by
  induction n with
  | zero => omega
  | succ n ih =>
    by_cases e : j = n
    · subst e; rw [cnZ_y rfl]; omega
    · have := ih (by omega)
      show 0 < cnZ f (f j) n + _
      omega
theorem cnZ_two {f : Nat → Int} {n i j : Nat} (hi : i < n) (hj : j < n) (hne : i ≠ j) (he : f i = f j) : 2 ≤ cnZ f (f j) n := by
  induction n with
  | zero => omega
  | succ n ih =>
    by_cases c : j = n
    · subst c
      rw [cnZ_y rfl]
      have := cnZ_pos (f := f) (n := j) (j := i) (by omega)
      rw [he] at this
      omega
    · by_cases d : i = n
      · subst d
        rw [cnZ_y he]
        have := cnZ_pos (f := f) (n := i) (j := j) (by omega)
        omega
      · have := ih (by omega) (by omega)
        show 2 ≤ cnZ f (f j) n + _
        omega
theorem cK_mem {U K : Nat → Int32} {n al j : Nat} (A : cK U K n al) (hj : j < n) : ∃ s, s < al ∧ 0 < (U s).toInt ∧ (K j).toInt = kyU U s := by
  have h := cnZ_pos (f := kfn K) hj
  rw [A.2] at h
  obtain ⟨s, h1, h2, h3⟩ := cnU_ex al h
  exact ⟨s, h1, h2, h3.symm⟩
theorem cK_sy {U K : Nat → Int32} {n al : Nat} (A : cK U K n al) (hal : al ≤ 512) (hU : ∀ a, a < al → 0 ≤ (U a).toInt) : syK K n al := fun j hj => by
  obtain ⟨s, h1, h2, h3⟩ := cK_mem A hj
  refine ⟨?_, fun i hi hne e => ?_⟩
  · unfold kS
    rw [h3]
    unfold kyU
    omega
  · obtain ⟨s', g1, g2, g3⟩ := cK_mem A hi
    have es : s = s' := by
      unfold kS at e
      rw [h3, g3] at e
      unfold kyU at e
      omega
    subst es
    have t := cnZ_two (f := kfn K) hi hj hne (show (K i).toInt = (K j).toInt by rw [h3, g3])
    have o := cnU_one (U := U) (x := kfn K j) al hal hU
    rw [A.2] at t
    omega
theorem cK_kw {U K : Nat → Int32} {n al : Nat} {mx : Int} (A : cK U K n al) (hal : al ≤ 512) (hU : aR U al 0 mx) : ∀ j, j < n → (0 ≤ (K j).toInt / 512 ∧ (K j).toInt / 512 ≤ mx) ∧ 0 ≤ (K j).toInt := fun j hj => by
  obtain ⟨s, h1, h2, h3⟩ := cK_mem A hj
  have := hU s h1
  rw [h3]
  unfold kyU
  omega
theorem poC_le (U : Nat → Int32) : ∀ s, poC U s ≤ s
  | 0 => Nat.le_refl _
  | s + 1 => by
    have := poC_le U s
    show poC U s + (if 0 < (U s).toInt then 1 else 0) ≤ s + 1
    split <;> omega
noncomputable def WK (K : Nat → Int32) (n : Nat) : Nat → Int := cut1 n (fun i => kfn K i / 512)
theorem WK_kw {K : Nat → Int32} {n : Nat} (h : ∀ j, j < n → 0 ≤ (K j).toInt) : kwI (WK K n) K n := fun i hi => ⟨cut1_e hi, h i hi⟩
theorem WK_b {U K : Nat → Int32} {n al : Nat} {mx : Int} (A : cK U K n al) (hal : al ≤ 512) (hU : aR U al 0 mx) (hn : n ≤ al) (hm : 0 ≤ mx) (hB : (al : Int) * mx ≤ 100000000) : (∀ j, j < n → 0 ≤ WK K n j) ∧ sm (WK K n) n ≤ 100000000 := by
  have r : ∀ j, j < n → 0 ≤ WK K n j ∧ WK K n j ≤ mx := fun j hj => by
    have := (cK_kw A hal hU j hj).1
    rw [show WK K n j = kfn K j / 512 from cut1_e hj]
    exact this
  refine ⟨fun j hj => (r j hj).1, ?_⟩
  have h1 : sm (WK K n) n ≤ sm (fun _ => mx) n := sm_le (fun k hk => (r k hk).2)
  rw [sm_const] at h1
  have h2 : mx * (n : Int) ≤ mx * al := Int.mul_le_mul_of_nonneg_left (by omega) hm
  rw [Int.mul_comm mx al] at h2
  omega
theorem cK_cS {U K K' : Nat → Int32} {n al : Nat} (A : cK U K n al) (B : cS2 (kfn K') (kfn K) n) : cK U K' n al := ⟨A.1, fun x => by rw [B x]; exact A.2 x⟩
/-- the lengths are those -/
theorem lnP_K {U K R : Nat → Int32} {n al li : Nat} (A : cK U K n al) (S : n ≠ 0 → soS (kfn K) n) (C : cdI R K n al (fun j => if n = 1 then 1 else FF (WK K n) n (li - 1) (2 * n - 2) j)) : lnP U R al li := by
  refine ⟨n, kfn K, A.1, fun i hi => S (by omega) i hi, A.2, fun j hj => ?_, fun s hs hne => C.2 s hs hne⟩
  exact C.1 j hj
theorem cS_rz2 {W : Nat → Int} {n q tk : Nat} (hq : 1 ≤ q) (h : tk ≤ rz n q) : 2 * (tk - cS W n q tk) ≤ rz n (q - 1) := by
  obtain ⟨t, rfl⟩ : ∃ t, q = t + 1 := ⟨q - 1, by omega⟩
  exact cS_rz h
/-! PRINTED by wip/p18/con21.py: the class's maker of lengths: counting down -/
set_option maxRecDepth 4000 in
set_option maxHeartbeats 20000000 in
theorem f_lengthen {E : Nat → Nat × (Nat → Int32)} {d : Nat} {Q : ez_Q} {h : ez_H} {w : Nat} {k : Int32} (S : zSh h) {nw : Nat} (hw : zA w nw) (hd : w ≠ 10 ∧ w ≠ 13) (hk : 0 ≤ k.toInt ∧ k.toInt < 288 ∧ nw ≤ 1000) (hK : 0 ≤ (ez_I h 10 k.toInt.toNat).toInt ∧ kS (ez_I h 10) k.toInt.toNat < nw) (hR : -1000 ≤ (ez_I h w (kS (ez_I h 10) k.toInt.toNat).toNat).toInt ∧ (ez_I h w (kS (ez_I h 10) k.toInt.toNat).toNat).toInt ≤ 1000) (K : ∀ h2, zK (fun q => q = w) (fun _ => False) h h2 → upd1 (ez_I h w) (ez_I h2 w) (kS (ez_I h 10) k.toInt.toNat).toNat → Q (.inl none) h2) : pw E d 107 0 [some (.ref 9), some (.ref w), some (.int k), none] [] h Q := by
  have gk := z_rng k
  have F := zK_refl (fun q => q = w) (fun _ => False) h
  apply ez_Wp_in
  show ez_gw _ _ _ _ _ _ (cz_107) _ _ _ _ _
  refine gw_skip _ ?_
  refine gw_ld rfl rfl ?_
  refine z_b1 (fun c1 => ?_) (fun c1 => ?_)
  · have c1 : k.toInt < 0 := c1
    refine gw_skip _ ?_
    refine z_C (m := -1) rfl rfl (fun x2 ex2 => ?_)
    refine gw_st rfl rfl rfl ?_
    show ez_gw _ _ _ _ _ _ _ _ [some (.ref 9), some (.ref w), some (.int k), some (.int x2)] _ _ _
    refine gw_ld rfl rfl ?_
    refine z_b1 (fun c3 => ?_) (fun c3 => ?_)
    · have c3 : x2.toInt < 0 := c3
      refine gw_skip _ ?_
      refine z_rv ?_
      exfalso; omega
    · have c3 : ¬ (x2.toInt < 0) := c3
      exfalso; omega
  · have c1 : ¬ (k.toInt < 0) := c1
    refine gw_ld rfl rfl ?_
    refine gw_ld rfl rfl ?_
    refine z_gR (q := 10) (zT S (by decide) rfl) (zRf S (by decide) (by decide) rfl) (by decide) ?_
    refine z_al (n := 288) (.inl (zT S (by decide) rfl)) (zN S (by decide) rfl) (by omega) (fun x4 ex4 => ?_)
    refine z_b2 (fun c5 => ?_) (fun c5 => ?_)
    · have c5 : x4.toInt ≤ k.toInt := c5
      refine gw_skip _ ?_
      refine z_C (m := -1) rfl rfl (fun x6 ex6 => ?_)
      refine gw_st rfl rfl rfl ?_
      show ez_gw _ _ _ _ _ _ _ _ [some (.ref 9), some (.ref w), some (.int k), some (.int x6)] _ _ _
      refine gw_ld rfl rfl ?_
      refine z_b1 (fun c7 => ?_) (fun c7 => ?_)
      · have c7 : x6.toInt < 0 := c7
        refine gw_skip _ ?_
        refine z_rv ?_
        exfalso; omega
      · have c7 : ¬ (x6.toInt < 0) := c7
        exfalso; omega
    · have c5 : ¬ (x4.toInt ≤ k.toInt) := c5
      refine gw_ld rfl rfl ?_
      refine z_gR (q := 10) (zT S (by decide) rfl) (zRf S (by decide) (by decide) rfl) (by decide) ?_
      refine gw_ld rfl rfl ?_
      refine z_iaV (n := 288) (zT S (by decide) rfl) (zN S (by decide) rfl) (by omega) (zK_a F (by omega)) ?_
      generalize ex8 : ez_I h 10 k.toInt.toNat = x8
      have rx8 := z_rng x8
      have ksx8 : kS (ez_I h 10) k.toInt.toNat = x8.toInt % 512 := by unfold kS; rw [ex8]
      rw [ksx8] at hK hR
      rw [ex8] at hK
      refine z_C (m := 511) rfl rfl (fun x9 ex9 => ?_)
      refine z_and (fun x10 ex10 ux10 wx10 => ?_)
      have rx10 := z_rng x10
      replace ux10 := ux10 (by omega)
      clear wx10
      have ox10 := z_and511 (by omega) (by omega) ex10
      refine z_go ?_
      refine gw_skip _ ?_
      refine gw_st rfl rfl rfl ?_
      show ez_gw _ _ _ _ _ _ _ _ [some (.ref 9), some (.ref w), some (.int k), some (.int x10)] _ _ _
      refine gw_ld rfl rfl ?_
      refine z_b1 (fun c11 => ?_) (fun c11 => ?_)
      · have c11 : x10.toInt < 0 := c11
        refine gw_skip _ ?_
        refine z_rv ?_
        exfalso; omega
      · have c11 : ¬ (x10.toInt < 0) := c11
        refine gw_ld rfl rfl ?_
        refine gw_ld rfl rfl ?_
        refine z_al (n := nw) (.inl ((hw _ S).1)) ((hw _ S).2) (by omega) (fun x12 ex12 => ?_)
        refine z_b2 (fun c13 => ?_) (fun c13 => ?_)
        · have c13 : x12.toInt ≤ x10.toInt := c13
          refine gw_skip _ ?_
          refine z_rv ?_
          exfalso; omega
        · have c13 : ¬ (x12.toInt ≤ x10.toInt) := c13
          refine gw_ld rfl rfl ?_
          refine gw_ld rfl rfl ?_
          refine gw_op rfl ?_
          refine z_ia (n := nw) ((hw _ S).1) ((hw _ S).2) (by omega) ?_
          generalize ex14 : ez_I h w x10.toInt.toNat = x14
          have rx14 := z_rng x14
          rw [show (x8.toInt % 512).toNat = x10.toInt.toNat by omega, ex14] at hR
          refine z_C (m := 1) rfl rfl (fun x15 ex15 => ?_)
          refine z_add (by omega) (fun x16 ex16 => ?_)
          refine z_is (n := nw) ((hw _ S).1) ((hw _ S).2) (by omega) (fun h17 e18 => ?_)
          have S19 := zSh_set S e18
          have F20 := zK_set F e18 (by omega)
          have A21 : upd1 (ez_I h w) (ez_I h17 w) (kS (ez_I h 10) k.toInt.toNat).toNat := by rw [ksx8, show (x8.toInt % 512).toNat = x10.toInt.toNat by omega]; exact upd1_of e18 ex14 (by omega)
          refine z_rv ?_
          exact K _ F20 A21
set_option maxRecDepth 4000 in
set_option maxHeartbeats 20000000 in
theorem f_down_L0 {E : Nat → Nat × (Nat → Int32)} {d : Nat} {Q : ez_Q} {h : ez_H} {n : Int32} {li : Int32} {w : Nat} (S : zSh h) {W : Nat → Int} {al : Nat} {nw : Nat} (hw : zA w nw) (hd : w ≠ 10 ∧ w ≠ 13) (hn : 2 ≤ n.toInt ∧ n.toInt ≤ 288 ∧ al ≤ nw ∧ nw ≤ 1000) (hl : 1 ≤ li.toInt ∧ li.toInt ≤ 15) (hal : alB (ez_I h 13) W n.toInt.toNat li.toInt.toNat) (hrz : 2 * n.toInt.toNat - 2 ≤ rz n.toInt.toNat (li.toInt.toNat - 1)) (hS : syK (ez_I h 10) n.toInt.toNat al) (h0 : aR (ez_I h w) al 0 0) (K : ∀ h2, zK (fun q => q = w) (fun _ => False) h h2 → cdI (ez_I h2 w) (ez_I h 10) n.toInt.toNat al (fun j => FF W n.toInt.toNat (li.toInt.toNat - 1) (2 * n.toInt.toNat - 2) j) → Q (.inl none) h2) : ∀ N : Nat, (∀ (h2 : ez_H) (tk : Int32) (rd : Int32) (l6 : Option Value) (l7 : Option Value) , zK (fun q => q = w) (fun _ => False) h h2 → (-1 ≤ rd.toInt ∧ rd.toInt < li.toInt ∧ 0 ≤ tk.toInt ∧ tk.toInt ≤ 600 ∧ (0 ≤ rd.toInt → tk.toInt ≤ (rz n.toInt.toNat rd.toInt.toNat : Nat))) → cdI (ez_I h2 w) (ez_I h 10) n.toInt.toNat al (fun j => FF W n.toInt.toNat (li.toInt.toNat - 1) (2 * n.toInt.toNat - 2) j - FFz W n.toInt.toNat (rd.toInt + 1).toNat tk.toInt.toNat j) → (1000 * (rd.toInt + 1)) < (N : Int) → pw E (d + 1) 106 12 [some (.ref 9), some (.int n), some (.int li), some (.ref w), some (.int tk), some (.int rd), l6, l7] [] h2 Q) ∧ (∀ (h2 : ez_H) (tk : Int32) (rd : Int32) (sy : Int32) (i : Int32) , zK (fun q => q = w) (fun _ => False) h h2 → (0 ≤ rd.toInt ∧ rd.toInt < li.toInt ∧ 0 ≤ tk.toInt ∧ tk.toInt ≤ 600 ∧ tk.toInt ≤ (rz n.toInt.toNat rd.toInt.toNat : Nat) ∧ 0 ≤ i.toInt ∧ i.toInt ≤ tk.toInt ∧ sy.toInt = (cS W n.toInt.toNat rd.toInt.toNat i.toInt.toNat : Nat)) → cdI (ez_I h2 w) (ez_I h 10) n.toInt.toNat al (fun j => FF W n.toInt.toNat (li.toInt.toNat - 1) (2 * n.toInt.toNat - 2) j - FFz W n.toInt.toNat (rd.toInt + 1).toNat tk.toInt.toNat j + lt1 sy.toInt j) → (1000 * (rd.toInt + 1) - 900 + (800 - i.toInt)) < (N : Int) → pw E (d + 1) 106 23 [some (.ref 9), some (.int n), some (.int li), some (.ref w), some (.int tk), some (.int rd), some (.int sy), some (.int i)] [] h2 Q) := by
  intro N
  induction N with
  | zero => exact ⟨fun h2 tk rd l6 l7  F hinv A_cd hm => absurd hm (by have w_tk := z_rng tk; have w_rd := z_rng rd; have gn := z_rng n; have gli := z_rng li; omega), fun h2 tk rd sy i  F hinv A_ci hm => absurd hm (by have w_tk := z_rng tk; have w_rd := z_rng rd; have w_sy := z_rng sy; have w_i := z_rng i; have gn := z_rng n; have gli := z_rng li; omega)⟩
  | succ N ih =>
    refine ⟨fun h2 tk rd l6 l7  F hinv A_cd hm => ?_, fun h2 tk rd sy i  F hinv A_ci hm => ?_⟩
    · skip
      have w_tk := z_rng tk
      have w_rd := z_rng rd
      have gn := z_rng n
      have gli := z_rng li
      have S2 := zK_sh F S
      apply ez_Wp_in
      show ez_gw _ _ _ _ _ _ (cz_106) _ _ _ _ _
      refine gw_skip _ ?_
      refine gw_ld rfl rfl ?_
      refine z_b1 (fun c1 => ?_) (fun c1 => ?_)
      · have c1 : rd.toInt < 0 := c1
        refine gw_skip _ ?_
        refine z_rv ?_
        exact K _ F (cdI_c A_cd (fun j _ => by rw [show (rd.toInt + 1).toNat = 0 by omega]; exact Int.sub_zero _))
      · have c1 : ¬ (rd.toInt < 0) := c1
        refine z_C (m := 0) rfl rfl (fun x2 ex2 => ?_)
        refine gw_st rfl rfl rfl ?_
        show ez_gw _ _ _ _ _ _ _ _ [some (.ref 9), some (.int n), some (.int li), some (.ref w), some (.int tk), some (.int rd), some (.int x2), l7] _ _ _
        refine z_C (m := 0) rfl rfl (fun x3 ex3 => ?_)
        refine gw_st rfl rfl rfl ?_
        show ez_gw _ _ _ _ _ _ _ _ [some (.ref 9), some (.int n), some (.int li), some (.ref w), some (.int tk), some (.int rd), some (.int x2), some (.int x3)] _ _ _
        exact ez_Wp_at (ih.2 h2 tk rd x2 x3 F (by rw [show x3.toInt.toNat = 0 by omega]; have hc0 : cS W n.toInt.toNat rd.toInt.toNat 0 = 0 := Nat.le_antisymm cS_le (Nat.zero_le _); omega) (cdI_c A_cd (fun j _ => by show _ = _ + lt1 x2.toInt j; have : lt1 x2.toInt j = 0 := if_neg (by omega); omega)) (by omega)) rfl
    · skip
      have w_tk := z_rng tk
      have w_rd := z_rng rd
      have w_sy := z_rng sy
      have w_i := z_rng i
      have gn := z_rng n
      have gli := z_rng li
      have S2 := zK_sh F S
      have hcl := cS_le (W := W) (n := n.toInt.toNat) (q := rd.toInt.toNat) (k := i.toInt.toNat)
      have hrl := (rz_le n.toInt.toNat rd.toInt.toNat).2 (by omega)
      have hab : i.toInt < tk.toInt → _ := fun q => hal i.toInt.toNat (by omega)
      apply ez_Wp_in
      show ez_gw _ _ _ _ _ _ (cz_106) _ _ _ _ _
      refine gw_skip _ ?_
      refine gw_ld rfl rfl ?_
      refine gw_ld rfl rfl ?_
      refine z_b2 (fun c4 => ?_) (fun c4 => ?_)
      · have c4 : tk.toInt ≤ i.toInt := c4
        refine gw_skip _ ?_
        refine z_C (m := 2) rfl rfl (fun x5 ex5 => ?_)
        refine gw_ld rfl rfl ?_
        refine gw_ld rfl rfl ?_
        refine z_sub (by omega) (fun x6 ex6 => ?_)
        refine z_mulL (c := 2) ex5 (by omega) (fun x7 ex7 => ?_)
        refine gw_st rfl rfl rfl ?_
        show ez_gw _ _ _ _ _ _ _ _ [some (.ref 9), some (.int n), some (.int li), some (.ref w), some (.int x7), some (.int rd), some (.int sy), some (.int i)] _ _ _
        refine z_inc rfl (by rw [show ((-1) : Int32).toInt = (-1) from rfl]; omega) (fun x8 ex8 => ?_)
        rw [show ((-1) : Int32).toInt = (-1) from rfl] at ex8
        show ez_gw _ _ _ _ _ _ _ _ [some (.ref 9), some (.int n), some (.int li), some (.ref w), some (.int x7), some (.int x8), some (.int sy), some (.int i)] _ _ _
        refine z_go ?_
        exact ih.1 h2 x7 x8 (some (.int sy)) (some (.int i)) F (by have hcr : 1 ≤ rd.toInt.toNat → _ := fun q => cS_rz2 (W := W) (n := n.toInt.toNat) (tk := tk.toInt.toNat) q (by omega); have hc0 : rd.toInt.toNat = 0 → cS W n.toInt.toNat rd.toInt.toNat tk.toInt.toNat = tk.toInt.toNat := fun q => (by rw [q]; rfl); have hrl2 := (rz_le n.toInt.toNat (rd.toInt.toNat - 1)).2 (by omega); rw [show i.toInt.toNat = tk.toInt.toNat by omega] at hinv hcl; refine ⟨by omega, by omega, by omega, by omega, fun q => ?_⟩; rw [show x8.toInt.toNat = rd.toInt.toNat - 1 by omega]; have := hcr (by omega); omega) (cdI_c A_ci (fun j _ => by have e := FFz_s (W := W) (n := n.toInt.toNat) (q := rd.toInt.toNat) (tk := tk.toInt.toNat) (tk' := x7.toInt.toNat) (sy := sy.toInt.toNat) (j := j) (by rw [show tk.toInt.toNat = i.toInt.toNat by omega]; omega) (by omega); rw [show (x8.toInt + 1).toNat = rd.toInt.toNat by omega]; rw [show rd.toInt.toNat + 1 = (rd.toInt + 1).toNat by omega, show ((sy.toInt.toNat : Nat) : Int) = sy.toInt by omega] at e; omega)) (by omega)
      · have c4 : ¬ (tk.toInt ≤ i.toInt) := c4
        refine gw_ld rfl rfl ?_
        refine gw_ld rfl rfl ?_
        refine z_gR (q := 13) (zT S2 (by decide) rfl) (zRf S2 (by decide) (by decide) rfl) (by decide) ?_
        refine z_al (n := 576) (.inl (zT S2 (by decide) rfl)) (zN S2 (by decide) rfl) (by omega) (fun x9 ex9 => ?_)
        refine z_b2 (fun c10 => ?_) (fun c10 => ?_)
        · have c10 : x9.toInt ≤ i.toInt := c10
          refine gw_skip _ ?_
          refine z_C (m := 2) rfl rfl (fun x11 ex11 => ?_)
          refine gw_ld rfl rfl ?_
          refine gw_ld rfl rfl ?_
          refine z_sub (by omega) (fun x12 ex12 => ?_)
          refine z_mulL (c := 2) ex11 (by omega) (fun x13 ex13 => ?_)
          refine gw_st rfl rfl rfl ?_
          show ez_gw _ _ _ _ _ _ _ _ [some (.ref 9), some (.int n), some (.int li), some (.ref w), some (.int x13), some (.int rd), some (.int sy), some (.int i)] _ _ _
          refine z_inc rfl (by rw [show ((-1) : Int32).toInt = (-1) from rfl]; omega) (fun x14 ex14 => ?_)
          rw [show ((-1) : Int32).toInt = (-1) from rfl] at ex14
          show ez_gw _ _ _ _ _ _ _ _ [some (.ref 9), some (.int n), some (.int li), some (.ref w), some (.int x13), some (.int x14), some (.int sy), some (.int i)] _ _ _
          refine z_go ?_
          exact ih.1 h2 x13 x14 (some (.int sy)) (some (.int i)) F (by have hcr : 1 ≤ rd.toInt.toNat → _ := fun q => cS_rz2 (W := W) (n := n.toInt.toNat) (tk := tk.toInt.toNat) q (by omega); have hc0 : rd.toInt.toNat = 0 → cS W n.toInt.toNat rd.toInt.toNat tk.toInt.toNat = tk.toInt.toNat := fun q => (by rw [q]; rfl); have hrl2 := (rz_le n.toInt.toNat (rd.toInt.toNat - 1)).2 (by omega); rw [show i.toInt.toNat = tk.toInt.toNat by omega] at hinv hcl; refine ⟨by omega, by omega, by omega, by omega, fun q => ?_⟩; rw [show x14.toInt.toNat = rd.toInt.toNat - 1 by omega]; have := hcr (by omega); omega) (cdI_c A_ci (fun j _ => by have e := FFz_s (W := W) (n := n.toInt.toNat) (q := rd.toInt.toNat) (tk := tk.toInt.toNat) (tk' := x13.toInt.toNat) (sy := sy.toInt.toNat) (j := j) (by rw [show tk.toInt.toNat = i.toInt.toNat by omega]; omega) (by omega); rw [show (x14.toInt + 1).toNat = rd.toInt.toNat by omega]; rw [show rd.toInt.toNat + 1 = (rd.toInt + 1).toNat by omega, show ((sy.toInt.toNat : Nat) : Int) = sy.toInt by omega] at e; omega)) (by omega)
        · have c10 : ¬ (x9.toInt ≤ i.toInt) := c10
          refine gw_ld rfl rfl ?_
          refine z_gR (q := 13) (zT S2 (by decide) rfl) (zRf S2 (by decide) (by decide) rfl) (by decide) ?_
          refine gw_ld rfl rfl ?_
          refine z_iaV (n := 576) (zT S2 (by decide) rfl) (zN S2 (by decide) rfl) (by omega) (zK_a F (by omega)) ?_
          generalize ex15 : ez_I h 13 i.toInt.toNat = x15
          have rx15 := z_rng x15
          have hb := hab (by omega)
          rw [ex15] at hb
          have hb1 : ev_u x15 < 2147483648 := Nat.lt_of_lt_of_le hb.1 (Nat.le_trans (Nat.pow_le_pow_right (by decide) (show li.toInt.toNat ≤ 15 by omega)) (by decide))
          have hb2 := hb.2 rd.toInt.toNat (by omega)
          refine gw_ld rfl rfl ?_
          refine z_2 rfl (fun x16 ex16 => ?_)
          have rx16 := z_rng x16
          have eA := ex16
          refine z_C (m := 1) rfl rfl (fun x17 ex17 => ?_)
          refine z_and (fun x18 ex18 ux18 wx18 => ?_)
          have rx18 := z_rng x18
          replace ux18 := ux18 (by omega)
          clear wx18
          have ox18 := z_bit hb1 (t := rd.toInt.toNat) (by omega) (by omega) (by omega) eA ex18
          refine z_C (m := 1) rfl rfl (fun x19 ex19 => ?_)
          refine z_b2 (fun c20 => ?_) (fun c20 => ?_)
          · have c20 : x18.toInt ≠ x19.toInt := c20
            refine gw_skip _ ?_
            have hsb : ¬ sgB W n.toInt.toNat rd.toInt.toNat i.toInt.toNat := fun c => by rcases ox18 with q | q; omega; exact q.2 (hb2.mpr ⟨by omega, c⟩)
            have hcy := cS_n hsb
            refine z_inc rfl (by rw [show (1 : Int32).toInt = 1 from rfl]; omega) (fun x21 ex21 => ?_)
            rw [show (1 : Int32).toInt = 1 from rfl] at ex21
            show ez_gw _ _ _ _ _ _ _ _ [some (.ref 9), some (.int n), some (.int li), some (.ref w), some (.int tk), some (.int rd), some (.int sy), some (.int x21)] _ _ _
            refine z_go ?_
            exact ih.2 h2 tk rd sy x21 F (by rw [show x21.toInt.toNat = i.toInt.toNat + 1 by omega]; omega) (A_ci) (by omega)
          · have c20 : ¬ (x18.toInt ≠ x19.toInt) := c20
            have hsb : sgB W n.toInt.toNat rd.toInt.toNat i.toInt.toNat := (hb2.mp (by rcases ox18 with q | q; exact q.2; exfalso; omega)).2
            have hcy := cS_y hsb
            have hcn := cS_lt hsb (by omega)
            refine gw_ld rfl rfl ?_
            refine gw_ld rfl rfl ?_
            refine gw_ld rfl rfl ?_
            refine z_cl rfl rfl rfl rfl rfl rfl rfl rfl rfl rfl rfl (zT S2 (by decide) rfl) ?_
            have hsy := hS sy.toInt.toNat (by omega)
            have hr0 : (ez_I h2 w (kS (ez_I h 10) sy.toInt.toNat).toNat).toInt = FF W n.toInt.toNat (li.toInt.toNat - 1) (2 * n.toInt.toNat - 2) sy.toInt.toNat - FFz W n.toInt.toNat (rd.toInt + 1).toNat tk.toInt.toNat sy.toInt.toNat + lt1 sy.toInt sy.toInt.toNat := A_ci.1 sy.toInt.toNat (by omega)
            have hg0 := FFz_bd W n.toInt.toNat sy.toInt.toNat (li.toInt.toNat - 1 + 1) (2 * n.toInt.toNat - 2) (by omega)
            have hg1 := FFz_bd W n.toInt.toNat sy.toInt.toNat (rd.toInt + 1).toNat tk.toInt.toNat (by omega)
            have hl1 : lt1 sy.toInt sy.toInt.toNat = 0 := if_neg (by omega)
            have hg2 : FFz W n.toInt.toNat (li.toInt.toNat - 1 + 1) (2 * n.toInt.toNat - 2) sy.toInt.toNat = FF W n.toInt.toNat (li.toInt.toNat - 1) (2 * n.toInt.toNat - 2) sy.toInt.toNat := rfl
            refine f_lengthen (w := w) (k := sy) S2 hw (by omega) (by omega) (by rw [zK_fn F 10 (by omega)]; exact ⟨hsy.1.1, by omega⟩) (by rw [zK_fn F 10 (by omega)]; omega) (fun h22 F23 k24 => ?_)
            rw [zK_fn F 10 (by omega)] at k24
            have S25 := zK_sh F23 S2
            have F26 := zK_tr F (zK_mono F23 (fun k hk => by first | omega | exact False.elim hk) (fun k hk => by first | omega | exact False.elim hk))
            have A27 : cdI (ez_I h22 w) (ez_I h 10) n.toInt.toNat al (fun j => FF W n.toInt.toNat (li.toInt.toNat - 1) (2 * n.toInt.toNat - 2) j - FFz W n.toInt.toNat (rd.toInt + 1).toNat tk.toInt.toNat j + lt1 (sy.toInt + 1) j) := cdI_s A_ci hS k24 (by omega) (fun j _ => by have := lt1_up sy.toInt.toNat j; rw [show ((sy.toInt.toNat : Nat) : Int) = sy.toInt by omega] at this; show _ = _ + lt1 sy.toInt j + unit1 sy.toInt.toNat j; omega)
            refine z_inc rfl (by rw [show (1 : Int32).toInt = 1 from rfl]; omega) (fun x28 ex28 => ?_)
            rw [show (1 : Int32).toInt = 1 from rfl] at ex28
            show ez_gw _ _ _ _ _ _ _ _ [some (.ref 9), some (.int n), some (.int li), some (.ref w), some (.int tk), some (.int rd), some (.int x28), some (.int i)] _ _ _
            refine z_inc rfl (by rw [show (1 : Int32).toInt = 1 from rfl]; omega) (fun x29 ex29 => ?_)
            rw [show (1 : Int32).toInt = 1 from rfl] at ex29
            show ez_gw _ _ _ _ _ _ _ _ [some (.ref 9), some (.int n), some (.int li), some (.ref w), some (.int tk), some (.int rd), some (.int x28), some (.int x29)] _ _ _
            refine z_go ?_
            exact ih.2 h22 tk rd x28 x29 F26 (by rw [show x29.toInt.toNat = i.toInt.toNat + 1 by omega]; omega) ((by rw [show x28.toInt = sy.toInt + 1 by omega]; exact A27)) (by omega)
set_option maxRecDepth 4000 in
set_option maxHeartbeats 20000000 in
theorem f_down {E : Nat → Nat × (Nat → Int32)} {d : Nat} {Q : ez_Q} {h : ez_H} {n : Int32} {li : Int32} {w : Nat} (S : zSh h) {W : Nat → Int} {al : Nat} {nw : Nat} (hw : zA w nw) (hd : w ≠ 10 ∧ w ≠ 13) (hn : 2 ≤ n.toInt ∧ n.toInt ≤ 288 ∧ al ≤ nw ∧ nw ≤ 1000) (hl : 1 ≤ li.toInt ∧ li.toInt ≤ 15) (hal : alB (ez_I h 13) W n.toInt.toNat li.toInt.toNat) (hrz : 2 * n.toInt.toNat - 2 ≤ rz n.toInt.toNat (li.toInt.toNat - 1)) (hS : syK (ez_I h 10) n.toInt.toNat al) (h0 : aR (ez_I h w) al 0 0) (K : ∀ h2, zK (fun q => q = w) (fun _ => False) h h2 → cdI (ez_I h2 w) (ez_I h 10) n.toInt.toNat al (fun j => FF W n.toInt.toNat (li.toInt.toNat - 1) (2 * n.toInt.toNat - 2) j) → Q (.inl none) h2) : pw E (d + 1) 106 0 [some (.ref 9), some (.int n), some (.int li), some (.ref w), none, none, none, none] [] h Q := by
  have gn := z_rng n
  have gli := z_rng li
  have F := zK_refl (fun q => q = w) (fun _ => False) h
  apply ez_Wp_in
  show ez_gw _ _ _ _ _ _ (cz_106) _ _ _ _ _
  refine gw_skip _ ?_
  refine z_C (m := 2) rfl rfl (fun x1 ex1 => ?_)
  refine gw_ld rfl rfl ?_
  refine z_mulL (c := 2) ex1 (by omega) (fun x2 ex2 => ?_)
  refine z_C (m := 2) rfl rfl (fun x3 ex3 => ?_)
  refine z_sub (by omega) (fun x4 ex4 => ?_)
  refine gw_st rfl rfl rfl ?_
  show ez_gw _ _ _ _ _ _ _ _ [some (.ref 9), some (.int n), some (.int li), some (.ref w), some (.int x4), none, none, none] _ _ _
  refine gw_ld rfl rfl ?_
  refine z_C (m := 1) rfl rfl (fun x5 ex5 => ?_)
  refine z_sub (by omega) (fun x6 ex6 => ?_)
  refine gw_st rfl rfl rfl ?_
  show ez_gw _ _ _ _ _ _ _ _ [some (.ref 9), some (.int n), some (.int li), some (.ref w), some (.int x4), some (.int x6), none, none] _ _ _
  exact ez_Wp_at ((f_down_L0 (n := n) (li := li) (w := w) S hw hd hn hl hal hrz hS h0 K (((1000 * (x6.toInt + 1))).toNat + 1)).1 h x4 x6 (none) (none) F (by rw [show x6.toInt.toNat = li.toInt.toNat - 1 by omega]; omega) (cdI_0 h0 hS (fun j _ => by rw [show (x6.toInt + 1).toNat = li.toInt.toNat - 1 + 1 by omega, show x4.toInt.toNat = 2 * n.toInt.toNat - 2 by omega]; exact Int.sub_self _)) (by omega)) rfl
