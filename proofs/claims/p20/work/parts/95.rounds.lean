/-! the rounds of the class's maker of lengths -/
def sgB (W : Nat → Int) (n : Nat) : Nat → Nat → Prop
  | 0 => fun _ => True
  | t + 1 => fun i => sgl W (LL W n t) n (rz n t) (xs1 W (LL W n t) n (rz n t) i) (2 * (i - xs1 W (LL W n t) n (rz n t) i))
theorem cS_y {W : Nat → Int} {n t i : Nat} (h : sgB W n t i) : cS W n t (i + 1) = cS W n t i + 1 := by
  cases t with
  | zero => rfl
  | succ t => exact xs1_y rfl rfl h
theorem cS_n {W : Nat → Int} {n t i : Nat} (h : ¬ sgB W n t i) : cS W n t (i + 1) = cS W n t i := by
  cases t with
  | zero => exact absurd trivial h
  | succ t => exact xs1_n rfl rfl h
def wlL (V : Nat → Int64) (L : Nat → Int) (k : Nat) : Prop := ∀ i, i < k → (V i).toInt = L i
theorem wlL_ex {h h2 : ez_H} {c k x m : Nat} {y : Int64} {L : Nat → Int} (A : wlL (ez_L h c) L k) (e : h2 = ez_setL h c x y) (hx : x = k) (hy : y.toInt = L k) (hm : m = k + 1) : wlL (ez_L h2 c) L m := fun i hi => by
  subst hx; subst hm
  by_cases q : i = x
  · subst q; rw [zL_eq e]; exact hy
  · rw [zL_ne e (by omega)]; exact A i (by omega)
/-- the bits of the first T rounds -/
def alB (A : Nat → Int32) (W : Nat → Int) (n T : Nat) : Prop := ∀ i, i < 576 → ev_u (A i) < 2 ^ T ∧ ∀ t, t < T → ((ev_u (A i)).testBit t = true ↔ i < rz n t ∧ sgB W n t i)
def alR (A : Nat → Int32) (W : Nat → Int) (n T k : Nat) : Prop := ∀ i, i < 576 → ev_u (A i) < 2 ^ (T + 1) ∧ (∀ t, t < T → ((ev_u (A i)).testBit t = true ↔ i < rz n t ∧ sgB W n t i)) ∧ ((ev_u (A i)).testBit T = true ↔ i < k ∧ sgB W n T i)
theorem alR_0 {A : Nat → Int32} {W : Nat → Int} {n T k : Nat} (B : alB A W n T) (hk : k = 0) : alR A W n T k := fun i hi => by
  obtain ⟨a, b⟩ := B i hi
  refine ⟨Nat.lt_of_lt_of_le a (Nat.pow_le_pow_right (by decide) (by omega)), b, ?_⟩
  rw [Nat.testBit_lt_two_pow a]
  constructor
  · intro q; cases q
  · intro q; omega
theorem alR_end {A : Nat → Int32} {W : Nat → Int} {n T k m : Nat} (B : alR A W n T k) (hk : k = rz n T) (hm : m = T + 1) : alB A W n m := fun i hi => by
  subst hm; subst hk
  obtain ⟨a, b, c⟩ := B i hi
  refine ⟨a, fun t ht => ?_⟩
  by_cases e : t = T
  · subst e; exact c
  · exact b t (by omega)
theorem alR_n {A : Nat → Int32} {W : Nat → Int} {n T k m : Nat} (B : alR A W n T k) (h : ¬ sgB W n T k) (hm : m = k + 1) : alR A W n T m := fun i hi => by
  subst hm
  obtain ⟨a, b, c⟩ := B i hi
  refine ⟨a, b, c.trans ⟨fun q => ⟨by omega, q.2⟩, fun q => ?_⟩⟩
  by_cases e : i = k
  · subst e; exact absurd q.2 h
  · exact ⟨by omega, q.2⟩
theorem u_shl {r o b : Int32} {T : Nat} (ho : o.toInt = 1) (hr : r.toInt = T) (hT : T < 16) (hb : b = o <<< (r &&& 31)) : ev_u b = 2 ^ T := by
  have eo : o = 1 := z_inj ho
  have er : r = Int32.ofNat T := z_inj (by rw [hr]; exact (z_nI (n := T) (by omega)).symm)
  subst eo; subst er; subst hb
  have : ∀ m : Nat, m < 16 → ev_u ((1 : Int32) <<< (Int32.ofNat m &&& 31)) = 2 ^ m := by decide
  exact this T hT
theorem alR_y {h h2 : ez_H} {W : Nat → Int} {n T k x m : Nat} {o b y : Int32} (B : alR (ez_I h 13) W n T k) (e : h2 = ez_setI h 13 x y) (hx : x = k) (eo : ez_I h 13 x = o) (hb : ev_u b = 2 ^ T) (hy : y = o ||| b) (hs : sgB W n T k) (hm : m = k + 1) : alR (ez_I h2 13) W n T m := fun i hi => by
  subst hx; subst hm
  obtain ⟨p, q, r⟩ := B i hi
  by_cases c : i = x
  · subst c
    rw [zI_eq e]
    rw [eo] at p q r
    have hu : ev_u y = ev_u o ||| 2 ^ T := by rw [hy, ef_or_ok, hb]; rfl
    refine ⟨?_, fun t ht => ?_, ?_⟩
    · rw [hu]
      exact Nat.or_lt_two_pow p (Nat.pow_lt_pow_right (by decide) (by omega))
    · rw [hu, Nat.testBit_or, Nat.testBit_two_pow_of_ne (by omega), Bool.or_false]
      exact q t ht
    · rw [hu, Nat.testBit_or, Nat.testBit_two_pow_self, Bool.or_true]
      exact ⟨fun _ => ⟨by omega, hs⟩, fun _ => rfl⟩
  · rw [zI_ne e (by omega)]
    refine ⟨p, q, r.trans ⟨fun z => ⟨by omega, z.2⟩, fun z => ⟨by omega, z.2⟩⟩⟩
def a01 (A : Nat → Int32) (k : Nat) : Prop := ∀ i, i < 576 → (A i).toInt = if i < k then 1 else 0
theorem a01_0 {A : Nat → Int32} {k : Nat} {v : Int32} (h : ∀ i, i < 576 → A i = v) (hv : v.toInt = 0) (hk : k = 0) : a01 A k := fun i hi => by
  rw [h i hi, hv]
  have : ¬ i < k := by omega
  simp only [this, ↓reduceIte]
theorem a01_s {h h2 : ez_H} {k x m : Nat} {y : Int32} (A : a01 (ez_I h 13) k) (e : h2 = ez_setI h 13 x y) (hx : x = k) (hy : y.toInt = 1) (hm : m = k + 1) : a01 (ez_I h2 13) m := fun i hi => by
  subst hx; subst hm
  by_cases c : i = x
  · subst c
    rw [zI_eq e, hy]
    have : i < i + 1 := by omega
    simp only [this, ↓reduceIte]
  · rw [zI_ne e (by omega), A i hi]
    by_cases d : i < x
    · have d2 : i < x + 1 := by omega
      simp only [d, d2, ↓reduceIte]
    · have d2 : ¬ i < x + 1 := by omega
      simp only [d, d2, ↓reduceIte]
theorem alB_1 {A : Nat → Int32} {W : Nat → Int} {n k T : Nat} (B : a01 A k) (hk : k = n) (hT : T = 1) : alB A W n T := fun i hi => by
  subst hT; subst hk
  have b := B i hi
  by_cases c : i < k
  · simp only [c, ↓reduceIte] at b
    have u := z_u (x := A i) (by omega)
    have u1 : ev_u (A i) = 1 := by omega
    rw [u1]
    refine ⟨by decide, fun t ht => ?_⟩
    have : t = 0 := by omega
    subst this
    exact ⟨fun _ => ⟨c, trivial⟩, fun _ => rfl⟩
  · simp only [c, ↓reduceIte] at b
    have u := z_u (x := A i) (by omega)
    have u1 : ev_u (A i) = 0 := by omega
    rw [u1]
    refine ⟨by decide, fun t ht => ?_⟩
    have : t = 0 := by omega
    subst this
    refine ⟨fun q => ?_, fun q => absurd q.1 c⟩
    rw [Nat.zero_testBit] at q
    cases q
def kwI (W : Nat → Int) (K : Nat → Int32) (n : Nat) : Prop := ∀ i, i < n → W i = (K i).toInt / 512 ∧ 0 ≤ (K i).toInt
theorem kwI_at {W : Nat → Int} {K : Nat → Int32} {n x : Nat} {k s v : Int32} (A : kwI W K n) (ek : K x = k) (hx : x < n) (hs : s.toInt = 9) (hv : v = k >>> (s &&& 31)) : v.toInt = W x := by
  have a := A x hx
  rw [ek] at a
  rw [hv, z_shr (n := 9) hs (by decide), a.1]
  rfl
/-- FF is small -/
theorem FF_bd (W : Nat → Int) (n j : Nat) : ∀ t k, 0 ≤ FF W n t k j ∧ FF W n t k j ≤ (t : Int) + 1
  | 0, k => by
    show 0 ≤ lt1 k j ∧ lt1 k j ≤ ((0 : Nat) : Int) + 1
    unfold lt1
    split <;> omega
  | t + 1, k => by
    have ih := FF_bd W n j t (2 * (k - cS W n (t + 1) k))
    show 0 ≤ lt1 (cS W n (t + 1) k) j + _ ∧ lt1 (cS W n (t + 1) k) j + _ ≤ ((t + 1 : Nat) : Int) + 1
    unfold lt1
    split <;> omega
/-- enough packages -/
theorem rz_eH (n : Nat) : ∀ t, eH n (rz n t) ((t : Int) + 1)
  | 0 => eH_1 rfl rfl
  | t + 1 => by
    have ih := rz_eH n t
    have e : rz n (t + 1) = n + rz n t / 2 := rfl
    exact eH_up (p := 2 * ((rz n t / 2 : Nat) : Int)) (k := (rz n (t + 1) : Nat)) ih (by omega) (by omega) (by rw [e]; omega) rfl (by omega)
theorem rz_end {n li : Nat} (h1 : 1 ≤ li) (hn : (n : Int) ≤ 2 ^ li) : 2 * n - 2 ≤ rz n (li - 1) := by
  have a := rz_eH n (li - 1)
  have b := eH_end (li := (li : Int)) (al := (n : Int)) a (by omega) (by omega) (Int.le_refl _) (by rw [show ((li : Nat) : Int).toNat = li by omega]; exact hn)
  omega
/-! PRINTED by wip/p18/con20.py: the class's maker of lengths: rounds -/
set_option maxRecDepth 4000 in
set_option maxHeartbeats 20000000 in
theorem f_round_L1 {E : Nat → Nat × (Nat → Int32)} {d : Nat} {Q : ez_Q} {h : ez_H} {n : Int32} {r : Int32} {rd : Int32} (S : zSh h) {W : Nat → Int} (hn : 2 ≤ n.toInt ∧ n.toInt ≤ 288) (ht : 1 ≤ rd.toInt ∧ rd.toInt ≤ 14) (hr : r.toInt = (rz n.toInt.toNat (rd.toInt.toNat - 1) : Nat)) (hK : kwI W (ez_I h 10) n.toInt.toNat) (hwb : (∀ j, j < n.toInt.toNat → 0 ≤ W j) ∧ sm W n.toInt.toNat ≤ 100000000) (hsl : wlL (ez_L h 11) (LL W n.toInt.toNat (rd.toInt.toNat - 1)) r.toInt.toNat) (hal : alB (ez_I h 13) W n.toInt.toNat ((rd.toInt.toNat - 1) + 1)) (K : ∀ h2 (x : Int32), zK (fun q => q = 13) (fun k => k = 11 ∨ k = 12) h h2 → x.toInt = (rz n.toInt.toNat ((rd.toInt.toNat - 1) + 1) : Nat) → wlL (ez_L h2 11) (LL W n.toInt.toNat ((rd.toInt.toNat - 1) + 1)) x.toInt.toNat → alB (ez_I h2 13) W n.toInt.toNat ((rd.toInt.toNat - 1) + 1 + 1) → Q (.inl (some (.int x))) h2) : ∀ N : Nat, (∀ (h2 : ez_H) (pc : Int32) (mg : Int32) (sy : Int32) (pa : Int32) (i : Int32) , zK (fun q => q = 13) (fun k => k = 11 ∨ k = 12) h h2 → (0 ≤ i.toInt ∧ i.toInt ≤ mg.toInt ∧ pc.toInt = r.toInt / 2 ∧ mg.toInt = n.toInt + r.toInt / 2 ∧ 0 ≤ sy.toInt ∧ 0 ≤ pa.toInt ∧ sy.toInt + pa.toInt = i.toInt ∧ sy.toInt = (xs1 W (LL W n.toInt.toNat (rd.toInt.toNat - 1)) n.toInt.toNat (rz n.toInt.toNat (rd.toInt.toNat - 1)) i.toInt.toNat : Nat)) → wlL (ez_L h2 12) ((fun a => LL W n.toInt.toNat (rd.toInt.toNat - 1) (2 * a) + LL W n.toInt.toNat (rd.toInt.toNat - 1) (2 * a + 1))) pc.toInt.toNat → wlL (ez_L h2 11) (LL W n.toInt.toNat ((rd.toInt.toNat - 1) + 1)) i.toInt.toNat → alR (ez_I h2 13) W n.toInt.toNat ((rd.toInt.toNat - 1) + 1) i.toInt.toNat → (1000 - i.toInt) < (N : Int) → pw E d 105 80 [some (.ref 9), some (.int n), some (.int r), some (.int rd), some (.int pc), some (.int mg), some (.int sy), some (.int pa), some (.int i)] [] h2 Q) := by
  intro N
  induction N with
  | zero => exact fun h2 pc mg sy pa i  F hinv A_pl A_sn A_ar hm => absurd hm (by have w_pc := z_rng pc; have w_mg := z_rng mg; have w_sy := z_rng sy; have w_pa := z_rng pa; have w_i := z_rng i; have gn := z_rng n; have gr := z_rng r; have grd := z_rng rd; have hz : rz n.toInt.toNat ((rd.toInt.toNat - 1) + 1) = n.toInt.toNat + rz n.toInt.toNat (rd.toInt.toNat - 1) / 2 := rfl; have hzl := rz_le n.toInt.toNat (rd.toInt.toNat - 1); have hzl2 := hzl.2 (by omega); omega)
  | succ N ih =>
    refine fun h2 pc mg sy pa i  F hinv A_pl A_sn A_ar hm => ?_
    · skip
      have w_pc := z_rng pc
      have w_mg := z_rng mg
      have w_sy := z_rng sy
      have w_pa := z_rng pa
      have w_i := z_rng i
      have gn := z_rng n
      have gr := z_rng r
      have grd := z_rng rd
      have hz : rz n.toInt.toNat ((rd.toInt.toNat - 1) + 1) = n.toInt.toNat + rz n.toInt.toNat (rd.toInt.toNat - 1) / 2 := rfl
      have hzl := rz_le n.toInt.toNat (rd.toInt.toNat - 1)
      have hzl2 := hzl.2 (by omega)
      have S2 := zK_sh F S
      have hxl := xs1_le (W := W) (Lp := LL W n.toInt.toNat (rd.toInt.toNat - 1)) (n := n.toInt.toNat) (r := rz n.toInt.toNat (rd.toInt.toNat - 1)) i.toInt.toNat
      have hxp := xs1_p (W := W) (Lp := LL W n.toInt.toNat (rd.toInt.toNat - 1)) (n := n.toInt.toNat) (r := rz n.toInt.toNat (rd.toInt.toNat - 1)) i.toInt.toNat (by omega)
      apply ez_Wp_in
      show ez_gw _ _ _ _ _ _ (cz_105) _ _ _ _ _
      refine gw_skip _ ?_
      refine gw_ld rfl rfl ?_
      refine gw_ld rfl rfl ?_
      refine z_b2 (fun c1 => ?_) (fun c1 => ?_)
      · have c1 : mg.toInt ≤ i.toInt := c1
        refine gw_skip _ ?_
        refine gw_ld rfl rfl ?_
        refine z_ri ?_
        exact K _ mg F (by omega) (by rw [show mg.toInt.toNat = i.toInt.toNat by omega]; exact A_sn) (alR_end A_ar (by omega) rfl)
      · have c1 : ¬ (mg.toInt ≤ i.toInt) := c1
        refine gw_ld rfl rfl ?_
        refine gw_ld rfl rfl ?_
        refine z_b2 (fun c2 => ?_) (fun c2 => ?_)
        · have c2 : pc.toInt ≤ pa.toInt := c2
          refine gw_skip _ ?_
          have hsg : sgl W (LL W n.toInt.toNat (rd.toInt.toNat - 1)) n.toInt.toNat (rz n.toInt.toNat (rd.toInt.toNat - 1)) sy.toInt.toNat (2 * pa.toInt.toNat) := ⟨by omega, by first | exact .inl (by omega) | exact .inr (by omega)⟩
          have hsb : sgB W n.toInt.toNat ((rd.toInt.toNat - 1) + 1) i.toInt.toNat := by
            have e1 : sy.toInt.toNat = xs1 W (LL W n.toInt.toNat (rd.toInt.toNat - 1)) n.toInt.toNat (rz n.toInt.toNat (rd.toInt.toNat - 1)) i.toInt.toNat := by omega
            have e2 : 2 * pa.toInt.toNat = 2 * (i.toInt.toNat - xs1 W (LL W n.toInt.toNat (rd.toInt.toNat - 1)) n.toInt.toNat (rz n.toInt.toNat (rd.toInt.toNat - 1)) i.toInt.toNat) := by omega
            rw [e2, e1] at hsg
            exact hsg
          have hx : xs1 W (LL W n.toInt.toNat (rd.toInt.toNat - 1)) n.toInt.toNat (rz n.toInt.toNat (rd.toInt.toNat - 1)) (i.toInt.toNat + 1) = sy.toInt.toNat + 1 := xs1_y (p := 2 * pa.toInt.toNat) (by omega) (by omega) hsg
          refine gw_ld rfl rfl ?_
          refine z_gR (q := 11) (zT S2 (by decide) rfl) (zRf S2 (by decide) (by decide) rfl) (by decide) ?_
          refine gw_ld rfl rfl ?_
          refine gw_ld rfl rfl ?_
          refine z_gR (q := 10) (zT S2 (by decide) rfl) (zRf S2 (by decide) (by decide) rfl) (by decide) ?_
          refine gw_ld rfl rfl ?_
          refine z_iaV (n := 288) (zT S2 (by decide) rfl) (zN S2 (by decide) rfl) (by omega) (zK_a F (by decide)) ?_
          generalize ex3 : ez_I h 10 sy.toInt.toNat = x3
          have rx3 := z_rng x3
          refine z_C (m := 9) rfl rfl (fun x4 ex4 => ?_)
          refine z_2 rfl (fun x5 ex5 => ?_)
          have rx5 := z_rng x5
          have qx5 := kwI_at hK ex3 (by omega) (by omega) ex5
          refine z_i2l (fun lg6 elg6 => ?_)
          refine z_ls (n := 576) (zT S2 (by decide) rfl) (zN S2 (by decide) rfl) (by omega) (fun h7 e8 => ?_)
          have S9 := zSh_L S2 e8
          have F10 := zK_L F e8 (by omega)
          have A11 : wlL (ez_L h7 12) ((fun a => LL W n.toInt.toNat (rd.toInt.toNat - 1) (2 * a) + LL W n.toInt.toNat (rd.toInt.toNat - 1) (2 * a + 1))) pc.toInt.toNat := by rw [zL_fn e8 12 (by decide)]; exact A_pl
          have A12 : wlL (ez_L h7 11) (LL W n.toInt.toNat ((rd.toInt.toNat - 1) + 1)) (i.toInt.toNat + 1) := wlL_ex A_sn e8 rfl ((show _ = W sy.toInt.toNat by omega).trans (nxL_y (p := 2 * pa.toInt.toNat) (by omega) (by omega) hsg).symm) rfl
          have A13 : alR (ez_I h7 13) W n.toInt.toNat ((rd.toInt.toNat - 1) + 1) i.toInt.toNat := by rw [zIL_fn e8 13]; exact A_ar
          refine gw_ld rfl rfl ?_
          refine z_gR (q := 13) (zT S9 (by decide) rfl) (zRf S9 (by decide) (by decide) rfl) (by decide) ?_
          refine gw_ld rfl rfl ?_
          refine gw_op rfl ?_
          refine z_ia (n := 576) (zT S9 (by decide) rfl) (zN S9 (by decide) rfl) (by omega) ?_
          generalize ex14 : ez_I h7 13 i.toInt.toNat = x14
          have rx14 := z_rng x14
          refine z_C (m := 1) rfl rfl (fun x15 ex15 => ?_)
          refine gw_ld rfl rfl ?_
          refine z_2 rfl (fun x16 ex16 => ?_)
          have rx16 := z_rng x16
          have vx16 := u_shl (T := (rd.toInt.toNat - 1) + 1) (o := x15) (r := rd) (by omega) (by omega) (by omega) ex16
          refine z_2 rfl (fun x17 ex17 => ?_)
          have rx17 := z_rng x17
          refine z_is (n := 576) (zT S9 (by decide) rfl) (zN S9 (by decide) rfl) (by omega) (fun h18 e19 => ?_)
          have S20 := zSh_set S9 e19
          have F21 := zK_set F10 e19 (by omega)
          
          have A22 : wlL (ez_L h18 12) ((fun a => LL W n.toInt.toNat (rd.toInt.toNat - 1) (2 * a) + LL W n.toInt.toNat (rd.toInt.toNat - 1) (2 * a + 1))) pc.toInt.toNat := by rw [zLI_fn e19 12]; exact A11
          
          have A23 : wlL (ez_L h18 11) (LL W n.toInt.toNat ((rd.toInt.toNat - 1) + 1)) (i.toInt.toNat + 1) := by rw [zLI_fn e19 11]; exact A12
          have A24 : alR (ez_I h18 13) W n.toInt.toNat ((rd.toInt.toNat - 1) + 1) (i.toInt.toNat + 1) := alR_y A13 e19 rfl ex14 vx16 ex17 hsb rfl
          clear A11
          clear A12
          clear A13
          refine z_inc rfl (by rw [show (1 : Int32).toInt = 1 from rfl]; omega) (fun x25 ex25 => ?_)
          rw [show (1 : Int32).toInt = 1 from rfl] at ex25
          show ez_gw _ _ _ _ _ _ _ _ [some (.ref 9), some (.int n), some (.int r), some (.int rd), some (.int pc), some (.int mg), some (.int x25), some (.int pa), some (.int i)] _ _ _
          refine z_go ?_
          refine gw_skip _ ?_
          refine z_inc rfl (by rw [show (1 : Int32).toInt = 1 from rfl]; omega) (fun x26 ex26 => ?_)
          rw [show (1 : Int32).toInt = 1 from rfl] at ex26
          show ez_gw _ _ _ _ _ _ _ _ [some (.ref 9), some (.int n), some (.int r), some (.int rd), some (.int pc), some (.int mg), some (.int x25), some (.int pa), some (.int x26)] _ _ _
          refine z_go ?_
          exact ih h18 pc mg x25 pa x26 F21 (by rw [show x26.toInt.toNat = i.toInt.toNat + 1 by omega]; omega) (A22) ((by rw [show x26.toInt.toNat = (i.toInt.toNat + 1) by omega]; exact A23)) ((by rw [show x26.toInt.toNat = (i.toInt.toNat + 1) by omega]; exact A24)) (by omega)
        · have c2 : ¬ (pc.toInt ≤ pa.toInt) := c2
          refine gw_ld rfl rfl ?_
          refine gw_ld rfl rfl ?_
          refine z_b2 (fun c27 => ?_) (fun c27 => ?_)
          · have c27 : n.toInt ≤ sy.toInt := c27
            refine gw_skip _ ?_
            have hsg : ¬ sgl W (LL W n.toInt.toNat (rd.toInt.toNat - 1)) n.toInt.toNat (rz n.toInt.toNat (rd.toInt.toNat - 1)) sy.toInt.toNat (2 * pa.toInt.toNat) := fun c => by first | (have := c.1; omega) | (rcases c.2 with q | q <;> omega)
            have hsb : ¬ sgB W n.toInt.toNat ((rd.toInt.toNat - 1) + 1) i.toInt.toNat := by
              have e1 : sy.toInt.toNat = xs1 W (LL W n.toInt.toNat (rd.toInt.toNat - 1)) n.toInt.toNat (rz n.toInt.toNat (rd.toInt.toNat - 1)) i.toInt.toNat := by omega
              have e2 : 2 * pa.toInt.toNat = 2 * (i.toInt.toNat - xs1 W (LL W n.toInt.toNat (rd.toInt.toNat - 1)) n.toInt.toNat (rz n.toInt.toNat (rd.toInt.toNat - 1)) i.toInt.toNat) := by omega
              rw [e2, e1] at hsg
              exact hsg
            have hx : xs1 W (LL W n.toInt.toNat (rd.toInt.toNat - 1)) n.toInt.toNat (rz n.toInt.toNat (rd.toInt.toNat - 1)) (i.toInt.toNat + 1) = sy.toInt.toNat := xs1_n (p := 2 * pa.toInt.toNat) (by omega) (by omega) hsg
            refine gw_ld rfl rfl ?_
            refine z_gR (q := 11) (zT S2 (by decide) rfl) (zRf S2 (by decide) (by decide) rfl) (by decide) ?_
            refine gw_ld rfl rfl ?_
            refine gw_ld rfl rfl ?_
            refine z_gR (q := 12) (zT S2 (by decide) rfl) (zRf S2 (by decide) (by decide) rfl) (by decide) ?_
            refine gw_ld rfl rfl ?_
            refine z_la (n := 288) (zT S2 (by decide) rfl) (zN S2 (by decide) rfl) (by omega) ?_
            generalize elg28 : ez_L h2 12 pa.toInt.toNat = lg28
            have qlg28 : lg28.toInt = LL W n.toInt.toNat (rd.toInt.toNat - 1) (2 * pa.toInt.toNat) + LL W n.toInt.toNat (rd.toInt.toNat - 1) (2 * pa.toInt.toNat + 1) := (by have := A_pl pa.toInt.toNat (by omega); rw [elg28] at this; exact this)
            refine z_ls (n := 576) (zT S2 (by decide) rfl) (zN S2 (by decide) rfl) (by omega) (fun h29 e30 => ?_)
            have S31 := zSh_L S2 e30
            have F32 := zK_L F e30 (by omega)
            have A33 : wlL (ez_L h29 12) ((fun a => LL W n.toInt.toNat (rd.toInt.toNat - 1) (2 * a) + LL W n.toInt.toNat (rd.toInt.toNat - 1) (2 * a + 1))) pc.toInt.toNat := by rw [zL_fn e30 12 (by decide)]; exact A_pl
            have A34 : wlL (ez_L h29 11) (LL W n.toInt.toNat ((rd.toInt.toNat - 1) + 1)) (i.toInt.toNat + 1) := wlL_ex A_sn e30 rfl (qlg28.trans (nxL_n (p := 2 * pa.toInt.toNat) (by omega) (by omega) hsg).symm) rfl
            have A35 : alR (ez_I h29 13) W n.toInt.toNat ((rd.toInt.toNat - 1) + 1) i.toInt.toNat := by rw [zIL_fn e30 13]; exact A_ar
            refine z_inc rfl (by rw [show (1 : Int32).toInt = 1 from rfl]; omega) (fun x36 ex36 => ?_)
            rw [show (1 : Int32).toInt = 1 from rfl] at ex36
            show ez_gw _ _ _ _ _ _ _ _ [some (.ref 9), some (.int n), some (.int r), some (.int rd), some (.int pc), some (.int mg), some (.int sy), some (.int x36), some (.int i)] _ _ _
            refine z_inc rfl (by rw [show (1 : Int32).toInt = 1 from rfl]; omega) (fun x37 ex37 => ?_)
            rw [show (1 : Int32).toInt = 1 from rfl] at ex37
            show ez_gw _ _ _ _ _ _ _ _ [some (.ref 9), some (.int n), some (.int r), some (.int rd), some (.int pc), some (.int mg), some (.int sy), some (.int x36), some (.int x37)] _ _ _
            refine z_go ?_
            exact ih h29 pc mg sy x36 x37 F32 (by rw [show x37.toInt.toNat = i.toInt.toNat + 1 by omega]; omega) (A33) ((by rw [show x37.toInt.toNat = (i.toInt.toNat + 1) by omega]; exact A34)) (alR_n A35 hsb (by omega)) (by omega)
          · have c27 : ¬ (n.toInt ≤ sy.toInt) := c27
            refine gw_ld rfl rfl ?_
            refine z_gR (q := 10) (zT S2 (by decide) rfl) (zRf S2 (by decide) (by decide) rfl) (by decide) ?_
            refine gw_ld rfl rfl ?_
            refine z_iaV (n := 288) (zT S2 (by decide) rfl) (zN S2 (by decide) rfl) (by omega) (zK_a F (by decide)) ?_
            generalize ex38 : ez_I h 10 sy.toInt.toNat = x38
            have rx38 := z_rng x38
            refine z_C (m := 9) rfl rfl (fun x39 ex39 => ?_)
            refine z_2 rfl (fun x40 ex40 => ?_)
            have rx40 := z_rng x40
            have qx40 := kwI_at hK ex38 (by omega) (by omega) ex40
            refine z_i2l (fun lg41 elg41 => ?_)
            refine gw_ld rfl rfl ?_
            refine z_gR (q := 12) (zT S2 (by decide) rfl) (zRf S2 (by decide) (by decide) rfl) (by decide) ?_
            refine gw_ld rfl rfl ?_
            refine z_la (n := 288) (zT S2 (by decide) rfl) (zN S2 (by decide) rfl) (by omega) ?_
            generalize elg42 : ez_L h2 12 pa.toInt.toNat = lg42
            have qlg42 : lg42.toInt = LL W n.toInt.toNat (rd.toInt.toNat - 1) (2 * pa.toInt.toNat) + LL W n.toInt.toNat (rd.toInt.toNat - 1) (2 * pa.toInt.toNat + 1) := (by have := A_pl pa.toInt.toNat (by omega); rw [elg42] at this; exact this)
            refine z_lcmp (fun x43 ex43 => ?_)
            refine z_b1 (fun c44 => ?_) (fun c44 => ?_)
            · have c44 : 0 < x43.toInt := c44
              refine gw_skip _ ?_
              have hsg : ¬ sgl W (LL W n.toInt.toNat (rd.toInt.toNat - 1)) n.toInt.toNat (rz n.toInt.toNat (rd.toInt.toNat - 1)) sy.toInt.toNat (2 * pa.toInt.toNat) := fun c => by first | (have := c.1; omega) | (rcases c.2 with q | q <;> omega)
              have hsb : ¬ sgB W n.toInt.toNat ((rd.toInt.toNat - 1) + 1) i.toInt.toNat := by
                have e1 : sy.toInt.toNat = xs1 W (LL W n.toInt.toNat (rd.toInt.toNat - 1)) n.toInt.toNat (rz n.toInt.toNat (rd.toInt.toNat - 1)) i.toInt.toNat := by omega
                have e2 : 2 * pa.toInt.toNat = 2 * (i.toInt.toNat - xs1 W (LL W n.toInt.toNat (rd.toInt.toNat - 1)) n.toInt.toNat (rz n.toInt.toNat (rd.toInt.toNat - 1)) i.toInt.toNat) := by omega
                rw [e2, e1] at hsg
                exact hsg
              have hx : xs1 W (LL W n.toInt.toNat (rd.toInt.toNat - 1)) n.toInt.toNat (rz n.toInt.toNat (rd.toInt.toNat - 1)) (i.toInt.toNat + 1) = sy.toInt.toNat := xs1_n (p := 2 * pa.toInt.toNat) (by omega) (by omega) hsg
              refine gw_ld rfl rfl ?_
              refine z_gR (q := 11) (zT S2 (by decide) rfl) (zRf S2 (by decide) (by decide) rfl) (by decide) ?_
              refine gw_ld rfl rfl ?_
              refine gw_ld rfl rfl ?_
              refine z_gR (q := 12) (zT S2 (by decide) rfl) (zRf S2 (by decide) (by decide) rfl) (by decide) ?_
              refine gw_ld rfl rfl ?_
              refine z_la (n := 288) (zT S2 (by decide) rfl) (zN S2 (by decide) rfl) (by omega) ?_
              generalize elg45 : ez_L h2 12 pa.toInt.toNat = lg45
              have qlg45 : lg45.toInt = LL W n.toInt.toNat (rd.toInt.toNat - 1) (2 * pa.toInt.toNat) + LL W n.toInt.toNat (rd.toInt.toNat - 1) (2 * pa.toInt.toNat + 1) := (by have := A_pl pa.toInt.toNat (by omega); rw [elg45] at this; exact this)
              refine z_ls (n := 576) (zT S2 (by decide) rfl) (zN S2 (by decide) rfl) (by omega) (fun h46 e47 => ?_)
              have S48 := zSh_L S2 e47
              have F49 := zK_L F e47 (by omega)
              have A50 : wlL (ez_L h46 12) ((fun a => LL W n.toInt.toNat (rd.toInt.toNat - 1) (2 * a) + LL W n.toInt.toNat (rd.toInt.toNat - 1) (2 * a + 1))) pc.toInt.toNat := by rw [zL_fn e47 12 (by decide)]; exact A_pl
              have A51 : wlL (ez_L h46 11) (LL W n.toInt.toNat ((rd.toInt.toNat - 1) + 1)) (i.toInt.toNat + 1) := wlL_ex A_sn e47 rfl (qlg45.trans (nxL_n (p := 2 * pa.toInt.toNat) (by omega) (by omega) hsg).symm) rfl
              have A52 : alR (ez_I h46 13) W n.toInt.toNat ((rd.toInt.toNat - 1) + 1) i.toInt.toNat := by rw [zIL_fn e47 13]; exact A_ar
              refine z_inc rfl (by rw [show (1 : Int32).toInt = 1 from rfl]; omega) (fun x53 ex53 => ?_)
              rw [show (1 : Int32).toInt = 1 from rfl] at ex53
              show ez_gw _ _ _ _ _ _ _ _ [some (.ref 9), some (.int n), some (.int r), some (.int rd), some (.int pc), some (.int mg), some (.int sy), some (.int x53), some (.int i)] _ _ _
              refine z_inc rfl (by rw [show (1 : Int32).toInt = 1 from rfl]; omega) (fun x54 ex54 => ?_)
              rw [show (1 : Int32).toInt = 1 from rfl] at ex54
              show ez_gw _ _ _ _ _ _ _ _ [some (.ref 9), some (.int n), some (.int r), some (.int rd), some (.int pc), some (.int mg), some (.int sy), some (.int x53), some (.int x54)] _ _ _
              refine z_go ?_
              exact ih h46 pc mg sy x53 x54 F49 (by rw [show x54.toInt.toNat = i.toInt.toNat + 1 by omega]; omega) (A50) ((by rw [show x54.toInt.toNat = (i.toInt.toNat + 1) by omega]; exact A51)) (alR_n A52 hsb (by omega)) (by omega)
            · have c44 : ¬ (0 < x43.toInt) := c44
              have hsg : sgl W (LL W n.toInt.toNat (rd.toInt.toNat - 1)) n.toInt.toNat (rz n.toInt.toNat (rd.toInt.toNat - 1)) sy.toInt.toNat (2 * pa.toInt.toNat) := ⟨by omega, by first | exact .inl (by omega) | exact .inr (by omega)⟩
              have hsb : sgB W n.toInt.toNat ((rd.toInt.toNat - 1) + 1) i.toInt.toNat := by
                have e1 : sy.toInt.toNat = xs1 W (LL W n.toInt.toNat (rd.toInt.toNat - 1)) n.toInt.toNat (rz n.toInt.toNat (rd.toInt.toNat - 1)) i.toInt.toNat := by omega
                have e2 : 2 * pa.toInt.toNat = 2 * (i.toInt.toNat - xs1 W (LL W n.toInt.toNat (rd.toInt.toNat - 1)) n.toInt.toNat (rz n.toInt.toNat (rd.toInt.toNat - 1)) i.toInt.toNat) := by omega
                rw [e2, e1] at hsg
                exact hsg
              have hx : xs1 W (LL W n.toInt.toNat (rd.toInt.toNat - 1)) n.toInt.toNat (rz n.toInt.toNat (rd.toInt.toNat - 1)) (i.toInt.toNat + 1) = sy.toInt.toNat + 1 := xs1_y (p := 2 * pa.toInt.toNat) (by omega) (by omega) hsg
              refine gw_ld rfl rfl ?_
              refine z_gR (q := 11) (zT S2 (by decide) rfl) (zRf S2 (by decide) (by decide) rfl) (by decide) ?_
              refine gw_ld rfl rfl ?_
              refine gw_ld rfl rfl ?_
              refine z_gR (q := 10) (zT S2 (by decide) rfl) (zRf S2 (by decide) (by decide) rfl) (by decide) ?_
              refine gw_ld rfl rfl ?_
              refine z_iaV (n := 288) (zT S2 (by decide) rfl) (zN S2 (by decide) rfl) (by omega) ((zK_a F (by decide)).trans ex38) ?_
              refine z_C (m := 9) rfl rfl (fun x56 ex56 => ?_)
              refine z_2 rfl (fun x57 ex57 => ?_)
              have rx57 := z_rng x57
              have qx57 := kwI_at hK ex38 (by omega) (by omega) ex57
              refine z_i2l (fun lg58 elg58 => ?_)
              refine z_ls (n := 576) (zT S2 (by decide) rfl) (zN S2 (by decide) rfl) (by omega) (fun h59 e60 => ?_)
              have S61 := zSh_L S2 e60
              have F62 := zK_L F e60 (by omega)
              have A63 : wlL (ez_L h59 12) ((fun a => LL W n.toInt.toNat (rd.toInt.toNat - 1) (2 * a) + LL W n.toInt.toNat (rd.toInt.toNat - 1) (2 * a + 1))) pc.toInt.toNat := by rw [zL_fn e60 12 (by decide)]; exact A_pl
              have A64 : wlL (ez_L h59 11) (LL W n.toInt.toNat ((rd.toInt.toNat - 1) + 1)) (i.toInt.toNat + 1) := wlL_ex A_sn e60 rfl ((show _ = W sy.toInt.toNat by omega).trans (nxL_y (p := 2 * pa.toInt.toNat) (by omega) (by omega) hsg).symm) rfl
              have A65 : alR (ez_I h59 13) W n.toInt.toNat ((rd.toInt.toNat - 1) + 1) i.toInt.toNat := by rw [zIL_fn e60 13]; exact A_ar
              refine gw_ld rfl rfl ?_
              refine z_gR (q := 13) (zT S61 (by decide) rfl) (zRf S61 (by decide) (by decide) rfl) (by decide) ?_
              refine gw_ld rfl rfl ?_
              refine gw_op rfl ?_
              refine z_ia (n := 576) (zT S61 (by decide) rfl) (zN S61 (by decide) rfl) (by omega) ?_
              generalize ex66 : ez_I h59 13 i.toInt.toNat = x66
              have rx66 := z_rng x66
              refine z_C (m := 1) rfl rfl (fun x67 ex67 => ?_)
              refine gw_ld rfl rfl ?_
              refine z_2 rfl (fun x68 ex68 => ?_)
              have rx68 := z_rng x68
              have vx68 := u_shl (T := (rd.toInt.toNat - 1) + 1) (o := x67) (r := rd) (by omega) (by omega) (by omega) ex68
              refine z_2 rfl (fun x69 ex69 => ?_)
              have rx69 := z_rng x69
              refine z_is (n := 576) (zT S61 (by decide) rfl) (zN S61 (by decide) rfl) (by omega) (fun h70 e71 => ?_)
              have S72 := zSh_set S61 e71
              have F73 := zK_set F62 e71 (by omega)
              
              have A74 : wlL (ez_L h70 12) ((fun a => LL W n.toInt.toNat (rd.toInt.toNat - 1) (2 * a) + LL W n.toInt.toNat (rd.toInt.toNat - 1) (2 * a + 1))) pc.toInt.toNat := by rw [zLI_fn e71 12]; exact A63
              
              have A75 : wlL (ez_L h70 11) (LL W n.toInt.toNat ((rd.toInt.toNat - 1) + 1)) (i.toInt.toNat + 1) := by rw [zLI_fn e71 11]; exact A64
              have A76 : alR (ez_I h70 13) W n.toInt.toNat ((rd.toInt.toNat - 1) + 1) (i.toInt.toNat + 1) := alR_y A65 e71 rfl ex66 vx68 ex69 hsb rfl
              clear A63
              clear A64
              clear A65
              refine z_inc rfl (by rw [show (1 : Int32).toInt = 1 from rfl]; omega) (fun x77 ex77 => ?_)
              rw [show (1 : Int32).toInt = 1 from rfl] at ex77
              show ez_gw _ _ _ _ _ _ _ _ [some (.ref 9), some (.int n), some (.int r), some (.int rd), some (.int pc), some (.int mg), some (.int x77), some (.int pa), some (.int i)] _ _ _
              refine z_go ?_
              refine gw_skip _ ?_
              refine z_inc rfl (by rw [show (1 : Int32).toInt = 1 from rfl]; omega) (fun x78 ex78 => ?_)
              rw [show (1 : Int32).toInt = 1 from rfl] at ex78
              show ez_gw _ _ _ _ _ _ _ _ [some (.ref 9), some (.int n), some (.int r), some (.int rd), some (.int pc), some (.int mg), some (.int x77), some (.int pa), some (.int x78)] _ _ _
              refine z_go ?_
              exact ih h70 pc mg x77 pa x78 F73 (by rw [show x78.toInt.toNat = i.toInt.toNat + 1 by omega]; omega) (A74) ((by rw [show x78.toInt.toNat = (i.toInt.toNat + 1) by omega]; exact A75)) ((by rw [show x78.toInt.toNat = (i.toInt.toNat + 1) by omega]; exact A76)) (by omega)
set_option maxRecDepth 4000 in
set_option maxHeartbeats 20000000 in
theorem f_round_L0 {E : Nat → Nat × (Nat → Int32)} {d : Nat} {Q : ez_Q} {h : ez_H} {n : Int32} {r : Int32} {rd : Int32} (S : zSh h) {W : Nat → Int} (hn : 2 ≤ n.toInt ∧ n.toInt ≤ 288) (ht : 1 ≤ rd.toInt ∧ rd.toInt ≤ 14) (hr : r.toInt = (rz n.toInt.toNat (rd.toInt.toNat - 1) : Nat)) (hK : kwI W (ez_I h 10) n.toInt.toNat) (hwb : (∀ j, j < n.toInt.toNat → 0 ≤ W j) ∧ sm W n.toInt.toNat ≤ 100000000) (hsl : wlL (ez_L h 11) (LL W n.toInt.toNat (rd.toInt.toNat - 1)) r.toInt.toNat) (hal : alB (ez_I h 13) W n.toInt.toNat ((rd.toInt.toNat - 1) + 1)) (K : ∀ h2 (x : Int32), zK (fun q => q = 13) (fun k => k = 11 ∨ k = 12) h h2 → x.toInt = (rz n.toInt.toNat ((rd.toInt.toNat - 1) + 1) : Nat) → wlL (ez_L h2 11) (LL W n.toInt.toNat ((rd.toInt.toNat - 1) + 1)) x.toInt.toNat → alB (ez_I h2 13) W n.toInt.toNat ((rd.toInt.toNat - 1) + 1 + 1) → Q (.inl (some (.int x))) h2) : ∀ N : Nat, (∀ (h2 : ez_H) (pc : Int32) (i : Int32) (l6 : Option Value) (l7 : Option Value) (l8 : Option Value) , zK (fun q => q = 13) (fun k => k = 11 ∨ k = 12) h h2 → (0 ≤ i.toInt ∧ i.toInt ≤ pc.toInt ∧ pc.toInt = r.toInt / 2) → wlL (ez_L h2 11) (LL W n.toInt.toNat (rd.toInt.toNat - 1)) r.toInt.toNat → wlL (ez_L h2 12) ((fun a => LL W n.toInt.toNat (rd.toInt.toNat - 1) (2 * a) + LL W n.toInt.toNat (rd.toInt.toNat - 1) (2 * a + 1))) i.toInt.toNat → alB (ez_I h2 13) W n.toInt.toNat ((rd.toInt.toNat - 1) + 1) → (1000 - i.toInt) < (N : Int) → pw E d 105 16 [some (.ref 9), some (.int n), some (.int r), some (.int rd), some (.int pc), some (.int i), l6, l7, l8] [] h2 Q) := by
  intro N
  induction N with
  | zero => exact fun h2 pc i l6 l7 l8  F hinv A_sl A_pl A_al hm => absurd hm (by have w_pc := z_rng pc; have w_i := z_rng i; have gn := z_rng n; have gr := z_rng r; have grd := z_rng rd; have hz : rz n.toInt.toNat ((rd.toInt.toNat - 1) + 1) = n.toInt.toNat + rz n.toInt.toNat (rd.toInt.toNat - 1) / 2 := rfl; have hzl := rz_le n.toInt.toNat (rd.toInt.toNat - 1); have hzl2 := hzl.2 (by omega); omega)
  | succ N ih =>
    refine fun h2 pc i l6 l7 l8  F hinv A_sl A_pl A_al hm => ?_
    · skip
      have w_pc := z_rng pc
      have w_i := z_rng i
      have gn := z_rng n
      have gr := z_rng r
      have grd := z_rng rd
      have hz : rz n.toInt.toNat ((rd.toInt.toNat - 1) + 1) = n.toInt.toNat + rz n.toInt.toNat (rd.toInt.toNat - 1) / 2 := rfl
      have hzl := rz_le n.toInt.toNat (rd.toInt.toNat - 1)
      have hzl2 := hzl.2 (by omega)
      have S2 := zK_sh F S
      have hpr : i.toInt < pc.toInt → _ := fun q => LL_pr hwb.1 hwb.2 (t := (rd.toInt.toNat - 1)) (p := 2 * i.toInt.toNat) (by omega)
      have hpn : i.toInt < pc.toInt → _ := fun q => LL_nn hwb.1 (rd.toInt.toNat - 1) (2 * i.toInt.toNat) (by omega)
      have hpm : i.toInt < pc.toInt → _ := fun q => LL_nn hwb.1 (rd.toInt.toNat - 1) (2 * i.toInt.toNat + 1) (by omega)
      apply ez_Wp_in
      show ez_gw _ _ _ _ _ _ (cz_105) _ _ _ _ _
      refine gw_skip _ ?_
      refine gw_ld rfl rfl ?_
      refine gw_ld rfl rfl ?_
      refine z_b2 (fun c1 => ?_) (fun c1 => ?_)
      · have c1 : pc.toInt ≤ i.toInt := c1
        refine gw_skip _ ?_
        refine gw_ld rfl rfl ?_
        refine gw_ld rfl rfl ?_
        refine z_add (by omega) (fun x2 ex2 => ?_)
        refine gw_ld rfl rfl ?_
        refine z_gR (q := 11) (zT S2 (by decide) rfl) (zRf S2 (by decide) (by decide) rfl) (by decide) ?_
        refine z_al (n := 576) (.inr <| .inl (zT S2 (by decide) rfl)) (zN S2 (by decide) rfl) (by omega) (fun x3 ex3 => ?_)
        refine z_min rfl (fun x4 ex4 => ?_)
        refine gw_st rfl rfl rfl ?_
        show ez_gw _ _ _ _ _ _ _ _ [some (.ref 9), some (.int n), some (.int r), some (.int rd), some (.int pc), some (.int x4), l6, l7, l8] _ _ _
        refine z_C (m := 0) rfl rfl (fun x5 ex5 => ?_)
        refine gw_st rfl rfl rfl ?_
        show ez_gw _ _ _ _ _ _ _ _ [some (.ref 9), some (.int n), some (.int r), some (.int rd), some (.int pc), some (.int x4), some (.int x5), l7, l8] _ _ _
        refine z_C (m := 0) rfl rfl (fun x6 ex6 => ?_)
        refine gw_st rfl rfl rfl ?_
        show ez_gw _ _ _ _ _ _ _ _ [some (.ref 9), some (.int n), some (.int r), some (.int rd), some (.int pc), some (.int x4), some (.int x5), some (.int x6), l8] _ _ _
        refine z_C (m := 0) rfl rfl (fun x7 ex7 => ?_)
        refine gw_st rfl rfl rfl ?_
        show ez_gw _ _ _ _ _ _ _ _ [some (.ref 9), some (.int n), some (.int r), some (.int rd), some (.int pc), some (.int x4), some (.int x5), some (.int x6), some (.int x7)] _ _ _
        exact ez_Wp_at ((f_round_L1 (n := n) (r := r) (rd := rd) S hn ht hr hK hwb hsl hal K (((1000 - x7.toInt)).toNat + 1)) h2 pc x4 x5 x6 x7 F (by rw [show x7.toInt.toNat = 0 by omega]; have hx0 : xs1 W (LL W n.toInt.toNat (rd.toInt.toNat - 1)) n.toInt.toNat (rz n.toInt.toNat (rd.toInt.toNat - 1)) 0 = 0 := rfl; omega) ((by rw [show pc.toInt.toNat = i.toInt.toNat by omega]; exact A_pl)) ((by rw [show x7.toInt.toNat = 0 by omega]; exact fun i hi => by omega)) (alR_0 A_al (by omega)) (by omega)) rfl
      · have c1 : ¬ (pc.toInt ≤ i.toInt) := c1
        refine gw_ld rfl rfl ?_
        refine z_gR (q := 12) (zT S2 (by decide) rfl) (zRf S2 (by decide) (by decide) rfl) (by decide) ?_
        refine gw_ld rfl rfl ?_
        refine gw_ld rfl rfl ?_
        refine z_gR (q := 11) (zT S2 (by decide) rfl) (zRf S2 (by decide) (by decide) rfl) (by decide) ?_
        refine z_C (m := 2) rfl rfl (fun x8 ex8 => ?_)
        refine gw_ld rfl rfl ?_
        refine z_mulL (c := 2) ex8 (by omega) (fun x9 ex9 => ?_)
        refine z_la (n := 576) (zT S2 (by decide) rfl) (zN S2 (by decide) rfl) (by omega) ?_
        generalize elg10 : ez_L h2 11 x9.toInt.toNat = lg10
        have qlg10 := A_sl x9.toInt.toNat (by omega)
        rw [elg10, show x9.toInt.toNat = 2 * i.toInt.toNat by omega] at qlg10
        refine gw_ld rfl rfl ?_
        refine z_gR (q := 11) (zT S2 (by decide) rfl) (zRf S2 (by decide) (by decide) rfl) (by decide) ?_
        refine z_C (m := 2) rfl rfl (fun x11 ex11 => ?_)
        refine gw_ld rfl rfl ?_
        refine z_mulL (c := 2) ex11 (by omega) (fun x12 ex12 => ?_)
        refine z_C (m := 1) rfl rfl (fun x13 ex13 => ?_)
        refine z_add (by omega) (fun x14 ex14 => ?_)
        refine z_la (n := 576) (zT S2 (by decide) rfl) (zN S2 (by decide) rfl) (by omega) ?_
        generalize elg15 : ez_L h2 11 x14.toInt.toNat = lg15
        have qlg15 := A_sl x14.toInt.toNat (by omega)
        rw [elg15, show x14.toInt.toNat = 2 * i.toInt.toNat + 1 by omega] at qlg15
        have hp1 := hpr (by omega)
        have hp2 := hpn (by omega)
        have hp3 := hpm (by omega)
        refine z_ladd (by omega) (fun lg16 elg16 => ?_)
        refine z_ls (n := 288) (zT S2 (by decide) rfl) (zN S2 (by decide) rfl) (by omega) (fun h17 e18 => ?_)
        have S19 := zSh_L S2 e18
        have F20 := zK_L F e18 (by omega)
        have A21 : wlL (ez_L h17 11) (LL W n.toInt.toNat (rd.toInt.toNat - 1)) r.toInt.toNat := by rw [zL_fn e18 11 (by decide)]; exact A_sl
        have A22 : wlL (ez_L h17 12) ((fun a => LL W n.toInt.toNat (rd.toInt.toNat - 1) (2 * a) + LL W n.toInt.toNat (rd.toInt.toNat - 1) (2 * a + 1))) (i.toInt.toNat + 1) := wlL_ex A_pl e18 rfl (by show _ = LL W n.toInt.toNat (rd.toInt.toNat - 1) (2 * i.toInt.toNat) + LL W n.toInt.toNat (rd.toInt.toNat - 1) (2 * i.toInt.toNat + 1); omega) rfl
        have A23 : alB (ez_I h17 13) W n.toInt.toNat ((rd.toInt.toNat - 1) + 1) := by rw [zIL_fn e18 13]; exact A_al
        refine z_inc rfl (by rw [show (1 : Int32).toInt = 1 from rfl]; omega) (fun x24 ex24 => ?_)
        rw [show (1 : Int32).toInt = 1 from rfl] at ex24
        show ez_gw _ _ _ _ _ _ _ _ [some (.ref 9), some (.int n), some (.int r), some (.int rd), some (.int pc), some (.int x24), l6, l7, l8] _ _ _
        refine z_go ?_
        exact ih h17 pc x24 (l6) (l7) (l8) F20 (by omega) (A21) ((by rw [show x24.toInt.toNat = (i.toInt.toNat + 1) by omega]; exact A22)) (A23) (by omega)
set_option maxRecDepth 4000 in
set_option maxHeartbeats 20000000 in
theorem f_round {E : Nat → Nat × (Nat → Int32)} {d : Nat} {Q : ez_Q} {h : ez_H} {n : Int32} {r : Int32} {rd : Int32} (S : zSh h) {W : Nat → Int} (hn : 2 ≤ n.toInt ∧ n.toInt ≤ 288) (ht : 1 ≤ rd.toInt ∧ rd.toInt ≤ 14) (hr : r.toInt = (rz n.toInt.toNat (rd.toInt.toNat - 1) : Nat)) (hK : kwI W (ez_I h 10) n.toInt.toNat) (hwb : (∀ j, j < n.toInt.toNat → 0 ≤ W j) ∧ sm W n.toInt.toNat ≤ 100000000) (hsl : wlL (ez_L h 11) (LL W n.toInt.toNat (rd.toInt.toNat - 1)) r.toInt.toNat) (hal : alB (ez_I h 13) W n.toInt.toNat ((rd.toInt.toNat - 1) + 1)) (K : ∀ h2 (x : Int32), zK (fun q => q = 13) (fun k => k = 11 ∨ k = 12) h h2 → x.toInt = (rz n.toInt.toNat ((rd.toInt.toNat - 1) + 1) : Nat) → wlL (ez_L h2 11) (LL W n.toInt.toNat ((rd.toInt.toNat - 1) + 1)) x.toInt.toNat → alB (ez_I h2 13) W n.toInt.toNat ((rd.toInt.toNat - 1) + 1 + 1) → Q (.inl (some (.int x))) h2) : pw E d 105 0 [some (.ref 9), some (.int n), some (.int r), some (.int rd), none, none, none, none, none] [] h Q := by
  have gn := z_rng n
  have gr := z_rng r
  have grd := z_rng rd
  have hz : rz n.toInt.toNat ((rd.toInt.toNat - 1) + 1) = n.toInt.toNat + rz n.toInt.toNat (rd.toInt.toNat - 1) / 2 := rfl
  have hzl := rz_le n.toInt.toNat (rd.toInt.toNat - 1)
  have hzl2 := hzl.2 (by omega)
  have F := zK_refl (fun q => q = 13) (fun k => k = 11 ∨ k = 12) h
  apply ez_Wp_in
  show ez_gw _ _ _ _ _ _ (cz_105) _ _ _ _ _
  refine gw_skip _ ?_
  refine gw_ld rfl rfl ?_
  refine z_C (m := 2) rfl rfl (fun x1 ex1 => ?_)
  refine z_dvP (c := 2) ex1 (by decide) (by omega) (fun x2 ex2 => ?_)
  refine gw_ld rfl rfl ?_
  refine z_gR (q := 12) (zT S (by decide) rfl) (zRf S (by decide) (by decide) rfl) (by decide) ?_
  refine z_al (n := 288) (.inr <| .inl (zT S (by decide) rfl)) (zN S (by decide) rfl) (by omega) (fun x3 ex3 => ?_)
  refine z_min rfl (fun x4 ex4 => ?_)
  refine gw_st rfl rfl rfl ?_
  show ez_gw _ _ _ _ _ _ _ _ [some (.ref 9), some (.int n), some (.int r), some (.int rd), some (.int x4), none, none, none, none] _ _ _
  refine z_C (m := 0) rfl rfl (fun x5 ex5 => ?_)
  refine gw_st rfl rfl rfl ?_
  show ez_gw _ _ _ _ _ _ _ _ [some (.ref 9), some (.int n), some (.int r), some (.int rd), some (.int x4), some (.int x5), none, none, none] _ _ _
  exact ez_Wp_at ((f_round_L0 (n := n) (r := r) (rd := rd) S hn ht hr hK hwb hsl hal K (((1000 - x5.toInt)).toNat + 1)) h x4 x5 (none) (none) (none) F (by omega) (hsl) ((by rw [show x5.toInt.toNat = 0 by omega]; exact fun i hi => by omega)) (hal) (by omega)) rfl
set_option maxRecDepth 4000 in
set_option maxHeartbeats 20000000 in
theorem f_rounds_L1 {E : Nat → Nat × (Nat → Int32)} {d : Nat} {Q : ez_Q} {h : ez_H} {n : Int32} {li : Int32} (S : zSh h) {W : Nat → Int} (hn : 2 ≤ n.toInt ∧ n.toInt ≤ 288) (hl : 1 ≤ li.toInt ∧ li.toInt ≤ 15) (hK : kwI W (ez_I h 10) n.toInt.toNat) (hwb : (∀ j, j < n.toInt.toNat → 0 ≤ W j) ∧ sm W n.toInt.toNat ≤ 100000000) (K : ∀ h2, zK (fun q => q = 13) (fun k => k = 11 ∨ k = 12) h h2 → alB (ez_I h2 13) W n.toInt.toNat li.toInt.toNat → Q (.inl none) h2) : ∀ N : Nat, (∀ (h2 : ez_H) (sz : Int32) (rd : Int32) , zK (fun q => q = 13) (fun k => k = 11 ∨ k = 12) h h2 → (1 ≤ rd.toInt ∧ rd.toInt ≤ li.toInt ∧ sz.toInt = (rz n.toInt.toNat (rd.toInt.toNat - 1) : Nat)) → wlL (ez_L h2 11) (LL W n.toInt.toNat (rd.toInt.toNat - 1)) sz.toInt.toNat → alB (ez_I h2 13) W n.toInt.toNat ((rd.toInt.toNat - 1) + 1) → (100 - rd.toInt) < (N : Int) → pw E (d + 1) 104 49 [some (.ref 9), some (.int n), some (.int li), some (.int sz), some (.int rd)] [] h2 Q) := by
  intro N
  induction N with
  | zero => exact fun h2 sz rd  F hinv A_sl A_al hm => absurd hm (by have w_sz := z_rng sz; have w_rd := z_rng rd; have gn := z_rng n; have gli := z_rng li; omega)
  | succ N ih =>
    refine fun h2 sz rd  F hinv A_sl A_al hm => ?_
    · skip
      have w_sz := z_rng sz
      have w_rd := z_rng rd
      have gn := z_rng n
      have gli := z_rng li
      have S2 := zK_sh F S
      apply ez_Wp_in
      show ez_gw _ _ _ _ _ _ (cz_104) _ _ _ _ _
      refine gw_skip _ ?_
      refine gw_ld rfl rfl ?_
      refine gw_ld rfl rfl ?_
      refine z_b2 (fun c1 => ?_) (fun c1 => ?_)
      · have c1 : li.toInt ≤ rd.toInt := c1
        refine gw_skip _ ?_
        refine z_rv ?_
        exact K _ F (by rw [show li.toInt.toNat = (rd.toInt.toNat - 1) + 1 by omega]; exact A_al)
      · have c1 : ¬ (li.toInt ≤ rd.toInt) := c1
        refine gw_ld rfl rfl ?_
        refine gw_ld rfl rfl ?_
        refine gw_ld rfl rfl ?_
        refine gw_ld rfl rfl ?_
        refine z_cl rfl rfl rfl rfl rfl rfl rfl rfl rfl rfl rfl (zT S2 (by decide) rfl) ?_
        refine f_round (n := n) (r := sz) (rd := rd) (W := W) S2 (by omega) (by omega) (by omega) (by rw [zK_fn F 10 (by decide)]; exact hK) hwb A_sl A_al (fun h2 x4 F3 k5 k6 k7 => ?_)
        have rx4 := z_rng x4
        have S8 := zK_sh F3 S2
        have F9 := zK_tr F (zK_mono F3 (fun k hk => by first | omega | exact False.elim hk) (fun k hk => by first | omega | exact False.elim hk))
        refine gw_st rfl rfl rfl ?_
        show ez_gw _ _ _ _ _ _ _ _ [some (.ref 9), some (.int n), some (.int li), some (.int x4), some (.int rd)] _ _ _
        refine z_inc rfl (by rw [show (1 : Int32).toInt = 1 from rfl]; omega) (fun x10 ex10 => ?_)
        rw [show (1 : Int32).toInt = 1 from rfl] at ex10
        show ez_gw _ _ _ _ _ _ _ _ [some (.ref 9), some (.int n), some (.int li), some (.int x4), some (.int x10)] _ _ _
        refine z_go ?_
        exact ih h2 x4 x10 F9 (by rw [show x10.toInt.toNat - 1 = (rd.toInt.toNat - 1) + 1 by omega]; omega) ((by rw [show x10.toInt.toNat - 1 = (rd.toInt.toNat - 1) + 1 by omega]; exact k6)) ((by rw [show x10.toInt.toNat - 1 = (rd.toInt.toNat - 1) + 1 by omega]; exact k7)) (by omega)
set_option maxRecDepth 4000 in
set_option maxHeartbeats 20000000 in
theorem f_rounds_L0 {E : Nat → Nat × (Nat → Int32)} {d : Nat} {Q : ez_Q} {h : ez_H} {n : Int32} {li : Int32} (S : zSh h) {W : Nat → Int} (hn : 2 ≤ n.toInt ∧ n.toInt ≤ 288) (hl : 1 ≤ li.toInt ∧ li.toInt ≤ 15) (hK : kwI W (ez_I h 10) n.toInt.toNat) (hwb : (∀ j, j < n.toInt.toNat → 0 ≤ W j) ∧ sm W n.toInt.toNat ≤ 100000000) (K : ∀ h2, zK (fun q => q = 13) (fun k => k = 11 ∨ k = 12) h h2 → alB (ez_I h2 13) W n.toInt.toNat li.toInt.toNat → Q (.inl none) h2) : ∀ N : Nat, (∀ (h2 : ez_H) (i : Int32) (l4 : Option Value) , zK (fun q => q = 13) (fun k => k = 11 ∨ k = 12) h h2 → (0 ≤ i.toInt ∧ i.toInt ≤ n.toInt) → a01 (ez_I h2 13) i.toInt.toNat → wlL (ez_L h2 11) (W) i.toInt.toNat → (1000 - i.toInt) < (N : Int) → pw E (d + 1) 104 10 [some (.ref 9), some (.int n), some (.int li), some (.int i), l4] [] h2 Q) := by
  intro N
  induction N with
  | zero => exact fun h2 i l4  F hinv A_a0 A_sl hm => absurd hm (by have w_i := z_rng i; have gn := z_rng n; have gli := z_rng li; omega)
  | succ N ih =>
    refine fun h2 i l4  F hinv A_a0 A_sl hm => ?_
    · skip
      have w_i := z_rng i
      have gn := z_rng n
      have gli := z_rng li
      have S2 := zK_sh F S
      apply ez_Wp_in
      show ez_gw _ _ _ _ _ _ (cz_104) _ _ _ _ _
      refine gw_skip _ ?_
      refine gw_ld rfl rfl ?_
      refine gw_ld rfl rfl ?_
      refine z_b2 (fun c1 => ?_) (fun c1 => ?_)
      · have c1 : n.toInt ≤ i.toInt := c1
        refine gw_skip _ ?_
        refine gw_ld rfl rfl ?_
        refine gw_st rfl rfl rfl ?_
        show ez_gw _ _ _ _ _ _ _ _ [some (.ref 9), some (.int n), some (.int li), some (.int n), l4] _ _ _
        refine z_C (m := 1) rfl rfl (fun x2 ex2 => ?_)
        refine gw_st rfl rfl rfl ?_
        show ez_gw _ _ _ _ _ _ _ _ [some (.ref 9), some (.int n), some (.int li), some (.int n), some (.int x2)] _ _ _
        exact ez_Wp_at ((f_rounds_L1 (n := n) (li := li) S hn hl hK hwb K (((100 - x2.toInt)).toNat + 1)) h2 n x2 F (by rw [show x2.toInt.toNat - 1 = 0 by omega]; have hz0 : rz n.toInt.toNat 0 = n.toInt.toNat := rfl; omega) ((by rw [show x2.toInt.toNat - 1 = 0 by omega, show n.toInt.toNat = i.toInt.toNat by omega]; exact A_sl)) ((by rw [show x2.toInt.toNat - 1 = 0 by omega]; exact alB_1 A_a0 (by omega) rfl)) (by omega)) rfl
      · have c1 : ¬ (n.toInt ≤ i.toInt) := c1
        refine gw_ld rfl rfl ?_
        refine z_gR (q := 11) (zT S2 (by decide) rfl) (zRf S2 (by decide) (by decide) rfl) (by decide) ?_
        refine gw_ld rfl rfl ?_
        refine gw_ld rfl rfl ?_
        refine z_gR (q := 10) (zT S2 (by decide) rfl) (zRf S2 (by decide) (by decide) rfl) (by decide) ?_
        refine gw_ld rfl rfl ?_
        refine z_iaV (n := 288) (zT S2 (by decide) rfl) (zN S2 (by decide) rfl) (by omega) (zK_a F (by decide)) ?_
        generalize ex3 : ez_I h 10 i.toInt.toNat = x3
        have rx3 := z_rng x3
        refine z_C (m := 9) rfl rfl (fun x4 ex4 => ?_)
        refine z_2 rfl (fun x5 ex5 => ?_)
        have rx5 := z_rng x5
        have qx5 := kwI_at hK ex3 (by omega) (by omega) ex5
        refine z_i2l (fun lg6 elg6 => ?_)
        refine z_ls (n := 576) (zT S2 (by decide) rfl) (zN S2 (by decide) rfl) (by omega) (fun h7 e8 => ?_)
        have S9 := zSh_L S2 e8
        have F10 := zK_L F e8 (by omega)
        have A11 : a01 (ez_I h7 13) i.toInt.toNat := by rw [zIL_fn e8 13]; exact A_a0
        have A12 : wlL (ez_L h7 11) (W) (i.toInt.toNat + 1) := wlL_ex A_sl e8 rfl (by omega) rfl
        refine gw_ld rfl rfl ?_
        refine z_gR (q := 13) (zT S9 (by decide) rfl) (zRf S9 (by decide) (by decide) rfl) (by decide) ?_
        refine gw_ld rfl rfl ?_
        refine z_C (m := 1) rfl rfl (fun x13 ex13 => ?_)
        refine z_is (n := 576) (zT S9 (by decide) rfl) (zN S9 (by decide) rfl) (by omega) (fun h14 e15 => ?_)
        have S16 := zSh_set S9 e15
        have F17 := zK_set F10 e15 (by omega)
        have A18 : a01 (ez_I h14 13) (i.toInt.toNat + 1) := a01_s A11 e15 rfl (by omega) rfl
        
        have A19 : wlL (ez_L h14 11) (W) (i.toInt.toNat + 1) := by rw [zLI_fn e15 11]; exact A12
        clear A11
        clear A12
        refine z_inc rfl (by rw [show (1 : Int32).toInt = 1 from rfl]; omega) (fun x20 ex20 => ?_)
        rw [show (1 : Int32).toInt = 1 from rfl] at ex20
        show ez_gw _ _ _ _ _ _ _ _ [some (.ref 9), some (.int n), some (.int li), some (.int x20), l4] _ _ _
        refine z_go ?_
        exact ih h14 x20 (l4) F17 (by omega) ((by rw [show x20.toInt.toNat = (i.toInt.toNat + 1) by omega]; exact A18)) ((by rw [show x20.toInt.toNat = (i.toInt.toNat + 1) by omega]; exact A19)) (by omega)
set_option maxRecDepth 4000 in
set_option maxHeartbeats 20000000 in
theorem f_rounds {E : Nat → Nat × (Nat → Int32)} {d : Nat} {Q : ez_Q} {h : ez_H} {n : Int32} {li : Int32} (S : zSh h) {W : Nat → Int} (hn : 2 ≤ n.toInt ∧ n.toInt ≤ 288) (hl : 1 ≤ li.toInt ∧ li.toInt ≤ 15) (hK : kwI W (ez_I h 10) n.toInt.toNat) (hwb : (∀ j, j < n.toInt.toNat → 0 ≤ W j) ∧ sm W n.toInt.toNat ≤ 100000000) (K : ∀ h2, zK (fun q => q = 13) (fun k => k = 11 ∨ k = 12) h h2 → alB (ez_I h2 13) W n.toInt.toNat li.toInt.toNat → Q (.inl none) h2) : pw E (d + 1) 104 0 [some (.ref 9), some (.int n), some (.int li), none, none] [] h Q := by
  have gn := z_rng n
  have gli := z_rng li
  have F := zK_refl (fun q => q = 13) (fun k => k = 11 ∨ k = 12) h
  apply ez_Wp_in
  show ez_gw _ _ _ _ _ _ (cz_104) _ _ _ _ _
  refine gw_skip _ ?_
  refine gw_ld rfl rfl ?_
  refine z_gR (q := 13) (zT S (by decide) rfl) (zRf S (by decide) (by decide) rfl) (by decide) ?_
  refine z_C (m := 0) rfl rfl (fun x1 ex1 => ?_)
  refine z_cl rfl rfl rfl rfl rfl rfl rfl rfl rfl rfl rfl (trivial) ?_
  refine wp_fill (zT S (by decide) rfl) (by rw [show ez_l h 13 = 576 from zN S (by decide) rfl]; omega) ?_
  generalize e3 : ez_rowI h 13 (pf_fill (ez_I h 13) (ez_l h 13) x1) = h2
  have e3 := e3.symm
  have S4 := zSh_row S e3
  have F5 := zK_row F e3 (by omega)
  have A6 := zIr_at e3 (show ez_l h 13 = 576 from zN S (by decide) rfl)
  refine z_C (m := 0) rfl rfl (fun x7 ex7 => ?_)
  refine gw_st rfl rfl rfl ?_
  show ez_gw _ _ _ _ _ _ _ _ [some (.ref 9), some (.int n), some (.int li), some (.int x7), none] _ _ _
  exact ez_Wp_at ((f_rounds_L0 (n := n) (li := li) S hn hl hK hwb K (((1000 - x7.toInt)).toNat + 1)) h2 x7 (none) F5 (by omega) ((a01_0 A6 (by omega) (by omega))) ((by rw [show x7.toInt.toNat = 0 by omega]; exact fun i hi => by omega)) (by omega)) rfl
