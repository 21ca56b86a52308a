/-! THE CLASS'S CELLS, cell by cell: the same but for the ints of some cells and the longs of some cells -/
def zK (PA PL : Nat → Prop) (h h2 : ez_H) : Prop := ez_n h2 = ez_n h ∧ ez_u h2 = ez_u h ∧ ez_t h2 = ez_t h ∧ ez_l h2 = ez_l h ∧ ez_R h2 = ez_R h ∧ (∀ p, ¬ PA p → ez_I h2 p = ez_I h p) ∧ ∀ p, ¬ PL p → ez_L h2 p = ez_L h p
theorem zK_refl (PA PL : Nat → Prop) (h : ez_H) : zK PA PL h h := ⟨rfl, rfl, rfl, rfl, rfl, fun _ _ => rfl, fun _ _ => rfl⟩
theorem zK_tr {PA PL : Nat → Prop} {h h1 h2 : ez_H} (A : zK PA PL h h1) (B : zK PA PL h1 h2) : zK PA PL h h2 := ⟨B.1.trans A.1, B.2.1.trans A.2.1, B.2.2.1.trans A.2.2.1, B.2.2.2.1.trans A.2.2.2.1, B.2.2.2.2.1.trans A.2.2.2.2.1, fun p hp => (B.2.2.2.2.2.1 p hp).trans (A.2.2.2.2.2.1 p hp), fun p hp => (B.2.2.2.2.2.2 p hp).trans (A.2.2.2.2.2.2 p hp)⟩
theorem zK_mono {PA PL PA' PL' : Nat → Prop} {h h1 : ez_H} (A : zK PA PL h h1) (ha : ∀ p, PA p → PA' p) (hl : ∀ p, PL p → PL' p) : zK PA' PL' h h1 := ⟨A.1, A.2.1, A.2.2.1, A.2.2.2.1, A.2.2.2.2.1, fun p q => A.2.2.2.2.2.1 p (fun c => q (ha p c)), fun p q => A.2.2.2.2.2.2 p (fun c => q (hl p c))⟩
theorem zK_sh {PA PL : Nat → Prop} {h h1 : ez_H} (A : zK PA PL h h1) (S : zSh h) : zSh h1 := fun p hp => by
  rw [A.2.2.1, A.2.2.2.1, A.2.2.2.2.1]
  exact S p hp
theorem zK_fn {PA PL : Nat → Prop} {h h1 : ez_H} (A : zK PA PL h h1) (p : Nat) (hp : ¬ PA p) : ez_I h1 p = ez_I h p := A.2.2.2.2.2.1 p hp
theorem zK_a {PA PL : Nat → Prop} {h h1 : ez_H} (A : zK PA PL h h1) {p k : Nat} (hp : ¬ PA p) : ez_I h1 p k = ez_I h p k := by rw [zK_fn A p hp]
theorem zK_fl {PA PL : Nat → Prop} {h h1 : ez_H} (A : zK PA PL h h1) (p : Nat) (hp : ¬ PL p) : ez_L h1 p = ez_L h p := A.2.2.2.2.2.2 p hp
theorem zK_set {PA PL : Nat → Prop} {h h1 h2 : ez_H} {p k : Nat} {v : Int32} (A : zK PA PL h h1) (e : h2 = ez_setI h1 p k v) (hp : PA p) : zK PA PL h h2 := by
  subst e
  refine zK_tr A ⟨rfl, rfl, rfl, rfl, rfl, fun q hq => ?_, fun q hq => rfl⟩
  funext j
  exact ez_I_set_ne (fun c => hq (c.1 ▸ hp))
theorem zK_row {PA PL : Nat → Prop} {h h1 h2 : ez_H} {p : Nat} {g : Nat → Int32} (A : zK PA PL h h1) (e : h2 = ez_rowI h1 p g) (hp : PA p) : zK PA PL h h2 := by
  subst e
  refine zK_tr A ⟨rfl, rfl, rfl, rfl, rfl, fun q hq => ?_, fun q hq => rfl⟩
  show ez_row (ez_I h1) p g q = _
  unfold ez_row
  have : ¬ q = p := fun c => hq (c ▸ hp)
  simp only [this, ↓reduceIte]
theorem zK_L {PA PL : Nat → Prop} {h h1 h2 : ez_H} {p k : Nat} {v : Int64} (A : zK PA PL h h1) (e : h2 = ez_setL h1 p k v) (hp : PL p) : zK PA PL h h2 := by
  subst e
  refine zK_tr A ⟨rfl, rfl, rfl, rfl, rfl, fun q hq => rfl, fun q hq => ?_⟩
  funext j
  show ez_up2 (ez_L h1) p k v q j = _
  unfold ez_up2
  have : ¬ q = p := fun c => hq (c ▸ hp)
  simp only [this, ↓reduceIte]
theorem zL_fn {h h2 : ez_H} {p k : Nat} {v : Int64} (e : h2 = ez_setL h p k v) (q : Nat) (hn : q ≠ p) : ez_L h2 q = ez_L h q := by
  subst e
  funext j
  show ez_up2 (ez_L h) p k v q j = _
  unfold ez_up2
  simp only [hn, ↓reduceIte]
theorem zL_ne {h h2 : ez_H} {p k q j : Nat} {v : Int64} (e : h2 = ez_setL h p k v) (hn : ¬ (q = p ∧ j = k)) : ez_L h2 q j = ez_L h q j := by
  subst e
  show ez_up2 (ez_L h) p k v q j = _
  unfold ez_up2
  by_cases hq : q = p
  · have : ¬ j = k := fun e => hn ⟨hq, e⟩
    simp only [hq, this, ↓reduceIte]
  · simp only [hq, ↓reduceIte]
theorem zL_eq {h h2 : ez_H} {p k : Nat} {v : Int64} (e : h2 = ez_setL h p k v) : ez_L h2 p k = v := by
  subst e
  show ez_up2 (ez_L h) p k v p k = _
  unfold ez_up2
  simp only [↓reduceIte]
theorem zIr_fn {h h2 : ez_H} {p : Nat} {g : Nat → Int32} (e : h2 = ez_rowI h p g) (q : Nat) (hn : q ≠ p) : ez_I h2 q = ez_I h q := by
  funext j
  exact zI_row e hn
theorem zIr_at {h h2 : ez_H} {p n : Nat} {v : Int32} (e : h2 = ez_rowI h p (pf_fill (ez_I h p) (ez_l h p) v)) (hl : ez_l h p = n) : ∀ k, k < n → ez_I h2 p k = v := fun k hk => by
  subst e
  show ez_row (ez_I h) p (pf_fill (ez_I h p) (ez_l h p) v) p k = v
  unfold ez_row pf_fill
  rw [hl]
  simp only [↓reduceIte, hk]
theorem zK_Q {h h2 : ez_H} {Q : ez_Q} {o : Option Value ⊕ Nat} (A : zK (fun _ => False) (fun _ => False) h h2) (q : Q o h) : Q o h2 := by
  have e : h2 = h := by
    have hI : ez_I h2 = ez_I h := funext (fun p => A.2.2.2.2.2.1 p id)
    have hL : ez_L h2 = ez_L h := funext (fun p => A.2.2.2.2.2.2 p id)
    obtain ⟨a1, a2, a3, a4, a5, a6, a7⟩ := h
    obtain ⟨b1, b2, b3, b4, b5, b6, b7⟩ := h2
    obtain ⟨c1, c2, c3, c4, c5, _, _⟩ := A
    cases c1; cases c2; cases c3; cases c4; cases c5; cases hI; cases hL
    rfl
  rw [e]; exact q
/-! gathering and sorting in the class -/
noncomputable def kfn (K : Nat → Int32) : Nat → Int := fun i => (K i).toInt
def cK (U K : Nat → Int32) (n s : Nat) : Prop := n = poC U s ∧ ∀ x, cnZ (kfn K) x n = cnU U x s
theorem cK_0 {U K : Nat → Int32} {n s : Nat} (hn : n = 0) (hs : s = 0) : cK U K n s := by
  subst hn; subst hs
  exact ⟨rfl, fun _ => rfl⟩
theorem cK_z {U K : Nat → Int32} {n s s' : Nat} {v : Int32} (A : cK U K n s) (e : U s = v) (hv : v.toInt ≤ 0) (hs : s' = s + 1) : cK U K n s' := by
  subst hs
  have h : ¬ 0 < (U s).toInt := by rw [e]; omega
  refine ⟨?_, fun x => ?_⟩
  · show n = poC U s + (if 0 < (U s).toInt then 1 else 0)
    simp only [h, ↓reduceIte]; exact A.1
  · rw [A.2 x]
    show _ = cnU U x s + (if 0 < (U s).toInt ∧ kyU U s = x then 1 else 0)
    have h2 : ¬ (0 < (U s).toInt ∧ kyU U s = x) := fun c => h c.1
    simp only [h2, ↓reduceIte]; rfl
theorem cK_s {h h2 : ez_H} {U : Nat → Int32} {n s s' m x : Nat} {v y : Int32} (A : cK U (ez_I h 10) n s) (e : h2 = ez_setI h 10 x y) (hx : x = n) (ev : U s = v) (hv : 0 < v.toInt) (hy : y.toInt = v.toInt * 512 + s) (hm : m = n + 1) (hs : s' = s + 1) : cK U (ez_I h2 10) m s' := by
  subst hs; subst hm; subst hx
  have hp0 : 0 < (U s).toInt := by rw [ev]; exact hv
  refine ⟨?_, fun z => ?_⟩
  · show x + 1 = poC U s + (if 0 < (U s).toInt then 1 else 0)
    simp only [hp0, ↓reduceIte]
    have := A.1
    omega
  · show cnZ (kfn (ez_I h2 10)) z x + (if kfn (ez_I h2 10) x = z then 1 else 0) = cnU U z s + (if 0 < (U s).toInt ∧ kyU U s = z then 1 else 0)
    have e1 : cnZ (kfn (ez_I h2 10)) z x = cnZ (kfn (ez_I h 10)) z x := cnZ_congr x (fun i hi => by unfold kfn; rw [zI_ne e (by omega)])
    have e2 : kfn (ez_I h2 10) x = kyU U s := by
      unfold kfn kyU
      rw [zI_eq e, hy, ev]
    rw [e1, e2, A.2 z]
    simp only [hp0, true_and]
theorem z_key {w i s b z : Int32} (hw : 0 ≤ w.toInt ∧ w.toInt ≤ 1000000) (hi : 0 ≤ i.toInt ∧ i.toInt < 512) (hs : s.toInt = 9) (hb : b = w <<< (s &&& 31)) (hz : z = b ||| i) : z.toInt = w.toInt * 512 + i.toInt := by
  have es : s = 9 := z_inj hs
  subst es
  have hwu := z_u hw.1
  have hiu := z_u hi.1
  have h1 : ev_u b = ev_u w <<< 9 := by
    have : b.toBitVec = w.toBitVec <<< 9 := by
      rw [hb, show ((9 : Int32) &&& 31) = 9 from by decide, Int32.toBitVec_shiftLeft]
      rfl
    show b.toBitVec.toNat = _
    rw [this, BitVec.toNat_shiftLeft]
    show (ev_u w <<< 9) % 2 ^ 32 = _
    rw [Nat.shiftLeft_eq]
    omega
  have h2 : ev_u z = ev_u w <<< 9 + ev_u i := by
    rw [hz, ef_or_ok]
    show ev_u b ||| ev_u i = _
    rw [h1, Nat.shiftLeft_add_eq_or_of_lt (by omega)]
  rw [Nat.shiftLeft_eq] at h2
  have := z_of_u (x := z) (by omega)
  omega
def cS2 (f g : Nat → Int) (n : Nat) : Prop := ∀ x, cnZ f x n = cnZ g x n
theorem kfn_w {h h2 : ez_H} {x : Nat} {y : Int32} (e : h2 = ez_setI h 10 x y) : kfn (ez_I h2 10) x = y.toInt ∧ ∀ i, i ≠ x → kfn (ez_I h2 10) i = kfn (ez_I h 10) i := ⟨by unfold kfn; rw [zI_eq e], fun i hi => by unfold kfn; rw [zI_ne e (by omega)]⟩
theorem cS2_h {f g : Nat → Int} {n k : Nat} {v : Int} (A : cS2 f g n) (hv : f k = v) : cS2 (hol f k v) g n := fun x => by
  rw [← A x]
  refine cnZ_congr n (fun i _ => ?_)
  by_cases c : i = k
  · subst c; rw [hol_e]; exact hv.symm
  · exact hol_n c
theorem cS2_mv {h h2 : ez_H} {g : Nat → Int} {n k q x : Nat} {v : Int} {y : Int32} (A : cS2 (hol (kfn (ez_I h 10)) k v) g n) (e : h2 = ez_setI h 10 x y) (hx : x = k) (ey : ez_I h 10 q = y) (hk : k < n) (hq : q < n) (hne : q ≠ k) : cS2 (hol (kfn (ez_I h2 10)) q v) g n := fun z => by
  subst hx
  obtain ⟨w1, w2⟩ := kfn_w e
  rw [← A z]
  exact cnZ_mv hk hq hne (by rw [w1]; unfold kfn; rw [ey]) w2
theorem cS2_end {h h2 : ez_H} {g : Nat → Int} {n k x : Nat} {v : Int} {y : Int32} (A : cS2 (hol (kfn (ez_I h 10)) k v) g n) (e : h2 = ez_setI h 10 x y) (hx : x = k) (hy : y.toInt = v) : cS2 (kfn (ez_I h2 10)) g n := fun z => by
  subst hx
  obtain ⟨w1, w2⟩ := kfn_w e
  rw [← A z]
  refine cnZ_congr n (fun i _ => ?_)
  by_cases c : i = x
  · subst c; rw [hol_e, w1]; exact hy
  · rw [hol_n c]; exact w2 i c
theorem soH_mvK {h h2 : ez_H} {n k q x : Nat} {v : Int} {y : Int32} (A : soH (kfn (ez_I h 10)) n k v) (e : h2 = ez_setI h 10 x y) (hx : x = k) (ey : ez_I h 10 q = y) (hq : q + 1 = k) (hk : k ≤ n) (hv : v ≤ y.toInt) : soH (kfn (ez_I h2 10)) n q v := by
  subst hx
  obtain ⟨w1, w2⟩ := kfn_w e
  exact soH_mv A hq hk (by rw [w1]; unfold kfn; rw [ey]) w2 (by unfold kfn; rw [ey]; exact hv)
theorem soS_endK {h h2 : ez_H} {n k x m : Nat} {v : Int} {y : Int32} (A : soH (kfn (ez_I h 10)) n k v) (e : h2 = ez_setI h 10 x y) (hx : x = k) (hk : k ≤ n) (hy : y.toInt = v) (hv : 0 < k → ∃ c : Int32, ez_I h 10 (k - 1) = c ∧ c.toInt ≤ v) (hm : m = n + 1) : soS (kfn (ez_I h2 10)) m := by
  subst hx
  obtain ⟨w1, w2⟩ := kfn_w e
  refine soH_end A hk (by rw [w1]; exact hy) w2 (fun q => ?_) hm
  obtain ⟨c, e1, h2'⟩ := hv q
  unfold kfn
  rw [e1]; exact h2'
theorem soS_le {f : Nat → Int} {n m : Nat} (A : soS f n) (h : m ≤ n) : soS f m := fun i hi => A i (by omega)
theorem zLI_fn {h h2 : ez_H} {p k : Nat} {v : Int32} (e : h2 = ez_setI h p k v) (q : Nat) : ez_L h2 q = ez_L h q := by subst e; rfl
theorem zIL_fn {h h2 : ez_H} {p k : Nat} {v : Int64} (e : h2 = ez_setL h p k v) (q : Nat) : ez_I h2 q = ez_I h q := by subst e; rfl
/-! PRINTED by wip/p18/con19.py: the class's maker of lengths: gathering, sorting -/
set_option maxRecDepth 4000 in
set_option maxHeartbeats 20000000 in
theorem f_gather_L0 {E : Nat → Nat × (Nat → Int32)} {d : Nat} {Q : ez_Q} {h : ez_H} {u : Nat} {n : Int32} (S : zSh h) {nu : Nat} (hu : zA u nu) (hd : u ≠ 10) (hn : 0 ≤ n.toInt ∧ n.toInt ≤ nu ∧ n.toInt ≤ 288 ∧ nu ≤ 1000) (hU : aR (ez_I h u) n.toInt.toNat 0 1000000) (K : ∀ h2 (x : Int32), zK (fun q => q = 10) (fun _ => False) h h2 → (0 ≤ x.toInt ∧ x.toInt ≤ n.toInt) → cK (ez_I h u) (ez_I h2 10) x.toInt.toNat n.toInt.toNat → Q (.inl (some (.int x))) h2) : ∀ N : Nat, (∀ (h2 : ez_H) (c : Int32) (i : Int32) , zK (fun q => q = 10) (fun _ => False) h h2 → (0 ≤ c.toInt ∧ c.toInt ≤ i.toInt ∧ i.toInt ≤ n.toInt) → cK (ez_I h u) (ez_I h2 10) c.toInt.toNat i.toInt.toNat → (1000 - i.toInt) < (N : Int) → pw E d 102 5 [some (.ref 9), some (.ref u), some (.int n), some (.int c), some (.int i)] [] h2 Q) := by
  intro N
  induction N with
  | zero => exact fun h2 c i  F hinv A_ck hm => absurd hm (by have w_c := z_rng c; have w_i := z_rng i; have gn := z_rng n; omega)
  | succ N ih =>
    refine fun h2 c i  F hinv A_ck hm => ?_
    · skip
      have w_c := z_rng c
      have w_i := z_rng i
      have gn := z_rng n
      have S2 := zK_sh F S
      apply ez_Wp_in
      show ez_gw _ _ _ _ _ _ (cz_102) _ _ _ _ _
      refine gw_skip _ ?_
      refine gw_ld rfl rfl ?_
      refine gw_ld rfl rfl ?_
      refine z_b2 (fun c1 => ?_) (fun c1 => ?_)
      · have c1 : n.toInt ≤ i.toInt := c1
        refine gw_skip _ ?_
        refine gw_ld rfl rfl ?_
        refine z_ri ?_
        exact K _ c F (by omega) (by rw [show n.toInt.toNat = i.toInt.toNat by omega]; exact A_ck)
      · have c1 : ¬ (n.toInt ≤ i.toInt) := c1
        refine gw_ld rfl rfl ?_
        refine gw_ld rfl rfl ?_
        refine z_al (n := nu) (.inl ((hu _ S2).1)) ((hu _ S2).2) (by omega) (fun x2 ex2 => ?_)
        refine z_b2 (fun c3 => ?_) (fun c3 => ?_)
        · have c3 : x2.toInt ≤ i.toInt := c3
          refine gw_skip _ ?_
          refine gw_ld rfl rfl ?_
          refine z_ri ?_
          exact K _ c F (by omega) (by rw [show n.toInt.toNat = i.toInt.toNat by omega]; exact A_ck)
        · have c3 : ¬ (x2.toInt ≤ i.toInt) := c3
          refine gw_ld rfl rfl ?_
          refine gw_ld rfl rfl ?_
          refine z_gR (q := 10) (zT S2 (by decide) rfl) (zRf S2 (by decide) (by decide) rfl) (by decide) ?_
          refine z_al (n := 288) (.inl (zT S2 (by decide) rfl)) (zN S2 (by decide) rfl) (by omega) (fun x4 ex4 => ?_)
          refine z_b2 (fun c5 => ?_) (fun c5 => ?_)
          · have c5 : x4.toInt ≤ c.toInt := c5
            refine gw_skip _ ?_
            refine gw_ld rfl rfl ?_
            refine z_ri ?_
            exact K _ c F (by omega) (by rw [show n.toInt.toNat = i.toInt.toNat by omega]; exact A_ck)
          · have c5 : ¬ (x4.toInt ≤ c.toInt) := c5
            refine gw_ld rfl rfl ?_
            refine gw_ld rfl rfl ?_
            refine z_iaV (n := nu) ((hu _ S2).1) ((hu _ S2).2) (by omega) (zK_a F (by omega)) ?_
            generalize ex6 : ez_I h u i.toInt.toNat = x6
            have rx6 := z_rng x6
            have yx6 := hU i.toInt.toNat (by omega)
            rw [ex6] at yx6
            refine z_b1 (fun c7 => ?_) (fun c7 => ?_)
            · have c7 : x6.toInt ≤ 0 := c7
              refine gw_skip _ ?_
              refine z_inc rfl (by rw [show (1 : Int32).toInt = 1 from rfl]; omega) (fun x8 ex8 => ?_)
              rw [show (1 : Int32).toInt = 1 from rfl] at ex8
              show ez_gw _ _ _ _ _ _ _ _ [some (.ref 9), some (.ref u), some (.int n), some (.int c), some (.int x8)] _ _ _
              refine z_go ?_
              exact ih h2 c x8 F (by omega) (cK_z A_ck ex6 (by omega) (by omega)) (by omega)
            · have c7 : ¬ (x6.toInt ≤ 0) := c7
              refine gw_ld rfl rfl ?_
              refine z_gR (q := 10) (zT S2 (by decide) rfl) (zRf S2 (by decide) (by decide) rfl) (by decide) ?_
              refine gw_ld rfl rfl ?_
              refine gw_ld rfl rfl ?_
              refine gw_ld rfl rfl ?_
              refine z_iaV (n := nu) ((hu _ S2).1) ((hu _ S2).2) (by omega) ((zK_a F (by omega)).trans ex6) ?_
              refine z_C (m := 9) rfl rfl (fun x10 ex10 => ?_)
              refine z_2 rfl (fun x11 ex11 => ?_)
              have rx11 := z_rng x11
              have eS := ex11
              refine gw_ld rfl rfl ?_
              refine z_2 rfl (fun x12 ex12 => ?_)
              have rx12 := z_rng x12
              have ox12 := z_key (by omega) (by omega) (by omega) eS ex12
              refine z_is (n := 288) (zT S2 (by decide) rfl) (zN S2 (by decide) rfl) (by omega) (fun h13 e14 => ?_)
              have S15 := zSh_set S2 e14
              have F16 := zK_set F e14 (by omega)
              have A17 : cK (ez_I h u) (ez_I h13 10) (c.toInt.toNat + 1) (i.toInt.toNat + 1) := cK_s A_ck e14 rfl ex6 (by omega) (by omega) rfl rfl
              refine z_inc rfl (by rw [show (1 : Int32).toInt = 1 from rfl]; omega) (fun x18 ex18 => ?_)
              rw [show (1 : Int32).toInt = 1 from rfl] at ex18
              show ez_gw _ _ _ _ _ _ _ _ [some (.ref 9), some (.ref u), some (.int n), some (.int x18), some (.int i)] _ _ _
              refine z_inc rfl (by rw [show (1 : Int32).toInt = 1 from rfl]; omega) (fun x19 ex19 => ?_)
              rw [show (1 : Int32).toInt = 1 from rfl] at ex19
              show ez_gw _ _ _ _ _ _ _ _ [some (.ref 9), some (.ref u), some (.int n), some (.int x18), some (.int x19)] _ _ _
              refine z_go ?_
              exact ih h13 x18 x19 F16 (by omega) ((by rw [show x18.toInt.toNat = c.toInt.toNat + 1 by omega, show x19.toInt.toNat = i.toInt.toNat + 1 by omega]; exact A17)) (by omega)
set_option maxRecDepth 4000 in
set_option maxHeartbeats 20000000 in
theorem f_gather {E : Nat → Nat × (Nat → Int32)} {d : Nat} {Q : ez_Q} {h : ez_H} {u : Nat} {n : Int32} (S : zSh h) {nu : Nat} (hu : zA u nu) (hd : u ≠ 10) (hn : 0 ≤ n.toInt ∧ n.toInt ≤ nu ∧ n.toInt ≤ 288 ∧ nu ≤ 1000) (hU : aR (ez_I h u) n.toInt.toNat 0 1000000) (K : ∀ h2 (x : Int32), zK (fun q => q = 10) (fun _ => False) h h2 → (0 ≤ x.toInt ∧ x.toInt ≤ n.toInt) → cK (ez_I h u) (ez_I h2 10) x.toInt.toNat n.toInt.toNat → Q (.inl (some (.int x))) h2) : pw E d 102 0 [some (.ref 9), some (.ref u), some (.int n), none, none] [] h Q := by
  have gn := z_rng n
  have F := zK_refl (fun q => q = 10) (fun _ => False) h
  apply ez_Wp_in
  show ez_gw _ _ _ _ _ _ (cz_102) _ _ _ _ _
  refine gw_skip _ ?_
  refine z_C (m := 0) rfl rfl (fun x1 ex1 => ?_)
  refine gw_st rfl rfl rfl ?_
  show ez_gw _ _ _ _ _ _ _ _ [some (.ref 9), some (.ref u), some (.int n), some (.int x1), none] _ _ _
  refine z_C (m := 0) rfl rfl (fun x2 ex2 => ?_)
  refine gw_st rfl rfl rfl ?_
  show ez_gw _ _ _ _ _ _ _ _ [some (.ref 9), some (.ref u), some (.int n), some (.int x1), some (.int x2)] _ _ _
  exact ez_Wp_at ((f_gather_L0 (u := u) (n := n) S hu hd hn hU K (((1000 - x2.toInt)).toNat + 1)) h x1 x2 F (by omega) (cK_0 (by omega) (by omega)) (by omega)) rfl
set_option maxRecDepth 4000 in
set_option maxHeartbeats 20000000 in
theorem f_sort_L0 {E : Nat → Nat × (Nat → Int32)} {d : Nat} {Q : ez_Q} {h : ez_H} {n : Int32} {gp : Int32} (S : zSh h) (hn : 0 ≤ n.toInt ∧ n.toInt ≤ 288) (hg : 1 ≤ gp.toInt ∧ gp.toInt ≤ 1000) (K : ∀ h2, zK (fun q => q = 10) (fun _ => False) h h2 → cS2 (kfn (ez_I h2 10)) (kfn (ez_I h 10)) n.toInt.toNat → (gp.toInt = 1 → soS (kfn (ez_I h2 10)) n.toInt.toNat) → Q (.inl none) h2) : ∀ N : Nat, (∀ (h2 : ez_H) (i : Int32) (l4 : Option Value) (l5 : Option Value) , zK (fun q => q = 10) (fun _ => False) h h2 → (1 ≤ i.toInt ∧ gp.toInt ≤ i.toInt ∧ i.toInt ≤ 1000) → cS2 (kfn (ez_I h2 10)) (kfn (ez_I h 10)) n.toInt.toNat → (gp.toInt = 1 → soS (kfn (ez_I h2 10)) i.toInt.toNat) → (1000 * (2000 - i.toInt)) < (N : Int) → pw E d 103 2 [some (.ref 9), some (.int n), some (.int gp), some (.int i), l4, l5] [] h2 Q) ∧ (∀ (h2 : ez_H) (i : Int32) (ky : Int32) (k : Int32) , zK (fun q => q = 10) (fun _ => False) h h2 → (1 ≤ i.toInt ∧ gp.toInt ≤ i.toInt ∧ i.toInt < n.toInt ∧ 0 ≤ k.toInt ∧ k.toInt ≤ i.toInt) → cS2 (hol (kfn (ez_I h2 10)) k.toInt.toNat ky.toInt) (kfn (ez_I h 10)) n.toInt.toNat → (gp.toInt = 1 → soH (kfn (ez_I h2 10)) i.toInt.toNat k.toInt.toNat ky.toInt) → (1000 * (2000 - i.toInt) - 500 + k.toInt) < (N : Int) → pw E d 103 18 [some (.ref 9), some (.int n), some (.int gp), some (.int i), some (.int ky), some (.int k)] [] h2 Q) := by
  intro N
  induction N with
  | zero => exact ⟨fun h2 i l4 l5  F hinv A_cs A_so hm => absurd hm (by have w_i := z_rng i; have gn := z_rng n; have ggp := z_rng gp; omega), fun h2 i ky k  F hinv A_cH A_sH hm => absurd hm (by have w_i := z_rng i; have w_ky := z_rng ky; have w_k := z_rng k; have gn := z_rng n; have ggp := z_rng gp; omega)⟩
  | succ N ih =>
    refine ⟨fun h2 i l4 l5  F hinv A_cs A_so hm => ?_, fun h2 i ky k  F hinv A_cH A_sH hm => ?_⟩
    · skip
      have w_i := z_rng i
      have gn := z_rng n
      have ggp := z_rng gp
      have S2 := zK_sh F S
      apply ez_Wp_in
      show ez_gw _ _ _ _ _ _ (cz_103) _ _ _ _ _
      refine gw_skip _ ?_
      refine gw_ld rfl rfl ?_
      refine gw_ld rfl rfl ?_
      refine z_b2 (fun c1 => ?_) (fun c1 => ?_)
      · have c1 : n.toInt ≤ i.toInt := c1
        refine gw_skip _ ?_
        refine z_rv ?_
        exact K _ F (A_cs) (fun q => soS_le (A_so q) (by omega))
      · have c1 : ¬ (n.toInt ≤ i.toInt) := c1
        refine gw_ld rfl rfl ?_
        refine z_gR (q := 10) (zT S2 (by decide) rfl) (zRf S2 (by decide) (by decide) rfl) (by decide) ?_
        refine gw_ld rfl rfl ?_
        refine z_ia (n := 288) (zT S2 (by decide) rfl) (zN S2 (by decide) rfl) (by omega) ?_
        generalize ex2 : ez_I h2 10 i.toInt.toNat = x2
        have rx2 := z_rng x2
        refine gw_st rfl rfl rfl ?_
        show ez_gw _ _ _ _ _ _ _ _ [some (.ref 9), some (.int n), some (.int gp), some (.int i), some (.int x2), l5] _ _ _
        refine gw_ld rfl rfl ?_
        refine gw_st rfl rfl rfl ?_
        show ez_gw _ _ _ _ _ _ _ _ [some (.ref 9), some (.int n), some (.int gp), some (.int i), some (.int x2), some (.int i)] _ _ _
        exact ez_Wp_at (ih.2 h2 i x2 i F (by omega) (cS2_h A_cs (show (ez_I _ 10 _).toInt = _ by rw [ex2])) (fun q => soH_0 (A_so q) rfl) (by omega)) rfl
    · skip
      have w_i := z_rng i
      have w_ky := z_rng ky
      have w_k := z_rng k
      have gn := z_rng n
      have ggp := z_rng gp
      have S2 := zK_sh F S
      apply ez_Wp_in
      show ez_gw _ _ _ _ _ _ (cz_103) _ _ _ _ _
      refine gw_skip _ ?_
      refine gw_ld rfl rfl ?_
      refine gw_ld rfl rfl ?_
      refine z_b2 (fun c3 => ?_) (fun c3 => ?_)
      · have c3 : k.toInt < gp.toInt := c3
        refine gw_skip _ ?_
        refine gw_ld rfl rfl ?_
        refine z_gR (q := 10) (zT S2 (by decide) rfl) (zRf S2 (by decide) (by decide) rfl) (by decide) ?_
        refine gw_ld rfl rfl ?_
        refine gw_ld rfl rfl ?_
        refine z_is (n := 288) (zT S2 (by decide) rfl) (zN S2 (by decide) rfl) (by omega) (fun h4 e5 => ?_)
        have S6 := zSh_set S2 e5
        have F7 := zK_set F e5 (by omega)
        have A8 : cS2 (kfn (ez_I h4 10)) (kfn (ez_I h 10)) n.toInt.toNat := cS2_end A_cH e5 rfl rfl
        have A9 : (gp.toInt = 1 → soS (kfn (ez_I h4 10)) (i.toInt.toNat + 1)) := fun q => soS_endK (A_sH q) e5 rfl (by omega) rfl (fun q => by exfalso; omega) rfl
        refine z_inc rfl (by rw [show (1 : Int32).toInt = 1 from rfl]; omega) (fun x10 ex10 => ?_)
        rw [show (1 : Int32).toInt = 1 from rfl] at ex10
        show ez_gw _ _ _ _ _ _ _ _ [some (.ref 9), some (.int n), some (.int gp), some (.int x10), some (.int ky), some (.int k)] _ _ _
        refine z_go ?_
        exact ih.1 h4 x10 (some (.int ky)) (some (.int k)) F7 (by omega) (A8) (fun q => by rw [show x10.toInt.toNat = i.toInt.toNat + 1 by omega]; exact A9 q) (by omega)
      · have c3 : ¬ (k.toInt < gp.toInt) := c3
        refine gw_ld rfl rfl ?_
        refine z_gR (q := 10) (zT S2 (by decide) rfl) (zRf S2 (by decide) (by decide) rfl) (by decide) ?_
        refine gw_ld rfl rfl ?_
        refine gw_ld rfl rfl ?_
        refine z_sub (by omega) (fun x11 ex11 => ?_)
        refine z_ia (n := 288) (zT S2 (by decide) rfl) (zN S2 (by decide) rfl) (by omega) ?_
        generalize ex12 : ez_I h2 10 x11.toInt.toNat = x12
        have rx12 := z_rng x12
        refine gw_ld rfl rfl ?_
        refine z_b2 (fun c13 => ?_) (fun c13 => ?_)
        · have c13 : x12.toInt ≤ ky.toInt := c13
          refine gw_skip _ ?_
          refine gw_ld rfl rfl ?_
          refine z_gR (q := 10) (zT S2 (by decide) rfl) (zRf S2 (by decide) (by decide) rfl) (by decide) ?_
          refine gw_ld rfl rfl ?_
          refine gw_ld rfl rfl ?_
          refine z_is (n := 288) (zT S2 (by decide) rfl) (zN S2 (by decide) rfl) (by omega) (fun h14 e15 => ?_)
          have S16 := zSh_set S2 e15
          have F17 := zK_set F e15 (by omega)
          have A18 : cS2 (kfn (ez_I h14 10)) (kfn (ez_I h 10)) n.toInt.toNat := cS2_end A_cH e15 rfl rfl
          have A19 : (gp.toInt = 1 → soS (kfn (ez_I h14 10)) (i.toInt.toNat + 1)) := fun q => soS_endK (A_sH q) e15 rfl (by omega) rfl (fun q2 => ⟨x12, (show ez_I _ 10 (k.toInt.toNat - 1) = x12 by rw [← ex12]; congr 1; omega), by omega⟩) rfl
          refine z_inc rfl (by rw [show (1 : Int32).toInt = 1 from rfl]; omega) (fun x20 ex20 => ?_)
          rw [show (1 : Int32).toInt = 1 from rfl] at ex20
          show ez_gw _ _ _ _ _ _ _ _ [some (.ref 9), some (.int n), some (.int gp), some (.int x20), some (.int ky), some (.int k)] _ _ _
          refine z_go ?_
          exact ih.1 h14 x20 (some (.int ky)) (some (.int k)) F17 (by omega) (A18) (fun q => by rw [show x20.toInt.toNat = i.toInt.toNat + 1 by omega]; exact A19 q) (by omega)
        · have c13 : ¬ (x12.toInt ≤ ky.toInt) := c13
          refine gw_ld rfl rfl ?_
          refine z_gR (q := 10) (zT S2 (by decide) rfl) (zRf S2 (by decide) (by decide) rfl) (by decide) ?_
          refine gw_ld rfl rfl ?_
          refine gw_ld rfl rfl ?_
          refine z_gR (q := 10) (zT S2 (by decide) rfl) (zRf S2 (by decide) (by decide) rfl) (by decide) ?_
          refine gw_ld rfl rfl ?_
          refine gw_ld rfl rfl ?_
          refine z_sub (by omega) (fun x21 ex21 => ?_)
          refine z_ia (n := 288) (zT S2 (by decide) rfl) (zN S2 (by decide) rfl) (by omega) ?_
          generalize ex22 : ez_I h2 10 x21.toInt.toNat = x22
          have rx22 := z_rng x22
          have w52 : x22 = x12 := ex22.symm.trans ((congrArg (ez_I h2 10) (by omega)).trans ex12)
          refine z_is (n := 288) (zT S2 (by decide) rfl) (zN S2 (by decide) rfl) (by omega) (fun h23 e24 => ?_)
          have S25 := zSh_set S2 e24
          have F26 := zK_set F e24 (by omega)
          have A27 : cS2 (hol (kfn (ez_I h23 10)) (k.toInt.toNat - gp.toInt.toNat) ky.toInt) (kfn (ez_I h 10)) n.toInt.toNat := cS2_mv A_cH e24 rfl (show ez_I _ 10 (k.toInt.toNat - gp.toInt.toNat) = _ by rw [← ex22]; congr 1; omega) (by omega) (by omega) (by omega)
          have A28 : (gp.toInt = 1 → soH (kfn (ez_I h23 10)) i.toInt.toNat (k.toInt.toNat - gp.toInt.toNat) ky.toInt) := fun q => soH_mvK (A_sH q) e24 rfl (show ez_I _ 10 (k.toInt.toNat - gp.toInt.toNat) = _ by rw [← ex22]; congr 1; omega) (by omega) (by omega) (by rw [w52]; omega)
          refine gw_ld rfl rfl ?_
          refine gw_ld rfl rfl ?_
          refine z_sub (by omega) (fun x29 ex29 => ?_)
          refine gw_st rfl rfl rfl ?_
          show ez_gw _ _ _ _ _ _ _ _ [some (.ref 9), some (.int n), some (.int gp), some (.int i), some (.int ky), some (.int x29)] _ _ _
          refine z_go ?_
          exact ih.2 h23 i ky x29 F26 (by omega) ((by rw [show x29.toInt.toNat = (k.toInt.toNat - gp.toInt.toNat) by omega]; exact A27)) (fun q => by rw [show x29.toInt.toNat = (k.toInt.toNat - gp.toInt.toNat) by omega]; exact A28 q) (by omega)
set_option maxRecDepth 4000 in
set_option maxHeartbeats 20000000 in
theorem f_sort {E : Nat → Nat × (Nat → Int32)} {d : Nat} {Q : ez_Q} {h : ez_H} {n : Int32} {gp : Int32} (S : zSh h) (hn : 0 ≤ n.toInt ∧ n.toInt ≤ 288) (hg : 1 ≤ gp.toInt ∧ gp.toInt ≤ 1000) (K : ∀ h2, zK (fun q => q = 10) (fun _ => False) h h2 → cS2 (kfn (ez_I h2 10)) (kfn (ez_I h 10)) n.toInt.toNat → (gp.toInt = 1 → soS (kfn (ez_I h2 10)) n.toInt.toNat) → Q (.inl none) h2) : pw E d 103 0 [some (.ref 9), some (.int n), some (.int gp), none, none, none] [] h Q := by
  have gn := z_rng n
  have ggp := z_rng gp
  have F := zK_refl (fun q => q = 10) (fun _ => False) h
  apply ez_Wp_in
  show ez_gw _ _ _ _ _ _ (cz_103) _ _ _ _ _
  refine gw_skip _ ?_
  refine gw_ld rfl rfl ?_
  refine gw_st rfl rfl rfl ?_
  show ez_gw _ _ _ _ _ _ _ _ [some (.ref 9), some (.int n), some (.int gp), some (.int gp), none, none] _ _ _
  exact ez_Wp_at ((f_sort_L0 (n := n) (gp := gp) S hn hg K (((1000 * (2000 - gp.toInt))).toNat + 1)).1 h gp (none) (none) F (by omega) ((fun _ => rfl)) (fun q => by rw [show gp.toInt.toNat = 1 by omega]; exact fun i hi => by omega) (by omega)) rfl

