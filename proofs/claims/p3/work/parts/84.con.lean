/-! finding the parts in the model -/
def pvI (f : Nat → Int32) (n : Int) : Prop := ∀ j : Nat, (j : Int) < n → -1 ≤ (f j).toInt ∧ (f j).toInt < j
theorem pvI_le {f : Nat → Int32} {n m : Int} (A : pvI f n) (h : m ≤ n) : pvI f m := fun j hj => A j (by omega)
theorem pvI_0 {f : Nat → Int32} {n : Int} (h : n ≤ 0) : pvI f n := fun j hj => by omega
theorem pvI_ex {h h2 : ez_H} {n m : Int} {k : Nat} {v : Int32} (A : pvI (ez_I h 81) n) (e : h2 = ez_setI h 81 k v) (hk : (k : Int) = n) (hv : -1 ≤ v.toInt ∧ v.toInt < k) (hm : m ≤ n + 1) : pvI (ez_I h2 81) m := fun j hj => by
  subst e
  by_cases q : j = k
  · subst q; rw [ez_I_set_eq]; exact hv
  · rw [ez_I_set_ne (fun z => q z.2)]; exact A j (by omega)
theorem z_pair {a b s w z : Int32} (ha : 0 ≤ a.toInt ∧ a.toInt ≤ 255) (hb : 0 ≤ b.toInt ∧ b.toInt ≤ 255) (hs : s.toInt = 8) (hw : w = a <<< (s &&& 31)) (hz : z = w ||| b) : 0 ≤ z.toInt ∧ z.toInt ≤ 65535 := by
  have es : s = 8 := z_inj hs
  subst es
  have hau := z_u ha.1
  have hbu := z_u hb.1
  have h1 : ev_u w = ev_u a <<< 8 := by
    have : w.toBitVec = a.toBitVec <<< 8 := by
      rw [hw, show ((8 : Int32) &&& 31) = 8 from by decide, Int32.toBitVec_shiftLeft]
      rfl
    show w.toBitVec.toNat = _
    rw [this, BitVec.toNat_shiftLeft]
    show (ev_u a <<< 8) % 2 ^ 32 = _
    rw [Nat.shiftLeft_eq]
    omega
  have h2 : ev_u z = ev_u w ||| ev_u b := by rw [hz]; exact ef_or_ok w b
  have h3 : ev_u w ||| ev_u b < 2 ^ 16 := Nat.or_lt_two_pow (by rw [h1, Nat.shiftLeft_eq]; omega) (by omega)
  have := z_of_u (x := z) (by omega)
  omega
def bT (T : Nat → Int32) (i : Int) : Int := (T i.toNat &&& 255).toInt
theorem bT_eq {T : Nat → Int32} {i : Int} {z y x : Int32} (e : T i.toNat = z) (ey : y = z &&& x) (hx : x.toInt = 255) : y.toInt = bT T i := by
  have ex : x = 255 := z_inj hx
  unfold bT
  rw [e, ey, ex]
def pS (M : Nat → Int32) (n : Nat) : Int := sm (fun k => (M k).toInt) n
def pk (M B Y T : Nat → Int32) (k : Nat) : Prop := (1 ≤ (M k).toInt ∧ (M k).toInt ≤ 258) ∧ (0 ≤ (B k).toInt ∧ (B k).toInt ≤ 4096) ∧ ((B k).toInt ≠ 0 → 3 ≤ (M k).toInt) ∧ ((B k).toInt = 0 → (Y k).toInt = bT T (pS M k)) ∧ (0 ≤ (Y k).toInt ∧ (Y k).toInt ≤ 255)
def pQ (M B Y T : Nat → Int32) (n : Nat) (p : Int) : Prop := pS M n = p ∧ ∀ k, k < n → pk M B Y T k
theorem pQ_0 {M B Y T : Nat → Int32} {n : Nat} {p : Int} (hn : n = 0) (hp : p = 0) : pQ M B Y T n p := by
  subst hn; subst hp
  exact ⟨rfl, fun k hk => by omega⟩
theorem pS_congr {M M' : Nat → Int32} {n : Nat} (h : ∀ k, k < n → M' k = M k) : pS M' n = pS M n := sm_congr (fun k hk => by rw [h k hk])
theorem pk_congr {M B Y T M' B' Y' : Nat → Int32} {k : Nat} (A : pk M B Y T k) (hM : ∀ j, j ≤ k → M' j = M j) (hB : B' k = B k) (hY : Y' k = Y k) : pk M' B' Y' T k := by
  unfold pk
  rw [hM k (Nat.le_refl k), hB, hY, pS_congr (fun j hj => hM j (by omega))]
  exact A
theorem pQ_congr {M B Y T M' B' Y' : Nat → Int32} {n : Nat} {p : Int} (A : pQ M B Y T n p) (hM : ∀ j, j < n → M' j = M j) (hB : ∀ j, j < n → B' j = B j) (hY : ∀ j, j < n → Y' j = Y j) : pQ M' B' Y' T n p := ⟨by rw [pS_congr hM]; exact A.1, fun k hk => pk_congr (A.2 k hk) (fun j hj => hM j (by omega)) (hB k hk) (hY k hk)⟩
theorem pQ_wM {h h2 : ez_H} {B Y T : Nat → Int32} {n k : Nat} {p : Int} {v : Int32} (A : pQ (ez_I h 77) B Y T n p) (e : h2 = ez_setI h 77 k v) (hk : n ≤ k) : pQ (ez_I h2 77) B Y T n p := pQ_congr A (fun j hj => zI_ne e (by omega)) (fun _ _ => rfl) (fun _ _ => rfl)
theorem pQ_wB {h h2 : ez_H} {M Y T : Nat → Int32} {n k : Nat} {p : Int} {v : Int32} (A : pQ M (ez_I h 78) Y T n p) (e : h2 = ez_setI h 78 k v) (hk : n ≤ k) : pQ M (ez_I h2 78) Y T n p := pQ_congr A (fun _ _ => rfl) (fun j hj => zI_ne e (by omega)) (fun _ _ => rfl)
theorem pQ_wY {h h2 : ez_H} {M B T : Nat → Int32} {n k : Nat} {p : Int} {v : Int32} (A : pQ M B (ez_I h 79) T n p) (e : h2 = ez_setI h 79 k v) (hk : n ≤ k) : pQ M B (ez_I h2 79) T n p := pQ_congr A (fun _ _ => rfl) (fun _ _ => rfl) (fun j hj => zI_ne e (by omega))
theorem pQ_step {M B Y T : Nat → Int32} {n k : Nat} {p p' : Int} {m b y : Int32} (A : pQ M B Y T n p) (hM : M k = m) (hB : B k = b) (hY : Y k = y) (hk : k = n) (h1 : 1 ≤ m.toInt ∧ m.toInt ≤ 258) (h2 : 0 ≤ b.toInt ∧ b.toInt ≤ 4096) (h3 : b.toInt ≠ 0 → 3 ≤ m.toInt) (h4 : y.toInt = bT T p) (h5 : 0 ≤ y.toInt ∧ y.toInt ≤ 255) (hp : p' = p + m.toInt) : pQ M B Y T (n + 1) p' := by
  subst hk
  refine ⟨?_, fun j hj => ?_⟩
  · show pS M k + (M k).toInt = p'
    rw [A.1, hM]; exact hp.symm
  · by_cases e : j = k
    · subst e
      unfold pk
      rw [hM, hB, hY, A.1]
      exact ⟨h1, h2, h3, fun _ => h4, h5⟩
    · exact A.2 j (by omega)
theorem pQ_pos {M B Y T : Nat → Int32} {n : Nat} {p : Int} (A : pQ M B Y T n p) {j : Nat} (hj : j < n) : 0 ≤ pS M j ∧ pS M (j + 1) ≤ p := by
  constructor
  · exact sm_nonneg (fun k hk => by have := (A.2 k (by omega)).1; omega)
  · rw [← A.1]
    exact sm_mono (by omega) (fun k hk => by have := (A.2 k hk).1; omega)
/-- the code of a length or a distance: the last base that is not above it -/
def lcF (f : Nat → Int32) (n : Int) : Nat → Nat
  | 0 => 0
  | k + 1 => if (f (k + 1)).toInt > n then lcF f n k else k + 1
theorem lcF_d {f : Nat → Int32} {n : Int} {k : Nat} (h : (f k).toInt > n) (hk : 1 ≤ k) : lcF f n k = lcF f n (k - 1) := by
  obtain ⟨j, rfl⟩ : ∃ j, k = j + 1 := ⟨k - 1, by omega⟩
  show (if (f (j + 1)).toInt > n then lcF f n j else j + 1) = _
  simp only [h, ↓reduceIte]
  rfl
theorem lcF_e {f : Nat → Int32} {n : Int} {k : Nat} (h : (f k).toInt ≤ n) : lcF f n k = k := by
  cases k with
  | zero => rfl
  | succ j =>
    show (if (f (j + 1)).toInt > n then lcF f n j else j + 1) = _
    have : ¬ (f (j + 1)).toInt > n := by omega
    simp only [this, ↓reduceIte]
theorem lcF_le {f : Nat → Int32} {n : Int} {k : Nat} : lcF f n k ≤ k := by
  induction k with
  | zero => exact Nat.le_refl _
  | succ j ih =>
    show (if (f (j + 1)).toInt > n then lcF f n j else j + 1) ≤ j + 1
    split <;> omega
/-! PRINTED by wip/p17/con11.py: contracts of the model, the parts -/
set_option maxRecDepth 4000 in
set_option maxHeartbeats 20000000 in
theorem m_longest_L0 {E : Nat → Nat × (Nat → Int32)} {d : Nat} {Q : ez_Q} {h : ez_H} {p : Int32} (S : zSh h) (M6 : 0 ≤ (ez_I h 71 6).toInt ∧ (ez_I h 71 6).toInt ≤ 6000) (hp : 0 ≤ p.toInt ∧ p.toInt < (ez_I h 71 6).toInt) (hv : pvI (ez_I h 81) (ez_I h 71 6).toInt) (K : ∀ h2, zG (fun k => k = 17 ∨ k = 18) (fun _ => False) h h2 → ((ez_I h2 71 17).toInt = 0 ∧ (ez_I h2 71 18).toInt = 0 ∨ 3 ≤ (ez_I h2 71 17).toInt ∧ (ez_I h2 71 17).toInt ≤ 258 ∧ (ez_I h2 71 17).toInt ≤ (ez_I h 71 6).toInt - p.toInt ∧ 1 ≤ (ez_I h2 71 18).toInt ∧ (ez_I h2 71 18).toInt ≤ 4096) → Q (.inl none) h2) : ∀ N : Nat, (∀ (h2 : ez_H) (li : Int32) (q : Int32) (l4 : Option Value) , zG (fun k => k = 17 ∨ k = 18) (fun _ => False) h h2 → (li.toInt ≤ 258 ∧ li.toInt ≤ (ez_I h 71 6).toInt - p.toInt ∧ -1 ≤ q.toInt ∧ q.toInt < p.toInt ∧ ((ez_I h2 71 17).toInt = 2 ∧ (ez_I h2 71 18).toInt = 0 ∨ 3 ≤ (ez_I h2 71 17).toInt ∧ (ez_I h2 71 17).toInt ≤ li.toInt ∧ 1 ≤ (ez_I h2 71 18).toInt ∧ (ez_I h2 71 18).toInt ≤ 4096)) → (1000 * (q.toInt + 1)) < (N : Int) → pw E d 31 51 [some (.ref 71), some (.int p), some (.int li), some (.int q), l4] [] h2 Q) ∧ (∀ (h2 : ez_H) (li : Int32) (q : Int32) (n : Int32) , zG (fun k => k = 17 ∨ k = 18) (fun _ => False) h h2 → (li.toInt ≤ 258 ∧ li.toInt ≤ (ez_I h 71 6).toInt - p.toInt ∧ 0 ≤ q.toInt ∧ q.toInt < p.toInt ∧ p.toInt - q.toInt ≤ 4096 ∧ 0 ≤ n.toInt ∧ n.toInt ≤ li.toInt ∧ ((ez_I h2 71 17).toInt = 2 ∧ (ez_I h2 71 18).toInt = 0 ∨ 3 ≤ (ez_I h2 71 17).toInt ∧ (ez_I h2 71 17).toInt ≤ li.toInt ∧ 1 ≤ (ez_I h2 71 18).toInt ∧ (ez_I h2 71 18).toInt ≤ 4096)) → (1000 * (q.toInt + 1) - 500 + (300 - n.toInt)) < (N : Int) → pw E d 31 75 [some (.ref 71), some (.int p), some (.int li), some (.int q), some (.int n)] [] h2 Q) := by
  intro N
  induction N with
  | zero => exact ⟨fun h2 li q l4  F hinv  hm => absurd hm (by have w_li := z_rng li; have w_q := z_rng q; have gp := z_rng p; omega), fun h2 li q n  F hinv  hm => absurd hm (by have w_li := z_rng li; have w_q := z_rng q; have w_n := z_rng n; have gp := z_rng p; omega)⟩
  | succ N ih =>
    refine ⟨fun h2 li q l4  F hinv  hm => ?_, fun h2 li q n  F hinv  hm => ?_⟩
    · skip
      have w_li := z_rng li
      have w_q := z_rng q
      have gp := z_rng p
      have S2 := zG_sh F S
      apply ez_Wp_in
      show ez_gw _ _ _ _ _ _ (cz_31) _ _ _ _ _
      refine gw_skip _ ?_
      have r1 := z_rng (ez_I h2 71 17)
      have r2 := z_rng (ez_I h2 71 18)
      refine gw_ld rfl rfl ?_
      refine z_b1 (fun c3 => ?_) (fun c3 => ?_)
      · have c3 : q.toInt < 0 := c3
        refine gw_skip _ ?_
        refine gw_ld rfl rfl ?_
        refine z_gI2 (by decide) (zT S2 (by decide) rfl) (rfl) ?_
        refine z_b1 (fun c4 => ?_) (fun c4 => ?_)
        · have c4 : ((ez_I h2 71 18)).toInt ≠ 0 := c4
          refine gw_skip _ ?_
          refine z_rv ?_
          exact K _ F (by omega)
        · have c4 : ¬ (((ez_I h2 71 18)).toInt ≠ 0) := c4
          refine gw_ld rfl rfl ?_
          refine z_C (m := 0) rfl rfl (fun x5 ex5 => ?_)
          refine z_pI (zT S2 (by decide) rfl) (fun h6 e7 => ?_)
          have S8 := zSh_set S2 e7
          have F9 := zG_setF F e7 (by decide)
          have f10 : ez_I h6 71 17 = x5 := zI_eq e7
          have f11 : ez_I h6 71 18 = (ez_I h2 71 18) := (zI_ne e7 (by decide)).trans (rfl)
          refine z_rv ?_
          have t12 := congrArg Int32.toInt (f10)
          have t13 := congrArg Int32.toInt (f11)
          exact K _ F9 (by omega)
      · have c3 : ¬ (q.toInt < 0) := c3
        refine gw_ld rfl rfl ?_
        refine gw_ld rfl rfl ?_
        refine z_sub (by omega) (fun x14 ex14 => ?_)
        refine z_C (m := 4096) rfl rfl (fun x15 ex15 => ?_)
        refine z_b2 (fun c16 => ?_) (fun c16 => ?_)
        · have c16 : x15.toInt < x14.toInt := c16
          refine gw_skip _ ?_
          refine gw_ld rfl rfl ?_
          refine z_gI2 (by decide) (zT S2 (by decide) rfl) (rfl) ?_
          refine z_b1 (fun c17 => ?_) (fun c17 => ?_)
          · have c17 : ((ez_I h2 71 18)).toInt ≠ 0 := c17
            refine gw_skip _ ?_
            refine z_rv ?_
            exact K _ F (by omega)
          · have c17 : ¬ (((ez_I h2 71 18)).toInt ≠ 0) := c17
            refine gw_ld rfl rfl ?_
            refine z_C (m := 0) rfl rfl (fun x18 ex18 => ?_)
            refine z_pI (zT S2 (by decide) rfl) (fun h19 e20 => ?_)
            have S21 := zSh_set S2 e20
            have F22 := zG_setF F e20 (by decide)
            have f23 : ez_I h19 71 17 = x18 := zI_eq e20
            have f24 : ez_I h19 71 18 = (ez_I h2 71 18) := (zI_ne e20 (by decide)).trans (rfl)
            refine z_rv ?_
            have t25 := congrArg Int32.toInt (f23)
            have t26 := congrArg Int32.toInt (f24)
            exact K _ F22 (by omega)
        · have c16 : ¬ (x15.toInt < x14.toInt) := c16
          refine gw_ld rfl rfl ?_
          refine z_gI2 (by decide) (zT S2 (by decide) rfl) (rfl) ?_
          refine gw_ld rfl rfl ?_
          refine z_b2 (fun c27 => ?_) (fun c27 => ?_)
          · have c27 : li.toInt ≤ ((ez_I h2 71 17)).toInt := c27
            refine gw_skip _ ?_
            refine gw_ld rfl rfl ?_
            refine z_gI2 (by decide) (zT S2 (by decide) rfl) (rfl) ?_
            refine z_b1 (fun c28 => ?_) (fun c28 => ?_)
            · have c28 : ((ez_I h2 71 18)).toInt ≠ 0 := c28
              refine gw_skip _ ?_
              refine z_rv ?_
              exact K _ F (by omega)
            · have c28 : ¬ (((ez_I h2 71 18)).toInt ≠ 0) := c28
              refine gw_ld rfl rfl ?_
              refine z_C (m := 0) rfl rfl (fun x29 ex29 => ?_)
              refine z_pI (zT S2 (by decide) rfl) (fun h30 e31 => ?_)
              have S32 := zSh_set S2 e31
              have F33 := zG_setF F e31 (by decide)
              have f34 : ez_I h30 71 17 = x29 := zI_eq e31
              have f35 : ez_I h30 71 18 = (ez_I h2 71 18) := (zI_ne e31 (by decide)).trans (rfl)
              refine z_rv ?_
              have t36 := congrArg Int32.toInt (f34)
              have t37 := congrArg Int32.toInt (f35)
              exact K _ F33 (by omega)
          · have c27 : ¬ (li.toInt ≤ ((ez_I h2 71 17)).toInt) := c27
            refine z_C (m := 0) rfl rfl (fun x38 ex38 => ?_)
            refine gw_st rfl rfl rfl ?_
            show ez_gw _ _ _ _ _ _ _ _ [some (.ref 71), some (.int p), some (.int li), some (.int q), some (.int x38)] _ _ _
            exact ez_Wp_at (ih.2 h2 li q x38 F (by omega)  (by omega)) rfl
    · skip
      have w_li := z_rng li
      have w_q := z_rng q
      have w_n := z_rng n
      have gp := z_rng p
      have S2 := zG_sh F S
      apply ez_Wp_in
      show ez_gw _ _ _ _ _ _ (cz_31) _ _ _ _ _
      refine gw_skip _ ?_
      have r39 := z_rng (ez_I h2 71 17)
      have r40 := z_rng (ez_I h2 71 18)
      refine gw_ld rfl rfl ?_
      refine gw_ld rfl rfl ?_
      refine z_b2 (fun c41 => ?_) (fun c41 => ?_)
      · have c41 : li.toInt ≤ n.toInt := c41
        refine gw_skip _ ?_
        refine gw_ld rfl rfl ?_
        refine gw_ld rfl rfl ?_
        refine z_gI2 (by decide) (zT S2 (by decide) rfl) (rfl) ?_
        refine z_b2 (fun c42 => ?_) (fun c42 => ?_)
        · have c42 : ((ez_I h2 71 17)).toInt < n.toInt := c42
          refine gw_skip _ ?_
          refine gw_ld rfl rfl ?_
          refine gw_ld rfl rfl ?_
          refine z_pI (zT S2 (by decide) rfl) (fun h43 e44 => ?_)
          have S45 := zSh_set S2 e44
          have F46 := zG_setF F e44 (by decide)
          have f47 : ez_I h43 71 17 = n := zI_eq e44
          have f48 : ez_I h43 71 18 = (ez_I h2 71 18) := (zI_ne e44 (by decide)).trans (rfl)
          refine gw_ld rfl rfl ?_
          refine gw_ld rfl rfl ?_
          refine gw_ld rfl rfl ?_
          refine z_sub (by omega) (fun x49 ex49 => ?_)
          refine z_pI (zT S45 (by decide) rfl) (fun h50 e51 => ?_)
          have S52 := zSh_set S45 e51
          have F53 := zG_setF F46 e51 (by decide)
          have f54 : ez_I h50 71 17 = n := (zI_ne e51 (by decide)).trans (f47)
          have f55 : ez_I h50 71 18 = x49 := zI_eq e51
          refine gw_ld rfl rfl ?_
          refine z_gR (q := 81) (zT S52 (by decide) rfl) (zRf S52 (by decide) (by decide) rfl) (by decide) ?_
          refine gw_ld rfl rfl ?_
          refine z_iaV (n := 6000) (zT S52 (by decide) rfl) (zN S52 (by decide) rfl) (by omega) (zG_a F53 (by decide) (fun c => c)) ?_
          generalize ex56 : ez_I h 81 q.toInt.toNat = x56
          have rx56 := z_rng x56
          have yx56 := hv q.toInt.toNat (by omega)
          rw [ex56] at yx56
          refine gw_st rfl rfl rfl ?_
          show ez_gw _ _ _ _ _ _ _ _ [some (.ref 71), some (.int p), some (.int li), some (.int x56), some (.int n)] _ _ _
          refine z_go ?_
          have t57 := congrArg Int32.toInt (f54)
          have t58 := congrArg Int32.toInt (f55)
          exact ih.1 h50 li x56 (some (.int n)) F53 (by omega)  (by omega)
        · have c42 : ¬ (((ez_I h2 71 17)).toInt < n.toInt) := c42
          refine z_go ?_
          refine gw_skip _ ?_
          refine gw_ld rfl rfl ?_
          refine z_gR (q := 81) (zT S2 (by decide) rfl) (zRf S2 (by decide) (by decide) rfl) (by decide) ?_
          refine gw_ld rfl rfl ?_
          refine z_iaV (n := 6000) (zT S2 (by decide) rfl) (zN S2 (by decide) rfl) (by omega) (zG_a F (by decide) (fun c => c)) ?_
          generalize ex59 : ez_I h 81 q.toInt.toNat = x59
          have rx59 := z_rng x59
          have yx59 := hv q.toInt.toNat (by omega)
          rw [ex59] at yx59
          refine gw_st rfl rfl rfl ?_
          show ez_gw _ _ _ _ _ _ _ _ [some (.ref 71), some (.int p), some (.int li), some (.int x59), some (.int n)] _ _ _
          refine z_go ?_
          exact ih.1 h2 li x59 (some (.int n)) F (by omega)  (by omega)
      · have c41 : ¬ (li.toInt ≤ n.toInt) := c41
        refine gw_ld rfl rfl ?_
        refine z_gR (q := 72) (zT S2 (by decide) rfl) (zRf S2 (by decide) (by decide) rfl) (by decide) ?_
        refine gw_ld rfl rfl ?_
        refine gw_ld rfl rfl ?_
        refine z_add (by omega) (fun x60 ex60 => ?_)
        refine z_baV (n := 6000) (zT S2 (by decide) rfl) (zN S2 (by decide) rfl) (by omega) (zG_a F (by decide) (fun c => c)) ?_
        generalize ex61 : ez_I h 72 x60.toInt.toNat = x61
        have rx61 := z_rng x61
        refine gw_ld rfl rfl ?_
        refine z_gR (q := 72) (zT S2 (by decide) rfl) (zRf S2 (by decide) (by decide) rfl) (by decide) ?_
        refine gw_ld rfl rfl ?_
        refine gw_ld rfl rfl ?_
        refine z_add (by omega) (fun x62 ex62 => ?_)
        refine z_baV (n := 6000) (zT S2 (by decide) rfl) (zN S2 (by decide) rfl) (by omega) (zG_a F (by decide) (fun c => c)) ?_
        generalize ex63 : ez_I h 72 x62.toInt.toNat = x63
        have rx63 := z_rng x63
        refine z_b2 (fun c64 => ?_) (fun c64 => ?_)
        · have c64 : x61.toInt ≠ x63.toInt := c64
          refine gw_skip _ ?_
          refine gw_ld rfl rfl ?_
          refine gw_ld rfl rfl ?_
          refine z_gI2 (by decide) (zT S2 (by decide) rfl) (rfl) ?_
          refine z_b2 (fun c65 => ?_) (fun c65 => ?_)
          · have c65 : ((ez_I h2 71 17)).toInt < n.toInt := c65
            refine gw_skip _ ?_
            refine gw_ld rfl rfl ?_
            refine gw_ld rfl rfl ?_
            refine z_pI (zT S2 (by decide) rfl) (fun h66 e67 => ?_)
            have S68 := zSh_set S2 e67
            have F69 := zG_setF F e67 (by decide)
            have f70 : ez_I h66 71 17 = n := zI_eq e67
            have f71 : ez_I h66 71 18 = (ez_I h2 71 18) := (zI_ne e67 (by decide)).trans (rfl)
            refine gw_ld rfl rfl ?_
            refine gw_ld rfl rfl ?_
            refine gw_ld rfl rfl ?_
            refine z_sub (by omega) (fun x72 ex72 => ?_)
            refine z_pI (zT S68 (by decide) rfl) (fun h73 e74 => ?_)
            have S75 := zSh_set S68 e74
            have F76 := zG_setF F69 e74 (by decide)
            have f77 : ez_I h73 71 17 = n := (zI_ne e74 (by decide)).trans (f70)
            have f78 : ez_I h73 71 18 = x72 := zI_eq e74
            refine gw_ld rfl rfl ?_
            refine z_gR (q := 81) (zT S75 (by decide) rfl) (zRf S75 (by decide) (by decide) rfl) (by decide) ?_
            refine gw_ld rfl rfl ?_
            refine z_iaV (n := 6000) (zT S75 (by decide) rfl) (zN S75 (by decide) rfl) (by omega) (zG_a F76 (by decide) (fun c => c)) ?_
            generalize ex79 : ez_I h 81 q.toInt.toNat = x79
            have rx79 := z_rng x79
            have yx79 := hv q.toInt.toNat (by omega)
            rw [ex79] at yx79
            refine gw_st rfl rfl rfl ?_
            show ez_gw _ _ _ _ _ _ _ _ [some (.ref 71), some (.int p), some (.int li), some (.int x79), some (.int n)] _ _ _
            refine z_go ?_
            have t80 := congrArg Int32.toInt (f77)
            have t81 := congrArg Int32.toInt (f78)
            exact ih.1 h73 li x79 (some (.int n)) F76 (by omega)  (by omega)
          · have c65 : ¬ (((ez_I h2 71 17)).toInt < n.toInt) := c65
            refine z_go ?_
            refine gw_skip _ ?_
            refine gw_ld rfl rfl ?_
            refine z_gR (q := 81) (zT S2 (by decide) rfl) (zRf S2 (by decide) (by decide) rfl) (by decide) ?_
            refine gw_ld rfl rfl ?_
            refine z_iaV (n := 6000) (zT S2 (by decide) rfl) (zN S2 (by decide) rfl) (by omega) (zG_a F (by decide) (fun c => c)) ?_
            generalize ex82 : ez_I h 81 q.toInt.toNat = x82
            have rx82 := z_rng x82
            have yx82 := hv q.toInt.toNat (by omega)
            rw [ex82] at yx82
            refine gw_st rfl rfl rfl ?_
            show ez_gw _ _ _ _ _ _ _ _ [some (.ref 71), some (.int p), some (.int li), some (.int x82), some (.int n)] _ _ _
            refine z_go ?_
            exact ih.1 h2 li x82 (some (.int n)) F (by omega)  (by omega)
        · have c64 : ¬ (x61.toInt ≠ x63.toInt) := c64
          refine z_inc rfl (by rw [show (1 : Int32).toInt = 1 from rfl]; omega) (fun x83 ex83 => ?_)
          rw [show (1 : Int32).toInt = 1 from rfl] at ex83
          show ez_gw _ _ _ _ _ _ _ _ [some (.ref 71), some (.int p), some (.int li), some (.int q), some (.int x83)] _ _ _
          refine z_go ?_
          exact ih.2 h2 li q x83 F (by omega)  (by omega)
set_option maxRecDepth 4000 in
set_option maxHeartbeats 20000000 in
theorem m_longest {E : Nat → Nat × (Nat → Int32)} {d : Nat} {Q : ez_Q} {h : ez_H} {p : Int32} (S : zSh h) (M6 : 0 ≤ (ez_I h 71 6).toInt ∧ (ez_I h 71 6).toInt ≤ 6000) (hp : 0 ≤ p.toInt ∧ p.toInt < (ez_I h 71 6).toInt) (hv : pvI (ez_I h 81) (ez_I h 71 6).toInt) (K : ∀ h2, zG (fun k => k = 17 ∨ k = 18) (fun _ => False) h h2 → ((ez_I h2 71 17).toInt = 0 ∧ (ez_I h2 71 18).toInt = 0 ∨ 3 ≤ (ez_I h2 71 17).toInt ∧ (ez_I h2 71 17).toInt ≤ 258 ∧ (ez_I h2 71 17).toInt ≤ (ez_I h 71 6).toInt - p.toInt ∧ 1 ≤ (ez_I h2 71 18).toInt ∧ (ez_I h2 71 18).toInt ≤ 4096) → Q (.inl none) h2) : pw E d 31 0 [some (.ref 71), some (.int p), none, none, none] [] h Q := by
  have gp := z_rng p
  have F := zG_refl (fun k => k = 17 ∨ k = 18) (fun _ => False) h
  apply ez_Wp_in
  show ez_gw _ _ _ _ _ _ (cz_31) _ _ _ _ _
  refine gw_skip _ ?_
  have r1 := z_rng (ez_I h 71 17)
  have r2 := z_rng (ez_I h 71 18)
  refine gw_ld rfl rfl ?_
  have r3 := z_rng (ez_I h 71 6)
  refine z_gI2 (by decide) (zT S (by decide) rfl) (zG_f F (by decide)) ?_
  refine gw_ld rfl rfl ?_
  refine z_sub (by omega) (fun x4 ex4 => ?_)
  refine z_C (m := 258) rfl rfl (fun x5 ex5 => ?_)
  refine z_b2 (fun c6 => ?_) (fun c6 => ?_)
  · have c6 : x5.toInt ≤ x4.toInt := c6
    refine gw_skip _ ?_
    refine z_C (m := 258) rfl rfl (fun x7 ex7 => ?_)
    refine gw_st rfl rfl rfl ?_
    show ez_gw _ _ _ _ _ _ _ _ [some (.ref 71), some (.int p), some (.int x7), none, none] _ _ _
    refine gw_ld rfl rfl ?_
    refine z_C (m := 2) rfl rfl (fun x8 ex8 => ?_)
    refine z_pI (zT S (by decide) rfl) (fun h9 e10 => ?_)
    have S11 := zSh_set S e10
    have F12 := zG_setF F e10 (by decide)
    have f13 : ez_I h9 71 17 = x8 := zI_eq e10
    have f14 : ez_I h9 71 18 = (ez_I h 71 18) := (zI_ne e10 (by decide)).trans (rfl)
    refine gw_ld rfl rfl ?_
    refine z_C (m := 0) rfl rfl (fun x15 ex15 => ?_)
    refine z_pI (zT S11 (by decide) rfl) (fun h16 e17 => ?_)
    have S18 := zSh_set S11 e17
    have F19 := zG_setF F12 e17 (by decide)
    have f20 : ez_I h16 71 17 = x8 := (zI_ne e17 (by decide)).trans (f13)
    have f21 : ez_I h16 71 18 = x15 := zI_eq e17
    refine gw_ld rfl rfl ?_
    refine z_C (m := 3) rfl rfl (fun x22 ex22 => ?_)
    refine z_b2 (fun c23 => ?_) (fun c23 => ?_)
    · have c23 : x22.toInt ≤ x7.toInt := c23
      refine gw_skip _ ?_
      refine gw_ld rfl rfl ?_
      refine z_gR (q := 81) (zT S18 (by decide) rfl) (zRf S18 (by decide) (by decide) rfl) (by decide) ?_
      refine gw_ld rfl rfl ?_
      refine z_iaV (n := 6000) (zT S18 (by decide) rfl) (zN S18 (by decide) rfl) (by omega) (zG_a F19 (by decide) (fun c => c)) ?_
      generalize ex24 : ez_I h 81 p.toInt.toNat = x24
      have rx24 := z_rng x24
      have yx24 := hv p.toInt.toNat (by omega)
      rw [ex24] at yx24
      refine gw_st rfl rfl rfl ?_
      show ez_gw _ _ _ _ _ _ _ _ [some (.ref 71), some (.int p), some (.int x7), some (.int x24), none] _ _ _
      have t25 := congrArg Int32.toInt (f20)
      have t26 := congrArg Int32.toInt (f21)
      exact ez_Wp_at ((m_longest_L0 (p := p) S M6 hp hv K (((1000 * (x24.toInt + 1))).toNat + 1)).1 h16 x7 x24 (none) F19 (by omega)  (by omega)) rfl
    · have c23 : ¬ (x22.toInt ≤ x7.toInt) := c23
      exfalso; omega
  · have c6 : ¬ (x5.toInt ≤ x4.toInt) := c6
    refine gw_ld rfl rfl ?_
    refine z_gI2 (by decide) (zT S (by decide) rfl) (zG_f F (by decide)) ?_
    refine gw_ld rfl rfl ?_
    refine z_sub (by omega) (fun x27 ex27 => ?_)
    refine z_go ?_
    refine gw_skip _ ?_
    refine gw_st rfl rfl rfl ?_
    show ez_gw _ _ _ _ _ _ _ _ [some (.ref 71), some (.int p), some (.int x27), none, none] _ _ _
    refine gw_ld rfl rfl ?_
    refine z_C (m := 2) rfl rfl (fun x28 ex28 => ?_)
    refine z_pI (zT S (by decide) rfl) (fun h29 e30 => ?_)
    have S31 := zSh_set S e30
    have F32 := zG_setF F e30 (by decide)
    have f33 : ez_I h29 71 17 = x28 := zI_eq e30
    have f34 : ez_I h29 71 18 = (ez_I h 71 18) := (zI_ne e30 (by decide)).trans (rfl)
    refine gw_ld rfl rfl ?_
    refine z_C (m := 0) rfl rfl (fun x35 ex35 => ?_)
    refine z_pI (zT S31 (by decide) rfl) (fun h36 e37 => ?_)
    have S38 := zSh_set S31 e37
    have F39 := zG_setF F32 e37 (by decide)
    have f40 : ez_I h36 71 17 = x28 := (zI_ne e37 (by decide)).trans (f33)
    have f41 : ez_I h36 71 18 = x35 := zI_eq e37
    refine gw_ld rfl rfl ?_
    refine z_C (m := 3) rfl rfl (fun x42 ex42 => ?_)
    refine z_b2 (fun c43 => ?_) (fun c43 => ?_)
    · have c43 : x42.toInt ≤ x27.toInt := c43
      refine gw_skip _ ?_
      refine gw_ld rfl rfl ?_
      refine z_gR (q := 81) (zT S38 (by decide) rfl) (zRf S38 (by decide) (by decide) rfl) (by decide) ?_
      refine gw_ld rfl rfl ?_
      refine z_iaV (n := 6000) (zT S38 (by decide) rfl) (zN S38 (by decide) rfl) (by omega) (zG_a F39 (by decide) (fun c => c)) ?_
      generalize ex44 : ez_I h 81 p.toInt.toNat = x44
      have rx44 := z_rng x44
      have yx44 := hv p.toInt.toNat (by omega)
      rw [ex44] at yx44
      refine gw_st rfl rfl rfl ?_
      show ez_gw _ _ _ _ _ _ _ _ [some (.ref 71), some (.int p), some (.int x27), some (.int x44), none] _ _ _
      have t45 := congrArg Int32.toInt (f40)
      have t46 := congrArg Int32.toInt (f41)
      exact ez_Wp_at ((m_longest_L0 (p := p) S M6 hp hv K (((1000 * (x44.toInt + 1))).toNat + 1)).1 h36 x27 x44 (none) F39 (by omega)  (by omega)) rfl
    · have c43 : ¬ (x42.toInt ≤ x27.toInt) := c43
      refine z_C (m := -1) rfl rfl (fun x47 ex47 => ?_)
      refine z_go ?_
      refine gw_skip _ ?_
      refine gw_st rfl rfl rfl ?_
      show ez_gw _ _ _ _ _ _ _ _ [some (.ref 71), some (.int p), some (.int x27), some (.int x47), none] _ _ _
      have t48 := congrArg Int32.toInt (f40)
      have t49 := congrArg Int32.toInt (f41)
      exact ez_Wp_at ((m_longest_L0 (p := p) S M6 hp hv K (((1000 * (x47.toInt + 1))).toNat + 1)).1 h36 x27 x47 (none) F39 (by omega)  (by omega)) rfl
set_option maxRecDepth 4000 in
set_option maxHeartbeats 20000000 in
theorem m_findParts_L2 {E : Nat → Nat × (Nat → Int32)} {d : Nat} {Q : ez_Q} {h : ez_H}  (S : zSh h) (M6 : 0 ≤ (ez_I h 71 6).toInt ∧ (ez_I h 71 6).toInt ≤ 6000) (K : ∀ h2, zG (fun k => k = 14 ∨ k = 17 ∨ k = 18) (fun q => 77 ≤ q ∧ q ≤ 82) h h2 → (0 ≤ (ez_I h2 71 14).toInt ∧ (ez_I h2 71 14).toInt ≤ (ez_I h 71 6).toInt) → pQ (ez_I h2 77) (ez_I h2 78) (ez_I h2 79) (ez_I h 72) (ez_I h2 71 14).toInt.toNat (ez_I h 71 6).toInt → Q (.inl none) h2) : ∀ N : Nat, (∀ (h2 : ez_H) (p : Int32) (l2 : Option Value) (l3 : Option Value) (c : Nat), zG (fun k => k = 14 ∨ k = 17 ∨ k = 18) (fun q => 77 ≤ q ∧ q ≤ 82) h h2 → (0 ≤ p.toInt ∧ p.toInt ≤ (ez_I h 71 6).toInt ∧ (c : Int) ≤ p.toInt ∧ (ez_I h2 71 14).toInt = c) → pvI (ez_I h2 81) (ez_I h 71 6).toInt → pQ (ez_I h2 77) (ez_I h2 78) (ez_I h2 79) (ez_I h 72) c p.toInt → (7000 - p.toInt) < (N : Int) → pw E (d + 1) 32 111 [some (.ref 71), some (.int p), l2, l3] [] h2 Q) := by
  intro N
  induction N with
  | zero => exact fun h2 p l2 l3 c F hinv A_pv A_pq hm => absurd hm (by have w_p := z_rng p; omega)
  | succ N ih =>
    refine fun h2 p l2 l3 c F hinv A_pv A_pq hm => ?_
    · skip
      have w_p := z_rng p
      have S2 := zG_sh F S
      apply ez_Wp_in
      show ez_gw _ _ _ _ _ _ (cz_32) _ _ _ _ _
      refine gw_skip _ ?_
      have r1 := z_rng (ez_I h2 71 14)
      have r2 := z_rng (ez_I h2 71 17)
      have r3 := z_rng (ez_I h2 71 18)
      refine gw_ld rfl rfl ?_
      refine gw_ld rfl rfl ?_
      have r4 := z_rng (ez_I h 71 6)
      refine z_gI2 (by decide) (zT S2 (by decide) rfl) (zG_f F (by decide)) ?_
      refine z_b2 (fun c5 => ?_) (fun c5 => ?_)
      · have c5 : ((ez_I h 71 6)).toInt ≤ p.toInt := c5
        refine gw_skip _ ?_
        refine z_rv ?_
        exact K _ F (by omega) (by rw [show (ez_I h2 71 14).toInt.toNat = c by omega, show (ez_I h 71 6).toInt = p.toInt by omega]; exact A_pq)
      · have c5 : ¬ (((ez_I h 71 6)).toInt ≤ p.toInt) := c5
        refine gw_ld rfl rfl ?_
        refine gw_ld rfl rfl ?_
        refine z_cl rfl rfl rfl rfl rfl rfl rfl rfl rfl rfl rfl (zT S2 (by decide) rfl) ?_
        refine m_longest S2 (p := p) (by rw [zG_f F (k := 6) (by decide)]; exact M6) (by rw [show ez_I h2 71 6 = ez_I h 71 6 from zG_f F (by decide)]; omega) (by rw [show ez_I h2 71 6 = ez_I h 71 6 from zG_f F (by decide)]; exact A_pv) (fun h6  F7 k8 => ?_)
        rw [show ez_I h2 71 6 = ez_I h 71 6 from zG_f F (by decide)] at k8
        have S9 := zG_sh F7 S2
        have F10 := zG_tr F (zG_mono F7 (fun k hk => by first | omega | exact False.elim hk) (fun k hk => by first | omega | exact False.elim hk))
        have f11 : ez_I h6 71 14 = (ez_I h2 71 14) := (zG_f F7 (by decide)).trans (rfl)
        have r12 := z_rng (ez_I h6 71 17)
        have r13 := z_rng (ez_I h6 71 18)
        have A14 : pvI (ez_I h6 81) (ez_I h 71 6).toInt := by rw [zG_fn F7 81 (by decide) (by first | omega | exact fun c => c)]; exact A_pv
        have A15 : pQ (ez_I h6 77) (ez_I h6 78) (ez_I h6 79) (ez_I h 72) c p.toInt := by rw [zG_fn F7 77 (by decide) (by first | omega | exact fun c => c), zG_fn F7 78 (by decide) (by first | omega | exact fun c => c), zG_fn F7 79 (by decide) (by first | omega | exact fun c => c)]; exact A_pq
        refine gw_ld rfl rfl ?_
        refine z_gI2 (by decide) (zT S9 (by decide) rfl) (rfl) ?_
        refine gw_st rfl rfl rfl ?_
        show ez_gw _ _ _ _ _ _ _ _ [some (.ref 71), some (.int p), some (.int (ez_I h6 71 17)), l3] _ _ _
        refine gw_ld rfl rfl ?_
        refine z_gI2 (by decide) (zT S9 (by decide) rfl) (rfl) ?_
        refine gw_st rfl rfl rfl ?_
        show ez_gw _ _ _ _ _ _ _ _ [some (.ref 71), some (.int p), some (.int (ez_I h6 71 17)), some (.int (ez_I h6 71 18))] _ _ _
        refine gw_ld rfl rfl ?_
        refine z_b1 (fun c16 => ?_) (fun c16 => ?_)
        · have c16 : ((ez_I h6 71 17)).toInt ≤ 0 := c16
          refine gw_skip _ ?_
          refine gw_ld rfl rfl ?_
          refine z_gR (q := 77) (zT S9 (by decide) rfl) (zRf S9 (by decide) (by decide) rfl) (by decide) ?_
          refine gw_ld rfl rfl ?_
          refine z_gI2 (by decide) (zT S9 (by decide) rfl) (f11) ?_
          refine gw_ld rfl rfl ?_
          refine z_b1 (fun c17 => ?_) (fun c17 => ?_)
          · have c17 : ((ez_I h6 71 17)).toInt ≤ 0 := c17
            refine gw_skip _ ?_
            refine z_C (m := 1) rfl rfl (fun x18 ex18 => ?_)
            refine z_is (n := 6000) (zT S9 (by decide) rfl) (zN S9 (by decide) rfl) (by omega) (fun h19 e20 => ?_)
            have S21 := zSh_set S9 e20
            have F22 := zG_setA F10 e20 (by decide) (by decide)
            have f23 : ez_I h19 71 14 = (ez_I h2 71 14) := (zI_ne e20 (by omega)).trans (f11)
            have f24 : ez_I h19 71 17 = (ez_I h6 71 17) := (zI_ne e20 (by omega)).trans (rfl)
            have f25 : ez_I h19 71 18 = (ez_I h6 71 18) := (zI_ne e20 (by omega)).trans (rfl)
            have A26 : pvI (ez_I h19 81) (ez_I h 71 6).toInt := by rw [zI_fn e20 81 (by decide)]; exact A14
            have A27 : pQ (ez_I h19 77) (ez_I h19 78) (ez_I h19 79) (ez_I h 72) c p.toInt := by rw [zI_fn e20 78 (by decide), zI_fn e20 79 (by decide)]; exact pQ_wM A15 e20 (by omega)
            have A28 : ez_I h19 77 ((ez_I h2 71 14)).toInt.toNat = x18 := zI_eq e20
            clear A14
            clear A15
            refine gw_ld rfl rfl ?_
            refine z_gR (q := 78) (zT S21 (by decide) rfl) (zRf S21 (by decide) (by decide) rfl) (by decide) ?_
            refine gw_ld rfl rfl ?_
            refine z_gI2 (by decide) (zT S21 (by decide) rfl) (f23) ?_
            refine gw_ld rfl rfl ?_
            refine z_b1 (fun c29 => ?_) (fun c29 => ?_)
            · have c29 : ((ez_I h6 71 17)).toInt ≤ 0 := c29
              refine gw_skip _ ?_
              refine z_C (m := 0) rfl rfl (fun x30 ex30 => ?_)
              refine z_is (n := 6000) (zT S21 (by decide) rfl) (zN S21 (by decide) rfl) (by omega) (fun h31 e32 => ?_)
              have S33 := zSh_set S21 e32
              have F34 := zG_setA F22 e32 (by decide) (by decide)
              have f35 : ez_I h31 71 14 = (ez_I h2 71 14) := (zI_ne e32 (by omega)).trans (f23)
              have f36 : ez_I h31 71 17 = (ez_I h6 71 17) := (zI_ne e32 (by omega)).trans (f24)
              have f37 : ez_I h31 71 18 = (ez_I h6 71 18) := (zI_ne e32 (by omega)).trans (f25)
              have A38 : pvI (ez_I h31 81) (ez_I h 71 6).toInt := by rw [zI_fn e32 81 (by decide)]; exact A26
              have A39 : pQ (ez_I h31 77) (ez_I h31 78) (ez_I h31 79) (ez_I h 72) c p.toInt := by rw [zI_fn e32 77 (by decide), zI_fn e32 79 (by decide)]; exact pQ_wB A27 e32 (by omega)
              have A40 : ez_I h31 77 ((ez_I h2 71 14)).toInt.toNat = x18 := by rw [zI_fn e32 77 (by decide)]; exact A28
              have A41 : ez_I h31 78 ((ez_I h2 71 14)).toInt.toNat = x30 := zI_eq e32
              clear A26
              clear A27
              clear A28
              refine gw_ld rfl rfl ?_
              refine z_gR (q := 79) (zT S33 (by decide) rfl) (zRf S33 (by decide) (by decide) rfl) (by decide) ?_
              refine gw_ld rfl rfl ?_
              refine z_gI2 (by decide) (zT S33 (by decide) rfl) (f35) ?_
              refine gw_ld rfl rfl ?_
              refine z_gR (q := 72) (zT S33 (by decide) rfl) (zRf S33 (by decide) (by decide) rfl) (by decide) ?_
              refine gw_ld rfl rfl ?_
              refine z_baV (n := 6000) (zT S33 (by decide) rfl) (zN S33 (by decide) rfl) (by omega) (zG_a F34 (by decide) (by decide)) ?_
              generalize ex42 : ez_I h 72 p.toInt.toNat = x42
              have rx42 := z_rng x42
              refine z_C (m := 255) rfl rfl (fun x43 ex43 => ?_)
              refine z_and (fun x44 ex44 ux44 wx44 => ?_)
              have rx44 := z_rng x44
              replace ux44 := ux44 (by omega)
              clear wx44
              refine z_is (n := 6000) (zT S33 (by decide) rfl) (zN S33 (by decide) rfl) (by omega) (fun h45 e46 => ?_)
              have S47 := zSh_set S33 e46
              have F48 := zG_setA F34 e46 (by decide) (by decide)
              have f49 : ez_I h45 71 14 = (ez_I h2 71 14) := (zI_ne e46 (by omega)).trans (f35)
              have f50 : ez_I h45 71 17 = (ez_I h6 71 17) := (zI_ne e46 (by omega)).trans (f36)
              have f51 : ez_I h45 71 18 = (ez_I h6 71 18) := (zI_ne e46 (by omega)).trans (f37)
              have A52 : pvI (ez_I h45 81) (ez_I h 71 6).toInt := by rw [zI_fn e46 81 (by decide)]; exact A38
              have A53 : pQ (ez_I h45 77) (ez_I h45 78) (ez_I h45 79) (ez_I h 72) c p.toInt := by rw [zI_fn e46 77 (by decide), zI_fn e46 78 (by decide)]; exact pQ_wY A39 e46 (by omega)
              have A54 : ez_I h45 77 ((ez_I h2 71 14)).toInt.toNat = x18 := by rw [zI_fn e46 77 (by decide)]; exact A40
              have A55 : ez_I h45 78 ((ez_I h2 71 14)).toInt.toNat = x30 := by rw [zI_fn e46 78 (by decide)]; exact A41
              have A56 : ez_I h45 79 ((ez_I h2 71 14)).toInt.toNat = x44 := zI_eq e46
              clear A38
              clear A39
              clear A40
              clear A41
              refine gw_ld rfl rfl ?_
              refine z_gR (q := 80) (zT S47 (by decide) rfl) (zRf S47 (by decide) (by decide) rfl) (by decide) ?_
              refine gw_ld rfl rfl ?_
              refine z_gI2 (by decide) (zT S47 (by decide) rfl) (f49) ?_
              refine gw_ld rfl rfl ?_
              refine z_gI2 (by decide) (zT S47 (by decide) rfl) (f49) ?_
              refine z_C (m := 600) rfl rfl (fun x57 ex57 => ?_)
              refine z_dvP (c := 600) ex57 (by decide) (by omega) (fun x58 ex58 => ?_)
              refine z_is (n := 6000) (zT S47 (by decide) rfl) (zN S47 (by decide) rfl) (by omega) (fun h59 e60 => ?_)
              have S61 := zSh_set S47 e60
              have F62 := zG_setA F48 e60 (by decide) (by decide)
              have f63 : ez_I h59 71 14 = (ez_I h2 71 14) := (zI_ne e60 (by omega)).trans (f49)
              have f64 : ez_I h59 71 17 = (ez_I h6 71 17) := (zI_ne e60 (by omega)).trans (f50)
              have f65 : ez_I h59 71 18 = (ez_I h6 71 18) := (zI_ne e60 (by omega)).trans (f51)
              have A66 : pvI (ez_I h59 81) (ez_I h 71 6).toInt := by rw [zI_fn e60 81 (by decide)]; exact A52
              have A67 : pQ (ez_I h59 77) (ez_I h59 78) (ez_I h59 79) (ez_I h 72) c p.toInt := by rw [zI_fn e60 77 (by decide), zI_fn e60 78 (by decide), zI_fn e60 79 (by decide)]; exact A53
              have A68 : ez_I h59 77 ((ez_I h2 71 14)).toInt.toNat = x18 := by rw [zI_fn e60 77 (by decide)]; exact A54
              have A69 : ez_I h59 78 ((ez_I h2 71 14)).toInt.toNat = x30 := by rw [zI_fn e60 78 (by decide)]; exact A55
              have A70 : ez_I h59 79 ((ez_I h2 71 14)).toInt.toNat = x44 := by rw [zI_fn e60 79 (by decide)]; exact A56
              clear A52
              clear A53
              clear A54
              clear A55
              clear A56
              refine gw_ld rfl rfl ?_
              refine gw_op rfl ?_
              refine z_gI2 (by decide) (zT S61 (by decide) rfl) (f63) ?_
              refine z_C (m := 1) rfl rfl (fun x71 ex71 => ?_)
              refine z_add (by omega) (fun x72 ex72 => ?_)
              refine z_pI (zT S61 (by decide) rfl) (fun h73 e74 => ?_)
              have S75 := zSh_set S61 e74
              have F76 := zG_setF F62 e74 (by decide)
              have f77 : ez_I h73 71 14 = x72 := zI_eq e74
              have f78 : ez_I h73 71 17 = (ez_I h6 71 17) := (zI_ne e74 (by decide)).trans (f64)
              have f79 : ez_I h73 71 18 = (ez_I h6 71 18) := (zI_ne e74 (by decide)).trans (f65)
              have A80 : pvI (ez_I h73 81) (ez_I h 71 6).toInt := by rw [zI_fn e74 81 (by decide)]; exact A66
              have A81 : pQ (ez_I h73 77) (ez_I h73 78) (ez_I h73 79) (ez_I h 72) c p.toInt := by rw [zI_fn e74 77 (by decide), zI_fn e74 78 (by decide), zI_fn e74 79 (by decide)]; exact A67
              have A82 : ez_I h73 77 ((ez_I h2 71 14)).toInt.toNat = x18 := by rw [zI_fn e74 77 (by decide)]; exact A68
              have A83 : ez_I h73 78 ((ez_I h2 71 14)).toInt.toNat = x30 := by rw [zI_fn e74 78 (by decide)]; exact A69
              have A84 : ez_I h73 79 ((ez_I h2 71 14)).toInt.toNat = x44 := by rw [zI_fn e74 79 (by decide)]; exact A70
              clear A66
              clear A67
              clear A68
              clear A69
              clear A70
              refine gw_ld rfl rfl ?_
              refine gw_ld rfl rfl ?_
              refine z_b1 (fun c85 => ?_) (fun c85 => ?_)
              · have c85 : ((ez_I h6 71 17)).toInt ≤ 0 := c85
                refine gw_skip _ ?_
                refine z_C (m := 1) rfl rfl (fun x86 ex86 => ?_)
                refine z_add (by omega) (fun x87 ex87 => ?_)
                refine gw_st rfl rfl rfl ?_
                show ez_gw _ _ _ _ _ _ _ _ [some (.ref 71), some (.int x87), some (.int (ez_I h6 71 17)), some (.int (ez_I h6 71 18))] _ _ _
                refine z_go ?_
                have t88 := congrArg Int32.toInt (f77)
                have t89 := congrArg Int32.toInt (f78)
                have t90 := congrArg Int32.toInt (f79)
                exact ih h73 x87 (some (.int (ez_I h6 71 17))) (some (.int (ez_I h6 71 18))) (c + 1) F76 (by omega) (A80) (pQ_step A81 A82 A83 A84 (by omega) (by omega) (by omega) (by omega) (bT_eq ex42 ex44 (by omega)) (by omega) (by omega)) (by omega)
              · have c85 : ¬ (((ez_I h6 71 17)).toInt ≤ 0) := c85
                exfalso; omega
            · have c29 : ¬ (((ez_I h6 71 17)).toInt ≤ 0) := c29
              exfalso; omega
          · have c17 : ¬ (((ez_I h6 71 17)).toInt ≤ 0) := c17
            exfalso; omega
        · have c16 : ¬ (((ez_I h6 71 17)).toInt ≤ 0) := c16
          refine gw_ld rfl rfl ?_
          refine z_C (m := 1) rfl rfl (fun x91 ex91 => ?_)
          refine z_add (by omega) (fun x92 ex92 => ?_)
          refine gw_ld rfl rfl ?_
          refine z_gI2 (by decide) (zT S9 (by decide) rfl) (zG_f F10 (by decide)) ?_
          refine z_b2 (fun c93 => ?_) (fun c93 => ?_)
          · have c93 : ((ez_I h 71 6)).toInt ≤ x92.toInt := c93
            refine gw_skip _ ?_
            refine gw_ld rfl rfl ?_
            refine z_gR (q := 77) (zT S9 (by decide) rfl) (zRf S9 (by decide) (by decide) rfl) (by decide) ?_
            refine gw_ld rfl rfl ?_
            refine z_gI2 (by decide) (zT S9 (by decide) rfl) (f11) ?_
            refine gw_ld rfl rfl ?_
            refine z_b1 (fun c94 => ?_) (fun c94 => ?_)
            · have c94 : ((ez_I h6 71 17)).toInt ≤ 0 := c94
              exfalso; omega
            · have c94 : ¬ (((ez_I h6 71 17)).toInt ≤ 0) := c94
              refine gw_ld rfl rfl ?_
              refine z_go ?_
              refine gw_skip _ ?_
              refine z_is (n := 6000) (zT S9 (by decide) rfl) (zN S9 (by decide) rfl) (by omega) (fun h95 e96 => ?_)
              have S97 := zSh_set S9 e96
              have F98 := zG_setA F10 e96 (by decide) (by decide)
              have f99 : ez_I h95 71 14 = (ez_I h2 71 14) := (zI_ne e96 (by omega)).trans (f11)
              have f100 : ez_I h95 71 17 = (ez_I h6 71 17) := (zI_ne e96 (by omega)).trans (rfl)
              have f101 : ez_I h95 71 18 = (ez_I h6 71 18) := (zI_ne e96 (by omega)).trans (rfl)
              have A102 : pvI (ez_I h95 81) (ez_I h 71 6).toInt := by rw [zI_fn e96 81 (by decide)]; exact A14
              have A103 : pQ (ez_I h95 77) (ez_I h95 78) (ez_I h95 79) (ez_I h 72) c p.toInt := by rw [zI_fn e96 78 (by decide), zI_fn e96 79 (by decide)]; exact pQ_wM A15 e96 (by omega)
              have A104 : ez_I h95 77 ((ez_I h2 71 14)).toInt.toNat = (ez_I h6 71 17) := zI_eq e96
              clear A14
              clear A15
              refine gw_ld rfl rfl ?_
              refine z_gR (q := 78) (zT S97 (by decide) rfl) (zRf S97 (by decide) (by decide) rfl) (by decide) ?_
              refine gw_ld rfl rfl ?_
              refine z_gI2 (by decide) (zT S97 (by decide) rfl) (f99) ?_
              refine gw_ld rfl rfl ?_
              refine z_b1 (fun c105 => ?_) (fun c105 => ?_)
              · have c105 : ((ez_I h6 71 17)).toInt ≤ 0 := c105
                exfalso; omega
              · have c105 : ¬ (((ez_I h6 71 17)).toInt ≤ 0) := c105
                refine gw_ld rfl rfl ?_
                refine z_go ?_
                refine gw_skip _ ?_
                refine z_is (n := 6000) (zT S97 (by decide) rfl) (zN S97 (by decide) rfl) (by omega) (fun h106 e107 => ?_)
                have S108 := zSh_set S97 e107
                have F109 := zG_setA F98 e107 (by decide) (by decide)
                have f110 : ez_I h106 71 14 = (ez_I h2 71 14) := (zI_ne e107 (by omega)).trans (f99)
                have f111 : ez_I h106 71 17 = (ez_I h6 71 17) := (zI_ne e107 (by omega)).trans (f100)
                have f112 : ez_I h106 71 18 = (ez_I h6 71 18) := (zI_ne e107 (by omega)).trans (f101)
                have A113 : pvI (ez_I h106 81) (ez_I h 71 6).toInt := by rw [zI_fn e107 81 (by decide)]; exact A102
                have A114 : pQ (ez_I h106 77) (ez_I h106 78) (ez_I h106 79) (ez_I h 72) c p.toInt := by rw [zI_fn e107 77 (by decide), zI_fn e107 79 (by decide)]; exact pQ_wB A103 e107 (by omega)
                have A115 : ez_I h106 77 ((ez_I h2 71 14)).toInt.toNat = (ez_I h6 71 17) := by rw [zI_fn e107 77 (by decide)]; exact A104
                have A116 : ez_I h106 78 ((ez_I h2 71 14)).toInt.toNat = (ez_I h6 71 18) := zI_eq e107
                clear A102
                clear A103
                clear A104
                refine gw_ld rfl rfl ?_
                refine z_gR (q := 79) (zT S108 (by decide) rfl) (zRf S108 (by decide) (by decide) rfl) (by decide) ?_
                refine gw_ld rfl rfl ?_
                refine z_gI2 (by decide) (zT S108 (by decide) rfl) (f110) ?_
                refine gw_ld rfl rfl ?_
                refine z_gR (q := 72) (zT S108 (by decide) rfl) (zRf S108 (by decide) (by decide) rfl) (by decide) ?_
                refine gw_ld rfl rfl ?_
                refine z_baV (n := 6000) (zT S108 (by decide) rfl) (zN S108 (by decide) rfl) (by omega) (zG_a F109 (by decide) (by decide)) ?_
                generalize ex117 : ez_I h 72 p.toInt.toNat = x117
                have rx117 := z_rng x117
                refine z_C (m := 255) rfl rfl (fun x118 ex118 => ?_)
                refine z_and (fun x119 ex119 ux119 wx119 => ?_)
                have rx119 := z_rng x119
                replace ux119 := ux119 (by omega)
                clear wx119
                refine z_is (n := 6000) (zT S108 (by decide) rfl) (zN S108 (by decide) rfl) (by omega) (fun h120 e121 => ?_)
                have S122 := zSh_set S108 e121
                have F123 := zG_setA F109 e121 (by decide) (by decide)
                have f124 : ez_I h120 71 14 = (ez_I h2 71 14) := (zI_ne e121 (by omega)).trans (f110)
                have f125 : ez_I h120 71 17 = (ez_I h6 71 17) := (zI_ne e121 (by omega)).trans (f111)
                have f126 : ez_I h120 71 18 = (ez_I h6 71 18) := (zI_ne e121 (by omega)).trans (f112)
                have A127 : pvI (ez_I h120 81) (ez_I h 71 6).toInt := by rw [zI_fn e121 81 (by decide)]; exact A113
                have A128 : pQ (ez_I h120 77) (ez_I h120 78) (ez_I h120 79) (ez_I h 72) c p.toInt := by rw [zI_fn e121 77 (by decide), zI_fn e121 78 (by decide)]; exact pQ_wY A114 e121 (by omega)
                have A129 : ez_I h120 77 ((ez_I h2 71 14)).toInt.toNat = (ez_I h6 71 17) := by rw [zI_fn e121 77 (by decide)]; exact A115
                have A130 : ez_I h120 78 ((ez_I h2 71 14)).toInt.toNat = (ez_I h6 71 18) := by rw [zI_fn e121 78 (by decide)]; exact A116
                have A131 : ez_I h120 79 ((ez_I h2 71 14)).toInt.toNat = x119 := zI_eq e121
                clear A113
                clear A114
                clear A115
                clear A116
                refine gw_ld rfl rfl ?_
                refine z_gR (q := 80) (zT S122 (by decide) rfl) (zRf S122 (by decide) (by decide) rfl) (by decide) ?_
                refine gw_ld rfl rfl ?_
                refine z_gI2 (by decide) (zT S122 (by decide) rfl) (f124) ?_
                refine gw_ld rfl rfl ?_
                refine z_gI2 (by decide) (zT S122 (by decide) rfl) (f124) ?_
                refine z_C (m := 600) rfl rfl (fun x132 ex132 => ?_)
                refine z_dvP (c := 600) ex132 (by decide) (by omega) (fun x133 ex133 => ?_)
                refine z_is (n := 6000) (zT S122 (by decide) rfl) (zN S122 (by decide) rfl) (by omega) (fun h134 e135 => ?_)
                have S136 := zSh_set S122 e135
                have F137 := zG_setA F123 e135 (by decide) (by decide)
                have f138 : ez_I h134 71 14 = (ez_I h2 71 14) := (zI_ne e135 (by omega)).trans (f124)
                have f139 : ez_I h134 71 17 = (ez_I h6 71 17) := (zI_ne e135 (by omega)).trans (f125)
                have f140 : ez_I h134 71 18 = (ez_I h6 71 18) := (zI_ne e135 (by omega)).trans (f126)
                have A141 : pvI (ez_I h134 81) (ez_I h 71 6).toInt := by rw [zI_fn e135 81 (by decide)]; exact A127
                have A142 : pQ (ez_I h134 77) (ez_I h134 78) (ez_I h134 79) (ez_I h 72) c p.toInt := by rw [zI_fn e135 77 (by decide), zI_fn e135 78 (by decide), zI_fn e135 79 (by decide)]; exact A128
                have A143 : ez_I h134 77 ((ez_I h2 71 14)).toInt.toNat = (ez_I h6 71 17) := by rw [zI_fn e135 77 (by decide)]; exact A129
                have A144 : ez_I h134 78 ((ez_I h2 71 14)).toInt.toNat = (ez_I h6 71 18) := by rw [zI_fn e135 78 (by decide)]; exact A130
                have A145 : ez_I h134 79 ((ez_I h2 71 14)).toInt.toNat = x119 := by rw [zI_fn e135 79 (by decide)]; exact A131
                clear A127
                clear A128
                clear A129
                clear A130
                clear A131
                refine gw_ld rfl rfl ?_
                refine gw_op rfl ?_
                refine z_gI2 (by decide) (zT S136 (by decide) rfl) (f138) ?_
                refine z_C (m := 1) rfl rfl (fun x146 ex146 => ?_)
                refine z_add (by omega) (fun x147 ex147 => ?_)
                refine z_pI (zT S136 (by decide) rfl) (fun h148 e149 => ?_)
                have S150 := zSh_set S136 e149
                have F151 := zG_setF F137 e149 (by decide)
                have f152 : ez_I h148 71 14 = x147 := zI_eq e149
                have f153 : ez_I h148 71 17 = (ez_I h6 71 17) := (zI_ne e149 (by decide)).trans (f139)
                have f154 : ez_I h148 71 18 = (ez_I h6 71 18) := (zI_ne e149 (by decide)).trans (f140)
                have A155 : pvI (ez_I h148 81) (ez_I h 71 6).toInt := by rw [zI_fn e149 81 (by decide)]; exact A141
                have A156 : pQ (ez_I h148 77) (ez_I h148 78) (ez_I h148 79) (ez_I h 72) c p.toInt := by rw [zI_fn e149 77 (by decide), zI_fn e149 78 (by decide), zI_fn e149 79 (by decide)]; exact A142
                have A157 : ez_I h148 77 ((ez_I h2 71 14)).toInt.toNat = (ez_I h6 71 17) := by rw [zI_fn e149 77 (by decide)]; exact A143
                have A158 : ez_I h148 78 ((ez_I h2 71 14)).toInt.toNat = (ez_I h6 71 18) := by rw [zI_fn e149 78 (by decide)]; exact A144
                have A159 : ez_I h148 79 ((ez_I h2 71 14)).toInt.toNat = x119 := by rw [zI_fn e149 79 (by decide)]; exact A145
                clear A141
                clear A142
                clear A143
                clear A144
                clear A145
                refine gw_ld rfl rfl ?_
                refine gw_ld rfl rfl ?_
                refine z_b1 (fun c160 => ?_) (fun c160 => ?_)
                · have c160 : ((ez_I h6 71 17)).toInt ≤ 0 := c160
                  exfalso; omega
                · have c160 : ¬ (((ez_I h6 71 17)).toInt ≤ 0) := c160
                  refine gw_ld rfl rfl ?_
                  refine z_go ?_
                  refine gw_skip _ ?_
                  refine z_add (by omega) (fun x161 ex161 => ?_)
                  refine gw_st rfl rfl rfl ?_
                  show ez_gw _ _ _ _ _ _ _ _ [some (.ref 71), some (.int x161), some (.int (ez_I h6 71 17)), some (.int (ez_I h6 71 18))] _ _ _
                  refine z_go ?_
                  have t162 := congrArg Int32.toInt (f152)
                  have t163 := congrArg Int32.toInt (f153)
                  have t164 := congrArg Int32.toInt (f154)
                  exact ih h148 x161 (some (.int (ez_I h6 71 17))) (some (.int (ez_I h6 71 18))) (c + 1) F151 (by omega) (A155) (pQ_step A156 A157 A158 A159 (by omega) (by omega) (by omega) (by omega) (bT_eq ex117 ex119 (by omega)) (by omega) (by omega)) (by omega)
          · have c93 : ¬ (((ez_I h 71 6)).toInt ≤ x92.toInt) := c93
            refine gw_ld rfl rfl ?_
            refine gw_ld rfl rfl ?_
            refine z_C (m := 1) rfl rfl (fun x165 ex165 => ?_)
            refine z_add (by omega) (fun x166 ex166 => ?_)
            have t167 := congrArg Int32.toInt (f11)
            refine z_cl rfl rfl rfl rfl rfl rfl rfl rfl rfl rfl rfl (zT S9 (by decide) rfl) ?_
            refine m_longest S9 (p := x166) (by rw [zG_f F10 (k := 6) (by decide)]; exact M6) (by rw [show ez_I h6 71 6 = ez_I h 71 6 from zG_f F10 (by decide)]; omega) (by rw [show ez_I h6 71 6 = ez_I h 71 6 from zG_f F10 (by decide)]; exact A14) (fun h168  F169 k170 => ?_)
            rw [show ez_I h6 71 6 = ez_I h 71 6 from zG_f F10 (by decide)] at k170
            have S171 := zG_sh F169 S9
            have F172 := zG_tr F10 (zG_mono F169 (fun k hk => by first | omega | exact False.elim hk) (fun k hk => by first | omega | exact False.elim hk))
            have f173 : ez_I h168 71 14 = (ez_I h2 71 14) := (zG_f F169 (by decide)).trans (f11)
            have r174 := z_rng (ez_I h168 71 17)
            have r175 := z_rng (ez_I h168 71 18)
            have A176 : pvI (ez_I h168 81) (ez_I h 71 6).toInt := by rw [zG_fn F169 81 (by decide) (by first | omega | exact fun c => c)]; exact A14
            have A177 : pQ (ez_I h168 77) (ez_I h168 78) (ez_I h168 79) (ez_I h 72) c p.toInt := by rw [zG_fn F169 77 (by decide) (by first | omega | exact fun c => c), zG_fn F169 78 (by decide) (by first | omega | exact fun c => c), zG_fn F169 79 (by decide) (by first | omega | exact fun c => c)]; exact A15
            refine gw_ld rfl rfl ?_
            refine z_gI2 (by decide) (zT S171 (by decide) rfl) (rfl) ?_
            refine gw_ld rfl rfl ?_
            refine z_b2 (fun c178 => ?_) (fun c178 => ?_)
            · have c178 : ((ez_I h168 71 17)).toInt ≤ ((ez_I h6 71 17)).toInt := c178
              refine gw_skip _ ?_
              refine gw_ld rfl rfl ?_
              refine z_gR (q := 77) (zT S171 (by decide) rfl) (zRf S171 (by decide) (by decide) rfl) (by decide) ?_
              refine gw_ld rfl rfl ?_
              refine z_gI2 (by decide) (zT S171 (by decide) rfl) (f173) ?_
              refine gw_ld rfl rfl ?_
              refine z_b1 (fun c179 => ?_) (fun c179 => ?_)
              · have c179 : ((ez_I h6 71 17)).toInt ≤ 0 := c179
                exfalso; omega
              · have c179 : ¬ (((ez_I h6 71 17)).toInt ≤ 0) := c179
                refine gw_ld rfl rfl ?_
                refine z_go ?_
                refine gw_skip _ ?_
                refine z_is (n := 6000) (zT S171 (by decide) rfl) (zN S171 (by decide) rfl) (by omega) (fun h180 e181 => ?_)
                have S182 := zSh_set S171 e181
                have F183 := zG_setA F172 e181 (by decide) (by decide)
                have f184 : ez_I h180 71 14 = (ez_I h2 71 14) := (zI_ne e181 (by omega)).trans (f173)
                have f185 : ez_I h180 71 17 = (ez_I h168 71 17) := (zI_ne e181 (by omega)).trans (rfl)
                have f186 : ez_I h180 71 18 = (ez_I h168 71 18) := (zI_ne e181 (by omega)).trans (rfl)
                have A187 : pvI (ez_I h180 81) (ez_I h 71 6).toInt := by rw [zI_fn e181 81 (by decide)]; exact A176
                have A188 : pQ (ez_I h180 77) (ez_I h180 78) (ez_I h180 79) (ez_I h 72) c p.toInt := by rw [zI_fn e181 78 (by decide), zI_fn e181 79 (by decide)]; exact pQ_wM A177 e181 (by omega)
                have A189 : ez_I h180 77 ((ez_I h2 71 14)).toInt.toNat = (ez_I h6 71 17) := zI_eq e181
                clear A176
                clear A177
                refine gw_ld rfl rfl ?_
                refine z_gR (q := 78) (zT S182 (by decide) rfl) (zRf S182 (by decide) (by decide) rfl) (by decide) ?_
                refine gw_ld rfl rfl ?_
                refine z_gI2 (by decide) (zT S182 (by decide) rfl) (f184) ?_
                refine gw_ld rfl rfl ?_
                refine z_b1 (fun c190 => ?_) (fun c190 => ?_)
                · have c190 : ((ez_I h6 71 17)).toInt ≤ 0 := c190
                  exfalso; omega
                · have c190 : ¬ (((ez_I h6 71 17)).toInt ≤ 0) := c190
                  refine gw_ld rfl rfl ?_
                  refine z_go ?_
                  refine gw_skip _ ?_
                  refine z_is (n := 6000) (zT S182 (by decide) rfl) (zN S182 (by decide) rfl) (by omega) (fun h191 e192 => ?_)
                  have S193 := zSh_set S182 e192
                  have F194 := zG_setA F183 e192 (by decide) (by decide)
                  have f195 : ez_I h191 71 14 = (ez_I h2 71 14) := (zI_ne e192 (by omega)).trans (f184)
                  have f196 : ez_I h191 71 17 = (ez_I h168 71 17) := (zI_ne e192 (by omega)).trans (f185)
                  have f197 : ez_I h191 71 18 = (ez_I h168 71 18) := (zI_ne e192 (by omega)).trans (f186)
                  have A198 : pvI (ez_I h191 81) (ez_I h 71 6).toInt := by rw [zI_fn e192 81 (by decide)]; exact A187
                  have A199 : pQ (ez_I h191 77) (ez_I h191 78) (ez_I h191 79) (ez_I h 72) c p.toInt := by rw [zI_fn e192 77 (by decide), zI_fn e192 79 (by decide)]; exact pQ_wB A188 e192 (by omega)
                  have A200 : ez_I h191 77 ((ez_I h2 71 14)).toInt.toNat = (ez_I h6 71 17) := by rw [zI_fn e192 77 (by decide)]; exact A189
                  have A201 : ez_I h191 78 ((ez_I h2 71 14)).toInt.toNat = (ez_I h6 71 18) := zI_eq e192
                  clear A187
                  clear A188
                  clear A189
                  refine gw_ld rfl rfl ?_
                  refine z_gR (q := 79) (zT S193 (by decide) rfl) (zRf S193 (by decide) (by decide) rfl) (by decide) ?_
                  refine gw_ld rfl rfl ?_
                  refine z_gI2 (by decide) (zT S193 (by decide) rfl) (f195) ?_
                  refine gw_ld rfl rfl ?_
                  refine z_gR (q := 72) (zT S193 (by decide) rfl) (zRf S193 (by decide) (by decide) rfl) (by decide) ?_
                  refine gw_ld rfl rfl ?_
                  refine z_baV (n := 6000) (zT S193 (by decide) rfl) (zN S193 (by decide) rfl) (by omega) (zG_a F194 (by decide) (by decide)) ?_
                  generalize ex202 : ez_I h 72 p.toInt.toNat = x202
                  have rx202 := z_rng x202
                  refine z_C (m := 255) rfl rfl (fun x203 ex203 => ?_)
                  refine z_and (fun x204 ex204 ux204 wx204 => ?_)
                  have rx204 := z_rng x204
                  replace ux204 := ux204 (by omega)
                  clear wx204
                  refine z_is (n := 6000) (zT S193 (by decide) rfl) (zN S193 (by decide) rfl) (by omega) (fun h205 e206 => ?_)
                  have S207 := zSh_set S193 e206
                  have F208 := zG_setA F194 e206 (by decide) (by decide)
                  have f209 : ez_I h205 71 14 = (ez_I h2 71 14) := (zI_ne e206 (by omega)).trans (f195)
                  have f210 : ez_I h205 71 17 = (ez_I h168 71 17) := (zI_ne e206 (by omega)).trans (f196)
                  have f211 : ez_I h205 71 18 = (ez_I h168 71 18) := (zI_ne e206 (by omega)).trans (f197)
                  have A212 : pvI (ez_I h205 81) (ez_I h 71 6).toInt := by rw [zI_fn e206 81 (by decide)]; exact A198
                  have A213 : pQ (ez_I h205 77) (ez_I h205 78) (ez_I h205 79) (ez_I h 72) c p.toInt := by rw [zI_fn e206 77 (by decide), zI_fn e206 78 (by decide)]; exact pQ_wY A199 e206 (by omega)
                  have A214 : ez_I h205 77 ((ez_I h2 71 14)).toInt.toNat = (ez_I h6 71 17) := by rw [zI_fn e206 77 (by decide)]; exact A200
                  have A215 : ez_I h205 78 ((ez_I h2 71 14)).toInt.toNat = (ez_I h6 71 18) := by rw [zI_fn e206 78 (by decide)]; exact A201
                  have A216 : ez_I h205 79 ((ez_I h2 71 14)).toInt.toNat = x204 := zI_eq e206
                  clear A198
                  clear A199
                  clear A200
                  clear A201
                  refine gw_ld rfl rfl ?_
                  refine z_gR (q := 80) (zT S207 (by decide) rfl) (zRf S207 (by decide) (by decide) rfl) (by decide) ?_
                  refine gw_ld rfl rfl ?_
                  refine z_gI2 (by decide) (zT S207 (by decide) rfl) (f209) ?_
                  refine gw_ld rfl rfl ?_
                  refine z_gI2 (by decide) (zT S207 (by decide) rfl) (f209) ?_
                  refine z_C (m := 600) rfl rfl (fun x217 ex217 => ?_)
                  refine z_dvP (c := 600) ex217 (by decide) (by omega) (fun x218 ex218 => ?_)
                  refine z_is (n := 6000) (zT S207 (by decide) rfl) (zN S207 (by decide) rfl) (by omega) (fun h219 e220 => ?_)
                  have S221 := zSh_set S207 e220
                  have F222 := zG_setA F208 e220 (by decide) (by decide)
                  have f223 : ez_I h219 71 14 = (ez_I h2 71 14) := (zI_ne e220 (by omega)).trans (f209)
                  have f224 : ez_I h219 71 17 = (ez_I h168 71 17) := (zI_ne e220 (by omega)).trans (f210)
                  have f225 : ez_I h219 71 18 = (ez_I h168 71 18) := (zI_ne e220 (by omega)).trans (f211)
                  have A226 : pvI (ez_I h219 81) (ez_I h 71 6).toInt := by rw [zI_fn e220 81 (by decide)]; exact A212
                  have A227 : pQ (ez_I h219 77) (ez_I h219 78) (ez_I h219 79) (ez_I h 72) c p.toInt := by rw [zI_fn e220 77 (by decide), zI_fn e220 78 (by decide), zI_fn e220 79 (by decide)]; exact A213
                  have A228 : ez_I h219 77 ((ez_I h2 71 14)).toInt.toNat = (ez_I h6 71 17) := by rw [zI_fn e220 77 (by decide)]; exact A214
                  have A229 : ez_I h219 78 ((ez_I h2 71 14)).toInt.toNat = (ez_I h6 71 18) := by rw [zI_fn e220 78 (by decide)]; exact A215
                  have A230 : ez_I h219 79 ((ez_I h2 71 14)).toInt.toNat = x204 := by rw [zI_fn e220 79 (by decide)]; exact A216
                  clear A212
                  clear A213
                  clear A214
                  clear A215
                  clear A216
                  refine gw_ld rfl rfl ?_
                  refine gw_op rfl ?_
                  refine z_gI2 (by decide) (zT S221 (by decide) rfl) (f223) ?_
                  refine z_C (m := 1) rfl rfl (fun x231 ex231 => ?_)
                  refine z_add (by omega) (fun x232 ex232 => ?_)
                  refine z_pI (zT S221 (by decide) rfl) (fun h233 e234 => ?_)
                  have S235 := zSh_set S221 e234
                  have F236 := zG_setF F222 e234 (by decide)
                  have f237 : ez_I h233 71 14 = x232 := zI_eq e234
                  have f238 : ez_I h233 71 17 = (ez_I h168 71 17) := (zI_ne e234 (by decide)).trans (f224)
                  have f239 : ez_I h233 71 18 = (ez_I h168 71 18) := (zI_ne e234 (by decide)).trans (f225)
                  have A240 : pvI (ez_I h233 81) (ez_I h 71 6).toInt := by rw [zI_fn e234 81 (by decide)]; exact A226
                  have A241 : pQ (ez_I h233 77) (ez_I h233 78) (ez_I h233 79) (ez_I h 72) c p.toInt := by rw [zI_fn e234 77 (by decide), zI_fn e234 78 (by decide), zI_fn e234 79 (by decide)]; exact A227
                  have A242 : ez_I h233 77 ((ez_I h2 71 14)).toInt.toNat = (ez_I h6 71 17) := by rw [zI_fn e234 77 (by decide)]; exact A228
                  have A243 : ez_I h233 78 ((ez_I h2 71 14)).toInt.toNat = (ez_I h6 71 18) := by rw [zI_fn e234 78 (by decide)]; exact A229
                  have A244 : ez_I h233 79 ((ez_I h2 71 14)).toInt.toNat = x204 := by rw [zI_fn e234 79 (by decide)]; exact A230
                  clear A226
                  clear A227
                  clear A228
                  clear A229
                  clear A230
                  refine gw_ld rfl rfl ?_
                  refine gw_ld rfl rfl ?_
                  refine z_b1 (fun c245 => ?_) (fun c245 => ?_)
                  · have c245 : ((ez_I h6 71 17)).toInt ≤ 0 := c245
                    exfalso; omega
                  · have c245 : ¬ (((ez_I h6 71 17)).toInt ≤ 0) := c245
                    refine gw_ld rfl rfl ?_
                    refine z_go ?_
                    refine gw_skip _ ?_
                    refine z_add (by omega) (fun x246 ex246 => ?_)
                    refine gw_st rfl rfl rfl ?_
                    show ez_gw _ _ _ _ _ _ _ _ [some (.ref 71), some (.int x246), some (.int (ez_I h6 71 17)), some (.int (ez_I h6 71 18))] _ _ _
                    refine z_go ?_
                    have t247 := congrArg Int32.toInt (f237)
                    have t248 := congrArg Int32.toInt (f238)
                    have t249 := congrArg Int32.toInt (f239)
                    exact ih h233 x246 (some (.int (ez_I h6 71 17))) (some (.int (ez_I h6 71 18))) (c + 1) F236 (by omega) (A240) (pQ_step A241 A242 A243 A244 (by omega) (by omega) (by omega) (by omega) (bT_eq ex202 ex204 (by omega)) (by omega) (by omega)) (by omega)
            · have c178 : ¬ (((ez_I h168 71 17)).toInt ≤ ((ez_I h6 71 17)).toInt) := c178
              refine z_C (m := 0) rfl rfl (fun x250 ex250 => ?_)
              refine gw_st rfl rfl rfl ?_
              show ez_gw _ _ _ _ _ _ _ _ [some (.ref 71), some (.int p), some (.int x250), some (.int (ez_I h6 71 18))] _ _ _
              refine gw_ld rfl rfl ?_
              refine z_gR (q := 77) (zT S171 (by decide) rfl) (zRf S171 (by decide) (by decide) rfl) (by decide) ?_
              refine gw_ld rfl rfl ?_
              refine z_gI2 (by decide) (zT S171 (by decide) rfl) (f173) ?_
              refine gw_ld rfl rfl ?_
              refine z_b1 (fun c251 => ?_) (fun c251 => ?_)
              · have c251 : x250.toInt ≤ 0 := c251
                refine gw_skip _ ?_
                refine z_C (m := 1) rfl rfl (fun x252 ex252 => ?_)
                refine z_is (n := 6000) (zT S171 (by decide) rfl) (zN S171 (by decide) rfl) (by omega) (fun h253 e254 => ?_)
                have S255 := zSh_set S171 e254
                have F256 := zG_setA F172 e254 (by decide) (by decide)
                have f257 : ez_I h253 71 14 = (ez_I h2 71 14) := (zI_ne e254 (by omega)).trans (f173)
                have f258 : ez_I h253 71 17 = (ez_I h168 71 17) := (zI_ne e254 (by omega)).trans (rfl)
                have f259 : ez_I h253 71 18 = (ez_I h168 71 18) := (zI_ne e254 (by omega)).trans (rfl)
                have A260 : pvI (ez_I h253 81) (ez_I h 71 6).toInt := by rw [zI_fn e254 81 (by decide)]; exact A176
                have A261 : pQ (ez_I h253 77) (ez_I h253 78) (ez_I h253 79) (ez_I h 72) c p.toInt := by rw [zI_fn e254 78 (by decide), zI_fn e254 79 (by decide)]; exact pQ_wM A177 e254 (by omega)
                have A262 : ez_I h253 77 ((ez_I h2 71 14)).toInt.toNat = x252 := zI_eq e254
                clear A176
                clear A177
                refine gw_ld rfl rfl ?_
                refine z_gR (q := 78) (zT S255 (by decide) rfl) (zRf S255 (by decide) (by decide) rfl) (by decide) ?_
                refine gw_ld rfl rfl ?_
                refine z_gI2 (by decide) (zT S255 (by decide) rfl) (f257) ?_
                refine gw_ld rfl rfl ?_
                refine z_b1 (fun c263 => ?_) (fun c263 => ?_)
                · have c263 : x250.toInt ≤ 0 := c263
                  refine gw_skip _ ?_
                  refine z_C (m := 0) rfl rfl (fun x264 ex264 => ?_)
                  refine z_is (n := 6000) (zT S255 (by decide) rfl) (zN S255 (by decide) rfl) (by omega) (fun h265 e266 => ?_)
                  have S267 := zSh_set S255 e266
                  have F268 := zG_setA F256 e266 (by decide) (by decide)
                  have f269 : ez_I h265 71 14 = (ez_I h2 71 14) := (zI_ne e266 (by omega)).trans (f257)
                  have f270 : ez_I h265 71 17 = (ez_I h168 71 17) := (zI_ne e266 (by omega)).trans (f258)
                  have f271 : ez_I h265 71 18 = (ez_I h168 71 18) := (zI_ne e266 (by omega)).trans (f259)
                  have A272 : pvI (ez_I h265 81) (ez_I h 71 6).toInt := by rw [zI_fn e266 81 (by decide)]; exact A260
                  have A273 : pQ (ez_I h265 77) (ez_I h265 78) (ez_I h265 79) (ez_I h 72) c p.toInt := by rw [zI_fn e266 77 (by decide), zI_fn e266 79 (by decide)]; exact pQ_wB A261 e266 (by omega)
                  have A274 : ez_I h265 77 ((ez_I h2 71 14)).toInt.toNat = x252 := by rw [zI_fn e266 77 (by decide)]; exact A262
                  have A275 : ez_I h265 78 ((ez_I h2 71 14)).toInt.toNat = x264 := zI_eq e266
                  clear A260
                  clear A261
                  clear A262
                  refine gw_ld rfl rfl ?_
                  refine z_gR (q := 79) (zT S267 (by decide) rfl) (zRf S267 (by decide) (by decide) rfl) (by decide) ?_
                  refine gw_ld rfl rfl ?_
                  refine z_gI2 (by decide) (zT S267 (by decide) rfl) (f269) ?_
                  refine gw_ld rfl rfl ?_
                  refine z_gR (q := 72) (zT S267 (by decide) rfl) (zRf S267 (by decide) (by decide) rfl) (by decide) ?_
                  refine gw_ld rfl rfl ?_
                  refine z_baV (n := 6000) (zT S267 (by decide) rfl) (zN S267 (by decide) rfl) (by omega) (zG_a F268 (by decide) (by decide)) ?_
                  generalize ex276 : ez_I h 72 p.toInt.toNat = x276
                  have rx276 := z_rng x276
                  refine z_C (m := 255) rfl rfl (fun x277 ex277 => ?_)
                  refine z_and (fun x278 ex278 ux278 wx278 => ?_)
                  have rx278 := z_rng x278
                  replace ux278 := ux278 (by omega)
                  clear wx278
                  refine z_is (n := 6000) (zT S267 (by decide) rfl) (zN S267 (by decide) rfl) (by omega) (fun h279 e280 => ?_)
                  have S281 := zSh_set S267 e280
                  have F282 := zG_setA F268 e280 (by decide) (by decide)
                  have f283 : ez_I h279 71 14 = (ez_I h2 71 14) := (zI_ne e280 (by omega)).trans (f269)
                  have f284 : ez_I h279 71 17 = (ez_I h168 71 17) := (zI_ne e280 (by omega)).trans (f270)
                  have f285 : ez_I h279 71 18 = (ez_I h168 71 18) := (zI_ne e280 (by omega)).trans (f271)
                  have A286 : pvI (ez_I h279 81) (ez_I h 71 6).toInt := by rw [zI_fn e280 81 (by decide)]; exact A272
                  have A287 : pQ (ez_I h279 77) (ez_I h279 78) (ez_I h279 79) (ez_I h 72) c p.toInt := by rw [zI_fn e280 77 (by decide), zI_fn e280 78 (by decide)]; exact pQ_wY A273 e280 (by omega)
                  have A288 : ez_I h279 77 ((ez_I h2 71 14)).toInt.toNat = x252 := by rw [zI_fn e280 77 (by decide)]; exact A274
                  have A289 : ez_I h279 78 ((ez_I h2 71 14)).toInt.toNat = x264 := by rw [zI_fn e280 78 (by decide)]; exact A275
                  have A290 : ez_I h279 79 ((ez_I h2 71 14)).toInt.toNat = x278 := zI_eq e280
                  clear A272
                  clear A273
                  clear A274
                  clear A275
                  refine gw_ld rfl rfl ?_
                  refine z_gR (q := 80) (zT S281 (by decide) rfl) (zRf S281 (by decide) (by decide) rfl) (by decide) ?_
                  refine gw_ld rfl rfl ?_
                  refine z_gI2 (by decide) (zT S281 (by decide) rfl) (f283) ?_
                  refine gw_ld rfl rfl ?_
                  refine z_gI2 (by decide) (zT S281 (by decide) rfl) (f283) ?_
                  refine z_C (m := 600) rfl rfl (fun x291 ex291 => ?_)
                  refine z_dvP (c := 600) ex291 (by decide) (by omega) (fun x292 ex292 => ?_)
                  refine z_is (n := 6000) (zT S281 (by decide) rfl) (zN S281 (by decide) rfl) (by omega) (fun h293 e294 => ?_)
                  have S295 := zSh_set S281 e294
                  have F296 := zG_setA F282 e294 (by decide) (by decide)
                  have f297 : ez_I h293 71 14 = (ez_I h2 71 14) := (zI_ne e294 (by omega)).trans (f283)
                  have f298 : ez_I h293 71 17 = (ez_I h168 71 17) := (zI_ne e294 (by omega)).trans (f284)
                  have f299 : ez_I h293 71 18 = (ez_I h168 71 18) := (zI_ne e294 (by omega)).trans (f285)
                  have A300 : pvI (ez_I h293 81) (ez_I h 71 6).toInt := by rw [zI_fn e294 81 (by decide)]; exact A286
                  have A301 : pQ (ez_I h293 77) (ez_I h293 78) (ez_I h293 79) (ez_I h 72) c p.toInt := by rw [zI_fn e294 77 (by decide), zI_fn e294 78 (by decide), zI_fn e294 79 (by decide)]; exact A287
                  have A302 : ez_I h293 77 ((ez_I h2 71 14)).toInt.toNat = x252 := by rw [zI_fn e294 77 (by decide)]; exact A288
                  have A303 : ez_I h293 78 ((ez_I h2 71 14)).toInt.toNat = x264 := by rw [zI_fn e294 78 (by decide)]; exact A289
                  have A304 : ez_I h293 79 ((ez_I h2 71 14)).toInt.toNat = x278 := by rw [zI_fn e294 79 (by decide)]; exact A290
                  clear A286
                  clear A287
                  clear A288
                  clear A289
                  clear A290
                  refine gw_ld rfl rfl ?_
                  refine gw_op rfl ?_
                  refine z_gI2 (by decide) (zT S295 (by decide) rfl) (f297) ?_
                  refine z_C (m := 1) rfl rfl (fun x305 ex305 => ?_)
                  refine z_add (by omega) (fun x306 ex306 => ?_)
                  refine z_pI (zT S295 (by decide) rfl) (fun h307 e308 => ?_)
                  have S309 := zSh_set S295 e308
                  have F310 := zG_setF F296 e308 (by decide)
                  have f311 : ez_I h307 71 14 = x306 := zI_eq e308
                  have f312 : ez_I h307 71 17 = (ez_I h168 71 17) := (zI_ne e308 (by decide)).trans (f298)
                  have f313 : ez_I h307 71 18 = (ez_I h168 71 18) := (zI_ne e308 (by decide)).trans (f299)
                  have A314 : pvI (ez_I h307 81) (ez_I h 71 6).toInt := by rw [zI_fn e308 81 (by decide)]; exact A300
                  have A315 : pQ (ez_I h307 77) (ez_I h307 78) (ez_I h307 79) (ez_I h 72) c p.toInt := by rw [zI_fn e308 77 (by decide), zI_fn e308 78 (by decide), zI_fn e308 79 (by decide)]; exact A301
                  have A316 : ez_I h307 77 ((ez_I h2 71 14)).toInt.toNat = x252 := by rw [zI_fn e308 77 (by decide)]; exact A302
                  have A317 : ez_I h307 78 ((ez_I h2 71 14)).toInt.toNat = x264 := by rw [zI_fn e308 78 (by decide)]; exact A303
                  have A318 : ez_I h307 79 ((ez_I h2 71 14)).toInt.toNat = x278 := by rw [zI_fn e308 79 (by decide)]; exact A304
                  clear A300
                  clear A301
                  clear A302
                  clear A303
                  clear A304
                  refine gw_ld rfl rfl ?_
                  refine gw_ld rfl rfl ?_
                  refine z_b1 (fun c319 => ?_) (fun c319 => ?_)
                  · have c319 : x250.toInt ≤ 0 := c319
                    refine gw_skip _ ?_
                    refine z_C (m := 1) rfl rfl (fun x320 ex320 => ?_)
                    refine z_add (by omega) (fun x321 ex321 => ?_)
                    refine gw_st rfl rfl rfl ?_
                    show ez_gw _ _ _ _ _ _ _ _ [some (.ref 71), some (.int x321), some (.int x250), some (.int (ez_I h6 71 18))] _ _ _
                    refine z_go ?_
                    have t322 := congrArg Int32.toInt (f311)
                    have t323 := congrArg Int32.toInt (f312)
                    have t324 := congrArg Int32.toInt (f313)
                    exact ih h307 x321 (some (.int x250)) (some (.int (ez_I h6 71 18))) (c + 1) F310 (by omega) (A314) (pQ_step A315 A316 A317 A318 (by omega) (by omega) (by omega) (by omega) (bT_eq ex276 ex278 (by omega)) (by omega) (by omega)) (by omega)
                  · have c319 : ¬ (x250.toInt ≤ 0) := c319
                    exfalso; omega
                · have c263 : ¬ (x250.toInt ≤ 0) := c263
                  exfalso; omega
              · have c251 : ¬ (x250.toInt ≤ 0) := c251
                exfalso; omega
set_option maxRecDepth 4000 in
set_option maxHeartbeats 20000000 in
theorem m_findParts_L1 {E : Nat → Nat × (Nat → Int32)} {d : Nat} {Q : ez_Q} {h : ez_H}  (S : zSh h) (M6 : 0 ≤ (ez_I h 71 6).toInt ∧ (ez_I h 71 6).toInt ≤ 6000) (K : ∀ h2, zG (fun k => k = 14 ∨ k = 17 ∨ k = 18) (fun q => 77 ≤ q ∧ q ≤ 82) h h2 → (0 ≤ (ez_I h2 71 14).toInt ∧ (ez_I h2 71 14).toInt ≤ (ez_I h 71 6).toInt) → pQ (ez_I h2 77) (ez_I h2 78) (ez_I h2 79) (ez_I h 72) (ez_I h2 71 14).toInt.toNat (ez_I h 71 6).toInt → Q (.inl none) h2) : ∀ N : Nat, (∀ (h2 : ez_H) (p : Int32) (l2 : Option Value) (l3 : Option Value) , zG (fun k => k = 14 ∨ k = 17 ∨ k = 18) (fun q => 77 ≤ q ∧ q ≤ 82) h h2 → (0 ≤ p.toInt ∧ (p.toInt = 0 ∨ p.toInt < (ez_I h 71 6).toInt)) → aR (ez_I h2 82) 65536 (-1) (p.toInt - 1) → pvI (ez_I h2 81) p.toInt → (7000 - p.toInt) < (N : Int) → pw E (d + 1) 32 23 [some (.ref 71), some (.int p), l2, l3] [] h2 Q) := by
  intro N
  induction N with
  | zero => exact fun h2 p l2 l3  F hinv A_lp A_pv hm => absurd hm (by have w_p := z_rng p; omega)
  | succ N ih =>
    refine fun h2 p l2 l3  F hinv A_lp A_pv hm => ?_
    · skip
      have w_p := z_rng p
      have S2 := zG_sh F S
      apply ez_Wp_in
      show ez_gw _ _ _ _ _ _ (cz_32) _ _ _ _ _
      refine gw_skip _ ?_
      have r1 := z_rng (ez_I h2 71 14)
      have r2 := z_rng (ez_I h2 71 17)
      have r3 := z_rng (ez_I h2 71 18)
      refine gw_ld rfl rfl ?_
      refine z_C (m := 1) rfl rfl (fun x4 ex4 => ?_)
      refine z_add (by omega) (fun x5 ex5 => ?_)
      refine gw_ld rfl rfl ?_
      have r6 := z_rng (ez_I h 71 6)
      refine z_gI2 (by decide) (zT S2 (by decide) rfl) (zG_f F (by decide)) ?_
      refine z_b2 (fun c7 => ?_) (fun c7 => ?_)
      · have c7 : ((ez_I h 71 6)).toInt ≤ x5.toInt := c7
        refine gw_skip _ ?_
        refine gw_ld rfl rfl ?_
        refine z_gI2 (by decide) (zT S2 (by decide) rfl) (zG_f F (by decide)) ?_
        refine z_b1 (fun c8 => ?_) (fun c8 => ?_)
        · have c8 : ((ez_I h 71 6)).toInt ≤ 0 := c8
          refine gw_skip _ ?_
          refine gw_ld rfl rfl ?_
          refine z_C (m := 0) rfl rfl (fun x9 ex9 => ?_)
          refine z_pI (zT S2 (by decide) rfl) (fun h10 e11 => ?_)
          have S12 := zSh_set S2 e11
          have F13 := zG_setF F e11 (by decide)
          have f14 : ez_I h10 71 14 = x9 := zI_eq e11
          have f15 : ez_I h10 71 17 = (ez_I h2 71 17) := (zI_ne e11 (by decide)).trans (rfl)
          have f16 : ez_I h10 71 18 = (ez_I h2 71 18) := (zI_ne e11 (by decide)).trans (rfl)
          have A17 : aR (ez_I h10 82) 65536 (-1) (p.toInt - 1) := by rw [zI_fn e11 82 (by decide)]; exact A_lp
          have A18 : pvI (ez_I h10 81) p.toInt := by rw [zI_fn e11 81 (by decide)]; exact A_pv
          refine z_C (m := 0) rfl rfl (fun x19 ex19 => ?_)
          refine gw_st rfl rfl rfl ?_
          show ez_gw _ _ _ _ _ _ _ _ [some (.ref 71), some (.int x19), l2, l3] _ _ _
          have t20 := congrArg Int32.toInt (f14)
          have t21 := congrArg Int32.toInt (f15)
          have t22 := congrArg Int32.toInt (f16)
          exact ez_Wp_at ((m_findParts_L2  S M6 K (((7000 - x19.toInt)).toNat + 1)) h10 x19 (l2) (l3) 0 F13 (by omega) (pvI_le A18 (by omega)) (pQ_0 rfl (by omega)) (by omega)) rfl
        · have c8 : ¬ (((ez_I h 71 6)).toInt ≤ 0) := c8
          refine gw_ld rfl rfl ?_
          refine z_gR (q := 81) (zT S2 (by decide) rfl) (zRf S2 (by decide) (by decide) rfl) (by decide) ?_
          refine gw_ld rfl rfl ?_
          refine z_gI2 (by decide) (zT S2 (by decide) rfl) (zG_f F (by decide)) ?_
          refine z_C (m := 1) rfl rfl (fun x23 ex23 => ?_)
          refine z_sub (by omega) (fun x24 ex24 => ?_)
          refine z_C (m := -1) rfl rfl (fun x25 ex25 => ?_)
          refine z_is (n := 6000) (zT S2 (by decide) rfl) (zN S2 (by decide) rfl) (by omega) (fun h26 e27 => ?_)
          have S28 := zSh_set S2 e27
          have F29 := zG_setA F e27 (by decide) (by decide)
          have f30 : ez_I h26 71 14 = (ez_I h2 71 14) := (zI_ne e27 (by omega)).trans (rfl)
          have f31 : ez_I h26 71 17 = (ez_I h2 71 17) := (zI_ne e27 (by omega)).trans (rfl)
          have f32 : ez_I h26 71 18 = (ez_I h2 71 18) := (zI_ne e27 (by omega)).trans (rfl)
          have A33 : aR (ez_I h26 82) 65536 (-1) (p.toInt - 1) := by rw [zI_fn e27 82 (by decide)]; exact A_lp
          have A34 : pvI (ez_I h26 81) (ez_I h 71 6).toInt := pvI_ex (pvI_le A_pv (m := (ez_I h 71 6).toInt - 1) (by omega)) e27 (by omega) (by omega) (by omega)
          refine gw_ld rfl rfl ?_
          refine z_C (m := 0) rfl rfl (fun x35 ex35 => ?_)
          refine z_pI (zT S28 (by decide) rfl) (fun h36 e37 => ?_)
          have S38 := zSh_set S28 e37
          have F39 := zG_setF F29 e37 (by decide)
          have f40 : ez_I h36 71 14 = x35 := zI_eq e37
          have f41 : ez_I h36 71 17 = (ez_I h2 71 17) := (zI_ne e37 (by decide)).trans (f31)
          have f42 : ez_I h36 71 18 = (ez_I h2 71 18) := (zI_ne e37 (by decide)).trans (f32)
          have A43 : aR (ez_I h36 82) 65536 (-1) (p.toInt - 1) := by rw [zI_fn e37 82 (by decide)]; exact A33
          have A44 : pvI (ez_I h36 81) (ez_I h 71 6).toInt := by rw [zI_fn e37 81 (by decide)]; exact A34
          clear A33
          clear A34
          refine z_C (m := 0) rfl rfl (fun x45 ex45 => ?_)
          refine gw_st rfl rfl rfl ?_
          show ez_gw _ _ _ _ _ _ _ _ [some (.ref 71), some (.int x45), l2, l3] _ _ _
          have t46 := congrArg Int32.toInt (f40)
          have t47 := congrArg Int32.toInt (f41)
          have t48 := congrArg Int32.toInt (f42)
          exact ez_Wp_at ((m_findParts_L2  S M6 K (((7000 - x45.toInt)).toNat + 1)) h36 x45 (l2) (l3) 0 F39 (by omega) (pvI_le A44 (by omega)) (pQ_0 rfl (by omega)) (by omega)) rfl
      · have c7 : ¬ (((ez_I h 71 6)).toInt ≤ x5.toInt) := c7
        refine gw_ld rfl rfl ?_
        refine z_gR (q := 72) (zT S2 (by decide) rfl) (zRf S2 (by decide) (by decide) rfl) (by decide) ?_
        refine gw_ld rfl rfl ?_
        refine z_baV (n := 6000) (zT S2 (by decide) rfl) (zN S2 (by decide) rfl) (by omega) (zG_a F (by decide) (by decide)) ?_
        generalize ex49 : ez_I h 72 p.toInt.toNat = x49
        have rx49 := z_rng x49
        refine z_C (m := 255) rfl rfl (fun x50 ex50 => ?_)
        refine z_and (fun x51 ex51 ux51 wx51 => ?_)
        have rx51 := z_rng x51
        replace ux51 := ux51 (by omega)
        clear wx51
        refine z_C (m := 8) rfl rfl (fun x52 ex52 => ?_)
        refine z_2 rfl (fun x53 ex53 => ?_)
        have rx53 := z_rng x53
        have eS := ex53
        refine gw_ld rfl rfl ?_
        refine z_gR (q := 72) (zT S2 (by decide) rfl) (zRf S2 (by decide) (by decide) rfl) (by decide) ?_
        refine gw_ld rfl rfl ?_
        refine z_C (m := 1) rfl rfl (fun x54 ex54 => ?_)
        refine z_add (by omega) (fun x55 ex55 => ?_)
        refine z_baV (n := 6000) (zT S2 (by decide) rfl) (zN S2 (by decide) rfl) (by omega) (zG_a F (by decide) (by decide)) ?_
        generalize ex56 : ez_I h 72 x55.toInt.toNat = x56
        have rx56 := z_rng x56
        refine z_C (m := 255) rfl rfl (fun x57 ex57 => ?_)
        refine z_and (fun x58 ex58 ux58 wx58 => ?_)
        have rx58 := z_rng x58
        replace ux58 := ux58 (by omega)
        clear wx58
        refine z_2 rfl (fun x59 ex59 => ?_)
        have rx59 := z_rng x59
        have ox59 := z_pair (by omega) (by omega) (by omega) eS ex59
        refine gw_st rfl rfl rfl ?_
        show ez_gw _ _ _ _ _ _ _ _ [some (.ref 71), some (.int p), some (.int x59), l3] _ _ _
        refine gw_ld rfl rfl ?_
        refine z_gR (q := 81) (zT S2 (by decide) rfl) (zRf S2 (by decide) (by decide) rfl) (by decide) ?_
        refine gw_ld rfl rfl ?_
        refine gw_ld rfl rfl ?_
        refine z_gR (q := 82) (zT S2 (by decide) rfl) (zRf S2 (by decide) (by decide) rfl) (by decide) ?_
        refine gw_ld rfl rfl ?_
        refine z_ia (n := 65536) (zT S2 (by decide) rfl) (zN S2 (by decide) rfl) (by omega) ?_
        generalize ex60 : ez_I h2 82 x59.toInt.toNat = x60
        have rx60 := z_rng x60
        have yx60 := A_lp x59.toInt.toNat (by omega)
        rw [ex60] at yx60
        refine z_is (n := 6000) (zT S2 (by decide) rfl) (zN S2 (by decide) rfl) (by omega) (fun h61 e62 => ?_)
        have S63 := zSh_set S2 e62
        have F64 := zG_setA F e62 (by decide) (by decide)
        have f65 : ez_I h61 71 14 = (ez_I h2 71 14) := (zI_ne e62 (by omega)).trans (rfl)
        have f66 : ez_I h61 71 17 = (ez_I h2 71 17) := (zI_ne e62 (by omega)).trans (rfl)
        have f67 : ez_I h61 71 18 = (ez_I h2 71 18) := (zI_ne e62 (by omega)).trans (rfl)
        have A68 : aR (ez_I h61 82) 65536 (-1) (p.toInt - 1) := by rw [zI_fn e62 82 (by decide)]; exact A_lp
        have A69 : pvI (ez_I h61 81) (p.toInt + 1) := pvI_ex A_pv e62 (by omega) (by omega) (by omega)
        refine gw_ld rfl rfl ?_
        refine z_gR (q := 82) (zT S63 (by decide) rfl) (zRf S63 (by decide) (by decide) rfl) (by decide) ?_
        refine gw_ld rfl rfl ?_
        refine gw_ld rfl rfl ?_
        refine z_is (n := 65536) (zT S63 (by decide) rfl) (zN S63 (by decide) rfl) (by omega) (fun h70 e71 => ?_)
        have S72 := zSh_set S63 e71
        have F73 := zG_setA F64 e71 (by decide) (by decide)
        have f74 : ez_I h70 71 14 = (ez_I h2 71 14) := (zI_ne e71 (by omega)).trans (f65)
        have f75 : ez_I h70 71 17 = (ez_I h2 71 17) := (zI_ne e71 (by omega)).trans (f66)
        have f76 : ez_I h70 71 18 = (ez_I h2 71 18) := (zI_ne e71 (by omega)).trans (f67)
        have A77 : aR (ez_I h70 82) 65536 (-1) p.toInt := aR_up (aR_le A68 (by omega)) e71 (by omega)
        have A78 : pvI (ez_I h70 81) (p.toInt + 1) := by rw [zI_fn e71 81 (by decide)]; exact A69
        clear A68
        clear A69
        refine z_inc rfl (by rw [show (1 : Int32).toInt = 1 from rfl]; omega) (fun x79 ex79 => ?_)
        rw [show (1 : Int32).toInt = 1 from rfl] at ex79
        show ez_gw _ _ _ _ _ _ _ _ [some (.ref 71), some (.int x79), some (.int x59), l3] _ _ _
        refine z_go ?_
        have t80 := congrArg Int32.toInt (f74)
        have t81 := congrArg Int32.toInt (f75)
        have t82 := congrArg Int32.toInt (f76)
        exact ih h70 x79 (some (.int x59)) (l3) F73 (by omega) (aR_le A77 (by omega)) (pvI_le A78 (by omega)) (by omega)
set_option maxRecDepth 4000 in
set_option maxHeartbeats 20000000 in
theorem m_findParts_L0 {E : Nat → Nat × (Nat → Int32)} {d : Nat} {Q : ez_Q} {h : ez_H}  (S : zSh h) (M6 : 0 ≤ (ez_I h 71 6).toInt ∧ (ez_I h 71 6).toInt ≤ 6000) (K : ∀ h2, zG (fun k => k = 14 ∨ k = 17 ∨ k = 18) (fun q => 77 ≤ q ∧ q ≤ 82) h h2 → (0 ≤ (ez_I h2 71 14).toInt ∧ (ez_I h2 71 14).toInt ≤ (ez_I h 71 6).toInt) → pQ (ez_I h2 77) (ez_I h2 78) (ez_I h2 79) (ez_I h 72) (ez_I h2 71 14).toInt.toNat (ez_I h 71 6).toInt → Q (.inl none) h2) : ∀ N : Nat, (∀ (h2 : ez_H) (i : Int32) (l2 : Option Value) (l3 : Option Value) , zG (fun k => k = 14 ∨ k = 17 ∨ k = 18) (fun q => 77 ≤ q ∧ q ≤ 82) h h2 → (0 ≤ i.toInt ∧ i.toInt ≤ 65536) → aR (ez_I h2 82) i.toInt.toNat (-1) (-1) → (2147483647 - i.toInt) < (N : Int) → pw E (d + 1) 32 2 [some (.ref 71), some (.int i), l2, l3] [] h2 Q) := by
  intro N
  induction N with
  | zero => exact fun h2 i l2 l3  F hinv A_z hm => absurd hm (by have w_i := z_rng i; omega)
  | succ N ih =>
    refine fun h2 i l2 l3  F hinv A_z hm => ?_
    · skip
      have w_i := z_rng i
      have S2 := zG_sh F S
      apply ez_Wp_in
      show ez_gw _ _ _ _ _ _ (cz_32) _ _ _ _ _
      refine gw_skip _ ?_
      have r1 := z_rng (ez_I h2 71 14)
      have r2 := z_rng (ez_I h2 71 17)
      have r3 := z_rng (ez_I h2 71 18)
      refine gw_ld rfl rfl ?_
      refine z_C (m := 65536) rfl rfl (fun x4 ex4 => ?_)
      refine z_b2 (fun c5 => ?_) (fun c5 => ?_)
      · have c5 : x4.toInt ≤ i.toInt := c5
        refine gw_skip _ ?_
        refine z_C (m := 0) rfl rfl (fun x6 ex6 => ?_)
        refine gw_st rfl rfl rfl ?_
        show ez_gw _ _ _ _ _ _ _ _ [some (.ref 71), some (.int x6), l2, l3] _ _ _
        exact ez_Wp_at ((m_findParts_L1  S M6 K (((7000 - x6.toInt)).toNat + 1)) h2 x6 (l2) (l3) F (by omega) (aR_le A_z (by omega)) (pvI_0 (by omega)) (by omega)) rfl
      · have c5 : ¬ (x4.toInt ≤ i.toInt) := c5
        refine gw_ld rfl rfl ?_
        refine z_gR (q := 82) (zT S2 (by decide) rfl) (zRf S2 (by decide) (by decide) rfl) (by decide) ?_
        refine gw_ld rfl rfl ?_
        refine z_C (m := -1) rfl rfl (fun x7 ex7 => ?_)
        refine z_is (n := 65536) (zT S2 (by decide) rfl) (zN S2 (by decide) rfl) (by omega) (fun h8 e9 => ?_)
        have S10 := zSh_set S2 e9
        have F11 := zG_setA F e9 (by decide) (by decide)
        have f12 : ez_I h8 71 14 = (ez_I h2 71 14) := (zI_ne e9 (by omega)).trans (rfl)
        have f13 : ez_I h8 71 17 = (ez_I h2 71 17) := (zI_ne e9 (by omega)).trans (rfl)
        have f14 : ez_I h8 71 18 = (ez_I h2 71 18) := (zI_ne e9 (by omega)).trans (rfl)
        have A15 : aR (ez_I h8 82) (i.toInt.toNat + 1) (-1) (-1) := aR_ex A_z e9 (by omega) (by omega)
        refine z_inc rfl (by rw [show (1 : Int32).toInt = 1 from rfl]; omega) (fun x16 ex16 => ?_)
        rw [show (1 : Int32).toInt = 1 from rfl] at ex16
        show ez_gw _ _ _ _ _ _ _ _ [some (.ref 71), some (.int x16), l2, l3] _ _ _
        refine z_go ?_
        have t17 := congrArg Int32.toInt (f12)
        have t18 := congrArg Int32.toInt (f13)
        have t19 := congrArg Int32.toInt (f14)
        exact ih h8 x16 (l2) (l3) F11 (by omega) (aR_le A15 (by omega)) (by omega)
set_option maxRecDepth 4000 in
set_option maxHeartbeats 20000000 in
theorem m_findParts {E : Nat → Nat × (Nat → Int32)} {d : Nat} {Q : ez_Q} {h : ez_H}  (S : zSh h) (M6 : 0 ≤ (ez_I h 71 6).toInt ∧ (ez_I h 71 6).toInt ≤ 6000) (K : ∀ h2, zG (fun k => k = 14 ∨ k = 17 ∨ k = 18) (fun q => 77 ≤ q ∧ q ≤ 82) h h2 → (0 ≤ (ez_I h2 71 14).toInt ∧ (ez_I h2 71 14).toInt ≤ (ez_I h 71 6).toInt) → pQ (ez_I h2 77) (ez_I h2 78) (ez_I h2 79) (ez_I h 72) (ez_I h2 71 14).toInt.toNat (ez_I h 71 6).toInt → Q (.inl none) h2) : pw E (d + 1) 32 0 [some (.ref 71), none, none, none] [] h Q := by
  have F := zG_refl (fun k => k = 14 ∨ k = 17 ∨ k = 18) (fun q => 77 ≤ q ∧ q ≤ 82) h
  apply ez_Wp_in
  show ez_gw _ _ _ _ _ _ (cz_32) _ _ _ _ _
  refine gw_skip _ ?_
  have r1 := z_rng (ez_I h 71 14)
  have r2 := z_rng (ez_I h 71 17)
  have r3 := z_rng (ez_I h 71 18)
  refine z_C (m := 0) rfl rfl (fun x4 ex4 => ?_)
  refine gw_st rfl rfl rfl ?_
  show ez_gw _ _ _ _ _ _ _ _ [some (.ref 71), some (.int x4), none, none] _ _ _
  exact ez_Wp_at ((m_findParts_L0  S M6 K (((2147483647 - x4.toInt)).toNat + 1)) h x4 (none) (none) F (by omega) ((by rw [show x4.toInt.toNat = 0 by omega]; exact aR_0 _ _ _)) (by omega)) rfl
