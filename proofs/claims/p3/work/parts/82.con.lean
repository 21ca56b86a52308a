/-! unpacking in the model -/
theorem z_pow_le {a b : Nat} (h : a ≤ b) : (2 : Int) ^ a ≤ 2 ^ b := by exact_mod_cast Nat.pow_le_pow_right (n := 2) (by decide) h
theorem zB_skip {v i j : Int32} (B : zB v i) (h0 : 0 ≤ i.toInt) (hj : j.toInt = i.toInt + 1) : zB v j := fun hle => by
  obtain ⟨a, b⟩ := B (by omega)
  refine ⟨a, Int.lt_of_lt_of_le b (z_pow_le (by omega))⟩
theorem zB_end2 {v i n : Int32} (B : zB v i) (h0 : 0 ≤ i.toInt) (hn : n.toInt ≤ 16) (hi : i.toInt ≤ n.toInt) : 0 ≤ v.toInt ∧ v.toInt < 2 ^ n.toInt.toNat := by
  obtain ⟨a, b⟩ := B (by omega)
  exact ⟨a, Int.lt_of_lt_of_le b (z_pow_le (by omega))⟩
/-- how often l stands among the first n -/
def cnI (f : Nat → Int32) (l : Int) : Nat → Nat
  | 0 => 0
  | n + 1 => cnI f l n + if (f n).toInt = l then 1 else 0
theorem cnI_y {f : Nat → Int32} {l : Int} {n : Nat} (h : (f n).toInt = l) : cnI f l (n + 1) = cnI f l n + 1 := by
  show cnI f l n + (if (f n).toInt = l then 1 else 0) = _
  simp only [h, ↓reduceIte]
theorem cnI_n {f : Nat → Int32} {l : Int} {n : Nat} (h : ¬ (f n).toInt = l) : cnI f l (n + 1) = cnI f l n := by
  show cnI f l n + (if (f n).toInt = l then 1 else 0) = _
  simp only [h, ↓reduceIte]; rfl
theorem cnI_le {f : Nat → Int32} {l : Int} {n m : Nat} (h : n ≤ m) : cnI f l n ≤ cnI f l m := by
  induction m with
  | zero => have : n = 0 := by omega
            subst this; exact Nat.le_refl _
  | succ m ih =>
    by_cases e : n = m + 1
    · subst e; exact Nat.le_refl _
    · have := ih (by omega)
      show _ ≤ cnI f l m + _
      omega
theorem cnI_lt {f : Nat → Int32} {l : Int} {n m : Nat} (h : cnI f l n < cnI f l m) : n < m := by
  by_cases e : n < m
  · exact e
  · have := cnI_le (f := f) (l := l) (n := m) (m := n) (by omega)
    omega
theorem cnI_top {f : Nat → Int32} {l : Int} {n : Nat} : cnI f l n ≤ n := by
  induction n with
  | zero => exact Nat.le_refl _
  | succ n ih =>
    show cnI f l n + (if (f n).toInt = l then 1 else 0) ≤ n + 1
    split <;> omega
/-- g counts the lengths of the first n of f -/
def cM (g f : Nat → Int32) (n : Nat) : Prop := (g 0).toInt = 0 ∧ ∀ l : Nat, 1 ≤ l → l < 17 → (g l).toInt = cnI f l n
theorem cM_0 {g f : Nat → Int32} (h : aR g 17 0 0) : cM g f 0 := ⟨by have := h 0 (by decide); omega, fun l _ h2 => by have := h l h2; show (g l).toInt = ((0 : Nat) : Int); omega⟩
theorem cM_up {h h2 : ez_H} {f : Nat → Int32} {n : Nat} {z w o : Int32} (A : cM (ez_I h 115) f n) (ez : f n = z) (hz : 0 ≤ z.toInt ∧ z.toInt ≤ 15) (hn : n < 1000) (eo : ez_I h 115 z.toInt.toNat = o) (hw : z.toInt ≤ 0 ∧ w.toInt = o.toInt + 0 ∨ 0 < z.toInt ∧ w.toInt = o.toInt + 1) (e : h2 = ez_setI h 115 z.toInt.toNat w) : cM (ez_I h2 115) f (n + 1) := by
  subst e
  constructor
  · by_cases c : z.toInt.toNat = 0
    · rw [c, ez_I_set_eq]
      have := A.1
      rw [c] at eo
      rw [eo] at this
      omega
    · rw [ez_I_set_ne (by omega)]
      exact A.1
  · intro l h1 hl
    have a := A.2 l h1 hl
    by_cases c : z.toInt = l
    · have c2 : z.toInt.toNat = l := by omega
      rw [c2, ez_I_set_eq, cnI_y (by rw [ez]; exact c)]
      rw [c2] at eo
      rw [eo] at a
      omega
    · rw [ez_I_set_ne (by omega), cnI_n (by rw [ez]; exact c)]
      exact a
theorem cM_rng {g f : Nat → Int32} {n : Nat} (A : cM g f n) {l : Nat} (hl : l < 17) : 0 ≤ (g l).toInt ∧ (g l).toInt ≤ n := by
  by_cases c : l = 0
  · subst c; have := A.1; omega
  · have := A.2 l (by omega) hl
    have := cnI_top (f := f) (l := l) (n := n)
    omega
def cB (c l : Int32) : Prop := 0 ≤ c.toInt ∧ c.toInt < 2 ^ (l.toInt.toNat - 1)
theorem cB_0 {c l : Int32} (hc : c.toInt = 0) (hl : l.toInt = 1) : cB c l := by
  unfold cB
  rw [hc, hl]; decide
theorem cB_le {c l : Int32} (B : cB c l) (hl : 1 ≤ l.toInt ∧ l.toInt ≤ 16) : 0 ≤ c.toInt ∧ c.toInt < 32768 := by
  refine ⟨B.1, Int.lt_of_lt_of_le B.2 ?_⟩
  have := z_pow_le (a := l.toInt.toNat - 1) (b := 15) (by omega)
  exact this
theorem z_shl1 {x y : Int32} (hx : 0 ≤ x.toInt ∧ x.toInt < 1073741824) (hy : y.toInt = 1) : (x <<< (y &&& 31)).toInt = 2 * x.toInt := by
  have e : y = 1 := z_inj hy
  subst e
  have h1 : ev_u (x <<< ((1 : Int32) &&& 31)) = 2 * ev_u x := by
    have hu := z_u hx.1
    show (x <<< ((1 : Int32) &&& 31)).toBitVec.toNat = _
    have : (x <<< ((1 : Int32) &&& 31)).toBitVec = x.toBitVec <<< 1 := by
      rw [show ((1 : Int32) &&& 31) = 1 from by decide]
      rw [Int32.toBitVec_shiftLeft]
      rfl
    rw [this, BitVec.toNat_shiftLeft, Nat.shiftLeft_eq]
    show ev_u x * 2 ^ 1 % 2 ^ 32 = 2 * ev_u x
    omega
  have hu := z_u hx.1
  rw [z_of_u (by omega), h1]
  omega
theorem z_or1 {x b : Int32} (hx : 0 ≤ x.toInt ∧ x.toInt < 1073741824) (hb : 0 ≤ b.toInt ∧ b.toInt ≤ 1) {w z y : Int32} (hy : y.toInt = 1) (hw : w = x <<< (y &&& 31)) (hz : z = w ||| b) : z.toInt = 2 * x.toInt + b.toInt := by
  have h1 : w.toInt = 2 * x.toInt := by rw [hw]; exact z_shl1 hx hy
  have h2 := z_u (x := w) (by omega)
  have h3 := z_u hb.1
  have h4 : ev_u z = ev_u w + ev_u b := by
    rw [hz, ef_or_ok]
    have e1 : ev_u w = (ev_u x) <<< 1 := by
      have := z_u hx.1
      rw [Nat.shiftLeft_eq]; omega
    show ev_u w ||| ev_u b = _
    rw [e1, ← Nat.shiftLeft_add_eq_or_of_lt (i := 1) (by omega)]
  rw [z_of_u (by omega), h4]
  omega
theorem cB_up {c l z m : Int32} {b : Int} (B : cB c l) (hl : 1 ≤ l.toInt ∧ l.toInt ≤ 15) (hb : 0 ≤ b ∧ b ≤ 1) (hz : z.toInt = 2 * c.toInt + b) (hm : m.toInt = l.toInt + 1) : cB z m := by
  have h := B.2
  have h0 := B.1
  refine ⟨by omega, ?_⟩
  rw [show m.toInt.toNat - 1 = (l.toInt.toNat - 1) + 1 by omega, Int.pow_succ]
  omega
theorem z_pow {n : Int32} {m : Nat} {v : Int} (h : v < 2 ^ n.toInt.toNat) (hn : n.toInt = m) : v < 2 ^ m := by
  rw [hn] at h; exact h
/-! PRINTED by wip/p17/con9.py: contracts of the model, what reads bits -/
set_option maxRecDepth 4000 in
set_option maxHeartbeats 20000000 in
theorem m_tb_L0 {E : Nat → Nat × (Nat → Int32)} {d : Nat} {Q : ez_Q} {h : ez_H} {n : Int32} (S : zSh h) (M6 : 0 ≤ (ez_I h 71 6).toInt ∧ (ez_I h 71 6).toInt ≤ 6000) (hb : 0 ≤ (ez_I h 71 59).toInt ∧ (ez_I h 71 59).toInt ≤ 8 * (ez_I h 71 6).toInt) (hf : 0 ≤ (ez_I h 71 61).toInt) (hn : 0 ≤ n.toInt ∧ n.toInt ≤ 16) (K : ∀ h2 (x : Int32), zG (fun k => k = 59 ∨ k = 61) (fun _ => False) h h2 → (0 ≤ x.toInt ∧ x.toInt < 2 ^ n.toInt.toNat) → (0 ≤ (ez_I h2 71 59).toInt ∧ (ez_I h 71 59).toInt ≤ (ez_I h2 71 59).toInt ∧ (ez_I h2 71 59).toInt ≤ 8 * (ez_I h 71 6).toInt ∧ 0 ≤ (ez_I h2 71 61).toInt ∧ ((ez_I h2 71 61).toInt = 0 → (ez_I h 71 61).toInt = 0)) → (((ez_I h2 71 61).toInt = 0 → (ez_I h2 71 59).toInt = (ez_I h 71 59).toInt + n.toInt) ∧ ((ez_I h 71 61).toInt ≠ 0 → (ez_I h2 71 61).toInt = (ez_I h 71 61).toInt)) → Q (.inl (some (.int x))) h2) : ∀ N : Nat, (∀ (h2 : ez_H) (v : Int32) (i : Int32) , zG (fun k => k = 59 ∨ k = 61) (fun _ => False) h h2 → (0 ≤ i.toInt ∧ i.toInt ≤ n.toInt ∧ 0 ≤ (ez_I h2 71 59).toInt ∧ (ez_I h2 71 59).toInt ≤ 8 * (ez_I h 71 6).toInt ∧ 0 ≤ (ez_I h2 71 61).toInt ∧ (((ez_I h2 71 61).toInt = 0 ∧ (ez_I h2 71 59).toInt = (ez_I h 71 59).toInt + i.toInt ∧ (ez_I h 71 61).toInt = 0) ∨ ((ez_I h2 71 61).toInt ≠ 0 ∧ (ez_I h 71 59).toInt ≤ (ez_I h2 71 59).toInt ∧ ((ez_I h 71 61).toInt ≠ 0 → (ez_I h2 71 61).toInt = (ez_I h 71 61).toInt)))) → zB v i → (2147483647 - i.toInt) < (N : Int) → pw E d 51 4 [some (.ref 71), some (.int n), some (.int v), some (.int i)] [] h2 Q) := by
  intro N
  induction N with
  | zero => exact fun h2 v i  F hinv A_zb hm => absurd hm (by have w_v := z_rng v; have w_i := z_rng i; have gn := z_rng n; omega)
  | succ N ih =>
    refine fun h2 v i  F hinv A_zb hm => ?_
    · skip
      have w_v := z_rng v
      have w_i := z_rng i
      have gn := z_rng n
      have S2 := zG_sh F S
      apply ez_Wp_in
      show ez_gw _ _ _ _ _ _ (cz_51) _ _ _ _ _
      refine gw_skip _ ?_
      have r1 := z_rng (ez_I h2 71 59)
      have r2 := z_rng (ez_I h2 71 61)
      refine gw_ld rfl rfl ?_
      refine gw_ld rfl rfl ?_
      refine z_b2 (fun c3 => ?_) (fun c3 => ?_)
      · have c3 : n.toInt ≤ i.toInt := c3
        refine gw_skip _ ?_
        refine gw_ld rfl rfl ?_
        refine z_ri ?_
        exact K _ v F (zB_end2 A_zb (by omega) (by omega) (by omega)) (by omega) (by omega)
      · have c3 : ¬ (n.toInt ≤ i.toInt) := c3
        refine gw_ld rfl rfl ?_
        refine z_gI2 (by decide) (zT S2 (by decide) rfl) (rfl) ?_
        refine z_b1 (fun c4 => ?_) (fun c4 => ?_)
        · have c4 : ((ez_I h2 71 61)).toInt ≠ 0 := c4
          refine gw_skip _ ?_
          refine gw_ld rfl rfl ?_
          refine z_ri ?_
          exact K _ v F (zB_end2 A_zb (by omega) (by omega) (by omega)) (by omega) (by omega)
        · have c4 : ¬ (((ez_I h2 71 61)).toInt ≠ 0) := c4
          refine gw_ld rfl rfl ?_
          refine z_gI2 (by decide) (zT S2 (by decide) rfl) (rfl) ?_
          refine z_C (m := 8) rfl rfl (fun x5 ex5 => ?_)
          refine z_dvP (c := 8) ex5 (by decide) (by omega) (fun x6 ex6 => ?_)
          refine gw_ld rfl rfl ?_
          have r7 := z_rng (ez_I h 71 6)
          refine z_gI2 (by decide) (zT S2 (by decide) rfl) (zG_f F (by decide)) ?_
          refine z_b2 (fun c8 => ?_) (fun c8 => ?_)
          · have c8 : x6.toInt < ((ez_I h 71 6)).toInt := c8
            refine gw_skip _ ?_
            refine gw_ld rfl rfl ?_
            refine gw_ld rfl rfl ?_
            refine z_gR (q := 72) (zT S2 (by decide) rfl) (zRf S2 (by decide) (by decide) rfl) (by decide) ?_
            refine gw_ld rfl rfl ?_
            refine z_gI2 (by decide) (zT S2 (by decide) rfl) (rfl) ?_
            refine z_C (m := 8) rfl rfl (fun x9 ex9 => ?_)
            refine z_dvP (c := 8) ex9 (by decide) (by omega) (fun x10 ex10 => ?_)
            refine z_baV (n := 6000) (zT S2 (by decide) rfl) (zN S2 (by decide) rfl) (by omega) (zG_a F (by decide) (fun c => c)) ?_
            generalize ex11 : ez_I h 72 x10.toInt.toNat = x11
            have rx11 := z_rng x11
            refine gw_ld rfl rfl ?_
            refine z_gI2 (by decide) (zT S2 (by decide) rfl) (rfl) ?_
            refine z_C (m := 8) rfl rfl (fun x12 ex12 => ?_)
            refine z_rmP (c := 8) ex12 (by decide) (by omega) (fun x13 ex13 => ?_)
            refine z_2 rfl (fun x14 ex14 => ?_)
            have rx14 := z_rng x14
            refine z_C (m := 1) rfl rfl (fun x15 ex15 => ?_)
            refine z_and (fun x16 ex16 ux16 wx16 => ?_)
            have rx16 := z_rng x16
            replace ux16 := ux16 (by omega)
            clear wx16
            refine gw_ld rfl rfl ?_
            refine z_2 rfl (fun x17 ex17 => ?_)
            have rx17 := z_rng x17
            refine z_2 rfl (fun x18 ex18 => ?_)
            have rx18 := z_rng x18
            refine gw_st rfl rfl rfl ?_
            show ez_gw _ _ _ _ _ _ _ _ [some (.ref 71), some (.int n), some (.int x18), some (.int i)] _ _ _
            refine gw_ld rfl rfl ?_
            refine gw_op rfl ?_
            refine z_gI2 (by decide) (zT S2 (by decide) rfl) (rfl) ?_
            refine gw_ld rfl rfl ?_
            refine z_gI2 (by decide) (zT S2 (by decide) rfl) (rfl) ?_
            refine z_b1 (fun c19 => ?_) (fun c19 => ?_)
            · have c19 : ((ez_I h2 71 61)).toInt ≠ 0 := c19
              exfalso; omega
            · have c19 : ¬ (((ez_I h2 71 61)).toInt ≠ 0) := c19
              refine z_C (m := 1) rfl rfl (fun x20 ex20 => ?_)
              refine z_go ?_
              refine gw_skip _ ?_
              refine z_add (by omega) (fun x21 ex21 => ?_)
              refine z_pI (zT S2 (by decide) rfl) (fun h22 e23 => ?_)
              have S24 := zSh_set S2 e23
              have F25 := zG_setF F e23 (by decide)
              have f26 : ez_I h22 71 59 = x21 := zI_eq e23
              have f27 : ez_I h22 71 61 = (ez_I h2 71 61) := (zI_ne e23 (by decide)).trans (rfl)
              have A28 : zB v i := by rw []; exact A_zb
              refine z_inc rfl (by rw [show (1 : Int32).toInt = 1 from rfl]; omega) (fun x29 ex29 => ?_)
              rw [show (1 : Int32).toInt = 1 from rfl] at ex29
              show ez_gw _ _ _ _ _ _ _ _ [some (.ref 71), some (.int n), some (.int x18), some (.int x29)] _ _ _
              refine z_go ?_
              have t30 := congrArg Int32.toInt (f26)
              have t31 := congrArg Int32.toInt (f27)
              exact ih h22 x18 x29 F25 (by omega) (zB_step A_zb (by omega) (by omega) (by omega) ex17 ex18) (by omega)
          · have c8 : ¬ (x6.toInt < ((ez_I h 71 6)).toInt) := c8
            refine gw_ld rfl rfl ?_
            refine z_C (m := 1) rfl rfl (fun x32 ex32 => ?_)
            refine z_pI (zT S2 (by decide) rfl) (fun h33 e34 => ?_)
            have S35 := zSh_set S2 e34
            have F36 := zG_setF F e34 (by decide)
            have f37 : ez_I h33 71 59 = (ez_I h2 71 59) := (zI_ne e34 (by decide)).trans (rfl)
            have f38 : ez_I h33 71 61 = x32 := zI_eq e34
            have A39 : zB v i := by rw []; exact A_zb
            refine z_go ?_
            refine gw_skip _ ?_
            refine gw_ld rfl rfl ?_
            refine gw_op rfl ?_
            refine z_gI2 (by decide) (zT S35 (by decide) rfl) (f37) ?_
            refine gw_ld rfl rfl ?_
            refine z_gI2 (by decide) (zT S35 (by decide) rfl) (f38) ?_
            refine z_b1 (fun c40 => ?_) (fun c40 => ?_)
            · have c40 : x32.toInt ≠ 0 := c40
              refine gw_skip _ ?_
              refine z_C (m := 0) rfl rfl (fun x41 ex41 => ?_)
              refine z_add (by omega) (fun x42 ex42 => ?_)
              refine z_pI (zT S35 (by decide) rfl) (fun h43 e44 => ?_)
              have S45 := zSh_set S35 e44
              have F46 := zG_setF F36 e44 (by decide)
              have f47 : ez_I h43 71 59 = x42 := zI_eq e44
              have f48 : ez_I h43 71 61 = x32 := (zI_ne e44 (by decide)).trans (f38)
              have A49 : zB v i := by rw []; exact A39
              clear A39
              refine z_inc rfl (by rw [show (1 : Int32).toInt = 1 from rfl]; omega) (fun x50 ex50 => ?_)
              rw [show (1 : Int32).toInt = 1 from rfl] at ex50
              show ez_gw _ _ _ _ _ _ _ _ [some (.ref 71), some (.int n), some (.int v), some (.int x50)] _ _ _
              refine z_go ?_
              have t51 := congrArg Int32.toInt (f47)
              have t52 := congrArg Int32.toInt (f48)
              exact ih h43 v x50 F46 (by omega) (zB_skip A_zb (by omega) (by omega)) (by omega)
            · have c40 : ¬ (x32.toInt ≠ 0) := c40
              exfalso; omega
set_option maxRecDepth 4000 in
set_option maxHeartbeats 20000000 in
theorem m_tb {E : Nat → Nat × (Nat → Int32)} {d : Nat} {Q : ez_Q} {h : ez_H} {n : Int32} (S : zSh h) (M6 : 0 ≤ (ez_I h 71 6).toInt ∧ (ez_I h 71 6).toInt ≤ 6000) (hb : 0 ≤ (ez_I h 71 59).toInt ∧ (ez_I h 71 59).toInt ≤ 8 * (ez_I h 71 6).toInt) (hf : 0 ≤ (ez_I h 71 61).toInt) (hn : 0 ≤ n.toInt ∧ n.toInt ≤ 16) (K : ∀ h2 (x : Int32), zG (fun k => k = 59 ∨ k = 61) (fun _ => False) h h2 → (0 ≤ x.toInt ∧ x.toInt < 2 ^ n.toInt.toNat) → (0 ≤ (ez_I h2 71 59).toInt ∧ (ez_I h 71 59).toInt ≤ (ez_I h2 71 59).toInt ∧ (ez_I h2 71 59).toInt ≤ 8 * (ez_I h 71 6).toInt ∧ 0 ≤ (ez_I h2 71 61).toInt ∧ ((ez_I h2 71 61).toInt = 0 → (ez_I h 71 61).toInt = 0)) → (((ez_I h2 71 61).toInt = 0 → (ez_I h2 71 59).toInt = (ez_I h 71 59).toInt + n.toInt) ∧ ((ez_I h 71 61).toInt ≠ 0 → (ez_I h2 71 61).toInt = (ez_I h 71 61).toInt)) → Q (.inl (some (.int x))) h2) : pw E d 51 0 [some (.ref 71), some (.int n), none, none] [] h Q := by
  have gn := z_rng n
  have F := zG_refl (fun k => k = 59 ∨ k = 61) (fun _ => False) h
  apply ez_Wp_in
  show ez_gw _ _ _ _ _ _ (cz_51) _ _ _ _ _
  refine gw_skip _ ?_
  have r1 := z_rng (ez_I h 71 59)
  have r2 := z_rng (ez_I h 71 61)
  refine z_C (m := 0) rfl rfl (fun x3 ex3 => ?_)
  refine gw_st rfl rfl rfl ?_
  show ez_gw _ _ _ _ _ _ _ _ [some (.ref 71), some (.int n), some (.int x3), none] _ _ _
  refine z_C (m := 0) rfl rfl (fun x4 ex4 => ?_)
  refine gw_st rfl rfl rfl ?_
  show ez_gw _ _ _ _ _ _ _ _ [some (.ref 71), some (.int n), some (.int x3), some (.int x4)] _ _ _
  exact ez_Wp_at ((m_tb_L0 (n := n) S M6 hb hf hn K (((2147483647 - x4.toInt)).toNat + 1)) h x3 x4 F (by omega) (zB_0 (by omega) (by omega)) (by omega)) rfl
set_option maxRecDepth 4000 in
set_option maxHeartbeats 20000000 in
theorem m_wrong {E : Nat → Nat × (Nat → Int32)} {d : Nat} {Q : ez_Q} {h : ez_H} {n : Int32} (S : zSh h) (hf : 0 ≤ (ez_I h 71 61).toInt) (hn : 1 ≤ n.toInt) (K : ∀ h2, zG (fun k => k = 61) (fun _ => False) h h2 → (1 ≤ (ez_I h2 71 61).toInt ∧ ((ez_I h 71 61).toInt = 0 → (ez_I h2 71 61).toInt = n.toInt) ∧ ((ez_I h 71 61).toInt ≠ 0 → (ez_I h2 71 61).toInt = (ez_I h 71 61).toInt)) → Q (.inl none) h2) : pw E d 52 0 [some (.ref 71), some (.int n)] [] h Q := by
  have gn := z_rng n
  have F := zG_refl (fun k => k = 61) (fun _ => False) h
  apply ez_Wp_in
  show ez_gw _ _ _ _ _ _ (cz_52) _ _ _ _ _
  refine gw_skip _ ?_
  have r1 := z_rng (ez_I h 71 61)
  refine gw_ld rfl rfl ?_
  refine z_gI2 (by decide) (zT S (by decide) rfl) (rfl) ?_
  refine z_b1 (fun c2 => ?_) (fun c2 => ?_)
  · have c2 : ((ez_I h 71 61)).toInt ≠ 0 := c2
    refine gw_skip _ ?_
    refine z_rv ?_
    exact K _ F (by omega)
  · have c2 : ¬ (((ez_I h 71 61)).toInt ≠ 0) := c2
    refine gw_ld rfl rfl ?_
    refine gw_ld rfl rfl ?_
    refine z_pI (zT S (by decide) rfl) (fun h3 e4 => ?_)
    have S5 := zSh_set S e4
    have F6 := zG_setF F e4 (by decide)
    have f7 : ez_I h3 71 61 = n := zI_eq e4
    refine z_rv ?_
    have t8 := congrArg Int32.toInt (f7)
    exact K _ F6 (by omega)
set_option maxRecDepth 4000 in
set_option maxHeartbeats 20000000 in
theorem m_give {E : Nat → Nat × (Nat → Int32)} {d : Nat} {Q : ez_Q} {h : ez_H} {n : Int32} (S : zSh h) (hf : 0 ≤ (ez_I h 71 61).toInt) (hg : 0 ≤ (ez_I h 71 60).toInt ∧ (ez_I h 71 60).toInt ≤ 6000) (K : ∀ h2, zG (fun k => k = 60 ∨ k = 61) (fun q => q = 76) h h2 → (0 ≤ (ez_I h2 71 61).toInt ∧ ((ez_I h2 71 61).toInt = 0 → (ez_I h 71 61).toInt = 0) ∧ 0 ≤ (ez_I h2 71 60).toInt ∧ (ez_I h2 71 60).toInt ≤ 6000 ∧ (ez_I h 71 60).toInt ≤ (ez_I h2 71 60).toInt) → Q (.inl none) h2) : pw E (d + 1) 53 0 [some (.ref 71), some (.int n)] [] h Q := by
  have gn := z_rng n
  have F := zG_refl (fun k => k = 60 ∨ k = 61) (fun q => q = 76) h
  apply ez_Wp_in
  show ez_gw _ _ _ _ _ _ (cz_53) _ _ _ _ _
  refine gw_skip _ ?_
  have r1 := z_rng (ez_I h 71 60)
  have r2 := z_rng (ez_I h 71 61)
  refine gw_ld rfl rfl ?_
  refine z_gI2 (by decide) (zT S (by decide) rfl) (rfl) ?_
  refine z_C (m := 6000) rfl rfl (fun x3 ex3 => ?_)
  refine z_b2 (fun c4 => ?_) (fun c4 => ?_)
  · have c4 : ((ez_I h 71 60)).toInt ≠ x3.toInt := c4
    refine gw_skip _ ?_
    refine gw_ld rfl rfl ?_
    refine z_gR (q := 76) (zT S (by decide) rfl) (zRf S (by decide) (by decide) rfl) (by decide) ?_
    refine gw_ld rfl rfl ?_
    refine z_gI2 (by decide) (zT S (by decide) rfl) (rfl) ?_
    refine gw_ld rfl rfl ?_
    refine z_1 rfl (fun x5 ex5 => ?_)
    have rx5 := z_rng x5
    refine z_bs (n := 6000) (zT S (by decide) rfl) (zN S (by decide) rfl) (by omega) (fun h6 e7 => ?_)
    have S8 := zSh_set S e7
    have F9 := zG_setA F e7 (by decide) (by decide)
    have f10 : ez_I h6 71 60 = (ez_I h 71 60) := (zI_ne e7 (by omega)).trans (rfl)
    have f11 : ez_I h6 71 61 = (ez_I h 71 61) := (zI_ne e7 (by omega)).trans (rfl)
    refine gw_ld rfl rfl ?_
    refine gw_op rfl ?_
    refine z_gI2 (by decide) (zT S8 (by decide) rfl) (f10) ?_
    refine z_C (m := 1) rfl rfl (fun x12 ex12 => ?_)
    refine z_add (by omega) (fun x13 ex13 => ?_)
    refine z_pI (zT S8 (by decide) rfl) (fun h14 e15 => ?_)
    have S16 := zSh_set S8 e15
    have F17 := zG_setF F9 e15 (by decide)
    have f18 : ez_I h14 71 60 = x13 := zI_eq e15
    have f19 : ez_I h14 71 61 = (ez_I h 71 61) := (zI_ne e15 (by decide)).trans (f11)
    refine z_rv ?_
    have t20 := congrArg Int32.toInt (f18)
    have t21 := congrArg Int32.toInt (f19)
    exact K _ F17 (by omega)
  · have c4 : ¬ (((ez_I h 71 60)).toInt ≠ x3.toInt) := c4
    refine gw_ld rfl rfl ?_
    refine z_C (m := 9) rfl rfl (fun x22 ex22 => ?_)
    refine z_cl rfl rfl rfl rfl rfl rfl rfl rfl rfl rfl rfl (zT S (by decide) rfl) ?_
    refine m_wrong S (n := x22) (by omega) (by omega) (fun h23  F24 k25 => ?_)
    have S26 := zG_sh F24 S
    have F27 := zG_tr F (zG_mono F24 (fun k hk => by first | omega | exact False.elim hk) (fun k hk => by first | omega | exact False.elim hk))
    have f28 : ez_I h23 71 60 = (ez_I h 71 60) := (zG_f F24 (by decide)).trans (rfl)
    have r29 := z_rng (ez_I h23 71 61)
    refine z_rv ?_
    have t30 := congrArg Int32.toInt (f28)
    exact K _ F27 (by omega)
set_option maxRecDepth 4000 in
set_option maxHeartbeats 20000000 in
theorem m_symOf_L0 {E : Nat → Nat × (Nat → Int32)} {d : Nat} {Q : ez_Q} {h : ez_H} {u : Nat} {n : Int32} {l : Int32} {m : Int32} (S : zSh h) {nu NN : Nat} {f : Nat → Int32} (hu : zA u nu) (h7 : u ≠ 71) (hN : NN ≤ nu ∧ nu ≤ 1000) (hf : ez_I h u = f) (hm : 0 ≤ m.toInt ∧ m.toInt < cnI f l.toInt NN) (K : ∀ x : Int32, (0 ≤ x.toInt ∧ x.toInt < NN) → Q (.inl (some (.int x))) h) : ∀ N : Nat, (∀ (h2 : ez_H) (q : Int32) (i : Int32) , zG (fun _ => False) (fun _ => False) h h2 → (0 ≤ i.toInt ∧ i.toInt ≤ NN ∧ 0 ≤ q.toInt ∧ q.toInt + cnI f l.toInt i.toInt.toNat < cnI f l.toInt NN) → (NN - i.toInt) < (N : Int) → pw E d 55 6 [some (.ref u), some (.int n), some (.int l), some (.int m), some (.int q), some (.int i)] [] h2 Q) := by
  intro N
  induction N with
  | zero => exact fun h2 q i  F hinv  hm => absurd hm (by have w_q := z_rng q; have w_i := z_rng i; have gn := z_rng n; have gl := z_rng l; have gm := z_rng m; omega)
  | succ N ih =>
    refine fun h2 q i  F hinv  hm => ?_
    · skip
      have w_q := z_rng q
      have w_i := z_rng i
      have gn := z_rng n
      have gl := z_rng l
      have gm := z_rng m
      have S2 := zG_sh F S
      have hcl : cnI f l.toInt i.toInt.toNat < cnI f l.toInt NN := by omega
      have hil := cnI_lt hcl
      apply ez_Wp_in
      show ez_gw _ _ _ _ _ _ (cz_55) _ _ _ _ _
      refine gw_skip _ ?_
      refine gw_ld rfl rfl ?_
      refine gw_ld rfl rfl ?_
      refine z_iaV (n := nu) ((hu _ S2).1) ((hu _ S2).2) (by omega) (zG_a F (by omega) (fun c => c)) ?_
      generalize ex1 : ez_I h u i.toInt.toNat = x1
      have rx1 := z_rng x1
      refine gw_ld rfl rfl ?_
      refine z_b2 (fun c2 => ?_) (fun c2 => ?_)
      · have c2 : x1.toInt ≠ l.toInt := c2
        refine gw_skip _ ?_
        refine gw_ld rfl rfl ?_
        refine gw_ld rfl rfl ?_
        refine gw_ld rfl rfl ?_
        refine z_iaV (n := nu) ((hu _ S2).1) ((hu _ S2).2) (by omega) ((zG_a F (by omega) (fun c => c)).trans ex1) ?_
        refine gw_ld rfl rfl ?_
        refine z_b2 (fun c4 => ?_) (fun c4 => ?_)
        · have c4 : x1.toInt ≠ l.toInt := c4
          refine gw_skip _ ?_
          refine z_C (m := 0) rfl rfl (fun x5 ex5 => ?_)
          refine z_sub (by omega) (fun x6 ex6 => ?_)
          refine gw_st rfl rfl rfl ?_
          show ez_gw _ _ _ _ _ _ _ _ [some (.ref u), some (.int n), some (.int l), some (.int m), some (.int x6), some (.int i)] _ _ _
          refine z_inc rfl (by rw [show (1 : Int32).toInt = 1 from rfl]; omega) (fun x7 ex7 => ?_)
          rw [show (1 : Int32).toInt = 1 from rfl] at ex7
          show ez_gw _ _ _ _ _ _ _ _ [some (.ref u), some (.int n), some (.int l), some (.int m), some (.int x6), some (.int x7)] _ _ _
          refine z_go ?_
          exact ih h2 x6 x7 F (by first | (have := cnI_y (f := f) (l := l.toInt) (n := i.toInt.toNat) (by rw [← hf]; first | (rw [ex1]; omega)); rw [← show x7.toInt.toNat = i.toInt.toNat + 1 by omega] at this; omega) | (have := cnI_n (f := f) (l := l.toInt) (n := i.toInt.toNat) (by rw [← hf]; rw [ex1]; omega); rw [← show x7.toInt.toNat = i.toInt.toNat + 1 by omega] at this; omega))  (by omega)
        · have c4 : ¬ (x1.toInt ≠ l.toInt) := c4
          exfalso; omega
      · have c2 : ¬ (x1.toInt ≠ l.toInt) := c2
        refine gw_ld rfl rfl ?_
        refine z_b1 (fun c8 => ?_) (fun c8 => ?_)
        · have c8 : q.toInt ≤ 0 := c8
          refine gw_skip _ ?_
          refine gw_ld rfl rfl ?_
          refine z_ri ?_
          exact zG_Q F (K i (by have := cnI_lt hcl; omega))
        · have c8 : ¬ (q.toInt ≤ 0) := c8
          refine gw_ld rfl rfl ?_
          refine gw_ld rfl rfl ?_
          refine gw_ld rfl rfl ?_
          refine z_iaV (n := nu) ((hu _ S2).1) ((hu _ S2).2) (by omega) ((zG_a F (by omega) (fun c => c)).trans ex1) ?_
          refine gw_ld rfl rfl ?_
          refine z_b2 (fun c10 => ?_) (fun c10 => ?_)
          · have c10 : x1.toInt ≠ l.toInt := c10
            exfalso; omega
          · have c10 : ¬ (x1.toInt ≠ l.toInt) := c10
            refine z_C (m := 1) rfl rfl (fun x11 ex11 => ?_)
            refine z_go ?_
            refine gw_skip _ ?_
            refine z_sub (by omega) (fun x12 ex12 => ?_)
            refine gw_st rfl rfl rfl ?_
            show ez_gw _ _ _ _ _ _ _ _ [some (.ref u), some (.int n), some (.int l), some (.int m), some (.int x12), some (.int i)] _ _ _
            refine z_inc rfl (by rw [show (1 : Int32).toInt = 1 from rfl]; omega) (fun x13 ex13 => ?_)
            rw [show (1 : Int32).toInt = 1 from rfl] at ex13
            show ez_gw _ _ _ _ _ _ _ _ [some (.ref u), some (.int n), some (.int l), some (.int m), some (.int x12), some (.int x13)] _ _ _
            refine z_go ?_
            exact ih h2 x12 x13 F (by first | (have := cnI_y (f := f) (l := l.toInt) (n := i.toInt.toNat) (by rw [← hf]; first | (rw [ex1]; omega)); rw [← show x13.toInt.toNat = i.toInt.toNat + 1 by omega] at this; omega) | (have := cnI_n (f := f) (l := l.toInt) (n := i.toInt.toNat) (by rw [← hf]; rw [ex1]; omega); rw [← show x13.toInt.toNat = i.toInt.toNat + 1 by omega] at this; omega))  (by omega)
set_option maxRecDepth 4000 in
set_option maxHeartbeats 20000000 in
theorem m_symOf {E : Nat → Nat × (Nat → Int32)} {d : Nat} {Q : ez_Q} {h : ez_H} {u : Nat} {n : Int32} {l : Int32} {m : Int32} (S : zSh h) {nu NN : Nat} {f : Nat → Int32} (hu : zA u nu) (h7 : u ≠ 71) (hN : NN ≤ nu ∧ nu ≤ 1000) (hf : ez_I h u = f) (hm : 0 ≤ m.toInt ∧ m.toInt < cnI f l.toInt NN) (K : ∀ x : Int32, (0 ≤ x.toInt ∧ x.toInt < NN) → Q (.inl (some (.int x))) h) : pw E d 55 0 [some (.ref u), some (.int n), some (.int l), some (.int m), none, none] [] h Q := by
  have gn := z_rng n
  have gl := z_rng l
  have gm := z_rng m
  have F := zG_refl (fun _ => False) (fun _ => False) h
  apply ez_Wp_in
  show ez_gw _ _ _ _ _ _ (cz_55) _ _ _ _ _
  refine gw_skip _ ?_
  refine gw_ld rfl rfl ?_
  refine gw_st rfl rfl rfl ?_
  show ez_gw _ _ _ _ _ _ _ _ [some (.ref u), some (.int n), some (.int l), some (.int m), some (.int m), none] _ _ _
  refine z_C (m := 0) rfl rfl (fun x1 ex1 => ?_)
  refine gw_st rfl rfl rfl ?_
  show ez_gw _ _ _ _ _ _ _ _ [some (.ref u), some (.int n), some (.int l), some (.int m), some (.int m), some (.int x1)] _ _ _
  exact ez_Wp_at ((m_symOf_L0 (u := u) (n := n) (l := l) (m := m) S hu h7 hN hf hm K (((NN - x1.toInt)).toNat + 1)) h m x1 F (by first | omega | exact ⟨by omega, by omega, by omega, by rw [show x1.toInt.toNat = 0 by omega]; show _ + ((0 : Nat) : Int) < _; omega⟩)  (by omega)) rfl
set_option maxRecDepth 4000 in
set_option maxHeartbeats 20000000 in
theorem m_isWhole_L0 {E : Nat → Nat × (Nat → Int32)} {d : Nat} {Q : ez_Q} {h : ez_H} {u : Nat} {n : Int32} (S : zSh h) {nu : Nat} (hu : zA u nu) (h7 : u ≠ 71) (hn : 0 ≤ n.toInt ∧ n.toInt ≤ nu ∧ nu ≤ 1000) (K : ∀ x : Int32, (x.toInt = 0 ∨ x.toInt = 1) → Q (.inl (some (.int x))) h) : ∀ N : Nat, (∀ (h2 : ez_H) (c : Int32) (i : Int32) , zG (fun _ => False) (fun _ => False) h h2 → (0 ≤ i.toInt) → (2147483647 - i.toInt) < (N : Int) → pw E d 56 4 [some (.ref u), some (.int n), some (.int c), some (.int i)] [] h2 Q) := by
  intro N
  induction N with
  | zero => exact fun h2 c i  F hinv  hm => absurd hm (by have w_c := z_rng c; have w_i := z_rng i; have gn := z_rng n; omega)
  | succ N ih =>
    refine fun h2 c i  F hinv  hm => ?_
    · skip
      have w_c := z_rng c
      have w_i := z_rng i
      have gn := z_rng n
      have S2 := zG_sh F S
      apply ez_Wp_in
      show ez_gw _ _ _ _ _ _ (cz_56) _ _ _ _ _
      refine gw_skip _ ?_
      refine gw_ld rfl rfl ?_
      refine gw_ld rfl rfl ?_
      refine z_b2 (fun c1 => ?_) (fun c1 => ?_)
      · have c1 : n.toInt ≤ i.toInt := c1
        refine gw_skip _ ?_
        refine gw_ld rfl rfl ?_
        refine z_C (m := 32768) rfl rfl (fun x2 ex2 => ?_)
        refine z_b2 (fun c3 => ?_) (fun c3 => ?_)
        · have c3 : c.toInt ≠ x2.toInt := c3
          refine gw_skip _ ?_
          refine z_C (m := 0) rfl rfl (fun x4 ex4 => ?_)
          refine z_rz (by omega) ?_
          exact zG_Q F (K x4 (by omega))
        · have c3 : ¬ (c.toInt ≠ x2.toInt) := c3
          refine z_C (m := 1) rfl rfl (fun x5 ex5 => ?_)
          refine z_go ?_
          refine gw_skip _ ?_
          refine z_rz (by omega) ?_
          exact zG_Q F (K x5 (by omega))
      · have c1 : ¬ (n.toInt ≤ i.toInt) := c1
        refine gw_ld rfl rfl ?_
        refine gw_ld rfl rfl ?_
        refine gw_ld rfl rfl ?_
        refine z_iaV (n := nu) ((hu _ S2).1) ((hu _ S2).2) (by omega) (zG_a F (by omega) (fun c => c)) ?_
        generalize ex6 : ez_I h u i.toInt.toNat = x6
        have rx6 := z_rng x6
        refine z_b1 (fun c7 => ?_) (fun c7 => ?_)
        · have c7 : x6.toInt ≤ 0 := c7
          refine gw_skip _ ?_
          refine z_C (m := 0) rfl rfl (fun x8 ex8 => ?_)
          refine z_addW (fun x9 ex9 => ?_)
          have rx9 := z_rng x9
          refine gw_st rfl rfl rfl ?_
          show ez_gw _ _ _ _ _ _ _ _ [some (.ref u), some (.int n), some (.int x9), some (.int i)] _ _ _
          refine z_inc rfl (by rw [show (1 : Int32).toInt = 1 from rfl]; omega) (fun x10 ex10 => ?_)
          rw [show (1 : Int32).toInt = 1 from rfl] at ex10
          show ez_gw _ _ _ _ _ _ _ _ [some (.ref u), some (.int n), some (.int x9), some (.int x10)] _ _ _
          refine z_go ?_
          exact ih h2 x9 x10 F (by omega)  (by omega)
        · have c7 : ¬ (x6.toInt ≤ 0) := c7
          refine z_C (m := 32768) rfl rfl (fun x11 ex11 => ?_)
          refine gw_ld rfl rfl ?_
          refine gw_ld rfl rfl ?_
          refine z_iaV (n := nu) ((hu _ S2).1) ((hu _ S2).2) (by omega) ((zG_a F (by omega) (fun c => c)).trans ex6) ?_
          refine z_2 rfl (fun x13 ex13 => ?_)
          have rx13 := z_rng x13
          refine z_go ?_
          refine gw_skip _ ?_
          refine z_addW (fun x14 ex14 => ?_)
          have rx14 := z_rng x14
          refine gw_st rfl rfl rfl ?_
          show ez_gw _ _ _ _ _ _ _ _ [some (.ref u), some (.int n), some (.int x14), some (.int i)] _ _ _
          refine z_inc rfl (by rw [show (1 : Int32).toInt = 1 from rfl]; omega) (fun x15 ex15 => ?_)
          rw [show (1 : Int32).toInt = 1 from rfl] at ex15
          show ez_gw _ _ _ _ _ _ _ _ [some (.ref u), some (.int n), some (.int x14), some (.int x15)] _ _ _
          refine z_go ?_
          exact ih h2 x14 x15 F (by omega)  (by omega)
set_option maxRecDepth 4000 in
set_option maxHeartbeats 20000000 in
theorem m_isWhole {E : Nat → Nat × (Nat → Int32)} {d : Nat} {Q : ez_Q} {h : ez_H} {u : Nat} {n : Int32} (S : zSh h) {nu : Nat} (hu : zA u nu) (h7 : u ≠ 71) (hn : 0 ≤ n.toInt ∧ n.toInt ≤ nu ∧ nu ≤ 1000) (K : ∀ x : Int32, (x.toInt = 0 ∨ x.toInt = 1) → Q (.inl (some (.int x))) h) : pw E d 56 0 [some (.ref u), some (.int n), none, none] [] h Q := by
  have gn := z_rng n
  have F := zG_refl (fun _ => False) (fun _ => False) h
  apply ez_Wp_in
  show ez_gw _ _ _ _ _ _ (cz_56) _ _ _ _ _
  refine gw_skip _ ?_
  refine z_C (m := 0) rfl rfl (fun x1 ex1 => ?_)
  refine gw_st rfl rfl rfl ?_
  show ez_gw _ _ _ _ _ _ _ _ [some (.ref u), some (.int n), some (.int x1), none] _ _ _
  refine z_C (m := 0) rfl rfl (fun x2 ex2 => ?_)
  refine gw_st rfl rfl rfl ?_
  show ez_gw _ _ _ _ _ _ _ _ [some (.ref u), some (.int n), some (.int x1), some (.int x2)] _ _ _
  exact ez_Wp_at ((m_isWhole_L0 (u := u) (n := n) S hu h7 hn K (((2147483647 - x2.toInt)).toNat + 1)) h x1 x2 F (by omega)  (by omega)) rfl
set_option maxRecDepth 4000 in
set_option maxHeartbeats 20000000 in
theorem m_sym_L2 {E : Nat → Nat × (Nat → Int32)} {d : Nat} {Q : ez_Q} {h : ez_H} {u : Nat} {n : Int32} (S : zSh h) {nu : Nat} (hu : zA u nu) (h7 : u ≠ 71) (h115 : u ≠ 115) (hn : 1 ≤ n.toInt ∧ n.toInt ≤ nu ∧ nu ≤ 1000) (hA : aR (ez_I h u) n.toInt.toNat 0 15) (M6 : 0 ≤ (ez_I h 71 6).toInt ∧ (ez_I h 71 6).toInt ≤ 6000) (hb : 0 ≤ (ez_I h 71 59).toInt ∧ (ez_I h 71 59).toInt ≤ 8 * (ez_I h 71 6).toInt) (hf : 0 ≤ (ez_I h 71 61).toInt) (K : ∀ h2 (x : Int32), zG (fun k => k = 59 ∨ k = 61) (fun q => q = 115) h h2 → (0 ≤ x.toInt ∧ x.toInt < n.toInt) → (0 ≤ (ez_I h2 71 59).toInt ∧ (ez_I h 71 59).toInt ≤ (ez_I h2 71 59).toInt ∧ (ez_I h2 71 59).toInt ≤ 8 * (ez_I h 71 6).toInt ∧ 0 ≤ (ez_I h2 71 61).toInt ∧ ((ez_I h2 71 61).toInt = 0 → (ez_I h 71 61).toInt = 0)) → (((ez_I h2 71 61).toInt = 0 → (ez_I h 71 59).toInt < (ez_I h2 71 59).toInt) ∧ ((ez_I h2 71 61).toInt ≠ 0 → x.toInt = 0)) → Q (.inl (some (.int x))) h2) : ∀ N : Nat, (∀ (h2 : ez_H) (al : Int32) (c : Int32) (f : Int32) (l : Int32) , zG (fun k => k = 59 ∨ k = 61) (fun q => q = 115) h h2 → (1 ≤ l.toInt ∧ l.toInt ≤ 16 ∧ 0 ≤ f.toInt ∧ f.toInt ≤ c.toInt ∧ 0 ≤ (ez_I h2 71 59).toInt ∧ (ez_I h 71 59).toInt ≤ (ez_I h2 71 59).toInt ∧ (ez_I h2 71 59).toInt ≤ 8 * (ez_I h 71 6).toInt ∧ 0 ≤ (ez_I h2 71 61).toInt ∧ ((ez_I h2 71 61).toInt = 0 → (ez_I h 71 61).toInt = 0) ∧ ((ez_I h2 71 61).toInt = 0 → (ez_I h2 71 59).toInt = (ez_I h 71 59).toInt + l.toInt - 1)) → cM (ez_I h2 115) (ez_I h u) n.toInt.toNat → cB c l → (100 - l.toInt) < (N : Int) → pw E (d + 1) 54 99 [some (.ref 71), some (.ref u), some (.int n), some (.int al), some (.int c), some (.int f), some (.int l)] [] h2 Q) := by
  intro N
  induction N with
  | zero => exact fun h2 al c f l  F hinv A_cm A_cb hm => absurd hm (by have w_al := z_rng al; have w_c := z_rng c; have w_f := z_rng f; have w_l := z_rng l; have gn := z_rng n; omega)
  | succ N ih =>
    refine fun h2 al c f l  F hinv A_cm A_cb hm => ?_
    · skip
      have w_al := z_rng al
      have w_c := z_rng c
      have w_f := z_rng f
      have w_l := z_rng l
      have gn := z_rng n
      have S2 := zG_sh F S
      have hcb : l.toInt ≤ 16 → _ := fun q => cB_le A_cb (by omega)
      replace hcb := hcb (by omega)
      apply ez_Wp_in
      show ez_gw _ _ _ _ _ _ (cz_54) _ _ _ _ _
      refine gw_skip _ ?_
      have r1 := z_rng (ez_I h2 71 59)
      have r2 := z_rng (ez_I h2 71 61)
      refine gw_ld rfl rfl ?_
      refine z_C (m := 16) rfl rfl (fun x3 ex3 => ?_)
      refine z_b2 (fun c4 => ?_) (fun c4 => ?_)
      · have c4 : x3.toInt ≤ l.toInt := c4
        refine gw_skip _ ?_
        refine gw_ld rfl rfl ?_
        refine z_C (m := 7) rfl rfl (fun x5 ex5 => ?_)
        refine z_cl rfl rfl rfl rfl rfl rfl rfl rfl rfl rfl rfl (zT S2 (by decide) rfl) ?_
        refine m_wrong S2 (n := x5) (by omega) (by omega) (fun h6  F7 k8 => ?_)
        have S9 := zG_sh F7 S2
        have F10 := zG_tr F (zG_mono F7 (fun k hk => by first | omega | exact False.elim hk) (fun k hk => by first | omega | exact False.elim hk))
        have f11 : ez_I h6 71 59 = (ez_I h2 71 59) := (zG_f F7 (by decide)).trans (rfl)
        have r12 := z_rng (ez_I h6 71 61)
        have A13 : cM (ez_I h6 115) (ez_I h u) n.toInt.toNat := by rw [zG_fn F7 115 (by decide) (by first | omega | exact fun c => c)]; exact A_cm
        have A14 : cB c l := by rw []; exact A_cb
        refine z_C (m := 0) rfl rfl (fun x15 ex15 => ?_)
        refine z_ri ?_
        have t16 := congrArg Int32.toInt (f11)
        exact K _ x15 F10 (by omega) (by omega) (by omega)
      · have c4 : ¬ (x3.toInt ≤ l.toInt) := c4
        refine gw_ld rfl rfl ?_
        refine z_gI2 (by decide) (zT S2 (by decide) rfl) (rfl) ?_
        refine z_b1 (fun c17 => ?_) (fun c17 => ?_)
        · have c17 : ((ez_I h2 71 61)).toInt ≠ 0 := c17
          refine gw_skip _ ?_
          refine gw_ld rfl rfl ?_
          refine z_C (m := 7) rfl rfl (fun x18 ex18 => ?_)
          refine z_cl rfl rfl rfl rfl rfl rfl rfl rfl rfl rfl rfl (zT S2 (by decide) rfl) ?_
          refine m_wrong S2 (n := x18) (by omega) (by omega) (fun h19  F20 k21 => ?_)
          have S22 := zG_sh F20 S2
          have F23 := zG_tr F (zG_mono F20 (fun k hk => by first | omega | exact False.elim hk) (fun k hk => by first | omega | exact False.elim hk))
          have f24 : ez_I h19 71 59 = (ez_I h2 71 59) := (zG_f F20 (by decide)).trans (rfl)
          have r25 := z_rng (ez_I h19 71 61)
          have A26 : cM (ez_I h19 115) (ez_I h u) n.toInt.toNat := by rw [zG_fn F20 115 (by decide) (by first | omega | exact fun c => c)]; exact A_cm
          have A27 : cB c l := by rw []; exact A_cb
          refine z_C (m := 0) rfl rfl (fun x28 ex28 => ?_)
          refine z_ri ?_
          have t29 := congrArg Int32.toInt (f24)
          exact K _ x28 F23 (by omega) (by omega) (by omega)
        · have c17 : ¬ (((ez_I h2 71 61)).toInt ≠ 0) := c17
          refine gw_ld rfl rfl ?_
          refine z_C (m := 1) rfl rfl (fun x30 ex30 => ?_)
          refine z_2 rfl (fun x31 ex31 => ?_)
          have rx31 := z_rng x31
          have ox31 := z_shl1 (x := c) (y := x30) (by omega) (by omega)
          rw [← ex31] at ox31
          have eC := ex31
          refine gw_ld rfl rfl ?_
          refine z_C (m := 1) rfl rfl (fun x32 ex32 => ?_)
          refine z_cl rfl rfl rfl rfl rfl rfl rfl rfl rfl rfl rfl (zT S2 (by decide) rfl) ?_
          refine m_tb S2 (n := x32) (by rw [zG_f F (k := 6) (by decide)]; exact M6) (by rw [show ez_I h2 71 6 = ez_I h 71 6 from zG_f F (by decide)]; omega) (by omega) (by omega) (fun h33 x38 F34 k35 k36 k37 => ?_)
          have rx38 := z_rng x38
          rw [show ez_I h2 71 6 = ez_I h 71 6 from zG_f F (by decide)] at k36
          have S39 := zG_sh F34 S2
          have F40 := zG_tr F (zG_mono F34 (fun k hk => by first | omega | exact False.elim hk) (fun k hk => by first | omega | exact False.elim hk))
          have r41 := z_rng (ez_I h33 71 59)
          have r42 := z_rng (ez_I h33 71 61)
          have A43 : cM (ez_I h33 115) (ez_I h u) n.toInt.toNat := by rw [zG_fn F34 115 (by decide) (by first | omega | exact fun c => c)]; exact A_cm
          have A44 : cB c l := by rw []; exact A_cb
          replace k35 := And.intro k35.1 (z_pow (m := 1) k35.2 (by omega))
          have : (2 : Int) ^ 1 = 2 := rfl
          refine z_2 rfl (fun x45 ex45 => ?_)
          have rx45 := z_rng x45
          have ox45 := z_or1 (x := c) (b := x38) (by omega) (by omega) ‹_› eC ex45
          refine gw_st rfl rfl rfl ?_
          show ez_gw _ _ _ _ _ _ _ _ [some (.ref 71), some (.ref u), some (.int n), some (.int al), some (.int x45), some (.int f), some (.int l)] _ _ _
          refine gw_ld rfl rfl ?_
          refine z_C (m := 1) rfl rfl (fun x46 ex46 => ?_)
          refine z_2 rfl (fun x47 ex47 => ?_)
          have rx47 := z_rng x47
          have ox47 := z_shl1 (x := f) (y := x46) (by omega) (by omega)
          rw [← ex47] at ox47
          refine gw_st rfl rfl rfl ?_
          show ez_gw _ _ _ _ _ _ _ _ [some (.ref 71), some (.ref u), some (.int n), some (.int al), some (.int x45), some (.int x47), some (.int l)] _ _ _
          refine gw_ld rfl rfl ?_
          refine z_gI2 (by decide) (zT S39 (by decide) rfl) (rfl) ?_
          refine z_b1 (fun c48 => ?_) (fun c48 => ?_)
          · have c48 : ((ez_I h33 71 61)).toInt ≤ 0 := c48
            refine gw_skip _ ?_
            refine gw_ld rfl rfl ?_
            refine gw_ld rfl rfl ?_
            refine z_sub (by omega) (fun x49 ex49 => ?_)
            refine gw_ld rfl rfl ?_
            refine z_gR (q := 115) (zT S39 (by decide) rfl) (zRf S39 (by decide) (by decide) rfl) (by decide) ?_
            refine gw_ld rfl rfl ?_
            refine z_ia (n := 17) (zT S39 (by decide) rfl) (zN S39 (by decide) rfl) (by omega) ?_
            generalize ex50 : ez_I h33 115 l.toInt.toNat = x50
            have rx50 := z_rng x50
            have yx50 := cM_rng A43 (l := l.toInt.toNat) (by omega)
            rw [ex50] at yx50
            refine z_b2 (fun c51 => ?_) (fun c51 => ?_)
            · have c51 : x50.toInt ≤ x49.toInt := c51
              refine gw_skip _ ?_
              refine gw_ld rfl rfl ?_
              refine gw_ld rfl rfl ?_
              refine z_gR (q := 115) (zT S39 (by decide) rfl) (zRf S39 (by decide) (by decide) rfl) (by decide) ?_
              refine gw_ld rfl rfl ?_
              refine z_iaV (n := 17) (zT S39 (by decide) rfl) (zN S39 (by decide) rfl) (by omega) ex50 ?_
              refine z_add (by omega) (fun x53 ex53 => ?_)
              refine gw_st rfl rfl rfl ?_
              show ez_gw _ _ _ _ _ _ _ _ [some (.ref 71), some (.ref u), some (.int n), some (.int al), some (.int x45), some (.int x53), some (.int l)] _ _ _
              refine gw_ld rfl rfl ?_
              refine z_C (m := 1) rfl rfl (fun x54 ex54 => ?_)
              refine z_b2 (fun c55 => ?_) (fun c55 => ?_)
              · have c55 : al.toInt ≠ x54.toInt := c55
                refine gw_skip _ ?_
                refine z_inc rfl (by rw [show (1 : Int32).toInt = 1 from rfl]; omega) (fun x56 ex56 => ?_)
                rw [show (1 : Int32).toInt = 1 from rfl] at ex56
                show ez_gw _ _ _ _ _ _ _ _ [some (.ref 71), some (.ref u), some (.int n), some (.int al), some (.int x45), some (.int x53), some (.int x56)] _ _ _
                refine z_go ?_
                exact ih h33 al x45 x53 x56 F40 (by omega) (A43) (cB_up (b := x38.toInt) A_cb (by omega) (by omega) ox45 (by omega)) (by omega)
              · have c55 : ¬ (al.toInt ≠ x54.toInt) := c55
                refine gw_ld rfl rfl ?_
                refine z_C (m := 7) rfl rfl (fun x57 ex57 => ?_)
                refine z_cl rfl rfl rfl rfl rfl rfl rfl rfl rfl rfl rfl (zT S39 (by decide) rfl) ?_
                refine m_wrong S39 (n := x57) (by omega) (by omega) (fun h58  F59 k60 => ?_)
                have S61 := zG_sh F59 S39
                have F62 := zG_tr F40 (zG_mono F59 (fun k hk => by first | omega | exact False.elim hk) (fun k hk => by first | omega | exact False.elim hk))
                have f63 : ez_I h58 71 59 = (ez_I h33 71 59) := (zG_f F59 (by decide)).trans (rfl)
                have r64 := z_rng (ez_I h58 71 61)
                have A65 : cM (ez_I h58 115) (ez_I h u) n.toInt.toNat := by rw [zG_fn F59 115 (by decide) (by first | omega | exact fun c => c)]; exact A43
                have A66 : cB c l := by rw []; exact A44
                refine z_inc rfl (by rw [show (1 : Int32).toInt = 1 from rfl]; omega) (fun x67 ex67 => ?_)
                rw [show (1 : Int32).toInt = 1 from rfl] at ex67
                show ez_gw _ _ _ _ _ _ _ _ [some (.ref 71), some (.ref u), some (.int n), some (.int al), some (.int x45), some (.int x53), some (.int x67)] _ _ _
                refine z_go ?_
                have t68 := congrArg Int32.toInt (f63)
                exact ih h58 al x45 x53 x67 F62 (by omega) (A65) (cB_up (b := x38.toInt) A_cb (by omega) (by omega) ox45 (by omega)) (by omega)
            · have c51 : ¬ (x50.toInt ≤ x49.toInt) := c51
              refine gw_ld rfl rfl ?_
              refine gw_ld rfl rfl ?_
              refine gw_ld rfl rfl ?_
              refine gw_ld rfl rfl ?_
              refine gw_ld rfl rfl ?_
              refine z_sub (by omega) (fun x69 ex69 => ?_)
              refine z_cl rfl rfl rfl rfl rfl rfl rfl rfl rfl rfl rfl (trivial) ?_
              refine m_symOf (n := n) (l := l) (m := x69) (NN := n.toInt.toNat) (f := ez_I h u) S39 hu h7 (by omega) (zG_fn F40 u h7 (by omega)) (by have ycm := A43.2 l.toInt.toNat (by omega) (by omega); rw [show ((l.toInt.toNat : Nat) : Int) = l.toInt by omega] at ycm; rw [ex50] at ycm; omega) (fun x70 k71 => ?_)
              have rx70 := z_rng x70
              refine z_ri ?_
              exact K _ x70 F40 (by omega) (by omega) (by omega)
          · have c48 : ¬ (((ez_I h33 71 61)).toInt ≤ 0) := c48
            refine z_C (m := 0) rfl rfl (fun x72 ex72 => ?_)
            refine z_ri ?_
            exact K _ x72 F40 (by omega) (by omega) (by omega)
set_option maxRecDepth 4000 in
set_option maxHeartbeats 20000000 in
theorem m_sym_L1 {E : Nat → Nat × (Nat → Int32)} {d : Nat} {Q : ez_Q} {h : ez_H} {u : Nat} {n : Int32} (S : zSh h) {nu : Nat} (hu : zA u nu) (h7 : u ≠ 71) (h115 : u ≠ 115) (hn : 1 ≤ n.toInt ∧ n.toInt ≤ nu ∧ nu ≤ 1000) (hA : aR (ez_I h u) n.toInt.toNat 0 15) (M6 : 0 ≤ (ez_I h 71 6).toInt ∧ (ez_I h 71 6).toInt ≤ 6000) (hb : 0 ≤ (ez_I h 71 59).toInt ∧ (ez_I h 71 59).toInt ≤ 8 * (ez_I h 71 6).toInt) (hf : 0 ≤ (ez_I h 71 61).toInt) (K : ∀ h2 (x : Int32), zG (fun k => k = 59 ∨ k = 61) (fun q => q = 115) h h2 → (0 ≤ x.toInt ∧ x.toInt < n.toInt) → (0 ≤ (ez_I h2 71 59).toInt ∧ (ez_I h 71 59).toInt ≤ (ez_I h2 71 59).toInt ∧ (ez_I h2 71 59).toInt ≤ 8 * (ez_I h 71 6).toInt ∧ 0 ≤ (ez_I h2 71 61).toInt ∧ ((ez_I h2 71 61).toInt = 0 → (ez_I h 71 61).toInt = 0)) → (((ez_I h2 71 61).toInt = 0 → (ez_I h 71 59).toInt < (ez_I h2 71 59).toInt) ∧ ((ez_I h2 71 61).toInt ≠ 0 → x.toInt = 0)) → Q (.inl (some (.int x))) h2) : ∀ N : Nat, (∀ (h2 : ez_H) (al : Int32) (i : Int32) (l5 : Option Value) (l6 : Option Value) , zG (fun k => k = 59 ∨ k = 61) (fun q => q = 115) h h2 → (0 ≤ i.toInt ∧ i.toInt ≤ n.toInt ∧ 0 ≤ al.toInt ∧ al.toInt ≤ i.toInt ∧ (ez_I h2 71 59).toInt = (ez_I h 71 59).toInt ∧ (ez_I h2 71 61).toInt = (ez_I h 71 61).toInt) → cM (ez_I h2 115) (ez_I h u) i.toInt.toNat → (2147483647 - i.toInt) < (N : Int) → pw E (d + 1) 54 29 [some (.ref 71), some (.ref u), some (.int n), some (.int al), some (.int i), l5, l6] [] h2 Q) := by
  intro N
  induction N with
  | zero => exact fun h2 al i l5 l6  F hinv A_cm hm => absurd hm (by have w_al := z_rng al; have w_i := z_rng i; have gn := z_rng n; omega)
  | succ N ih =>
    refine fun h2 al i l5 l6  F hinv A_cm hm => ?_
    · skip
      have w_al := z_rng al
      have w_i := z_rng i
      have gn := z_rng n
      have S2 := zG_sh F S
      apply ez_Wp_in
      show ez_gw _ _ _ _ _ _ (cz_54) _ _ _ _ _
      refine gw_skip _ ?_
      have r1 := z_rng (ez_I h2 71 59)
      have r2 := z_rng (ez_I h2 71 61)
      refine gw_ld rfl rfl ?_
      refine gw_ld rfl rfl ?_
      refine z_b2 (fun c3 => ?_) (fun c3 => ?_)
      · have c3 : n.toInt ≤ i.toInt := c3
        refine gw_skip _ ?_
        refine gw_ld rfl rfl ?_
        refine z_b1 (fun c4 => ?_) (fun c4 => ?_)
        · have c4 : al.toInt ≠ 0 := c4
          refine gw_skip _ ?_
          refine z_C (m := 0) rfl rfl (fun x5 ex5 => ?_)
          refine gw_st rfl rfl rfl ?_
          show ez_gw _ _ _ _ _ _ _ _ [some (.ref 71), some (.ref u), some (.int n), some (.int al), some (.int x5), l5, l6] _ _ _
          refine z_C (m := 0) rfl rfl (fun x6 ex6 => ?_)
          refine gw_st rfl rfl rfl ?_
          show ez_gw _ _ _ _ _ _ _ _ [some (.ref 71), some (.ref u), some (.int n), some (.int al), some (.int x5), some (.int x6), l6] _ _ _
          refine z_C (m := 1) rfl rfl (fun x7 ex7 => ?_)
          refine gw_st rfl rfl rfl ?_
          show ez_gw _ _ _ _ _ _ _ _ [some (.ref 71), some (.ref u), some (.int n), some (.int al), some (.int x5), some (.int x6), some (.int x7)] _ _ _
          exact ez_Wp_at ((m_sym_L2 (u := u) (n := n) S hu h7 h115 hn hA M6 hb hf K (((100 - x7.toInt)).toNat + 1)) h2 al x5 x6 x7 F (by omega) ((by rw [show n.toInt.toNat = i.toInt.toNat by omega]; exact A_cm)) (cB_0 (by omega) (by omega)) (by omega)) rfl
        · have c4 : ¬ (al.toInt ≠ 0) := c4
          refine gw_ld rfl rfl ?_
          refine z_C (m := 7) rfl rfl (fun x8 ex8 => ?_)
          refine z_cl rfl rfl rfl rfl rfl rfl rfl rfl rfl rfl rfl (zT S2 (by decide) rfl) ?_
          refine m_wrong S2 (n := x8) (by omega) (by omega) (fun h9  F10 k11 => ?_)
          have S12 := zG_sh F10 S2
          have F13 := zG_tr F (zG_mono F10 (fun k hk => by first | omega | exact False.elim hk) (fun k hk => by first | omega | exact False.elim hk))
          have f14 : ez_I h9 71 59 = (ez_I h2 71 59) := (zG_f F10 (by decide)).trans (rfl)
          have r15 := z_rng (ez_I h9 71 61)
          have A16 : cM (ez_I h9 115) (ez_I h u) i.toInt.toNat := by rw [zG_fn F10 115 (by decide) (by first | omega | exact fun c => c)]; exact A_cm
          refine z_C (m := 0) rfl rfl (fun x17 ex17 => ?_)
          refine gw_st rfl rfl rfl ?_
          show ez_gw _ _ _ _ _ _ _ _ [some (.ref 71), some (.ref u), some (.int n), some (.int al), some (.int x17), l5, l6] _ _ _
          refine z_C (m := 0) rfl rfl (fun x18 ex18 => ?_)
          refine gw_st rfl rfl rfl ?_
          show ez_gw _ _ _ _ _ _ _ _ [some (.ref 71), some (.ref u), some (.int n), some (.int al), some (.int x17), some (.int x18), l6] _ _ _
          refine z_C (m := 1) rfl rfl (fun x19 ex19 => ?_)
          refine gw_st rfl rfl rfl ?_
          show ez_gw _ _ _ _ _ _ _ _ [some (.ref 71), some (.ref u), some (.int n), some (.int al), some (.int x17), some (.int x18), some (.int x19)] _ _ _
          have t20 := congrArg Int32.toInt (f14)
          exact ez_Wp_at ((m_sym_L2 (u := u) (n := n) S hu h7 h115 hn hA M6 hb hf K (((100 - x19.toInt)).toNat + 1)) h9 al x17 x18 x19 F13 (by omega) ((by rw [show n.toInt.toNat = i.toInt.toNat by omega]; exact A16)) (cB_0 (by omega) (by omega)) (by omega)) rfl
      · have c3 : ¬ (n.toInt ≤ i.toInt) := c3
        refine gw_ld rfl rfl ?_
        refine z_gR (q := 115) (zT S2 (by decide) rfl) (zRf S2 (by decide) (by decide) rfl) (by decide) ?_
        refine gw_ld rfl rfl ?_
        refine gw_ld rfl rfl ?_
        refine z_iaV (n := nu) ((hu _ S2).1) ((hu _ S2).2) (by omega) (zG_a F (by omega) (by omega)) ?_
        generalize ex21 : ez_I h u i.toInt.toNat = x21
        have rx21 := z_rng x21
        have yx21 := hA i.toInt.toNat (by omega)
        rw [ex21] at yx21
        refine gw_op rfl ?_
        refine z_ia (n := 17) (zT S2 (by decide) rfl) (zN S2 (by decide) rfl) (by omega) ?_
        generalize ex22 : ez_I h2 115 x21.toInt.toNat = x22
        have rx22 := z_rng x22
        have yx22 := cM_rng A_cm (l := x21.toInt.toNat) (by omega)
        rw [ex22] at yx22
        refine gw_ld rfl rfl ?_
        refine gw_ld rfl rfl ?_
        refine z_iaV (n := nu) ((hu _ S2).1) ((hu _ S2).2) (by omega) ((zG_a F (by omega) (by omega)).trans ex21) ?_
        refine z_b1 (fun c24 => ?_) (fun c24 => ?_)
        · have c24 : x21.toInt ≤ 0 := c24
          refine gw_skip _ ?_
          refine z_C (m := 0) rfl rfl (fun x25 ex25 => ?_)
          refine z_add (by omega) (fun x26 ex26 => ?_)
          refine z_is (n := 17) (zT S2 (by decide) rfl) (zN S2 (by decide) rfl) (by omega) (fun h27 e28 => ?_)
          have S29 := zSh_set S2 e28
          have F30 := zG_setA F e28 (by decide) (by decide)
          have f31 : ez_I h27 71 59 = (ez_I h2 71 59) := (zI_ne e28 (by omega)).trans (rfl)
          have f32 : ez_I h27 71 61 = (ez_I h2 71 61) := (zI_ne e28 (by omega)).trans (rfl)
          have A33 : cM (ez_I h27 115) (ez_I h u) (i.toInt.toNat + 1) := cM_up A_cm ex21 (by omega) (by omega) ex22 (by omega) e28
          refine gw_ld rfl rfl ?_
          refine gw_ld rfl rfl ?_
          refine gw_ld rfl rfl ?_
          refine z_iaV (n := nu) ((hu _ S29).1) ((hu _ S29).2) (by omega) ((zG_a F30 (by omega) (by omega)).trans ex21) ?_
          refine z_b1 (fun c35 => ?_) (fun c35 => ?_)
          · have c35 : x21.toInt ≤ 0 := c35
            refine gw_skip _ ?_
            refine z_C (m := 0) rfl rfl (fun x36 ex36 => ?_)
            refine z_add (by omega) (fun x37 ex37 => ?_)
            refine gw_st rfl rfl rfl ?_
            show ez_gw _ _ _ _ _ _ _ _ [some (.ref 71), some (.ref u), some (.int n), some (.int x37), some (.int i), l5, l6] _ _ _
            refine z_inc rfl (by rw [show (1 : Int32).toInt = 1 from rfl]; omega) (fun x38 ex38 => ?_)
            rw [show (1 : Int32).toInt = 1 from rfl] at ex38
            show ez_gw _ _ _ _ _ _ _ _ [some (.ref 71), some (.ref u), some (.int n), some (.int x37), some (.int x38), l5, l6] _ _ _
            refine z_go ?_
            have t39 := congrArg Int32.toInt (f31)
            have t40 := congrArg Int32.toInt (f32)
            exact ih h27 x37 x38 (l5) (l6) F30 (by omega) ((by rw [show x38.toInt.toNat = i.toInt.toNat + 1 by omega]; exact A33)) (by omega)
          · have c35 : ¬ (x21.toInt ≤ 0) := c35
            exfalso; omega
        · have c24 : ¬ (x21.toInt ≤ 0) := c24
          refine z_C (m := 1) rfl rfl (fun x41 ex41 => ?_)
          refine z_go ?_
          refine gw_skip _ ?_
          refine z_add (by omega) (fun x42 ex42 => ?_)
          refine z_is (n := 17) (zT S2 (by decide) rfl) (zN S2 (by decide) rfl) (by omega) (fun h43 e44 => ?_)
          have S45 := zSh_set S2 e44
          have F46 := zG_setA F e44 (by decide) (by decide)
          have f47 : ez_I h43 71 59 = (ez_I h2 71 59) := (zI_ne e44 (by omega)).trans (rfl)
          have f48 : ez_I h43 71 61 = (ez_I h2 71 61) := (zI_ne e44 (by omega)).trans (rfl)
          have A49 : cM (ez_I h43 115) (ez_I h u) (i.toInt.toNat + 1) := cM_up A_cm ex21 (by omega) (by omega) ex22 (by omega) e44
          refine gw_ld rfl rfl ?_
          refine gw_ld rfl rfl ?_
          refine gw_ld rfl rfl ?_
          refine z_iaV (n := nu) ((hu _ S45).1) ((hu _ S45).2) (by omega) ((zG_a F46 (by omega) (by omega)).trans ex21) ?_
          refine z_b1 (fun c51 => ?_) (fun c51 => ?_)
          · have c51 : x21.toInt ≤ 0 := c51
            exfalso; omega
          · have c51 : ¬ (x21.toInt ≤ 0) := c51
            refine z_C (m := 1) rfl rfl (fun x52 ex52 => ?_)
            refine z_go ?_
            refine gw_skip _ ?_
            refine z_add (by omega) (fun x53 ex53 => ?_)
            refine gw_st rfl rfl rfl ?_
            show ez_gw _ _ _ _ _ _ _ _ [some (.ref 71), some (.ref u), some (.int n), some (.int x53), some (.int i), l5, l6] _ _ _
            refine z_inc rfl (by rw [show (1 : Int32).toInt = 1 from rfl]; omega) (fun x54 ex54 => ?_)
            rw [show (1 : Int32).toInt = 1 from rfl] at ex54
            show ez_gw _ _ _ _ _ _ _ _ [some (.ref 71), some (.ref u), some (.int n), some (.int x53), some (.int x54), l5, l6] _ _ _
            refine z_go ?_
            have t55 := congrArg Int32.toInt (f47)
            have t56 := congrArg Int32.toInt (f48)
            exact ih h43 x53 x54 (l5) (l6) F46 (by omega) ((by rw [show x54.toInt.toNat = i.toInt.toNat + 1 by omega]; exact A49)) (by omega)
set_option maxRecDepth 4000 in
set_option maxHeartbeats 20000000 in
theorem m_sym_L0 {E : Nat → Nat × (Nat → Int32)} {d : Nat} {Q : ez_Q} {h : ez_H} {u : Nat} {n : Int32} (S : zSh h) {nu : Nat} (hu : zA u nu) (h7 : u ≠ 71) (h115 : u ≠ 115) (hn : 1 ≤ n.toInt ∧ n.toInt ≤ nu ∧ nu ≤ 1000) (hA : aR (ez_I h u) n.toInt.toNat 0 15) (M6 : 0 ≤ (ez_I h 71 6).toInt ∧ (ez_I h 71 6).toInt ≤ 6000) (hb : 0 ≤ (ez_I h 71 59).toInt ∧ (ez_I h 71 59).toInt ≤ 8 * (ez_I h 71 6).toInt) (hf : 0 ≤ (ez_I h 71 61).toInt) (K : ∀ h2 (x : Int32), zG (fun k => k = 59 ∨ k = 61) (fun q => q = 115) h h2 → (0 ≤ x.toInt ∧ x.toInt < n.toInt) → (0 ≤ (ez_I h2 71 59).toInt ∧ (ez_I h 71 59).toInt ≤ (ez_I h2 71 59).toInt ∧ (ez_I h2 71 59).toInt ≤ 8 * (ez_I h 71 6).toInt ∧ 0 ≤ (ez_I h2 71 61).toInt ∧ ((ez_I h2 71 61).toInt = 0 → (ez_I h 71 61).toInt = 0)) → (((ez_I h2 71 61).toInt = 0 → (ez_I h 71 59).toInt < (ez_I h2 71 59).toInt) ∧ ((ez_I h2 71 61).toInt ≠ 0 → x.toInt = 0)) → Q (.inl (some (.int x))) h2) : ∀ N : Nat, (∀ (h2 : ez_H) (al : Int32) (i : Int32) (l5 : Option Value) (l6 : Option Value) , zG (fun k => k = 59 ∨ k = 61) (fun q => q = 115) h h2 → (0 ≤ i.toInt ∧ i.toInt ≤ 17 ∧ al.toInt = 0 ∧ (ez_I h2 71 59).toInt = (ez_I h 71 59).toInt ∧ (ez_I h2 71 61).toInt = (ez_I h 71 61).toInt) → aR (ez_I h2 115) i.toInt.toNat 0 0 → (2147483647 - i.toInt) < (N : Int) → pw E (d + 1) 54 5 [some (.ref 71), some (.ref u), some (.int n), some (.int al), some (.int i), l5, l6] [] h2 Q) := by
  intro N
  induction N with
  | zero => exact fun h2 al i l5 l6  F hinv A_z hm => absurd hm (by have w_al := z_rng al; have w_i := z_rng i; have gn := z_rng n; omega)
  | succ N ih =>
    refine fun h2 al i l5 l6  F hinv A_z hm => ?_
    · skip
      have w_al := z_rng al
      have w_i := z_rng i
      have gn := z_rng n
      have S2 := zG_sh F S
      apply ez_Wp_in
      show ez_gw _ _ _ _ _ _ (cz_54) _ _ _ _ _
      refine gw_skip _ ?_
      have r1 := z_rng (ez_I h2 71 59)
      have r2 := z_rng (ez_I h2 71 61)
      refine gw_ld rfl rfl ?_
      refine z_C (m := 17) rfl rfl (fun x3 ex3 => ?_)
      refine z_b2 (fun c4 => ?_) (fun c4 => ?_)
      · have c4 : x3.toInt ≤ i.toInt := c4
        refine gw_skip _ ?_
        refine z_C (m := 0) rfl rfl (fun x5 ex5 => ?_)
        refine gw_st rfl rfl rfl ?_
        show ez_gw _ _ _ _ _ _ _ _ [some (.ref 71), some (.ref u), some (.int n), some (.int al), some (.int x5), l5, l6] _ _ _
        exact ez_Wp_at ((m_sym_L1 (u := u) (n := n) S hu h7 h115 hn hA M6 hb hf K (((2147483647 - x5.toInt)).toNat + 1)) h2 al x5 (l5) (l6) F (by omega) ((by rw [show x5.toInt.toNat = 0 by omega]; exact cM_0 (aR_le A_z (by omega)))) (by omega)) rfl
      · have c4 : ¬ (x3.toInt ≤ i.toInt) := c4
        refine gw_ld rfl rfl ?_
        refine z_gR (q := 115) (zT S2 (by decide) rfl) (zRf S2 (by decide) (by decide) rfl) (by decide) ?_
        refine gw_ld rfl rfl ?_
        refine z_C (m := 0) rfl rfl (fun x6 ex6 => ?_)
        refine z_is (n := 17) (zT S2 (by decide) rfl) (zN S2 (by decide) rfl) (by omega) (fun h7 e8 => ?_)
        have S9 := zSh_set S2 e8
        have F10 := zG_setA F e8 (by decide) (by decide)
        have f11 : ez_I h7 71 59 = (ez_I h2 71 59) := (zI_ne e8 (by omega)).trans (rfl)
        have f12 : ez_I h7 71 61 = (ez_I h2 71 61) := (zI_ne e8 (by omega)).trans (rfl)
        have A13 : aR (ez_I h7 115) (i.toInt.toNat + 1) 0 0 := aR_ex A_z e8 (by omega) (by omega)
        refine z_inc rfl (by rw [show (1 : Int32).toInt = 1 from rfl]; omega) (fun x14 ex14 => ?_)
        rw [show (1 : Int32).toInt = 1 from rfl] at ex14
        show ez_gw _ _ _ _ _ _ _ _ [some (.ref 71), some (.ref u), some (.int n), some (.int al), some (.int x14), l5, l6] _ _ _
        refine z_go ?_
        have t15 := congrArg Int32.toInt (f11)
        have t16 := congrArg Int32.toInt (f12)
        exact ih h7 al x14 (l5) (l6) F10 (by omega) (aR_le A13 (by omega)) (by omega)
set_option maxRecDepth 4000 in
set_option maxHeartbeats 20000000 in
theorem m_sym {E : Nat → Nat × (Nat → Int32)} {d : Nat} {Q : ez_Q} {h : ez_H} {u : Nat} {n : Int32} (S : zSh h) {nu : Nat} (hu : zA u nu) (h7 : u ≠ 71) (h115 : u ≠ 115) (hn : 1 ≤ n.toInt ∧ n.toInt ≤ nu ∧ nu ≤ 1000) (hA : aR (ez_I h u) n.toInt.toNat 0 15) (M6 : 0 ≤ (ez_I h 71 6).toInt ∧ (ez_I h 71 6).toInt ≤ 6000) (hb : 0 ≤ (ez_I h 71 59).toInt ∧ (ez_I h 71 59).toInt ≤ 8 * (ez_I h 71 6).toInt) (hf : 0 ≤ (ez_I h 71 61).toInt) (K : ∀ h2 (x : Int32), zG (fun k => k = 59 ∨ k = 61) (fun q => q = 115) h h2 → (0 ≤ x.toInt ∧ x.toInt < n.toInt) → (0 ≤ (ez_I h2 71 59).toInt ∧ (ez_I h 71 59).toInt ≤ (ez_I h2 71 59).toInt ∧ (ez_I h2 71 59).toInt ≤ 8 * (ez_I h 71 6).toInt ∧ 0 ≤ (ez_I h2 71 61).toInt ∧ ((ez_I h2 71 61).toInt = 0 → (ez_I h 71 61).toInt = 0)) → (((ez_I h2 71 61).toInt = 0 → (ez_I h 71 59).toInt < (ez_I h2 71 59).toInt) ∧ ((ez_I h2 71 61).toInt ≠ 0 → x.toInt = 0)) → Q (.inl (some (.int x))) h2) : pw E (d + 1) 54 0 [some (.ref 71), some (.ref u), some (.int n), none, none, none, none] [] h Q := by
  have gn := z_rng n
  have F := zG_refl (fun k => k = 59 ∨ k = 61) (fun q => q = 115) h
  apply ez_Wp_in
  show ez_gw _ _ _ _ _ _ (cz_54) _ _ _ _ _
  refine gw_skip _ ?_
  have r1 := z_rng (ez_I h 71 59)
  have r2 := z_rng (ez_I h 71 61)
  refine z_C (m := 0) rfl rfl (fun x3 ex3 => ?_)
  refine gw_st rfl rfl rfl ?_
  show ez_gw _ _ _ _ _ _ _ _ [some (.ref 71), some (.ref u), some (.int n), some (.int x3), none, none, none] _ _ _
  refine z_C (m := 0) rfl rfl (fun x4 ex4 => ?_)
  refine gw_st rfl rfl rfl ?_
  show ez_gw _ _ _ _ _ _ _ _ [some (.ref 71), some (.ref u), some (.int n), some (.int x3), some (.int x4), none, none] _ _ _
  exact ez_Wp_at ((m_sym_L0 (u := u) (n := n) S hu h7 h115 hn hA M6 hb hf K (((2147483647 - x4.toInt)).toNat + 1)) h x3 x4 (none) (none) F (by omega) ((by rw [show x4.toInt.toNat = 0 by omega]; exact aR_0 _ _ _)) (by omega)) rfl
