theorem z_th {X : ez_X} {E : Nat → Nat × (Nat → Int32)} {ml : Nat → Nat} {hn : Nat → Nat → Option (Nat × Nat)} {mi d pc a b k : Nat} {v : Int32} {cs : List ez_C} {ls : List (Option Value)} {h : ez_H} {Q : ez_Q} (hM : ez_n h + 1 ≤ ez_MC ∧ ez_u h + 6 ≤ ez_MS) (H : Q (.inr a) (ez_bump h)) : ez_gw X E ml hn mi d ((pc, .athrow, a, b, k, v) :: cs) 0 ls [] h Q := ⟨hM, H⟩
abbrev zMem (h : ez_H) : Prop := ez_n h + 1 ≤ ez_MC ∧ ez_u h + 6 ≤ ez_MS
theorem zM {P : Nat → Prop} {h h2 : ez_H} (F : zF P h h2) (hM : zMem h) : zMem h2 := by
  unfold zMem
  rw [F.1, F.2.1]
  exact hM
/-- bits taken so far -/
def zB (v i : Int32) : Prop := i.toInt ≤ 16 → 0 ≤ v.toInt ∧ v.toInt < 2 ^ i.toInt.toNat
theorem zB_0 {v i : Int32} (hv : v.toInt = 0) (hi : i.toInt = 0) : zB v i := fun _ => by
  rw [hv, hi]; decide
theorem zB_end {v i n : Int32} (B : zB v i) (h0 : 0 ≤ i.toInt) (h : i.toInt ≤ 16) : 0 ≤ v.toInt ∧ v.toInt < 65536 := by
  obtain ⟨a, b⟩ := B h
  refine ⟨a, Int.lt_of_lt_of_le b ?_⟩
  have : (2 : Int) ^ i.toInt.toNat ≤ 2 ^ 16 := by
    exact_mod_cast Nat.pow_le_pow_right (by decide) (by omega : i.toInt.toNat ≤ 16)
  exact this
theorem zB_step {v i j w x b : Int32} (B : zB v i) (h0 : 0 ≤ i.toInt) (hj : j.toInt = i.toInt + 1) (hb : 0 ≤ b.toInt ∧ b.toInt ≤ 1) (hw : w = b <<< (i &&& 31)) (hx : x = v ||| w) : zB x j := fun hle => by
  obtain ⟨a, c⟩ := B (by omega)
  subst hw
  subst hx
  have hv := z_u a
  have hbu := z_u hb.1
  have ei : i = Int32.ofNat i.toInt.toNat := z_inj (by
    rw [show Int32.ofNat i.toInt.toNat = nI i.toInt.toNat from rfl, z_nI (by omega)]; omega)
  have hn : i.toInt.toNat < 16 := by omega
  have e1 : j.toInt.toNat = i.toInt.toNat + 1 := by omega
  rw [e1]
  generalize i.toInt.toNat = n at *
  have hb2 : ev_u (b <<< (i &&& 31)) < 2 ^ (n + 1) := by
    have h01 : b = 0 ∨ b = 1 := by
      rcases (by omega : b.toInt = 0 ∨ b.toInt = 1) with e | e
      · exact .inl (z_inj e)
      · exact .inr (z_inj e)
    rw [ei]
    have : ∀ m : Nat, m < 16 → ev_u ((0 : Int32) <<< (Int32.ofNat m &&& 31)) < 2 ^ (m + 1) ∧ ev_u ((1 : Int32) <<< (Int32.ofNat m &&& 31)) < 2 ^ (m + 1) := by decide
    rcases h01 with rfl | rfl
    · exact (this n hn).1
    · exact (this n hn).2
  have hv2 : ev_u v < 2 ^ (n + 1) := by
    have : (ev_u v : Int) < (2 ^ n : Nat) := by rw [hv]; exact_mod_cast c
    have : ev_u v < 2 ^ n := by omega
    have := Nat.pow_lt_pow_right (a := 2) (by decide) (Nat.lt_succ_self n)
    omega
  have ho : ev_u (v ||| (b <<< (i &&& 31))) < 2 ^ (n + 1) := by
    rw [ef_or_ok]
    exact Nat.or_lt_two_pow hv2 hb2
  have hp : 2 ^ (n + 1) ≤ 2 ^ 16 := Nat.pow_le_pow_right (by decide) (by omega)
  have ht := z_of_u (x := v ||| (b <<< (i &&& 31))) (by omega)
  rw [ht]
  refine ⟨by omega, ?_⟩
  exact_mod_cast ho
/-! PRINTED by wip/p17/con6.py: contracts of the class, fifth part: Unpacker -/
theorem z_dist {n : Nat} (h : n < 30) : 1 ≤ ((tz_ar (2 + 1)).getD n 0).toInt ∧ ((tz_ar (2 + 1)).getD n 0).toInt ≤ 24577 := by
  revert n; decide
theorem z_xd {n : Nat} (h : n < 30) : 0 ≤ ((tz_ar (4 + 1)).getD n 0).toInt ∧ ((tz_ar (4 + 1)).getD n 0).toInt ≤ 13 := by
  revert n; decide
set_option maxRecDepth 4000 in
set_option maxHeartbeats 20000000 in
theorem k_fail {E : Nat → Nat × (Nat → Int32)} {d : Nat} {Q : ez_Q} {h : ez_H} {i : Int32} (X : xI h) (hM : zMem h) (Ke : ∀ h2, zF zX h h2 → xI h2 → Q (.inr 2) (ez_bump h2))  : pw E d 143 0 [some (.ref 69), some (.int i)] [] h Q := by
  have gi := z_rng i
  have F := zF_refl (zX) h
  apply ez_Wp_in
  show ez_gw _ _ _ _ _ _ (cz_143) _ _ _ _ _
  refine gw_skip _ ?_
  refine gw_ld rfl rfl ?_
  refine gw_ld rfl rfl ?_
  refine z_pI (zT X.1 (by decide) rfl) (fun h1 e2 => ?_)
  have X3 := xI_set X e2 (xW_of (by decide))
  have F4 := zF_set F e2 (by unfold zX; omega)
  have f5 : ez_I h1 69 2 = i := zI_eq e2
  refine gw_ld rfl rfl ?_
  refine gw_ld rfl rfl ?_
  have r6 := z_rng ((ez_I h1 69 6))
  refine z_gI2 (by decide) (zT X3.1 (by decide) rfl) (rfl) ?_
  refine z_C (m := 7) rfl rfl (fun x7 ex7 => ?_)
  first | refine z_add (by omega) (fun x8 ex8 => ?_) | refine z_addW (fun x8 ex8 => ?_)
  have rx8 := z_rng x8
  refine z_C (m := 3) rfl rfl (fun x9 ex9 => ?_)
  refine z_2 rfl (fun x10 ex10 => ?_)
  have rx10 := z_rng x10
  refine z_pI (zT X3.1 (by decide) rfl) (fun h11 e12 => ?_)
  have X13 := xI_set X3 e12 (xW_of (by decide))
  have F14 := zF_set F4 e12 (by unfold zX; omega)
  have f15 : ez_I h11 69 2 = i := (zI_ne e12 (by omega)).trans f5
  have f16 : ez_I h11 69 6 = (ez_I h1 69 6) := (zI_ne e12 (by omega)).trans rfl
  have f17 : ez_I h11 69 3 = x10 := zI_eq e12
  refine z_th (zM F14 hM) ?_
  exact Ke _ F14 X13
set_option maxRecDepth 4000 in
set_option maxHeartbeats 20000000 in
theorem k_takeBits_L {E : Nat → Nat × (Nat → Int32)} {d : Nat} {Q : ez_Q} {h : ez_H} {n : Int32} (X : xI h) (hM : zMem h) (Ke : ∀ h2, zF zX h h2 → xI h2 → Q (.inr 2) (ez_bump h2)) (K : ∀ h2 (x : Int32), zF (zX) h h2 → xI h2 → (n.toInt ≤ 16 → 0 ≤ x.toInt ∧ x.toInt < 65536) → Q (.inl (some (.int x))) h2) : ∀ N : Nat, (∀ (h2 : ez_H) (v : Int32) (i : Int32) (l5 : Option Value), zF (zX) h h2 → xI h2 → ((0 ≤ i.toInt ∧ (i.toInt ≤ n.toInt ∨ i.toInt = 0)) ∧ zB v i) → (2147483647 - i.toInt) < (N : Int) → pw E (d + 1) 142 5 [some (.ref 69), some (.ref 2), some (.int n), some (.int v), some (.int i), l5] [] h2 Q) := by
  intro N
  induction N with
  | zero => exact fun h2 v i l5 F X2 hinv hm => absurd hm (by have w0 := z_rng i; omega)
  | succ N ih =>
    refine fun h2 v i l5 F X2 hinv hm => ?_
    · skip
      have w0 := z_rng i
      have gn := z_rng n
      apply ez_Wp_in
      show ez_gw _ _ _ _ _ _ (cz_142) _ _ _ _ _
      refine gw_skip _ ?_
      refine gw_ld rfl rfl ?_
      refine gw_ld rfl rfl ?_
      refine z_b2 (fun c1 => ?_) (fun c1 => ?_)
      · have c1 : n.toInt ≤ i.toInt := c1
        refine gw_skip _ ?_
        refine gw_ld rfl rfl ?_
        refine z_ri ?_
        exact K _ v F X2 (fun _ => zB_end (n := n) hinv.2 (by omega) (by omega))
      · have c1 : ¬ (n.toInt ≤ i.toInt) := c1
        refine gw_ld rfl rfl ?_
        have r2 := z_rng ((ez_I h2 69 6))
        refine z_gI2 (by decide) (zT X2.1 (by decide) rfl) (rfl) ?_
        refine z_C (m := 3) rfl rfl (fun x3 ex3 => ?_)
        refine z_2 rfl (fun x4 ex4 => ?_)
        have rx4 := z_rng x4
        refine gw_st rfl rfl rfl ?_
        show ez_gw _ _ _ _ _ _ _ _ [some (.ref 69), some (.ref 2), some (.int n), some (.int v), some (.int i), some (.int x4)] _ _ _
        refine gw_ld rfl rfl ?_
        refine gw_ld rfl rfl ?_
        refine z_cl rfl rfl rfl rfl rfl rfl rfl rfl rfl rfl rfl (zT X2.1 (by decide) rfl) ?_
        refine k_has X2 (p := 2) (by omega) (fun x5 k6 k7 => ?_)
        have rx5 := z_rng x5
        refine z_b1 (fun c8 => ?_) (fun c8 => ?_)
        · have c8 : x5.toInt ≠ 0 := c8
          refine gw_skip _ ?_
          refine gw_ld rfl rfl ?_
          refine gw_ld rfl rfl ?_
          refine z_gR (q := 3) (zT X2.1 (by decide) rfl) (zRf X2.1 (by decide) (by decide) rfl) (by decide) ?_
          refine gw_ld rfl rfl ?_
          refine z_ia (n := 6100) (zT X2.1 (by decide) rfl) (zN X2.1 (by decide) rfl) (by omega) ?_
          generalize ex9 : ez_I h2 3 x4.toInt.toNat = x9
          have rx9 := z_rng x9
          have qx9 := congrArg Int32.toInt ex9
          refine gw_ld rfl rfl ?_
          refine z_gI2 (by decide) (zT X2.1 (by decide) rfl) (rfl) ?_
          refine z_C (m := 7) rfl rfl (fun x10 ex10 => ?_)
          refine z_and (fun x11 ex11 ux11 wx11 => ?_)
          have rx11 := z_rng x11
          replace ux11 := ux11 (by omega)
          clear wx11
          refine z_2 rfl (fun x12 ex12 => ?_)
          have rx12 := z_rng x12
          refine z_C (m := 1) rfl rfl (fun x13 ex13 => ?_)
          refine z_and (fun x14 ex14 ux14 wx14 => ?_)
          have rx14 := z_rng x14
          replace ux14 := ux14 (by omega)
          clear wx14
          refine gw_ld rfl rfl ?_
          refine z_2 rfl (fun x15 ex15 => ?_)
          have rx15 := z_rng x15
          refine z_2 rfl (fun x16 ex16 => ?_)
          have rx16 := z_rng x16
          refine gw_st rfl rfl rfl ?_
          show ez_gw _ _ _ _ _ _ _ _ [some (.ref 69), some (.ref 2), some (.int n), some (.int x16), some (.int i), some (.int x4)] _ _ _
          refine gw_ld rfl rfl ?_
          refine gw_op rfl ?_
          refine z_gI2 (by decide) (zT X2.1 (by decide) rfl) (rfl) ?_
          refine z_C (m := 1) rfl rfl (fun x17 ex17 => ?_)
          first | refine z_add (by omega) (fun x18 ex18 => ?_) | refine z_addW (fun x18 ex18 => ?_)
          have rx18 := z_rng x18
          refine z_pI (zT X2.1 (by decide) rfl) (fun h19 e20 => ?_)
          have X21 := xI_set X2 e20 (xW_of (by decide))
          have F22 := zF_set F e20 (by unfold zX; omega)
          have f23 : ez_I h19 69 6 = x18 := zI_eq e20
          first | (refine z_inc rfl (by rw [show (1 : Int32).toInt = 1 from rfl]; omega) (fun x24 ex24 => ?_); rw [show (1 : Int32).toInt = 1 from rfl] at ex24) | refine z_incW rfl (fun x24 ex24 => ?_)
          have rx24 := z_rng x24
          show ez_gw _ _ _ _ _ _ _ _ [some (.ref 69), some (.ref 2), some (.int n), some (.int x16), some (.int x24), some (.int x4)] _ _ _
          refine z_go ?_
          have t25 := congrArg Int32.toInt f23
          exact ih _ x16 x24 (some (.int x4)) F22 X21 (⟨by omega, zB_step hinv.2 (by omega) (by assumption) (by omega) ex15 ex16⟩) (by omega)
        · have c8 : ¬ (x5.toInt ≠ 0) := c8
          refine gw_ld rfl rfl ?_
          refine z_C (m := 1) rfl rfl (fun x26 ex26 => ?_)
          refine z_cl rfl rfl rfl rfl rfl rfl rfl rfl rfl rfl rfl (zT X2.1 (by decide) rfl) ?_
          exact k_fail X2 (zM F hM) (fun hh FF XX => Ke _ (zF_tr F FF) XX)
set_option maxRecDepth 4000 in
set_option maxHeartbeats 20000000 in
theorem k_takeBits {E : Nat → Nat × (Nat → Int32)} {d : Nat} {Q : ez_Q} {h : ez_H} {n : Int32} (X : xI h) (hM : zMem h) (Ke : ∀ h2, zF zX h h2 → xI h2 → Q (.inr 2) (ez_bump h2)) (K : ∀ h2 (x : Int32), zF (zX) h h2 → xI h2 → (n.toInt ≤ 16 → 0 ≤ x.toInt ∧ x.toInt < 65536) → Q (.inl (some (.int x))) h2) : pw E (d + 1) 142 0 [some (.ref 69), some (.ref 2), some (.int n), none, none, none] [] h Q := by
  have gn := z_rng n
  have F := zF_refl (zX) h
  apply ez_Wp_in
  show ez_gw _ _ _ _ _ _ (cz_142) _ _ _ _ _
  refine gw_skip _ ?_
  refine z_C (m := 0) rfl rfl (fun x1 ex1 => ?_)
  refine gw_st rfl rfl rfl ?_
  show ez_gw _ _ _ _ _ _ _ _ [some (.ref 69), some (.ref 2), some (.int n), some (.int x1), none, none] _ _ _
  refine z_C (m := 0) rfl rfl (fun x2 ex2 => ?_)
  refine gw_st rfl rfl rfl ?_
  show ez_gw _ _ _ _ _ _ _ _ [some (.ref 69), some (.ref 2), some (.int n), some (.int x1), some (.int x2), none] _ _ _
  exact ez_Wp_out ((k_takeBits_L X hM Ke K (((2147483647 - x2.toInt)).toNat + 1)) _ x1 x2 (none) F X (⟨by omega, zB_0 (by assumption) (by assumption)⟩) (by omega))
set_option maxRecDepth 4000 in
set_option maxHeartbeats 20000000 in
theorem k_putByte {E : Nat → Nat × (Nat → Int32)} {d : Nat} {Q : ez_Q} {h : ez_H} {v : Int32} (X : xI h) (hM : zMem h) (Ke : ∀ h2, zF zX h h2 → xI h2 → Q (.inr 2) (ez_bump h2)) (K : ∀ h2, zF zX h h2 → xI h2 → ((ez_I h 50 1).toInt ≤ (ez_I h2 50 1).toInt) → Q (.inl none) h2) : pw E (d + 1) 140 0 [some (.ref 69), some (.int v)] [] h Q := by
  have gv := z_rng v
  have F := zF_refl (zX) h
  apply ez_Wp_in
  show ez_gw _ _ _ _ _ _ (cz_140) _ _ _ _ _
  refine gw_skip _ ?_
  refine gw_ld rfl rfl ?_
  refine z_gR (q := 50) (zT X.1 (by decide) rfl) (zRf X.1 (by decide) (by decide) rfl) (by decide) ?_
  have r1 := X.2.2.2.1
  refine z_gI2 (by decide) (zT X.1 (by decide) rfl) (rfl) ?_
  refine z_C (m := 6000) rfl rfl (fun x2 ex2 => ?_)
  refine z_b2 (fun c3 => ?_) (fun c3 => ?_)
  · have c3 : ((ez_I h 50 1)).toInt < x2.toInt := c3
    refine gw_skip _ ?_
    refine gw_ld rfl rfl ?_
    refine z_gR (q := 50) (zT X.1 (by decide) rfl) (zRf X.1 (by decide) (by decide) rfl) (by decide) ?_
    refine gw_ld rfl rfl ?_
    refine z_cl rfl rfl rfl rfl rfl rfl rfl rfl rfl rfl rfl (zT X.1 (by decide) rfl) ?_
    refine k_add X (p := 50) (by omega) (fun h4 F5 X6 k7 => ?_)
    have F8 := zF_tr F (zF_mono F5 (fun q hq => by first | exact hq | (unfold zX at *; omega) | omega))
    refine z_rv ?_
    exact K _ F8 X6 (by omega)
  · have c3 : ¬ (((ez_I h 50 1)).toInt < x2.toInt) := c3
    refine gw_ld rfl rfl ?_
    refine z_C (m := 9) rfl rfl (fun x9 ex9 => ?_)
    refine z_cl rfl rfl rfl rfl rfl rfl rfl rfl rfl rfl rfl (zT X.1 (by decide) rfl) ?_
    exact k_fail X (zM F hM) (fun hh FF XX => Ke _ (zF_tr F FF) XX)
set_option maxRecDepth 4000 in
set_option maxHeartbeats 20000000 in
theorem k_takeSym_L {E : Nat → Nat × (Nat → Int32)} {d : Nat} {Q : ez_Q} {h : ez_H} {p : Nat} (X : xI h) (hp : p = 15 ∨ p = 22 ∨ p = 29 ∨ p = 36 ∨ p = 43) (hM : zMem h) (Ke : ∀ h2, zF zX h h2 → xI h2 → Q (.inr 2) (ez_bump h2)) (K : ∀ h2 (x : Int32), zF (zX) h h2 → xI h2 → Q (.inl (some (.int x))) h2) : ∀ N : Nat, (∀ (h2 : ez_H) (a3 : Int32) (a4 : Int32) (a5 : Int32) (i : Int32) (l7 : Option Value) (l8 : Option Value), zF (zX) h h2 → xI h2 → (1 ≤ i.toInt ∧ i.toInt ≤ 16) → (2147483647 - i.toInt) < (N : Int) → pw E (d + 2) 141 11 [some (.ref 69), some (.ref 2), some (.ref p), some (.int a3), some (.int a4), some (.int a5), some (.int i), l7, l8] [] h2 Q) := by
  intro N
  induction N with
  | zero => exact fun h2 a3 a4 a5 i l7 l8 F X2 hinv hm => absurd hm (by have w0 := z_rng i; omega)
  | succ N ih =>
    refine fun h2 a3 a4 a5 i l7 l8 F X2 hinv hm => ?_
    · skip
      have w0 := z_rng i
      apply ez_Wp_in
      show ez_gw _ _ _ _ _ _ (cz_141) _ _ _ _ _
      refine gw_skip _ ?_
      refine gw_ld rfl rfl ?_
      refine z_C (m := 15) rfl rfl (fun x1 ex1 => ?_)
      refine z_b2 (fun c2 => ?_) (fun c2 => ?_)
      · have c2 : x1.toInt < i.toInt := c2
        refine gw_skip _ ?_
        refine gw_ld rfl rfl ?_
        refine z_C (m := 7) rfl rfl (fun x3 ex3 => ?_)
        refine z_cl rfl rfl rfl rfl rfl rfl rfl rfl rfl rfl rfl (zT X2.1 (by decide) rfl) ?_
        exact k_fail X2 (zM F hM) (fun hh FF XX => Ke _ (zF_tr F FF) XX)
      · have c2 : ¬ (x1.toInt < i.toInt) := c2
        refine gw_ld rfl rfl ?_
        refine gw_ld rfl rfl ?_
        have r4 := z_rng ((ez_I h2 p 4))
        refine z_gI2 (by decide) ((zCode X2.1 hp).1) (rfl) ?_
        refine z_b2 (fun c5 => ?_) (fun c5 => ?_)
        · have c5 : ((ez_I h2 p 4)).toInt ≤ a5.toInt := c5
          refine gw_skip _ ?_
          refine gw_ld rfl rfl ?_
          refine z_C (m := 7) rfl rfl (fun x6 ex6 => ?_)
          refine z_cl rfl rfl rfl rfl rfl rfl rfl rfl rfl rfl rfl (zT X2.1 (by decide) rfl) ?_
          exact k_fail X2 (zM F hM) (fun hh FF XX => Ke _ (zF_tr F FF) XX)
        · have c5 : ¬ (((ez_I h2 p 4)).toInt ≤ a5.toInt) := c5
          refine gw_ld rfl rfl ?_
          refine z_C (m := 1) rfl rfl (fun x7 ex7 => ?_)
          refine z_2 rfl (fun x8 ex8 => ?_)
          have rx8 := z_rng x8
          refine gw_ld rfl rfl ?_
          refine gw_ld rfl rfl ?_
          refine z_C (m := 1) rfl rfl (fun x9 ex9 => ?_)
          refine z_cl rfl rfl rfl rfl rfl rfl rfl rfl rfl rfl rfl (zT X2.1 (by decide) rfl) ?_
          refine k_takeBits X2 (zM F hM)  (fun hh FF XX => Ke _ (zF_tr F FF) XX) (fun h10 x14 F11 X12 k13 => ?_)
          have rx14 := z_rng x14
          have F15 := zF_tr F (zF_mono F11 (fun q hq => by first | exact hq | (unfold zX at *; omega) | omega))
          replace k13 := k13 (by omega)
          refine z_2 rfl (fun x16 ex16 => ?_)
          have rx16 := z_rng x16
          refine gw_st rfl rfl rfl ?_
          show ez_gw _ _ _ _ _ _ _ _ [some (.ref 69), some (.ref 2), some (.ref p), some (.int x16), some (.int a4), some (.int a5), some (.int i), l7, l8] _ _ _
          refine gw_ld rfl rfl ?_
          refine z_gR (q := (p + 3)) ((zCode X12.1 hp).1) ((zCode X12.1 hp).2.1.2.2.1) (Nat.succ_ne_zero _) ?_
          refine gw_ld rfl rfl ?_
          refine z_ia (n := 16) ((zCode X12.1 hp).2.2.1.2.2.1) ((zCode X12.1 hp).2.2.2.2.2.1) (by omega) ?_
          generalize ex17 : ez_I h10 (p + 3) i.toInt.toNat = x17
          have rx17 := z_rng x17
          have qx17 := congrArg Int32.toInt ex17
          refine gw_st rfl rfl rfl ?_
          show ez_gw _ _ _ _ _ _ _ _ [some (.ref 69), some (.ref 2), some (.ref p), some (.int x16), some (.int a4), some (.int a5), some (.int i), some (.int x17), l8] _ _ _
          refine gw_ld rfl rfl ?_
          refine gw_ld rfl rfl ?_
          refine z_addW (fun x18 ex18 => ?_)
          have rx18 := z_rng x18
          have qx18 := congrArg Int32.toInt ex18
          refine gw_ld rfl rfl ?_
          refine z_subW (fun x19 ex19 => ?_)
          have rx19 := z_rng x19
          have qx19 := congrArg Int32.toInt ex19
          refine gw_st rfl rfl rfl ?_
          show ez_gw _ _ _ _ _ _ _ _ [some (.ref 69), some (.ref 2), some (.ref p), some (.int x16), some (.int a4), some (.int a5), some (.int i), some (.int x17), some (.int x19)] _ _ _
          refine gw_ld rfl rfl ?_
          refine gw_ld rfl rfl ?_
          refine z_subW (fun x20 ex20 => ?_)
          have rx20 := z_rng x20
          have qx20 := congrArg Int32.toInt ex20
          refine gw_ld rfl rfl ?_
          refine z_b2 (fun c21 => ?_) (fun c21 => ?_)
          · have c21 : x17.toInt ≤ x20.toInt := c21
            refine gw_skip _ ?_
            refine gw_ld rfl rfl ?_
            refine gw_ld rfl rfl ?_
            refine z_addW (fun x22 ex22 => ?_)
            have rx22 := z_rng x22
            have qx22 := congrArg Int32.toInt ex22
            refine gw_st rfl rfl rfl ?_
            show ez_gw _ _ _ _ _ _ _ _ [some (.ref 69), some (.ref 2), some (.ref p), some (.int x16), some (.int a4), some (.int x22), some (.int i), some (.int x17), some (.int x19)] _ _ _
            refine gw_ld rfl rfl ?_
            refine gw_ld rfl rfl ?_
            refine z_addW (fun x23 ex23 => ?_)
            have rx23 := z_rng x23
            have qx23 := congrArg Int32.toInt ex23
            refine z_C (m := 1) rfl rfl (fun x24 ex24 => ?_)
            refine z_2 rfl (fun x25 ex25 => ?_)
            have rx25 := z_rng x25
            refine gw_st rfl rfl rfl ?_
            show ez_gw _ _ _ _ _ _ _ _ [some (.ref 69), some (.ref 2), some (.ref p), some (.int x16), some (.int x25), some (.int x22), some (.int i), some (.int x17), some (.int x19)] _ _ _
            first | (refine z_inc rfl (by rw [show (1 : Int32).toInt = 1 from rfl]; omega) (fun x26 ex26 => ?_); rw [show (1 : Int32).toInt = 1 from rfl] at ex26) | refine z_incW rfl (fun x26 ex26 => ?_)
            have rx26 := z_rng x26
            show ez_gw _ _ _ _ _ _ _ _ [some (.ref 69), some (.ref 2), some (.ref p), some (.int x16), some (.int x25), some (.int x22), some (.int x26), some (.int x17), some (.int x19)] _ _ _
            refine z_go ?_
            exact ih _ x16 x25 x22 x26 (some (.int x17)) (some (.int x19)) F15 X12 (by first | trivial | omega) (by omega)
          · have c21 : ¬ (x17.toInt ≤ x20.toInt) := c21
            refine gw_ld rfl rfl ?_
            refine z_b1 (fun c27 => ?_) (fun c27 => ?_)
            · have c27 : x19.toInt < 0 := c27
              refine gw_skip _ ?_
              refine gw_ld rfl rfl ?_
              refine gw_ld rfl rfl ?_
              refine z_addW (fun x28 ex28 => ?_)
              have rx28 := z_rng x28
              have qx28 := congrArg Int32.toInt ex28
              refine gw_st rfl rfl rfl ?_
              show ez_gw _ _ _ _ _ _ _ _ [some (.ref 69), some (.ref 2), some (.ref p), some (.int x16), some (.int a4), some (.int x28), some (.int i), some (.int x17), some (.int x19)] _ _ _
              refine gw_ld rfl rfl ?_
              refine gw_ld rfl rfl ?_
              refine z_addW (fun x29 ex29 => ?_)
              have rx29 := z_rng x29
              have qx29 := congrArg Int32.toInt ex29
              refine z_C (m := 1) rfl rfl (fun x30 ex30 => ?_)
              refine z_2 rfl (fun x31 ex31 => ?_)
              have rx31 := z_rng x31
              refine gw_st rfl rfl rfl ?_
              show ez_gw _ _ _ _ _ _ _ _ [some (.ref 69), some (.ref 2), some (.ref p), some (.int x16), some (.int x31), some (.int x28), some (.int i), some (.int x17), some (.int x19)] _ _ _
              first | (refine z_inc rfl (by rw [show (1 : Int32).toInt = 1 from rfl]; omega) (fun x32 ex32 => ?_); rw [show (1 : Int32).toInt = 1 from rfl] at ex32) | refine z_incW rfl (fun x32 ex32 => ?_)
              have rx32 := z_rng x32
              show ez_gw _ _ _ _ _ _ _ _ [some (.ref 69), some (.ref 2), some (.ref p), some (.int x16), some (.int x31), some (.int x28), some (.int x32), some (.int x17), some (.int x19)] _ _ _
              refine z_go ?_
              exact ih _ x16 x31 x28 x32 (some (.int x17)) (some (.int x19)) F15 X12 (by first | trivial | omega) (by omega)
            · have c27 : ¬ (x19.toInt < 0) := c27
              refine gw_ld rfl rfl ?_
              refine z_C (m := 288) rfl rfl (fun x33 ex33 => ?_)
              refine z_b2 (fun c34 => ?_) (fun c34 => ?_)
              · have c34 : x33.toInt ≤ x19.toInt := c34
                refine gw_skip _ ?_
                refine gw_ld rfl rfl ?_
                refine gw_ld rfl rfl ?_
                refine z_addW (fun x35 ex35 => ?_)
                have rx35 := z_rng x35
                have qx35 := congrArg Int32.toInt ex35
                refine gw_st rfl rfl rfl ?_
                show ez_gw _ _ _ _ _ _ _ _ [some (.ref 69), some (.ref 2), some (.ref p), some (.int x16), some (.int a4), some (.int x35), some (.int i), some (.int x17), some (.int x19)] _ _ _
                refine gw_ld rfl rfl ?_
                refine gw_ld rfl rfl ?_
                refine z_addW (fun x36 ex36 => ?_)
                have rx36 := z_rng x36
                have qx36 := congrArg Int32.toInt ex36
                refine z_C (m := 1) rfl rfl (fun x37 ex37 => ?_)
                refine z_2 rfl (fun x38 ex38 => ?_)
                have rx38 := z_rng x38
                refine gw_st rfl rfl rfl ?_
                show ez_gw _ _ _ _ _ _ _ _ [some (.ref 69), some (.ref 2), some (.ref p), some (.int x16), some (.int x38), some (.int x35), some (.int i), some (.int x17), some (.int x19)] _ _ _
                first | (refine z_inc rfl (by rw [show (1 : Int32).toInt = 1 from rfl]; omega) (fun x39 ex39 => ?_); rw [show (1 : Int32).toInt = 1 from rfl] at ex39) | refine z_incW rfl (fun x39 ex39 => ?_)
                have rx39 := z_rng x39
                show ez_gw _ _ _ _ _ _ _ _ [some (.ref 69), some (.ref 2), some (.ref p), some (.int x16), some (.int x38), some (.int x35), some (.int x39), some (.int x17), some (.int x19)] _ _ _
                refine z_go ?_
                exact ih _ x16 x38 x35 x39 (some (.int x17)) (some (.int x19)) F15 X12 (by first | trivial | omega) (by omega)
              · have c34 : ¬ (x33.toInt ≤ x19.toInt) := c34
                refine gw_ld rfl rfl ?_
                refine z_gR (q := (p + 4)) ((zCode X12.1 hp).1) ((zCode X12.1 hp).2.1.2.2.2.1) (Nat.succ_ne_zero _) ?_
                refine gw_ld rfl rfl ?_
                refine z_ia (n := 288) ((zCode X12.1 hp).2.2.1.2.2.2.1) ((zCode X12.1 hp).2.2.2.2.2.2.1) (by omega) ?_
                generalize ex40 : ez_I h10 (p + 4) x19.toInt.toNat = x40
                have rx40 := z_rng x40
                have qx40 := congrArg Int32.toInt ex40
                refine z_ri ?_
                exact K _ x40 F15 X12
set_option maxRecDepth 4000 in
set_option maxHeartbeats 20000000 in
theorem k_takeSym {E : Nat → Nat × (Nat → Int32)} {d : Nat} {Q : ez_Q} {h : ez_H} {p : Nat} (X : xI h) (hp : p = 15 ∨ p = 22 ∨ p = 29 ∨ p = 36 ∨ p = 43) (hM : zMem h) (Ke : ∀ h2, zF zX h h2 → xI h2 → Q (.inr 2) (ez_bump h2)) (K : ∀ h2 (x : Int32), zF (zX) h h2 → xI h2 → Q (.inl (some (.int x))) h2) : pw E (d + 2) 141 0 [some (.ref 69), some (.ref 2), some (.ref p), none, none, none, none, none, none] [] h Q := by
  have F := zF_refl (zX) h
  apply ez_Wp_in
  show ez_gw _ _ _ _ _ _ (cz_141) _ _ _ _ _
  refine gw_skip _ ?_
  refine z_C (m := 0) rfl rfl (fun x1 ex1 => ?_)
  refine gw_st rfl rfl rfl ?_
  show ez_gw _ _ _ _ _ _ _ _ [some (.ref 69), some (.ref 2), some (.ref p), some (.int x1), none, none, none, none, none] _ _ _
  refine z_C (m := 0) rfl rfl (fun x2 ex2 => ?_)
  refine gw_st rfl rfl rfl ?_
  show ez_gw _ _ _ _ _ _ _ _ [some (.ref 69), some (.ref 2), some (.ref p), some (.int x1), some (.int x2), none, none, none, none] _ _ _
  refine z_C (m := 0) rfl rfl (fun x3 ex3 => ?_)
  refine gw_st rfl rfl rfl ?_
  show ez_gw _ _ _ _ _ _ _ _ [some (.ref 69), some (.ref 2), some (.ref p), some (.int x1), some (.int x2), some (.int x3), none, none, none] _ _ _
  refine z_C (m := 1) rfl rfl (fun x4 ex4 => ?_)
  refine gw_st rfl rfl rfl ?_
  show ez_gw _ _ _ _ _ _ _ _ [some (.ref 69), some (.ref 2), some (.ref p), some (.int x1), some (.int x2), some (.int x3), some (.int x4), none, none] _ _ _
  exact ez_Wp_out ((k_takeSym_L X hp hM Ke K (((2147483647 - x4.toInt)).toNat + 1)) _ x1 x2 x3 x4 (none) (none) F X (by first | trivial | omega) (by omega))
set_option maxRecDepth 4000 in
set_option maxHeartbeats 20000000 in
theorem k_ubegin {E : Nat → Nat × (Nat → Int32)} {d : Nat} {Q : ez_Q} {h : ez_H}  (X : xI h)  (K : ∀ h2, zF (zX) h h2 → xI h2 → Q (.inl none) h2) : pw E d 132 0 [some (.ref 69)] [] h Q := by
  have F := zF_refl (zX) h
  apply ez_Wp_in
  show ez_gw _ _ _ _ _ _ (cz_132) _ _ _ _ _
  refine gw_skip _ ?_
  refine gw_ld rfl rfl ?_
  refine z_gR (q := 50) (zT X.1 (by decide) rfl) (zRf X.1 (by decide) (by decide) rfl) (by decide) ?_
  refine z_C (m := 0) rfl rfl (fun x1 ex1 => ?_)
  refine z_pI (zT X.1 (by decide) rfl) (fun h2 e3 => ?_)
  have X4 := xI_set X e3 (⟨fun c => by omega, fun c => by omega, fun c => by omega, fun c => by omega, fun c => by omega, fun c => by omega⟩)
  have F5 := zF_set F e3 (by unfold zX; omega)
  have f6 : ez_I h2 50 1 = x1 := zI_eq e3
  refine gw_ld rfl rfl ?_
  refine z_C (m := 0) rfl rfl (fun x7 ex7 => ?_)
  refine z_pZ (zT X4.1 (by decide) rfl) (by omega) (fun h8 e9 => ?_)
  have X10 := xI_set X4 e9 (xW_of (by decide))
  have F11 := zF_set F5 e9 (by unfold zX; omega)
  have f12 : ez_I h8 50 1 = x1 := (zI_ne e9 (by omega)).trans f6
  have f13 : ez_I h8 69 1 = x7 := zI_eq e9
  refine gw_ld rfl rfl ?_
  refine z_C (m := 0) rfl rfl (fun x14 ex14 => ?_)
  refine z_pI (zT X10.1 (by decide) rfl) (fun h15 e16 => ?_)
  have X17 := xI_set X10 e16 (xW_of (by decide))
  have F18 := zF_set F11 e16 (by unfold zX; omega)
  have f19 : ez_I h15 50 1 = x1 := (zI_ne e16 (by omega)).trans f12
  have f20 : ez_I h15 69 1 = x7 := (zI_ne e16 (by omega)).trans f13
  have f21 : ez_I h15 69 2 = x14 := zI_eq e16
  refine gw_ld rfl rfl ?_
  refine z_C (m := -1) rfl rfl (fun x22 ex22 => ?_)
  refine z_pI (zT X17.1 (by decide) rfl) (fun h23 e24 => ?_)
  have X25 := xI_set X17 e24 (xW_of (by decide))
  have F26 := zF_set F18 e24 (by unfold zX; omega)
  have f27 : ez_I h23 50 1 = x1 := (zI_ne e24 (by omega)).trans f19
  have f28 : ez_I h23 69 1 = x7 := (zI_ne e24 (by omega)).trans f20
  have f29 : ez_I h23 69 2 = x14 := (zI_ne e24 (by omega)).trans f21
  have f30 : ez_I h23 69 3 = x22 := zI_eq e24
  refine gw_ld rfl rfl ?_
  refine z_C (m := 0) rfl rfl (fun x31 ex31 => ?_)
  refine z_pI (zT X25.1 (by decide) rfl) (fun h32 e33 => ?_)
  have X34 := xI_set X25 e33 (xW_of (by decide))
  have F35 := zF_set F26 e33 (by unfold zX; omega)
  have f36 : ez_I h32 50 1 = x1 := (zI_ne e33 (by omega)).trans f27
  have f37 : ez_I h32 69 1 = x7 := (zI_ne e33 (by omega)).trans f28
  have f38 : ez_I h32 69 2 = x14 := (zI_ne e33 (by omega)).trans f29
  have f39 : ez_I h32 69 3 = x22 := (zI_ne e33 (by omega)).trans f30
  have f40 : ez_I h32 69 6 = x31 := zI_eq e33
  refine z_rv ?_
  have t41 := congrArg Int32.toInt f36
  have t42 := congrArg Int32.toInt f37
  have t43 := congrArg Int32.toInt f38
  have t44 := congrArg Int32.toInt f39
  have t45 := congrArg Int32.toInt f40
  exact K _ F35 X34
set_option maxRecDepth 4000 in
set_option maxHeartbeats 20000000 in
theorem k_takeLen_L {E : Nat → Nat × (Nat → Int32)} {d : Nat} {Q : ez_Q} {h : ez_H} {p : Nat} {a : Int32} {n : Int32} (X : xI h) (hp : p = 15 ∨ p = 22 ∨ p = 29 ∨ p = 36 ∨ p = 43) (ha : 0 ≤ a.toInt ∧ a.toInt ≤ 316) (K : ∀ h2, zF (zX) h h2 → xI h2 → Q (.inl none) h2) : ∀ N : Nat, (∀ (h2 : ez_H) (i : Int32), zF (zX) h h2 → xI h2 → (0 ≤ i.toInt) → (2147483647 - i.toInt) < (N : Int) → pw E (d + 1) 81 11 [some (.ref p), some (.ref 70), some (.int a), some (.int n), some (.int i)] [] h2 Q) := by
  intro N
  induction N with
  | zero => exact fun h2 i F X2 hinv hm => absurd hm (by have w0 := z_rng i; omega)
  | succ N ih =>
    refine fun h2 i F X2 hinv hm => ?_
    · skip
      have w0 := z_rng i
      have ga := z_rng a
      have gn := z_rng n
      apply ez_Wp_in
      show ez_gw _ _ _ _ _ _ (cz_81) _ _ _ _ _
      refine gw_skip _ ?_
      refine gw_ld rfl rfl ?_
      refine gw_ld rfl rfl ?_
      refine z_b2 (fun c1 => ?_) (fun c1 => ?_)
      · have c1 : n.toInt ≤ i.toInt := c1
        refine gw_skip _ ?_
        refine z_rv ?_
        exact K _ F X2
      · have c1 : ¬ (n.toInt ≤ i.toInt) := c1
        refine gw_ld rfl rfl ?_
        refine gw_ld rfl rfl ?_
        refine z_gR (q := (p + 1)) ((zCode X2.1 hp).1) ((zCode X2.1 hp).2.1.1) (Nat.succ_ne_zero _) ?_
        refine z_al (n := 288) (.inl ((zCode X2.1 hp).2.2.1.1)) ((zCode X2.1 hp).2.2.2.1) (by omega) (fun x2 ex2 => ?_)
        refine z_b2 (fun c3 => ?_) (fun c3 => ?_)
        · have c3 : x2.toInt ≤ i.toInt := c3
          refine gw_skip _ ?_
          refine z_rv ?_
          exact K _ F X2
        · have c3 : ¬ (x2.toInt ≤ i.toInt) := c3
          refine gw_ld rfl rfl ?_
          refine gw_ld rfl rfl ?_
          first | refine z_add (by omega) (fun x4 ex4 => ?_) | refine z_addW (fun x4 ex4 => ?_)
          have rx4 := z_rng x4
          refine z_b1 (fun c5 => ?_) (fun c5 => ?_)
          · have c5 : x4.toInt < 0 := c5
            refine gw_skip _ ?_
            first | (refine z_inc rfl (by rw [show (1 : Int32).toInt = 1 from rfl]; omega) (fun x6 ex6 => ?_); rw [show (1 : Int32).toInt = 1 from rfl] at ex6) | refine z_incW rfl (fun x6 ex6 => ?_)
            have rx6 := z_rng x6
            show ez_gw _ _ _ _ _ _ _ _ [some (.ref p), some (.ref 70), some (.int a), some (.int n), some (.int x6)] _ _ _
            refine z_go ?_
            exact ih _ x6 F X2 (by first | trivial | omega) (by omega)
          · have c5 : ¬ (x4.toInt < 0) := c5
            refine gw_ld rfl rfl ?_
            refine gw_ld rfl rfl ?_
            first | refine z_add (by omega) (fun x7 ex7 => ?_) | refine z_addW (fun x7 ex7 => ?_)
            have rx7 := z_rng x7
            refine gw_ld rfl rfl ?_
            refine z_al (n := 316) (.inl (zT X2.1 (by decide) rfl)) (zN X2.1 (by decide) rfl) (by omega) (fun x8 ex8 => ?_)
            refine z_b2 (fun c9 => ?_) (fun c9 => ?_)
            · have c9 : x8.toInt ≤ x7.toInt := c9
              refine gw_skip _ ?_
              first | (refine z_inc rfl (by rw [show (1 : Int32).toInt = 1 from rfl]; omega) (fun x10 ex10 => ?_); rw [show (1 : Int32).toInt = 1 from rfl] at ex10) | refine z_incW rfl (fun x10 ex10 => ?_)
              have rx10 := z_rng x10
              show ez_gw _ _ _ _ _ _ _ _ [some (.ref p), some (.ref 70), some (.int a), some (.int n), some (.int x10)] _ _ _
              refine z_go ?_
              exact ih _ x10 F X2 (by first | trivial | omega) (by omega)
            · have c9 : ¬ (x8.toInt ≤ x7.toInt) := c9
              refine gw_ld rfl rfl ?_
              refine z_gR (q := (p + 1)) ((zCode X2.1 hp).1) ((zCode X2.1 hp).2.1.1) (Nat.succ_ne_zero _) ?_
              refine gw_ld rfl rfl ?_
              refine gw_ld rfl rfl ?_
              refine gw_ld rfl rfl ?_
              refine gw_ld rfl rfl ?_
              first | refine z_add (by omega) (fun x11 ex11 => ?_) | refine z_addW (fun x11 ex11 => ?_)
              have rx11 := z_rng x11
              refine z_ia (n := 316) (zT X2.1 (by decide) rfl) (zN X2.1 (by decide) rfl) (by omega) ?_
              generalize ex12 : ez_I h2 70 x11.toInt.toNat = x12
              have rx12 := z_rng x12
              have qx12 := congrArg Int32.toInt ex12
              refine z_is (n := 288) ((zCode X2.1 hp).2.2.1.1) ((zCode X2.1 hp).2.2.2.1) (by omega) (fun h13 e14 => ?_)
              have X15 := xI_set X2 e14 (⟨fun c => by omega, fun c => by omega, fun c => by omega, fun c => by omega, fun c => by omega, fun c => by omega⟩)
              have F16 := zF_set F e14 (by unfold zX; omega)
              first | (refine z_inc rfl (by rw [show (1 : Int32).toInt = 1 from rfl]; omega) (fun x17 ex17 => ?_); rw [show (1 : Int32).toInt = 1 from rfl] at ex17) | refine z_incW rfl (fun x17 ex17 => ?_)
              have rx17 := z_rng x17
              show ez_gw _ _ _ _ _ _ _ _ [some (.ref p), some (.ref 70), some (.int a), some (.int n), some (.int x17)] _ _ _
              refine z_go ?_
              exact ih _ x17 F16 X15 (by first | trivial | omega) (by omega)
set_option maxRecDepth 4000 in
set_option maxHeartbeats 20000000 in
theorem k_takeLen {E : Nat → Nat × (Nat → Int32)} {d : Nat} {Q : ez_Q} {h : ez_H} {p : Nat} {a : Int32} {n : Int32} (X : xI h) (hp : p = 15 ∨ p = 22 ∨ p = 29 ∨ p = 36 ∨ p = 43) (ha : 0 ≤ a.toInt ∧ a.toInt ≤ 316) (K : ∀ h2, zF (zX) h h2 → xI h2 → Q (.inl none) h2) : pw E (d + 1) 81 0 [some (.ref p), some (.ref 70), some (.int a), some (.int n), none] [] h Q := by
  have ga := z_rng a
  have gn := z_rng n
  have F := zF_refl (zX) h
  apply ez_Wp_in
  show ez_gw _ _ _ _ _ _ (cz_81) _ _ _ _ _
  refine gw_skip _ ?_
  refine gw_ld rfl rfl ?_
  refine z_gR (q := (p + 1)) ((zCode X.1 hp).1) ((zCode X.1 hp).2.1.1) (Nat.succ_ne_zero _) ?_
  refine z_C (m := 0) rfl rfl (fun x1 ex1 => ?_)
  refine z_cl rfl rfl rfl rfl rfl rfl rfl rfl rfl rfl rfl (trivial) ?_
  refine wp_fill ((zCode X.1 hp).2.2.1.1) (by rw [(zCode X.1 hp).2.2.2.1]; first | omega | decide) ?_
  generalize e3 : ez_rowI h (p + 1) (pf_fill (ez_I h (p + 1)) (ez_l h (p + 1)) x1) = h2
  have e3 := e3.symm
  have X4 := xI_row X e3 (by omega)
  have F5 := zF_row F e3 (by unfold zX; omega)
  refine z_C (m := 0) rfl rfl (fun x6 ex6 => ?_)
  refine gw_st rfl rfl rfl ?_
  show ez_gw _ _ _ _ _ _ _ _ [some (.ref p), some (.ref 70), some (.int a), some (.int n), some (.int x6)] _ _ _
  exact ez_Wp_out ((k_takeLen_L (n := n) X hp ha K (((2147483647 - x6.toInt)).toNat + 1)) _ x6 F5 X4 (by first | trivial | omega) (by omega))
set_option maxRecDepth 4000 in
set_option maxHeartbeats 20000000 in
theorem k_rStored_L {E : Nat → Nat × (Nat → Int32)} {d : Nat} {Q : ez_Q} {h : ez_H}  (X : xI h) (hM : zMem h) (Ke : ∀ h2, zF zX h h2 → xI h2 → Q (.inr 2) (ez_bump h2)) (K : ∀ h2, zF (zX) h h2 → xI h2 → Q (.inl none) h2) : ∀ N : Nat, (∀ (h2 : ez_H) (a : Int32) (b : Int32) (i : Int32), zF (zX) h h2 → xI h2 → (0 ≤ i.toInt) → (2147483647 - i.toInt) < (N : Int) → pw E (d + 2) 134 46 [some (.ref 69), some (.ref 2), some (.int a), some (.int b), some (.int i)] [] h2 Q) := by
  intro N
  induction N with
  | zero => exact fun h2 a b i F X2 hinv hm => absurd hm (by have w0 := z_rng i; have w1 := z_rng a; omega)
  | succ N ih =>
    refine fun h2 a b i F X2 hinv hm => ?_
    · skip
      have w0 := z_rng i
      have w1 := z_rng a
      apply ez_Wp_in
      show ez_gw _ _ _ _ _ _ (cz_134) _ _ _ _ _
      refine gw_skip _ ?_
      refine gw_ld rfl rfl ?_
      refine gw_ld rfl rfl ?_
      refine z_b2 (fun c1 => ?_) (fun c1 => ?_)
      · have c1 : a.toInt ≤ i.toInt := c1
        refine gw_skip _ ?_
        refine z_rv ?_
        exact K _ F X2
      · have c1 : ¬ (a.toInt ≤ i.toInt) := c1
        refine gw_ld rfl rfl ?_
        refine gw_ld rfl rfl ?_
        refine gw_ld rfl rfl ?_
        refine z_C (m := 8) rfl rfl (fun x2 ex2 => ?_)
        refine z_cl rfl rfl rfl rfl rfl rfl rfl rfl rfl rfl rfl (zT X2.1 (by decide) rfl) ?_
        refine k_takeBits X2 (zM F hM)  (fun hh FF XX => Ke _ (zF_tr F FF) XX) (fun h3 x7 F4 X5 k6 => ?_)
        have rx7 := z_rng x7
        have F8 := zF_tr F (zF_mono F4 (fun q hq => by first | exact hq | (unfold zX at *; omega) | omega))
        replace k6 := k6 (by omega)
        refine z_cl rfl rfl rfl rfl rfl rfl rfl rfl rfl rfl rfl (zT X5.1 (by decide) rfl) ?_
        refine k_putByte X5 (zM F8 hM)  (fun hh FF XX => Ke _ (zF_tr F8 FF) XX) (fun h9  F10 X11 k12 => ?_)
        have F13 := zF_tr F8 (zF_mono F10 (fun q hq => by first | exact hq | (unfold zX at *; omega) | omega))
        first | (refine z_inc rfl (by rw [show (1 : Int32).toInt = 1 from rfl]; omega) (fun x14 ex14 => ?_); rw [show (1 : Int32).toInt = 1 from rfl] at ex14) | refine z_incW rfl (fun x14 ex14 => ?_)
        have rx14 := z_rng x14
        show ez_gw _ _ _ _ _ _ _ _ [some (.ref 69), some (.ref 2), some (.int a), some (.int b), some (.int x14)] _ _ _
        refine z_go ?_
        exact ih _ a b x14 F13 X11 (by first | trivial | omega) (by omega)
set_option maxRecDepth 4000 in
set_option maxHeartbeats 20000000 in
theorem k_rStored {E : Nat → Nat × (Nat → Int32)} {d : Nat} {Q : ez_Q} {h : ez_H}  (X : xI h) (hM : zMem h) (Ke : ∀ h2, zF zX h h2 → xI h2 → Q (.inr 2) (ez_bump h2)) (K : ∀ h2, zF (zX) h h2 → xI h2 → Q (.inl none) h2) : pw E (d + 2) 134 0 [some (.ref 69), some (.ref 2), none, none, none] [] h Q := by
  have F := zF_refl (zX) h
  apply ez_Wp_in
  show ez_gw _ _ _ _ _ _ (cz_134) _ _ _ _ _
  refine gw_skip _ ?_
  refine gw_ld rfl rfl ?_
  refine gw_ld rfl rfl ?_
  have r1 := z_rng ((ez_I h 69 6))
  refine z_gI2 (by decide) (zT X.1 (by decide) rfl) (rfl) ?_
  refine z_C (m := 7) rfl rfl (fun x2 ex2 => ?_)
  first | refine z_add (by omega) (fun x3 ex3 => ?_) | refine z_addW (fun x3 ex3 => ?_)
  have rx3 := z_rng x3
  refine z_C (m := -8) rfl rfl (fun x4 ex4 => ?_)
  refine z_and (fun x5 ex5 ux5 wx5 => ?_)
  have rx5 := z_rng x5
  refine z_pI (zT X.1 (by decide) rfl) (fun h6 e7 => ?_)
  have X8 := xI_set X e7 (xW_of (by decide))
  have F9 := zF_set F e7 (by unfold zX; omega)
  have f10 : ez_I h6 69 6 = x5 := zI_eq e7
  refine gw_ld rfl rfl ?_
  refine gw_ld rfl rfl ?_
  refine z_C (m := 16) rfl rfl (fun x11 ex11 => ?_)
  refine z_cl rfl rfl rfl rfl rfl rfl rfl rfl rfl rfl rfl (zT X8.1 (by decide) rfl) ?_
  refine k_takeBits X8 (zM F9 hM)  (fun hh FF XX => Ke _ (zF_tr F9 FF) XX) (fun h12 x16 F13 X14 k15 => ?_)
  have rx16 := z_rng x16
  have F17 := zF_tr F9 (zF_mono F13 (fun q hq => by first | exact hq | (unfold zX at *; omega) | omega))
  replace k15 := k15 (by omega)
  refine gw_st rfl rfl rfl ?_
  show ez_gw _ _ _ _ _ _ _ _ [some (.ref 69), some (.ref 2), some (.int x16), none, none] _ _ _
  refine gw_ld rfl rfl ?_
  refine gw_ld rfl rfl ?_
  refine z_C (m := 16) rfl rfl (fun x18 ex18 => ?_)
  refine z_cl rfl rfl rfl rfl rfl rfl rfl rfl rfl rfl rfl (zT X14.1 (by decide) rfl) ?_
  refine k_takeBits X14 (zM F17 hM)  (fun hh FF XX => Ke _ (zF_tr F17 FF) XX) (fun h19 x23 F20 X21 k22 => ?_)
  have rx23 := z_rng x23
  have F24 := zF_tr F17 (zF_mono F20 (fun q hq => by first | exact hq | (unfold zX at *; omega) | omega))
  replace k22 := k22 (by omega)
  refine gw_st rfl rfl rfl ?_
  show ez_gw _ _ _ _ _ _ _ _ [some (.ref 69), some (.ref 2), some (.int x16), some (.int x23), none] _ _ _
  refine gw_ld rfl rfl ?_
  refine gw_ld rfl rfl ?_
  refine z_2 rfl (fun x25 ex25 => ?_)
  have rx25 := z_rng x25
  refine z_C (m := 65535) rfl rfl (fun x26 ex26 => ?_)
  refine z_b2 (fun c27 => ?_) (fun c27 => ?_)
  · have c27 : x25.toInt = x26.toInt := c27
    refine gw_skip _ ?_
    refine z_C (m := 0) rfl rfl (fun x28 ex28 => ?_)
    refine gw_st rfl rfl rfl ?_
    show ez_gw _ _ _ _ _ _ _ _ [some (.ref 69), some (.ref 2), some (.int x16), some (.int x23), some (.int x28)] _ _ _
    exact ez_Wp_out ((k_rStored_L X hM Ke K (((2147483647 - x28.toInt)).toNat + 1)) _ x16 x23 x28 F24 X21 (by first | trivial | omega) (by omega))
  · have c27 : ¬ (x25.toInt = x26.toInt) := c27
    refine gw_ld rfl rfl ?_
    refine z_C (m := 3) rfl rfl (fun x29 ex29 => ?_)
    refine z_cl rfl rfl rfl rfl rfl rfl rfl rfl rfl rfl rfl (zT X21.1 (by decide) rfl) ?_
    exact k_fail X21 (zM F24 hM) (fun hh FF XX => Ke _ (zF_tr F24 FF) XX)
set_option maxRecDepth 4000 in
set_option maxHeartbeats 20000000 in
theorem k_rAlpha_L {E : Nat → Nat × (Nat → Int32)} {d : Nat} {Q : ez_Q} {h : ez_H} {n : Int32} (X : xI h) (hE : zE E) (hM : zMem h) (Ke : ∀ h2, zF zX h h2 → xI h2 → Q (.inr 2) (ez_bump h2)) (K : ∀ h2, zF (zX) h h2 → xI h2 → Q (.inl none) h2) : ∀ N : Nat, (∀ (h2 : ez_H) (i : Int32), zF (zX) h h2 → xI h2 → (0 ≤ i.toInt) → (2147483647 - i.toInt) < (N : Int) → pw E (d + 3) 136 16 [some (.ref 69), some (.ref 2), some (.int n), some (.int i)] [] h2 Q) := by
  intro N
  induction N with
  | zero => exact fun h2 i F X2 hinv hm => absurd hm (by have w0 := z_rng i; omega)
  | succ N ih =>
    refine fun h2 i F X2 hinv hm => ?_
    · skip
      have w0 := z_rng i
      have gn := z_rng n
      apply ez_Wp_in
      show ez_gw _ _ _ _ _ _ (cz_136) _ _ _ _ _
      refine gw_skip _ ?_
      refine gw_ld rfl rfl ?_
      refine gw_ld rfl rfl ?_
      refine z_b2 (fun c1 => ?_) (fun c1 => ?_)
      · have c1 : n.toInt ≤ i.toInt := c1
        refine gw_skip _ ?_
        refine gw_ld rfl rfl ?_
        refine z_gR (q := 14) (zT X2.1 (by decide) rfl) (zRf X2.1 (by decide) (by decide) rfl) (by decide) ?_
        refine z_gR (q := 43) (zT X2.1 (by decide) rfl) (zRf X2.1 (by decide) (by decide) rfl) (by decide) ?_
        refine z_cl rfl rfl rfl rfl rfl rfl rfl rfl rfl rfl rfl (zT X2.1 (by decide) rfl) ?_
        refine k_settle X2 (p := 43) (by omega) (fun h2 F3 X4  => ?_)
        have F5 := zF_tr F (zF_mono F3 (fun q hq => by first | exact hq | (unfold zX at *; omega) | omega))
        refine gw_ld rfl rfl ?_
        refine z_gR (q := 14) (zT X4.1 (by decide) rfl) (zRf X4.1 (by decide) (by decide) rfl) (by decide) ?_
        refine z_gR (q := 43) (zT X4.1 (by decide) rfl) (zRf X4.1 (by decide) (by decide) rfl) (by decide) ?_
        refine z_cl rfl rfl rfl rfl rfl rfl rfl rfl rfl rfl rfl (zT X4.1 (by decide) rfl) ?_
        refine k_isWhole X4 (p := 43) (by omega) (fun x6 k7 => ?_)
        have rx6 := z_rng x6
        refine z_b1 (fun c8 => ?_) (fun c8 => ?_)
        · have c8 : x6.toInt ≠ 0 := c8
          refine gw_skip _ ?_
          refine z_rv ?_
          exact K _ F5 X4
        · have c8 : ¬ (x6.toInt ≠ 0) := c8
          refine gw_ld rfl rfl ?_
          refine z_C (m := 5) rfl rfl (fun x9 ex9 => ?_)
          refine z_cl rfl rfl rfl rfl rfl rfl rfl rfl rfl rfl rfl (zT X4.1 (by decide) rfl) ?_
          exact k_fail X4 (zM F5 hM) (fun hh FF XX => Ke _ (zF_tr F5 FF) XX)
      · have c1 : ¬ (n.toInt ≤ i.toInt) := c1
        refine gw_ld rfl rfl ?_
        refine z_C (m := 19) rfl rfl (fun x10 ex10 => ?_)
        refine z_b2 (fun c11 => ?_) (fun c11 => ?_)
        · have c11 : x10.toInt ≤ i.toInt := c11
          refine gw_skip _ ?_
          refine gw_ld rfl rfl ?_
          refine z_gR (q := 14) (zT X2.1 (by decide) rfl) (zRf X2.1 (by decide) (by decide) rfl) (by decide) ?_
          refine z_gR (q := 43) (zT X2.1 (by decide) rfl) (zRf X2.1 (by decide) (by decide) rfl) (by decide) ?_
          refine z_cl rfl rfl rfl rfl rfl rfl rfl rfl rfl rfl rfl (zT X2.1 (by decide) rfl) ?_
          refine k_settle X2 (p := 43) (by omega) (fun h12 F13 X14  => ?_)
          have F15 := zF_tr F (zF_mono F13 (fun q hq => by first | exact hq | (unfold zX at *; omega) | omega))
          refine gw_ld rfl rfl ?_
          refine z_gR (q := 14) (zT X14.1 (by decide) rfl) (zRf X14.1 (by decide) (by decide) rfl) (by decide) ?_
          refine z_gR (q := 43) (zT X14.1 (by decide) rfl) (zRf X14.1 (by decide) (by decide) rfl) (by decide) ?_
          refine z_cl rfl rfl rfl rfl rfl rfl rfl rfl rfl rfl rfl (zT X14.1 (by decide) rfl) ?_
          refine k_isWhole X14 (p := 43) (by omega) (fun x16 k17 => ?_)
          have rx16 := z_rng x16
          refine z_b1 (fun c18 => ?_) (fun c18 => ?_)
          · have c18 : x16.toInt ≠ 0 := c18
            refine gw_skip _ ?_
            refine z_rv ?_
            exact K _ F15 X14
          · have c18 : ¬ (x16.toInt ≠ 0) := c18
            refine gw_ld rfl rfl ?_
            refine z_C (m := 5) rfl rfl (fun x19 ex19 => ?_)
            refine z_cl rfl rfl rfl rfl rfl rfl rfl rfl rfl rfl rfl (zT X14.1 (by decide) rfl) ?_
            exact k_fail X14 (zM F15 hM) (fun hh FF XX => Ke _ (zF_tr F15 FF) XX)
        · have c11 : ¬ (x10.toInt ≤ i.toInt) := c11
          refine gw_ld rfl rfl ?_
          refine z_gR (q := 14) (zT X2.1 (by decide) rfl) (zRf X2.1 (by decide) (by decide) rfl) (by decide) ?_
          refine z_gR (q := 43) (zT X2.1 (by decide) rfl) (zRf X2.1 (by decide) (by decide) rfl) (by decide) ?_
          refine z_gR (q := 44) (zT X2.1 (by decide) rfl) (zRf X2.1 (by decide) (by decide) rfl) (by decide) ?_
          refine z_gs ?_
          refine gw_ld rfl rfl ?_
          refine z_iaE (n := 19) (hE 7) (by omega) ?_
          generalize ex20 : (tz_ar (7 + 1)).getD i.toInt.toNat 0 = x20
          have rx20 := z_rng x20
          have qx20 := congrArg Int32.toInt ex20
          have ox20 := z_ord (n := i.toInt.toNat) (by omega)
          rw [ex20] at ox20
          refine gw_ld rfl rfl ?_
          refine gw_ld rfl rfl ?_
          refine z_C (m := 3) rfl rfl (fun x21 ex21 => ?_)
          refine z_cl rfl rfl rfl rfl rfl rfl rfl rfl rfl rfl rfl (zT X2.1 (by decide) rfl) ?_
          refine k_takeBits X2 (zM F hM)  (fun hh FF XX => Ke _ (zF_tr F FF) XX) (fun h22 x26 F23 X24 k25 => ?_)
          have rx26 := z_rng x26
          have F27 := zF_tr F (zF_mono F23 (fun q hq => by first | exact hq | (unfold zX at *; omega) | omega))
          replace k25 := k25 (by omega)
          refine z_is (n := 288) (zT X24.1 (by decide) rfl) (zN X24.1 (by decide) rfl) (by omega) (fun h28 e29 => ?_)
          have X30 := xI_set X24 e29 (xW_of (by decide))
          have F31 := zF_set F27 e29 (by unfold zX; omega)
          first | (refine z_inc rfl (by rw [show (1 : Int32).toInt = 1 from rfl]; omega) (fun x32 ex32 => ?_); rw [show (1 : Int32).toInt = 1 from rfl] at ex32) | refine z_incW rfl (fun x32 ex32 => ?_)
          have rx32 := z_rng x32
          show ez_gw _ _ _ _ _ _ _ _ [some (.ref 69), some (.ref 2), some (.int n), some (.int x32)] _ _ _
          refine z_go ?_
          exact ih _ x32 F31 X30 (by first | trivial | omega) (by omega)
set_option maxRecDepth 4000 in
set_option maxHeartbeats 20000000 in
theorem k_rAlpha {E : Nat → Nat × (Nat → Int32)} {d : Nat} {Q : ez_Q} {h : ez_H} {n : Int32} (X : xI h) (hE : zE E) (hM : zMem h) (Ke : ∀ h2, zF zX h h2 → xI h2 → Q (.inr 2) (ez_bump h2)) (K : ∀ h2, zF (zX) h h2 → xI h2 → Q (.inl none) h2) : pw E (d + 3) 136 0 [some (.ref 69), some (.ref 2), some (.int n), none] [] h Q := by
  have gn := z_rng n
  have F := zF_refl (zX) h
  apply ez_Wp_in
  show ez_gw _ _ _ _ _ _ (cz_136) _ _ _ _ _
  refine gw_skip _ ?_
  refine gw_ld rfl rfl ?_
  refine z_gR (q := 14) (zT X.1 (by decide) rfl) (zRf X.1 (by decide) (by decide) rfl) (by decide) ?_
  refine z_gR (q := 43) (zT X.1 (by decide) rfl) (zRf X.1 (by decide) (by decide) rfl) (by decide) ?_
  refine z_gR (q := 44) (zT X.1 (by decide) rfl) (zRf X.1 (by decide) (by decide) rfl) (by decide) ?_
  refine z_C (m := 0) rfl rfl (fun x1 ex1 => ?_)
  refine z_cl rfl rfl rfl rfl rfl rfl rfl rfl rfl rfl rfl (trivial) ?_
  refine wp_fill (zT X.1 (by decide) rfl) (by rw [zN X.1 (by decide) rfl]; first | omega | decide) ?_
  generalize e3 : ez_rowI h 44 (pf_fill (ez_I h 44) (ez_l h 44) x1) = h2
  have e3 := e3.symm
  have X4 := xI_row X e3 (by omega)
  have F5 := zF_row F e3 (by unfold zX; omega)
  refine z_C (m := 0) rfl rfl (fun x6 ex6 => ?_)
  refine gw_st rfl rfl rfl ?_
  show ez_gw _ _ _ _ _ _ _ _ [some (.ref 69), some (.ref 2), some (.int n), some (.int x6)] _ _ _
  exact ez_Wp_out ((k_rAlpha_L X hE hM Ke K (((2147483647 - x6.toInt)).toNat + 1)) _ x6 F5 X4 (by first | trivial | omega) (by omega))
set_option maxRecDepth 4000 in
set_option maxHeartbeats 20000000 in
theorem k_rRow_L {E : Nat → Nat × (Nat → Int32)} {d : Nat} {Q : ez_Q} {h : ez_H} {n : Int32} (X : xI h) (hE : zE E) (hM : zMem h) (Ke : ∀ h2, zF zX h h2 → xI h2 → Q (.inr 2) (ez_bump h2)) (K : ∀ h2, zF (zX) h h2 → xI h2 → Q (.inl none) h2) : ∀ N : Nat, (∀ (h2 : ez_H) (t : Int32) (i : Int32) (l5 : Option Value) (l6 : Option Value) (l7 : Option Value) (l8 : Option Value) (l9 : Option Value), zF (zX) h h2 → xI h2 → (0 ≤ i.toInt ∧ 0 ≤ t.toInt ∧ t.toInt ≤ 316) → ((2147483647 - i.toInt) * 10000000000) < (N : Int) → pw E (d + 3) 137 5 [some (.ref 69), some (.ref 2), some (.int n), some (.int t), some (.int i), l5, l6, l7, l8, l9] [] h2 Q) ∧ (∀ (h2 : ez_H) (t : Int32) (i : Int32) (a5 : Int32) (a6 : Int32) (a7 : Int32) (a8 : Int32) (j : Int32), zF (zX) h h2 → xI h2 → (0 ≤ i.toInt ∧ i.toInt < n.toInt ∧ 0 ≤ t.toInt ∧ t.toInt ≤ 316 ∧ 0 ≤ j.toInt) → (((2147483647 - i.toInt) * 10000000000) - 5000000000 + (2147483647 - j.toInt)) < (N : Int) → pw E (d + 3) 137 135 [some (.ref 69), some (.ref 2), some (.int n), some (.int t), some (.int i), some (.int a5), some (.int a6), some (.int a7), some (.int a8), some (.int j)] [] h2 Q) := by
  intro N
  induction N with
  | zero => exact ⟨fun h2 t i l5 l6 l7 l8 l9 F X2 hinv hm => absurd hm (by have w0 := z_rng i; omega), fun h2 t i a5 a6 a7 a8 j F X2 hinv hm => absurd hm (by have w0 := z_rng i; have w1 := z_rng j; have w2 := z_rng n; have w3 := z_rng a7; omega)⟩
  | succ N ih =>
    refine ⟨fun h2 t i l5 l6 l7 l8 l9 F X2 hinv hm => ?_, fun h2 t i a5 a6 a7 a8 j F X2 hinv hm => ?_⟩
    · skip
      have w0 := z_rng i
      have gn := z_rng n
      apply ez_Wp_in
      show ez_gw _ _ _ _ _ _ (cz_137) _ _ _ _ _
      refine gw_skip _ ?_
      refine gw_ld rfl rfl ?_
      refine gw_ld rfl rfl ?_
      refine z_b2 (fun c1 => ?_) (fun c1 => ?_)
      · have c1 : n.toInt ≤ i.toInt := c1
        refine gw_skip _ ?_
        refine z_rv ?_
        exact K _ F X2
      · have c1 : ¬ (n.toInt ≤ i.toInt) := c1
        refine gw_ld rfl rfl ?_
        refine gw_ld rfl rfl ?_
        refine z_b2 (fun c2 => ?_) (fun c2 => ?_)
        · have c2 : n.toInt ≤ t.toInt := c2
          refine gw_skip _ ?_
          refine z_rv ?_
          exact K _ F X2
        · have c2 : ¬ (n.toInt ≤ t.toInt) := c2
          refine gw_ld rfl rfl ?_
          refine gw_ld rfl rfl ?_
          refine gw_ld rfl rfl ?_
          refine z_gR (q := 14) (zT X2.1 (by decide) rfl) (zRf X2.1 (by decide) (by decide) rfl) (by decide) ?_
          refine z_gR (q := 43) (zT X2.1 (by decide) rfl) (zRf X2.1 (by decide) (by decide) rfl) (by decide) ?_
          refine z_cl rfl rfl rfl rfl rfl rfl rfl rfl rfl rfl rfl (zT X2.1 (by decide) rfl) ?_
          refine k_takeSym (p := 43) X2 (by omega) (zM F hM) (fun hh FF XX => Ke _ (zF_tr F FF) XX) (fun h3 x6 F4 X5 => ?_)
          have rx6 := z_rng x6
          have F7 := zF_tr F (zF_mono F4 (fun q hq => by first | exact hq | (unfold zX at *; omega) | omega))
          refine gw_st rfl rfl rfl ?_
          show ez_gw _ _ _ _ _ _ _ _ [some (.ref 69), some (.ref 2), some (.int n), some (.int t), some (.int i), some (.int x6), l6, l7, l8, l9] _ _ _
          refine gw_ld rfl rfl ?_
          refine z_C (m := 16) rfl rfl (fun x8 ex8 => ?_)
          refine z_b2 (fun c9 => ?_) (fun c9 => ?_)
          · have c9 : x6.toInt ≠ x8.toInt := c9
            refine gw_skip _ ?_
            refine gw_ld rfl rfl ?_
            refine gw_st rfl rfl rfl ?_
            show ez_gw _ _ _ _ _ _ _ _ [some (.ref 69), some (.ref 2), some (.int n), some (.int t), some (.int i), some (.int x6), some (.int x6), l7, l8, l9] _ _ _
            refine z_C (m := 1) rfl rfl (fun x10 ex10 => ?_)
            refine gw_st rfl rfl rfl ?_
            show ez_gw _ _ _ _ _ _ _ _ [some (.ref 69), some (.ref 2), some (.int n), some (.int t), some (.int i), some (.int x6), some (.int x6), some (.int x10), l8, l9] _ _ _
            refine gw_ld rfl rfl ?_
            refine z_C (m := 16) rfl rfl (fun x11 ex11 => ?_)
            refine z_subW (fun x12 ex12 => ?_)
            have rx12 := z_rng x12
            have qx12 := congrArg Int32.toInt ex12
            refine gw_st rfl rfl rfl ?_
            show ez_gw _ _ _ _ _ _ _ _ [some (.ref 69), some (.ref 2), some (.int n), some (.int t), some (.int i), some (.int x6), some (.int x6), some (.int x10), some (.int x12), l9] _ _ _
            refine gw_ld rfl rfl ?_
            refine z_b1 (fun c13 => ?_) (fun c13 => ?_)
            · have c13 : x12.toInt < 0 := c13
              refine gw_skip _ ?_
              refine gw_ld rfl rfl ?_
              refine gw_ld rfl rfl ?_
              refine z_addW (fun x14 ex14 => ?_)
              have rx14 := z_rng x14
              have qx14 := congrArg Int32.toInt ex14
              refine gw_ld rfl rfl ?_
              refine z_b2 (fun c15 => ?_) (fun c15 => ?_)
              · have c15 : x14.toInt ≤ n.toInt := c15
                refine gw_skip _ ?_
                refine z_C (m := 0) rfl rfl (fun x16 ex16 => ?_)
                refine gw_st rfl rfl rfl ?_
                show ez_gw _ _ _ _ _ _ _ _ [some (.ref 69), some (.ref 2), some (.int n), some (.int t), some (.int i), some (.int x6), some (.int x6), some (.int x10), some (.int x12), some (.int x16)] _ _ _
                exact ez_Wp_out (ih.2 _ t i x6 x6 x10 x12 x16 F7 X5 (by first | trivial | omega) (by omega))
              · have c15 : ¬ (x14.toInt ≤ n.toInt) := c15
                refine gw_ld rfl rfl ?_
                refine z_C (m := 6) rfl rfl (fun x17 ex17 => ?_)
                refine z_cl rfl rfl rfl rfl rfl rfl rfl rfl rfl rfl rfl (zT X5.1 (by decide) rfl) ?_
                exact k_fail X5 (zM F7 hM) (fun hh FF XX => Ke _ (zF_tr F7 FF) XX)
            · have c13 : ¬ (x12.toInt < 0) := c13
              refine gw_ld rfl rfl ?_
              refine z_gs ?_
              refine z_alE (n := 3) (by rw [hE 6]; rfl) (by omega) (fun x18 ex18 => ?_)
              refine z_b2 (fun c19 => ?_) (fun c19 => ?_)
              · have c19 : x18.toInt ≤ x12.toInt := c19
                refine gw_skip _ ?_
                refine gw_ld rfl rfl ?_
                refine gw_ld rfl rfl ?_
                refine z_addW (fun x20 ex20 => ?_)
                have rx20 := z_rng x20
                have qx20 := congrArg Int32.toInt ex20
                refine gw_ld rfl rfl ?_
                refine z_b2 (fun c21 => ?_) (fun c21 => ?_)
                · have c21 : x20.toInt ≤ n.toInt := c21
                  refine gw_skip _ ?_
                  refine z_C (m := 0) rfl rfl (fun x22 ex22 => ?_)
                  refine gw_st rfl rfl rfl ?_
                  show ez_gw _ _ _ _ _ _ _ _ [some (.ref 69), some (.ref 2), some (.int n), some (.int t), some (.int i), some (.int x6), some (.int x6), some (.int x10), some (.int x12), some (.int x22)] _ _ _
                  exact ez_Wp_out (ih.2 _ t i x6 x6 x10 x12 x22 F7 X5 (by first | trivial | omega) (by omega))
                · have c21 : ¬ (x20.toInt ≤ n.toInt) := c21
                  refine gw_ld rfl rfl ?_
                  refine z_C (m := 6) rfl rfl (fun x23 ex23 => ?_)
                  refine z_cl rfl rfl rfl rfl rfl rfl rfl rfl rfl rfl rfl (zT X5.1 (by decide) rfl) ?_
                  exact k_fail X5 (zM F7 hM) (fun hh FF XX => Ke _ (zF_tr F7 FF) XX)
              · have c19 : ¬ (x18.toInt ≤ x12.toInt) := c19
                refine gw_ld rfl rfl ?_
                refine z_b1 (fun c24 => ?_) (fun c24 => ?_)
                · have c24 : x12.toInt ≠ 0 := c24
                  refine gw_skip _ ?_
                  refine z_C (m := 0) rfl rfl (fun x25 ex25 => ?_)
                  refine gw_st rfl rfl rfl ?_
                  show ez_gw _ _ _ _ _ _ _ _ [some (.ref 69), some (.ref 2), some (.int n), some (.int t), some (.int i), some (.int x6), some (.int x25), some (.int x10), some (.int x12), l9] _ _ _
                  refine z_gs ?_
                  refine gw_ld rfl rfl ?_
                  refine z_iaE (n := 3) (hE 6) (by omega) ?_
                  generalize ex26 : (tz_ar (6 + 1)).getD x12.toInt.toNat 0 = x26
                  have rx26 := z_rng x26
                  have qx26 := congrArg Int32.toInt ex26
                  refine gw_ld rfl rfl ?_
                  refine gw_ld rfl rfl ?_
                  refine z_gs ?_
                  refine gw_ld rfl rfl ?_
                  refine z_iaE (n := 3) (hE 8) (by omega) ?_
                  generalize ex27 : (tz_ar (8 + 1)).getD x12.toInt.toNat 0 = x27
                  have rx27 := z_rng x27
                  have qx27 := congrArg Int32.toInt ex27
                  refine z_cl rfl rfl rfl rfl rfl rfl rfl rfl rfl rfl rfl (zT X5.1 (by decide) rfl) ?_
                  refine k_takeBits X5 (zM F7 hM)  (fun hh FF XX => Ke _ (zF_tr F7 FF) XX) (fun h28 x32 F29 X30 k31 => ?_)
                  have rx32 := z_rng x32
                  have F33 := zF_tr F7 (zF_mono F29 (fun q hq => by first | exact hq | (unfold zX at *; omega) | omega))
                  refine z_addW (fun x34 ex34 => ?_)
                  have rx34 := z_rng x34
                  have qx34 := congrArg Int32.toInt ex34
                  refine gw_st rfl rfl rfl ?_
                  show ez_gw _ _ _ _ _ _ _ _ [some (.ref 69), some (.ref 2), some (.int n), some (.int t), some (.int i), some (.int x6), some (.int x25), some (.int x34), some (.int x12), l9] _ _ _
                  refine gw_ld rfl rfl ?_
                  refine gw_ld rfl rfl ?_
                  refine z_addW (fun x35 ex35 => ?_)
                  have rx35 := z_rng x35
                  have qx35 := congrArg Int32.toInt ex35
                  refine gw_ld rfl rfl ?_
                  refine z_b2 (fun c36 => ?_) (fun c36 => ?_)
                  · have c36 : x35.toInt ≤ n.toInt := c36
                    refine gw_skip _ ?_
                    refine z_C (m := 0) rfl rfl (fun x37 ex37 => ?_)
                    refine gw_st rfl rfl rfl ?_
                    show ez_gw _ _ _ _ _ _ _ _ [some (.ref 69), some (.ref 2), some (.int n), some (.int t), some (.int i), some (.int x6), some (.int x25), some (.int x34), some (.int x12), some (.int x37)] _ _ _
                    exact ez_Wp_out (ih.2 _ t i x6 x25 x34 x12 x37 F33 X30 (by first | trivial | omega) (by omega))
                  · have c36 : ¬ (x35.toInt ≤ n.toInt) := c36
                    refine gw_ld rfl rfl ?_
                    refine z_C (m := 6) rfl rfl (fun x38 ex38 => ?_)
                    refine z_cl rfl rfl rfl rfl rfl rfl rfl rfl rfl rfl rfl (zT X30.1 (by decide) rfl) ?_
                    exact k_fail X30 (zM F33 hM) (fun hh FF XX => Ke _ (zF_tr F33 FF) XX)
                · have c24 : ¬ (x12.toInt ≠ 0) := c24
                  refine gw_ld rfl rfl ?_
                  refine z_b1 (fun c39 => ?_) (fun c39 => ?_)
                  · have c39 : t.toInt ≤ 0 := c39
                    refine gw_skip _ ?_
                    refine z_C (m := 0) rfl rfl (fun x40 ex40 => ?_)
                    refine gw_st rfl rfl rfl ?_
                    show ez_gw _ _ _ _ _ _ _ _ [some (.ref 69), some (.ref 2), some (.int n), some (.int t), some (.int i), some (.int x6), some (.int x40), some (.int x10), some (.int x12), l9] _ _ _
                    refine z_gs ?_
                    refine gw_ld rfl rfl ?_
                    refine z_iaE (n := 3) (hE 6) (by omega) ?_
                    generalize ex41 : (tz_ar (6 + 1)).getD x12.toInt.toNat 0 = x41
                    have rx41 := z_rng x41
                    have qx41 := congrArg Int32.toInt ex41
                    refine gw_ld rfl rfl ?_
                    refine gw_ld rfl rfl ?_
                    refine z_gs ?_
                    refine gw_ld rfl rfl ?_
                    refine z_iaE (n := 3) (hE 8) (by omega) ?_
                    generalize ex42 : (tz_ar (8 + 1)).getD x12.toInt.toNat 0 = x42
                    have rx42 := z_rng x42
                    have qx42 := congrArg Int32.toInt ex42
                    refine z_cl rfl rfl rfl rfl rfl rfl rfl rfl rfl rfl rfl (zT X5.1 (by decide) rfl) ?_
                    refine k_takeBits X5 (zM F7 hM)  (fun hh FF XX => Ke _ (zF_tr F7 FF) XX) (fun h43 x47 F44 X45 k46 => ?_)
                    have rx47 := z_rng x47
                    have F48 := zF_tr F7 (zF_mono F44 (fun q hq => by first | exact hq | (unfold zX at *; omega) | omega))
                    refine z_addW (fun x49 ex49 => ?_)
                    have rx49 := z_rng x49
                    have qx49 := congrArg Int32.toInt ex49
                    refine gw_st rfl rfl rfl ?_
                    show ez_gw _ _ _ _ _ _ _ _ [some (.ref 69), some (.ref 2), some (.int n), some (.int t), some (.int i), some (.int x6), some (.int x40), some (.int x49), some (.int x12), l9] _ _ _
                    refine gw_ld rfl rfl ?_
                    refine gw_ld rfl rfl ?_
                    refine z_addW (fun x50 ex50 => ?_)
                    have rx50 := z_rng x50
                    have qx50 := congrArg Int32.toInt ex50
                    refine gw_ld rfl rfl ?_
                    refine z_b2 (fun c51 => ?_) (fun c51 => ?_)
                    · have c51 : x50.toInt ≤ n.toInt := c51
                      refine gw_skip _ ?_
                      refine z_C (m := 0) rfl rfl (fun x52 ex52 => ?_)
                      refine gw_st rfl rfl rfl ?_
                      show ez_gw _ _ _ _ _ _ _ _ [some (.ref 69), some (.ref 2), some (.int n), some (.int t), some (.int i), some (.int x6), some (.int x40), some (.int x49), some (.int x12), some (.int x52)] _ _ _
                      exact ez_Wp_out (ih.2 _ t i x6 x40 x49 x12 x52 F48 X45 (by first | trivial | omega) (by omega))
                    · have c51 : ¬ (x50.toInt ≤ n.toInt) := c51
                      refine gw_ld rfl rfl ?_
                      refine z_C (m := 6) rfl rfl (fun x53 ex53 => ?_)
                      refine z_cl rfl rfl rfl rfl rfl rfl rfl rfl rfl rfl rfl (zT X45.1 (by decide) rfl) ?_
                      exact k_fail X45 (zM F48 hM) (fun hh FF XX => Ke _ (zF_tr F48 FF) XX)
                  · have c39 : ¬ (t.toInt ≤ 0) := c39
                    refine gw_ld rfl rfl ?_
                    refine z_gR (q := 70) (zT X5.1 (by decide) rfl) (zRf X5.1 (by decide) (by decide) rfl) (by decide) ?_
                    refine gw_ld rfl rfl ?_
                    refine z_C (m := 1) rfl rfl (fun x54 ex54 => ?_)
                    first | refine z_sub (by omega) (fun x55 ex55 => ?_) | refine z_subW (fun x55 ex55 => ?_)
                    have rx55 := z_rng x55
                    refine z_ia (n := 316) (zT X5.1 (by decide) rfl) (zN X5.1 (by decide) rfl) (by omega) ?_
                    generalize ex56 : ez_I h3 70 x55.toInt.toNat = x56
                    have rx56 := z_rng x56
                    have qx56 := congrArg Int32.toInt ex56
                    refine z_go ?_
                    refine gw_skip _ ?_
                    refine gw_st rfl rfl rfl ?_
                    show ez_gw _ _ _ _ _ _ _ _ [some (.ref 69), some (.ref 2), some (.int n), some (.int t), some (.int i), some (.int x6), some (.int x56), some (.int x10), some (.int x12), l9] _ _ _
                    refine z_gs ?_
                    refine gw_ld rfl rfl ?_
                    refine z_iaE (n := 3) (hE 6) (by omega) ?_
                    generalize ex57 : (tz_ar (6 + 1)).getD x12.toInt.toNat 0 = x57
                    have rx57 := z_rng x57
                    have qx57 := congrArg Int32.toInt ex57
                    refine gw_ld rfl rfl ?_
                    refine gw_ld rfl rfl ?_
                    refine z_gs ?_
                    refine gw_ld rfl rfl ?_
                    refine z_iaE (n := 3) (hE 8) (by omega) ?_
                    generalize ex58 : (tz_ar (8 + 1)).getD x12.toInt.toNat 0 = x58
                    have rx58 := z_rng x58
                    have qx58 := congrArg Int32.toInt ex58
                    refine z_cl rfl rfl rfl rfl rfl rfl rfl rfl rfl rfl rfl (zT X5.1 (by decide) rfl) ?_
                    refine k_takeBits X5 (zM F7 hM)  (fun hh FF XX => Ke _ (zF_tr F7 FF) XX) (fun h59 x63 F60 X61 k62 => ?_)
                    have rx63 := z_rng x63
                    have F64 := zF_tr F7 (zF_mono F60 (fun q hq => by first | exact hq | (unfold zX at *; omega) | omega))
                    refine z_addW (fun x65 ex65 => ?_)
                    have rx65 := z_rng x65
                    have qx65 := congrArg Int32.toInt ex65
                    refine gw_st rfl rfl rfl ?_
                    show ez_gw _ _ _ _ _ _ _ _ [some (.ref 69), some (.ref 2), some (.int n), some (.int t), some (.int i), some (.int x6), some (.int x56), some (.int x65), some (.int x12), l9] _ _ _
                    refine gw_ld rfl rfl ?_
                    refine gw_ld rfl rfl ?_
                    refine z_addW (fun x66 ex66 => ?_)
                    have rx66 := z_rng x66
                    have qx66 := congrArg Int32.toInt ex66
                    refine gw_ld rfl rfl ?_
                    refine z_b2 (fun c67 => ?_) (fun c67 => ?_)
                    · have c67 : x66.toInt ≤ n.toInt := c67
                      refine gw_skip _ ?_
                      refine z_C (m := 0) rfl rfl (fun x68 ex68 => ?_)
                      refine gw_st rfl rfl rfl ?_
                      show ez_gw _ _ _ _ _ _ _ _ [some (.ref 69), some (.ref 2), some (.int n), some (.int t), some (.int i), some (.int x6), some (.int x56), some (.int x65), some (.int x12), some (.int x68)] _ _ _
                      exact ez_Wp_out (ih.2 _ t i x6 x56 x65 x12 x68 F64 X61 (by first | trivial | omega) (by omega))
                    · have c67 : ¬ (x66.toInt ≤ n.toInt) := c67
                      refine gw_ld rfl rfl ?_
                      refine z_C (m := 6) rfl rfl (fun x69 ex69 => ?_)
                      refine z_cl rfl rfl rfl rfl rfl rfl rfl rfl rfl rfl rfl (zT X61.1 (by decide) rfl) ?_
                      exact k_fail X61 (zM F64 hM) (fun hh FF XX => Ke _ (zF_tr F64 FF) XX)
          · have c9 : ¬ (x6.toInt ≠ x8.toInt) := c9
            refine gw_ld rfl rfl ?_
            refine z_b1 (fun c70 => ?_) (fun c70 => ?_)
            · have c70 : t.toInt ≠ 0 := c70
              refine gw_skip _ ?_
              refine gw_ld rfl rfl ?_
              refine gw_st rfl rfl rfl ?_
              show ez_gw _ _ _ _ _ _ _ _ [some (.ref 69), some (.ref 2), some (.int n), some (.int t), some (.int i), some (.int x6), some (.int x6), l7, l8, l9] _ _ _
              refine z_C (m := 1) rfl rfl (fun x71 ex71 => ?_)
              refine gw_st rfl rfl rfl ?_
              show ez_gw _ _ _ _ _ _ _ _ [some (.ref 69), some (.ref 2), some (.int n), some (.int t), some (.int i), some (.int x6), some (.int x6), some (.int x71), l8, l9] _ _ _
              refine gw_ld rfl rfl ?_
              refine z_C (m := 16) rfl rfl (fun x72 ex72 => ?_)
              refine z_subW (fun x73 ex73 => ?_)
              have rx73 := z_rng x73
              have qx73 := congrArg Int32.toInt ex73
              refine gw_st rfl rfl rfl ?_
              show ez_gw _ _ _ _ _ _ _ _ [some (.ref 69), some (.ref 2), some (.int n), some (.int t), some (.int i), some (.int x6), some (.int x6), some (.int x71), some (.int x73), l9] _ _ _
              refine gw_ld rfl rfl ?_
              refine z_b1 (fun c74 => ?_) (fun c74 => ?_)
              · have c74 : x73.toInt < 0 := c74
                refine gw_skip _ ?_
                refine gw_ld rfl rfl ?_
                refine gw_ld rfl rfl ?_
                refine z_addW (fun x75 ex75 => ?_)
                have rx75 := z_rng x75
                have qx75 := congrArg Int32.toInt ex75
                refine gw_ld rfl rfl ?_
                refine z_b2 (fun c76 => ?_) (fun c76 => ?_)
                · have c76 : x75.toInt ≤ n.toInt := c76
                  refine gw_skip _ ?_
                  refine z_C (m := 0) rfl rfl (fun x77 ex77 => ?_)
                  refine gw_st rfl rfl rfl ?_
                  show ez_gw _ _ _ _ _ _ _ _ [some (.ref 69), some (.ref 2), some (.int n), some (.int t), some (.int i), some (.int x6), some (.int x6), some (.int x71), some (.int x73), some (.int x77)] _ _ _
                  exact ez_Wp_out (ih.2 _ t i x6 x6 x71 x73 x77 F7 X5 (by first | trivial | omega) (by omega))
                · have c76 : ¬ (x75.toInt ≤ n.toInt) := c76
                  refine gw_ld rfl rfl ?_
                  refine z_C (m := 6) rfl rfl (fun x78 ex78 => ?_)
                  refine z_cl rfl rfl rfl rfl rfl rfl rfl rfl rfl rfl rfl (zT X5.1 (by decide) rfl) ?_
                  exact k_fail X5 (zM F7 hM) (fun hh FF XX => Ke _ (zF_tr F7 FF) XX)
              · have c74 : ¬ (x73.toInt < 0) := c74
                refine gw_ld rfl rfl ?_
                refine z_gs ?_
                refine z_alE (n := 3) (by rw [hE 6]; rfl) (by omega) (fun x79 ex79 => ?_)
                refine z_b2 (fun c80 => ?_) (fun c80 => ?_)
                · have c80 : x79.toInt ≤ x73.toInt := c80
                  refine gw_skip _ ?_
                  refine gw_ld rfl rfl ?_
                  refine gw_ld rfl rfl ?_
                  refine z_addW (fun x81 ex81 => ?_)
                  have rx81 := z_rng x81
                  have qx81 := congrArg Int32.toInt ex81
                  refine gw_ld rfl rfl ?_
                  refine z_b2 (fun c82 => ?_) (fun c82 => ?_)
                  · have c82 : x81.toInt ≤ n.toInt := c82
                    refine gw_skip _ ?_
                    refine z_C (m := 0) rfl rfl (fun x83 ex83 => ?_)
                    refine gw_st rfl rfl rfl ?_
                    show ez_gw _ _ _ _ _ _ _ _ [some (.ref 69), some (.ref 2), some (.int n), some (.int t), some (.int i), some (.int x6), some (.int x6), some (.int x71), some (.int x73), some (.int x83)] _ _ _
                    exact ez_Wp_out (ih.2 _ t i x6 x6 x71 x73 x83 F7 X5 (by first | trivial | omega) (by omega))
                  · have c82 : ¬ (x81.toInt ≤ n.toInt) := c82
                    refine gw_ld rfl rfl ?_
                    refine z_C (m := 6) rfl rfl (fun x84 ex84 => ?_)
                    refine z_cl rfl rfl rfl rfl rfl rfl rfl rfl rfl rfl rfl (zT X5.1 (by decide) rfl) ?_
                    exact k_fail X5 (zM F7 hM) (fun hh FF XX => Ke _ (zF_tr F7 FF) XX)
                · have c80 : ¬ (x79.toInt ≤ x73.toInt) := c80
                  refine gw_ld rfl rfl ?_
                  refine z_b1 (fun c85 => ?_) (fun c85 => ?_)
                  · have c85 : x73.toInt ≠ 0 := c85
                    refine gw_skip _ ?_
                    refine z_C (m := 0) rfl rfl (fun x86 ex86 => ?_)
                    refine gw_st rfl rfl rfl ?_
                    show ez_gw _ _ _ _ _ _ _ _ [some (.ref 69), some (.ref 2), some (.int n), some (.int t), some (.int i), some (.int x6), some (.int x86), some (.int x71), some (.int x73), l9] _ _ _
                    refine z_gs ?_
                    refine gw_ld rfl rfl ?_
                    refine z_iaE (n := 3) (hE 6) (by omega) ?_
                    generalize ex87 : (tz_ar (6 + 1)).getD x73.toInt.toNat 0 = x87
                    have rx87 := z_rng x87
                    have qx87 := congrArg Int32.toInt ex87
                    refine gw_ld rfl rfl ?_
                    refine gw_ld rfl rfl ?_
                    refine z_gs ?_
                    refine gw_ld rfl rfl ?_
                    refine z_iaE (n := 3) (hE 8) (by omega) ?_
                    generalize ex88 : (tz_ar (8 + 1)).getD x73.toInt.toNat 0 = x88
                    have rx88 := z_rng x88
                    have qx88 := congrArg Int32.toInt ex88
                    refine z_cl rfl rfl rfl rfl rfl rfl rfl rfl rfl rfl rfl (zT X5.1 (by decide) rfl) ?_
                    refine k_takeBits X5 (zM F7 hM)  (fun hh FF XX => Ke _ (zF_tr F7 FF) XX) (fun h89 x93 F90 X91 k92 => ?_)
                    have rx93 := z_rng x93
                    have F94 := zF_tr F7 (zF_mono F90 (fun q hq => by first | exact hq | (unfold zX at *; omega) | omega))
                    refine z_addW (fun x95 ex95 => ?_)
                    have rx95 := z_rng x95
                    have qx95 := congrArg Int32.toInt ex95
                    refine gw_st rfl rfl rfl ?_
                    show ez_gw _ _ _ _ _ _ _ _ [some (.ref 69), some (.ref 2), some (.int n), some (.int t), some (.int i), some (.int x6), some (.int x86), some (.int x95), some (.int x73), l9] _ _ _
                    refine gw_ld rfl rfl ?_
                    refine gw_ld rfl rfl ?_
                    refine z_addW (fun x96 ex96 => ?_)
                    have rx96 := z_rng x96
                    have qx96 := congrArg Int32.toInt ex96
                    refine gw_ld rfl rfl ?_
                    refine z_b2 (fun c97 => ?_) (fun c97 => ?_)
                    · have c97 : x96.toInt ≤ n.toInt := c97
                      refine gw_skip _ ?_
                      refine z_C (m := 0) rfl rfl (fun x98 ex98 => ?_)
                      refine gw_st rfl rfl rfl ?_
                      show ez_gw _ _ _ _ _ _ _ _ [some (.ref 69), some (.ref 2), some (.int n), some (.int t), some (.int i), some (.int x6), some (.int x86), some (.int x95), some (.int x73), some (.int x98)] _ _ _
                      exact ez_Wp_out (ih.2 _ t i x6 x86 x95 x73 x98 F94 X91 (by first | trivial | omega) (by omega))
                    · have c97 : ¬ (x96.toInt ≤ n.toInt) := c97
                      refine gw_ld rfl rfl ?_
                      refine z_C (m := 6) rfl rfl (fun x99 ex99 => ?_)
                      refine z_cl rfl rfl rfl rfl rfl rfl rfl rfl rfl rfl rfl (zT X91.1 (by decide) rfl) ?_
                      exact k_fail X91 (zM F94 hM) (fun hh FF XX => Ke _ (zF_tr F94 FF) XX)
                  · have c85 : ¬ (x73.toInt ≠ 0) := c85
                    refine gw_ld rfl rfl ?_
                    refine z_b1 (fun c100 => ?_) (fun c100 => ?_)
                    · have c100 : t.toInt ≤ 0 := c100
                      refine gw_skip _ ?_
                      refine z_C (m := 0) rfl rfl (fun x101 ex101 => ?_)
                      refine gw_st rfl rfl rfl ?_
                      show ez_gw _ _ _ _ _ _ _ _ [some (.ref 69), some (.ref 2), some (.int n), some (.int t), some (.int i), some (.int x6), some (.int x101), some (.int x71), some (.int x73), l9] _ _ _
                      refine z_gs ?_
                      refine gw_ld rfl rfl ?_
                      refine z_iaE (n := 3) (hE 6) (by omega) ?_
                      generalize ex102 : (tz_ar (6 + 1)).getD x73.toInt.toNat 0 = x102
                      have rx102 := z_rng x102
                      have qx102 := congrArg Int32.toInt ex102
                      refine gw_ld rfl rfl ?_
                      refine gw_ld rfl rfl ?_
                      refine z_gs ?_
                      refine gw_ld rfl rfl ?_
                      refine z_iaE (n := 3) (hE 8) (by omega) ?_
                      generalize ex103 : (tz_ar (8 + 1)).getD x73.toInt.toNat 0 = x103
                      have rx103 := z_rng x103
                      have qx103 := congrArg Int32.toInt ex103
                      refine z_cl rfl rfl rfl rfl rfl rfl rfl rfl rfl rfl rfl (zT X5.1 (by decide) rfl) ?_
                      refine k_takeBits X5 (zM F7 hM)  (fun hh FF XX => Ke _ (zF_tr F7 FF) XX) (fun h104 x108 F105 X106 k107 => ?_)
                      have rx108 := z_rng x108
                      have F109 := zF_tr F7 (zF_mono F105 (fun q hq => by first | exact hq | (unfold zX at *; omega) | omega))
                      refine z_addW (fun x110 ex110 => ?_)
                      have rx110 := z_rng x110
                      have qx110 := congrArg Int32.toInt ex110
                      refine gw_st rfl rfl rfl ?_
                      show ez_gw _ _ _ _ _ _ _ _ [some (.ref 69), some (.ref 2), some (.int n), some (.int t), some (.int i), some (.int x6), some (.int x101), some (.int x110), some (.int x73), l9] _ _ _
                      refine gw_ld rfl rfl ?_
                      refine gw_ld rfl rfl ?_
                      refine z_addW (fun x111 ex111 => ?_)
                      have rx111 := z_rng x111
                      have qx111 := congrArg Int32.toInt ex111
                      refine gw_ld rfl rfl ?_
                      refine z_b2 (fun c112 => ?_) (fun c112 => ?_)
                      · have c112 : x111.toInt ≤ n.toInt := c112
                        refine gw_skip _ ?_
                        refine z_C (m := 0) rfl rfl (fun x113 ex113 => ?_)
                        refine gw_st rfl rfl rfl ?_
                        show ez_gw _ _ _ _ _ _ _ _ [some (.ref 69), some (.ref 2), some (.int n), some (.int t), some (.int i), some (.int x6), some (.int x101), some (.int x110), some (.int x73), some (.int x113)] _ _ _
                        exact ez_Wp_out (ih.2 _ t i x6 x101 x110 x73 x113 F109 X106 (by first | trivial | omega) (by omega))
                      · have c112 : ¬ (x111.toInt ≤ n.toInt) := c112
                        refine gw_ld rfl rfl ?_
                        refine z_C (m := 6) rfl rfl (fun x114 ex114 => ?_)
                        refine z_cl rfl rfl rfl rfl rfl rfl rfl rfl rfl rfl rfl (zT X106.1 (by decide) rfl) ?_
                        exact k_fail X106 (zM F109 hM) (fun hh FF XX => Ke _ (zF_tr F109 FF) XX)
                    · have c100 : ¬ (t.toInt ≤ 0) := c100
                      refine gw_ld rfl rfl ?_
                      refine z_gR (q := 70) (zT X5.1 (by decide) rfl) (zRf X5.1 (by decide) (by decide) rfl) (by decide) ?_
                      refine gw_ld rfl rfl ?_
                      refine z_C (m := 1) rfl rfl (fun x115 ex115 => ?_)
                      first | refine z_sub (by omega) (fun x116 ex116 => ?_) | refine z_subW (fun x116 ex116 => ?_)
                      have rx116 := z_rng x116
                      refine z_ia (n := 316) (zT X5.1 (by decide) rfl) (zN X5.1 (by decide) rfl) (by omega) ?_
                      generalize ex117 : ez_I h3 70 x116.toInt.toNat = x117
                      have rx117 := z_rng x117
                      have qx117 := congrArg Int32.toInt ex117
                      refine z_go ?_
                      refine gw_skip _ ?_
                      refine gw_st rfl rfl rfl ?_
                      show ez_gw _ _ _ _ _ _ _ _ [some (.ref 69), some (.ref 2), some (.int n), some (.int t), some (.int i), some (.int x6), some (.int x117), some (.int x71), some (.int x73), l9] _ _ _
                      refine z_gs ?_
                      refine gw_ld rfl rfl ?_
                      refine z_iaE (n := 3) (hE 6) (by omega) ?_
                      generalize ex118 : (tz_ar (6 + 1)).getD x73.toInt.toNat 0 = x118
                      have rx118 := z_rng x118
                      have qx118 := congrArg Int32.toInt ex118
                      refine gw_ld rfl rfl ?_
                      refine gw_ld rfl rfl ?_
                      refine z_gs ?_
                      refine gw_ld rfl rfl ?_
                      refine z_iaE (n := 3) (hE 8) (by omega) ?_
                      generalize ex119 : (tz_ar (8 + 1)).getD x73.toInt.toNat 0 = x119
                      have rx119 := z_rng x119
                      have qx119 := congrArg Int32.toInt ex119
                      refine z_cl rfl rfl rfl rfl rfl rfl rfl rfl rfl rfl rfl (zT X5.1 (by decide) rfl) ?_
                      refine k_takeBits X5 (zM F7 hM)  (fun hh FF XX => Ke _ (zF_tr F7 FF) XX) (fun h120 x124 F121 X122 k123 => ?_)
                      have rx124 := z_rng x124
                      have F125 := zF_tr F7 (zF_mono F121 (fun q hq => by first | exact hq | (unfold zX at *; omega) | omega))
                      refine z_addW (fun x126 ex126 => ?_)
                      have rx126 := z_rng x126
                      have qx126 := congrArg Int32.toInt ex126
                      refine gw_st rfl rfl rfl ?_
                      show ez_gw _ _ _ _ _ _ _ _ [some (.ref 69), some (.ref 2), some (.int n), some (.int t), some (.int i), some (.int x6), some (.int x117), some (.int x126), some (.int x73), l9] _ _ _
                      refine gw_ld rfl rfl ?_
                      refine gw_ld rfl rfl ?_
                      refine z_addW (fun x127 ex127 => ?_)
                      have rx127 := z_rng x127
                      have qx127 := congrArg Int32.toInt ex127
                      refine gw_ld rfl rfl ?_
                      refine z_b2 (fun c128 => ?_) (fun c128 => ?_)
                      · have c128 : x127.toInt ≤ n.toInt := c128
                        refine gw_skip _ ?_
                        refine z_C (m := 0) rfl rfl (fun x129 ex129 => ?_)
                        refine gw_st rfl rfl rfl ?_
                        show ez_gw _ _ _ _ _ _ _ _ [some (.ref 69), some (.ref 2), some (.int n), some (.int t), some (.int i), some (.int x6), some (.int x117), some (.int x126), some (.int x73), some (.int x129)] _ _ _
                        exact ez_Wp_out (ih.2 _ t i x6 x117 x126 x73 x129 F125 X122 (by first | trivial | omega) (by omega))
                      · have c128 : ¬ (x127.toInt ≤ n.toInt) := c128
                        refine gw_ld rfl rfl ?_
                        refine z_C (m := 6) rfl rfl (fun x130 ex130 => ?_)
                        refine z_cl rfl rfl rfl rfl rfl rfl rfl rfl rfl rfl rfl (zT X122.1 (by decide) rfl) ?_
                        exact k_fail X122 (zM F125 hM) (fun hh FF XX => Ke _ (zF_tr F125 FF) XX)
            · have c70 : ¬ (t.toInt ≠ 0) := c70
              refine gw_ld rfl rfl ?_
              refine z_C (m := 6) rfl rfl (fun x131 ex131 => ?_)
              refine z_cl rfl rfl rfl rfl rfl rfl rfl rfl rfl rfl rfl (zT X5.1 (by decide) rfl) ?_
              exact k_fail X5 (zM F7 hM) (fun hh FF XX => Ke _ (zF_tr F7 FF) XX)
    · skip
      have w0 := z_rng i
      have w1 := z_rng j
      have w2 := z_rng n
      have w3 := z_rng a7
      have gn := z_rng n
      apply ez_Wp_in
      show ez_gw _ _ _ _ _ _ (cz_137) _ _ _ _ _
      refine gw_skip _ ?_
      refine gw_ld rfl rfl ?_
      refine gw_ld rfl rfl ?_
      refine z_b2 (fun c132 => ?_) (fun c132 => ?_)
      · have c132 : a7.toInt ≤ j.toInt := c132
        refine gw_skip _ ?_
        first | (refine z_inc rfl (by rw [show (1 : Int32).toInt = 1 from rfl]; omega) (fun x133 ex133 => ?_); rw [show (1 : Int32).toInt = 1 from rfl] at ex133) | refine z_incW rfl (fun x133 ex133 => ?_)
        have rx133 := z_rng x133
        show ez_gw _ _ _ _ _ _ _ _ [some (.ref 69), some (.ref 2), some (.int n), some (.int t), some (.int x133), some (.int a5), some (.int a6), some (.int a7), some (.int a8), some (.int j)] _ _ _
        refine z_go ?_
        exact ih.1 _ t x133 (some (.int a5)) (some (.int a6)) (some (.int a7)) (some (.int a8)) (some (.int j)) F X2 (by first | trivial | omega) (by omega)
      · have c132 : ¬ (a7.toInt ≤ j.toInt) := c132
        refine gw_ld rfl rfl ?_
        refine gw_ld rfl rfl ?_
        refine z_gR (q := 70) (zT X2.1 (by decide) rfl) (zRf X2.1 (by decide) (by decide) rfl) (by decide) ?_
        refine z_al (n := 316) (.inl (zT X2.1 (by decide) rfl)) (zN X2.1 (by decide) rfl) (by omega) (fun x134 ex134 => ?_)
        refine z_b2 (fun c135 => ?_) (fun c135 => ?_)
        · have c135 : x134.toInt ≤ t.toInt := c135
          refine gw_skip _ ?_
          first | (refine z_inc rfl (by rw [show (1 : Int32).toInt = 1 from rfl]; omega) (fun x136 ex136 => ?_); rw [show (1 : Int32).toInt = 1 from rfl] at ex136) | refine z_incW rfl (fun x136 ex136 => ?_)
          have rx136 := z_rng x136
          show ez_gw _ _ _ _ _ _ _ _ [some (.ref 69), some (.ref 2), some (.int n), some (.int t), some (.int x136), some (.int a5), some (.int a6), some (.int a7), some (.int a8), some (.int j)] _ _ _
          refine z_go ?_
          exact ih.1 _ t x136 (some (.int a5)) (some (.int a6)) (some (.int a7)) (some (.int a8)) (some (.int j)) F X2 (by first | trivial | omega) (by omega)
        · have c135 : ¬ (x134.toInt ≤ t.toInt) := c135
          refine gw_ld rfl rfl ?_
          refine z_gR (q := 70) (zT X2.1 (by decide) rfl) (zRf X2.1 (by decide) (by decide) rfl) (by decide) ?_
          refine gw_ld rfl rfl ?_
          refine gw_ld rfl rfl ?_
          refine z_is (n := 316) (zT X2.1 (by decide) rfl) (zN X2.1 (by decide) rfl) (by omega) (fun h137 e138 => ?_)
          have X139 := xI_set X2 e138 (xW_of (by decide))
          have F140 := zF_set F e138 (by unfold zX; omega)
          first | (refine z_inc rfl (by rw [show (1 : Int32).toInt = 1 from rfl]; omega) (fun x141 ex141 => ?_); rw [show (1 : Int32).toInt = 1 from rfl] at ex141) | refine z_incW rfl (fun x141 ex141 => ?_)
          have rx141 := z_rng x141
          show ez_gw _ _ _ _ _ _ _ _ [some (.ref 69), some (.ref 2), some (.int n), some (.int x141), some (.int i), some (.int a5), some (.int a6), some (.int a7), some (.int a8), some (.int j)] _ _ _
          first | (refine z_inc rfl (by rw [show (1 : Int32).toInt = 1 from rfl]; omega) (fun x142 ex142 => ?_); rw [show (1 : Int32).toInt = 1 from rfl] at ex142) | refine z_incW rfl (fun x142 ex142 => ?_)
          have rx142 := z_rng x142
          show ez_gw _ _ _ _ _ _ _ _ [some (.ref 69), some (.ref 2), some (.int n), some (.int x141), some (.int i), some (.int a5), some (.int a6), some (.int a7), some (.int a8), some (.int x142)] _ _ _
          refine z_go ?_
          exact ih.2 _ x141 i a5 a6 a7 a8 x142 F140 X139 (by first | trivial | omega) (by omega)
set_option maxRecDepth 4000 in
set_option maxHeartbeats 20000000 in
theorem k_rRow {E : Nat → Nat × (Nat → Int32)} {d : Nat} {Q : ez_Q} {h : ez_H} {n : Int32} (X : xI h) (hE : zE E) (hM : zMem h) (Ke : ∀ h2, zF zX h h2 → xI h2 → Q (.inr 2) (ez_bump h2)) (K : ∀ h2, zF (zX) h h2 → xI h2 → Q (.inl none) h2) : pw E (d + 3) 137 0 [some (.ref 69), some (.ref 2), some (.int n), none, none, none, none, none, none, none] [] h Q := by
  have gn := z_rng n
  have F := zF_refl (zX) h
  apply ez_Wp_in
  show ez_gw _ _ _ _ _ _ (cz_137) _ _ _ _ _
  refine gw_skip _ ?_
  refine z_C (m := 0) rfl rfl (fun x1 ex1 => ?_)
  refine gw_st rfl rfl rfl ?_
  show ez_gw _ _ _ _ _ _ _ _ [some (.ref 69), some (.ref 2), some (.int n), some (.int x1), none, none, none, none, none, none] _ _ _
  refine z_C (m := 0) rfl rfl (fun x2 ex2 => ?_)
  refine gw_st rfl rfl rfl ?_
  show ez_gw _ _ _ _ _ _ _ _ [some (.ref 69), some (.ref 2), some (.int n), some (.int x1), some (.int x2), none, none, none, none, none] _ _ _
  exact ez_Wp_out ((k_rRow_L (n := n) X hE hM Ke K ((((2147483647 - x2.toInt) * 10000000000)).toNat + 1)).1 _ x1 x2 (none) (none) (none) (none) (none) F X (by first | trivial | omega) (by omega))
set_option maxRecDepth 4000 in
set_option maxHeartbeats 20000000 in
theorem k_rMatch_L {E : Nat → Nat × (Nat → Int32)} {d : Nat} {Q : ez_Q} {h : ez_H} {k : Int32} {p : Nat} (X : xI h) (hE : zE E) (hp : p = 15 ∨ p = 22 ∨ p = 29 ∨ p = 36 ∨ p = 43) (hM : zMem h) (Ke : ∀ h2, zF zX h h2 → xI h2 → Q (.inr 2) (ez_bump h2)) (K : ∀ h2, zF (zX) h h2 → xI h2 → Q (.inl none) h2) : ∀ N : Nat, (∀ (h2 : ez_H) (a : Int32) (b : Int32) (c : Int32) (i : Int32), zF (zX) h h2 → xI h2 → (0 ≤ i.toInt ∧ 1 ≤ c.toInt ∧ c.toInt ≤ (ez_I h2 50 1).toInt) → (2147483647 - i.toInt) < (N : Int) → pw E (d + 3) 139 105 [some (.ref 69), some (.ref 2), some (.int k), some (.ref p), some (.int a), some (.int b), some (.int c), some (.int i)] [] h2 Q) := by
  intro N
  induction N with
  | zero => exact fun h2 a b c i F X2 hinv hm => absurd hm (by have w0 := z_rng i; have w1 := z_rng a; omega)
  | succ N ih =>
    refine fun h2 a b c i F X2 hinv hm => ?_
    · skip
      have w0 := z_rng i
      have w1 := z_rng a
      have gk := z_rng k
      apply ez_Wp_in
      show ez_gw _ _ _ _ _ _ (cz_139) _ _ _ _ _
      refine gw_skip _ ?_
      refine gw_ld rfl rfl ?_
      refine gw_ld rfl rfl ?_
      refine z_b2 (fun c1 => ?_) (fun c1 => ?_)
      · have c1 : a.toInt ≤ i.toInt := c1
        refine gw_skip _ ?_
        refine z_rv ?_
        exact K _ F X2
      · have c1 : ¬ (a.toInt ≤ i.toInt) := c1
        refine gw_ld rfl rfl ?_
        refine gw_ld rfl rfl ?_
        refine z_gR (q := 50) (zT X2.1 (by decide) rfl) (zRf X2.1 (by decide) (by decide) rfl) (by decide) ?_
        refine z_gR (q := 51) (zT X2.1 (by decide) rfl) (zRf X2.1 (by decide) (by decide) rfl) (by decide) ?_
        refine gw_ld rfl rfl ?_
        refine z_gR (q := 50) (zT X2.1 (by decide) rfl) (zRf X2.1 (by decide) (by decide) rfl) (by decide) ?_
        have r2 := X2.2.2.2.1
        refine z_gI2 (by decide) (zT X2.1 (by decide) rfl) (rfl) ?_
        refine gw_ld rfl rfl ?_
        first | refine z_sub (by omega) (fun x3 ex3 => ?_) | refine z_subW (fun x3 ex3 => ?_)
        have rx3 := z_rng x3
        refine z_ia (n := 6100) (zT X2.1 (by decide) rfl) (zN X2.1 (by decide) rfl) (by omega) ?_
        generalize ex4 : ez_I h2 51 x3.toInt.toNat = x4
        have rx4 := z_rng x4
        have qx4 := congrArg Int32.toInt ex4
        refine z_cl rfl rfl rfl rfl rfl rfl rfl rfl rfl rfl rfl (zT X2.1 (by decide) rfl) ?_
        refine k_putByte X2 (zM F hM)  (fun hh FF XX => Ke _ (zF_tr F FF) XX) (fun h5  F6 X7 k8 => ?_)
        have F9 := zF_tr F (zF_mono F6 (fun q hq => by first | exact hq | (unfold zX at *; omega) | omega))
        first | (refine z_inc rfl (by rw [show (1 : Int32).toInt = 1 from rfl]; omega) (fun x10 ex10 => ?_); rw [show (1 : Int32).toInt = 1 from rfl] at ex10) | refine z_incW rfl (fun x10 ex10 => ?_)
        have rx10 := z_rng x10
        show ez_gw _ _ _ _ _ _ _ _ [some (.ref 69), some (.ref 2), some (.int k), some (.ref p), some (.int a), some (.int b), some (.int c), some (.int x10)] _ _ _
        refine z_go ?_
        exact ih _ a b c x10 F9 X7 (by first | trivial | omega) (by omega)
set_option maxRecDepth 4000 in
set_option maxHeartbeats 20000000 in
theorem k_rMatch {E : Nat → Nat × (Nat → Int32)} {d : Nat} {Q : ez_Q} {h : ez_H} {k : Int32} {p : Nat} (X : xI h) (hE : zE E) (hp : p = 15 ∨ p = 22 ∨ p = 29 ∨ p = 36 ∨ p = 43) (hM : zMem h) (Ke : ∀ h2, zF zX h h2 → xI h2 → Q (.inr 2) (ez_bump h2)) (K : ∀ h2, zF (zX) h h2 → xI h2 → Q (.inl none) h2) : pw E (d + 3) 139 0 [some (.ref 69), some (.ref 2), some (.int k), some (.ref p), none, none, none, none] [] h Q := by
  have gk := z_rng k
  have F := zF_refl (zX) h
  apply ez_Wp_in
  show ez_gw _ _ _ _ _ _ (cz_139) _ _ _ _ _
  refine gw_skip _ ?_
  refine gw_ld rfl rfl ?_
  refine z_b1 (fun c1 => ?_) (fun c1 => ?_)
  · have c1 : k.toInt < 0 := c1
    refine gw_skip _ ?_
    refine gw_ld rfl rfl ?_
    refine z_C (m := 7) rfl rfl (fun x2 ex2 => ?_)
    refine z_cl rfl rfl rfl rfl rfl rfl rfl rfl rfl rfl rfl (zT X.1 (by decide) rfl) ?_
    exact k_fail X (zM F hM) (fun hh FF XX => Ke _ (zF_tr F FF) XX)
  · have c1 : ¬ (k.toInt < 0) := c1
    refine gw_ld rfl rfl ?_
    refine z_gs ?_
    refine z_alE (n := 29) (by rw [hE 1]; rfl) (by omega) (fun x3 ex3 => ?_)
    refine z_b2 (fun c4 => ?_) (fun c4 => ?_)
    · have c4 : k.toInt < x3.toInt := c4
      refine gw_skip _ ?_
      refine z_gs ?_
      refine gw_ld rfl rfl ?_
      refine z_iaE (n := 29) (hE 1) (by omega) ?_
      generalize ex5 : (tz_ar (1 + 1)).getD k.toInt.toNat 0 = x5
      have rx5 := z_rng x5
      have qx5 := congrArg Int32.toInt ex5
      refine gw_ld rfl rfl ?_
      refine gw_ld rfl rfl ?_
      refine z_gs ?_
      refine gw_ld rfl rfl ?_
      refine z_iaE (n := 29) (hE 3) (by omega) ?_
      generalize ex6 : (tz_ar (3 + 1)).getD k.toInt.toNat 0 = x6
      have rx6 := z_rng x6
      have qx6 := congrArg Int32.toInt ex6
      refine z_cl rfl rfl rfl rfl rfl rfl rfl rfl rfl rfl rfl (zT X.1 (by decide) rfl) ?_
      refine k_takeBits X (zM F hM)  (fun hh FF XX => Ke _ (zF_tr F FF) XX) (fun h7 x11 F8 X9 k10 => ?_)
      have rx11 := z_rng x11
      have F12 := zF_tr F (zF_mono F8 (fun q hq => by first | exact hq | (unfold zX at *; omega) | omega))
      first | refine z_add (by omega) (fun x13 ex13 => ?_) | refine z_addW (fun x13 ex13 => ?_)
      have rx13 := z_rng x13
      refine gw_st rfl rfl rfl ?_
      show ez_gw _ _ _ _ _ _ _ _ [some (.ref 69), some (.ref 2), some (.int k), some (.ref p), some (.int x13), none, none, none] _ _ _
      refine gw_ld rfl rfl ?_
      refine gw_ld rfl rfl ?_
      refine gw_ld rfl rfl ?_
      refine z_cl rfl rfl rfl rfl rfl rfl rfl rfl rfl rfl rfl (zT X9.1 (by decide) rfl) ?_
      refine k_takeSym (p := p) X9 (by omega) (zM F12 hM) (fun hh FF XX => Ke _ (zF_tr F12 FF) XX) (fun h14 x17 F15 X16 => ?_)
      have rx17 := z_rng x17
      have F18 := zF_tr F12 (zF_mono F15 (fun q hq => by first | exact hq | (unfold zX at *; omega) | omega))
      refine gw_st rfl rfl rfl ?_
      show ez_gw _ _ _ _ _ _ _ _ [some (.ref 69), some (.ref 2), some (.int k), some (.ref p), some (.int x13), some (.int x17), none, none] _ _ _
      refine gw_ld rfl rfl ?_
      refine z_b1 (fun c19 => ?_) (fun c19 => ?_)
      · have c19 : x17.toInt < 0 := c19
        refine gw_skip _ ?_
        refine gw_ld rfl rfl ?_
        refine z_C (m := 7) rfl rfl (fun x20 ex20 => ?_)
        refine z_cl rfl rfl rfl rfl rfl rfl rfl rfl rfl rfl rfl (zT X16.1 (by decide) rfl) ?_
        exact k_fail X16 (zM F18 hM) (fun hh FF XX => Ke _ (zF_tr F18 FF) XX)
      · have c19 : ¬ (x17.toInt < 0) := c19
        refine gw_ld rfl rfl ?_
        refine z_gs ?_
        refine z_alE (n := 30) (by rw [hE 2]; rfl) (by omega) (fun x21 ex21 => ?_)
        refine z_b2 (fun c22 => ?_) (fun c22 => ?_)
        · have c22 : x17.toInt < x21.toInt := c22
          refine gw_skip _ ?_
          refine z_gs ?_
          refine gw_ld rfl rfl ?_
          refine z_iaE (n := 30) (hE 2) (by omega) ?_
          generalize ex23 : (tz_ar (2 + 1)).getD x17.toInt.toNat 0 = x23
          have rx23 := z_rng x23
          have qx23 := congrArg Int32.toInt ex23
          have ox23 := z_dist (n := x17.toInt.toNat) (by omega)
          refine gw_ld rfl rfl ?_
          refine gw_ld rfl rfl ?_
          refine z_gs ?_
          refine gw_ld rfl rfl ?_
          refine z_iaE (n := 30) (hE 4) (by omega) ?_
          generalize ex24 : (tz_ar (4 + 1)).getD x17.toInt.toNat 0 = x24
          have rx24 := z_rng x24
          have qx24 := congrArg Int32.toInt ex24
          have ox24 := z_xd (n := x17.toInt.toNat) (by omega)
          refine z_cl rfl rfl rfl rfl rfl rfl rfl rfl rfl rfl rfl (zT X16.1 (by decide) rfl) ?_
          refine k_takeBits X16 (zM F18 hM)  (fun hh FF XX => Ke _ (zF_tr F18 FF) XX) (fun h25 x29 F26 X27 k28 => ?_)
          have rx29 := z_rng x29
          have F30 := zF_tr F18 (zF_mono F26 (fun q hq => by first | exact hq | (unfold zX at *; omega) | omega))
          first | refine z_add (by omega) (fun x31 ex31 => ?_) | refine z_addW (fun x31 ex31 => ?_)
          have rx31 := z_rng x31
          refine gw_st rfl rfl rfl ?_
          show ez_gw _ _ _ _ _ _ _ _ [some (.ref 69), some (.ref 2), some (.int k), some (.ref p), some (.int x13), some (.int x17), some (.int x31), none] _ _ _
          refine gw_ld rfl rfl ?_
          refine gw_ld rfl rfl ?_
          refine z_gR (q := 50) (zT X27.1 (by decide) rfl) (zRf X27.1 (by decide) (by decide) rfl) (by decide) ?_
          have r32 := X27.2.2.2.1
          refine z_gI2 (by decide) (zT X27.1 (by decide) rfl) (rfl) ?_
          refine z_b2 (fun c33 => ?_) (fun c33 => ?_)
          · have c33 : x31.toInt ≤ ((ez_I h25 50 1)).toInt := c33
            refine gw_skip _ ?_
            refine z_C (m := 0) rfl rfl (fun x34 ex34 => ?_)
            refine gw_st rfl rfl rfl ?_
            show ez_gw _ _ _ _ _ _ _ _ [some (.ref 69), some (.ref 2), some (.int k), some (.ref p), some (.int x13), some (.int x17), some (.int x31), some (.int x34)] _ _ _
            exact ez_Wp_out ((k_rMatch_L (k := k) X hE hp hM Ke K (((2147483647 - x34.toInt)).toNat + 1)) _ x13 x17 x31 x34 F30 X27 (by first | trivial | omega) (by omega))
          · have c33 : ¬ (x31.toInt ≤ ((ez_I h25 50 1)).toInt) := c33
            refine gw_ld rfl rfl ?_
            refine z_C (m := 8) rfl rfl (fun x35 ex35 => ?_)
            refine z_cl rfl rfl rfl rfl rfl rfl rfl rfl rfl rfl rfl (zT X27.1 (by decide) rfl) ?_
            exact k_fail X27 (zM F30 hM) (fun hh FF XX => Ke _ (zF_tr F30 FF) XX)
        · have c22 : ¬ (x17.toInt < x21.toInt) := c22
          refine gw_ld rfl rfl ?_
          refine z_C (m := 7) rfl rfl (fun x36 ex36 => ?_)
          refine z_cl rfl rfl rfl rfl rfl rfl rfl rfl rfl rfl rfl (zT X16.1 (by decide) rfl) ?_
          exact k_fail X16 (zM F18 hM) (fun hh FF XX => Ke _ (zF_tr F18 FF) XX)
    · have c4 : ¬ (k.toInt < x3.toInt) := c4
      refine gw_ld rfl rfl ?_
      refine z_C (m := 7) rfl rfl (fun x37 ex37 => ?_)
      refine z_cl rfl rfl rfl rfl rfl rfl rfl rfl rfl rfl rfl (zT X.1 (by decide) rfl) ?_
      exact k_fail X (zM F hM) (fun hh FF XX => Ke _ (zF_tr F FF) XX)
set_option maxRecDepth 4000 in
set_option maxHeartbeats 20000000 in
theorem k_rParts_L {E : Nat → Nat × (Nat → Int32)} {d : Nat} {Q : ez_Q} {h : ez_H} {p : Nat} {q : Nat} (X : xI h) (hE : zE E) (hp : p = 15 ∨ p = 22 ∨ p = 29 ∨ p = 36 ∨ p = 43) (hq : q = 15 ∨ q = 22 ∨ q = 29 ∨ q = 36 ∨ q = 43) (hM : zMem h) (Ke : ∀ h2, zF zX h h2 → xI h2 → Q (.inr 2) (ez_bump h2)) (K : ∀ h2, zF (zX) h h2 → xI h2 → Q (.inl none) h2) : ∀ N : Nat, (∀ (h2 : ez_H) (i : Int32) (l5 : Option Value), zF (zX) h h2 → xI h2 → (0 ≤ i.toInt) → (2147483647 - i.toInt) < (N : Int) → pw E (d + 4) 138 3 [some (.ref 69), some (.ref 2), some (.ref p), some (.ref q), some (.int i), l5] [] h2 Q) := by
  intro N
  induction N with
  | zero => exact fun h2 i l5 F X2 hinv hm => absurd hm (by have w0 := z_rng i; omega)
  | succ N ih =>
    refine fun h2 i l5 F X2 hinv hm => ?_
    · skip
      have w0 := z_rng i
      apply ez_Wp_in
      show ez_gw _ _ _ _ _ _ (cz_138) _ _ _ _ _
      refine gw_skip _ ?_
      refine gw_ld rfl rfl ?_
      refine z_C (m := 48000) rfl rfl (fun x1 ex1 => ?_)
      refine z_b2 (fun c2 => ?_) (fun c2 => ?_)
      · have c2 : x1.toInt < i.toInt := c2
        refine gw_skip _ ?_
        refine z_rv ?_
        exact K _ F X2
      · have c2 : ¬ (x1.toInt < i.toInt) := c2
        refine gw_ld rfl rfl ?_
        refine gw_ld rfl rfl ?_
        refine gw_ld rfl rfl ?_
        refine z_cl rfl rfl rfl rfl rfl rfl rfl rfl rfl rfl rfl (zT X2.1 (by decide) rfl) ?_
        refine k_takeSym (p := p) X2 (by omega) (zM F hM) (fun hh FF XX => Ke _ (zF_tr F FF) XX) (fun h3 x6 F4 X5 => ?_)
        have rx6 := z_rng x6
        have F7 := zF_tr F (zF_mono F4 (fun q hq => by first | exact hq | (unfold zX at *; omega) | omega))
        refine gw_st rfl rfl rfl ?_
        show ez_gw _ _ _ _ _ _ _ _ [some (.ref 69), some (.ref 2), some (.ref p), some (.ref q), some (.int i), some (.int x6)] _ _ _
        refine gw_ld rfl rfl ?_
        refine z_C (m := 256) rfl rfl (fun x8 ex8 => ?_)
        refine z_b2 (fun c9 => ?_) (fun c9 => ?_)
        · have c9 : x6.toInt ≠ x8.toInt := c9
          refine gw_skip _ ?_
          refine gw_ld rfl rfl ?_
          refine z_C (m := 256) rfl rfl (fun x10 ex10 => ?_)
          refine z_b2 (fun c11 => ?_) (fun c11 => ?_)
          · have c11 : x10.toInt ≤ x6.toInt := c11
            refine gw_skip _ ?_
            refine gw_ld rfl rfl ?_
            refine gw_ld rfl rfl ?_
            refine gw_ld rfl rfl ?_
            refine z_C (m := 257) rfl rfl (fun x12 ex12 => ?_)
            first | refine z_sub (by omega) (fun x13 ex13 => ?_) | refine z_subW (fun x13 ex13 => ?_)
            have rx13 := z_rng x13
            refine gw_ld rfl rfl ?_
            refine z_cl rfl rfl rfl rfl rfl rfl rfl rfl rfl rfl rfl (zT X5.1 (by decide) rfl) ?_
            refine k_rMatch X5 hE (p := q) (by omega) (zM F7 hM) (fun hh FF XX => Ke _ (zF_tr F7 FF) XX) (fun h14 F15 X16 => ?_)
            have F17 := zF_tr F7 (zF_mono F15 (fun q hq => by first | exact hq | (unfold zX at *; omega) | omega))
            first | (refine z_inc rfl (by rw [show (1 : Int32).toInt = 1 from rfl]; omega) (fun x18 ex18 => ?_); rw [show (1 : Int32).toInt = 1 from rfl] at ex18) | refine z_incW rfl (fun x18 ex18 => ?_)
            have rx18 := z_rng x18
            show ez_gw _ _ _ _ _ _ _ _ [some (.ref 69), some (.ref 2), some (.ref p), some (.ref q), some (.int x18), some (.int x6)] _ _ _
            refine z_go ?_
            exact ih _ x18 (some (.int x6)) F17 X16 (by first | trivial | omega) (by omega)
          · have c11 : ¬ (x10.toInt ≤ x6.toInt) := c11
            refine gw_ld rfl rfl ?_
            refine gw_ld rfl rfl ?_
            refine z_cl rfl rfl rfl rfl rfl rfl rfl rfl rfl rfl rfl (zT X5.1 (by decide) rfl) ?_
            refine k_putByte X5 (zM F7 hM)  (fun hh FF XX => Ke _ (zF_tr F7 FF) XX) (fun h19  F20 X21 k22 => ?_)
            have F23 := zF_tr F7 (zF_mono F20 (fun q hq => by first | exact hq | (unfold zX at *; omega) | omega))
            refine z_go ?_
            refine gw_skip _ ?_
            first | (refine z_inc rfl (by rw [show (1 : Int32).toInt = 1 from rfl]; omega) (fun x24 ex24 => ?_); rw [show (1 : Int32).toInt = 1 from rfl] at ex24) | refine z_incW rfl (fun x24 ex24 => ?_)
            have rx24 := z_rng x24
            show ez_gw _ _ _ _ _ _ _ _ [some (.ref 69), some (.ref 2), some (.ref p), some (.ref q), some (.int x24), some (.int x6)] _ _ _
            refine z_go ?_
            exact ih _ x24 (some (.int x6)) F23 X21 (by first | trivial | omega) (by omega)
        · have c9 : ¬ (x6.toInt ≠ x8.toInt) := c9
          refine z_rv ?_
          exact K _ F7 X5
set_option maxRecDepth 4000 in
set_option maxHeartbeats 20000000 in
theorem k_rParts {E : Nat → Nat × (Nat → Int32)} {d : Nat} {Q : ez_Q} {h : ez_H} {p : Nat} {q : Nat} (X : xI h) (hE : zE E) (hp : p = 15 ∨ p = 22 ∨ p = 29 ∨ p = 36 ∨ p = 43) (hq : q = 15 ∨ q = 22 ∨ q = 29 ∨ q = 36 ∨ q = 43) (hM : zMem h) (Ke : ∀ h2, zF zX h h2 → xI h2 → Q (.inr 2) (ez_bump h2)) (K : ∀ h2, zF (zX) h h2 → xI h2 → Q (.inl none) h2) : pw E (d + 4) 138 0 [some (.ref 69), some (.ref 2), some (.ref p), some (.ref q), none, none] [] h Q := by
  have F := zF_refl (zX) h
  apply ez_Wp_in
  show ez_gw _ _ _ _ _ _ (cz_138) _ _ _ _ _
  refine gw_skip _ ?_
  refine z_C (m := 0) rfl rfl (fun x1 ex1 => ?_)
  refine gw_st rfl rfl rfl ?_
  show ez_gw _ _ _ _ _ _ _ _ [some (.ref 69), some (.ref 2), some (.ref p), some (.ref q), some (.int x1), none] _ _ _
  exact ez_Wp_out ((k_rParts_L X hE hp hq hM Ke K (((2147483647 - x1.toInt)).toNat + 1)) _ x1 (none) F X (by first | trivial | omega) (by omega))
set_option maxRecDepth 4000 in
set_option maxHeartbeats 20000000 in
theorem k_rHead {E : Nat → Nat × (Nat → Int32)} {d : Nat} {Q : ez_Q} {h : ez_H}  (X : xI h) (hE : zE E) (hM : zMem h) (Ke : ∀ h2, zF zX h h2 → xI h2 → Q (.inr 2) (ez_bump h2)) (K : ∀ h2, zF (zX) h h2 → xI h2 → Q (.inl none) h2) : pw E (d + 4) 135 0 [some (.ref 69), some (.ref 2), none, none, none] [] h Q := by
  have F := zF_refl (zX) h
  apply ez_Wp_in
  show ez_gw _ _ _ _ _ _ (cz_135) _ _ _ _ _
  refine gw_skip _ ?_
  refine z_C (m := 257) rfl rfl (fun x1 ex1 => ?_)
  refine gw_ld rfl rfl ?_
  refine gw_ld rfl rfl ?_
  refine z_C (m := 5) rfl rfl (fun x2 ex2 => ?_)
  refine z_cl rfl rfl rfl rfl rfl rfl rfl rfl rfl rfl rfl (zT X.1 (by decide) rfl) ?_
  refine k_takeBits X (zM F hM)  (fun hh FF XX => Ke _ (zF_tr F FF) XX) (fun h3 x7 F4 X5 k6 => ?_)
  have rx7 := z_rng x7
  have F8 := zF_tr F (zF_mono F4 (fun q hq => by first | exact hq | (unfold zX at *; omega) | omega))
  replace k6 := k6 (by omega)
  first | refine z_add (by omega) (fun x9 ex9 => ?_) | refine z_addW (fun x9 ex9 => ?_)
  have rx9 := z_rng x9
  refine gw_st rfl rfl rfl ?_
  show ez_gw _ _ _ _ _ _ _ _ [some (.ref 69), some (.ref 2), some (.int x9), none, none] _ _ _
  refine z_C (m := 1) rfl rfl (fun x10 ex10 => ?_)
  refine gw_ld rfl rfl ?_
  refine gw_ld rfl rfl ?_
  refine z_C (m := 5) rfl rfl (fun x11 ex11 => ?_)
  refine z_cl rfl rfl rfl rfl rfl rfl rfl rfl rfl rfl rfl (zT X5.1 (by decide) rfl) ?_
  refine k_takeBits X5 (zM F8 hM)  (fun hh FF XX => Ke _ (zF_tr F8 FF) XX) (fun h12 x16 F13 X14 k15 => ?_)
  have rx16 := z_rng x16
  have F17 := zF_tr F8 (zF_mono F13 (fun q hq => by first | exact hq | (unfold zX at *; omega) | omega))
  replace k15 := k15 (by omega)
  first | refine z_add (by omega) (fun x18 ex18 => ?_) | refine z_addW (fun x18 ex18 => ?_)
  have rx18 := z_rng x18
  refine gw_st rfl rfl rfl ?_
  show ez_gw _ _ _ _ _ _ _ _ [some (.ref 69), some (.ref 2), some (.int x9), some (.int x18), none] _ _ _
  refine z_C (m := 4) rfl rfl (fun x19 ex19 => ?_)
  refine gw_ld rfl rfl ?_
  refine gw_ld rfl rfl ?_
  refine z_C (m := 4) rfl rfl (fun x20 ex20 => ?_)
  refine z_cl rfl rfl rfl rfl rfl rfl rfl rfl rfl rfl rfl (zT X14.1 (by decide) rfl) ?_
  refine k_takeBits X14 (zM F17 hM)  (fun hh FF XX => Ke _ (zF_tr F17 FF) XX) (fun h21 x25 F22 X23 k24 => ?_)
  have rx25 := z_rng x25
  have F26 := zF_tr F17 (zF_mono F22 (fun q hq => by first | exact hq | (unfold zX at *; omega) | omega))
  replace k24 := k24 (by omega)
  first | refine z_add (by omega) (fun x27 ex27 => ?_) | refine z_addW (fun x27 ex27 => ?_)
  have rx27 := z_rng x27
  refine gw_st rfl rfl rfl ?_
  show ez_gw _ _ _ _ _ _ _ _ [some (.ref 69), some (.ref 2), some (.int x9), some (.int x18), some (.int x27)] _ _ _
  refine gw_ld rfl rfl ?_
  refine z_C (m := 286) rfl rfl (fun x28 ex28 => ?_)
  refine z_b2 (fun c29 => ?_) (fun c29 => ?_)
  · have c29 : x28.toInt < x9.toInt := c29
    refine gw_skip _ ?_
    refine gw_ld rfl rfl ?_
    refine z_C (m := 4) rfl rfl (fun x30 ex30 => ?_)
    refine z_cl rfl rfl rfl rfl rfl rfl rfl rfl rfl rfl rfl (zT X23.1 (by decide) rfl) ?_
    exact k_fail X23 (zM F26 hM) (fun hh FF XX => Ke _ (zF_tr F26 FF) XX)
  · have c29 : ¬ (x28.toInt < x9.toInt) := c29
    refine gw_ld rfl rfl ?_
    refine z_C (m := 30) rfl rfl (fun x31 ex31 => ?_)
    refine z_b2 (fun c32 => ?_) (fun c32 => ?_)
    · have c32 : x18.toInt ≤ x31.toInt := c32
      refine gw_skip _ ?_
      refine gw_ld rfl rfl ?_
      refine gw_ld rfl rfl ?_
      refine gw_ld rfl rfl ?_
      refine z_cl rfl rfl rfl rfl rfl rfl rfl rfl rfl rfl rfl (zT X23.1 (by decide) rfl) ?_
      refine k_rAlpha X23 hE (zM F26 hM) (fun hh FF XX => Ke _ (zF_tr F26 FF) XX) (fun h33 F34 X35 => ?_)
      have F36 := zF_tr F26 (zF_mono F34 (fun q hq => by first | exact hq | (unfold zX at *; omega) | omega))
      refine gw_ld rfl rfl ?_
      refine gw_ld rfl rfl ?_
      refine gw_ld rfl rfl ?_
      refine gw_ld rfl rfl ?_
      first | refine z_add (by omega) (fun x37 ex37 => ?_) | refine z_addW (fun x37 ex37 => ?_)
      have rx37 := z_rng x37
      refine z_cl rfl rfl rfl rfl rfl rfl rfl rfl rfl rfl rfl (zT X35.1 (by decide) rfl) ?_
      refine k_rRow X35 hE (zM F36 hM) (fun hh FF XX => Ke _ (zF_tr F36 FF) XX) (fun h38 F39 X40 => ?_)
      have F41 := zF_tr F36 (zF_mono F39 (fun q hq => by first | exact hq | (unfold zX at *; omega) | omega))
      refine gw_ld rfl rfl ?_
      refine z_gR (q := 14) (zT X40.1 (by decide) rfl) (zRf X40.1 (by decide) (by decide) rfl) (by decide) ?_
      refine z_gR (q := 29) (zT X40.1 (by decide) rfl) (zRf X40.1 (by decide) (by decide) rfl) (by decide) ?_
      refine gw_ld rfl rfl ?_
      refine z_gR (q := 70) (zT X40.1 (by decide) rfl) (zRf X40.1 (by decide) (by decide) rfl) (by decide) ?_
      refine z_C (m := 0) rfl rfl (fun x42 ex42 => ?_)
      refine gw_ld rfl rfl ?_
      refine z_cl rfl rfl rfl rfl rfl rfl rfl rfl rfl rfl rfl (zT X40.1 (by decide) rfl) ?_
      refine k_takeLen X40 (p := 29) (by omega) (by omega) (fun h43 F44 X45  => ?_)
      have F46 := zF_tr F41 (zF_mono F44 (fun q hq => by first | exact hq | (unfold zX at *; omega) | omega))
      refine gw_ld rfl rfl ?_
      refine z_gR (q := 14) (zT X45.1 (by decide) rfl) (zRf X45.1 (by decide) (by decide) rfl) (by decide) ?_
      refine z_gR (q := 29) (zT X45.1 (by decide) rfl) (zRf X45.1 (by decide) (by decide) rfl) (by decide) ?_
      refine z_cl rfl rfl rfl rfl rfl rfl rfl rfl rfl rfl rfl (zT X45.1 (by decide) rfl) ?_
      refine k_settle X45 (p := 29) (by omega) (fun h47 F48 X49  => ?_)
      have F50 := zF_tr F46 (zF_mono F48 (fun q hq => by first | exact hq | (unfold zX at *; omega) | omega))
      refine gw_ld rfl rfl ?_
      refine z_gR (q := 14) (zT X49.1 (by decide) rfl) (zRf X49.1 (by decide) (by decide) rfl) (by decide) ?_
      refine z_gR (q := 36) (zT X49.1 (by decide) rfl) (zRf X49.1 (by decide) (by decide) rfl) (by decide) ?_
      refine gw_ld rfl rfl ?_
      refine z_gR (q := 70) (zT X49.1 (by decide) rfl) (zRf X49.1 (by decide) (by decide) rfl) (by decide) ?_
      refine gw_ld rfl rfl ?_
      refine gw_ld rfl rfl ?_
      refine z_cl rfl rfl rfl rfl rfl rfl rfl rfl rfl rfl rfl (zT X49.1 (by decide) rfl) ?_
      refine k_takeLen X49 (p := 36) (by omega) (by omega) (fun h51 F52 X53  => ?_)
      have F54 := zF_tr F50 (zF_mono F52 (fun q hq => by first | exact hq | (unfold zX at *; omega) | omega))
      refine gw_ld rfl rfl ?_
      refine z_gR (q := 14) (zT X53.1 (by decide) rfl) (zRf X53.1 (by decide) (by decide) rfl) (by decide) ?_
      refine z_gR (q := 36) (zT X53.1 (by decide) rfl) (zRf X53.1 (by decide) (by decide) rfl) (by decide) ?_
      refine z_cl rfl rfl rfl rfl rfl rfl rfl rfl rfl rfl rfl (zT X53.1 (by decide) rfl) ?_
      refine k_settle X53 (p := 36) (by omega) (fun h55 F56 X57  => ?_)
      have F58 := zF_tr F54 (zF_mono F56 (fun q hq => by first | exact hq | (unfold zX at *; omega) | omega))
      refine gw_ld rfl rfl ?_
      refine z_gR (q := 14) (zT X57.1 (by decide) rfl) (zRf X57.1 (by decide) (by decide) rfl) (by decide) ?_
      refine z_gR (q := 29) (zT X57.1 (by decide) rfl) (zRf X57.1 (by decide) (by decide) rfl) (by decide) ?_
      refine z_cl rfl rfl rfl rfl rfl rfl rfl rfl rfl rfl rfl (zT X57.1 (by decide) rfl) ?_
      refine k_isWhole X57 (p := 29) (by omega) (fun x59 k60 => ?_)
      have rx59 := z_rng x59
      refine z_b1 (fun c61 => ?_) (fun c61 => ?_)
      · have c61 : x59.toInt = 0 := c61
        refine gw_skip _ ?_
        refine gw_ld rfl rfl ?_
        refine z_C (m := 5) rfl rfl (fun x62 ex62 => ?_)
        refine z_cl rfl rfl rfl rfl rfl rfl rfl rfl rfl rfl rfl (zT X57.1 (by decide) rfl) ?_
        exact k_fail X57 (zM F58 hM) (fun hh FF XX => Ke _ (zF_tr F58 FF) XX)
      · have c61 : ¬ (x59.toInt = 0) := c61
        refine gw_ld rfl rfl ?_
        refine z_gR (q := 14) (zT X57.1 (by decide) rfl) (zRf X57.1 (by decide) (by decide) rfl) (by decide) ?_
        refine z_gR (q := 29) (zT X57.1 (by decide) rfl) (zRf X57.1 (by decide) (by decide) rfl) (by decide) ?_
        refine z_gR (q := 30) (zT X57.1 (by decide) rfl) (zRf X57.1 (by decide) (by decide) rfl) (by decide) ?_
        refine z_C (m := 256) rfl rfl (fun x63 ex63 => ?_)
        refine z_ia (n := 288) (zT X57.1 (by decide) rfl) (zN X57.1 (by decide) rfl) (by omega) ?_
        generalize ex64 : ez_I h55 30 x63.toInt.toNat = x64
        have rx64 := z_rng x64
        have qx64 := congrArg Int32.toInt ex64
        refine z_b1 (fun c65 => ?_) (fun c65 => ?_)
        · have c65 : x64.toInt ≠ 0 := c65
          refine gw_skip _ ?_
          refine gw_ld rfl rfl ?_
          refine z_gR (q := 14) (zT X57.1 (by decide) rfl) (zRf X57.1 (by decide) (by decide) rfl) (by decide) ?_
          refine z_gR (q := 36) (zT X57.1 (by decide) rfl) (zRf X57.1 (by decide) (by decide) rfl) (by decide) ?_
          refine z_cl rfl rfl rfl rfl rfl rfl rfl rfl rfl rfl rfl (zT X57.1 (by decide) rfl) ?_
          refine k_isWhole X57 (p := 36) (by omega) (fun x66 k67 => ?_)
          have rx66 := z_rng x66
          refine z_b1 (fun c68 => ?_) (fun c68 => ?_)
          · have c68 : x66.toInt ≠ 0 := c68
            refine gw_skip _ ?_
            refine z_rv ?_
            exact K _ F58 X57
          · have c68 : ¬ (x66.toInt ≠ 0) := c68
            refine gw_ld rfl rfl ?_
            refine z_gR (q := 14) (zT X57.1 (by decide) rfl) (zRf X57.1 (by decide) (by decide) rfl) (by decide) ?_
            refine z_gR (q := 36) (zT X57.1 (by decide) rfl) (zRf X57.1 (by decide) (by decide) rfl) (by decide) ?_
            refine z_cl rfl rfl rfl rfl rfl rfl rfl rfl rfl rfl rfl (zT X57.1 (by decide) rfl) ?_
            refine k_oneBit X57 (p := 36) (by omega) (fun x69 k70 => ?_)
            have rx69 := z_rng x69
            refine z_b1 (fun c71 => ?_) (fun c71 => ?_)
            · have c71 : x69.toInt ≠ 0 := c71
              refine gw_skip _ ?_
              refine z_rv ?_
              exact K _ F58 X57
            · have c71 : ¬ (x69.toInt ≠ 0) := c71
              refine gw_ld rfl rfl ?_
              refine z_C (m := 5) rfl rfl (fun x72 ex72 => ?_)
              refine z_cl rfl rfl rfl rfl rfl rfl rfl rfl rfl rfl rfl (zT X57.1 (by decide) rfl) ?_
              exact k_fail X57 (zM F58 hM) (fun hh FF XX => Ke _ (zF_tr F58 FF) XX)
        · have c65 : ¬ (x64.toInt ≠ 0) := c65
          refine gw_ld rfl rfl ?_
          refine z_C (m := 5) rfl rfl (fun x73 ex73 => ?_)
          refine z_cl rfl rfl rfl rfl rfl rfl rfl rfl rfl rfl rfl (zT X57.1 (by decide) rfl) ?_
          exact k_fail X57 (zM F58 hM) (fun hh FF XX => Ke _ (zF_tr F58 FF) XX)
    · have c32 : ¬ (x18.toInt ≤ x31.toInt) := c32
      refine gw_ld rfl rfl ?_
      refine z_C (m := 4) rfl rfl (fun x74 ex74 => ?_)
      refine z_cl rfl rfl rfl rfl rfl rfl rfl rfl rfl rfl rfl (zT X23.1 (by decide) rfl) ?_
      exact k_fail X23 (zM F26 hM) (fun hh FF XX => Ke _ (zF_tr F26 FF) XX)
set_option maxRecDepth 4000 in
set_option maxHeartbeats 20000000 in
theorem k_rBlock {E : Nat → Nat × (Nat → Int32)} {d : Nat} {Q : ez_Q} {h : ez_H}  (X : xI h) (hE : zE E) (hM : zMem h) (Ke : ∀ h2, zF zX h h2 → xI h2 → Q (.inr 2) (ez_bump h2)) (K : ∀ h2, zF (zX) h h2 → xI h2 → Q (.inl none) h2) : pw E (d + 5) 133 0 [some (.ref 69), some (.ref 2), none] [] h Q := by
  have F := zF_refl (zX) h
  apply ez_Wp_in
  show ez_gw _ _ _ _ _ _ (cz_133) _ _ _ _ _
  refine gw_skip _ ?_
  refine gw_ld rfl rfl ?_
  refine gw_ld rfl rfl ?_
  refine gw_ld rfl rfl ?_
  refine z_C (m := 1) rfl rfl (fun x1 ex1 => ?_)
  refine z_cl rfl rfl rfl rfl rfl rfl rfl rfl rfl rfl rfl (zT X.1 (by decide) rfl) ?_
  refine k_takeBits X (zM F hM)  (fun hh FF XX => Ke _ (zF_tr F FF) XX) (fun h2 x6 F3 X4 k5 => ?_)
  have rx6 := z_rng x6
  have F7 := zF_tr F (zF_mono F3 (fun q hq => by first | exact hq | (unfold zX at *; omega) | omega))
  replace k5 := k5 (by omega)
  refine z_C (m := 1) rfl rfl (fun x8 ex8 => ?_)
  refine z_b2 (fun c9 => ?_) (fun c9 => ?_)
  · have c9 : x6.toInt ≠ x8.toInt := c9
    refine gw_skip _ ?_
    refine z_C (m := 0) rfl rfl (fun x10 ex10 => ?_)
    refine z_pZ (zT X4.1 (by decide) rfl) (by omega) (fun h11 e12 => ?_)
    have X13 := xI_set X4 e12 (xW_of (by decide))
    have F14 := zF_set F7 e12 (by unfold zX; omega)
    have f15 : ez_I h11 69 1 = x10 := zI_eq e12
    refine gw_ld rfl rfl ?_
    refine gw_ld rfl rfl ?_
    refine z_C (m := 2) rfl rfl (fun x16 ex16 => ?_)
    refine z_cl rfl rfl rfl rfl rfl rfl rfl rfl rfl rfl rfl (zT X13.1 (by decide) rfl) ?_
    refine k_takeBits X13 (zM F14 hM)  (fun hh FF XX => Ke _ (zF_tr F14 FF) XX) (fun h17 x21 F18 X19 k20 => ?_)
    have rx21 := z_rng x21
    have F22 := zF_tr F14 (zF_mono F18 (fun q hq => by first | exact hq | (unfold zX at *; omega) | omega))
    replace k20 := k20 (by omega)
    refine gw_st rfl rfl rfl ?_
    show ez_gw _ _ _ _ _ _ _ _ [some (.ref 69), some (.ref 2), some (.int x21)] _ _ _
    refine gw_ld rfl rfl ?_
    refine z_b1 (fun c23 => ?_) (fun c23 => ?_)
    · have c23 : x21.toInt ≠ 0 := c23
      refine gw_skip _ ?_
      refine gw_ld rfl rfl ?_
      refine z_C (m := 1) rfl rfl (fun x24 ex24 => ?_)
      refine z_b2 (fun c25 => ?_) (fun c25 => ?_)
      · have c25 : x21.toInt ≠ x24.toInt := c25
        refine gw_skip _ ?_
        refine gw_ld rfl rfl ?_
        refine z_C (m := 2) rfl rfl (fun x26 ex26 => ?_)
        refine z_b2 (fun c27 => ?_) (fun c27 => ?_)
        · have c27 : x21.toInt ≠ x26.toInt := c27
          refine gw_skip _ ?_
          refine gw_ld rfl rfl ?_
          refine z_C (m := 2) rfl rfl (fun x28 ex28 => ?_)
          refine z_cl rfl rfl rfl rfl rfl rfl rfl rfl rfl rfl rfl (zT X19.1 (by decide) rfl) ?_
          exact k_fail X19 (zM F22 hM) (fun hh FF XX => Ke _ (zF_tr F22 FF) XX)
        · have c27 : ¬ (x21.toInt ≠ x26.toInt) := c27
          refine gw_ld rfl rfl ?_
          refine gw_ld rfl rfl ?_
          refine z_cl rfl rfl rfl rfl rfl rfl rfl rfl rfl rfl rfl (zT X19.1 (by decide) rfl) ?_
          refine k_rHead X19 hE (zM F22 hM) (fun hh FF XX => Ke _ (zF_tr F22 FF) XX) (fun h29 F30 X31 => ?_)
          have F32 := zF_tr F22 (zF_mono F30 (fun q hq => by first | exact hq | (unfold zX at *; omega) | omega))
          refine gw_ld rfl rfl ?_
          refine gw_ld rfl rfl ?_
          refine gw_ld rfl rfl ?_
          refine z_gR (q := 14) (zT X31.1 (by decide) rfl) (zRf X31.1 (by decide) (by decide) rfl) (by decide) ?_
          refine z_gR (q := 29) (zT X31.1 (by decide) rfl) (zRf X31.1 (by decide) (by decide) rfl) (by decide) ?_
          refine gw_ld rfl rfl ?_
          refine z_gR (q := 14) (zT X31.1 (by decide) rfl) (zRf X31.1 (by decide) (by decide) rfl) (by decide) ?_
          refine z_gR (q := 36) (zT X31.1 (by decide) rfl) (zRf X31.1 (by decide) (by decide) rfl) (by decide) ?_
          refine z_cl rfl rfl rfl rfl rfl rfl rfl rfl rfl rfl rfl (zT X31.1 (by decide) rfl) ?_
          refine k_rParts X31 hE (p := 29) (q := 36) (by omega) (by omega) (zM F32 hM) (fun hh FF XX => Ke _ (zF_tr F32 FF) XX) (fun h33 F34 X35 => ?_)
          have F36 := zF_tr F32 (zF_mono F34 (fun q hq => by first | exact hq | (unfold zX at *; omega) | omega))
          refine z_go ?_
          refine gw_skip _ ?_
          refine z_rv ?_
          exact K _ F36 X35
      · have c25 : ¬ (x21.toInt ≠ x24.toInt) := c25
        refine gw_ld rfl rfl ?_
        refine gw_ld rfl rfl ?_
        refine gw_ld rfl rfl ?_
        refine z_gR (q := 14) (zT X19.1 (by decide) rfl) (zRf X19.1 (by decide) (by decide) rfl) (by decide) ?_
        refine z_gR (q := 15) (zT X19.1 (by decide) rfl) (zRf X19.1 (by decide) (by decide) rfl) (by decide) ?_
        refine gw_ld rfl rfl ?_
        refine z_gR (q := 14) (zT X19.1 (by decide) rfl) (zRf X19.1 (by decide) (by decide) rfl) (by decide) ?_
        refine z_gR (q := 22) (zT X19.1 (by decide) rfl) (zRf X19.1 (by decide) (by decide) rfl) (by decide) ?_
        refine z_cl rfl rfl rfl rfl rfl rfl rfl rfl rfl rfl rfl (zT X19.1 (by decide) rfl) ?_
        refine k_rParts X19 hE (p := 15) (q := 22) (by omega) (by omega) (zM F22 hM) (fun hh FF XX => Ke _ (zF_tr F22 FF) XX) (fun h37 F38 X39 => ?_)
        have F40 := zF_tr F22 (zF_mono F38 (fun q hq => by first | exact hq | (unfold zX at *; omega) | omega))
        refine z_go ?_
        refine gw_skip _ ?_
        refine z_rv ?_
        exact K _ F40 X39
    · have c23 : ¬ (x21.toInt ≠ 0) := c23
      refine gw_ld rfl rfl ?_
      refine gw_ld rfl rfl ?_
      refine z_cl rfl rfl rfl rfl rfl rfl rfl rfl rfl rfl rfl (zT X19.1 (by decide) rfl) ?_
      refine k_rStored X19 (zM F22 hM)  (fun hh FF XX => Ke _ (zF_tr F22 FF) XX) (fun h41  F42 X43  => ?_)
      have F44 := zF_tr F22 (zF_mono F42 (fun q hq => by first | exact hq | (unfold zX at *; omega) | omega))
      refine z_go ?_
      refine gw_skip _ ?_
      refine z_rv ?_
      exact K _ F44 X43
  · have c9 : ¬ (x6.toInt ≠ x8.toInt) := c9
    refine z_C (m := 1) rfl rfl (fun x45 ex45 => ?_)
    refine z_go ?_
    refine gw_skip _ ?_
    refine z_pZ (zT X4.1 (by decide) rfl) (by omega) (fun h46 e47 => ?_)
    have X48 := xI_set X4 e47 (xW_of (by decide))
    have F49 := zF_set F7 e47 (by unfold zX; omega)
    have f50 : ez_I h46 69 1 = x45 := zI_eq e47
    refine gw_ld rfl rfl ?_
    refine gw_ld rfl rfl ?_
    refine z_C (m := 2) rfl rfl (fun x51 ex51 => ?_)
    refine z_cl rfl rfl rfl rfl rfl rfl rfl rfl rfl rfl rfl (zT X48.1 (by decide) rfl) ?_
    refine k_takeBits X48 (zM F49 hM)  (fun hh FF XX => Ke _ (zF_tr F49 FF) XX) (fun h52 x56 F53 X54 k55 => ?_)
    have rx56 := z_rng x56
    have F57 := zF_tr F49 (zF_mono F53 (fun q hq => by first | exact hq | (unfold zX at *; omega) | omega))
    replace k55 := k55 (by omega)
    refine gw_st rfl rfl rfl ?_
    show ez_gw _ _ _ _ _ _ _ _ [some (.ref 69), some (.ref 2), some (.int x56)] _ _ _
    refine gw_ld rfl rfl ?_
    refine z_b1 (fun c58 => ?_) (fun c58 => ?_)
    · have c58 : x56.toInt ≠ 0 := c58
      refine gw_skip _ ?_
      refine gw_ld rfl rfl ?_
      refine z_C (m := 1) rfl rfl (fun x59 ex59 => ?_)
      refine z_b2 (fun c60 => ?_) (fun c60 => ?_)
      · have c60 : x56.toInt ≠ x59.toInt := c60
        refine gw_skip _ ?_
        refine gw_ld rfl rfl ?_
        refine z_C (m := 2) rfl rfl (fun x61 ex61 => ?_)
        refine z_b2 (fun c62 => ?_) (fun c62 => ?_)
        · have c62 : x56.toInt ≠ x61.toInt := c62
          refine gw_skip _ ?_
          refine gw_ld rfl rfl ?_
          refine z_C (m := 2) rfl rfl (fun x63 ex63 => ?_)
          refine z_cl rfl rfl rfl rfl rfl rfl rfl rfl rfl rfl rfl (zT X54.1 (by decide) rfl) ?_
          exact k_fail X54 (zM F57 hM) (fun hh FF XX => Ke _ (zF_tr F57 FF) XX)
        · have c62 : ¬ (x56.toInt ≠ x61.toInt) := c62
          refine gw_ld rfl rfl ?_
          refine gw_ld rfl rfl ?_
          refine z_cl rfl rfl rfl rfl rfl rfl rfl rfl rfl rfl rfl (zT X54.1 (by decide) rfl) ?_
          refine k_rHead X54 hE (zM F57 hM) (fun hh FF XX => Ke _ (zF_tr F57 FF) XX) (fun h64 F65 X66 => ?_)
          have F67 := zF_tr F57 (zF_mono F65 (fun q hq => by first | exact hq | (unfold zX at *; omega) | omega))
          refine gw_ld rfl rfl ?_
          refine gw_ld rfl rfl ?_
          refine gw_ld rfl rfl ?_
          refine z_gR (q := 14) (zT X66.1 (by decide) rfl) (zRf X66.1 (by decide) (by decide) rfl) (by decide) ?_
          refine z_gR (q := 29) (zT X66.1 (by decide) rfl) (zRf X66.1 (by decide) (by decide) rfl) (by decide) ?_
          refine gw_ld rfl rfl ?_
          refine z_gR (q := 14) (zT X66.1 (by decide) rfl) (zRf X66.1 (by decide) (by decide) rfl) (by decide) ?_
          refine z_gR (q := 36) (zT X66.1 (by decide) rfl) (zRf X66.1 (by decide) (by decide) rfl) (by decide) ?_
          refine z_cl rfl rfl rfl rfl rfl rfl rfl rfl rfl rfl rfl (zT X66.1 (by decide) rfl) ?_
          refine k_rParts X66 hE (p := 29) (q := 36) (by omega) (by omega) (zM F67 hM) (fun hh FF XX => Ke _ (zF_tr F67 FF) XX) (fun h68 F69 X70 => ?_)
          have F71 := zF_tr F67 (zF_mono F69 (fun q hq => by first | exact hq | (unfold zX at *; omega) | omega))
          refine z_go ?_
          refine gw_skip _ ?_
          refine z_rv ?_
          exact K _ F71 X70
      · have c60 : ¬ (x56.toInt ≠ x59.toInt) := c60
        refine gw_ld rfl rfl ?_
        refine gw_ld rfl rfl ?_
        refine gw_ld rfl rfl ?_
        refine z_gR (q := 14) (zT X54.1 (by decide) rfl) (zRf X54.1 (by decide) (by decide) rfl) (by decide) ?_
        refine z_gR (q := 15) (zT X54.1 (by decide) rfl) (zRf X54.1 (by decide) (by decide) rfl) (by decide) ?_
        refine gw_ld rfl rfl ?_
        refine z_gR (q := 14) (zT X54.1 (by decide) rfl) (zRf X54.1 (by decide) (by decide) rfl) (by decide) ?_
        refine z_gR (q := 22) (zT X54.1 (by decide) rfl) (zRf X54.1 (by decide) (by decide) rfl) (by decide) ?_
        refine z_cl rfl rfl rfl rfl rfl rfl rfl rfl rfl rfl rfl (zT X54.1 (by decide) rfl) ?_
        refine k_rParts X54 hE (p := 15) (q := 22) (by omega) (by omega) (zM F57 hM) (fun hh FF XX => Ke _ (zF_tr F57 FF) XX) (fun h72 F73 X74 => ?_)
        have F75 := zF_tr F57 (zF_mono F73 (fun q hq => by first | exact hq | (unfold zX at *; omega) | omega))
        refine z_go ?_
        refine gw_skip _ ?_
        refine z_rv ?_
        exact K _ F75 X74
    · have c58 : ¬ (x56.toInt ≠ 0) := c58
      refine gw_ld rfl rfl ?_
      refine gw_ld rfl rfl ?_
      refine z_cl rfl rfl rfl rfl rfl rfl rfl rfl rfl rfl rfl (zT X54.1 (by decide) rfl) ?_
      refine k_rStored X54 (zM F57 hM)  (fun hh FF XX => Ke _ (zF_tr F57 FF) XX) (fun h76  F77 X78  => ?_)
      have F79 := zF_tr F57 (zF_mono F77 (fun q hq => by first | exact hq | (unfold zX at *; omega) | omega))
      refine z_go ?_
      refine gw_skip _ ?_
      refine z_rv ?_
      exact K _ F79 X78
