/-! the matcher's chains: each leads to an earlier place -/
def chI (h : ez_H) (n : Int) : Prop := (∀ s : Nat, s < 4096 → -1 ≤ (ez_I h 59 s).toInt ∧ (ez_I h 59 s).toInt < n) ∧ (∀ j : Nat, (j : Int) < n → -1 ≤ (ez_I h 60 j).toInt ∧ (ez_I h 60 j).toInt < j)
theorem chI_set {h h2 : ez_H} {p k : Nat} {v : Int32} {n : Int} (C : chI h n) (e : h2 = ez_setI h p k v) (hp : p ≠ 59 ∧ p ≠ 60) : chI h2 n := by
  subst e
  exact ⟨fun s hs => by rw [ez_I_set_ne (fun c => hp.1 c.1.symm)]; exact C.1 s hs, fun j hj => by rw [ez_I_set_ne (fun c => hp.2 c.1.symm)]; exact C.2 j hj⟩
theorem chI_F {P : Nat → Prop} {h h2 : ez_H} {n : Int} (C : chI h n) (F : zF P h h2) (h1 : ¬ P 59) (h3 : ¬ P 60) : chI h2 n := ⟨fun s hs => by rw [(F.2.2.2.2.2 59 h1).1]; exact C.1 s hs, fun j hj => by rw [(F.2.2.2.2.2 60 h3).1]; exact C.2 j hj⟩
theorem chI_init {h h2 : ez_H} {v i : Int32} (e : h2 = ez_rowI h 59 (pf_fill (ez_I h 59) (ez_l h 59) v)) (hl : ez_l h 59 = 4096) (hv : v.toInt = -1) (hi : i.toInt = 0) : chI h2 i.toInt := by
  subst e
  rw [hi]
  refine ⟨fun s hs => ?_, fun j hj => by omega⟩
  have : ez_I (ez_rowI h 59 (pf_fill (ez_I h 59) (ez_l h 59) v)) 59 s = v := by
    show ez_row (ez_I h) 59 (pf_fill (ez_I h 59) (ez_l h 59) v) 59 s = v
    unfold ez_row pf_fill
    rw [hl]
    simp only [↓reduceIte, hs]
  rw [this, hv]
  omega
theorem chI_step {h h3 h4 : ez_H} {i sp v j : Int32} (C : chI h i.toInt) (hv : ez_I h 59 sp.toInt.toNat = v) (e1 : h3 = ez_setI h 60 i.toInt.toNat v) (e2 : h4 = ez_setI h3 59 sp.toInt.toNat i) (h0 : 0 ≤ i.toInt) (hs : 0 ≤ sp.toInt ∧ sp.toInt < 4096) (hj : j.toInt = i.toInt + 1) : chI h4 j.toInt := by
  subst e1
  subst e2
  have b := C.1 sp.toInt.toNat (by omega)
  rw [hv] at b
  refine ⟨fun s hs' => ?_, fun k hk => ?_⟩
  · by_cases e : s = sp.toInt.toNat
    · subst e
      rw [ez_I_set_eq]
      omega
    · rw [ez_I_set_ne (fun c => e c.2), ez_I_set_ne (by omega)]
      have := C.1 s hs'
      omega
  · rw [ez_I_set_ne (by omega)]
    by_cases e : k = i.toInt.toNat
    · subst e
      rw [ez_I_set_eq]
      omega
    · rw [ez_I_set_ne (fun c => e c.2)]
      exact C.2 k (by omega)
/-! PRINTED by wip/p17/con4.py: contracts of the class, third part: Matcher, Packer -/
set_option maxRecDepth 4000 in
set_option maxHeartbeats 20000000 in
theorem k_spot {E : Nat → Nat × (Nat → Int32)} {d : Nat} {Q : ez_Q} {h : ez_H} {i : Int32} (X : xI h) (hi : i.toInt ≤ 6100) (K : ∀ x : Int32, (0 ≤ x.toInt ∧ x.toInt < 4096) → Q (.inl (some (.int x))) h) : pw E d 112 0 [some (.ref 3), some (.int i), none] [] h Q := by
  have gi := z_rng i
  have F := zF_refl (zX) h
  apply ez_Wp_in
  show ez_gw _ _ _ _ _ _ (cz_112) _ _ _ _ _
  refine gw_skip _ ?_
  refine gw_ld rfl rfl ?_
  refine z_b1 (fun c1 => ?_) (fun c1 => ?_)
  · have c1 : i.toInt < 0 := c1
    refine gw_skip _ ?_
    refine z_C (m := 0) rfl rfl (fun x2 ex2 => ?_)
    refine z_ri ?_
    exact K x2 (by omega)
  · have c1 : ¬ (i.toInt < 0) := c1
    refine gw_ld rfl rfl ?_
    refine z_C (m := 3) rfl rfl (fun x3 ex3 => ?_)
    first | refine z_add (by omega) (fun x4 ex4 => ?_) | refine z_addW (fun x4 ex4 => ?_)
    have rx4 := z_rng x4
    refine gw_ld rfl rfl ?_
    refine z_al (n := 6100) (.inl (zT X.1 (by decide) rfl)) (zN X.1 (by decide) rfl) (by omega) (fun x5 ex5 => ?_)
    refine z_b2 (fun c6 => ?_) (fun c6 => ?_)
    · have c6 : x4.toInt ≤ x5.toInt := c6
      refine gw_skip _ ?_
      refine gw_ld rfl rfl ?_
      refine gw_ld rfl rfl ?_
      refine z_ia (n := 6100) (zT X.1 (by decide) rfl) (zN X.1 (by decide) rfl) (by omega) ?_
      generalize ex7 : ez_I h 3 i.toInt.toNat = x7
      have rx7 := z_rng x7
      have qx7 := congrArg Int32.toInt ex7
      refine gw_ld rfl rfl ?_
      refine gw_ld rfl rfl ?_
      refine z_C (m := 1) rfl rfl (fun x8 ex8 => ?_)
      first | refine z_add (by omega) (fun x9 ex9 => ?_) | refine z_addW (fun x9 ex9 => ?_)
      have rx9 := z_rng x9
      refine z_ia (n := 6100) (zT X.1 (by decide) rfl) (zN X.1 (by decide) rfl) (by omega) ?_
      generalize ex10 : ez_I h 3 x9.toInt.toNat = x10
      have rx10 := z_rng x10
      have qx10 := congrArg Int32.toInt ex10
      refine z_C (m := 8) rfl rfl (fun x11 ex11 => ?_)
      refine z_2 rfl (fun x12 ex12 => ?_)
      have rx12 := z_rng x12
      refine z_2 rfl (fun x13 ex13 => ?_)
      have rx13 := z_rng x13
      refine gw_ld rfl rfl ?_
      refine gw_ld rfl rfl ?_
      refine z_C (m := 2) rfl rfl (fun x14 ex14 => ?_)
      first | refine z_add (by omega) (fun x15 ex15 => ?_) | refine z_addW (fun x15 ex15 => ?_)
      have rx15 := z_rng x15
      refine z_ia (n := 6100) (zT X.1 (by decide) rfl) (zN X.1 (by decide) rfl) (by omega) ?_
      generalize ex16 : ez_I h 3 x15.toInt.toNat = x16
      have rx16 := z_rng x16
      have qx16 := congrArg Int32.toInt ex16
      refine z_C (m := 16) rfl rfl (fun x17 ex17 => ?_)
      refine z_2 rfl (fun x18 ex18 => ?_)
      have rx18 := z_rng x18
      refine z_2 rfl (fun x19 ex19 => ?_)
      have rx19 := z_rng x19
      refine gw_st rfl rfl rfl ?_
      show ez_gw _ _ _ _ _ _ _ _ [some (.ref 3), some (.int i), some (.int x19)] _ _ _
      refine gw_ld rfl rfl ?_
      refine z_C (m := -1640531535) rfl rfl (fun x20 ex20 => ?_)
      refine z_mulW (fun x21 ex21 => ?_)
      have rx21 := z_rng x21
      have qx21 := congrArg Int32.toInt ex21
      refine z_C (m := 20) rfl rfl (fun x22 ex22 => ?_)
      refine z_2 rfl (fun x23 ex23 => ?_)
      have rx23 := z_rng x23
      have sx23 : 0 ≤ x23.toInt ∧ x23.toInt ≤ 4095 := by rw [ex23]; exact z_ushr20 (by assumption)
      refine z_ri ?_
      exact K x23 (by omega)
    · have c6 : ¬ (x4.toInt ≤ x5.toInt) := c6
      refine z_C (m := 0) rfl rfl (fun x24 ex24 => ?_)
      refine z_ri ?_
      exact K x24 (by omega)
set_option maxRecDepth 4000 in
set_option maxHeartbeats 20000000 in
theorem k_sameB_L {E : Nat → Nat × (Nat → Int32)} {d : Nat} {Q : ez_Q} {h : ez_H} {a : Int32} {b : Int32} {m : Int32} (X : xI h) (hm : 0 ≤ a.toInt ∧ a.toInt ≤ b.toInt ∧ b.toInt + m.toInt ≤ 6100) (K : ∀ x : Int32, (0 ≤ x.toInt ∧ (x.toInt ≤ m.toInt ∨ x.toInt = 0)) → Q (.inl (some (.int x))) h) : ∀ N : Nat, (∀ (i : Int32), (0 ≤ i.toInt ∧ (i.toInt ≤ m.toInt ∨ i.toInt = 0)) → (2147483647 - i.toInt) < (N : Int) → pw E d 111 3 [some (.ref 3), some (.int a), some (.int b), some (.int m), some (.int i)] [] h Q) := by
  intro N
  induction N with
  | zero => exact fun i hinv hm => absurd hm (by have w0 := z_rng i; omega)
  | succ N ih =>
    refine fun i hinv hm => ?_
    · skip
      have w0 := z_rng i
      have ga := z_rng a
      have gb := z_rng b
      have gm := z_rng m
      apply ez_Wp_in
      show ez_gw _ _ _ _ _ _ (cz_111) _ _ _ _ _
      refine gw_skip _ ?_
      have F := zF_refl zX h
      refine gw_ld rfl rfl ?_
      refine gw_ld rfl rfl ?_
      refine z_b2 (fun c1 => ?_) (fun c1 => ?_)
      · have c1 : m.toInt ≤ i.toInt := c1
        refine gw_skip _ ?_
        refine gw_ld rfl rfl ?_
        refine z_ri ?_
        exact K i (by omega)
      · have c1 : ¬ (m.toInt ≤ i.toInt) := c1
        refine gw_ld rfl rfl ?_
        refine gw_ld rfl rfl ?_
        refine gw_ld rfl rfl ?_
        first | refine z_add (by omega) (fun x2 ex2 => ?_) | refine z_addW (fun x2 ex2 => ?_)
        have rx2 := z_rng x2
        refine z_ia (n := 6100) (zT X.1 (by decide) rfl) (zN X.1 (by decide) rfl) (by omega) ?_
        generalize ex3 : ez_I h 3 x2.toInt.toNat = x3
        have rx3 := z_rng x3
        have qx3 := congrArg Int32.toInt ex3
        refine gw_ld rfl rfl ?_
        refine gw_ld rfl rfl ?_
        refine gw_ld rfl rfl ?_
        first | refine z_add (by omega) (fun x4 ex4 => ?_) | refine z_addW (fun x4 ex4 => ?_)
        have rx4 := z_rng x4
        refine z_ia (n := 6100) (zT X.1 (by decide) rfl) (zN X.1 (by decide) rfl) (by omega) ?_
        generalize ex5 : ez_I h 3 x4.toInt.toNat = x5
        have rx5 := z_rng x5
        have qx5 := congrArg Int32.toInt ex5
        refine z_b2 (fun c6 => ?_) (fun c6 => ?_)
        · have c6 : x3.toInt ≠ x5.toInt := c6
          refine gw_skip _ ?_
          refine gw_ld rfl rfl ?_
          refine z_ri ?_
          exact K i (by omega)
        · have c6 : ¬ (x3.toInt ≠ x5.toInt) := c6
          first | (refine z_inc rfl (by rw [show (1 : Int32).toInt = 1 from rfl]; omega) (fun x7 ex7 => ?_); rw [show (1 : Int32).toInt = 1 from rfl] at ex7) | refine z_incW rfl (fun x7 ex7 => ?_)
          have rx7 := z_rng x7
          show ez_gw _ _ _ _ _ _ _ _ [some (.ref 3), some (.int a), some (.int b), some (.int m), some (.int x7)] _ _ _
          refine z_go ?_
          exact ih x7 (by first | trivial | omega) (by omega)
set_option maxRecDepth 4000 in
set_option maxHeartbeats 20000000 in
theorem k_sameB {E : Nat → Nat × (Nat → Int32)} {d : Nat} {Q : ez_Q} {h : ez_H} {a : Int32} {b : Int32} {m : Int32} (X : xI h) (hm : 0 ≤ a.toInt ∧ a.toInt ≤ b.toInt ∧ b.toInt + m.toInt ≤ 6100) (K : ∀ x : Int32, (0 ≤ x.toInt ∧ (x.toInt ≤ m.toInt ∨ x.toInt = 0)) → Q (.inl (some (.int x))) h) : pw E d 111 0 [some (.ref 3), some (.int a), some (.int b), some (.int m), none] [] h Q := by
  have ga := z_rng a
  have gb := z_rng b
  have gm := z_rng m
  have F := zF_refl (zX) h
  apply ez_Wp_in
  show ez_gw _ _ _ _ _ _ (cz_111) _ _ _ _ _
  refine gw_skip _ ?_
  refine z_C (m := 0) rfl rfl (fun x1 ex1 => ?_)
  refine gw_st rfl rfl rfl ?_
  show ez_gw _ _ _ _ _ _ _ _ [some (.ref 3), some (.int a), some (.int b), some (.int m), some (.int x1)] _ _ _
  exact ez_Wp_out ((k_sameB_L X hm K (((2147483647 - x1.toInt)).toNat + 1)) x1 (by first | trivial | omega) (by omega))
set_option maxRecDepth 4000 in
set_option maxHeartbeats 20000000 in
theorem k_chain_L {E : Nat → Nat × (Nat → Int32)} {d : Nat} {Q : ez_Q} {h : ez_H}  (X : xI h)  (K : ∀ h2 (n : Int), zF (fun q => q = 59 ∨ q = 60) h h2 → xI h2 → chI h2 n → (n + 3 > (ez_I h2 2 1).toInt ∨ n ≥ 6000) → Q (.inl none) h2) : ∀ N : Nat, (∀ (h2 : ez_H) (i : Int32) (l3 : Option Value), zF (fun q => q = 59 ∨ q = 60) h h2 → xI h2 → (0 ≤ i.toInt ∧ i.toInt ≤ 6000 ∧ chI h2 i.toInt) → (2147483647 - i.toInt) < (N : Int) → pw E (d + 1) 109 10 [some (.ref 58), some (.ref 2), some (.int i), l3] [] h2 Q) := by
  intro N
  induction N with
  | zero => exact fun h2 i l3 F X2 hinv hm => absurd hm (by have w0 := z_rng i; omega)
  | succ N ih =>
    refine fun h2 i l3 F X2 hinv hm => ?_
    · skip
      have w0 := z_rng i
      apply ez_Wp_in
      show ez_gw _ _ _ _ _ _ (cz_109) _ _ _ _ _
      refine gw_skip _ ?_
      refine gw_ld rfl rfl ?_
      refine z_C (m := 3) rfl rfl (fun x1 ex1 => ?_)
      first | refine z_add (by omega) (fun x2 ex2 => ?_) | refine z_addW (fun x2 ex2 => ?_)
      have rx2 := z_rng x2
      refine gw_ld rfl rfl ?_
      have r3 := X2.2.1
      refine z_gI2 (by decide) (zT X2.1 (by decide) rfl) (rfl) ?_
      refine z_b2 (fun c4 => ?_) (fun c4 => ?_)
      · have c4 : ((ez_I h2 2 1)).toInt < x2.toInt := c4
        refine gw_skip _ ?_
        refine z_rv ?_
        exact K _ i.toInt F X2 hinv.2.2 (by omega)
      · have c4 : ¬ (((ez_I h2 2 1)).toInt < x2.toInt) := c4
        refine gw_ld rfl rfl ?_
        refine gw_ld rfl rfl ?_
        refine z_gR (q := 60) (zT X2.1 (by decide) rfl) (zRf X2.1 (by decide) (by decide) rfl) (by decide) ?_
        refine z_al (n := 6000) (.inl (zT X2.1 (by decide) rfl)) (zN X2.1 (by decide) rfl) (by omega) (fun x5 ex5 => ?_)
        refine z_b2 (fun c6 => ?_) (fun c6 => ?_)
        · have c6 : x5.toInt ≤ i.toInt := c6
          refine gw_skip _ ?_
          refine z_rv ?_
          exact K _ i.toInt F X2 hinv.2.2 (by omega)
        · have c6 : ¬ (x5.toInt ≤ i.toInt) := c6
          refine gw_ld rfl rfl ?_
          refine z_gR (q := 3) (zT X2.1 (by decide) rfl) (zRf X2.1 (by decide) (by decide) rfl) (by decide) ?_
          refine gw_ld rfl rfl ?_
          refine z_cl rfl rfl rfl rfl rfl rfl rfl rfl rfl rfl rfl (trivial) ?_
          refine k_spot X2 (by omega) (fun x7 k8 => ?_)
          have rx7 := z_rng x7
          refine gw_st rfl rfl rfl ?_
          show ez_gw _ _ _ _ _ _ _ _ [some (.ref 58), some (.ref 2), some (.int i), some (.int x7)] _ _ _
          refine gw_ld rfl rfl ?_
          refine z_gR (q := 60) (zT X2.1 (by decide) rfl) (zRf X2.1 (by decide) (by decide) rfl) (by decide) ?_
          refine gw_ld rfl rfl ?_
          refine gw_ld rfl rfl ?_
          refine z_gR (q := 59) (zT X2.1 (by decide) rfl) (zRf X2.1 (by decide) (by decide) rfl) (by decide) ?_
          refine gw_ld rfl rfl ?_
          refine z_ia (n := 4096) (zT X2.1 (by decide) rfl) (zN X2.1 (by decide) rfl) (by omega) ?_
          generalize ex9 : ez_I h2 59 x7.toInt.toNat = x9
          have rx9 := z_rng x9
          have qx9 := congrArg Int32.toInt ex9
          refine z_is (n := 6000) (zT X2.1 (by decide) rfl) (zN X2.1 (by decide) rfl) (by omega) (fun h10 e11 => ?_)
          have X12 := xI_set X2 e11 (xW_of (by decide))
          have F13 := zF_set F e11 (by omega)
          have f14 : ez_I h10 2 1 = (ez_I h2 2 1) := (zI_ne e11 (by omega)).trans rfl
          refine gw_ld rfl rfl ?_
          refine z_gR (q := 59) (zT X12.1 (by decide) rfl) (zRf X12.1 (by decide) (by decide) rfl) (by decide) ?_
          refine gw_ld rfl rfl ?_
          refine gw_ld rfl rfl ?_
          refine z_is (n := 4096) (zT X12.1 (by decide) rfl) (zN X12.1 (by decide) rfl) (by omega) (fun h15 e16 => ?_)
          have X17 := xI_set X12 e16 (xW_of (by decide))
          have F18 := zF_set F13 e16 (by omega)
          have f19 : ez_I h15 2 1 = (ez_I h2 2 1) := (zI_ne e16 (by omega)).trans f14
          first | (refine z_inc rfl (by rw [show (1 : Int32).toInt = 1 from rfl]; omega) (fun x20 ex20 => ?_); rw [show (1 : Int32).toInt = 1 from rfl] at ex20) | refine z_incW rfl (fun x20 ex20 => ?_)
          have rx20 := z_rng x20
          show ez_gw _ _ _ _ _ _ _ _ [some (.ref 58), some (.ref 2), some (.int x20), some (.int x7)] _ _ _
          refine z_go ?_
          have t21 := congrArg Int32.toInt f19
          exact ih _ x20 (some (.int x7)) F18 X17 (⟨by omega, by omega, chI_step hinv.2.2 (by assumption) e11 e16 hinv.1 (by omega) (by assumption)⟩) (by omega)
set_option maxRecDepth 4000 in
set_option maxHeartbeats 20000000 in
theorem k_chain {E : Nat → Nat × (Nat → Int32)} {d : Nat} {Q : ez_Q} {h : ez_H}  (X : xI h)  (K : ∀ h2 (n : Int), zF (fun q => q = 59 ∨ q = 60) h h2 → xI h2 → chI h2 n → (n + 3 > (ez_I h2 2 1).toInt ∨ n ≥ 6000) → Q (.inl none) h2) : pw E (d + 1) 109 0 [some (.ref 58), some (.ref 2), none, none] [] h Q := by
  have F := zF_refl (fun q => q = 59 ∨ q = 60) h
  apply ez_Wp_in
  show ez_gw _ _ _ _ _ _ (cz_109) _ _ _ _ _
  refine gw_skip _ ?_
  refine gw_ld rfl rfl ?_
  refine z_gR (q := 59) (zT X.1 (by decide) rfl) (zRf X.1 (by decide) (by decide) rfl) (by decide) ?_
  refine z_C (m := -1) rfl rfl (fun x1 ex1 => ?_)
  refine z_cl rfl rfl rfl rfl rfl rfl rfl rfl rfl rfl rfl (trivial) ?_
  refine wp_fill (zT X.1 (by decide) rfl) (by rw [zN X.1 (by decide) rfl]; first | omega | decide) ?_
  generalize e3 : ez_rowI h 59 (pf_fill (ez_I h 59) (ez_l h 59) x1) = h2
  have e3 := e3.symm
  have X4 := xI_row X e3 (by omega)
  have F5 := zF_row F e3 (by omega)
  refine z_C (m := 0) rfl rfl (fun x6 ex6 => ?_)
  refine gw_st rfl rfl rfl ?_
  show ez_gw _ _ _ _ _ _ _ _ [some (.ref 58), some (.ref 2), some (.int x6), none] _ _ _
  exact ez_Wp_out ((k_chain_L X K (((2147483647 - x6.toInt)).toNat + 1)) _ x6 (none) F5 X4 (⟨by omega, by omega, chI_init e3 (zN X.1 (by decide) rfl) (by assumption) (by assumption)⟩) (by omega))
set_option maxRecDepth 4000 in
set_option maxHeartbeats 20000000 in
theorem k_search_L {E : Nat → Nat × (Nat → Int32)} {d : Nat} {Q : ez_Q} {h : ez_H} {n : Int} {b : Int32} {l : Int32} (X : xI h) (C : chI h n) (hn : n + 3 > (ez_I h 2 1).toInt ∨ n ≥ 6000) (hb : 0 ≤ b.toInt) (K : ∀ h2 (x : Int32), zF (fun q => q = 58) h h2 → xI h2 → (0 ≤ x.toInt ∧ x.toInt ≤ 258) → Q (.inl (some (.int x))) h2) : ∀ N : Nat, (∀ (h2 : ez_H) (ms : Int32) (bt : Int32) (fd : Int32) (fm : Int32) (i : Int32) (l9 : Option Value), zF (fun q => q = 58) h h2 → xI h2 → ((0 ≤ i.toInt ∧ 0 ≤ b.toInt ∧ b.toInt < 6000 ∧ 2 ≤ bt.toInt ∧ bt.toInt ≤ ms.toInt ∧ ms.toInt ≤ 258 ∧ b.toInt + ms.toInt ≤ (ez_I h 2 1).toInt ∧ 3 ≤ ms.toInt ∧ -1 ≤ fm.toInt ∧ fm.toInt < b.toInt) ∧ chI h2 n) → (2147483647 - i.toInt) < (N : Int) → pw E (d + 1) 110 57 [some (.ref 58), some (.ref 2), some (.int b), some (.int l), some (.int ms), some (.int bt), some (.int fd), some (.int fm), some (.int i), l9] [] h2 Q) := by
  intro N
  induction N with
  | zero => exact fun h2 ms bt fd fm i l9 F X2 hinv hm => absurd hm (by have w0 := z_rng i; have w1 := zF_I (p := 2) (k := 1) F (by omega) rfl; have w2 := congrArg Int32.toInt w1; have w3 := X.2.1; omega)
  | succ N ih =>
    refine fun h2 ms bt fd fm i l9 F X2 hinv hm => ?_
    · skip
      have w0 := z_rng i
      have w1 := zF_I (p := 2) (k := 1) F (by omega) rfl
      have w2 := congrArg Int32.toInt w1
      have w3 := X.2.1
      have gb := z_rng b
      have gl := z_rng l
      apply ez_Wp_in
      show ez_gw _ _ _ _ _ _ (cz_110) _ _ _ _ _
      refine gw_skip _ ?_
      refine gw_ld rfl rfl ?_
      refine z_C (m := 4096) rfl rfl (fun x1 ex1 => ?_)
      refine z_b2 (fun c2 => ?_) (fun c2 => ?_)
      · have c2 : x1.toInt ≤ i.toInt := c2
        refine gw_skip _ ?_
        refine gw_ld rfl rfl ?_
        refine z_b1 (fun c3 => ?_) (fun c3 => ?_)
        · have c3 : fd.toInt = 0 := c3
          refine gw_skip _ ?_
          refine z_C (m := 0) rfl rfl (fun x4 ex4 => ?_)
          refine z_ri ?_
          exact K _ x4 F X2 (by omega)
        · have c3 : ¬ (fd.toInt = 0) := c3
          refine gw_ld rfl rfl ?_
          refine z_go ?_
          refine gw_skip _ ?_
          refine z_ri ?_
          exact K _ bt F X2 (by omega)
      · have c2 : ¬ (x1.toInt ≤ i.toInt) := c2
        refine gw_ld rfl rfl ?_
        refine z_b1 (fun c5 => ?_) (fun c5 => ?_)
        · have c5 : fm.toInt < 0 := c5
          refine gw_skip _ ?_
          refine gw_ld rfl rfl ?_
          refine z_b1 (fun c6 => ?_) (fun c6 => ?_)
          · have c6 : fd.toInt = 0 := c6
            refine gw_skip _ ?_
            refine z_C (m := 0) rfl rfl (fun x7 ex7 => ?_)
            refine z_ri ?_
            exact K _ x7 F X2 (by omega)
          · have c6 : ¬ (fd.toInt = 0) := c6
            refine gw_ld rfl rfl ?_
            refine z_go ?_
            refine gw_skip _ ?_
            refine z_ri ?_
            exact K _ bt F X2 (by omega)
        · have c5 : ¬ (fm.toInt < 0) := c5
          refine gw_ld rfl rfl ?_
          refine gw_ld rfl rfl ?_
          first | refine z_sub (by omega) (fun x8 ex8 => ?_) | refine z_subW (fun x8 ex8 => ?_)
          have rx8 := z_rng x8
          refine z_C (m := 4096) rfl rfl (fun x9 ex9 => ?_)
          refine z_b2 (fun c10 => ?_) (fun c10 => ?_)
          · have c10 : x9.toInt < x8.toInt := c10
            refine gw_skip _ ?_
            refine gw_ld rfl rfl ?_
            refine z_b1 (fun c11 => ?_) (fun c11 => ?_)
            · have c11 : fd.toInt = 0 := c11
              refine gw_skip _ ?_
              refine z_C (m := 0) rfl rfl (fun x12 ex12 => ?_)
              refine z_ri ?_
              exact K _ x12 F X2 (by omega)
            · have c11 : ¬ (fd.toInt = 0) := c11
              refine gw_ld rfl rfl ?_
              refine z_go ?_
              refine gw_skip _ ?_
              refine z_ri ?_
              exact K _ bt F X2 (by omega)
          · have c10 : ¬ (x9.toInt < x8.toInt) := c10
            refine gw_ld rfl rfl ?_
            refine gw_ld rfl rfl ?_
            refine z_b2 (fun c13 => ?_) (fun c13 => ?_)
            · have c13 : ms.toInt ≤ bt.toInt := c13
              refine gw_skip _ ?_
              refine gw_ld rfl rfl ?_
              refine z_b1 (fun c14 => ?_) (fun c14 => ?_)
              · have c14 : fd.toInt = 0 := c14
                refine gw_skip _ ?_
                refine z_C (m := 0) rfl rfl (fun x15 ex15 => ?_)
                refine z_ri ?_
                exact K _ x15 F X2 (by omega)
              · have c14 : ¬ (fd.toInt = 0) := c14
                refine gw_ld rfl rfl ?_
                refine z_go ?_
                refine gw_skip _ ?_
                refine z_ri ?_
                exact K _ bt F X2 (by omega)
            · have c13 : ¬ (ms.toInt ≤ bt.toInt) := c13
              refine gw_ld rfl rfl ?_
              refine z_gR (q := 3) (zT X2.1 (by decide) rfl) (zRf X2.1 (by decide) (by decide) rfl) (by decide) ?_
              refine gw_ld rfl rfl ?_
              refine gw_ld rfl rfl ?_
              first | refine z_add (by omega) (fun x16 ex16 => ?_) | refine z_addW (fun x16 ex16 => ?_)
              have rx16 := z_rng x16
              refine z_ia (n := 6100) (zT X2.1 (by decide) rfl) (zN X2.1 (by decide) rfl) (by omega) ?_
              generalize ex17 : ez_I h2 3 x16.toInt.toNat = x17
              have rx17 := z_rng x17
              have qx17 := congrArg Int32.toInt ex17
              refine gw_ld rfl rfl ?_
              refine z_gR (q := 3) (zT X2.1 (by decide) rfl) (zRf X2.1 (by decide) (by decide) rfl) (by decide) ?_
              refine gw_ld rfl rfl ?_
              refine gw_ld rfl rfl ?_
              first | refine z_add (by omega) (fun x18 ex18 => ?_) | refine z_addW (fun x18 ex18 => ?_)
              have rx18 := z_rng x18
              refine z_ia (n := 6100) (zT X2.1 (by decide) rfl) (zN X2.1 (by decide) rfl) (by omega) ?_
              generalize ex19 : ez_I h2 3 x18.toInt.toNat = x19
              have rx19 := z_rng x19
              have qx19 := congrArg Int32.toInt ex19
              refine z_b2 (fun c20 => ?_) (fun c20 => ?_)
              · have c20 : x17.toInt ≠ x19.toInt := c20
                refine gw_skip _ ?_
                refine gw_ld rfl rfl ?_
                refine z_gR (q := 60) (zT X2.1 (by decide) rfl) (zRf X2.1 (by decide) (by decide) rfl) (by decide) ?_
                refine gw_ld rfl rfl ?_
                refine z_ia (n := 6000) (zT X2.1 (by decide) rfl) (zN X2.1 (by decide) rfl) (by omega) ?_
                generalize ex21 : ez_I h2 60 fm.toInt.toNat = x21
                have rx21 := z_rng x21
                have qx21 := congrArg Int32.toInt ex21
                have yx21 := hinv.2.2 fm.toInt.toNat (by omega)
                rw [ex21] at yx21
                refine gw_st rfl rfl rfl ?_
                show ez_gw _ _ _ _ _ _ _ _ [some (.ref 58), some (.ref 2), some (.int b), some (.int l), some (.int ms), some (.int bt), some (.int fd), some (.int x21), some (.int i), l9] _ _ _
                first | (refine z_inc rfl (by rw [show (1 : Int32).toInt = 1 from rfl]; omega) (fun x22 ex22 => ?_); rw [show (1 : Int32).toInt = 1 from rfl] at ex22) | refine z_incW rfl (fun x22 ex22 => ?_)
                have rx22 := z_rng x22
                show ez_gw _ _ _ _ _ _ _ _ [some (.ref 58), some (.ref 2), some (.int b), some (.int l), some (.int ms), some (.int bt), some (.int fd), some (.int x21), some (.int x22), l9] _ _ _
                refine z_go ?_
                exact ih _ ms bt fd x21 x22 (l9) F X2 (⟨by omega, hinv.2⟩) (by omega)
              · have c20 : ¬ (x17.toInt ≠ x19.toInt) := c20
                refine gw_ld rfl rfl ?_
                refine z_gR (q := 3) (zT X2.1 (by decide) rfl) (zRf X2.1 (by decide) (by decide) rfl) (by decide) ?_
                refine gw_ld rfl rfl ?_
                refine gw_ld rfl rfl ?_
                refine gw_ld rfl rfl ?_
                refine z_cl rfl rfl rfl rfl rfl rfl rfl rfl rfl rfl rfl (trivial) ?_
                refine k_sameB X2 (by omega) (fun x23 k24 => ?_)
                have rx23 := z_rng x23
                refine gw_st rfl rfl rfl ?_
                show ez_gw _ _ _ _ _ _ _ _ [some (.ref 58), some (.ref 2), some (.int b), some (.int l), some (.int ms), some (.int bt), some (.int fd), some (.int fm), some (.int i), some (.int x23)] _ _ _
                refine gw_ld rfl rfl ?_
                refine gw_ld rfl rfl ?_
                refine z_b2 (fun c25 => ?_) (fun c25 => ?_)
                · have c25 : x23.toInt ≤ bt.toInt := c25
                  refine gw_skip _ ?_
                  refine gw_ld rfl rfl ?_
                  refine z_gR (q := 60) (zT X2.1 (by decide) rfl) (zRf X2.1 (by decide) (by decide) rfl) (by decide) ?_
                  refine gw_ld rfl rfl ?_
                  refine z_ia (n := 6000) (zT X2.1 (by decide) rfl) (zN X2.1 (by decide) rfl) (by omega) ?_
                  generalize ex26 : ez_I h2 60 fm.toInt.toNat = x26
                  have rx26 := z_rng x26
                  have qx26 := congrArg Int32.toInt ex26
                  have yx26 := hinv.2.2 fm.toInt.toNat (by omega)
                  rw [ex26] at yx26
                  refine gw_st rfl rfl rfl ?_
                  show ez_gw _ _ _ _ _ _ _ _ [some (.ref 58), some (.ref 2), some (.int b), some (.int l), some (.int ms), some (.int bt), some (.int fd), some (.int x26), some (.int i), some (.int x23)] _ _ _
                  first | (refine z_inc rfl (by rw [show (1 : Int32).toInt = 1 from rfl]; omega) (fun x27 ex27 => ?_); rw [show (1 : Int32).toInt = 1 from rfl] at ex27) | refine z_incW rfl (fun x27 ex27 => ?_)
                  have rx27 := z_rng x27
                  show ez_gw _ _ _ _ _ _ _ _ [some (.ref 58), some (.ref 2), some (.int b), some (.int l), some (.int ms), some (.int bt), some (.int fd), some (.int x26), some (.int x27), some (.int x23)] _ _ _
                  refine z_go ?_
                  exact ih _ ms bt fd x26 x27 (some (.int x23)) F X2 (⟨by omega, hinv.2⟩) (by omega)
                · have c25 : ¬ (x23.toInt ≤ bt.toInt) := c25
                  refine gw_ld rfl rfl ?_
                  refine gw_st rfl rfl rfl ?_
                  show ez_gw _ _ _ _ _ _ _ _ [some (.ref 58), some (.ref 2), some (.int b), some (.int l), some (.int ms), some (.int x23), some (.int fd), some (.int fm), some (.int i), some (.int x23)] _ _ _
                  refine gw_ld rfl rfl ?_
                  refine gw_ld rfl rfl ?_
                  refine gw_ld rfl rfl ?_
                  first | refine z_sub (by omega) (fun x28 ex28 => ?_) | refine z_subW (fun x28 ex28 => ?_)
                  have rx28 := z_rng x28
                  refine z_pI (zT X2.1 (by decide) rfl) (fun h29 e30 => ?_)
                  have X31 := xI_set X2 e30 (xW_of (by decide))
                  have F32 := zF_set F e30 (by omega)
                  have f33 : ez_I h29 58 2 = x28 := zI_eq e30
                  have ch34 := chI_set hinv.2 e30 (by omega)
                  refine z_C (m := 1) rfl rfl (fun x35 ex35 => ?_)
                  refine gw_st rfl rfl rfl ?_
                  show ez_gw _ _ _ _ _ _ _ _ [some (.ref 58), some (.ref 2), some (.int b), some (.int l), some (.int ms), some (.int x23), some (.int x35), some (.int fm), some (.int i), some (.int x23)] _ _ _
                  refine gw_ld rfl rfl ?_
                  refine z_gR (q := 60) (zT X31.1 (by decide) rfl) (zRf X31.1 (by decide) (by decide) rfl) (by decide) ?_
                  refine gw_ld rfl rfl ?_
                  refine z_ia (n := 6000) (zT X31.1 (by decide) rfl) (zN X31.1 (by decide) rfl) (by omega) ?_
                  generalize ex36 : ez_I h29 60 fm.toInt.toNat = x36
                  have rx36 := z_rng x36
                  have qx36 := congrArg Int32.toInt ex36
                  have yx36 := ch34.2 fm.toInt.toNat (by omega)
                  rw [ex36] at yx36
                  refine gw_st rfl rfl rfl ?_
                  show ez_gw _ _ _ _ _ _ _ _ [some (.ref 58), some (.ref 2), some (.int b), some (.int l), some (.int ms), some (.int x23), some (.int x35), some (.int x36), some (.int i), some (.int x23)] _ _ _
                  first | (refine z_inc rfl (by rw [show (1 : Int32).toInt = 1 from rfl]; omega) (fun x37 ex37 => ?_); rw [show (1 : Int32).toInt = 1 from rfl] at ex37) | refine z_incW rfl (fun x37 ex37 => ?_)
                  have rx37 := z_rng x37
                  show ez_gw _ _ _ _ _ _ _ _ [some (.ref 58), some (.ref 2), some (.int b), some (.int l), some (.int ms), some (.int x23), some (.int x35), some (.int x36), some (.int x37), some (.int x23)] _ _ _
                  refine z_go ?_
                  have t38 := congrArg Int32.toInt f33
                  exact ih _ ms x23 x35 x36 x37 (some (.int x23)) F32 X31 (⟨by omega, ch34⟩) (by omega)
set_option maxRecDepth 4000 in
set_option maxHeartbeats 20000000 in
theorem k_search {E : Nat → Nat × (Nat → Int32)} {d : Nat} {Q : ez_Q} {h : ez_H} {n : Int} {b : Int32} {l : Int32} (X : xI h) (C : chI h n) (hn : n + 3 > (ez_I h 2 1).toInt ∨ n ≥ 6000) (hb : 0 ≤ b.toInt) (K : ∀ h2 (x : Int32), zF (fun q => q = 58) h h2 → xI h2 → (0 ≤ x.toInt ∧ x.toInt ≤ 258) → Q (.inl (some (.int x))) h2) : pw E (d + 1) 110 0 [some (.ref 58), some (.ref 2), some (.int b), some (.int l), none, none, none, none, none, none] [] h Q := by
  have gb := z_rng b
  have gl := z_rng l
  have F := zF_refl (fun q => q = 58) h
  apply ez_Wp_in
  show ez_gw _ _ _ _ _ _ (cz_110) _ _ _ _ _
  refine gw_skip _ ?_
  refine z_C (m := 258) rfl rfl (fun x1 ex1 => ?_)
  refine gw_ld rfl rfl ?_
  have r2 := X.2.1
  refine z_gI2 (by decide) (zT X.1 (by decide) rfl) (rfl) ?_
  refine gw_ld rfl rfl ?_
  first | refine z_sub (by omega) (fun x3 ex3 => ?_) | refine z_subW (fun x3 ex3 => ?_)
  have rx3 := z_rng x3
  refine z_min rfl (fun x4 ex4 => ?_)
  refine gw_st rfl rfl rfl ?_
  show ez_gw _ _ _ _ _ _ _ _ [some (.ref 58), some (.ref 2), some (.int b), some (.int l), some (.int x4), none, none, none, none, none] _ _ _
  refine gw_ld rfl rfl ?_
  refine z_C (m := 2) rfl rfl (fun x5 ex5 => ?_)
  refine z_max rfl (fun x6 ex6 => ?_)
  refine gw_st rfl rfl rfl ?_
  show ez_gw _ _ _ _ _ _ _ _ [some (.ref 58), some (.ref 2), some (.int b), some (.int l), some (.int x4), some (.int x6), none, none, none, none] _ _ _
  refine gw_ld rfl rfl ?_
  refine z_b1 (fun c7 => ?_) (fun c7 => ?_)
  · have c7 : b.toInt < 0 := c7
    refine gw_skip _ ?_
    refine z_C (m := 0) rfl rfl (fun x8 ex8 => ?_)
    refine z_ri ?_
    exact K _ x8 F X (by omega)
  · have c7 : ¬ (b.toInt < 0) := c7
    refine gw_ld rfl rfl ?_
    refine gw_ld rfl rfl ?_
    refine z_gR (q := 60) (zT X.1 (by decide) rfl) (zRf X.1 (by decide) (by decide) rfl) (by decide) ?_
    refine z_al (n := 6000) (.inl (zT X.1 (by decide) rfl)) (zN X.1 (by decide) rfl) (by omega) (fun x9 ex9 => ?_)
    refine z_b2 (fun c10 => ?_) (fun c10 => ?_)
    · have c10 : x9.toInt ≤ b.toInt := c10
      refine gw_skip _ ?_
      refine z_C (m := 0) rfl rfl (fun x11 ex11 => ?_)
      refine z_ri ?_
      exact K _ x11 F X (by omega)
    · have c10 : ¬ (x9.toInt ≤ b.toInt) := c10
      refine gw_ld rfl rfl ?_
      refine gw_ld rfl rfl ?_
      refine z_b2 (fun c12 => ?_) (fun c12 => ?_)
      · have c12 : x6.toInt < x4.toInt := c12
        refine gw_skip _ ?_
        refine z_C (m := 0) rfl rfl (fun x13 ex13 => ?_)
        refine gw_st rfl rfl rfl ?_
        show ez_gw _ _ _ _ _ _ _ _ [some (.ref 58), some (.ref 2), some (.int b), some (.int l), some (.int x4), some (.int x6), some (.int x13), none, none, none] _ _ _
        refine gw_ld rfl rfl ?_
        refine z_gR (q := 60) (zT X.1 (by decide) rfl) (zRf X.1 (by decide) (by decide) rfl) (by decide) ?_
        refine gw_ld rfl rfl ?_
        refine z_ia (n := 6000) (zT X.1 (by decide) rfl) (zN X.1 (by decide) rfl) (by omega) ?_
        generalize ex14 : ez_I h 60 b.toInt.toNat = x14
        have rx14 := z_rng x14
        have qx14 := congrArg Int32.toInt ex14
        have yx14 := C.2 b.toInt.toNat (by omega)
        rw [ex14] at yx14
        refine gw_st rfl rfl rfl ?_
        show ez_gw _ _ _ _ _ _ _ _ [some (.ref 58), some (.ref 2), some (.int b), some (.int l), some (.int x4), some (.int x6), some (.int x13), some (.int x14), none, none] _ _ _
        refine z_C (m := 0) rfl rfl (fun x15 ex15 => ?_)
        refine gw_st rfl rfl rfl ?_
        show ez_gw _ _ _ _ _ _ _ _ [some (.ref 58), some (.ref 2), some (.int b), some (.int l), some (.int x4), some (.int x6), some (.int x13), some (.int x14), some (.int x15), none] _ _ _
        exact ez_Wp_out ((k_search_L (n := n) (b := b) (l := l) X C hn hb K (((2147483647 - x15.toInt)).toNat + 1)) _ x4 x6 x13 x14 x15 (none) F X (⟨by omega, C⟩) (by omega))
      · have c12 : ¬ (x6.toInt < x4.toInt) := c12
        refine z_C (m := 0) rfl rfl (fun x16 ex16 => ?_)
        refine z_ri ?_
        exact K _ x16 F X (by omega)
