/-! a symbol read by the model -/
theorem ctC_w {h h2 : ez_H} {c n m : Nat} {o y : Int32} {L : Nat → Nat} (A : ctC (ez_I h c) L n) (e : h2 = ez_setI h c 0 y) (h0 : L n = 0) (eo : ez_I h c 0 = o) (hy : y.toInt = o.toInt) (hm : m = n + 1) : ctC (ez_I h2 c) L m := by
  subst hm
  refine ⟨by rw [zI_eq e, hy, ← eo]; exact A.1, fun l a b => ?_⟩
  rw [zI_ne e (by omega), A.2 l a b, ctN_n (by omega)]
/-- one code alone, of length 1: not found with one bit, it is never found -/
theorem sd_one {T : Nat → Int} {n p : Nat} {L : Nat → Nat} {N l m : Nat} (h : sdF T n p L N 15 1 = sdF T n p L N (16 - m) m) (hl : 1 ≤ l ∧ l ≤ 15) (hm : m = l + 1) (hone : plN L N 16 = 1 → ctN L 1 N = 1) (h1 : plN L N 16 = 1) (hc : ncN L N m ≤ cdV T p m) : sdR T n p L N = none := by
  refine sdR_no (h.trans (sd_done (by omega) ?_ hc))
  have a := plN_s (L := L) (N := N) (l := 1) (by omega)
  have b := plN_up (L := L) (N := N) (a := 2) (by omega) m (by omega)
  have c : plN L N 1 = 0 := rfl
  have d := hone h1
  have e : plN L N 2 = plN L N 1 + ctN L 1 N := a
  omega
theorem sd_zero {T : Nat → Int} {n p : Nat} {L : Nat → Nat} {N : Nat} (h : plN L N 16 = 0) : sdR T n p L N = none := sdR_no (sd_done (l := 1) (by omega) (by omega) (Nat.zero_le _))
/-! PRINTED by wip/pack: a symbol read by the model -/
set_option maxRecDepth 4000 in
set_option maxHeartbeats 2000000 in
theorem d_wrong {E : Nat → Nat × (Nat → Int32)} {d : Nat} {Q : ez_Q} {h : ez_H} {n : Int32} (S : zSh h)  (K : ∀ h2, zW (fun q k => q = 71 ∧ k = 61) (fun _ => False) (fun _ => False) h h2 → ((ez_I h 71 61).toInt = 0 → (ez_I h2 71 61).toInt = n.toInt) → ((ez_I h 71 61).toInt ≠ 0 → (ez_I h2 71 61).toInt = (ez_I h 71 61).toInt) → Q (.inl none) h2) : pw E d 52 0 [some (.ref 71), some (.int n)] [] h Q := by
  have gn := z_rng n
  have F := zW_refl (fun q k => q = 71 ∧ k = 61) (fun _ => False) (fun _ => False) h
  apply ez_Wp_in
  show ez_gw _ _ _ _ _ _ (cz_52) _ _ _ _ _
  refine gw_skip _ ?_
  have r1 := z_rng (ez_I h 71 61)
  refine gw_ld rfl rfl ?_
  refine z_gI2 (by decide) (zT S (by decide) rfl) (rfl) ?_
  refine z_b1 (fun c2 => ?_) (fun c2 => ?_)
  · have c2 : ((ez_I h 71 61)).toInt ≠ 0 := c2
    refine gw_skip _ ?_
    refine z_rv ?_
    exact K _ F (fun q => by omega) (fun q => by omega)
  · have c2 : ¬ (((ez_I h 71 61)).toInt ≠ 0) := c2
    refine gw_ld rfl rfl ?_
    refine gw_ld rfl rfl ?_
    refine z_pI (zT S (by decide) rfl) (fun h3 e4 => ?_)
    have S5 := zSh_set S e4
    have F6 := zW_setF F e4 (by omega)
    have f7 : ez_I h3 71 61 = n := zI_eq e4
    refine z_rv ?_
    have t8 := congrArg Int32.toInt (f7)
    exact K _ F6 (fun q => by omega) (fun q => by omega)
set_option maxRecDepth 4000 in
set_option maxHeartbeats 2000000 in
theorem d_symOf_L0 {E : Nat → Nat × (Nat → Int32)} {d : Nat} {Q : ez_Q} {h : ez_H} {u : Nat} {n : Int32} {l : Int32} {m : Int32} (S : zSh h) {nu kk : Nat} (hu : zA u nu) (hk : kk < nu ∧ nu ≤ 1000) (hL : aR (ez_I h u) (kk + 1) 0 15) (h1 : (nL (ez_I h u)) kk = l.toInt.toNat) (h2 : ctN (nL (ez_I h u)) l.toInt.toNat kk = m.toInt.toNat) (hl : 1 ≤ l.toInt) (hm : 0 ≤ m.toInt) (K : ∀ x : Int32, x.toInt = (kk : Nat) → Q (.inl (some (.int x))) h) : ∀ N : Nat, (∀ (h2 : ez_H) (lf : Int32) (k : Int32) , zW (fun _ _ => False) (fun _ => False) (fun _ => False) h h2 → (0 ≤ k.toInt ∧ k.toInt ≤ kk ∧ lf.toInt = m.toInt - (ctN (nL (ez_I h u)) l.toInt.toNat k.toInt.toNat : Nat)) → (2000 - k.toInt) < (N : Int) → pw E d 55 6 [some (.ref u), some (.int n), some (.int l), some (.int m), some (.int lf), some (.int k)] [] h2 Q) := by
  intro N
  induction N with
  | zero => exact fun h2 lf k  F hinv  hm => absurd hm (by have w_lf := z_rng lf; have w_k := z_rng k; have gn := z_rng n; have gl := z_rng l; have gm := z_rng m; omega)
  | succ N ih =>
    refine fun h2 lf k  F hinv  hm => ?_
    · skip
      have w_lf := z_rng lf
      have w_k := z_rng k
      have gn := z_rng n
      have gl := z_rng l
      have gm := z_rng m
      have S2 := zW_sh F S
      have hmo := ctN_mono (L := (nL (ez_I h u))) (l := l.toInt.toNat) (n := k.toInt.toNat) kk (by omega)
      apply ez_Wp_in
      show ez_gw _ _ _ _ _ _ (cz_55) _ _ _ _ _
      refine gw_skip _ ?_
      refine gw_ld rfl rfl ?_
      refine gw_ld rfl rfl ?_
      refine z_iaV (n := nu) ((hu _ S2).1) ((hu _ S2).2) (by omega) (zW_f F (fun c => c) (fun c => c)) ?_
      generalize ex1 : ez_I h u k.toInt.toNat = x1
      have rx1 := z_rng x1
      have yx1 := hL k.toInt.toNat (by omega)
      rw [ex1] at yx1
      refine gw_ld rfl rfl ?_
      refine z_b2 (fun c2 => ?_) (fun c2 => ?_)
      · have c2 : x1.toInt ≠ l.toInt := c2
        refine gw_skip _ ?_
        refine gw_ld rfl rfl ?_
        refine gw_ld rfl rfl ?_
        refine gw_ld rfl rfl ?_
        refine z_iaV (n := nu) ((hu _ S2).1) ((hu _ S2).2) (by omega) ((zW_f F (fun c => c) (fun c => c)).trans ex1) ?_
        refine gw_ld rfl rfl ?_
        refine z_b2 (fun c4 => ?_) (fun c4 => ?_)
        · have c4 : x1.toInt ≠ l.toInt := c4
          refine gw_skip _ ?_
          refine z_C (m := 0) rfl rfl (fun x5 ex5 => ?_)
          refine z_sub (by omega) (fun x6 ex6 => ?_)
          refine gw_st rfl rfl rfl ?_
          show ez_gw _ _ _ _ _ _ _ _ [some (.ref u), some (.int n), some (.int l), some (.int m), some (.int x6), some (.int k)] _ _ _
          refine z_inc rfl (by rw [show (1 : Int32).toInt = 1 from rfl]; omega) (fun x7 ex7 => ?_)
          rw [show (1 : Int32).toInt = 1 from rfl] at ex7
          show ez_gw _ _ _ _ _ _ _ _ [some (.ref u), some (.int n), some (.int l), some (.int m), some (.int x6), some (.int x7)] _ _ _
          refine z_go ?_
          exact ih h2 x6 x7 F (by rw [show x7.toInt.toNat = k.toInt.toNat + 1 by omega]; have hyl : (nL (ez_I h u)) k.toInt.toNat ≠ l.toInt.toNat := (by show (ez_I h u k.toInt.toNat).toInt.toNat ≠ _; rw [ex1]; omega); rw [ctN_n hyl]; have : k.toInt.toNat ≠ kk := (fun q => by rw [q] at hyl; exact hyl h1); omega)  (by omega)
        · have c4 : ¬ (x1.toInt ≠ l.toInt) := c4
          exfalso; omega
      · have c2 : ¬ (x1.toInt ≠ l.toInt) := c2
        refine gw_ld rfl rfl ?_
        refine z_b1 (fun c8 => ?_) (fun c8 => ?_)
        · have c8 : lf.toInt ≤ 0 := c8
          refine gw_skip _ ?_
          refine gw_ld rfl rfl ?_
          refine z_ri ?_
          have hyl : (nL (ez_I h u)) k.toInt.toNat = l.toInt.toNat := by show (ez_I h u k.toInt.toNat).toInt.toNat = _; rw [ex1]; omega
          have hyc := ctN_y (L := (nL (ez_I h u))) (l := l.toInt.toNat) (n := k.toInt.toNat) hyl
          have hym : k.toInt.toNat < kk → _ := fun q => ctN_mono (L := (nL (ez_I h u))) (l := l.toInt.toNat) (n := k.toInt.toNat + 1) kk (by omega)
          exact zW_Q F (K _ (by omega))
        · have c8 : ¬ (lf.toInt ≤ 0) := c8
          refine gw_ld rfl rfl ?_
          refine gw_ld rfl rfl ?_
          refine gw_ld rfl rfl ?_
          refine z_iaV (n := nu) ((hu _ S2).1) ((hu _ S2).2) (by omega) ((zW_f F (fun c => c) (fun c => c)).trans ex1) ?_
          refine gw_ld rfl rfl ?_
          refine z_b2 (fun c10 => ?_) (fun c10 => ?_)
          · have c10 : x1.toInt ≠ l.toInt := c10
            exfalso; omega
          · have c10 : ¬ (x1.toInt ≠ l.toInt) := c10
            refine z_C (m := 1) rfl rfl (fun x11 ex11 => ?_)
            refine z_go ?_
            refine gw_skip _ ?_
            refine z_sub (by omega) (fun x12 ex12 => ?_)
            refine gw_st rfl rfl rfl ?_
            show ez_gw _ _ _ _ _ _ _ _ [some (.ref u), some (.int n), some (.int l), some (.int m), some (.int x12), some (.int k)] _ _ _
            refine z_inc rfl (by rw [show (1 : Int32).toInt = 1 from rfl]; omega) (fun x13 ex13 => ?_)
            rw [show (1 : Int32).toInt = 1 from rfl] at ex13
            show ez_gw _ _ _ _ _ _ _ _ [some (.ref u), some (.int n), some (.int l), some (.int m), some (.int x12), some (.int x13)] _ _ _
            refine z_go ?_
            exact ih h2 x12 x13 F (by rw [show x13.toInt.toNat = k.toInt.toNat + 1 by omega]; have hyl : (nL (ez_I h u)) k.toInt.toNat = l.toInt.toNat := (by show (ez_I h u k.toInt.toNat).toInt.toNat = _; rw [ex1]; omega); rw [ctN_y hyl]; have : k.toInt.toNat ≠ kk := (fun q => by rw [q] at hinv; omega); omega)  (by omega)
set_option maxRecDepth 4000 in
set_option maxHeartbeats 2000000 in
theorem d_symOf {E : Nat → Nat × (Nat → Int32)} {d : Nat} {Q : ez_Q} {h : ez_H} {u : Nat} {n : Int32} {l : Int32} {m : Int32} (S : zSh h) {nu kk : Nat} (hu : zA u nu) (hk : kk < nu ∧ nu ≤ 1000) (hL : aR (ez_I h u) (kk + 1) 0 15) (h1 : (nL (ez_I h u)) kk = l.toInt.toNat) (h2 : ctN (nL (ez_I h u)) l.toInt.toNat kk = m.toInt.toNat) (hl : 1 ≤ l.toInt) (hm : 0 ≤ m.toInt) (K : ∀ x : Int32, x.toInt = (kk : Nat) → Q (.inl (some (.int x))) h) : pw E d 55 0 [some (.ref u), some (.int n), some (.int l), some (.int m), none, none] [] h Q := by
  have gn := z_rng n
  have gl := z_rng l
  have gm := z_rng m
  have F := zW_refl (fun _ _ => False) (fun _ => False) (fun _ => False) h
  apply ez_Wp_in
  show ez_gw _ _ _ _ _ _ (cz_55) _ _ _ _ _
  refine gw_skip _ ?_
  refine gw_ld rfl rfl ?_
  refine gw_st rfl rfl rfl ?_
  show ez_gw _ _ _ _ _ _ _ _ [some (.ref u), some (.int n), some (.int l), some (.int m), some (.int m), none] _ _ _
  refine z_C (m := 0) rfl rfl (fun x1 ex1 => ?_)
  refine gw_st rfl rfl rfl ?_
  show ez_gw _ _ _ _ _ _ _ _ [some (.ref u), some (.int n), some (.int l), some (.int m), some (.int m), some (.int x1)] _ _ _
  exact ez_Wp_at ((d_symOf_L0 (u := u) (n := n) (l := l) (m := m) S hu hk hL h1 h2 hl hm K (((2000 - x1.toInt)).toNat + 1)) h m x1 F (⟨by omega, by omega, by rw [show x1.toInt.toNat = 0 by omega]; show _ = _ - ((0 : Nat) : Int); omega⟩)  (by omega)) rfl

