/-! a symbol read by the class -/
theorem vB_1 (T : Nat → Int) (p : Nat) : vB T p 1 = bitT T p := by
  show 0 + bitT T (p + 0) * 2 ^ 0 = _
  rw [Nat.pow_zero, Nat.mul_one, Nat.add_zero]
  omega
theorem cdV_n {T : Nat → Int} {p l : Nat} (h : 1 ≤ l) : cdV T p l = 2 * cdV T p (l - 1) + bitT T (p + (l - 1)) := by
  obtain ⟨m, rfl⟩ : ∃ m, l = m + 1 := ⟨l - 1, by omega⟩
  rfl
theorem plN_up {L : Nat → Nat} {N a : Nat} (ha : 1 ≤ a) : ∀ b, a ≤ b → plN L N a ≤ plN L N b := by
  intro b
  induction b with
  | zero => intro h; omega
  | succ b ih =>
    intro h
    by_cases e : a = b + 1
    · subst e; exact Nat.le_refl _
    · have := ih (by omega)
      rw [plN_s (by omega)]
      omega
theorem sdR_no {T : Nat → Int} {n p : Nat} {L : Nat → Nat} {N : Nat} (h : sdF T n p L N 15 1 = none) : sdR T n p L N = none := by
  unfold sdR
  rw [h]
theorem sd_done {T : Nat → Int} {n p : Nat} {L : Nat → Nat} {N l : Nat} (hl : 1 ≤ l ∧ l ≤ 16) (hp : plN L N 16 ≤ plN L N l) (hc : ncN L N l ≤ cdV T p l) : sdF T n p L N (16 - l) l = none := by
  have h0 : ∀ m, l ≤ m → m < 16 → ctN L m N = 0 := fun m a b => by
    have h1 := plN_s (L := L) (N := N) (l := m) (by omega)
    have h2 := plN_up (L := L) (N := N) (a := m + 1) (by omega) 16 (by omega)
    have h3 := plN_up (L := L) (N := N) (a := l) (by omega) m a
    omega
  have h1 : ∀ d, l + d < 16 → ncN L N (l + d) ≤ cdV T p (l + d) := by
    intro d
    induction d with
    | zero => intro _; exact hc
    | succ d ih =>
      intro h
      have a := ih (by omega)
      have b := h0 (l + d) (by omega) (by omega)
      show ncN L N (l + d + 1) ≤ cdV T p (l + d + 1)
      rw [ncN_s (by omega), b]
      show _ ≤ 2 * cdV T p (l + d) + bitT T (p + (l + d))
      omega
  refine sdF_none _ _ (fun m a b => ⟨h0 m a (by omega), ?_⟩)
  have := h1 (m - l) (by omega)
  rw [show l + (m - l) = m by omega] at this
  exact this
theorem sd_found {T : Nat → Int} {n p : Nat} {L : Nat → Nat} {N l k : Nat} (h : sdF T n p L N 15 1 = sdF T n p L N (16 - l) l) (hl : 1 ≤ l ∧ l ≤ 15) (hp : p + l ≤ 8 * n) (hc : ncN L N l ≤ cdV T p l) (hk : k < N) (h1 : L k = l) (h2 : ctN L l k = cdV T p l - ncN L N l) : sdR T n p L N = some (k, p + l) := by
  have h3 := ctN_y (L := L) (l := l) (n := k) h1
  have h4 := ctN_mono (L := L) (l := l) (n := k + 1) N (by omega)
  rw [show 16 - l = (15 - l) + 1 by omega, sdF_y hp (by omega)] at h
  unfold sdR
  rw [h]
  show some (syN L l (cdV T p l - ncN L N l) N, p + l) = _
  rw [syN_is h1 h2 N hk]
theorem sd_step {T : Nat → Int} {n p : Nat} {L : Nat → Nat} {N l m : Nat} (h : sdF T n p L N 15 1 = sdF T n p L N (16 - l) l) (hl : 1 ≤ l ∧ l ≤ 15) (hp : p + l ≤ 8 * n) (hc : ¬ cdV T p l < ncN L N l + ctN L l N) (hm : m = l + 1) : sdF T n p L N 15 1 = sdF T n p L N (16 - m) m := by
  subst hm
  rw [h, show 16 - l = (15 - l) + 1 by omega, sdF_n hp hc]
  rw [show 16 - (l + 1) = 15 - l by omega]
theorem sd_end {T : Nat → Int} {n p : Nat} {L : Nat → Nat} {N l : Nat} (h : sdF T n p L N 15 1 = sdF T n p L N (16 - l) l) (ho : 8 * n < p + l ∨ 16 ≤ l) : sdF T n p L N 15 1 = none := by
  rw [h]
  rcases ho with q | q
  · exact sdF_out q
  · rw [show 16 - l = 0 by omega]; rfl
/-! PRINTED by wip/pack: a symbol read by the class -/
set_option maxRecDepth 4000 in
set_option maxHeartbeats 2000000 in
theorem c_sym_L0 {E : Nat → Nat × (Nat → Int32)} {d : Nat} {Q : ez_Q} {h : ez_H} {p : Nat} (S : zSh h) (hp : p = 15 ∨ p = 22 ∨ p = 29 ∨ p = 36 ∨ p = 43) (hM : zMem h) (hz : 0 ≤ (ez_I h 2 1).toInt ∧ (ez_I h 2 1).toInt ≤ 6000) (hb : aR (ez_I h 3) (ez_I h 2 1).toInt.toNat 0 255) (hpo : 0 ≤ (ez_I h 69 6).toInt ∧ (ez_I h 69 6).toInt ≤ 8 * (ez_I h 2 1).toInt) (hL : aR (ez_I h (p + 1)) 288 0 15) (hct : ctC (ez_I h (p + 3)) (nL (ez_I h (p + 1))) 288) (hcd : (ez_I h p 4).toInt = (plN (nL (ez_I h (p + 1))) 288 16 : Nat)) (hit : itI (ez_I h (p + 4)) (nL (ez_I h (p + 1))) 288 288) (Ke : sdR (tI (ez_I h 3)) (ez_I h 2 1).toInt.toNat (ez_I h 69 6).toInt.toNat (nL (ez_I h (p + 1))) 288 = none → ∀ h2, zW (fun q k => q = 69 ∧ k = 2 ∨ q = 69 ∧ k = 3 ∨ q = 69 ∧ k = 6) (fun _ => False) (fun _ => False) h h2 → Q (.inr 2) (ez_bump h2)) (K : ∀ h2 (x : Int32), zW (fun q k => q = 69 ∧ k = 2 ∨ q = 69 ∧ k = 3 ∨ q = 69 ∧ k = 6) (fun _ => False) (fun _ => False) h h2 → ∀ q : Nat, sdR (tI (ez_I h 3)) (ez_I h 2 1).toInt.toNat (ez_I h 69 6).toInt.toNat (nL (ez_I h (p + 1))) 288 = some (x.toInt.toNat, q) → 0 ≤ x.toInt → (ez_I h2 69 6).toInt = q → Q (.inl (some (.int x))) h2) : ∀ N : Nat, (∀ (h2 : ez_H) (w : Int32) (fi : Int32) (pl : Int32) (l : Int32) (l7 : Option Value) (l8 : Option Value) , zW (fun q k => q = 69 ∧ k = 2 ∨ q = 69 ∧ k = 3 ∨ q = 69 ∧ k = 6) (fun _ => False) (fun _ => False) h h2 → (1 ≤ l.toInt ∧ l.toInt ≤ 16 ∧ w.toInt = (cdV (tI (ez_I h 3)) (ez_I h 69 6).toInt.toNat (l.toInt.toNat - 1) : Nat) ∧ fi.toInt = (ncN (nL (ez_I h (p + 1))) 288 l.toInt.toNat : Nat) ∧ pl.toInt = (plN (nL (ez_I h (p + 1))) 288 l.toInt.toNat : Nat) ∧ (ez_I h2 69 6).toInt = (ez_I h 69 6).toInt + l.toInt - 1 ∧ (ez_I h2 69 6).toInt ≤ 8 * (ez_I h 2 1).toInt ∧ ncN (nL (ez_I h (p + 1))) 288 l.toInt.toNat ≤ (cdV (tI (ez_I h 3)) (ez_I h 69 6).toInt.toNat l.toInt.toNat)) → sdF (tI (ez_I h 3)) (ez_I h 2 1).toInt.toNat (ez_I h 69 6).toInt.toNat (nL (ez_I h (p + 1))) 288 15 1 = sdF (tI (ez_I h 3)) (ez_I h 2 1).toInt.toNat (ez_I h 69 6).toInt.toNat (nL (ez_I h (p + 1))) 288 (16 - l.toInt.toNat) l.toInt.toNat → (100 - l.toInt) < (N : Int) → pw E (d + 2) 141 11 [some (.ref 69), some (.ref 2), some (.ref p), some (.int w), some (.int fi), some (.int pl), some (.int l), l7, l8] [] h2 Q) := by
  intro N
  induction N with
  | zero => exact fun h2 w fi pl l l7 l8  F hinv A_sd hm => absurd hm (by have w_w := z_rng w; have w_fi := z_rng fi; have w_pl := z_rng pl; have w_l := z_rng l; omega)
  | succ N ih =>
    refine fun h2 w fi pl l l7 l8  F hinv A_sd hm => ?_
    · skip
      have w_w := z_rng w
      have w_fi := z_rng fi
      have w_pl := z_rng pl
      have w_l := z_rng l
      have S2 := zW_sh F S
      have hcl := cdV_lt (tI (ez_I h 3)) (ez_I h 69 6).toInt.toNat (l.toInt.toNat - 1)
      have hcp : (2 : Nat) ^ (l.toInt.toNat - 1) ≤ 2 ^ 15 := Nat.pow_le_pow_right (by decide) (by omega)
      have hcn := cdV_n (T := (tI (ez_I h 3))) (p := (ez_I h 69 6).toInt.toNat) (l := l.toInt.toNat) (by omega)
      have hnb := ncN_b (L := (nL (ez_I h (p + 1)))) (l := l.toInt.toNat) (by omega)
      have hns := ncN_s (L := (nL (ez_I h (p + 1)))) (N := 288) (l := l.toInt.toNat) (by omega)
      have hps := plN_s (L := (nL (ez_I h (p + 1)))) (N := 288) (l := l.toInt.toNat) (by omega)
      have hpl := plN_le (nL (ez_I h (p + 1))) l.toInt.toNat 288
      have hcc := ctN_le (nL (ez_I h (p + 1))) l.toInt.toNat 288
      have hb2 := bitT_2 (tI (ez_I h 3)) ((ez_I h 69 6).toInt.toNat + (l.toInt.toNat - 1))
      have hge : l.toInt ≤ 15 → _ := fun q => cdV_ge (T := (tI (ez_I h 3))) (p := (ez_I h 69 6).toInt.toNat) (L := (nL (ez_I h (p + 1)))) (N := 288) (l := l.toInt.toNat) (by omega)
      apply ez_Wp_in
      show ez_gw _ _ _ _ _ _ (cz_141) _ _ _ _ _
      refine gw_skip _ ?_
      have r1 := z_rng (ez_I h2 69 2)
      have r2 := z_rng (ez_I h2 69 3)
      have r3 := z_rng (ez_I h2 69 6)
      refine gw_ld rfl rfl ?_
      refine z_C (m := 15) rfl rfl (fun x4 ex4 => ?_)
      refine z_b2 (fun c5 => ?_) (fun c5 => ?_)
      · have c5 : x4.toInt < l.toInt := c5
        refine gw_skip _ ?_
        refine gw_ld rfl rfl ?_
        refine z_C (m := 7) rfl rfl (fun x6 ex6 => ?_)
        refine z_cl rfl rfl rfl rfl rfl rfl rfl rfl rfl rfl rfl (zT S2 (by decide) rfl) ?_
        exact c_fail (i := x6) S2 (zMw F hM) (by omega) (fun hh FF => Ke (sdR_no (sd_end A_sd (.inr (by omega)))) hh (zW_tr F FF)) trivial
      · have c5 : ¬ (x4.toInt < l.toInt) := c5
        refine gw_ld rfl rfl ?_
        refine gw_ld rfl rfl ?_
        have r7 := z_rng (ez_I h p 4)
        refine z_gI2 (by decide) ((zCode S2 hp).1) (zW_f F (fun c => c) (by omega)) ?_
        refine z_b2 (fun c8 => ?_) (fun c8 => ?_)
        · have c8 : ((ez_I h p 4)).toInt ≤ pl.toInt := c8
          refine gw_skip _ ?_
          refine gw_ld rfl rfl ?_
          refine z_C (m := 7) rfl rfl (fun x9 ex9 => ?_)
          refine z_cl rfl rfl rfl rfl rfl rfl rfl rfl rfl rfl rfl (zT S2 (by decide) rfl) ?_
          exact c_fail (i := x9) S2 (zMw F hM) (by omega) (fun hh FF => Ke (sdR_no (A_sd.trans (sd_done (by omega) (by omega) (by omega)))) hh (zW_tr F FF)) trivial
        · have c8 : ¬ (((ez_I h p 4)).toInt ≤ pl.toInt) := c8
          refine gw_ld rfl rfl ?_
          refine z_C (m := 1) rfl rfl (fun x10 ex10 => ?_)
          refine z_2 rfl (fun x11 ex11 => ?_)
          have rx11 := z_rng x11
          have vx11 := n_shl (n := 1) (by omega) (by decide) (by omega) (by omega) ex11
          rw [show (2 : Int) ^ 1 = 2 from rfl] at vx11
          refine gw_ld rfl rfl ?_
          refine gw_ld rfl rfl ?_
          refine z_C (m := 1) rfl rfl (fun x12 ex12 => ?_)
          refine z_cl rfl rfl rfl rfl rfl rfl rfl rfl rfl rfl rfl (zT S2 (by decide) rfl) ?_
          refine c_tb (n := x12) S2 (zMw F hM) (by rw [(show ez_I h2 2 1 = ez_I h 2 1 from zW_f F (by decide) (by decide))]; exact hz) (by rw [(show ez_I h2 2 1 = ez_I h 2 1 from zW_f F (by decide) (by decide)), (show ez_I h2 3 = ez_I h 3 from zW_fn F 3 (by decide) (fun k c => by omega))]; exact hb) (by rw [(show ez_I h2 2 1 = ez_I h 2 1 from zW_f F (by decide) (by decide))]; omega) (by omega) (by rw [(show ez_I h2 2 1 = ez_I h 2 1 from zW_f F (by decide) (by decide))]; exact fun q hh FF => Ke (sdR_no (sd_end A_sd (.inl (by omega)))) hh (zW_tr F FF)) (fun h13 x15 F14 k16 k17 k18 => ?_)
          rw [(show ez_I h2 3 = ez_I h 3 from zW_fn F 3 (by decide) (fun k c => by omega)), show x12.toInt.toNat = 1 by omega, vB_1, show (ez_I h2 69 6).toInt.toNat = (ez_I h 69 6).toInt.toNat + (l.toInt.toNat - 1) by omega] at k17
          rw [(show ez_I h2 2 1 = ez_I h 2 1 from zW_f F (by decide) (by decide))] at k16
          have rx15 := z_rng x15
          have S19 := zW_sh F14 S2
          have F20 := zW_tr F (zW_mono F14 (fun q k hk => by first | omega | exact False.elim hk) (fun q hk => by first | omega | exact False.elim hk) (fun q hk => by first | omega | exact False.elim hk))
          have r21 := z_rng (ez_I h13 69 2)
          have r22 := z_rng (ez_I h13 69 3)
          have r23 := z_rng (ez_I h13 69 6)
          refine z_2 rfl (fun x24 ex24 => ?_)
          have rx24 := z_rng x24
          have vx24 := n_or (n := 1) (a := w.toInt) (by omega) (by omega) (by omega) (by omega) ex24
          refine gw_st rfl rfl rfl ?_
          show ez_gw _ _ _ _ _ _ _ _ [some (.ref 69), some (.ref 2), some (.ref p), some (.int x24), some (.int fi), some (.int pl), some (.int l), l7, l8] _ _ _
          refine gw_ld rfl rfl ?_
          refine z_gR (q := (p + 3)) ((zCode S19 hp).1) ((zCode S19 hp).2.1.2.2.1) (by omega) ?_
          refine gw_ld rfl rfl ?_
          refine z_iaV (n := 16) ((zCode S19 hp).2.2.1.2.2.1) ((zCode S19 hp).2.2.2.2.2.1) (by omega) (zW_f F20 (fun c => c) (by omega)) ?_
          generalize ex25 : ez_I h (p + 3) l.toInt.toNat = x25
          have rx25 := z_rng x25
          have yx25 := hct.2 l.toInt.toNat (by omega) (by omega)
          rw [ex25] at yx25
          refine gw_st rfl rfl rfl ?_
          show ez_gw _ _ _ _ _ _ _ _ [some (.ref 69), some (.ref 2), some (.ref p), some (.int x24), some (.int fi), some (.int pl), some (.int l), some (.int x25), l8] _ _ _
          refine gw_ld rfl rfl ?_
          refine gw_ld rfl rfl ?_
          refine z_add (by omega) (fun x26 ex26 => ?_)
          refine gw_ld rfl rfl ?_
          refine z_sub (by omega) (fun x27 ex27 => ?_)
          refine gw_st rfl rfl rfl ?_
          show ez_gw _ _ _ _ _ _ _ _ [some (.ref 69), some (.ref 2), some (.ref p), some (.int x24), some (.int fi), some (.int pl), some (.int l), some (.int x25), some (.int x27)] _ _ _
          refine gw_ld rfl rfl ?_
          refine gw_ld rfl rfl ?_
          refine z_sub (by omega) (fun x28 ex28 => ?_)
          refine gw_ld rfl rfl ?_
          refine z_b2 (fun c29 => ?_) (fun c29 => ?_)
          · have c29 : x25.toInt ≤ x28.toInt := c29
            refine gw_skip _ ?_
            refine gw_ld rfl rfl ?_
            refine gw_ld rfl rfl ?_
            refine z_add (by omega) (fun x30 ex30 => ?_)
            refine gw_st rfl rfl rfl ?_
            show ez_gw _ _ _ _ _ _ _ _ [some (.ref 69), some (.ref 2), some (.ref p), some (.int x24), some (.int fi), some (.int x30), some (.int l), some (.int x25), some (.int x27)] _ _ _
            refine gw_ld rfl rfl ?_
            refine gw_ld rfl rfl ?_
            refine z_add (by omega) (fun x31 ex31 => ?_)
            refine z_C (m := 1) rfl rfl (fun x32 ex32 => ?_)
            refine z_2 rfl (fun x33 ex33 => ?_)
            have rx33 := z_rng x33
            have vx33 := n_shl (n := 1) (by omega) (by decide) (by omega) (by omega) ex33
            rw [show (2 : Int) ^ 1 = 2 from rfl] at vx33
            refine gw_st rfl rfl rfl ?_
            show ez_gw _ _ _ _ _ _ _ _ [some (.ref 69), some (.ref 2), some (.ref p), some (.int x24), some (.int x33), some (.int x30), some (.int l), some (.int x25), some (.int x27)] _ _ _
            refine z_inc rfl (by rw [show (1 : Int32).toInt = 1 from rfl]; omega) (fun x34 ex34 => ?_)
            rw [show (1 : Int32).toInt = 1 from rfl] at ex34
            show ez_gw _ _ _ _ _ _ _ _ [some (.ref 69), some (.ref 2), some (.ref p), some (.int x24), some (.int x33), some (.int x30), some (.int x34), some (.int x25), some (.int x27)] _ _ _
            refine z_go ?_
            exact ih h13 x24 x33 x30 x34 (some (.int x25)) (some (.int x27)) F20 (⟨by omega, by omega, by rw [show x34.toInt.toNat - 1 = l.toInt.toNat by omega]; omega, by rw [show x34.toInt.toNat = l.toInt.toNat + 1 by omega]; omega, by rw [show x34.toInt.toNat = l.toInt.toNat + 1 by omega]; omega, by omega, by omega, by rw [show x34.toInt.toNat = l.toInt.toNat + 1 by omega]; exact hge (by omega) (by omega)⟩) (sd_step A_sd (by omega) (by omega) (by omega) (by omega)) (by omega)
          · have c29 : ¬ (x25.toInt ≤ x28.toInt) := c29
            obtain ⟨kk, hk1, hk2, hk3⟩ := ctN_ex (L := (nL (ez_I h (p + 1)))) (l := l.toInt.toNat) (i := (cdV (tI (ez_I h 3)) (ez_I h 69 6).toInt.toNat l.toInt.toNat) - ncN (nL (ez_I h (p + 1))) 288 l.toInt.toNat) 288 (by omega)
            have hpc := pcN_288 (L := (nL (ez_I h (p + 1)))) (N := 288) hk1 (by omega)
            have hpe : pcN (nL (ez_I h (p + 1))) 288 kk = plN (nL (ez_I h (p + 1))) 288 l.toInt.toNat + ctN (nL (ez_I h (p + 1))) l.toInt.toNat kk := by unfold pcN; rw [hk2]
            refine gw_ld rfl rfl ?_
            refine z_b1 (fun c35 => ?_) (fun c35 => ?_)
            · have c35 : x27.toInt < 0 := c35
              refine gw_skip _ ?_
              exfalso; omega
            · have c35 : ¬ (x27.toInt < 0) := c35
              refine gw_ld rfl rfl ?_
              refine z_C (m := 288) rfl rfl (fun x36 ex36 => ?_)
              refine z_b2 (fun c37 => ?_) (fun c37 => ?_)
              · have c37 : x36.toInt ≤ x27.toInt := c37
                refine gw_skip _ ?_
                exfalso; omega
              · have c37 : ¬ (x36.toInt ≤ x27.toInt) := c37
                refine gw_ld rfl rfl ?_
                refine z_gR (q := (p + 4)) ((zCode S19 hp).1) ((zCode S19 hp).2.1.2.2.2.1) (by omega) ?_
                refine gw_ld rfl rfl ?_
                refine z_iaV (n := 288) ((zCode S19 hp).2.2.1.2.2.2.1) ((zCode S19 hp).2.2.2.2.2.2.1) (by omega) (zW_f F20 (fun c => c) (by omega)) ?_
                generalize ex38 : ez_I h (p + 4) x27.toInt.toNat = x38
                have rx38 := z_rng x38
                refine z_ri ?_
                have hkt := hit kk hk1 (by omega)
                rw [hpe, show plN (nL (ez_I h (p + 1))) 288 l.toInt.toNat + ctN (nL (ez_I h (p + 1))) l.toInt.toNat kk = x27.toInt.toNat by omega, ex38] at hkt
                exact K _ x38 F20 ((ez_I h 69 6).toInt.toNat + l.toInt.toNat) (by rw [show x38.toInt.toNat = kk by omega]; exact sd_found A_sd (by omega) (by omega) (by omega) hk1 hk2 hk3) (by omega) (by omega)
set_option maxRecDepth 4000 in
set_option maxHeartbeats 2000000 in
theorem c_sym {E : Nat → Nat × (Nat → Int32)} {d : Nat} {Q : ez_Q} {h : ez_H} {p : Nat} (S : zSh h) (hp : p = 15 ∨ p = 22 ∨ p = 29 ∨ p = 36 ∨ p = 43) (hM : zMem h) (hz : 0 ≤ (ez_I h 2 1).toInt ∧ (ez_I h 2 1).toInt ≤ 6000) (hb : aR (ez_I h 3) (ez_I h 2 1).toInt.toNat 0 255) (hpo : 0 ≤ (ez_I h 69 6).toInt ∧ (ez_I h 69 6).toInt ≤ 8 * (ez_I h 2 1).toInt) (hL : aR (ez_I h (p + 1)) 288 0 15) (hct : ctC (ez_I h (p + 3)) (nL (ez_I h (p + 1))) 288) (hcd : (ez_I h p 4).toInt = (plN (nL (ez_I h (p + 1))) 288 16 : Nat)) (hit : itI (ez_I h (p + 4)) (nL (ez_I h (p + 1))) 288 288) (Ke : sdR (tI (ez_I h 3)) (ez_I h 2 1).toInt.toNat (ez_I h 69 6).toInt.toNat (nL (ez_I h (p + 1))) 288 = none → ∀ h2, zW (fun q k => q = 69 ∧ k = 2 ∨ q = 69 ∧ k = 3 ∨ q = 69 ∧ k = 6) (fun _ => False) (fun _ => False) h h2 → Q (.inr 2) (ez_bump h2)) (K : ∀ h2 (x : Int32), zW (fun q k => q = 69 ∧ k = 2 ∨ q = 69 ∧ k = 3 ∨ q = 69 ∧ k = 6) (fun _ => False) (fun _ => False) h h2 → ∀ q : Nat, sdR (tI (ez_I h 3)) (ez_I h 2 1).toInt.toNat (ez_I h 69 6).toInt.toNat (nL (ez_I h (p + 1))) 288 = some (x.toInt.toNat, q) → 0 ≤ x.toInt → (ez_I h2 69 6).toInt = q → Q (.inl (some (.int x))) h2) : pw E (d + 2) 141 0 [some (.ref 69), some (.ref 2), some (.ref p), none, none, none, none, none, none] [] h Q := by
  have F := zW_refl (fun q k => q = 69 ∧ k = 2 ∨ q = 69 ∧ k = 3 ∨ q = 69 ∧ k = 6) (fun _ => False) (fun _ => False) h
  apply ez_Wp_in
  show ez_gw _ _ _ _ _ _ (cz_141) _ _ _ _ _
  refine gw_skip _ ?_
  have r1 := z_rng (ez_I h 69 2)
  have r2 := z_rng (ez_I h 69 3)
  have r3 := z_rng (ez_I h 69 6)
  refine z_C (m := 0) rfl rfl (fun x4 ex4 => ?_)
  refine gw_st rfl rfl rfl ?_
  show ez_gw _ _ _ _ _ _ _ _ [some (.ref 69), some (.ref 2), some (.ref p), some (.int x4), none, none, none, none, none] _ _ _
  refine z_C (m := 0) rfl rfl (fun x5 ex5 => ?_)
  refine gw_st rfl rfl rfl ?_
  show ez_gw _ _ _ _ _ _ _ _ [some (.ref 69), some (.ref 2), some (.ref p), some (.int x4), some (.int x5), none, none, none, none] _ _ _
  refine z_C (m := 0) rfl rfl (fun x6 ex6 => ?_)
  refine gw_st rfl rfl rfl ?_
  show ez_gw _ _ _ _ _ _ _ _ [some (.ref 69), some (.ref 2), some (.ref p), some (.int x4), some (.int x5), some (.int x6), none, none, none] _ _ _
  refine z_C (m := 1) rfl rfl (fun x7 ex7 => ?_)
  refine gw_st rfl rfl rfl ?_
  show ez_gw _ _ _ _ _ _ _ _ [some (.ref 69), some (.ref 2), some (.ref p), some (.int x4), some (.int x5), some (.int x6), some (.int x7), none, none] _ _ _
  exact ez_Wp_at ((c_sym_L0 (p := p) S hp hM hz hb hpo hL hct hcd hit Ke K (((100 - x7.toInt)).toNat + 1)) h x4 x5 x6 x7 (none) (none) F (⟨by omega, by omega, by rw [show x7.toInt.toNat - 1 = 0 by omega]; show _ = ((0 : Nat) : Int); omega, by rw [show x7.toInt.toNat = 1 by omega]; show _ = ((0 : Nat) : Int); omega, by rw [show x7.toInt.toNat = 1 by omega]; show _ = ((0 : Nat) : Int); omega, by omega, by omega, by rw [show x7.toInt.toNat = 1 by omega]; exact Nat.zero_le _⟩) ((by rw [show x7.toInt.toNat = 1 by omega])) (by omega)) rfl
