/-! a block of the model -/
theorem pQ_rng {M B Y T : Nat → Int32} {n a b : Nat} {p : Int} (A : pQ M B Y T n p) (h1 : a ≤ b) (h2 : b ≤ n) : 0 ≤ pS M a ∧ pS M a ≤ pS M b ∧ pS M b ≤ p := by
  have nn : ∀ k, k < n → 0 ≤ (M k).toInt := fun k hk => by have := (A.2 k hk).1; omega
  refine ⟨sm_nonneg (fun k hk => nn k (by omega)), sm_mono h1 (fun k hk => nn k (by omega)), ?_⟩
  rw [← A.1]
  exact sm_mono h2 nn
theorem pw15 {al li : Int32} (h1 : al.toInt ≤ 32768) (h2 : li.toInt = 15) : al.toInt ≤ 2 ^ li.toInt.toNat := by
  have e : (2 : Int) ^ 15 = 32768 := rfl
  rw [h2, show (15 : Int).toNat = 15 from rfl, e]; exact h1
theorem pw7 {al li : Int32} (h1 : al.toInt ≤ 128) (h2 : li.toInt = 7) : al.toInt ≤ 2 ^ li.toInt.toNat := by
  have e : (2 : Int) ^ 7 = 128 := rfl
  rw [h2, show (7 : Int).toNat = 7 from rfl, e]; exact h1
theorem sm_fn {f g : Nat → Int} {n : Nat} (h : f = g) : sm f n = sm g n := by rw [h]
def ckI (w k a b : Int) : Prop := w = k → a ≤ b
theorem ckI_use {w k a b : Int} (h : ckI w k a b) (e : w = k) : a ≤ b := h e
theorem ckI_of {w k a b : Int} (h : w = k → a ≤ b) : ckI w k a b := h
theorem rS_t {Lr R : Nat → Int32} {k : Nat} {t l : Int32} (eT : R k = t) (eL : Lr t.toInt.toNat = l) : rS Lr R (k + 1) = rS Lr R k + (l.toInt + rsI t.toInt.toNat) := by
  show rS Lr R k + rcI Lr (R k).toInt.toNat = _
  unfold rcI
  rw [eT, eL]
/-! PRINTED by wip/p17/con15.py: contracts of the model, a block -/
set_option maxRecDepth 4000 in
set_option maxHeartbeats 20000000 in
theorem m_wblock_L15 {E : Nat → Nat × (Nat → Int32)} {d : Nat} {Q : ez_Q} {h : ez_H} {fr : Int32} {to : Int32} {pl : Int32} {mn : Int32} {la : Int32} (S : zSh h) {n : Nat} (M6 : 0 ≤ (ez_I h 71 6).toInt ∧ (ez_I h 71 6).toInt ≤ 6000) (MC : cC h) (hq : pQ (ez_I h 77) (ez_I h 78) (ez_I h 79) (ez_I h 72) n (ez_I h 71 6).toInt) (hr : 0 ≤ fr.toInt ∧ fr.toInt ≤ to.toInt ∧ to.toInt ≤ n ∧ n ≤ 6000 ∧ to.toInt - fr.toInt ≤ 600) (hp : pl.toInt = pS (ez_I h 77) fr.toInt.toNat) (hmn : mn.toInt = pS (ez_I h 77) to.toInt.toNat - pS (ez_I h 77) fr.toInt.toNat) (hbk : 0 ≤ (ez_I h 71 15).toInt ∧ (ez_I h 71 15).toInt < 12) (hb : 0 ≤ (ez_I h 71 16).toInt ∧ (ez_I h 71 16).toInt + 42 + 8 * mn.toInt ≤ 64000) (K : ∀ h2, zG (fun k => k = 15 ∨ k = 16 ∨ k = 56 ∨ k = 57 ∨ k = 58) (fun q => q = 75 ∨ 83 ≤ q ∧ q ≤ 91 ∨ 97 ≤ q ∧ q ≤ 119) h h2 → (0 ≤ (ez_I h2 71 16).toInt ∧ (ez_I h2 71 16).toInt ≤ (ez_I h 71 16).toInt + 42 + 8 * mn.toInt ∧ (ez_I h2 71 15).toInt = (ez_I h 71 15).toInt + 1) → Q (.inl none) h2) : ∀ N : Nat, (∀ (h2 : ez_H) (no : Int32) (dy : Int64) (t0 : Int32) (fx : Int64) (sd : Int64) (wy : Int32) (b : Int32) (k : Int32) (rm : Nat) (bv : Int), zG (fun k => k = 15 ∨ k = 16 ∨ k = 56 ∨ k = 57 ∨ k = 58) (fun q => q = 75 ∨ 83 ≤ q ∧ q ≤ 91 ∨ 97 ≤ q ∧ q ≤ 119) h h2 → (0 ≤ k.toInt ∧ k.toInt ≤ rm ∧ wy.toInt = 2 ∧ (ez_I h2 71 16).toInt = bv ∧ (ez_I h2 71 56).toInt = rm ∧ rm ≤ 316 ∧ (ez_I h2 71 15).toInt = (ez_I h 71 15).toInt + 1 ∧ 4 ≤ t0.toInt ∧ t0.toInt ≤ 19) → ckI wy.toInt 2 (17 + 3 * t0.toInt + rS (ez_I h2 102) (ez_I h2 117) rm + (wS (ez_I h 77) (ez_I h 78) (ez_I h 79) (ez_I h 92) (ez_I h 94) (ez_I h2 100) (ez_I h 93) (ez_I h2 101) (ez_I h 95) to.toInt.toNat - wS (ez_I h 77) (ez_I h 78) (ez_I h 79) (ez_I h 92) (ez_I h 94) (ez_I h2 100) (ez_I h 93) (ez_I h2 101) (ez_I h 95) fr.toInt.toNat) + (ez_I h2 100 256).toInt) (42 + 8 * mn.toInt) → aR (ez_I h2 100) 286 0 15 → aR (ez_I h2 101) 30 0 15 → aR (ez_I h2 102) 19 0 15 → aR (ez_I h2 117) rm 0 18 → bv = (ez_I h 71 16).toInt + 17 + 3 * t0.toInt + rS (ez_I h2 102) (ez_I h2 117) k.toInt.toNat → (1000 - k.toInt) < (N : Int) → pw E (d + 2) 44 1002 [some (.ref 71), some (.int fr), some (.int to), some (.int pl), some (.int mn), some (.int la), some (.int no), some (.long dy), none, some (.int t0), some (.long fx), none, some (.long sd), none, some (.int wy), some (.int b), some (.int k)] [] h2 Q) := by
  intro N
  induction N with
  | zero => exact fun h2 no dy t0 fx sd wy b k rm bv F hinv A_ck2 A_L A_B A_r A_rt A_bt hm => absurd hm (by have w_no := z_rng no; have w_t0 := z_rng t0; have w_wy := z_rng wy; have w_b := z_rng b; have w_k := z_rng k; have gfr := z_rng fr; have gto := z_rng to; have gpl := z_rng pl; have gmn := z_rng mn; have gla := z_rng la; have MC1 := MC.1; have hps := pQ_rng hq (a := fr.toInt.toNat) (b := to.toInt.toNat) (by omega) (by omega); omega)
  | succ N ih =>
    refine fun h2 no dy t0 fx sd wy b k rm bv F hinv A_ck2 A_L A_B A_r A_rt A_bt hm => ?_
    · skip
      have w_no := z_rng no
      have w_t0 := z_rng t0
      have w_wy := z_rng wy
      have w_b := z_rng b
      have w_k := z_rng k
      have gfr := z_rng fr
      have gto := z_rng to
      have gpl := z_rng pl
      have gmn := z_rng mn
      have gla := z_rng la
      have MC1 := MC.1
      have hps := pQ_rng hq (a := fr.toInt.toNat) (b := to.toInt.toNat) (by omega) (by omega)
      have S2 := zG_sh F S
      have hbt := A_bt
      have hrS := rS_mono (j := 0) (k := k.toInt.toNat) A_rt A_r (by omega) (Nat.zero_le _)
      have hrS0 : rS (ez_I h2 102) (ez_I h2 117) 0 = 0 := rfl
      have hrS1 := rS_mono (j := k.toInt.toNat) (k := rm) A_rt A_r (Nat.le_refl _) (by omega)
      have hrS2 : k.toInt < rm → rS (ez_I h2 102) (ez_I h2 117) (k.toInt.toNat + 1) ≤ rS (ez_I h2 102) (ez_I h2 117) rm := fun q => rS_mono A_rt A_r (Nat.le_refl _) (by omega)
      have hck := ckI_use A_ck2 (by omega)
      have hwm := wS_mono (fb := ez_I h 92) (fd := ez_I h 94) (L := ez_I h2 100) (X := ez_I h 93) (W := ez_I h2 101) (Z := ez_I h 95) (j := fr.toInt.toNat) (k := to.toInt.toNat) hq A_L MC.2.2.1 A_B MC.2.2.2.2.1 (by omega) (by omega)
      have hl6 := A_L 256 (by decide)
      apply ez_Wp_in
      show ez_gw _ _ _ _ _ _ (cz_44) _ _ _ _ _
      refine gw_skip _ ?_
      have r1 := z_rng (ez_I h2 71 15)
      have r2 := z_rng (ez_I h2 71 16)
      have r3 := z_rng (ez_I h2 71 56)
      have r4 := z_rng (ez_I h2 71 57)
      have r5 := z_rng (ez_I h2 71 58)
      refine gw_ld rfl rfl ?_
      refine gw_ld rfl rfl ?_
      refine z_gI2 (by decide) (zT S2 (by decide) rfl) (rfl) ?_
      refine z_b2 (fun c6 => ?_) (fun c6 => ?_)
      · have c6 : ((ez_I h2 71 56)).toInt ≤ k.toInt := c6
        refine gw_skip _ ?_
        refine gw_ld rfl rfl ?_
        refine gw_ld rfl rfl ?_
        refine z_gR (q := 100) (zT S2 (by decide) rfl) (zRf S2 (by decide) (by decide) rfl) (by decide) ?_
        refine z_C (m := 286) rfl rfl (fun x7 ex7 => ?_)
        refine gw_ld rfl rfl ?_
        refine z_gR (q := 103) (zT S2 (by decide) rfl) (zRf S2 (by decide) (by decide) rfl) (by decide) ?_
        refine z_cl rfl rfl rfl rfl rfl rfl rfl rfl rfl rfl rfl (zT S2 (by decide) rfl) ?_
        refine m_codes S2 (n := x7) (show zA 100 288 from fun _ S => ⟨zT S (by decide) rfl, zN S (by decide) rfl⟩) (show zA 103 288 from fun _ S => ⟨zT S (by decide) rfl, zN S (by decide) rfl⟩) (by decide) (by omega) (aR_le A_L (by omega)) (fun h8  F9  => ?_)
        have S10 := zG_sh F9 S2
        have F11 := zG_tr F (zG_mono F9 (fun k hk => by first | omega | exact False.elim hk) (fun k hk => by first | omega | exact False.elim hk))
        have f12 : ez_I h8 71 15 = (ez_I h2 71 15) := (zG_f F9 (by decide)).trans (rfl)
        have f13 : ez_I h8 71 16 = (ez_I h2 71 16) := (zG_f F9 (by decide)).trans (rfl)
        have f14 : ez_I h8 71 56 = (ez_I h2 71 56) := (zG_f F9 (by decide)).trans (rfl)
        have f15 : ez_I h8 71 57 = (ez_I h2 71 57) := (zG_f F9 (by decide)).trans (rfl)
        have f16 : ez_I h8 71 58 = (ez_I h2 71 58) := (zG_f F9 (by decide)).trans (rfl)
        have A17 : ckI wy.toInt 2 (17 + 3 * t0.toInt + rS (ez_I h8 102) (ez_I h8 117) rm + (wS (ez_I h 77) (ez_I h 78) (ez_I h 79) (ez_I h 92) (ez_I h 94) (ez_I h8 100) (ez_I h 93) (ez_I h8 101) (ez_I h 95) to.toInt.toNat - wS (ez_I h 77) (ez_I h 78) (ez_I h 79) (ez_I h 92) (ez_I h 94) (ez_I h8 100) (ez_I h 93) (ez_I h8 101) (ez_I h 95) fr.toInt.toNat) + (ez_I h8 100 256).toInt) (42 + 8 * mn.toInt) := by rw [zG_fn F9 100 (by decide) (by first | omega | exact fun c => c), zG_fn F9 101 (by decide) (by first | omega | exact fun c => c), zG_fn F9 102 (by decide) (by first | omega | exact fun c => c), zG_fn F9 117 (by decide) (by first | omega | exact fun c => c)]; exact A_ck2
        have A18 : aR (ez_I h8 100) 286 0 15 := by rw [zG_fn F9 100 (by decide) (by first | omega | exact fun c => c)]; exact A_L
        have A19 : aR (ez_I h8 101) 30 0 15 := by rw [zG_fn F9 101 (by decide) (by first | omega | exact fun c => c)]; exact A_B
        have A20 : aR (ez_I h8 102) 19 0 15 := by rw [zG_fn F9 102 (by decide) (by first | omega | exact fun c => c)]; exact A_r
        have A21 : aR (ez_I h8 117) rm 0 18 := by rw [zG_fn F9 117 (by decide) (by first | omega | exact fun c => c)]; exact A_rt
        have A22 : bv = (ez_I h 71 16).toInt + 17 + 3 * t0.toInt + rS (ez_I h8 102) (ez_I h8 117) k.toInt.toNat := by rw [zG_fn F9 102 (by decide) (by first | omega | exact fun c => c), zG_fn F9 117 (by decide) (by first | omega | exact fun c => c)]; exact A_bt
        refine gw_ld rfl rfl ?_
        refine gw_ld rfl rfl ?_
        refine z_gR (q := 101) (zT S10 (by decide) rfl) (zRf S10 (by decide) (by decide) rfl) (by decide) ?_
        refine z_C (m := 30) rfl rfl (fun x23 ex23 => ?_)
        refine gw_ld rfl rfl ?_
        refine z_gR (q := 104) (zT S10 (by decide) rfl) (zRf S10 (by decide) (by decide) rfl) (by decide) ?_
        have t24 := congrArg Int32.toInt (f12)
        have t25 := congrArg Int32.toInt (f13)
        have t26 := congrArg Int32.toInt (f14)
        have t27 := congrArg Int32.toInt (f15)
        have t28 := congrArg Int32.toInt (f16)
        refine z_cl rfl rfl rfl rfl rfl rfl rfl rfl rfl rfl rfl (zT S10 (by decide) rfl) ?_
        refine m_codes S10 (n := x23) (show zA 101 30 from fun _ S => ⟨zT S (by decide) rfl, zN S (by decide) rfl⟩) (show zA 104 30 from fun _ S => ⟨zT S (by decide) rfl, zN S (by decide) rfl⟩) (by decide) (by omega) (aR_le A19 (by omega)) (fun h29  F30  => ?_)
        have S31 := zG_sh F30 S10
        have F32 := zG_tr F11 (zG_mono F30 (fun k hk => by first | omega | exact False.elim hk) (fun k hk => by first | omega | exact False.elim hk))
        have f33 : ez_I h29 71 15 = (ez_I h2 71 15) := (zG_f F30 (by decide)).trans (f12)
        have f34 : ez_I h29 71 16 = (ez_I h2 71 16) := (zG_f F30 (by decide)).trans (f13)
        have f35 : ez_I h29 71 56 = (ez_I h2 71 56) := (zG_f F30 (by decide)).trans (f14)
        have f36 : ez_I h29 71 57 = (ez_I h2 71 57) := (zG_f F30 (by decide)).trans (f15)
        have f37 : ez_I h29 71 58 = (ez_I h2 71 58) := (zG_f F30 (by decide)).trans (f16)
        have A38 : ckI wy.toInt 2 (17 + 3 * t0.toInt + rS (ez_I h29 102) (ez_I h29 117) rm + (wS (ez_I h 77) (ez_I h 78) (ez_I h 79) (ez_I h 92) (ez_I h 94) (ez_I h29 100) (ez_I h 93) (ez_I h29 101) (ez_I h 95) to.toInt.toNat - wS (ez_I h 77) (ez_I h 78) (ez_I h 79) (ez_I h 92) (ez_I h 94) (ez_I h29 100) (ez_I h 93) (ez_I h29 101) (ez_I h 95) fr.toInt.toNat) + (ez_I h29 100 256).toInt) (42 + 8 * mn.toInt) := by rw [zG_fn F30 100 (by decide) (by first | omega | exact fun c => c), zG_fn F30 101 (by decide) (by first | omega | exact fun c => c), zG_fn F30 102 (by decide) (by first | omega | exact fun c => c), zG_fn F30 117 (by decide) (by first | omega | exact fun c => c)]; exact A17
        have A39 : aR (ez_I h29 100) 286 0 15 := by rw [zG_fn F30 100 (by decide) (by first | omega | exact fun c => c)]; exact A18
        have A40 : aR (ez_I h29 101) 30 0 15 := by rw [zG_fn F30 101 (by decide) (by first | omega | exact fun c => c)]; exact A19
        have A41 : aR (ez_I h29 102) 19 0 15 := by rw [zG_fn F30 102 (by decide) (by first | omega | exact fun c => c)]; exact A20
        have A42 : aR (ez_I h29 117) rm 0 18 := by rw [zG_fn F30 117 (by decide) (by first | omega | exact fun c => c)]; exact A21
        have A43 : bv = (ez_I h 71 16).toInt + 17 + 3 * t0.toInt + rS (ez_I h29 102) (ez_I h29 117) k.toInt.toNat := by rw [zG_fn F30 102 (by decide) (by first | omega | exact fun c => c), zG_fn F30 117 (by decide) (by first | omega | exact fun c => c)]; exact A22
        refine gw_ld rfl rfl ?_
        refine gw_ld rfl rfl ?_
        refine gw_ld rfl rfl ?_
        refine gw_ld rfl rfl ?_
        refine gw_ld rfl rfl ?_
        refine z_gR (q := 100) (zT S31 (by decide) rfl) (zRf S31 (by decide) (by decide) rfl) (by decide) ?_
        refine gw_ld rfl rfl ?_
        refine z_gR (q := 103) (zT S31 (by decide) rfl) (zRf S31 (by decide) (by decide) rfl) (by decide) ?_
        refine gw_ld rfl rfl ?_
        refine z_gR (q := 101) (zT S31 (by decide) rfl) (zRf S31 (by decide) (by decide) rfl) (by decide) ?_
        refine gw_ld rfl rfl ?_
        refine z_gR (q := 104) (zT S31 (by decide) rfl) (zRf S31 (by decide) (by decide) rfl) (by decide) ?_
        have t44 := congrArg Int32.toInt (f33)
        have t45 := congrArg Int32.toInt (f34)
        have t46 := congrArg Int32.toInt (f35)
        have t47 := congrArg Int32.toInt (f36)
        have t48 := congrArg Int32.toInt (f37)
        refine z_cl rfl rfl rfl rfl rfl rfl rfl rfl rfl rfl rfl (zT S31 (by decide) rfl) ?_
        have k51_c := ckI_use A38 (by omega)
        have k51_b := A43
        rw [show k.toInt.toNat = rm by omega] at k51_b
        refine m_wp (n := n) (fr := fr) (to := to) (pl := pl) S31 (show zA 100 288 from fun _ S => ⟨zT S (by decide) rfl, zN S (by decide) rfl⟩) (show zA 103 288 from fun _ S => ⟨zT S (by decide) rfl, zN S (by decide) rfl⟩) (show zA 101 30 from fun _ S => ⟨zT S (by decide) rfl, zN S (by decide) rfl⟩) (show zA 104 30 from fun _ S => ⟨zT S (by decide) rfl, zN S (by decide) rfl⟩) (by decide) (aR_le A39 (by omega)) A40 (by rw [zG_f F32 (k := 6) (by decide)]; exact M6) (cC_G MC F32 (fun q hq => by omega)) (by rw [zG_fn F32 77 (by decide) (by decide), zG_fn F32 78 (by decide) (by decide), zG_fn F32 79 (by decide) (by decide), zG_fn F32 72 (by decide) (by decide), zG_f F32 (k := 6) (by decide)]; exact hq) (by omega) (by rw [zG_fn F32 77 (by decide) (by decide)]; exact hp) (by rw [zG_fn F32 77 (by decide) (by decide), zG_fn F32 78 (by decide) (by decide), zG_fn F32 79 (by decide) (by decide), zG_fn F32 92 (by decide) (by decide), zG_fn F32 94 (by decide) (by decide), zG_fn F32 93 (by decide) (by decide), zG_fn F32 95 (by decide) (by decide)]; omega) (fun h49 F50 k51 k52 => ?_)
        rw [zG_fn F32 77 (by decide) (by decide), zG_fn F32 78 (by decide) (by decide), zG_fn F32 79 (by decide) (by decide), zG_fn F32 92 (by decide) (by decide), zG_fn F32 94 (by decide) (by decide), zG_fn F32 93 (by decide) (by decide), zG_fn F32 95 (by decide) (by decide)] at k51
        have S53 := zG_sh F50 S31
        have F54 := zG_tr F32 (zG_mono F50 (fun k hk => by first | omega | exact False.elim hk) (fun k hk => by first | omega | exact False.elim hk))
        have f55 : ez_I h49 71 15 = (ez_I h2 71 15) := (zG_f F50 (by decide)).trans (f33)
        have r56 := z_rng (ez_I h49 71 16)
        have f57 : ez_I h49 71 56 = (ez_I h2 71 56) := (zG_f F50 (by decide)).trans (f35)
        have f58 : ez_I h49 71 57 = (ez_I h2 71 57) := (zG_f F50 (by decide)).trans (f36)
        have f59 : ez_I h49 71 58 = (ez_I h2 71 58) := (zG_f F50 (by decide)).trans (f37)
        have A60 : ckI wy.toInt 2 (17 + 3 * t0.toInt + rS (ez_I h49 102) (ez_I h49 117) rm + (wS (ez_I h 77) (ez_I h 78) (ez_I h 79) (ez_I h 92) (ez_I h 94) (ez_I h49 100) (ez_I h 93) (ez_I h49 101) (ez_I h 95) to.toInt.toNat - wS (ez_I h 77) (ez_I h 78) (ez_I h 79) (ez_I h 92) (ez_I h 94) (ez_I h49 100) (ez_I h 93) (ez_I h49 101) (ez_I h 95) fr.toInt.toNat) + (ez_I h49 100 256).toInt) (42 + 8 * mn.toInt) := by rw [zG_fn F50 100 (by decide) (by first | omega | exact fun c => c), zG_fn F50 101 (by decide) (by first | omega | exact fun c => c), zG_fn F50 102 (by decide) (by first | omega | exact fun c => c), zG_fn F50 117 (by decide) (by first | omega | exact fun c => c)]; exact A38
        have A61 : aR (ez_I h49 100) 286 0 15 := by rw [zG_fn F50 100 (by decide) (by first | omega | exact fun c => c)]; exact A39
        have A62 : aR (ez_I h49 101) 30 0 15 := by rw [zG_fn F50 101 (by decide) (by first | omega | exact fun c => c)]; exact A40
        have A63 : aR (ez_I h49 102) 19 0 15 := by rw [zG_fn F50 102 (by decide) (by first | omega | exact fun c => c)]; exact A41
        have A64 : aR (ez_I h49 117) rm 0 18 := by rw [zG_fn F50 117 (by decide) (by first | omega | exact fun c => c)]; exact A42
        have A65 : bv = (ez_I h 71 16).toInt + 17 + 3 * t0.toInt + rS (ez_I h49 102) (ez_I h49 117) k.toInt.toNat := by rw [zG_fn F50 102 (by decide) (by first | omega | exact fun c => c), zG_fn F50 117 (by decide) (by first | omega | exact fun c => c)]; exact A43
        refine z_rv ?_
        have t66 := congrArg Int32.toInt (f55)
        have t67 := congrArg Int32.toInt (f57)
        have t68 := congrArg Int32.toInt (f58)
        have t69 := congrArg Int32.toInt (f59)
        exact K _ F54 (by omega)
      · have c6 : ¬ (((ez_I h2 71 56)).toInt ≤ k.toInt) := c6
        refine gw_ld rfl rfl ?_
        refine gw_ld rfl rfl ?_
        refine z_gR (q := 105) (zT S2 (by decide) rfl) (zRf S2 (by decide) (by decide) rfl) (by decide) ?_
        refine gw_ld rfl rfl ?_
        refine z_gR (q := 117) (zT S2 (by decide) rfl) (zRf S2 (by decide) (by decide) rfl) (by decide) ?_
        refine gw_ld rfl rfl ?_
        refine z_ia (n := 330) (zT S2 (by decide) rfl) (zN S2 (by decide) rfl) (by omega) ?_
        generalize ex70 : ez_I h2 117 k.toInt.toNat = x70
        have rx70 := z_rng x70
        have yx70 := A_rt k.toInt.toNat (by omega)
        rw [ex70] at yx70
        refine z_ia (n := 19) (zT S2 (by decide) rfl) (zN S2 (by decide) rfl) (by omega) ?_
        generalize ex71 : ez_I h2 105 x70.toInt.toNat = x71
        have rx71 := z_rng x71
        refine gw_ld rfl rfl ?_
        refine z_gR (q := 102) (zT S2 (by decide) rfl) (zRf S2 (by decide) (by decide) rfl) (by decide) ?_
        refine gw_ld rfl rfl ?_
        refine z_gR (q := 117) (zT S2 (by decide) rfl) (zRf S2 (by decide) (by decide) rfl) (by decide) ?_
        refine gw_ld rfl rfl ?_
        refine z_iaV (n := 330) (zT S2 (by decide) rfl) (zN S2 (by decide) rfl) (by omega) ex70 ?_
        refine z_ia (n := 19) (zT S2 (by decide) rfl) (zN S2 (by decide) rfl) (by omega) ?_
        generalize ex73 : ez_I h2 102 x70.toInt.toNat = x73
        have rx73 := z_rng x73
        have yx73 := A_r x70.toInt.toNat (by omega)
        rw [ex73] at yx73
        have hrs := rS_t (Lr := ez_I h2 102) (R := ez_I h2 117) (k := k.toInt.toNat) ex70 ex73
        have hrn := rsI_nn x70.toInt.toNat
        replace hrS2 := hrS2 (by omega)
        refine z_cl rfl rfl rfl rfl rfl rfl rfl rfl rfl rfl rfl (zT S2 (by decide) rfl) ?_
        refine m_wb S2 (v := x71) (n := x73) (by omega) (fun h74  F75 k76 => ?_)
        have S77 := zG_sh F75 S2
        have F78 := zG_tr F (zG_mono F75 (fun k hk => by first | omega | exact False.elim hk) (fun k hk => by first | omega | exact False.elim hk))
        have f79 : ez_I h74 71 15 = (ez_I h2 71 15) := (zG_f F75 (by decide)).trans (rfl)
        have r80 := z_rng (ez_I h74 71 16)
        have f81 : ez_I h74 71 56 = (ez_I h2 71 56) := (zG_f F75 (by decide)).trans (rfl)
        have f82 : ez_I h74 71 57 = (ez_I h2 71 57) := (zG_f F75 (by decide)).trans (rfl)
        have f83 : ez_I h74 71 58 = (ez_I h2 71 58) := (zG_f F75 (by decide)).trans (rfl)
        have A84 : ckI wy.toInt 2 (17 + 3 * t0.toInt + rS (ez_I h74 102) (ez_I h74 117) rm + (wS (ez_I h 77) (ez_I h 78) (ez_I h 79) (ez_I h 92) (ez_I h 94) (ez_I h74 100) (ez_I h 93) (ez_I h74 101) (ez_I h 95) to.toInt.toNat - wS (ez_I h 77) (ez_I h 78) (ez_I h 79) (ez_I h 92) (ez_I h 94) (ez_I h74 100) (ez_I h 93) (ez_I h74 101) (ez_I h 95) fr.toInt.toNat) + (ez_I h74 100 256).toInt) (42 + 8 * mn.toInt) := by rw [zG_fn F75 100 (by decide) (by first | omega | exact fun c => c), zG_fn F75 101 (by decide) (by first | omega | exact fun c => c), zG_fn F75 102 (by decide) (by first | omega | exact fun c => c), zG_fn F75 117 (by decide) (by first | omega | exact fun c => c)]; exact A_ck2
        have A85 : aR (ez_I h74 100) 286 0 15 := by rw [zG_fn F75 100 (by decide) (by first | omega | exact fun c => c)]; exact A_L
        have A86 : aR (ez_I h74 101) 30 0 15 := by rw [zG_fn F75 101 (by decide) (by first | omega | exact fun c => c)]; exact A_B
        have A87 : aR (ez_I h74 102) 19 0 15 := by rw [zG_fn F75 102 (by decide) (by first | omega | exact fun c => c)]; exact A_r
        have A88 : aR (ez_I h74 117) rm 0 18 := by rw [zG_fn F75 117 (by decide) (by first | omega | exact fun c => c)]; exact A_rt
        have A89 : bv = (ez_I h 71 16).toInt + 17 + 3 * t0.toInt + rS (ez_I h74 102) (ez_I h74 117) k.toInt.toNat := by rw [zG_fn F75 102 (by decide) (by first | omega | exact fun c => c), zG_fn F75 117 (by decide) (by first | omega | exact fun c => c)]; exact A_bt
        have A90 : ez_I h74 102 = ez_I h2 102 ∧ True := by rw [zG_fn F75 102 (by decide) (by first | omega | exact fun c => c)]; exact ⟨rfl, trivial⟩
        have A91 : ez_I h74 117 = ez_I h2 117 ∧ True := by rw [zG_fn F75 117 (by decide) (by first | omega | exact fun c => c)]; exact ⟨rfl, trivial⟩
        refine gw_ld rfl rfl ?_
        refine gw_ld rfl rfl ?_
        refine z_gR (q := 118) (zT S77 (by decide) rfl) (zRf S77 (by decide) (by decide) rfl) (by decide) ?_
        refine gw_ld rfl rfl ?_
        refine z_ia (n := 330) (zT S77 (by decide) rfl) (zN S77 (by decide) rfl) (by omega) ?_
        generalize ex92 : ez_I h74 118 k.toInt.toNat = x92
        have rx92 := z_rng x92
        refine gw_ld rfl rfl ?_
        refine z_gR (q := 117) (zT S77 (by decide) rfl) (zRf S77 (by decide) (by decide) rfl) (by decide) ?_
        refine gw_ld rfl rfl ?_
        refine z_ia (n := 330) (zT S77 (by decide) rfl) (zN S77 (by decide) rfl) (by omega) ?_
        generalize ex93 : ez_I h74 117 k.toInt.toNat = x93
        have rx93 := z_rng x93
        have yx93 := A88 k.toInt.toNat (by omega)
        rw [ex93] at yx93
        have w1053 : x93 = x70 := ex93.symm.trans ((congrFun (A91).1 _).trans ex70)
        have t94 := congrArg Int32.toInt (f79)
        have t95 := congrArg Int32.toInt (f81)
        have t96 := congrArg Int32.toInt (f82)
        have t97 := congrArg Int32.toInt (f83)
        refine z_cl rfl rfl rfl rfl rfl rfl rfl rfl rfl rfl rfl (trivial) ?_
        refine m_rest (y := x93) S77 (fun x98 k99 k100 => ?_)
        have rx98 := z_rng x98
        have hre := rs_eq k100 (by omega)
        rw [w1053] at hre
        refine z_cl rfl rfl rfl rfl rfl rfl rfl rfl rfl rfl rfl (zT S77 (by decide) rfl) ?_
        refine m_wb S77 (v := x92) (n := x98) (by omega) (fun h101  F102 k103 => ?_)
        have S104 := zG_sh F102 S77
        have F105 := zG_tr F78 (zG_mono F102 (fun k hk => by first | omega | exact False.elim hk) (fun k hk => by first | omega | exact False.elim hk))
        have f106 : ez_I h101 71 15 = (ez_I h2 71 15) := (zG_f F102 (by decide)).trans (f79)
        have r107 := z_rng (ez_I h101 71 16)
        have f108 : ez_I h101 71 56 = (ez_I h2 71 56) := (zG_f F102 (by decide)).trans (f81)
        have f109 : ez_I h101 71 57 = (ez_I h2 71 57) := (zG_f F102 (by decide)).trans (f82)
        have f110 : ez_I h101 71 58 = (ez_I h2 71 58) := (zG_f F102 (by decide)).trans (f83)
        have A111 : ckI wy.toInt 2 (17 + 3 * t0.toInt + rS (ez_I h101 102) (ez_I h101 117) rm + (wS (ez_I h 77) (ez_I h 78) (ez_I h 79) (ez_I h 92) (ez_I h 94) (ez_I h101 100) (ez_I h 93) (ez_I h101 101) (ez_I h 95) to.toInt.toNat - wS (ez_I h 77) (ez_I h 78) (ez_I h 79) (ez_I h 92) (ez_I h 94) (ez_I h101 100) (ez_I h 93) (ez_I h101 101) (ez_I h 95) fr.toInt.toNat) + (ez_I h101 100 256).toInt) (42 + 8 * mn.toInt) := by rw [zG_fn F102 100 (by decide) (by first | omega | exact fun c => c), zG_fn F102 101 (by decide) (by first | omega | exact fun c => c), zG_fn F102 102 (by decide) (by first | omega | exact fun c => c), zG_fn F102 117 (by decide) (by first | omega | exact fun c => c)]; exact A84
        have A112 : aR (ez_I h101 100) 286 0 15 := by rw [zG_fn F102 100 (by decide) (by first | omega | exact fun c => c)]; exact A85
        have A113 : aR (ez_I h101 101) 30 0 15 := by rw [zG_fn F102 101 (by decide) (by first | omega | exact fun c => c)]; exact A86
        have A114 : aR (ez_I h101 102) 19 0 15 := by rw [zG_fn F102 102 (by decide) (by first | omega | exact fun c => c)]; exact A87
        have A115 : aR (ez_I h101 117) rm 0 18 := by rw [zG_fn F102 117 (by decide) (by first | omega | exact fun c => c)]; exact A88
        have A116 : bv = (ez_I h 71 16).toInt + 17 + 3 * t0.toInt + rS (ez_I h101 102) (ez_I h101 117) k.toInt.toNat := by rw [zG_fn F102 102 (by decide) (by first | omega | exact fun c => c), zG_fn F102 117 (by decide) (by first | omega | exact fun c => c)]; exact A89
        have A117 : ez_I h101 102 = ez_I h2 102 ∧ True := by rw [zG_fn F102 102 (by decide) (by first | omega | exact fun c => c)]; exact A90
        have A118 : ez_I h101 117 = ez_I h2 117 ∧ True := by rw [zG_fn F102 117 (by decide) (by first | omega | exact fun c => c)]; exact A91
        refine z_inc rfl (by rw [show (1 : Int32).toInt = 1 from rfl]; omega) (fun x119 ex119 => ?_)
        rw [show (1 : Int32).toInt = 1 from rfl] at ex119
        show ez_gw _ _ _ _ _ _ _ _ [some (.ref 71), some (.int fr), some (.int to), some (.int pl), some (.int mn), some (.int la), some (.int no), some (.long dy), none, some (.int t0), some (.long fx), none, some (.long sd), none, some (.int wy), some (.int b), some (.int x119)] _ _ _
        refine z_go ?_
        have t120 := congrArg Int32.toInt (f106)
        have t121 := congrArg Int32.toInt (f108)
        have t122 := congrArg Int32.toInt (f109)
        have t123 := congrArg Int32.toInt (f110)
        exact ih h101 no dy t0 fx sd wy b x119 rm (ez_I h101 71 16).toInt F105 (by omega) A111 A112 A113 A114 A115 ((by have hs := rS_s (Lr := ez_I h2 102) (R := ez_I h2 117) (k := k.toInt.toNat) ex70 ex73 (by have := rs_eq k100 (by omega); rw [w1053] at this; exact this); rw [show x119.toInt.toNat = k.toInt.toNat + 1 by omega, show ez_I h101 102 = ez_I h2 102 from (A117).1, show ez_I h101 117 = ez_I h2 117 from (A118).1, hs]; have := A_bt; omega)) (by omega)
set_option maxRecDepth 4000 in
set_option maxHeartbeats 20000000 in
theorem m_wblock_L14 {E : Nat → Nat × (Nat → Int32)} {d : Nat} {Q : ez_Q} {h : ez_H} {fr : Int32} {to : Int32} {pl : Int32} {mn : Int32} {la : Int32} (S : zSh h) {n : Nat} (M6 : 0 ≤ (ez_I h 71 6).toInt ∧ (ez_I h 71 6).toInt ≤ 6000) (MC : cC h) (hq : pQ (ez_I h 77) (ez_I h 78) (ez_I h 79) (ez_I h 72) n (ez_I h 71 6).toInt) (hr : 0 ≤ fr.toInt ∧ fr.toInt ≤ to.toInt ∧ to.toInt ≤ n ∧ n ≤ 6000 ∧ to.toInt - fr.toInt ≤ 600) (hp : pl.toInt = pS (ez_I h 77) fr.toInt.toNat) (hmn : mn.toInt = pS (ez_I h 77) to.toInt.toNat - pS (ez_I h 77) fr.toInt.toNat) (hbk : 0 ≤ (ez_I h 71 15).toInt ∧ (ez_I h 71 15).toInt < 12) (hb : 0 ≤ (ez_I h 71 16).toInt ∧ (ez_I h 71 16).toInt + 42 + 8 * mn.toInt ≤ 64000) (K : ∀ h2, zG (fun k => k = 15 ∨ k = 16 ∨ k = 56 ∨ k = 57 ∨ k = 58) (fun q => q = 75 ∨ 83 ≤ q ∧ q ≤ 91 ∨ 97 ≤ q ∧ q ≤ 119) h h2 → (0 ≤ (ez_I h2 71 16).toInt ∧ (ez_I h2 71 16).toInt ≤ (ez_I h 71 16).toInt + 42 + 8 * mn.toInt ∧ (ez_I h2 71 15).toInt = (ez_I h 71 15).toInt + 1) → Q (.inl none) h2) : ∀ N : Nat, (∀ (h2 : ez_H) (no : Int32) (dy : Int64) (t0 : Int32) (fx : Int64) (sd : Int64) (wy : Int32) (b : Int32) (k : Int32) (rm : Nat), zG (fun k => k = 15 ∨ k = 16 ∨ k = 56 ∨ k = 57 ∨ k = 58) (fun q => q = 75 ∨ 83 ≤ q ∧ q ≤ 91 ∨ 97 ≤ q ∧ q ≤ 119) h h2 → (0 ≤ k.toInt ∧ k.toInt ≤ t0.toInt ∧ wy.toInt = 2 ∧ (ez_I h2 71 16).toInt = (ez_I h 71 16).toInt + 17 + 3 * k.toInt ∧ (ez_I h2 71 56).toInt = rm ∧ rm ≤ 316 ∧ (ez_I h2 71 15).toInt = (ez_I h 71 15).toInt + 1 ∧ 4 ≤ t0.toInt ∧ t0.toInt ≤ 19) → ckI wy.toInt 2 (17 + 3 * t0.toInt + rS (ez_I h2 102) (ez_I h2 117) rm + (wS (ez_I h 77) (ez_I h 78) (ez_I h 79) (ez_I h 92) (ez_I h 94) (ez_I h2 100) (ez_I h 93) (ez_I h2 101) (ez_I h 95) to.toInt.toNat - wS (ez_I h 77) (ez_I h 78) (ez_I h 79) (ez_I h 92) (ez_I h 94) (ez_I h2 100) (ez_I h 93) (ez_I h2 101) (ez_I h 95) fr.toInt.toNat) + (ez_I h2 100 256).toInt) (42 + 8 * mn.toInt) → aR (ez_I h2 100) 286 0 15 → aR (ez_I h2 101) 30 0 15 → aR (ez_I h2 102) 19 0 15 → aR (ez_I h2 117) rm 0 18 → (1000 - k.toInt) < (N : Int) → pw E (d + 2) 44 955 [some (.ref 71), some (.int fr), some (.int to), some (.int pl), some (.int mn), some (.int la), some (.int no), some (.long dy), none, some (.int t0), some (.long fx), none, some (.long sd), none, some (.int wy), some (.int b), some (.int k)] [] h2 Q) := by
  intro N
  induction N with
  | zero => exact fun h2 no dy t0 fx sd wy b k rm F hinv A_ck2 A_L A_B A_r A_rt hm => absurd hm (by have w_no := z_rng no; have w_t0 := z_rng t0; have w_wy := z_rng wy; have w_b := z_rng b; have w_k := z_rng k; have gfr := z_rng fr; have gto := z_rng to; have gpl := z_rng pl; have gmn := z_rng mn; have gla := z_rng la; have MC1 := MC.1; have hps := pQ_rng hq (a := fr.toInt.toNat) (b := to.toInt.toNat) (by omega) (by omega); omega)
  | succ N ih =>
    refine fun h2 no dy t0 fx sd wy b k rm F hinv A_ck2 A_L A_B A_r A_rt hm => ?_
    · skip
      have w_no := z_rng no
      have w_t0 := z_rng t0
      have w_wy := z_rng wy
      have w_b := z_rng b
      have w_k := z_rng k
      have gfr := z_rng fr
      have gto := z_rng to
      have gpl := z_rng pl
      have gmn := z_rng mn
      have gla := z_rng la
      have MC1 := MC.1
      have hps := pQ_rng hq (a := fr.toInt.toNat) (b := to.toInt.toNat) (by omega) (by omega)
      have S2 := zG_sh F S
      have hrS := rS_mono (j := 0) (k := rm) A_rt A_r (Nat.le_refl _) (Nat.zero_le _)
      have hrS0 : rS (ez_I h2 102) (ez_I h2 117) 0 = 0 := rfl
      have hck := ckI_use A_ck2 (by omega)
      have hwm := wS_mono (fb := ez_I h 92) (fd := ez_I h 94) (L := ez_I h2 100) (X := ez_I h 93) (W := ez_I h2 101) (Z := ez_I h 95) (j := fr.toInt.toNat) (k := to.toInt.toNat) hq A_L MC.2.2.1 A_B MC.2.2.2.2.1 (by omega) (by omega)
      have hl6 := A_L 256 (by decide)
      apply ez_Wp_in
      show ez_gw _ _ _ _ _ _ (cz_44) _ _ _ _ _
      refine gw_skip _ ?_
      have r1 := z_rng (ez_I h2 71 15)
      have r2 := z_rng (ez_I h2 71 16)
      have r3 := z_rng (ez_I h2 71 56)
      have r4 := z_rng (ez_I h2 71 57)
      have r5 := z_rng (ez_I h2 71 58)
      refine gw_ld rfl rfl ?_
      refine gw_ld rfl rfl ?_
      refine z_b2 (fun c6 => ?_) (fun c6 => ?_)
      · have c6 : t0.toInt ≤ k.toInt := c6
        refine gw_skip _ ?_
        refine gw_ld rfl rfl ?_
        refine gw_ld rfl rfl ?_
        refine z_gR (q := 102) (zT S2 (by decide) rfl) (zRf S2 (by decide) (by decide) rfl) (by decide) ?_
        refine z_C (m := 19) rfl rfl (fun x7 ex7 => ?_)
        refine gw_ld rfl rfl ?_
        refine z_gR (q := 105) (zT S2 (by decide) rfl) (zRf S2 (by decide) (by decide) rfl) (by decide) ?_
        refine z_cl rfl rfl rfl rfl rfl rfl rfl rfl rfl rfl rfl (zT S2 (by decide) rfl) ?_
        refine m_codes S2 (n := x7) (show zA 102 19 from fun _ S => ⟨zT S (by decide) rfl, zN S (by decide) rfl⟩) (show zA 105 19 from fun _ S => ⟨zT S (by decide) rfl, zN S (by decide) rfl⟩) (by decide) (by omega) (aR_le A_r (by omega)) (fun h8  F9  => ?_)
        have S10 := zG_sh F9 S2
        have F11 := zG_tr F (zG_mono F9 (fun k hk => by first | omega | exact False.elim hk) (fun k hk => by first | omega | exact False.elim hk))
        have f12 : ez_I h8 71 15 = (ez_I h2 71 15) := (zG_f F9 (by decide)).trans (rfl)
        have f13 : ez_I h8 71 16 = (ez_I h2 71 16) := (zG_f F9 (by decide)).trans (rfl)
        have f14 : ez_I h8 71 56 = (ez_I h2 71 56) := (zG_f F9 (by decide)).trans (rfl)
        have f15 : ez_I h8 71 57 = (ez_I h2 71 57) := (zG_f F9 (by decide)).trans (rfl)
        have f16 : ez_I h8 71 58 = (ez_I h2 71 58) := (zG_f F9 (by decide)).trans (rfl)
        have A17 : ckI wy.toInt 2 (17 + 3 * t0.toInt + rS (ez_I h8 102) (ez_I h8 117) rm + (wS (ez_I h 77) (ez_I h 78) (ez_I h 79) (ez_I h 92) (ez_I h 94) (ez_I h8 100) (ez_I h 93) (ez_I h8 101) (ez_I h 95) to.toInt.toNat - wS (ez_I h 77) (ez_I h 78) (ez_I h 79) (ez_I h 92) (ez_I h 94) (ez_I h8 100) (ez_I h 93) (ez_I h8 101) (ez_I h 95) fr.toInt.toNat) + (ez_I h8 100 256).toInt) (42 + 8 * mn.toInt) := by rw [zG_fn F9 100 (by decide) (by first | omega | exact fun c => c), zG_fn F9 101 (by decide) (by first | omega | exact fun c => c), zG_fn F9 102 (by decide) (by first | omega | exact fun c => c), zG_fn F9 117 (by decide) (by first | omega | exact fun c => c)]; exact A_ck2
        have A18 : aR (ez_I h8 100) 286 0 15 := by rw [zG_fn F9 100 (by decide) (by first | omega | exact fun c => c)]; exact A_L
        have A19 : aR (ez_I h8 101) 30 0 15 := by rw [zG_fn F9 101 (by decide) (by first | omega | exact fun c => c)]; exact A_B
        have A20 : aR (ez_I h8 102) 19 0 15 := by rw [zG_fn F9 102 (by decide) (by first | omega | exact fun c => c)]; exact A_r
        have A21 : aR (ez_I h8 117) rm 0 18 := by rw [zG_fn F9 117 (by decide) (by first | omega | exact fun c => c)]; exact A_rt
        refine z_C (m := 0) rfl rfl (fun x22 ex22 => ?_)
        refine gw_st rfl rfl rfl ?_
        show ez_gw _ _ _ _ _ _ _ _ [some (.ref 71), some (.int fr), some (.int to), some (.int pl), some (.int mn), some (.int la), some (.int no), some (.long dy), none, some (.int t0), some (.long fx), none, some (.long sd), none, some (.int wy), some (.int b), some (.int x22)] _ _ _
        have t23 := congrArg Int32.toInt (f12)
        have t24 := congrArg Int32.toInt (f13)
        have t25 := congrArg Int32.toInt (f14)
        have t26 := congrArg Int32.toInt (f15)
        have t27 := congrArg Int32.toInt (f16)
        exact ez_Wp_at ((m_wblock_L15 (fr := fr) (to := to) (pl := pl) (mn := mn) (la := la) S M6 MC hq hr hp hmn hbk hb K (((1000 - x22.toInt)).toNat + 1)) h8 no dy t0 fx sd wy b x22 rm (ez_I h8 71 16).toInt F11 (by omega) A17 A18 A19 A20 A21 ((by rw [show x22.toInt.toNat = 0 by omega]; show _ = _ + (0 : Int); omega)) (by omega)) rfl
      · have c6 : ¬ (t0.toInt ≤ k.toInt) := c6
        refine gw_ld rfl rfl ?_
        refine gw_ld rfl rfl ?_
        refine z_gR (q := 102) (zT S2 (by decide) rfl) (zRf S2 (by decide) (by decide) rfl) (by decide) ?_
        refine gw_ld rfl rfl ?_
        refine z_gR (q := 96) (zT S2 (by decide) rfl) (zRf S2 (by decide) (by decide) rfl) (by decide) ?_
        refine gw_ld rfl rfl ?_
        refine z_iaV (n := 19) (zT S2 (by decide) rfl) (zN S2 (by decide) rfl) (by omega) (zG_a F (by decide) (by decide)) ?_
        generalize ex28 : ez_I h 96 k.toInt.toNat = x28
        have rx28 := z_rng x28
        have yx28 := MC.2.2.2.2.2 k.toInt.toNat (by omega)
        rw [ex28] at yx28
        refine z_ia (n := 19) (zT S2 (by decide) rfl) (zN S2 (by decide) rfl) (by omega) ?_
        generalize ex29 : ez_I h2 102 x28.toInt.toNat = x29
        have rx29 := z_rng x29
        refine z_C (m := 3) rfl rfl (fun x30 ex30 => ?_)
        refine z_cl rfl rfl rfl rfl rfl rfl rfl rfl rfl rfl rfl (zT S2 (by decide) rfl) ?_
        refine m_wb S2 (v := x29) (n := x30) (by omega) (fun h31  F32 k33 => ?_)
        have S34 := zG_sh F32 S2
        have F35 := zG_tr F (zG_mono F32 (fun k hk => by first | omega | exact False.elim hk) (fun k hk => by first | omega | exact False.elim hk))
        have f36 : ez_I h31 71 15 = (ez_I h2 71 15) := (zG_f F32 (by decide)).trans (rfl)
        have r37 := z_rng (ez_I h31 71 16)
        have f38 : ez_I h31 71 56 = (ez_I h2 71 56) := (zG_f F32 (by decide)).trans (rfl)
        have f39 : ez_I h31 71 57 = (ez_I h2 71 57) := (zG_f F32 (by decide)).trans (rfl)
        have f40 : ez_I h31 71 58 = (ez_I h2 71 58) := (zG_f F32 (by decide)).trans (rfl)
        have A41 : ckI wy.toInt 2 (17 + 3 * t0.toInt + rS (ez_I h31 102) (ez_I h31 117) rm + (wS (ez_I h 77) (ez_I h 78) (ez_I h 79) (ez_I h 92) (ez_I h 94) (ez_I h31 100) (ez_I h 93) (ez_I h31 101) (ez_I h 95) to.toInt.toNat - wS (ez_I h 77) (ez_I h 78) (ez_I h 79) (ez_I h 92) (ez_I h 94) (ez_I h31 100) (ez_I h 93) (ez_I h31 101) (ez_I h 95) fr.toInt.toNat) + (ez_I h31 100 256).toInt) (42 + 8 * mn.toInt) := by rw [zG_fn F32 100 (by decide) (by first | omega | exact fun c => c), zG_fn F32 101 (by decide) (by first | omega | exact fun c => c), zG_fn F32 102 (by decide) (by first | omega | exact fun c => c), zG_fn F32 117 (by decide) (by first | omega | exact fun c => c)]; exact A_ck2
        have A42 : aR (ez_I h31 100) 286 0 15 := by rw [zG_fn F32 100 (by decide) (by first | omega | exact fun c => c)]; exact A_L
        have A43 : aR (ez_I h31 101) 30 0 15 := by rw [zG_fn F32 101 (by decide) (by first | omega | exact fun c => c)]; exact A_B
        have A44 : aR (ez_I h31 102) 19 0 15 := by rw [zG_fn F32 102 (by decide) (by first | omega | exact fun c => c)]; exact A_r
        have A45 : aR (ez_I h31 117) rm 0 18 := by rw [zG_fn F32 117 (by decide) (by first | omega | exact fun c => c)]; exact A_rt
        refine z_inc rfl (by rw [show (1 : Int32).toInt = 1 from rfl]; omega) (fun x46 ex46 => ?_)
        rw [show (1 : Int32).toInt = 1 from rfl] at ex46
        show ez_gw _ _ _ _ _ _ _ _ [some (.ref 71), some (.int fr), some (.int to), some (.int pl), some (.int mn), some (.int la), some (.int no), some (.long dy), none, some (.int t0), some (.long fx), none, some (.long sd), none, some (.int wy), some (.int b), some (.int x46)] _ _ _
        refine z_go ?_
        have t47 := congrArg Int32.toInt (f36)
        have t48 := congrArg Int32.toInt (f38)
        have t49 := congrArg Int32.toInt (f39)
        have t50 := congrArg Int32.toInt (f40)
        exact ih h31 no dy t0 fx sd wy b x46 rm F35 (by omega) A41 A42 A43 A44 A45 (by omega)
set_option maxRecDepth 4000 in
set_option maxHeartbeats 20000000 in
theorem m_wblock_L13 {E : Nat → Nat × (Nat → Int32)} {d : Nat} {Q : ez_Q} {h : ez_H} {fr : Int32} {to : Int32} {pl : Int32} {mn : Int32} {la : Int32} (S : zSh h) {n : Nat} (M6 : 0 ≤ (ez_I h 71 6).toInt ∧ (ez_I h 71 6).toInt ≤ 6000) (MC : cC h) (hq : pQ (ez_I h 77) (ez_I h 78) (ez_I h 79) (ez_I h 72) n (ez_I h 71 6).toInt) (hr : 0 ≤ fr.toInt ∧ fr.toInt ≤ to.toInt ∧ to.toInt ≤ n ∧ n ≤ 6000 ∧ to.toInt - fr.toInt ≤ 600) (hp : pl.toInt = pS (ez_I h 77) fr.toInt.toNat) (hmn : mn.toInt = pS (ez_I h 77) to.toInt.toNat - pS (ez_I h 77) fr.toInt.toNat) (hbk : 0 ≤ (ez_I h 71 15).toInt ∧ (ez_I h 71 15).toInt < 12) (hb : 0 ≤ (ez_I h 71 16).toInt ∧ (ez_I h 71 16).toInt + 42 + 8 * mn.toInt ≤ 64000) (K : ∀ h2, zG (fun k => k = 15 ∨ k = 16 ∨ k = 56 ∨ k = 57 ∨ k = 58) (fun q => q = 75 ∨ 83 ≤ q ∧ q ≤ 91 ∨ 97 ≤ q ∧ q ≤ 119) h h2 → (0 ≤ (ez_I h2 71 16).toInt ∧ (ez_I h2 71 16).toInt ≤ (ez_I h 71 16).toInt + 42 + 8 * mn.toInt ∧ (ez_I h2 71 15).toInt = (ez_I h 71 15).toInt + 1) → Q (.inl none) h2) : ∀ N : Nat, (∀ (h2 : ez_H) (no : Int32) (dy : Int64) (t0 : Int32) (fx : Int64) (sd : Int64) (wy : Int32) (b : Int32) (k : Int32) , zG (fun k => k = 15 ∨ k = 16 ∨ k = 56 ∨ k = 57 ∨ k = 58) (fun q => q = 75 ∨ 83 ≤ q ∧ q ≤ 91 ∨ 97 ≤ q ∧ q ≤ 119) h h2 → (0 ≤ k.toInt ∧ k.toInt ≤ mn.toInt ∧ 0 ≤ (ez_I h2 71 16).toInt ∧ (ez_I h2 71 16).toInt ≤ (ez_I h 71 16).toInt + 42 + 8 * k.toInt ∧ (ez_I h2 71 15).toInt = (ez_I h 71 15).toInt + 1) → (7000 - k.toInt) < (N : Int) → pw E (d + 2) 44 823 [some (.ref 71), some (.int fr), some (.int to), some (.int pl), some (.int mn), some (.int la), some (.int no), some (.long dy), none, some (.int t0), some (.long fx), none, some (.long sd), none, some (.int wy), some (.int b), some (.int k)] [] h2 Q) := by
  intro N
  induction N with
  | zero => exact fun h2 no dy t0 fx sd wy b k  F hinv  hm => absurd hm (by have w_no := z_rng no; have w_t0 := z_rng t0; have w_wy := z_rng wy; have w_b := z_rng b; have w_k := z_rng k; have gfr := z_rng fr; have gto := z_rng to; have gpl := z_rng pl; have gmn := z_rng mn; have gla := z_rng la; have MC1 := MC.1; have hps := pQ_rng hq (a := fr.toInt.toNat) (b := to.toInt.toNat) (by omega) (by omega); omega)
  | succ N ih =>
    refine fun h2 no dy t0 fx sd wy b k  F hinv  hm => ?_
    · skip
      have w_no := z_rng no
      have w_t0 := z_rng t0
      have w_wy := z_rng wy
      have w_b := z_rng b
      have w_k := z_rng k
      have gfr := z_rng fr
      have gto := z_rng to
      have gpl := z_rng pl
      have gmn := z_rng mn
      have gla := z_rng la
      have MC1 := MC.1
      have hps := pQ_rng hq (a := fr.toInt.toNat) (b := to.toInt.toNat) (by omega) (by omega)
      have S2 := zG_sh F S
      apply ez_Wp_in
      show ez_gw _ _ _ _ _ _ (cz_44) _ _ _ _ _
      refine gw_skip _ ?_
      have r1 := z_rng (ez_I h2 71 15)
      have r2 := z_rng (ez_I h2 71 16)
      have r3 := z_rng (ez_I h2 71 56)
      have r4 := z_rng (ez_I h2 71 57)
      have r5 := z_rng (ez_I h2 71 58)
      refine gw_ld rfl rfl ?_
      refine gw_ld rfl rfl ?_
      refine z_b2 (fun c6 => ?_) (fun c6 => ?_)
      · have c6 : mn.toInt ≤ k.toInt := c6
        refine gw_skip _ ?_
        refine z_go ?_
        refine gw_skip _ ?_
        refine z_rv ?_
        exact K _ F (by omega)
      · have c6 : ¬ (mn.toInt ≤ k.toInt) := c6
        refine gw_ld rfl rfl ?_
        refine gw_ld rfl rfl ?_
        refine z_gR (q := 72) (zT S2 (by decide) rfl) (zRf S2 (by decide) (by decide) rfl) (by decide) ?_
        refine gw_ld rfl rfl ?_
        refine gw_ld rfl rfl ?_
        refine z_add (by omega) (fun x7 ex7 => ?_)
        refine z_baV (n := 6000) (zT S2 (by decide) rfl) (zN S2 (by decide) rfl) (by omega) (zG_a F (by decide) (by decide)) ?_
        generalize ex8 : ez_I h 72 x7.toInt.toNat = x8
        have rx8 := z_rng x8
        refine z_C (m := 255) rfl rfl (fun x9 ex9 => ?_)
        refine z_and (fun x10 ex10 ux10 wx10 => ?_)
        have rx10 := z_rng x10
        replace ux10 := ux10 (by omega)
        clear wx10
        refine z_C (m := 8) rfl rfl (fun x11 ex11 => ?_)
        refine z_cl rfl rfl rfl rfl rfl rfl rfl rfl rfl rfl rfl (zT S2 (by decide) rfl) ?_
        refine m_wb S2 (v := x10) (n := x11) (by omega) (fun h12  F13 k14 => ?_)
        have S15 := zG_sh F13 S2
        have F16 := zG_tr F (zG_mono F13 (fun k hk => by first | omega | exact False.elim hk) (fun k hk => by first | omega | exact False.elim hk))
        have f17 : ez_I h12 71 15 = (ez_I h2 71 15) := (zG_f F13 (by decide)).trans (rfl)
        have r18 := z_rng (ez_I h12 71 16)
        have f19 : ez_I h12 71 56 = (ez_I h2 71 56) := (zG_f F13 (by decide)).trans (rfl)
        have f20 : ez_I h12 71 57 = (ez_I h2 71 57) := (zG_f F13 (by decide)).trans (rfl)
        have f21 : ez_I h12 71 58 = (ez_I h2 71 58) := (zG_f F13 (by decide)).trans (rfl)
        refine z_inc rfl (by rw [show (1 : Int32).toInt = 1 from rfl]; omega) (fun x22 ex22 => ?_)
        rw [show (1 : Int32).toInt = 1 from rfl] at ex22
        show ez_gw _ _ _ _ _ _ _ _ [some (.ref 71), some (.int fr), some (.int to), some (.int pl), some (.int mn), some (.int la), some (.int no), some (.long dy), none, some (.int t0), some (.long fx), none, some (.long sd), none, some (.int wy), some (.int b), some (.int x22)] _ _ _
        refine z_go ?_
        have t23 := congrArg Int32.toInt (f17)
        have t24 := congrArg Int32.toInt (f19)
        have t25 := congrArg Int32.toInt (f20)
        have t26 := congrArg Int32.toInt (f21)
        exact ih h12 no dy t0 fx sd wy b x22 F16 (by omega)  (by omega)
set_option maxRecDepth 4000 in
set_option maxHeartbeats 20000000 in
theorem m_wblock_L12 {E : Nat → Nat × (Nat → Int32)} {d : Nat} {Q : ez_Q} {h : ez_H} {fr : Int32} {to : Int32} {pl : Int32} {mn : Int32} {la : Int32} (S : zSh h) {n : Nat} (M6 : 0 ≤ (ez_I h 71 6).toInt ∧ (ez_I h 71 6).toInt ≤ 6000) (MC : cC h) (hq : pQ (ez_I h 77) (ez_I h 78) (ez_I h 79) (ez_I h 72) n (ez_I h 71 6).toInt) (hr : 0 ≤ fr.toInt ∧ fr.toInt ≤ to.toInt ∧ to.toInt ≤ n ∧ n ≤ 6000 ∧ to.toInt - fr.toInt ≤ 600) (hp : pl.toInt = pS (ez_I h 77) fr.toInt.toNat) (hmn : mn.toInt = pS (ez_I h 77) to.toInt.toNat - pS (ez_I h 77) fr.toInt.toNat) (hbk : 0 ≤ (ez_I h 71 15).toInt ∧ (ez_I h 71 15).toInt < 12) (hb : 0 ≤ (ez_I h 71 16).toInt ∧ (ez_I h 71 16).toInt + 42 + 8 * mn.toInt ≤ 64000) (K : ∀ h2, zG (fun k => k = 15 ∨ k = 16 ∨ k = 56 ∨ k = 57 ∨ k = 58) (fun q => q = 75 ∨ 83 ≤ q ∧ q ≤ 91 ∨ 97 ≤ q ∧ q ≤ 119) h h2 → (0 ≤ (ez_I h2 71 16).toInt ∧ (ez_I h2 71 16).toInt ≤ (ez_I h 71 16).toInt + 42 + 8 * mn.toInt ∧ (ez_I h2 71 15).toInt = (ez_I h 71 15).toInt + 1) → Q (.inl none) h2) : ∀ N : Nat, (∀ (h2 : ez_H) (no : Int32) (dy : Int64) (t0 : Int32) (fx : Int64) (sd : Int64) (wy : Int32) (b : Int32) (k : Int32) , zG (fun k => k = 15 ∨ k = 16 ∨ k = 56 ∨ k = 57 ∨ k = 58) (fun q => q = 75 ∨ 83 ≤ q ∧ q ≤ 91 ∨ 97 ≤ q ∧ q ≤ 119) h h2 → ((ez_I h 71 16).toInt + 3 ≤ (ez_I h2 71 16).toInt ∧ (ez_I h2 71 16).toInt ≤ ((ez_I h 71 16).toInt + 10) / 8 * 8 ∧ (ez_I h2 71 15).toInt = (ez_I h 71 15).toInt + 1) → (70000 - (ez_I h2 71 16).toInt) < (N : Int) → pw E (d + 2) 44 783 [some (.ref 71), some (.int fr), some (.int to), some (.int pl), some (.int mn), some (.int la), some (.int no), some (.long dy), none, some (.int t0), some (.long fx), none, some (.long sd), none, some (.int wy), some (.int b), some (.int k)] [] h2 Q) := by
  intro N
  induction N with
  | zero => exact fun h2 no dy t0 fx sd wy b k  F hinv  hm => absurd hm (by have w_no := z_rng no; have w_t0 := z_rng t0; have w_wy := z_rng wy; have w_b := z_rng b; have w_k := z_rng k; have gfr := z_rng fr; have gto := z_rng to; have gpl := z_rng pl; have gmn := z_rng mn; have gla := z_rng la; have MC1 := MC.1; have hps := pQ_rng hq (a := fr.toInt.toNat) (b := to.toInt.toNat) (by omega) (by omega); omega)
  | succ N ih =>
    refine fun h2 no dy t0 fx sd wy b k  F hinv  hm => ?_
    · skip
      have w_no := z_rng no
      have w_t0 := z_rng t0
      have w_wy := z_rng wy
      have w_b := z_rng b
      have w_k := z_rng k
      have gfr := z_rng fr
      have gto := z_rng to
      have gpl := z_rng pl
      have gmn := z_rng mn
      have gla := z_rng la
      have MC1 := MC.1
      have hps := pQ_rng hq (a := fr.toInt.toNat) (b := to.toInt.toNat) (by omega) (by omega)
      have S2 := zG_sh F S
      apply ez_Wp_in
      show ez_gw _ _ _ _ _ _ (cz_44) _ _ _ _ _
      refine gw_skip _ ?_
      have r1 := z_rng (ez_I h2 71 15)
      have r2 := z_rng (ez_I h2 71 16)
      have r3 := z_rng (ez_I h2 71 56)
      have r4 := z_rng (ez_I h2 71 57)
      have r5 := z_rng (ez_I h2 71 58)
      refine gw_ld rfl rfl ?_
      refine z_gI2 (by decide) (zT S2 (by decide) rfl) (rfl) ?_
      refine z_C (m := 8) rfl rfl (fun x6 ex6 => ?_)
      refine z_rmP (c := 8) ex6 (by decide) (by omega) (fun x7 ex7 => ?_)
      refine z_b1 (fun c8 => ?_) (fun c8 => ?_)
      · have c8 : x7.toInt = 0 := c8
        refine gw_skip _ ?_
        refine gw_ld rfl rfl ?_
        refine gw_ld rfl rfl ?_
        refine z_C (m := 16) rfl rfl (fun x9 ex9 => ?_)
        refine z_cl rfl rfl rfl rfl rfl rfl rfl rfl rfl rfl rfl (zT S2 (by decide) rfl) ?_
        refine m_wb S2 (v := mn) (n := x9) (by omega) (fun h10  F11 k12 => ?_)
        have S13 := zG_sh F11 S2
        have F14 := zG_tr F (zG_mono F11 (fun k hk => by first | omega | exact False.elim hk) (fun k hk => by first | omega | exact False.elim hk))
        have f15 : ez_I h10 71 15 = (ez_I h2 71 15) := (zG_f F11 (by decide)).trans (rfl)
        have r16 := z_rng (ez_I h10 71 16)
        have f17 : ez_I h10 71 56 = (ez_I h2 71 56) := (zG_f F11 (by decide)).trans (rfl)
        have f18 : ez_I h10 71 57 = (ez_I h2 71 57) := (zG_f F11 (by decide)).trans (rfl)
        have f19 : ez_I h10 71 58 = (ez_I h2 71 58) := (zG_f F11 (by decide)).trans (rfl)
        refine gw_ld rfl rfl ?_
        refine gw_ld rfl rfl ?_
        refine z_C (m := -1) rfl rfl (fun x20 ex20 => ?_)
        refine z_2 rfl (fun x21 ex21 => ?_)
        have rx21 := z_rng x21
        refine z_C (m := 16) rfl rfl (fun x22 ex22 => ?_)
        have t23 := congrArg Int32.toInt (f15)
        have t24 := congrArg Int32.toInt (f17)
        have t25 := congrArg Int32.toInt (f18)
        have t26 := congrArg Int32.toInt (f19)
        refine z_cl rfl rfl rfl rfl rfl rfl rfl rfl rfl rfl rfl (zT S13 (by decide) rfl) ?_
        refine m_wb S13 (v := x21) (n := x22) (by omega) (fun h27  F28 k29 => ?_)
        have S30 := zG_sh F28 S13
        have F31 := zG_tr F14 (zG_mono F28 (fun k hk => by first | omega | exact False.elim hk) (fun k hk => by first | omega | exact False.elim hk))
        have f32 : ez_I h27 71 15 = (ez_I h2 71 15) := (zG_f F28 (by decide)).trans (f15)
        have r33 := z_rng (ez_I h27 71 16)
        have f34 : ez_I h27 71 56 = (ez_I h2 71 56) := (zG_f F28 (by decide)).trans (f17)
        have f35 : ez_I h27 71 57 = (ez_I h2 71 57) := (zG_f F28 (by decide)).trans (f18)
        have f36 : ez_I h27 71 58 = (ez_I h2 71 58) := (zG_f F28 (by decide)).trans (f19)
        refine z_C (m := 0) rfl rfl (fun x37 ex37 => ?_)
        refine gw_st rfl rfl rfl ?_
        show ez_gw _ _ _ _ _ _ _ _ [some (.ref 71), some (.int fr), some (.int to), some (.int pl), some (.int mn), some (.int la), some (.int no), some (.long dy), none, some (.int t0), some (.long fx), none, some (.long sd), none, some (.int wy), some (.int b), some (.int x37)] _ _ _
        have t38 := congrArg Int32.toInt (f32)
        have t39 := congrArg Int32.toInt (f34)
        have t40 := congrArg Int32.toInt (f35)
        have t41 := congrArg Int32.toInt (f36)
        exact ez_Wp_at ((m_wblock_L13 (fr := fr) (to := to) (pl := pl) (mn := mn) (la := la) S M6 MC hq hr hp hmn hbk hb K (((7000 - x37.toInt)).toNat + 1)) h27 no dy t0 fx sd wy b x37 F31 (by omega)  (by omega)) rfl
      · have c8 : ¬ (x7.toInt = 0) := c8
        refine gw_ld rfl rfl ?_
        refine z_C (m := 0) rfl rfl (fun x42 ex42 => ?_)
        refine z_C (m := 1) rfl rfl (fun x43 ex43 => ?_)
        refine z_cl rfl rfl rfl rfl rfl rfl rfl rfl rfl rfl rfl (zT S2 (by decide) rfl) ?_
        refine m_wb S2 (v := x42) (n := x43) (by omega) (fun h44  F45 k46 => ?_)
        have S47 := zG_sh F45 S2
        have F48 := zG_tr F (zG_mono F45 (fun k hk => by first | omega | exact False.elim hk) (fun k hk => by first | omega | exact False.elim hk))
        have f49 : ez_I h44 71 15 = (ez_I h2 71 15) := (zG_f F45 (by decide)).trans (rfl)
        have r50 := z_rng (ez_I h44 71 16)
        have f51 : ez_I h44 71 56 = (ez_I h2 71 56) := (zG_f F45 (by decide)).trans (rfl)
        have f52 : ez_I h44 71 57 = (ez_I h2 71 57) := (zG_f F45 (by decide)).trans (rfl)
        have f53 : ez_I h44 71 58 = (ez_I h2 71 58) := (zG_f F45 (by decide)).trans (rfl)
        refine z_go ?_
        have t54 := congrArg Int32.toInt (f49)
        have t55 := congrArg Int32.toInt (f51)
        have t56 := congrArg Int32.toInt (f52)
        have t57 := congrArg Int32.toInt (f53)
        exact ih h44 no dy t0 fx sd wy b k F48 (by omega)  (by omega)
set_option maxRecDepth 4000 in
set_option maxHeartbeats 20000000 in
theorem m_wblock_L11 {E : Nat → Nat × (Nat → Int32)} {d : Nat} {Q : ez_Q} {h : ez_H} {fr : Int32} {to : Int32} {pl : Int32} {mn : Int32} {la : Int32} (S : zSh h) {n : Nat} (M6 : 0 ≤ (ez_I h 71 6).toInt ∧ (ez_I h 71 6).toInt ≤ 6000) (MC : cC h) (hq : pQ (ez_I h 77) (ez_I h 78) (ez_I h 79) (ez_I h 72) n (ez_I h 71 6).toInt) (hr : 0 ≤ fr.toInt ∧ fr.toInt ≤ to.toInt ∧ to.toInt ≤ n ∧ n ≤ 6000 ∧ to.toInt - fr.toInt ≤ 600) (hp : pl.toInt = pS (ez_I h 77) fr.toInt.toNat) (hmn : mn.toInt = pS (ez_I h 77) to.toInt.toNat - pS (ez_I h 77) fr.toInt.toNat) (hbk : 0 ≤ (ez_I h 71 15).toInt ∧ (ez_I h 71 15).toInt < 12) (hb : 0 ≤ (ez_I h 71 16).toInt ∧ (ez_I h 71 16).toInt + 42 + 8 * mn.toInt ≤ 64000) (K : ∀ h2, zG (fun k => k = 15 ∨ k = 16 ∨ k = 56 ∨ k = 57 ∨ k = 58) (fun q => q = 75 ∨ 83 ≤ q ∧ q ≤ 91 ∨ 97 ≤ q ∧ q ≤ 119) h h2 → (0 ≤ (ez_I h2 71 16).toInt ∧ (ez_I h2 71 16).toInt ≤ (ez_I h 71 16).toInt + 42 + 8 * mn.toInt ∧ (ez_I h2 71 15).toInt = (ez_I h 71 15).toInt + 1) → Q (.inl none) h2) : ∀ N : Nat, (∀ (h2 : ez_H) (no : Int32) (dy : Int64) (t0 : Int32) (fx : Int64) (sd : Int64) (wy : Int32) (b : Int32) (k : Int32) (rm : Nat), zG (fun k => k = 15 ∨ k = 16 ∨ k = 56 ∨ k = 57 ∨ k = 58) (fun q => q = 75 ∨ 83 ≤ q ∧ q ≤ 91 ∨ 97 ≤ q ∧ q ≤ 119) h h2 → ((ez_I h2 71 15).toInt = (ez_I h 71 15).toInt ∧ (ez_I h2 71 16).toInt = (ez_I h 71 16).toInt ∧ 257 ≤ (ez_I h2 71 57).toInt ∧ (ez_I h2 71 57).toInt ≤ 286 ∧ 1 ≤ (ez_I h2 71 58).toInt ∧ (ez_I h2 71 58).toInt ≤ 30 ∧ (ez_I h2 71 56).toInt = rm ∧ rm ≤ 316 ∧ 4 ≤ t0.toInt ∧ t0.toInt ≤ 19 ∧ 0 ≤ wy.toInt ∧ wy.toInt ≤ 2 ∧ b.toInt = (ez_I h 71 15).toInt ∧ 0 ≤ k.toInt ∧ k.toInt ≤ 288) → ckI wy.toInt 1 (3 + (wS (ez_I h 77) (ez_I h 78) (ez_I h 79) (ez_I h 92) (ez_I h 94) (ez_I h2 106) (ez_I h 93) (ez_I h2 108) (ez_I h 95) to.toInt.toNat - wS (ez_I h 77) (ez_I h 78) (ez_I h 79) (ez_I h 92) (ez_I h 94) (ez_I h2 106) (ez_I h 93) (ez_I h2 108) (ez_I h 95) fr.toInt.toNat) + (ez_I h2 106 256).toInt) (42 + 8 * mn.toInt) → ckI wy.toInt 2 (17 + 3 * t0.toInt + rS (ez_I h2 102) (ez_I h2 117) rm + (wS (ez_I h 77) (ez_I h 78) (ez_I h 79) (ez_I h 92) (ez_I h 94) (ez_I h2 100) (ez_I h 93) (ez_I h2 101) (ez_I h 95) to.toInt.toNat - wS (ez_I h 77) (ez_I h 78) (ez_I h 79) (ez_I h 92) (ez_I h 94) (ez_I h2 100) (ez_I h 93) (ez_I h2 101) (ez_I h 95) fr.toInt.toNat) + (ez_I h2 100 256).toInt) (42 + 8 * mn.toInt) → aR (ez_I h2 106) 288 0 15 → aR (ez_I h2 108) 30 0 15 → aR (ez_I h2 100) 286 0 15 → aR (ez_I h2 101) 30 0 15 → aR (ez_I h2 102) 19 0 15 → aR (ez_I h2 117) rm 0 18 → (1000 - k.toInt) < (N : Int) → pw E (d + 2) 44 713 [some (.ref 71), some (.int fr), some (.int to), some (.int pl), some (.int mn), some (.int la), some (.int no), some (.long dy), none, some (.int t0), some (.long fx), none, some (.long sd), none, some (.int wy), some (.int b), some (.int k)] [] h2 Q) := by
  intro N
  induction N with
  | zero => exact fun h2 no dy t0 fx sd wy b k rm F hinv A_ck1 A_ck2 A_f A_fb A_L A_B A_r A_rt hm => absurd hm (by have w_no := z_rng no; have w_t0 := z_rng t0; have w_wy := z_rng wy; have w_b := z_rng b; have w_k := z_rng k; have gfr := z_rng fr; have gto := z_rng to; have gpl := z_rng pl; have gmn := z_rng mn; have gla := z_rng la; have MC1 := MC.1; have hps := pQ_rng hq (a := fr.toInt.toNat) (b := to.toInt.toNat) (by omega) (by omega); omega)
  | succ N ih =>
    refine fun h2 no dy t0 fx sd wy b k rm F hinv A_ck1 A_ck2 A_f A_fb A_L A_B A_r A_rt hm => ?_
    · skip
      have w_no := z_rng no
      have w_t0 := z_rng t0
      have w_wy := z_rng wy
      have w_b := z_rng b
      have w_k := z_rng k
      have gfr := z_rng fr
      have gto := z_rng to
      have gpl := z_rng pl
      have gmn := z_rng mn
      have gla := z_rng la
      have MC1 := MC.1
      have hps := pQ_rng hq (a := fr.toInt.toNat) (b := to.toInt.toNat) (by omega) (by omega)
      have S2 := zG_sh F S
      apply ez_Wp_in
      show ez_gw _ _ _ _ _ _ (cz_44) _ _ _ _ _
      refine gw_skip _ ?_
      have r1 := z_rng (ez_I h2 71 15)
      have r2 := z_rng (ez_I h2 71 16)
      have r3 := z_rng (ez_I h2 71 56)
      have r4 := z_rng (ez_I h2 71 57)
      have r5 := z_rng (ez_I h2 71 58)
      refine gw_ld rfl rfl ?_
      refine z_C (m := 19) rfl rfl (fun x6 ex6 => ?_)
      refine z_b2 (fun c7 => ?_) (fun c7 => ?_)
      · have c7 : x6.toInt ≤ k.toInt := c7
        refine gw_skip _ ?_
        refine gw_ld rfl rfl ?_
        refine gw_op rfl ?_
        refine z_gI2 (by decide) (zT S2 (by decide) rfl) (rfl) ?_
        refine z_C (m := 1) rfl rfl (fun x8 ex8 => ?_)
        refine z_add (by omega) (fun x9 ex9 => ?_)
        refine z_pI (zT S2 (by decide) rfl) (fun h10 e11 => ?_)
        have S12 := zSh_set S2 e11
        have F13 := zG_setF F e11 (by decide)
        have f14 : ez_I h10 71 15 = x9 := zI_eq e11
        have f15 : ez_I h10 71 16 = (ez_I h2 71 16) := (zI_ne e11 (by decide)).trans (rfl)
        have f16 : ez_I h10 71 56 = (ez_I h2 71 56) := (zI_ne e11 (by decide)).trans (rfl)
        have f17 : ez_I h10 71 57 = (ez_I h2 71 57) := (zI_ne e11 (by decide)).trans (rfl)
        have f18 : ez_I h10 71 58 = (ez_I h2 71 58) := (zI_ne e11 (by decide)).trans (rfl)
        have A19 : ckI wy.toInt 1 (3 + (wS (ez_I h 77) (ez_I h 78) (ez_I h 79) (ez_I h 92) (ez_I h 94) (ez_I h10 106) (ez_I h 93) (ez_I h10 108) (ez_I h 95) to.toInt.toNat - wS (ez_I h 77) (ez_I h 78) (ez_I h 79) (ez_I h 92) (ez_I h 94) (ez_I h10 106) (ez_I h 93) (ez_I h10 108) (ez_I h 95) fr.toInt.toNat) + (ez_I h10 106 256).toInt) (42 + 8 * mn.toInt) := by rw [zI_fn e11 106 (by decide), zI_fn e11 108 (by decide)]; exact A_ck1
        have A20 : ckI wy.toInt 2 (17 + 3 * t0.toInt + rS (ez_I h10 102) (ez_I h10 117) rm + (wS (ez_I h 77) (ez_I h 78) (ez_I h 79) (ez_I h 92) (ez_I h 94) (ez_I h10 100) (ez_I h 93) (ez_I h10 101) (ez_I h 95) to.toInt.toNat - wS (ez_I h 77) (ez_I h 78) (ez_I h 79) (ez_I h 92) (ez_I h 94) (ez_I h10 100) (ez_I h 93) (ez_I h10 101) (ez_I h 95) fr.toInt.toNat) + (ez_I h10 100 256).toInt) (42 + 8 * mn.toInt) := by rw [zI_fn e11 100 (by decide), zI_fn e11 101 (by decide), zI_fn e11 102 (by decide), zI_fn e11 117 (by decide)]; exact A_ck2
        have A21 : aR (ez_I h10 106) 288 0 15 := by rw [zI_fn e11 106 (by decide)]; exact A_f
        have A22 : aR (ez_I h10 108) 30 0 15 := by rw [zI_fn e11 108 (by decide)]; exact A_fb
        have A23 : aR (ez_I h10 100) 286 0 15 := by rw [zI_fn e11 100 (by decide)]; exact A_L
        have A24 : aR (ez_I h10 101) 30 0 15 := by rw [zI_fn e11 101 (by decide)]; exact A_B
        have A25 : aR (ez_I h10 102) 19 0 15 := by rw [zI_fn e11 102 (by decide)]; exact A_r
        have A26 : aR (ez_I h10 117) rm 0 18 := by rw [zI_fn e11 117 (by decide)]; exact A_rt
        refine gw_ld rfl rfl ?_
        refine gw_ld rfl rfl ?_
        refine z_b1 (fun c27 => ?_) (fun c27 => ?_)
        · have c27 : la.toInt = 0 := c27
          refine gw_skip _ ?_
          refine z_C (m := 0) rfl rfl (fun x28 ex28 => ?_)
          refine z_C (m := 1) rfl rfl (fun x29 ex29 => ?_)
          have t30 := congrArg Int32.toInt (f14)
          have t31 := congrArg Int32.toInt (f15)
          have t32 := congrArg Int32.toInt (f16)
          have t33 := congrArg Int32.toInt (f17)
          have t34 := congrArg Int32.toInt (f18)
          refine z_cl rfl rfl rfl rfl rfl rfl rfl rfl rfl rfl rfl (zT S12 (by decide) rfl) ?_
          refine m_wb S12 (v := x28) (n := x29) (by omega) (fun h35  F36 k37 => ?_)
          have S38 := zG_sh F36 S12
          have F39 := zG_tr F13 (zG_mono F36 (fun k hk => by first | omega | exact False.elim hk) (fun k hk => by first | omega | exact False.elim hk))
          have f40 : ez_I h35 71 15 = x9 := (zG_f F36 (by decide)).trans (f14)
          have r41 := z_rng (ez_I h35 71 16)
          have f42 : ez_I h35 71 56 = (ez_I h2 71 56) := (zG_f F36 (by decide)).trans (f16)
          have f43 : ez_I h35 71 57 = (ez_I h2 71 57) := (zG_f F36 (by decide)).trans (f17)
          have f44 : ez_I h35 71 58 = (ez_I h2 71 58) := (zG_f F36 (by decide)).trans (f18)
          have A45 : ckI wy.toInt 1 (3 + (wS (ez_I h 77) (ez_I h 78) (ez_I h 79) (ez_I h 92) (ez_I h 94) (ez_I h35 106) (ez_I h 93) (ez_I h35 108) (ez_I h 95) to.toInt.toNat - wS (ez_I h 77) (ez_I h 78) (ez_I h 79) (ez_I h 92) (ez_I h 94) (ez_I h35 106) (ez_I h 93) (ez_I h35 108) (ez_I h 95) fr.toInt.toNat) + (ez_I h35 106 256).toInt) (42 + 8 * mn.toInt) := by rw [zG_fn F36 106 (by decide) (by first | omega | exact fun c => c), zG_fn F36 108 (by decide) (by first | omega | exact fun c => c)]; exact A19
          have A46 : ckI wy.toInt 2 (17 + 3 * t0.toInt + rS (ez_I h35 102) (ez_I h35 117) rm + (wS (ez_I h 77) (ez_I h 78) (ez_I h 79) (ez_I h 92) (ez_I h 94) (ez_I h35 100) (ez_I h 93) (ez_I h35 101) (ez_I h 95) to.toInt.toNat - wS (ez_I h 77) (ez_I h 78) (ez_I h 79) (ez_I h 92) (ez_I h 94) (ez_I h35 100) (ez_I h 93) (ez_I h35 101) (ez_I h 95) fr.toInt.toNat) + (ez_I h35 100 256).toInt) (42 + 8 * mn.toInt) := by rw [zG_fn F36 100 (by decide) (by first | omega | exact fun c => c), zG_fn F36 101 (by decide) (by first | omega | exact fun c => c), zG_fn F36 102 (by decide) (by first | omega | exact fun c => c), zG_fn F36 117 (by decide) (by first | omega | exact fun c => c)]; exact A20
          have A47 : aR (ez_I h35 106) 288 0 15 := by rw [zG_fn F36 106 (by decide) (by first | omega | exact fun c => c)]; exact A21
          have A48 : aR (ez_I h35 108) 30 0 15 := by rw [zG_fn F36 108 (by decide) (by first | omega | exact fun c => c)]; exact A22
          have A49 : aR (ez_I h35 100) 286 0 15 := by rw [zG_fn F36 100 (by decide) (by first | omega | exact fun c => c)]; exact A23
          have A50 : aR (ez_I h35 101) 30 0 15 := by rw [zG_fn F36 101 (by decide) (by first | omega | exact fun c => c)]; exact A24
          have A51 : aR (ez_I h35 102) 19 0 15 := by rw [zG_fn F36 102 (by decide) (by first | omega | exact fun c => c)]; exact A25
          have A52 : aR (ez_I h35 117) rm 0 18 := by rw [zG_fn F36 117 (by decide) (by first | omega | exact fun c => c)]; exact A26
          refine gw_ld rfl rfl ?_
          refine gw_ld rfl rfl ?_
          refine z_C (m := 2) rfl rfl (fun x53 ex53 => ?_)
          have t54 := congrArg Int32.toInt (f40)
          have t55 := congrArg Int32.toInt (f42)
          have t56 := congrArg Int32.toInt (f43)
          have t57 := congrArg Int32.toInt (f44)
          refine z_cl rfl rfl rfl rfl rfl rfl rfl rfl rfl rfl rfl (zT S38 (by decide) rfl) ?_
          refine m_wb S38 (v := wy) (n := x53) (by omega) (fun h58  F59 k60 => ?_)
          have S61 := zG_sh F59 S38
          have F62 := zG_tr F39 (zG_mono F59 (fun k hk => by first | omega | exact False.elim hk) (fun k hk => by first | omega | exact False.elim hk))
          have f63 : ez_I h58 71 15 = x9 := (zG_f F59 (by decide)).trans (f40)
          have r64 := z_rng (ez_I h58 71 16)
          have f65 : ez_I h58 71 56 = (ez_I h2 71 56) := (zG_f F59 (by decide)).trans (f42)
          have f66 : ez_I h58 71 57 = (ez_I h2 71 57) := (zG_f F59 (by decide)).trans (f43)
          have f67 : ez_I h58 71 58 = (ez_I h2 71 58) := (zG_f F59 (by decide)).trans (f44)
          have A68 : ckI wy.toInt 1 (3 + (wS (ez_I h 77) (ez_I h 78) (ez_I h 79) (ez_I h 92) (ez_I h 94) (ez_I h58 106) (ez_I h 93) (ez_I h58 108) (ez_I h 95) to.toInt.toNat - wS (ez_I h 77) (ez_I h 78) (ez_I h 79) (ez_I h 92) (ez_I h 94) (ez_I h58 106) (ez_I h 93) (ez_I h58 108) (ez_I h 95) fr.toInt.toNat) + (ez_I h58 106 256).toInt) (42 + 8 * mn.toInt) := by rw [zG_fn F59 106 (by decide) (by first | omega | exact fun c => c), zG_fn F59 108 (by decide) (by first | omega | exact fun c => c)]; exact A45
          have A69 : ckI wy.toInt 2 (17 + 3 * t0.toInt + rS (ez_I h58 102) (ez_I h58 117) rm + (wS (ez_I h 77) (ez_I h 78) (ez_I h 79) (ez_I h 92) (ez_I h 94) (ez_I h58 100) (ez_I h 93) (ez_I h58 101) (ez_I h 95) to.toInt.toNat - wS (ez_I h 77) (ez_I h 78) (ez_I h 79) (ez_I h 92) (ez_I h 94) (ez_I h58 100) (ez_I h 93) (ez_I h58 101) (ez_I h 95) fr.toInt.toNat) + (ez_I h58 100 256).toInt) (42 + 8 * mn.toInt) := by rw [zG_fn F59 100 (by decide) (by first | omega | exact fun c => c), zG_fn F59 101 (by decide) (by first | omega | exact fun c => c), zG_fn F59 102 (by decide) (by first | omega | exact fun c => c), zG_fn F59 117 (by decide) (by first | omega | exact fun c => c)]; exact A46
          have A70 : aR (ez_I h58 106) 288 0 15 := by rw [zG_fn F59 106 (by decide) (by first | omega | exact fun c => c)]; exact A47
          have A71 : aR (ez_I h58 108) 30 0 15 := by rw [zG_fn F59 108 (by decide) (by first | omega | exact fun c => c)]; exact A48
          have A72 : aR (ez_I h58 100) 286 0 15 := by rw [zG_fn F59 100 (by decide) (by first | omega | exact fun c => c)]; exact A49
          have A73 : aR (ez_I h58 101) 30 0 15 := by rw [zG_fn F59 101 (by decide) (by first | omega | exact fun c => c)]; exact A50
          have A74 : aR (ez_I h58 102) 19 0 15 := by rw [zG_fn F59 102 (by decide) (by first | omega | exact fun c => c)]; exact A51
          have A75 : aR (ez_I h58 117) rm 0 18 := by rw [zG_fn F59 117 (by decide) (by first | omega | exact fun c => c)]; exact A52
          refine gw_ld rfl rfl ?_
          refine z_b1 (fun c76 => ?_) (fun c76 => ?_)
          · have c76 : wy.toInt ≠ 0 := c76
            refine gw_skip _ ?_
            refine gw_ld rfl rfl ?_
            refine z_C (m := 1) rfl rfl (fun x77 ex77 => ?_)
            refine z_b2 (fun c78 => ?_) (fun c78 => ?_)
            · have c78 : wy.toInt ≠ x77.toInt := c78
              refine gw_skip _ ?_
              refine gw_ld rfl rfl ?_
              refine gw_ld rfl rfl ?_
              refine z_gI2 (by decide) (zT S61 (by decide) rfl) (f66) ?_
              refine z_C (m := 257) rfl rfl (fun x79 ex79 => ?_)
              refine z_sub (by omega) (fun x80 ex80 => ?_)
              refine z_C (m := 5) rfl rfl (fun x81 ex81 => ?_)
              have t82 := congrArg Int32.toInt (f63)
              have t83 := congrArg Int32.toInt (f65)
              have t84 := congrArg Int32.toInt (f66)
              have t85 := congrArg Int32.toInt (f67)
              refine z_cl rfl rfl rfl rfl rfl rfl rfl rfl rfl rfl rfl (zT S61 (by decide) rfl) ?_
              refine m_wb S61 (v := x80) (n := x81) (by omega) (fun h86  F87 k88 => ?_)
              have S89 := zG_sh F87 S61
              have F90 := zG_tr F62 (zG_mono F87 (fun k hk => by first | omega | exact False.elim hk) (fun k hk => by first | omega | exact False.elim hk))
              have f91 : ez_I h86 71 15 = x9 := (zG_f F87 (by decide)).trans (f63)
              have r92 := z_rng (ez_I h86 71 16)
              have f93 : ez_I h86 71 56 = (ez_I h2 71 56) := (zG_f F87 (by decide)).trans (f65)
              have f94 : ez_I h86 71 57 = (ez_I h2 71 57) := (zG_f F87 (by decide)).trans (f66)
              have f95 : ez_I h86 71 58 = (ez_I h2 71 58) := (zG_f F87 (by decide)).trans (f67)
              have A96 : ckI wy.toInt 1 (3 + (wS (ez_I h 77) (ez_I h 78) (ez_I h 79) (ez_I h 92) (ez_I h 94) (ez_I h86 106) (ez_I h 93) (ez_I h86 108) (ez_I h 95) to.toInt.toNat - wS (ez_I h 77) (ez_I h 78) (ez_I h 79) (ez_I h 92) (ez_I h 94) (ez_I h86 106) (ez_I h 93) (ez_I h86 108) (ez_I h 95) fr.toInt.toNat) + (ez_I h86 106 256).toInt) (42 + 8 * mn.toInt) := by rw [zG_fn F87 106 (by decide) (by first | omega | exact fun c => c), zG_fn F87 108 (by decide) (by first | omega | exact fun c => c)]; exact A68
              have A97 : ckI wy.toInt 2 (17 + 3 * t0.toInt + rS (ez_I h86 102) (ez_I h86 117) rm + (wS (ez_I h 77) (ez_I h 78) (ez_I h 79) (ez_I h 92) (ez_I h 94) (ez_I h86 100) (ez_I h 93) (ez_I h86 101) (ez_I h 95) to.toInt.toNat - wS (ez_I h 77) (ez_I h 78) (ez_I h 79) (ez_I h 92) (ez_I h 94) (ez_I h86 100) (ez_I h 93) (ez_I h86 101) (ez_I h 95) fr.toInt.toNat) + (ez_I h86 100 256).toInt) (42 + 8 * mn.toInt) := by rw [zG_fn F87 100 (by decide) (by first | omega | exact fun c => c), zG_fn F87 101 (by decide) (by first | omega | exact fun c => c), zG_fn F87 102 (by decide) (by first | omega | exact fun c => c), zG_fn F87 117 (by decide) (by first | omega | exact fun c => c)]; exact A69
              have A98 : aR (ez_I h86 106) 288 0 15 := by rw [zG_fn F87 106 (by decide) (by first | omega | exact fun c => c)]; exact A70
              have A99 : aR (ez_I h86 108) 30 0 15 := by rw [zG_fn F87 108 (by decide) (by first | omega | exact fun c => c)]; exact A71
              have A100 : aR (ez_I h86 100) 286 0 15 := by rw [zG_fn F87 100 (by decide) (by first | omega | exact fun c => c)]; exact A72
              have A101 : aR (ez_I h86 101) 30 0 15 := by rw [zG_fn F87 101 (by decide) (by first | omega | exact fun c => c)]; exact A73
              have A102 : aR (ez_I h86 102) 19 0 15 := by rw [zG_fn F87 102 (by decide) (by first | omega | exact fun c => c)]; exact A74
              have A103 : aR (ez_I h86 117) rm 0 18 := by rw [zG_fn F87 117 (by decide) (by first | omega | exact fun c => c)]; exact A75
              refine gw_ld rfl rfl ?_
              refine gw_ld rfl rfl ?_
              refine z_gI2 (by decide) (zT S89 (by decide) rfl) (f95) ?_
              refine z_C (m := 1) rfl rfl (fun x104 ex104 => ?_)
              refine z_sub (by omega) (fun x105 ex105 => ?_)
              refine z_C (m := 5) rfl rfl (fun x106 ex106 => ?_)
              have t107 := congrArg Int32.toInt (f91)
              have t108 := congrArg Int32.toInt (f93)
              have t109 := congrArg Int32.toInt (f94)
              have t110 := congrArg Int32.toInt (f95)
              refine z_cl rfl rfl rfl rfl rfl rfl rfl rfl rfl rfl rfl (zT S89 (by decide) rfl) ?_
              refine m_wb S89 (v := x105) (n := x106) (by omega) (fun h111  F112 k113 => ?_)
              have S114 := zG_sh F112 S89
              have F115 := zG_tr F90 (zG_mono F112 (fun k hk => by first | omega | exact False.elim hk) (fun k hk => by first | omega | exact False.elim hk))
              have f116 : ez_I h111 71 15 = x9 := (zG_f F112 (by decide)).trans (f91)
              have r117 := z_rng (ez_I h111 71 16)
              have f118 : ez_I h111 71 56 = (ez_I h2 71 56) := (zG_f F112 (by decide)).trans (f93)
              have f119 : ez_I h111 71 57 = (ez_I h2 71 57) := (zG_f F112 (by decide)).trans (f94)
              have f120 : ez_I h111 71 58 = (ez_I h2 71 58) := (zG_f F112 (by decide)).trans (f95)
              have A121 : ckI wy.toInt 1 (3 + (wS (ez_I h 77) (ez_I h 78) (ez_I h 79) (ez_I h 92) (ez_I h 94) (ez_I h111 106) (ez_I h 93) (ez_I h111 108) (ez_I h 95) to.toInt.toNat - wS (ez_I h 77) (ez_I h 78) (ez_I h 79) (ez_I h 92) (ez_I h 94) (ez_I h111 106) (ez_I h 93) (ez_I h111 108) (ez_I h 95) fr.toInt.toNat) + (ez_I h111 106 256).toInt) (42 + 8 * mn.toInt) := by rw [zG_fn F112 106 (by decide) (by first | omega | exact fun c => c), zG_fn F112 108 (by decide) (by first | omega | exact fun c => c)]; exact A96
              have A122 : ckI wy.toInt 2 (17 + 3 * t0.toInt + rS (ez_I h111 102) (ez_I h111 117) rm + (wS (ez_I h 77) (ez_I h 78) (ez_I h 79) (ez_I h 92) (ez_I h 94) (ez_I h111 100) (ez_I h 93) (ez_I h111 101) (ez_I h 95) to.toInt.toNat - wS (ez_I h 77) (ez_I h 78) (ez_I h 79) (ez_I h 92) (ez_I h 94) (ez_I h111 100) (ez_I h 93) (ez_I h111 101) (ez_I h 95) fr.toInt.toNat) + (ez_I h111 100 256).toInt) (42 + 8 * mn.toInt) := by rw [zG_fn F112 100 (by decide) (by first | omega | exact fun c => c), zG_fn F112 101 (by decide) (by first | omega | exact fun c => c), zG_fn F112 102 (by decide) (by first | omega | exact fun c => c), zG_fn F112 117 (by decide) (by first | omega | exact fun c => c)]; exact A97
              have A123 : aR (ez_I h111 106) 288 0 15 := by rw [zG_fn F112 106 (by decide) (by first | omega | exact fun c => c)]; exact A98
              have A124 : aR (ez_I h111 108) 30 0 15 := by rw [zG_fn F112 108 (by decide) (by first | omega | exact fun c => c)]; exact A99
              have A125 : aR (ez_I h111 100) 286 0 15 := by rw [zG_fn F112 100 (by decide) (by first | omega | exact fun c => c)]; exact A100
              have A126 : aR (ez_I h111 101) 30 0 15 := by rw [zG_fn F112 101 (by decide) (by first | omega | exact fun c => c)]; exact A101
              have A127 : aR (ez_I h111 102) 19 0 15 := by rw [zG_fn F112 102 (by decide) (by first | omega | exact fun c => c)]; exact A102
              have A128 : aR (ez_I h111 117) rm 0 18 := by rw [zG_fn F112 117 (by decide) (by first | omega | exact fun c => c)]; exact A103
              refine gw_ld rfl rfl ?_
              refine gw_ld rfl rfl ?_
              refine z_C (m := 4) rfl rfl (fun x129 ex129 => ?_)
              refine z_sub (by omega) (fun x130 ex130 => ?_)
              refine z_C (m := 4) rfl rfl (fun x131 ex131 => ?_)
              have t132 := congrArg Int32.toInt (f116)
              have t133 := congrArg Int32.toInt (f118)
              have t134 := congrArg Int32.toInt (f119)
              have t135 := congrArg Int32.toInt (f120)
              refine z_cl rfl rfl rfl rfl rfl rfl rfl rfl rfl rfl rfl (zT S114 (by decide) rfl) ?_
              refine m_wb S114 (v := x130) (n := x131) (by omega) (fun h136  F137 k138 => ?_)
              have S139 := zG_sh F137 S114
              have F140 := zG_tr F115 (zG_mono F137 (fun k hk => by first | omega | exact False.elim hk) (fun k hk => by first | omega | exact False.elim hk))
              have f141 : ez_I h136 71 15 = x9 := (zG_f F137 (by decide)).trans (f116)
              have r142 := z_rng (ez_I h136 71 16)
              have f143 : ez_I h136 71 56 = (ez_I h2 71 56) := (zG_f F137 (by decide)).trans (f118)
              have f144 : ez_I h136 71 57 = (ez_I h2 71 57) := (zG_f F137 (by decide)).trans (f119)
              have f145 : ez_I h136 71 58 = (ez_I h2 71 58) := (zG_f F137 (by decide)).trans (f120)
              have A146 : ckI wy.toInt 1 (3 + (wS (ez_I h 77) (ez_I h 78) (ez_I h 79) (ez_I h 92) (ez_I h 94) (ez_I h136 106) (ez_I h 93) (ez_I h136 108) (ez_I h 95) to.toInt.toNat - wS (ez_I h 77) (ez_I h 78) (ez_I h 79) (ez_I h 92) (ez_I h 94) (ez_I h136 106) (ez_I h 93) (ez_I h136 108) (ez_I h 95) fr.toInt.toNat) + (ez_I h136 106 256).toInt) (42 + 8 * mn.toInt) := by rw [zG_fn F137 106 (by decide) (by first | omega | exact fun c => c), zG_fn F137 108 (by decide) (by first | omega | exact fun c => c)]; exact A121
              have A147 : ckI wy.toInt 2 (17 + 3 * t0.toInt + rS (ez_I h136 102) (ez_I h136 117) rm + (wS (ez_I h 77) (ez_I h 78) (ez_I h 79) (ez_I h 92) (ez_I h 94) (ez_I h136 100) (ez_I h 93) (ez_I h136 101) (ez_I h 95) to.toInt.toNat - wS (ez_I h 77) (ez_I h 78) (ez_I h 79) (ez_I h 92) (ez_I h 94) (ez_I h136 100) (ez_I h 93) (ez_I h136 101) (ez_I h 95) fr.toInt.toNat) + (ez_I h136 100 256).toInt) (42 + 8 * mn.toInt) := by rw [zG_fn F137 100 (by decide) (by first | omega | exact fun c => c), zG_fn F137 101 (by decide) (by first | omega | exact fun c => c), zG_fn F137 102 (by decide) (by first | omega | exact fun c => c), zG_fn F137 117 (by decide) (by first | omega | exact fun c => c)]; exact A122
              have A148 : aR (ez_I h136 106) 288 0 15 := by rw [zG_fn F137 106 (by decide) (by first | omega | exact fun c => c)]; exact A123
              have A149 : aR (ez_I h136 108) 30 0 15 := by rw [zG_fn F137 108 (by decide) (by first | omega | exact fun c => c)]; exact A124
              have A150 : aR (ez_I h136 100) 286 0 15 := by rw [zG_fn F137 100 (by decide) (by first | omega | exact fun c => c)]; exact A125
              have A151 : aR (ez_I h136 101) 30 0 15 := by rw [zG_fn F137 101 (by decide) (by first | omega | exact fun c => c)]; exact A126
              have A152 : aR (ez_I h136 102) 19 0 15 := by rw [zG_fn F137 102 (by decide) (by first | omega | exact fun c => c)]; exact A127
              have A153 : aR (ez_I h136 117) rm 0 18 := by rw [zG_fn F137 117 (by decide) (by first | omega | exact fun c => c)]; exact A128
              refine z_C (m := 0) rfl rfl (fun x154 ex154 => ?_)
              refine gw_st rfl rfl rfl ?_
              show ez_gw _ _ _ _ _ _ _ _ [some (.ref 71), some (.int fr), some (.int to), some (.int pl), some (.int mn), some (.int la), some (.int no), some (.long dy), none, some (.int t0), some (.long fx), none, some (.long sd), none, some (.int wy), some (.int b), some (.int x154)] _ _ _
              have t155 := congrArg Int32.toInt (f141)
              have t156 := congrArg Int32.toInt (f143)
              have t157 := congrArg Int32.toInt (f144)
              have t158 := congrArg Int32.toInt (f145)
              exact ez_Wp_at ((m_wblock_L14 (fr := fr) (to := to) (pl := pl) (mn := mn) (la := la) S M6 MC hq hr hp hmn hbk hb K (((1000 - x154.toInt)).toNat + 1)) h136 no dy t0 fx sd wy b x154 rm F140 (by omega) A147 A150 A151 A152 A153 (by omega)) rfl
            · have c78 : ¬ (wy.toInt ≠ x77.toInt) := c78
              refine gw_ld rfl rfl ?_
              refine gw_ld rfl rfl ?_
              refine z_gR (q := 106) (zT S61 (by decide) rfl) (zRf S61 (by decide) (by decide) rfl) (by decide) ?_
              refine z_C (m := 288) rfl rfl (fun x159 ex159 => ?_)
              refine gw_ld rfl rfl ?_
              refine z_gR (q := 107) (zT S61 (by decide) rfl) (zRf S61 (by decide) (by decide) rfl) (by decide) ?_
              have t160 := congrArg Int32.toInt (f63)
              have t161 := congrArg Int32.toInt (f65)
              have t162 := congrArg Int32.toInt (f66)
              have t163 := congrArg Int32.toInt (f67)
              refine z_cl rfl rfl rfl rfl rfl rfl rfl rfl rfl rfl rfl (zT S61 (by decide) rfl) ?_
              refine m_codes S61 (n := x159) (show zA 106 288 from fun _ S => ⟨zT S (by decide) rfl, zN S (by decide) rfl⟩) (show zA 107 288 from fun _ S => ⟨zT S (by decide) rfl, zN S (by decide) rfl⟩) (by decide) (by omega) (aR_le A70 (by omega)) (fun h164  F165  => ?_)
              have S166 := zG_sh F165 S61
              have F167 := zG_tr F62 (zG_mono F165 (fun k hk => by first | omega | exact False.elim hk) (fun k hk => by first | omega | exact False.elim hk))
              have f168 : ez_I h164 71 15 = x9 := (zG_f F165 (by decide)).trans (f63)
              have f169 : ez_I h164 71 16 = (ez_I h58 71 16) := (zG_f F165 (by decide)).trans (rfl)
              have f170 : ez_I h164 71 56 = (ez_I h2 71 56) := (zG_f F165 (by decide)).trans (f65)
              have f171 : ez_I h164 71 57 = (ez_I h2 71 57) := (zG_f F165 (by decide)).trans (f66)
              have f172 : ez_I h164 71 58 = (ez_I h2 71 58) := (zG_f F165 (by decide)).trans (f67)
              have A173 : ckI wy.toInt 1 (3 + (wS (ez_I h 77) (ez_I h 78) (ez_I h 79) (ez_I h 92) (ez_I h 94) (ez_I h164 106) (ez_I h 93) (ez_I h164 108) (ez_I h 95) to.toInt.toNat - wS (ez_I h 77) (ez_I h 78) (ez_I h 79) (ez_I h 92) (ez_I h 94) (ez_I h164 106) (ez_I h 93) (ez_I h164 108) (ez_I h 95) fr.toInt.toNat) + (ez_I h164 106 256).toInt) (42 + 8 * mn.toInt) := by rw [zG_fn F165 106 (by decide) (by first | omega | exact fun c => c), zG_fn F165 108 (by decide) (by first | omega | exact fun c => c)]; exact A68
              have A174 : ckI wy.toInt 2 (17 + 3 * t0.toInt + rS (ez_I h164 102) (ez_I h164 117) rm + (wS (ez_I h 77) (ez_I h 78) (ez_I h 79) (ez_I h 92) (ez_I h 94) (ez_I h164 100) (ez_I h 93) (ez_I h164 101) (ez_I h 95) to.toInt.toNat - wS (ez_I h 77) (ez_I h 78) (ez_I h 79) (ez_I h 92) (ez_I h 94) (ez_I h164 100) (ez_I h 93) (ez_I h164 101) (ez_I h 95) fr.toInt.toNat) + (ez_I h164 100 256).toInt) (42 + 8 * mn.toInt) := by rw [zG_fn F165 100 (by decide) (by first | omega | exact fun c => c), zG_fn F165 101 (by decide) (by first | omega | exact fun c => c), zG_fn F165 102 (by decide) (by first | omega | exact fun c => c), zG_fn F165 117 (by decide) (by first | omega | exact fun c => c)]; exact A69
              have A175 : aR (ez_I h164 106) 288 0 15 := by rw [zG_fn F165 106 (by decide) (by first | omega | exact fun c => c)]; exact A70
              have A176 : aR (ez_I h164 108) 30 0 15 := by rw [zG_fn F165 108 (by decide) (by first | omega | exact fun c => c)]; exact A71
              have A177 : aR (ez_I h164 100) 286 0 15 := by rw [zG_fn F165 100 (by decide) (by first | omega | exact fun c => c)]; exact A72
              have A178 : aR (ez_I h164 101) 30 0 15 := by rw [zG_fn F165 101 (by decide) (by first | omega | exact fun c => c)]; exact A73
              have A179 : aR (ez_I h164 102) 19 0 15 := by rw [zG_fn F165 102 (by decide) (by first | omega | exact fun c => c)]; exact A74
              have A180 : aR (ez_I h164 117) rm 0 18 := by rw [zG_fn F165 117 (by decide) (by first | omega | exact fun c => c)]; exact A75
              refine gw_ld rfl rfl ?_
              refine gw_ld rfl rfl ?_
              refine z_gR (q := 108) (zT S166 (by decide) rfl) (zRf S166 (by decide) (by decide) rfl) (by decide) ?_
              refine z_C (m := 30) rfl rfl (fun x181 ex181 => ?_)
              refine gw_ld rfl rfl ?_
              refine z_gR (q := 109) (zT S166 (by decide) rfl) (zRf S166 (by decide) (by decide) rfl) (by decide) ?_
              have t182 := congrArg Int32.toInt (f168)
              have t183 := congrArg Int32.toInt (f169)
              have t184 := congrArg Int32.toInt (f170)
              have t185 := congrArg Int32.toInt (f171)
              have t186 := congrArg Int32.toInt (f172)
              refine z_cl rfl rfl rfl rfl rfl rfl rfl rfl rfl rfl rfl (zT S166 (by decide) rfl) ?_
              refine m_codes S166 (n := x181) (show zA 108 30 from fun _ S => ⟨zT S (by decide) rfl, zN S (by decide) rfl⟩) (show zA 109 30 from fun _ S => ⟨zT S (by decide) rfl, zN S (by decide) rfl⟩) (by decide) (by omega) (aR_le A176 (by omega)) (fun h187  F188  => ?_)
              have S189 := zG_sh F188 S166
              have F190 := zG_tr F167 (zG_mono F188 (fun k hk => by first | omega | exact False.elim hk) (fun k hk => by first | omega | exact False.elim hk))
              have f191 : ez_I h187 71 15 = x9 := (zG_f F188 (by decide)).trans (f168)
              have f192 : ez_I h187 71 16 = (ez_I h58 71 16) := (zG_f F188 (by decide)).trans (f169)
              have f193 : ez_I h187 71 56 = (ez_I h2 71 56) := (zG_f F188 (by decide)).trans (f170)
              have f194 : ez_I h187 71 57 = (ez_I h2 71 57) := (zG_f F188 (by decide)).trans (f171)
              have f195 : ez_I h187 71 58 = (ez_I h2 71 58) := (zG_f F188 (by decide)).trans (f172)
              have A196 : ckI wy.toInt 1 (3 + (wS (ez_I h 77) (ez_I h 78) (ez_I h 79) (ez_I h 92) (ez_I h 94) (ez_I h187 106) (ez_I h 93) (ez_I h187 108) (ez_I h 95) to.toInt.toNat - wS (ez_I h 77) (ez_I h 78) (ez_I h 79) (ez_I h 92) (ez_I h 94) (ez_I h187 106) (ez_I h 93) (ez_I h187 108) (ez_I h 95) fr.toInt.toNat) + (ez_I h187 106 256).toInt) (42 + 8 * mn.toInt) := by rw [zG_fn F188 106 (by decide) (by first | omega | exact fun c => c), zG_fn F188 108 (by decide) (by first | omega | exact fun c => c)]; exact A173
              have A197 : ckI wy.toInt 2 (17 + 3 * t0.toInt + rS (ez_I h187 102) (ez_I h187 117) rm + (wS (ez_I h 77) (ez_I h 78) (ez_I h 79) (ez_I h 92) (ez_I h 94) (ez_I h187 100) (ez_I h 93) (ez_I h187 101) (ez_I h 95) to.toInt.toNat - wS (ez_I h 77) (ez_I h 78) (ez_I h 79) (ez_I h 92) (ez_I h 94) (ez_I h187 100) (ez_I h 93) (ez_I h187 101) (ez_I h 95) fr.toInt.toNat) + (ez_I h187 100 256).toInt) (42 + 8 * mn.toInt) := by rw [zG_fn F188 100 (by decide) (by first | omega | exact fun c => c), zG_fn F188 101 (by decide) (by first | omega | exact fun c => c), zG_fn F188 102 (by decide) (by first | omega | exact fun c => c), zG_fn F188 117 (by decide) (by first | omega | exact fun c => c)]; exact A174
              have A198 : aR (ez_I h187 106) 288 0 15 := by rw [zG_fn F188 106 (by decide) (by first | omega | exact fun c => c)]; exact A175
              have A199 : aR (ez_I h187 108) 30 0 15 := by rw [zG_fn F188 108 (by decide) (by first | omega | exact fun c => c)]; exact A176
              have A200 : aR (ez_I h187 100) 286 0 15 := by rw [zG_fn F188 100 (by decide) (by first | omega | exact fun c => c)]; exact A177
              have A201 : aR (ez_I h187 101) 30 0 15 := by rw [zG_fn F188 101 (by decide) (by first | omega | exact fun c => c)]; exact A178
              have A202 : aR (ez_I h187 102) 19 0 15 := by rw [zG_fn F188 102 (by decide) (by first | omega | exact fun c => c)]; exact A179
              have A203 : aR (ez_I h187 117) rm 0 18 := by rw [zG_fn F188 117 (by decide) (by first | omega | exact fun c => c)]; exact A180
              refine gw_ld rfl rfl ?_
              refine gw_ld rfl rfl ?_
              refine gw_ld rfl rfl ?_
              refine gw_ld rfl rfl ?_
              refine gw_ld rfl rfl ?_
              refine z_gR (q := 106) (zT S189 (by decide) rfl) (zRf S189 (by decide) (by decide) rfl) (by decide) ?_
              refine gw_ld rfl rfl ?_
              refine z_gR (q := 107) (zT S189 (by decide) rfl) (zRf S189 (by decide) (by decide) rfl) (by decide) ?_
              refine gw_ld rfl rfl ?_
              refine z_gR (q := 108) (zT S189 (by decide) rfl) (zRf S189 (by decide) (by decide) rfl) (by decide) ?_
              refine gw_ld rfl rfl ?_
              refine z_gR (q := 109) (zT S189 (by decide) rfl) (zRf S189 (by decide) (by decide) rfl) (by decide) ?_
              have t204 := congrArg Int32.toInt (f191)
              have t205 := congrArg Int32.toInt (f192)
              have t206 := congrArg Int32.toInt (f193)
              have t207 := congrArg Int32.toInt (f194)
              have t208 := congrArg Int32.toInt (f195)
              refine z_cl rfl rfl rfl rfl rfl rfl rfl rfl rfl rfl rfl (zT S189 (by decide) rfl) ?_
              have k211_c := ckI_use A196 (by omega)
              refine m_wp (n := n) (fr := fr) (to := to) (pl := pl) S189 (show zA 106 288 from fun _ S => ⟨zT S (by decide) rfl, zN S (by decide) rfl⟩) (show zA 107 288 from fun _ S => ⟨zT S (by decide) rfl, zN S (by decide) rfl⟩) (show zA 108 30 from fun _ S => ⟨zT S (by decide) rfl, zN S (by decide) rfl⟩) (show zA 109 30 from fun _ S => ⟨zT S (by decide) rfl, zN S (by decide) rfl⟩) (by decide) (aR_le A198 (by omega)) (aR_le A199 (by omega)) (by rw [zG_f F190 (k := 6) (by decide)]; exact M6) (cC_G MC F190 (fun q hq => by omega)) (by rw [zG_fn F190 77 (by decide) (by decide), zG_fn F190 78 (by decide) (by decide), zG_fn F190 79 (by decide) (by decide), zG_fn F190 72 (by decide) (by decide), zG_f F190 (k := 6) (by decide)]; exact hq) (by omega) (by rw [zG_fn F190 77 (by decide) (by decide)]; exact hp) (by rw [zG_fn F190 77 (by decide) (by decide), zG_fn F190 78 (by decide) (by decide), zG_fn F190 79 (by decide) (by decide), zG_fn F190 92 (by decide) (by decide), zG_fn F190 94 (by decide) (by decide), zG_fn F190 93 (by decide) (by decide), zG_fn F190 95 (by decide) (by decide)]; omega) (fun h209 F210 k211 k212 => ?_)
              rw [zG_fn F190 77 (by decide) (by decide), zG_fn F190 78 (by decide) (by decide), zG_fn F190 79 (by decide) (by decide), zG_fn F190 92 (by decide) (by decide), zG_fn F190 94 (by decide) (by decide), zG_fn F190 93 (by decide) (by decide), zG_fn F190 95 (by decide) (by decide)] at k211
              have S213 := zG_sh F210 S189
              have F214 := zG_tr F190 (zG_mono F210 (fun k hk => by first | omega | exact False.elim hk) (fun k hk => by first | omega | exact False.elim hk))
              have f215 : ez_I h209 71 15 = x9 := (zG_f F210 (by decide)).trans (f191)
              have r216 := z_rng (ez_I h209 71 16)
              have f217 : ez_I h209 71 56 = (ez_I h2 71 56) := (zG_f F210 (by decide)).trans (f193)
              have f218 : ez_I h209 71 57 = (ez_I h2 71 57) := (zG_f F210 (by decide)).trans (f194)
              have f219 : ez_I h209 71 58 = (ez_I h2 71 58) := (zG_f F210 (by decide)).trans (f195)
              have A220 : ckI wy.toInt 1 (3 + (wS (ez_I h 77) (ez_I h 78) (ez_I h 79) (ez_I h 92) (ez_I h 94) (ez_I h209 106) (ez_I h 93) (ez_I h209 108) (ez_I h 95) to.toInt.toNat - wS (ez_I h 77) (ez_I h 78) (ez_I h 79) (ez_I h 92) (ez_I h 94) (ez_I h209 106) (ez_I h 93) (ez_I h209 108) (ez_I h 95) fr.toInt.toNat) + (ez_I h209 106 256).toInt) (42 + 8 * mn.toInt) := by rw [zG_fn F210 106 (by decide) (by first | omega | exact fun c => c), zG_fn F210 108 (by decide) (by first | omega | exact fun c => c)]; exact A196
              have A221 : ckI wy.toInt 2 (17 + 3 * t0.toInt + rS (ez_I h209 102) (ez_I h209 117) rm + (wS (ez_I h 77) (ez_I h 78) (ez_I h 79) (ez_I h 92) (ez_I h 94) (ez_I h209 100) (ez_I h 93) (ez_I h209 101) (ez_I h 95) to.toInt.toNat - wS (ez_I h 77) (ez_I h 78) (ez_I h 79) (ez_I h 92) (ez_I h 94) (ez_I h209 100) (ez_I h 93) (ez_I h209 101) (ez_I h 95) fr.toInt.toNat) + (ez_I h209 100 256).toInt) (42 + 8 * mn.toInt) := by rw [zG_fn F210 100 (by decide) (by first | omega | exact fun c => c), zG_fn F210 101 (by decide) (by first | omega | exact fun c => c), zG_fn F210 102 (by decide) (by first | omega | exact fun c => c), zG_fn F210 117 (by decide) (by first | omega | exact fun c => c)]; exact A197
              have A222 : aR (ez_I h209 106) 288 0 15 := by rw [zG_fn F210 106 (by decide) (by first | omega | exact fun c => c)]; exact A198
              have A223 : aR (ez_I h209 108) 30 0 15 := by rw [zG_fn F210 108 (by decide) (by first | omega | exact fun c => c)]; exact A199
              have A224 : aR (ez_I h209 100) 286 0 15 := by rw [zG_fn F210 100 (by decide) (by first | omega | exact fun c => c)]; exact A200
              have A225 : aR (ez_I h209 101) 30 0 15 := by rw [zG_fn F210 101 (by decide) (by first | omega | exact fun c => c)]; exact A201
              have A226 : aR (ez_I h209 102) 19 0 15 := by rw [zG_fn F210 102 (by decide) (by first | omega | exact fun c => c)]; exact A202
              have A227 : aR (ez_I h209 117) rm 0 18 := by rw [zG_fn F210 117 (by decide) (by first | omega | exact fun c => c)]; exact A203
              refine z_go ?_
              refine gw_skip _ ?_
              refine z_rv ?_
              have t228 := congrArg Int32.toInt (f215)
              have t229 := congrArg Int32.toInt (f217)
              have t230 := congrArg Int32.toInt (f218)
              have t231 := congrArg Int32.toInt (f219)
              exact K _ F214 (by omega)
          · have c76 : ¬ (wy.toInt ≠ 0) := c76
            have t232 := congrArg Int32.toInt (f63)
            have t233 := congrArg Int32.toInt (f65)
            have t234 := congrArg Int32.toInt (f66)
            have t235 := congrArg Int32.toInt (f67)
            exact ez_Wp_at ((m_wblock_L12 (fr := fr) (to := to) (pl := pl) (mn := mn) (la := la) S M6 MC hq hr hp hmn hbk hb K (((70000 - (ez_I h58 71 16).toInt)).toNat + 1)) h58 no dy t0 fx sd wy b k F62 (by omega)  (by omega)) rfl
        · have c27 : ¬ (la.toInt = 0) := c27
          refine z_C (m := 1) rfl rfl (fun x236 ex236 => ?_)
          refine z_go ?_
          refine gw_skip _ ?_
          refine z_C (m := 1) rfl rfl (fun x237 ex237 => ?_)
          have t238 := congrArg Int32.toInt (f14)
          have t239 := congrArg Int32.toInt (f15)
          have t240 := congrArg Int32.toInt (f16)
          have t241 := congrArg Int32.toInt (f17)
          have t242 := congrArg Int32.toInt (f18)
          refine z_cl rfl rfl rfl rfl rfl rfl rfl rfl rfl rfl rfl (zT S12 (by decide) rfl) ?_
          refine m_wb S12 (v := x236) (n := x237) (by omega) (fun h243  F244 k245 => ?_)
          have S246 := zG_sh F244 S12
          have F247 := zG_tr F13 (zG_mono F244 (fun k hk => by first | omega | exact False.elim hk) (fun k hk => by first | omega | exact False.elim hk))
          have f248 : ez_I h243 71 15 = x9 := (zG_f F244 (by decide)).trans (f14)
          have r249 := z_rng (ez_I h243 71 16)
          have f250 : ez_I h243 71 56 = (ez_I h2 71 56) := (zG_f F244 (by decide)).trans (f16)
          have f251 : ez_I h243 71 57 = (ez_I h2 71 57) := (zG_f F244 (by decide)).trans (f17)
          have f252 : ez_I h243 71 58 = (ez_I h2 71 58) := (zG_f F244 (by decide)).trans (f18)
          have A253 : ckI wy.toInt 1 (3 + (wS (ez_I h 77) (ez_I h 78) (ez_I h 79) (ez_I h 92) (ez_I h 94) (ez_I h243 106) (ez_I h 93) (ez_I h243 108) (ez_I h 95) to.toInt.toNat - wS (ez_I h 77) (ez_I h 78) (ez_I h 79) (ez_I h 92) (ez_I h 94) (ez_I h243 106) (ez_I h 93) (ez_I h243 108) (ez_I h 95) fr.toInt.toNat) + (ez_I h243 106 256).toInt) (42 + 8 * mn.toInt) := by rw [zG_fn F244 106 (by decide) (by first | omega | exact fun c => c), zG_fn F244 108 (by decide) (by first | omega | exact fun c => c)]; exact A19
          have A254 : ckI wy.toInt 2 (17 + 3 * t0.toInt + rS (ez_I h243 102) (ez_I h243 117) rm + (wS (ez_I h 77) (ez_I h 78) (ez_I h 79) (ez_I h 92) (ez_I h 94) (ez_I h243 100) (ez_I h 93) (ez_I h243 101) (ez_I h 95) to.toInt.toNat - wS (ez_I h 77) (ez_I h 78) (ez_I h 79) (ez_I h 92) (ez_I h 94) (ez_I h243 100) (ez_I h 93) (ez_I h243 101) (ez_I h 95) fr.toInt.toNat) + (ez_I h243 100 256).toInt) (42 + 8 * mn.toInt) := by rw [zG_fn F244 100 (by decide) (by first | omega | exact fun c => c), zG_fn F244 101 (by decide) (by first | omega | exact fun c => c), zG_fn F244 102 (by decide) (by first | omega | exact fun c => c), zG_fn F244 117 (by decide) (by first | omega | exact fun c => c)]; exact A20
          have A255 : aR (ez_I h243 106) 288 0 15 := by rw [zG_fn F244 106 (by decide) (by first | omega | exact fun c => c)]; exact A21
          have A256 : aR (ez_I h243 108) 30 0 15 := by rw [zG_fn F244 108 (by decide) (by first | omega | exact fun c => c)]; exact A22
          have A257 : aR (ez_I h243 100) 286 0 15 := by rw [zG_fn F244 100 (by decide) (by first | omega | exact fun c => c)]; exact A23
          have A258 : aR (ez_I h243 101) 30 0 15 := by rw [zG_fn F244 101 (by decide) (by first | omega | exact fun c => c)]; exact A24
          have A259 : aR (ez_I h243 102) 19 0 15 := by rw [zG_fn F244 102 (by decide) (by first | omega | exact fun c => c)]; exact A25
          have A260 : aR (ez_I h243 117) rm 0 18 := by rw [zG_fn F244 117 (by decide) (by first | omega | exact fun c => c)]; exact A26
          refine gw_ld rfl rfl ?_
          refine gw_ld rfl rfl ?_
          refine z_C (m := 2) rfl rfl (fun x261 ex261 => ?_)
          have t262 := congrArg Int32.toInt (f248)
          have t263 := congrArg Int32.toInt (f250)
          have t264 := congrArg Int32.toInt (f251)
          have t265 := congrArg Int32.toInt (f252)
          refine z_cl rfl rfl rfl rfl rfl rfl rfl rfl rfl rfl rfl (zT S246 (by decide) rfl) ?_
          refine m_wb S246 (v := wy) (n := x261) (by omega) (fun h266  F267 k268 => ?_)
          have S269 := zG_sh F267 S246
          have F270 := zG_tr F247 (zG_mono F267 (fun k hk => by first | omega | exact False.elim hk) (fun k hk => by first | omega | exact False.elim hk))
          have f271 : ez_I h266 71 15 = x9 := (zG_f F267 (by decide)).trans (f248)
          have r272 := z_rng (ez_I h266 71 16)
          have f273 : ez_I h266 71 56 = (ez_I h2 71 56) := (zG_f F267 (by decide)).trans (f250)
          have f274 : ez_I h266 71 57 = (ez_I h2 71 57) := (zG_f F267 (by decide)).trans (f251)
          have f275 : ez_I h266 71 58 = (ez_I h2 71 58) := (zG_f F267 (by decide)).trans (f252)
          have A276 : ckI wy.toInt 1 (3 + (wS (ez_I h 77) (ez_I h 78) (ez_I h 79) (ez_I h 92) (ez_I h 94) (ez_I h266 106) (ez_I h 93) (ez_I h266 108) (ez_I h 95) to.toInt.toNat - wS (ez_I h 77) (ez_I h 78) (ez_I h 79) (ez_I h 92) (ez_I h 94) (ez_I h266 106) (ez_I h 93) (ez_I h266 108) (ez_I h 95) fr.toInt.toNat) + (ez_I h266 106 256).toInt) (42 + 8 * mn.toInt) := by rw [zG_fn F267 106 (by decide) (by first | omega | exact fun c => c), zG_fn F267 108 (by decide) (by first | omega | exact fun c => c)]; exact A253
          have A277 : ckI wy.toInt 2 (17 + 3 * t0.toInt + rS (ez_I h266 102) (ez_I h266 117) rm + (wS (ez_I h 77) (ez_I h 78) (ez_I h 79) (ez_I h 92) (ez_I h 94) (ez_I h266 100) (ez_I h 93) (ez_I h266 101) (ez_I h 95) to.toInt.toNat - wS (ez_I h 77) (ez_I h 78) (ez_I h 79) (ez_I h 92) (ez_I h 94) (ez_I h266 100) (ez_I h 93) (ez_I h266 101) (ez_I h 95) fr.toInt.toNat) + (ez_I h266 100 256).toInt) (42 + 8 * mn.toInt) := by rw [zG_fn F267 100 (by decide) (by first | omega | exact fun c => c), zG_fn F267 101 (by decide) (by first | omega | exact fun c => c), zG_fn F267 102 (by decide) (by first | omega | exact fun c => c), zG_fn F267 117 (by decide) (by first | omega | exact fun c => c)]; exact A254
          have A278 : aR (ez_I h266 106) 288 0 15 := by rw [zG_fn F267 106 (by decide) (by first | omega | exact fun c => c)]; exact A255
          have A279 : aR (ez_I h266 108) 30 0 15 := by rw [zG_fn F267 108 (by decide) (by first | omega | exact fun c => c)]; exact A256
          have A280 : aR (ez_I h266 100) 286 0 15 := by rw [zG_fn F267 100 (by decide) (by first | omega | exact fun c => c)]; exact A257
          have A281 : aR (ez_I h266 101) 30 0 15 := by rw [zG_fn F267 101 (by decide) (by first | omega | exact fun c => c)]; exact A258
          have A282 : aR (ez_I h266 102) 19 0 15 := by rw [zG_fn F267 102 (by decide) (by first | omega | exact fun c => c)]; exact A259
          have A283 : aR (ez_I h266 117) rm 0 18 := by rw [zG_fn F267 117 (by decide) (by first | omega | exact fun c => c)]; exact A260
          refine gw_ld rfl rfl ?_
          refine z_b1 (fun c284 => ?_) (fun c284 => ?_)
          · have c284 : wy.toInt ≠ 0 := c284
            refine gw_skip _ ?_
            refine gw_ld rfl rfl ?_
            refine z_C (m := 1) rfl rfl (fun x285 ex285 => ?_)
            refine z_b2 (fun c286 => ?_) (fun c286 => ?_)
            · have c286 : wy.toInt ≠ x285.toInt := c286
              refine gw_skip _ ?_
              refine gw_ld rfl rfl ?_
              refine gw_ld rfl rfl ?_
              refine z_gI2 (by decide) (zT S269 (by decide) rfl) (f274) ?_
              refine z_C (m := 257) rfl rfl (fun x287 ex287 => ?_)
              refine z_sub (by omega) (fun x288 ex288 => ?_)
              refine z_C (m := 5) rfl rfl (fun x289 ex289 => ?_)
              have t290 := congrArg Int32.toInt (f271)
              have t291 := congrArg Int32.toInt (f273)
              have t292 := congrArg Int32.toInt (f274)
              have t293 := congrArg Int32.toInt (f275)
              refine z_cl rfl rfl rfl rfl rfl rfl rfl rfl rfl rfl rfl (zT S269 (by decide) rfl) ?_
              refine m_wb S269 (v := x288) (n := x289) (by omega) (fun h294  F295 k296 => ?_)
              have S297 := zG_sh F295 S269
              have F298 := zG_tr F270 (zG_mono F295 (fun k hk => by first | omega | exact False.elim hk) (fun k hk => by first | omega | exact False.elim hk))
              have f299 : ez_I h294 71 15 = x9 := (zG_f F295 (by decide)).trans (f271)
              have r300 := z_rng (ez_I h294 71 16)
              have f301 : ez_I h294 71 56 = (ez_I h2 71 56) := (zG_f F295 (by decide)).trans (f273)
              have f302 : ez_I h294 71 57 = (ez_I h2 71 57) := (zG_f F295 (by decide)).trans (f274)
              have f303 : ez_I h294 71 58 = (ez_I h2 71 58) := (zG_f F295 (by decide)).trans (f275)
              have A304 : ckI wy.toInt 1 (3 + (wS (ez_I h 77) (ez_I h 78) (ez_I h 79) (ez_I h 92) (ez_I h 94) (ez_I h294 106) (ez_I h 93) (ez_I h294 108) (ez_I h 95) to.toInt.toNat - wS (ez_I h 77) (ez_I h 78) (ez_I h 79) (ez_I h 92) (ez_I h 94) (ez_I h294 106) (ez_I h 93) (ez_I h294 108) (ez_I h 95) fr.toInt.toNat) + (ez_I h294 106 256).toInt) (42 + 8 * mn.toInt) := by rw [zG_fn F295 106 (by decide) (by first | omega | exact fun c => c), zG_fn F295 108 (by decide) (by first | omega | exact fun c => c)]; exact A276
              have A305 : ckI wy.toInt 2 (17 + 3 * t0.toInt + rS (ez_I h294 102) (ez_I h294 117) rm + (wS (ez_I h 77) (ez_I h 78) (ez_I h 79) (ez_I h 92) (ez_I h 94) (ez_I h294 100) (ez_I h 93) (ez_I h294 101) (ez_I h 95) to.toInt.toNat - wS (ez_I h 77) (ez_I h 78) (ez_I h 79) (ez_I h 92) (ez_I h 94) (ez_I h294 100) (ez_I h 93) (ez_I h294 101) (ez_I h 95) fr.toInt.toNat) + (ez_I h294 100 256).toInt) (42 + 8 * mn.toInt) := by rw [zG_fn F295 100 (by decide) (by first | omega | exact fun c => c), zG_fn F295 101 (by decide) (by first | omega | exact fun c => c), zG_fn F295 102 (by decide) (by first | omega | exact fun c => c), zG_fn F295 117 (by decide) (by first | omega | exact fun c => c)]; exact A277
              have A306 : aR (ez_I h294 106) 288 0 15 := by rw [zG_fn F295 106 (by decide) (by first | omega | exact fun c => c)]; exact A278
              have A307 : aR (ez_I h294 108) 30 0 15 := by rw [zG_fn F295 108 (by decide) (by first | omega | exact fun c => c)]; exact A279
              have A308 : aR (ez_I h294 100) 286 0 15 := by rw [zG_fn F295 100 (by decide) (by first | omega | exact fun c => c)]; exact A280
              have A309 : aR (ez_I h294 101) 30 0 15 := by rw [zG_fn F295 101 (by decide) (by first | omega | exact fun c => c)]; exact A281
              have A310 : aR (ez_I h294 102) 19 0 15 := by rw [zG_fn F295 102 (by decide) (by first | omega | exact fun c => c)]; exact A282
              have A311 : aR (ez_I h294 117) rm 0 18 := by rw [zG_fn F295 117 (by decide) (by first | omega | exact fun c => c)]; exact A283
              refine gw_ld rfl rfl ?_
              refine gw_ld rfl rfl ?_
              refine z_gI2 (by decide) (zT S297 (by decide) rfl) (f303) ?_
              refine z_C (m := 1) rfl rfl (fun x312 ex312 => ?_)
              refine z_sub (by omega) (fun x313 ex313 => ?_)
              refine z_C (m := 5) rfl rfl (fun x314 ex314 => ?_)
              have t315 := congrArg Int32.toInt (f299)
              have t316 := congrArg Int32.toInt (f301)
              have t317 := congrArg Int32.toInt (f302)
              have t318 := congrArg Int32.toInt (f303)
              refine z_cl rfl rfl rfl rfl rfl rfl rfl rfl rfl rfl rfl (zT S297 (by decide) rfl) ?_
              refine m_wb S297 (v := x313) (n := x314) (by omega) (fun h319  F320 k321 => ?_)
              have S322 := zG_sh F320 S297
              have F323 := zG_tr F298 (zG_mono F320 (fun k hk => by first | omega | exact False.elim hk) (fun k hk => by first | omega | exact False.elim hk))
              have f324 : ez_I h319 71 15 = x9 := (zG_f F320 (by decide)).trans (f299)
              have r325 := z_rng (ez_I h319 71 16)
              have f326 : ez_I h319 71 56 = (ez_I h2 71 56) := (zG_f F320 (by decide)).trans (f301)
              have f327 : ez_I h319 71 57 = (ez_I h2 71 57) := (zG_f F320 (by decide)).trans (f302)
              have f328 : ez_I h319 71 58 = (ez_I h2 71 58) := (zG_f F320 (by decide)).trans (f303)
              have A329 : ckI wy.toInt 1 (3 + (wS (ez_I h 77) (ez_I h 78) (ez_I h 79) (ez_I h 92) (ez_I h 94) (ez_I h319 106) (ez_I h 93) (ez_I h319 108) (ez_I h 95) to.toInt.toNat - wS (ez_I h 77) (ez_I h 78) (ez_I h 79) (ez_I h 92) (ez_I h 94) (ez_I h319 106) (ez_I h 93) (ez_I h319 108) (ez_I h 95) fr.toInt.toNat) + (ez_I h319 106 256).toInt) (42 + 8 * mn.toInt) := by rw [zG_fn F320 106 (by decide) (by first | omega | exact fun c => c), zG_fn F320 108 (by decide) (by first | omega | exact fun c => c)]; exact A304
              have A330 : ckI wy.toInt 2 (17 + 3 * t0.toInt + rS (ez_I h319 102) (ez_I h319 117) rm + (wS (ez_I h 77) (ez_I h 78) (ez_I h 79) (ez_I h 92) (ez_I h 94) (ez_I h319 100) (ez_I h 93) (ez_I h319 101) (ez_I h 95) to.toInt.toNat - wS (ez_I h 77) (ez_I h 78) (ez_I h 79) (ez_I h 92) (ez_I h 94) (ez_I h319 100) (ez_I h 93) (ez_I h319 101) (ez_I h 95) fr.toInt.toNat) + (ez_I h319 100 256).toInt) (42 + 8 * mn.toInt) := by rw [zG_fn F320 100 (by decide) (by first | omega | exact fun c => c), zG_fn F320 101 (by decide) (by first | omega | exact fun c => c), zG_fn F320 102 (by decide) (by first | omega | exact fun c => c), zG_fn F320 117 (by decide) (by first | omega | exact fun c => c)]; exact A305
              have A331 : aR (ez_I h319 106) 288 0 15 := by rw [zG_fn F320 106 (by decide) (by first | omega | exact fun c => c)]; exact A306
              have A332 : aR (ez_I h319 108) 30 0 15 := by rw [zG_fn F320 108 (by decide) (by first | omega | exact fun c => c)]; exact A307
              have A333 : aR (ez_I h319 100) 286 0 15 := by rw [zG_fn F320 100 (by decide) (by first | omega | exact fun c => c)]; exact A308
              have A334 : aR (ez_I h319 101) 30 0 15 := by rw [zG_fn F320 101 (by decide) (by first | omega | exact fun c => c)]; exact A309
              have A335 : aR (ez_I h319 102) 19 0 15 := by rw [zG_fn F320 102 (by decide) (by first | omega | exact fun c => c)]; exact A310
              have A336 : aR (ez_I h319 117) rm 0 18 := by rw [zG_fn F320 117 (by decide) (by first | omega | exact fun c => c)]; exact A311
              refine gw_ld rfl rfl ?_
              refine gw_ld rfl rfl ?_
              refine z_C (m := 4) rfl rfl (fun x337 ex337 => ?_)
              refine z_sub (by omega) (fun x338 ex338 => ?_)
              refine z_C (m := 4) rfl rfl (fun x339 ex339 => ?_)
              have t340 := congrArg Int32.toInt (f324)
              have t341 := congrArg Int32.toInt (f326)
              have t342 := congrArg Int32.toInt (f327)
              have t343 := congrArg Int32.toInt (f328)
              refine z_cl rfl rfl rfl rfl rfl rfl rfl rfl rfl rfl rfl (zT S322 (by decide) rfl) ?_
              refine m_wb S322 (v := x338) (n := x339) (by omega) (fun h344  F345 k346 => ?_)
              have S347 := zG_sh F345 S322
              have F348 := zG_tr F323 (zG_mono F345 (fun k hk => by first | omega | exact False.elim hk) (fun k hk => by first | omega | exact False.elim hk))
              have f349 : ez_I h344 71 15 = x9 := (zG_f F345 (by decide)).trans (f324)
              have r350 := z_rng (ez_I h344 71 16)
              have f351 : ez_I h344 71 56 = (ez_I h2 71 56) := (zG_f F345 (by decide)).trans (f326)
              have f352 : ez_I h344 71 57 = (ez_I h2 71 57) := (zG_f F345 (by decide)).trans (f327)
              have f353 : ez_I h344 71 58 = (ez_I h2 71 58) := (zG_f F345 (by decide)).trans (f328)
              have A354 : ckI wy.toInt 1 (3 + (wS (ez_I h 77) (ez_I h 78) (ez_I h 79) (ez_I h 92) (ez_I h 94) (ez_I h344 106) (ez_I h 93) (ez_I h344 108) (ez_I h 95) to.toInt.toNat - wS (ez_I h 77) (ez_I h 78) (ez_I h 79) (ez_I h 92) (ez_I h 94) (ez_I h344 106) (ez_I h 93) (ez_I h344 108) (ez_I h 95) fr.toInt.toNat) + (ez_I h344 106 256).toInt) (42 + 8 * mn.toInt) := by rw [zG_fn F345 106 (by decide) (by first | omega | exact fun c => c), zG_fn F345 108 (by decide) (by first | omega | exact fun c => c)]; exact A329
              have A355 : ckI wy.toInt 2 (17 + 3 * t0.toInt + rS (ez_I h344 102) (ez_I h344 117) rm + (wS (ez_I h 77) (ez_I h 78) (ez_I h 79) (ez_I h 92) (ez_I h 94) (ez_I h344 100) (ez_I h 93) (ez_I h344 101) (ez_I h 95) to.toInt.toNat - wS (ez_I h 77) (ez_I h 78) (ez_I h 79) (ez_I h 92) (ez_I h 94) (ez_I h344 100) (ez_I h 93) (ez_I h344 101) (ez_I h 95) fr.toInt.toNat) + (ez_I h344 100 256).toInt) (42 + 8 * mn.toInt) := by rw [zG_fn F345 100 (by decide) (by first | omega | exact fun c => c), zG_fn F345 101 (by decide) (by first | omega | exact fun c => c), zG_fn F345 102 (by decide) (by first | omega | exact fun c => c), zG_fn F345 117 (by decide) (by first | omega | exact fun c => c)]; exact A330
              have A356 : aR (ez_I h344 106) 288 0 15 := by rw [zG_fn F345 106 (by decide) (by first | omega | exact fun c => c)]; exact A331
              have A357 : aR (ez_I h344 108) 30 0 15 := by rw [zG_fn F345 108 (by decide) (by first | omega | exact fun c => c)]; exact A332
              have A358 : aR (ez_I h344 100) 286 0 15 := by rw [zG_fn F345 100 (by decide) (by first | omega | exact fun c => c)]; exact A333
              have A359 : aR (ez_I h344 101) 30 0 15 := by rw [zG_fn F345 101 (by decide) (by first | omega | exact fun c => c)]; exact A334
              have A360 : aR (ez_I h344 102) 19 0 15 := by rw [zG_fn F345 102 (by decide) (by first | omega | exact fun c => c)]; exact A335
              have A361 : aR (ez_I h344 117) rm 0 18 := by rw [zG_fn F345 117 (by decide) (by first | omega | exact fun c => c)]; exact A336
              refine z_C (m := 0) rfl rfl (fun x362 ex362 => ?_)
              refine gw_st rfl rfl rfl ?_
              show ez_gw _ _ _ _ _ _ _ _ [some (.ref 71), some (.int fr), some (.int to), some (.int pl), some (.int mn), some (.int la), some (.int no), some (.long dy), none, some (.int t0), some (.long fx), none, some (.long sd), none, some (.int wy), some (.int b), some (.int x362)] _ _ _
              have t363 := congrArg Int32.toInt (f349)
              have t364 := congrArg Int32.toInt (f351)
              have t365 := congrArg Int32.toInt (f352)
              have t366 := congrArg Int32.toInt (f353)
              exact ez_Wp_at ((m_wblock_L14 (fr := fr) (to := to) (pl := pl) (mn := mn) (la := la) S M6 MC hq hr hp hmn hbk hb K (((1000 - x362.toInt)).toNat + 1)) h344 no dy t0 fx sd wy b x362 rm F348 (by omega) A355 A358 A359 A360 A361 (by omega)) rfl
            · have c286 : ¬ (wy.toInt ≠ x285.toInt) := c286
              refine gw_ld rfl rfl ?_
              refine gw_ld rfl rfl ?_
              refine z_gR (q := 106) (zT S269 (by decide) rfl) (zRf S269 (by decide) (by decide) rfl) (by decide) ?_
              refine z_C (m := 288) rfl rfl (fun x367 ex367 => ?_)
              refine gw_ld rfl rfl ?_
              refine z_gR (q := 107) (zT S269 (by decide) rfl) (zRf S269 (by decide) (by decide) rfl) (by decide) ?_
              have t368 := congrArg Int32.toInt (f271)
              have t369 := congrArg Int32.toInt (f273)
              have t370 := congrArg Int32.toInt (f274)
              have t371 := congrArg Int32.toInt (f275)
              refine z_cl rfl rfl rfl rfl rfl rfl rfl rfl rfl rfl rfl (zT S269 (by decide) rfl) ?_
              refine m_codes S269 (n := x367) (show zA 106 288 from fun _ S => ⟨zT S (by decide) rfl, zN S (by decide) rfl⟩) (show zA 107 288 from fun _ S => ⟨zT S (by decide) rfl, zN S (by decide) rfl⟩) (by decide) (by omega) (aR_le A278 (by omega)) (fun h372  F373  => ?_)
              have S374 := zG_sh F373 S269
              have F375 := zG_tr F270 (zG_mono F373 (fun k hk => by first | omega | exact False.elim hk) (fun k hk => by first | omega | exact False.elim hk))
              have f376 : ez_I h372 71 15 = x9 := (zG_f F373 (by decide)).trans (f271)
              have f377 : ez_I h372 71 16 = (ez_I h266 71 16) := (zG_f F373 (by decide)).trans (rfl)
              have f378 : ez_I h372 71 56 = (ez_I h2 71 56) := (zG_f F373 (by decide)).trans (f273)
              have f379 : ez_I h372 71 57 = (ez_I h2 71 57) := (zG_f F373 (by decide)).trans (f274)
              have f380 : ez_I h372 71 58 = (ez_I h2 71 58) := (zG_f F373 (by decide)).trans (f275)
              have A381 : ckI wy.toInt 1 (3 + (wS (ez_I h 77) (ez_I h 78) (ez_I h 79) (ez_I h 92) (ez_I h 94) (ez_I h372 106) (ez_I h 93) (ez_I h372 108) (ez_I h 95) to.toInt.toNat - wS (ez_I h 77) (ez_I h 78) (ez_I h 79) (ez_I h 92) (ez_I h 94) (ez_I h372 106) (ez_I h 93) (ez_I h372 108) (ez_I h 95) fr.toInt.toNat) + (ez_I h372 106 256).toInt) (42 + 8 * mn.toInt) := by rw [zG_fn F373 106 (by decide) (by first | omega | exact fun c => c), zG_fn F373 108 (by decide) (by first | omega | exact fun c => c)]; exact A276
              have A382 : ckI wy.toInt 2 (17 + 3 * t0.toInt + rS (ez_I h372 102) (ez_I h372 117) rm + (wS (ez_I h 77) (ez_I h 78) (ez_I h 79) (ez_I h 92) (ez_I h 94) (ez_I h372 100) (ez_I h 93) (ez_I h372 101) (ez_I h 95) to.toInt.toNat - wS (ez_I h 77) (ez_I h 78) (ez_I h 79) (ez_I h 92) (ez_I h 94) (ez_I h372 100) (ez_I h 93) (ez_I h372 101) (ez_I h 95) fr.toInt.toNat) + (ez_I h372 100 256).toInt) (42 + 8 * mn.toInt) := by rw [zG_fn F373 100 (by decide) (by first | omega | exact fun c => c), zG_fn F373 101 (by decide) (by first | omega | exact fun c => c), zG_fn F373 102 (by decide) (by first | omega | exact fun c => c), zG_fn F373 117 (by decide) (by first | omega | exact fun c => c)]; exact A277
              have A383 : aR (ez_I h372 106) 288 0 15 := by rw [zG_fn F373 106 (by decide) (by first | omega | exact fun c => c)]; exact A278
              have A384 : aR (ez_I h372 108) 30 0 15 := by rw [zG_fn F373 108 (by decide) (by first | omega | exact fun c => c)]; exact A279
              have A385 : aR (ez_I h372 100) 286 0 15 := by rw [zG_fn F373 100 (by decide) (by first | omega | exact fun c => c)]; exact A280
              have A386 : aR (ez_I h372 101) 30 0 15 := by rw [zG_fn F373 101 (by decide) (by first | omega | exact fun c => c)]; exact A281
              have A387 : aR (ez_I h372 102) 19 0 15 := by rw [zG_fn F373 102 (by decide) (by first | omega | exact fun c => c)]; exact A282
              have A388 : aR (ez_I h372 117) rm 0 18 := by rw [zG_fn F373 117 (by decide) (by first | omega | exact fun c => c)]; exact A283
              refine gw_ld rfl rfl ?_
              refine gw_ld rfl rfl ?_
              refine z_gR (q := 108) (zT S374 (by decide) rfl) (zRf S374 (by decide) (by decide) rfl) (by decide) ?_
              refine z_C (m := 30) rfl rfl (fun x389 ex389 => ?_)
              refine gw_ld rfl rfl ?_
              refine z_gR (q := 109) (zT S374 (by decide) rfl) (zRf S374 (by decide) (by decide) rfl) (by decide) ?_
              have t390 := congrArg Int32.toInt (f376)
              have t391 := congrArg Int32.toInt (f377)
              have t392 := congrArg Int32.toInt (f378)
              have t393 := congrArg Int32.toInt (f379)
              have t394 := congrArg Int32.toInt (f380)
              refine z_cl rfl rfl rfl rfl rfl rfl rfl rfl rfl rfl rfl (zT S374 (by decide) rfl) ?_
              refine m_codes S374 (n := x389) (show zA 108 30 from fun _ S => ⟨zT S (by decide) rfl, zN S (by decide) rfl⟩) (show zA 109 30 from fun _ S => ⟨zT S (by decide) rfl, zN S (by decide) rfl⟩) (by decide) (by omega) (aR_le A384 (by omega)) (fun h395  F396  => ?_)
              have S397 := zG_sh F396 S374
              have F398 := zG_tr F375 (zG_mono F396 (fun k hk => by first | omega | exact False.elim hk) (fun k hk => by first | omega | exact False.elim hk))
              have f399 : ez_I h395 71 15 = x9 := (zG_f F396 (by decide)).trans (f376)
              have f400 : ez_I h395 71 16 = (ez_I h266 71 16) := (zG_f F396 (by decide)).trans (f377)
              have f401 : ez_I h395 71 56 = (ez_I h2 71 56) := (zG_f F396 (by decide)).trans (f378)
              have f402 : ez_I h395 71 57 = (ez_I h2 71 57) := (zG_f F396 (by decide)).trans (f379)
              have f403 : ez_I h395 71 58 = (ez_I h2 71 58) := (zG_f F396 (by decide)).trans (f380)
              have A404 : ckI wy.toInt 1 (3 + (wS (ez_I h 77) (ez_I h 78) (ez_I h 79) (ez_I h 92) (ez_I h 94) (ez_I h395 106) (ez_I h 93) (ez_I h395 108) (ez_I h 95) to.toInt.toNat - wS (ez_I h 77) (ez_I h 78) (ez_I h 79) (ez_I h 92) (ez_I h 94) (ez_I h395 106) (ez_I h 93) (ez_I h395 108) (ez_I h 95) fr.toInt.toNat) + (ez_I h395 106 256).toInt) (42 + 8 * mn.toInt) := by rw [zG_fn F396 106 (by decide) (by first | omega | exact fun c => c), zG_fn F396 108 (by decide) (by first | omega | exact fun c => c)]; exact A381
              have A405 : ckI wy.toInt 2 (17 + 3 * t0.toInt + rS (ez_I h395 102) (ez_I h395 117) rm + (wS (ez_I h 77) (ez_I h 78) (ez_I h 79) (ez_I h 92) (ez_I h 94) (ez_I h395 100) (ez_I h 93) (ez_I h395 101) (ez_I h 95) to.toInt.toNat - wS (ez_I h 77) (ez_I h 78) (ez_I h 79) (ez_I h 92) (ez_I h 94) (ez_I h395 100) (ez_I h 93) (ez_I h395 101) (ez_I h 95) fr.toInt.toNat) + (ez_I h395 100 256).toInt) (42 + 8 * mn.toInt) := by rw [zG_fn F396 100 (by decide) (by first | omega | exact fun c => c), zG_fn F396 101 (by decide) (by first | omega | exact fun c => c), zG_fn F396 102 (by decide) (by first | omega | exact fun c => c), zG_fn F396 117 (by decide) (by first | omega | exact fun c => c)]; exact A382
              have A406 : aR (ez_I h395 106) 288 0 15 := by rw [zG_fn F396 106 (by decide) (by first | omega | exact fun c => c)]; exact A383
              have A407 : aR (ez_I h395 108) 30 0 15 := by rw [zG_fn F396 108 (by decide) (by first | omega | exact fun c => c)]; exact A384
              have A408 : aR (ez_I h395 100) 286 0 15 := by rw [zG_fn F396 100 (by decide) (by first | omega | exact fun c => c)]; exact A385
              have A409 : aR (ez_I h395 101) 30 0 15 := by rw [zG_fn F396 101 (by decide) (by first | omega | exact fun c => c)]; exact A386
              have A410 : aR (ez_I h395 102) 19 0 15 := by rw [zG_fn F396 102 (by decide) (by first | omega | exact fun c => c)]; exact A387
              have A411 : aR (ez_I h395 117) rm 0 18 := by rw [zG_fn F396 117 (by decide) (by first | omega | exact fun c => c)]; exact A388
              refine gw_ld rfl rfl ?_
              refine gw_ld rfl rfl ?_
              refine gw_ld rfl rfl ?_
              refine gw_ld rfl rfl ?_
              refine gw_ld rfl rfl ?_
              refine z_gR (q := 106) (zT S397 (by decide) rfl) (zRf S397 (by decide) (by decide) rfl) (by decide) ?_
              refine gw_ld rfl rfl ?_
              refine z_gR (q := 107) (zT S397 (by decide) rfl) (zRf S397 (by decide) (by decide) rfl) (by decide) ?_
              refine gw_ld rfl rfl ?_
              refine z_gR (q := 108) (zT S397 (by decide) rfl) (zRf S397 (by decide) (by decide) rfl) (by decide) ?_
              refine gw_ld rfl rfl ?_
              refine z_gR (q := 109) (zT S397 (by decide) rfl) (zRf S397 (by decide) (by decide) rfl) (by decide) ?_
              have t412 := congrArg Int32.toInt (f399)
              have t413 := congrArg Int32.toInt (f400)
              have t414 := congrArg Int32.toInt (f401)
              have t415 := congrArg Int32.toInt (f402)
              have t416 := congrArg Int32.toInt (f403)
              refine z_cl rfl rfl rfl rfl rfl rfl rfl rfl rfl rfl rfl (zT S397 (by decide) rfl) ?_
              have k419_c := ckI_use A404 (by omega)
              refine m_wp (n := n) (fr := fr) (to := to) (pl := pl) S397 (show zA 106 288 from fun _ S => ⟨zT S (by decide) rfl, zN S (by decide) rfl⟩) (show zA 107 288 from fun _ S => ⟨zT S (by decide) rfl, zN S (by decide) rfl⟩) (show zA 108 30 from fun _ S => ⟨zT S (by decide) rfl, zN S (by decide) rfl⟩) (show zA 109 30 from fun _ S => ⟨zT S (by decide) rfl, zN S (by decide) rfl⟩) (by decide) (aR_le A406 (by omega)) (aR_le A407 (by omega)) (by rw [zG_f F398 (k := 6) (by decide)]; exact M6) (cC_G MC F398 (fun q hq => by omega)) (by rw [zG_fn F398 77 (by decide) (by decide), zG_fn F398 78 (by decide) (by decide), zG_fn F398 79 (by decide) (by decide), zG_fn F398 72 (by decide) (by decide), zG_f F398 (k := 6) (by decide)]; exact hq) (by omega) (by rw [zG_fn F398 77 (by decide) (by decide)]; exact hp) (by rw [zG_fn F398 77 (by decide) (by decide), zG_fn F398 78 (by decide) (by decide), zG_fn F398 79 (by decide) (by decide), zG_fn F398 92 (by decide) (by decide), zG_fn F398 94 (by decide) (by decide), zG_fn F398 93 (by decide) (by decide), zG_fn F398 95 (by decide) (by decide)]; omega) (fun h417 F418 k419 k420 => ?_)
              rw [zG_fn F398 77 (by decide) (by decide), zG_fn F398 78 (by decide) (by decide), zG_fn F398 79 (by decide) (by decide), zG_fn F398 92 (by decide) (by decide), zG_fn F398 94 (by decide) (by decide), zG_fn F398 93 (by decide) (by decide), zG_fn F398 95 (by decide) (by decide)] at k419
              have S421 := zG_sh F418 S397
              have F422 := zG_tr F398 (zG_mono F418 (fun k hk => by first | omega | exact False.elim hk) (fun k hk => by first | omega | exact False.elim hk))
              have f423 : ez_I h417 71 15 = x9 := (zG_f F418 (by decide)).trans (f399)
              have r424 := z_rng (ez_I h417 71 16)
              have f425 : ez_I h417 71 56 = (ez_I h2 71 56) := (zG_f F418 (by decide)).trans (f401)
              have f426 : ez_I h417 71 57 = (ez_I h2 71 57) := (zG_f F418 (by decide)).trans (f402)
              have f427 : ez_I h417 71 58 = (ez_I h2 71 58) := (zG_f F418 (by decide)).trans (f403)
              have A428 : ckI wy.toInt 1 (3 + (wS (ez_I h 77) (ez_I h 78) (ez_I h 79) (ez_I h 92) (ez_I h 94) (ez_I h417 106) (ez_I h 93) (ez_I h417 108) (ez_I h 95) to.toInt.toNat - wS (ez_I h 77) (ez_I h 78) (ez_I h 79) (ez_I h 92) (ez_I h 94) (ez_I h417 106) (ez_I h 93) (ez_I h417 108) (ez_I h 95) fr.toInt.toNat) + (ez_I h417 106 256).toInt) (42 + 8 * mn.toInt) := by rw [zG_fn F418 106 (by decide) (by first | omega | exact fun c => c), zG_fn F418 108 (by decide) (by first | omega | exact fun c => c)]; exact A404
              have A429 : ckI wy.toInt 2 (17 + 3 * t0.toInt + rS (ez_I h417 102) (ez_I h417 117) rm + (wS (ez_I h 77) (ez_I h 78) (ez_I h 79) (ez_I h 92) (ez_I h 94) (ez_I h417 100) (ez_I h 93) (ez_I h417 101) (ez_I h 95) to.toInt.toNat - wS (ez_I h 77) (ez_I h 78) (ez_I h 79) (ez_I h 92) (ez_I h 94) (ez_I h417 100) (ez_I h 93) (ez_I h417 101) (ez_I h 95) fr.toInt.toNat) + (ez_I h417 100 256).toInt) (42 + 8 * mn.toInt) := by rw [zG_fn F418 100 (by decide) (by first | omega | exact fun c => c), zG_fn F418 101 (by decide) (by first | omega | exact fun c => c), zG_fn F418 102 (by decide) (by first | omega | exact fun c => c), zG_fn F418 117 (by decide) (by first | omega | exact fun c => c)]; exact A405
              have A430 : aR (ez_I h417 106) 288 0 15 := by rw [zG_fn F418 106 (by decide) (by first | omega | exact fun c => c)]; exact A406
              have A431 : aR (ez_I h417 108) 30 0 15 := by rw [zG_fn F418 108 (by decide) (by first | omega | exact fun c => c)]; exact A407
              have A432 : aR (ez_I h417 100) 286 0 15 := by rw [zG_fn F418 100 (by decide) (by first | omega | exact fun c => c)]; exact A408
              have A433 : aR (ez_I h417 101) 30 0 15 := by rw [zG_fn F418 101 (by decide) (by first | omega | exact fun c => c)]; exact A409
              have A434 : aR (ez_I h417 102) 19 0 15 := by rw [zG_fn F418 102 (by decide) (by first | omega | exact fun c => c)]; exact A410
              have A435 : aR (ez_I h417 117) rm 0 18 := by rw [zG_fn F418 117 (by decide) (by first | omega | exact fun c => c)]; exact A411
              refine z_go ?_
              refine gw_skip _ ?_
              refine z_rv ?_
              have t436 := congrArg Int32.toInt (f423)
              have t437 := congrArg Int32.toInt (f425)
              have t438 := congrArg Int32.toInt (f426)
              have t439 := congrArg Int32.toInt (f427)
              exact K _ F422 (by omega)
          · have c284 : ¬ (wy.toInt ≠ 0) := c284
            have t440 := congrArg Int32.toInt (f271)
            have t441 := congrArg Int32.toInt (f273)
            have t442 := congrArg Int32.toInt (f274)
            have t443 := congrArg Int32.toInt (f275)
            exact ez_Wp_at ((m_wblock_L12 (fr := fr) (to := to) (pl := pl) (mn := mn) (la := la) S M6 MC hq hr hp hmn hbk hb K (((70000 - (ez_I h266 71 16).toInt)).toNat + 1)) h266 no dy t0 fx sd wy b k F270 (by omega)  (by omega)) rfl
      · have c7 : ¬ (x6.toInt ≤ k.toInt) := c7
        refine gw_ld rfl rfl ?_
        refine z_gR (q := 91) (zT S2 (by decide) rfl) (zRf S2 (by decide) (by decide) rfl) (by decide) ?_
        refine z_C (m := 19) rfl rfl (fun x444 ex444 => ?_)
        refine gw_ld rfl rfl ?_
        refine z_mulL (c := 19) ex444 (by omega) (fun x445 ex445 => ?_)
        refine gw_ld rfl rfl ?_
        refine z_add (by omega) (fun x446 ex446 => ?_)
        refine gw_ld rfl rfl ?_
        refine z_gR (q := 102) (zT S2 (by decide) rfl) (zRf S2 (by decide) (by decide) rfl) (by decide) ?_
        refine gw_ld rfl rfl ?_
        refine z_ia (n := 19) (zT S2 (by decide) rfl) (zN S2 (by decide) rfl) (by omega) ?_
        generalize ex447 : ez_I h2 102 k.toInt.toNat = x447
        have rx447 := z_rng x447
        refine z_is (n := 228) (zT S2 (by decide) rfl) (zN S2 (by decide) rfl) (by omega) (fun h448 e449 => ?_)
        have S450 := zSh_set S2 e449
        have F451 := zG_setA F e449 (by decide) (by decide)
        have f452 : ez_I h448 71 15 = (ez_I h2 71 15) := (zI_ne e449 (by omega)).trans (rfl)
        have f453 : ez_I h448 71 16 = (ez_I h2 71 16) := (zI_ne e449 (by omega)).trans (rfl)
        have f454 : ez_I h448 71 56 = (ez_I h2 71 56) := (zI_ne e449 (by omega)).trans (rfl)
        have f455 : ez_I h448 71 57 = (ez_I h2 71 57) := (zI_ne e449 (by omega)).trans (rfl)
        have f456 : ez_I h448 71 58 = (ez_I h2 71 58) := (zI_ne e449 (by omega)).trans (rfl)
        have A457 : ckI wy.toInt 1 (3 + (wS (ez_I h 77) (ez_I h 78) (ez_I h 79) (ez_I h 92) (ez_I h 94) (ez_I h448 106) (ez_I h 93) (ez_I h448 108) (ez_I h 95) to.toInt.toNat - wS (ez_I h 77) (ez_I h 78) (ez_I h 79) (ez_I h 92) (ez_I h 94) (ez_I h448 106) (ez_I h 93) (ez_I h448 108) (ez_I h 95) fr.toInt.toNat) + (ez_I h448 106 256).toInt) (42 + 8 * mn.toInt) := by rw [zI_fn e449 106 (by decide), zI_fn e449 108 (by decide)]; exact A_ck1
        have A458 : ckI wy.toInt 2 (17 + 3 * t0.toInt + rS (ez_I h448 102) (ez_I h448 117) rm + (wS (ez_I h 77) (ez_I h 78) (ez_I h 79) (ez_I h 92) (ez_I h 94) (ez_I h448 100) (ez_I h 93) (ez_I h448 101) (ez_I h 95) to.toInt.toNat - wS (ez_I h 77) (ez_I h 78) (ez_I h 79) (ez_I h 92) (ez_I h 94) (ez_I h448 100) (ez_I h 93) (ez_I h448 101) (ez_I h 95) fr.toInt.toNat) + (ez_I h448 100 256).toInt) (42 + 8 * mn.toInt) := by rw [zI_fn e449 100 (by decide), zI_fn e449 101 (by decide), zI_fn e449 102 (by decide), zI_fn e449 117 (by decide)]; exact A_ck2
        have A459 : aR (ez_I h448 106) 288 0 15 := by rw [zI_fn e449 106 (by decide)]; exact A_f
        have A460 : aR (ez_I h448 108) 30 0 15 := by rw [zI_fn e449 108 (by decide)]; exact A_fb
        have A461 : aR (ez_I h448 100) 286 0 15 := by rw [zI_fn e449 100 (by decide)]; exact A_L
        have A462 : aR (ez_I h448 101) 30 0 15 := by rw [zI_fn e449 101 (by decide)]; exact A_B
        have A463 : aR (ez_I h448 102) 19 0 15 := by rw [zI_fn e449 102 (by decide)]; exact A_r
        have A464 : aR (ez_I h448 117) rm 0 18 := by rw [zI_fn e449 117 (by decide)]; exact A_rt
        refine z_inc rfl (by rw [show (1 : Int32).toInt = 1 from rfl]; omega) (fun x465 ex465 => ?_)
        rw [show (1 : Int32).toInt = 1 from rfl] at ex465
        show ez_gw _ _ _ _ _ _ _ _ [some (.ref 71), some (.int fr), some (.int to), some (.int pl), some (.int mn), some (.int la), some (.int no), some (.long dy), none, some (.int t0), some (.long fx), none, some (.long sd), none, some (.int wy), some (.int b), some (.int x465)] _ _ _
        refine z_go ?_
        have t466 := congrArg Int32.toInt (f452)
        have t467 := congrArg Int32.toInt (f453)
        have t468 := congrArg Int32.toInt (f454)
        have t469 := congrArg Int32.toInt (f455)
        have t470 := congrArg Int32.toInt (f456)
        exact ih h448 no dy t0 fx sd wy b x465 rm F451 (by omega) A457 A458 A459 A460 A461 A462 A463 A464 (by omega)
set_option maxRecDepth 4000 in
set_option maxHeartbeats 20000000 in
theorem m_wblock_L10 {E : Nat → Nat × (Nat → Int32)} {d : Nat} {Q : ez_Q} {h : ez_H} {fr : Int32} {to : Int32} {pl : Int32} {mn : Int32} {la : Int32} (S : zSh h) {n : Nat} (M6 : 0 ≤ (ez_I h 71 6).toInt ∧ (ez_I h 71 6).toInt ≤ 6000) (MC : cC h) (hq : pQ (ez_I h 77) (ez_I h 78) (ez_I h 79) (ez_I h 72) n (ez_I h 71 6).toInt) (hr : 0 ≤ fr.toInt ∧ fr.toInt ≤ to.toInt ∧ to.toInt ≤ n ∧ n ≤ 6000 ∧ to.toInt - fr.toInt ≤ 600) (hp : pl.toInt = pS (ez_I h 77) fr.toInt.toNat) (hmn : mn.toInt = pS (ez_I h 77) to.toInt.toNat - pS (ez_I h 77) fr.toInt.toNat) (hbk : 0 ≤ (ez_I h 71 15).toInt ∧ (ez_I h 71 15).toInt < 12) (hb : 0 ≤ (ez_I h 71 16).toInt ∧ (ez_I h 71 16).toInt + 42 + 8 * mn.toInt ≤ 64000) (K : ∀ h2, zG (fun k => k = 15 ∨ k = 16 ∨ k = 56 ∨ k = 57 ∨ k = 58) (fun q => q = 75 ∨ 83 ≤ q ∧ q ≤ 91 ∨ 97 ≤ q ∧ q ≤ 119) h h2 → (0 ≤ (ez_I h2 71 16).toInt ∧ (ez_I h2 71 16).toInt ≤ (ez_I h 71 16).toInt + 42 + 8 * mn.toInt ∧ (ez_I h2 71 15).toInt = (ez_I h 71 15).toInt + 1) → Q (.inl none) h2) : ∀ N : Nat, (∀ (h2 : ez_H) (no : Int32) (dy : Int64) (t0 : Int32) (fx : Int64) (sd : Int64) (wy : Int32) (b : Int32) (k : Int32) (rm : Nat), zG (fun k => k = 15 ∨ k = 16 ∨ k = 56 ∨ k = 57 ∨ k = 58) (fun q => q = 75 ∨ 83 ≤ q ∧ q ≤ 91 ∨ 97 ≤ q ∧ q ≤ 119) h h2 → ((ez_I h2 71 15).toInt = (ez_I h 71 15).toInt ∧ (ez_I h2 71 16).toInt = (ez_I h 71 16).toInt ∧ 257 ≤ (ez_I h2 71 57).toInt ∧ (ez_I h2 71 57).toInt ≤ 286 ∧ 1 ≤ (ez_I h2 71 58).toInt ∧ (ez_I h2 71 58).toInt ≤ 30 ∧ (ez_I h2 71 56).toInt = rm ∧ rm ≤ 316 ∧ 4 ≤ t0.toInt ∧ t0.toInt ≤ 19 ∧ 0 ≤ wy.toInt ∧ wy.toInt ≤ 2 ∧ b.toInt = (ez_I h 71 15).toInt ∧ 0 ≤ k.toInt ∧ k.toInt ≤ 288) → ckI wy.toInt 1 (3 + (wS (ez_I h 77) (ez_I h 78) (ez_I h 79) (ez_I h 92) (ez_I h 94) (ez_I h2 106) (ez_I h 93) (ez_I h2 108) (ez_I h 95) to.toInt.toNat - wS (ez_I h 77) (ez_I h 78) (ez_I h 79) (ez_I h 92) (ez_I h 94) (ez_I h2 106) (ez_I h 93) (ez_I h2 108) (ez_I h 95) fr.toInt.toNat) + (ez_I h2 106 256).toInt) (42 + 8 * mn.toInt) → ckI wy.toInt 2 (17 + 3 * t0.toInt + rS (ez_I h2 102) (ez_I h2 117) rm + (wS (ez_I h 77) (ez_I h 78) (ez_I h 79) (ez_I h 92) (ez_I h 94) (ez_I h2 100) (ez_I h 93) (ez_I h2 101) (ez_I h 95) to.toInt.toNat - wS (ez_I h 77) (ez_I h 78) (ez_I h 79) (ez_I h 92) (ez_I h 94) (ez_I h2 100) (ez_I h 93) (ez_I h2 101) (ez_I h 95) fr.toInt.toNat) + (ez_I h2 100 256).toInt) (42 + 8 * mn.toInt) → aR (ez_I h2 106) 288 0 15 → aR (ez_I h2 108) 30 0 15 → aR (ez_I h2 100) 286 0 15 → aR (ez_I h2 101) 30 0 15 → aR (ez_I h2 102) 19 0 15 → aR (ez_I h2 117) rm 0 18 → (1000 - k.toInt) < (N : Int) → pw E (d + 2) 44 677 [some (.ref 71), some (.int fr), some (.int to), some (.int pl), some (.int mn), some (.int la), some (.int no), some (.long dy), none, some (.int t0), some (.long fx), none, some (.long sd), none, some (.int wy), some (.int b), some (.int k)] [] h2 Q) := by
  intro N
  induction N with
  | zero => exact fun h2 no dy t0 fx sd wy b k rm F hinv A_ck1 A_ck2 A_f A_fb A_L A_B A_r A_rt hm => absurd hm (by have w_no := z_rng no; have w_t0 := z_rng t0; have w_wy := z_rng wy; have w_b := z_rng b; have w_k := z_rng k; have gfr := z_rng fr; have gto := z_rng to; have gpl := z_rng pl; have gmn := z_rng mn; have gla := z_rng la; have MC1 := MC.1; have hps := pQ_rng hq (a := fr.toInt.toNat) (b := to.toInt.toNat) (by omega) (by omega); omega)
  | succ N ih =>
    refine fun h2 no dy t0 fx sd wy b k rm F hinv A_ck1 A_ck2 A_f A_fb A_L A_B A_r A_rt hm => ?_
    · skip
      have w_no := z_rng no
      have w_t0 := z_rng t0
      have w_wy := z_rng wy
      have w_b := z_rng b
      have w_k := z_rng k
      have gfr := z_rng fr
      have gto := z_rng to
      have gpl := z_rng pl
      have gmn := z_rng mn
      have gla := z_rng la
      have MC1 := MC.1
      have hps := pQ_rng hq (a := fr.toInt.toNat) (b := to.toInt.toNat) (by omega) (by omega)
      have S2 := zG_sh F S
      apply ez_Wp_in
      show ez_gw _ _ _ _ _ _ (cz_44) _ _ _ _ _
      refine gw_skip _ ?_
      have r1 := z_rng (ez_I h2 71 15)
      have r2 := z_rng (ez_I h2 71 16)
      have r3 := z_rng (ez_I h2 71 56)
      have r4 := z_rng (ez_I h2 71 57)
      have r5 := z_rng (ez_I h2 71 58)
      refine gw_ld rfl rfl ?_
      refine z_C (m := 30) rfl rfl (fun x6 ex6 => ?_)
      refine z_b2 (fun c7 => ?_) (fun c7 => ?_)
      · have c7 : x6.toInt ≤ k.toInt := c7
        refine gw_skip _ ?_
        refine z_C (m := 0) rfl rfl (fun x8 ex8 => ?_)
        refine gw_st rfl rfl rfl ?_
        show ez_gw _ _ _ _ _ _ _ _ [some (.ref 71), some (.int fr), some (.int to), some (.int pl), some (.int mn), some (.int la), some (.int no), some (.long dy), none, some (.int t0), some (.long fx), none, some (.long sd), none, some (.int wy), some (.int b), some (.int x8)] _ _ _
        exact ez_Wp_at ((m_wblock_L11 (fr := fr) (to := to) (pl := pl) (mn := mn) (la := la) S M6 MC hq hr hp hmn hbk hb K (((1000 - x8.toInt)).toNat + 1)) h2 no dy t0 fx sd wy b x8 rm F (by omega) A_ck1 A_ck2 A_f A_fb A_L A_B A_r A_rt (by omega)) rfl
      · have c7 : ¬ (x6.toInt ≤ k.toInt) := c7
        refine gw_ld rfl rfl ?_
        refine z_gR (q := 90) (zT S2 (by decide) rfl) (zRf S2 (by decide) (by decide) rfl) (by decide) ?_
        refine z_C (m := 30) rfl rfl (fun x9 ex9 => ?_)
        refine gw_ld rfl rfl ?_
        refine z_mulL (c := 30) ex9 (by omega) (fun x10 ex10 => ?_)
        refine gw_ld rfl rfl ?_
        refine z_add (by omega) (fun x11 ex11 => ?_)
        refine gw_ld rfl rfl ?_
        refine z_gR (q := 101) (zT S2 (by decide) rfl) (zRf S2 (by decide) (by decide) rfl) (by decide) ?_
        refine gw_ld rfl rfl ?_
        refine z_ia (n := 30) (zT S2 (by decide) rfl) (zN S2 (by decide) rfl) (by omega) ?_
        generalize ex12 : ez_I h2 101 k.toInt.toNat = x12
        have rx12 := z_rng x12
        refine z_is (n := 360) (zT S2 (by decide) rfl) (zN S2 (by decide) rfl) (by omega) (fun h13 e14 => ?_)
        have S15 := zSh_set S2 e14
        have F16 := zG_setA F e14 (by decide) (by decide)
        have f17 : ez_I h13 71 15 = (ez_I h2 71 15) := (zI_ne e14 (by omega)).trans (rfl)
        have f18 : ez_I h13 71 16 = (ez_I h2 71 16) := (zI_ne e14 (by omega)).trans (rfl)
        have f19 : ez_I h13 71 56 = (ez_I h2 71 56) := (zI_ne e14 (by omega)).trans (rfl)
        have f20 : ez_I h13 71 57 = (ez_I h2 71 57) := (zI_ne e14 (by omega)).trans (rfl)
        have f21 : ez_I h13 71 58 = (ez_I h2 71 58) := (zI_ne e14 (by omega)).trans (rfl)
        have A22 : ckI wy.toInt 1 (3 + (wS (ez_I h 77) (ez_I h 78) (ez_I h 79) (ez_I h 92) (ez_I h 94) (ez_I h13 106) (ez_I h 93) (ez_I h13 108) (ez_I h 95) to.toInt.toNat - wS (ez_I h 77) (ez_I h 78) (ez_I h 79) (ez_I h 92) (ez_I h 94) (ez_I h13 106) (ez_I h 93) (ez_I h13 108) (ez_I h 95) fr.toInt.toNat) + (ez_I h13 106 256).toInt) (42 + 8 * mn.toInt) := by rw [zI_fn e14 106 (by decide), zI_fn e14 108 (by decide)]; exact A_ck1
        have A23 : ckI wy.toInt 2 (17 + 3 * t0.toInt + rS (ez_I h13 102) (ez_I h13 117) rm + (wS (ez_I h 77) (ez_I h 78) (ez_I h 79) (ez_I h 92) (ez_I h 94) (ez_I h13 100) (ez_I h 93) (ez_I h13 101) (ez_I h 95) to.toInt.toNat - wS (ez_I h 77) (ez_I h 78) (ez_I h 79) (ez_I h 92) (ez_I h 94) (ez_I h13 100) (ez_I h 93) (ez_I h13 101) (ez_I h 95) fr.toInt.toNat) + (ez_I h13 100 256).toInt) (42 + 8 * mn.toInt) := by rw [zI_fn e14 100 (by decide), zI_fn e14 101 (by decide), zI_fn e14 102 (by decide), zI_fn e14 117 (by decide)]; exact A_ck2
        have A24 : aR (ez_I h13 106) 288 0 15 := by rw [zI_fn e14 106 (by decide)]; exact A_f
        have A25 : aR (ez_I h13 108) 30 0 15 := by rw [zI_fn e14 108 (by decide)]; exact A_fb
        have A26 : aR (ez_I h13 100) 286 0 15 := by rw [zI_fn e14 100 (by decide)]; exact A_L
        have A27 : aR (ez_I h13 101) 30 0 15 := by rw [zI_fn e14 101 (by decide)]; exact A_B
        have A28 : aR (ez_I h13 102) 19 0 15 := by rw [zI_fn e14 102 (by decide)]; exact A_r
        have A29 : aR (ez_I h13 117) rm 0 18 := by rw [zI_fn e14 117 (by decide)]; exact A_rt
        refine z_inc rfl (by rw [show (1 : Int32).toInt = 1 from rfl]; omega) (fun x30 ex30 => ?_)
        rw [show (1 : Int32).toInt = 1 from rfl] at ex30
        show ez_gw _ _ _ _ _ _ _ _ [some (.ref 71), some (.int fr), some (.int to), some (.int pl), some (.int mn), some (.int la), some (.int no), some (.long dy), none, some (.int t0), some (.long fx), none, some (.long sd), none, some (.int wy), some (.int b), some (.int x30)] _ _ _
        refine z_go ?_
        have t31 := congrArg Int32.toInt (f17)
        have t32 := congrArg Int32.toInt (f18)
        have t33 := congrArg Int32.toInt (f19)
        have t34 := congrArg Int32.toInt (f20)
        have t35 := congrArg Int32.toInt (f21)
        exact ih h13 no dy t0 fx sd wy b x30 rm F16 (by omega) A22 A23 A24 A25 A26 A27 A28 A29 (by omega)
set_option maxRecDepth 4000 in
set_option maxHeartbeats 20000000 in
theorem m_wblock_L9 {E : Nat → Nat × (Nat → Int32)} {d : Nat} {Q : ez_Q} {h : ez_H} {fr : Int32} {to : Int32} {pl : Int32} {mn : Int32} {la : Int32} (S : zSh h) {n : Nat} (M6 : 0 ≤ (ez_I h 71 6).toInt ∧ (ez_I h 71 6).toInt ≤ 6000) (MC : cC h) (hq : pQ (ez_I h 77) (ez_I h 78) (ez_I h 79) (ez_I h 72) n (ez_I h 71 6).toInt) (hr : 0 ≤ fr.toInt ∧ fr.toInt ≤ to.toInt ∧ to.toInt ≤ n ∧ n ≤ 6000 ∧ to.toInt - fr.toInt ≤ 600) (hp : pl.toInt = pS (ez_I h 77) fr.toInt.toNat) (hmn : mn.toInt = pS (ez_I h 77) to.toInt.toNat - pS (ez_I h 77) fr.toInt.toNat) (hbk : 0 ≤ (ez_I h 71 15).toInt ∧ (ez_I h 71 15).toInt < 12) (hb : 0 ≤ (ez_I h 71 16).toInt ∧ (ez_I h 71 16).toInt + 42 + 8 * mn.toInt ≤ 64000) (K : ∀ h2, zG (fun k => k = 15 ∨ k = 16 ∨ k = 56 ∨ k = 57 ∨ k = 58) (fun q => q = 75 ∨ 83 ≤ q ∧ q ≤ 91 ∨ 97 ≤ q ∧ q ≤ 119) h h2 → (0 ≤ (ez_I h2 71 16).toInt ∧ (ez_I h2 71 16).toInt ≤ (ez_I h 71 16).toInt + 42 + 8 * mn.toInt ∧ (ez_I h2 71 15).toInt = (ez_I h 71 15).toInt + 1) → Q (.inl none) h2) : ∀ N : Nat, (∀ (h2 : ez_H) (no : Int32) (dy : Int64) (t0 : Int32) (fx : Int64) (sd : Int64) (wy : Int32) (b : Int32) (k : Int32) (rm : Nat), zG (fun k => k = 15 ∨ k = 16 ∨ k = 56 ∨ k = 57 ∨ k = 58) (fun q => q = 75 ∨ 83 ≤ q ∧ q ≤ 91 ∨ 97 ≤ q ∧ q ≤ 119) h h2 → ((ez_I h2 71 15).toInt = (ez_I h 71 15).toInt ∧ (ez_I h2 71 16).toInt = (ez_I h 71 16).toInt ∧ 257 ≤ (ez_I h2 71 57).toInt ∧ (ez_I h2 71 57).toInt ≤ 286 ∧ 1 ≤ (ez_I h2 71 58).toInt ∧ (ez_I h2 71 58).toInt ≤ 30 ∧ (ez_I h2 71 56).toInt = rm ∧ rm ≤ 316 ∧ 4 ≤ t0.toInt ∧ t0.toInt ≤ 19 ∧ 0 ≤ wy.toInt ∧ wy.toInt ≤ 2 ∧ b.toInt = (ez_I h 71 15).toInt ∧ 0 ≤ k.toInt ∧ k.toInt ≤ 288) → ckI wy.toInt 1 (3 + (wS (ez_I h 77) (ez_I h 78) (ez_I h 79) (ez_I h 92) (ez_I h 94) (ez_I h2 106) (ez_I h 93) (ez_I h2 108) (ez_I h 95) to.toInt.toNat - wS (ez_I h 77) (ez_I h 78) (ez_I h 79) (ez_I h 92) (ez_I h 94) (ez_I h2 106) (ez_I h 93) (ez_I h2 108) (ez_I h 95) fr.toInt.toNat) + (ez_I h2 106 256).toInt) (42 + 8 * mn.toInt) → ckI wy.toInt 2 (17 + 3 * t0.toInt + rS (ez_I h2 102) (ez_I h2 117) rm + (wS (ez_I h 77) (ez_I h 78) (ez_I h 79) (ez_I h 92) (ez_I h 94) (ez_I h2 100) (ez_I h 93) (ez_I h2 101) (ez_I h 95) to.toInt.toNat - wS (ez_I h 77) (ez_I h 78) (ez_I h 79) (ez_I h 92) (ez_I h 94) (ez_I h2 100) (ez_I h 93) (ez_I h2 101) (ez_I h 95) fr.toInt.toNat) + (ez_I h2 100 256).toInt) (42 + 8 * mn.toInt) → aR (ez_I h2 106) 288 0 15 → aR (ez_I h2 108) 30 0 15 → aR (ez_I h2 100) 286 0 15 → aR (ez_I h2 101) 30 0 15 → aR (ez_I h2 102) 19 0 15 → aR (ez_I h2 117) rm 0 18 → (1000 - k.toInt) < (N : Int) → pw E (d + 2) 44 639 [some (.ref 71), some (.int fr), some (.int to), some (.int pl), some (.int mn), some (.int la), some (.int no), some (.long dy), none, some (.int t0), some (.long fx), none, some (.long sd), none, some (.int wy), some (.int b), some (.int k)] [] h2 Q) := by
  intro N
  induction N with
  | zero => exact fun h2 no dy t0 fx sd wy b k rm F hinv A_ck1 A_ck2 A_f A_fb A_L A_B A_r A_rt hm => absurd hm (by have w_no := z_rng no; have w_t0 := z_rng t0; have w_wy := z_rng wy; have w_b := z_rng b; have w_k := z_rng k; have gfr := z_rng fr; have gto := z_rng to; have gpl := z_rng pl; have gmn := z_rng mn; have gla := z_rng la; have MC1 := MC.1; have hps := pQ_rng hq (a := fr.toInt.toNat) (b := to.toInt.toNat) (by omega) (by omega); omega)
  | succ N ih =>
    refine fun h2 no dy t0 fx sd wy b k rm F hinv A_ck1 A_ck2 A_f A_fb A_L A_B A_r A_rt hm => ?_
    · skip
      have w_no := z_rng no
      have w_t0 := z_rng t0
      have w_wy := z_rng wy
      have w_b := z_rng b
      have w_k := z_rng k
      have gfr := z_rng fr
      have gto := z_rng to
      have gpl := z_rng pl
      have gmn := z_rng mn
      have gla := z_rng la
      have MC1 := MC.1
      have hps := pQ_rng hq (a := fr.toInt.toNat) (b := to.toInt.toNat) (by omega) (by omega)
      have S2 := zG_sh F S
      apply ez_Wp_in
      show ez_gw _ _ _ _ _ _ (cz_44) _ _ _ _ _
      refine gw_skip _ ?_
      have r1 := z_rng (ez_I h2 71 15)
      have r2 := z_rng (ez_I h2 71 16)
      have r3 := z_rng (ez_I h2 71 56)
      have r4 := z_rng (ez_I h2 71 57)
      have r5 := z_rng (ez_I h2 71 58)
      refine gw_ld rfl rfl ?_
      refine z_C (m := 288) rfl rfl (fun x6 ex6 => ?_)
      refine z_b2 (fun c7 => ?_) (fun c7 => ?_)
      · have c7 : x6.toInt ≤ k.toInt := c7
        refine gw_skip _ ?_
        refine z_C (m := 0) rfl rfl (fun x8 ex8 => ?_)
        refine gw_st rfl rfl rfl ?_
        show ez_gw _ _ _ _ _ _ _ _ [some (.ref 71), some (.int fr), some (.int to), some (.int pl), some (.int mn), some (.int la), some (.int no), some (.long dy), none, some (.int t0), some (.long fx), none, some (.long sd), none, some (.int wy), some (.int b), some (.int x8)] _ _ _
        exact ez_Wp_at ((m_wblock_L10 (fr := fr) (to := to) (pl := pl) (mn := mn) (la := la) S M6 MC hq hr hp hmn hbk hb K (((1000 - x8.toInt)).toNat + 1)) h2 no dy t0 fx sd wy b x8 rm F (by omega) A_ck1 A_ck2 A_f A_fb A_L A_B A_r A_rt (by omega)) rfl
      · have c7 : ¬ (x6.toInt ≤ k.toInt) := c7
        refine gw_ld rfl rfl ?_
        refine z_gR (q := 89) (zT S2 (by decide) rfl) (zRf S2 (by decide) (by decide) rfl) (by decide) ?_
        refine z_C (m := 288) rfl rfl (fun x9 ex9 => ?_)
        refine gw_ld rfl rfl ?_
        refine z_mulL (c := 288) ex9 (by omega) (fun x10 ex10 => ?_)
        refine gw_ld rfl rfl ?_
        refine z_add (by omega) (fun x11 ex11 => ?_)
        refine gw_ld rfl rfl ?_
        refine z_gR (q := 100) (zT S2 (by decide) rfl) (zRf S2 (by decide) (by decide) rfl) (by decide) ?_
        refine gw_ld rfl rfl ?_
        refine z_ia (n := 288) (zT S2 (by decide) rfl) (zN S2 (by decide) rfl) (by omega) ?_
        generalize ex12 : ez_I h2 100 k.toInt.toNat = x12
        have rx12 := z_rng x12
        refine z_is (n := 3456) (zT S2 (by decide) rfl) (zN S2 (by decide) rfl) (by omega) (fun h13 e14 => ?_)
        have S15 := zSh_set S2 e14
        have F16 := zG_setA F e14 (by decide) (by decide)
        have f17 : ez_I h13 71 15 = (ez_I h2 71 15) := (zI_ne e14 (by omega)).trans (rfl)
        have f18 : ez_I h13 71 16 = (ez_I h2 71 16) := (zI_ne e14 (by omega)).trans (rfl)
        have f19 : ez_I h13 71 56 = (ez_I h2 71 56) := (zI_ne e14 (by omega)).trans (rfl)
        have f20 : ez_I h13 71 57 = (ez_I h2 71 57) := (zI_ne e14 (by omega)).trans (rfl)
        have f21 : ez_I h13 71 58 = (ez_I h2 71 58) := (zI_ne e14 (by omega)).trans (rfl)
        have A22 : ckI wy.toInt 1 (3 + (wS (ez_I h 77) (ez_I h 78) (ez_I h 79) (ez_I h 92) (ez_I h 94) (ez_I h13 106) (ez_I h 93) (ez_I h13 108) (ez_I h 95) to.toInt.toNat - wS (ez_I h 77) (ez_I h 78) (ez_I h 79) (ez_I h 92) (ez_I h 94) (ez_I h13 106) (ez_I h 93) (ez_I h13 108) (ez_I h 95) fr.toInt.toNat) + (ez_I h13 106 256).toInt) (42 + 8 * mn.toInt) := by rw [zI_fn e14 106 (by decide), zI_fn e14 108 (by decide)]; exact A_ck1
        have A23 : ckI wy.toInt 2 (17 + 3 * t0.toInt + rS (ez_I h13 102) (ez_I h13 117) rm + (wS (ez_I h 77) (ez_I h 78) (ez_I h 79) (ez_I h 92) (ez_I h 94) (ez_I h13 100) (ez_I h 93) (ez_I h13 101) (ez_I h 95) to.toInt.toNat - wS (ez_I h 77) (ez_I h 78) (ez_I h 79) (ez_I h 92) (ez_I h 94) (ez_I h13 100) (ez_I h 93) (ez_I h13 101) (ez_I h 95) fr.toInt.toNat) + (ez_I h13 100 256).toInt) (42 + 8 * mn.toInt) := by rw [zI_fn e14 100 (by decide), zI_fn e14 101 (by decide), zI_fn e14 102 (by decide), zI_fn e14 117 (by decide)]; exact A_ck2
        have A24 : aR (ez_I h13 106) 288 0 15 := by rw [zI_fn e14 106 (by decide)]; exact A_f
        have A25 : aR (ez_I h13 108) 30 0 15 := by rw [zI_fn e14 108 (by decide)]; exact A_fb
        have A26 : aR (ez_I h13 100) 286 0 15 := by rw [zI_fn e14 100 (by decide)]; exact A_L
        have A27 : aR (ez_I h13 101) 30 0 15 := by rw [zI_fn e14 101 (by decide)]; exact A_B
        have A28 : aR (ez_I h13 102) 19 0 15 := by rw [zI_fn e14 102 (by decide)]; exact A_r
        have A29 : aR (ez_I h13 117) rm 0 18 := by rw [zI_fn e14 117 (by decide)]; exact A_rt
        refine z_inc rfl (by rw [show (1 : Int32).toInt = 1 from rfl]; omega) (fun x30 ex30 => ?_)
        rw [show (1 : Int32).toInt = 1 from rfl] at ex30
        show ez_gw _ _ _ _ _ _ _ _ [some (.ref 71), some (.int fr), some (.int to), some (.int pl), some (.int mn), some (.int la), some (.int no), some (.long dy), none, some (.int t0), some (.long fx), none, some (.long sd), none, some (.int wy), some (.int b), some (.int x30)] _ _ _
        refine z_go ?_
        have t31 := congrArg Int32.toInt (f17)
        have t32 := congrArg Int32.toInt (f18)
        have t33 := congrArg Int32.toInt (f19)
        have t34 := congrArg Int32.toInt (f20)
        have t35 := congrArg Int32.toInt (f21)
        exact ih h13 no dy t0 fx sd wy b x30 rm F16 (by omega) A22 A23 A24 A25 A26 A27 A28 A29 (by omega)
set_option maxRecDepth 4000 in
set_option maxHeartbeats 20000000 in
theorem m_wblock_L8 {E : Nat → Nat × (Nat → Int32)} {d : Nat} {Q : ez_Q} {h : ez_H} {fr : Int32} {to : Int32} {pl : Int32} {mn : Int32} {la : Int32} (S : zSh h) {n : Nat} (M6 : 0 ≤ (ez_I h 71 6).toInt ∧ (ez_I h 71 6).toInt ≤ 6000) (MC : cC h) (hq : pQ (ez_I h 77) (ez_I h 78) (ez_I h 79) (ez_I h 72) n (ez_I h 71 6).toInt) (hr : 0 ≤ fr.toInt ∧ fr.toInt ≤ to.toInt ∧ to.toInt ≤ n ∧ n ≤ 6000 ∧ to.toInt - fr.toInt ≤ 600) (hp : pl.toInt = pS (ez_I h 77) fr.toInt.toNat) (hmn : mn.toInt = pS (ez_I h 77) to.toInt.toNat - pS (ez_I h 77) fr.toInt.toNat) (hbk : 0 ≤ (ez_I h 71 15).toInt ∧ (ez_I h 71 15).toInt < 12) (hb : 0 ≤ (ez_I h 71 16).toInt ∧ (ez_I h 71 16).toInt + 42 + 8 * mn.toInt ≤ 64000) (K : ∀ h2, zG (fun k => k = 15 ∨ k = 16 ∨ k = 56 ∨ k = 57 ∨ k = 58) (fun q => q = 75 ∨ 83 ≤ q ∧ q ≤ 91 ∨ 97 ≤ q ∧ q ≤ 119) h h2 → (0 ≤ (ez_I h2 71 16).toInt ∧ (ez_I h2 71 16).toInt ≤ (ez_I h 71 16).toInt + 42 + 8 * mn.toInt ∧ (ez_I h2 71 15).toInt = (ez_I h 71 15).toInt + 1) → Q (.inl none) h2) : ∀ N : Nat, (∀ (h2 : ez_H) (no : Int32) (dy : Int64) (t0 : Int32) (fx : Int64) (sd : Int64) (wy : Int32) (l15 : Option Value) (l16 : Option Value) (rm : Nat), zG (fun k => k = 15 ∨ k = 16 ∨ k = 56 ∨ k = 57 ∨ k = 58) (fun q => q = 75 ∨ 83 ≤ q ∧ q ≤ 91 ∨ 97 ≤ q ∧ q ≤ 119) h h2 → ((ez_I h2 71 15).toInt = (ez_I h 71 15).toInt ∧ (ez_I h2 71 16).toInt = (ez_I h 71 16).toInt ∧ 257 ≤ (ez_I h2 71 57).toInt ∧ (ez_I h2 71 57).toInt ≤ 286 ∧ 1 ≤ (ez_I h2 71 58).toInt ∧ (ez_I h2 71 58).toInt ≤ 30 ∧ (ez_I h2 71 56).toInt = rm ∧ rm ≤ 316 ∧ 4 ≤ t0.toInt ∧ t0.toInt ≤ 19 ∧ 0 ≤ wy.toInt ∧ wy.toInt ≤ 2) → ckI wy.toInt 1 (3 + (wS (ez_I h 77) (ez_I h 78) (ez_I h 79) (ez_I h 92) (ez_I h 94) (ez_I h2 106) (ez_I h 93) (ez_I h2 108) (ez_I h 95) to.toInt.toNat - wS (ez_I h 77) (ez_I h 78) (ez_I h 79) (ez_I h 92) (ez_I h 94) (ez_I h2 106) (ez_I h 93) (ez_I h2 108) (ez_I h 95) fr.toInt.toNat) + (ez_I h2 106 256).toInt) (42 + 8 * mn.toInt) → ckI wy.toInt 2 (17 + 3 * t0.toInt + rS (ez_I h2 102) (ez_I h2 117) rm + (wS (ez_I h 77) (ez_I h 78) (ez_I h 79) (ez_I h 92) (ez_I h 94) (ez_I h2 100) (ez_I h 93) (ez_I h2 101) (ez_I h 95) to.toInt.toNat - wS (ez_I h 77) (ez_I h 78) (ez_I h 79) (ez_I h 92) (ez_I h 94) (ez_I h2 100) (ez_I h 93) (ez_I h2 101) (ez_I h 95) fr.toInt.toNat) + (ez_I h2 100 256).toInt) (42 + 8 * mn.toInt) → aR (ez_I h2 106) 288 0 15 → aR (ez_I h2 108) 30 0 15 → aR (ez_I h2 100) 286 0 15 → aR (ez_I h2 101) 30 0 15 → aR (ez_I h2 102) 19 0 15 → aR (ez_I h2 117) rm 0 18 → (0 : Int) < (N : Int) → pw E (d + 2) 44 551 [some (.ref 71), some (.int fr), some (.int to), some (.int pl), some (.int mn), some (.int la), some (.int no), some (.long dy), none, some (.int t0), some (.long fx), none, some (.long sd), none, some (.int wy), l15, l16] [] h2 Q) := by
  intro N
  induction N with
  | zero => exact fun h2 no dy t0 fx sd wy l15 l16 rm F hinv A_ck1 A_ck2 A_f A_fb A_L A_B A_r A_rt hm => absurd hm (by have w_no := z_rng no; have w_t0 := z_rng t0; have w_wy := z_rng wy; have gfr := z_rng fr; have gto := z_rng to; have gpl := z_rng pl; have gmn := z_rng mn; have gla := z_rng la; have MC1 := MC.1; have hps := pQ_rng hq (a := fr.toInt.toNat) (b := to.toInt.toNat) (by omega) (by omega); omega)
  | succ N ih =>
    refine fun h2 no dy t0 fx sd wy l15 l16 rm F hinv A_ck1 A_ck2 A_f A_fb A_L A_B A_r A_rt hm => ?_
    · skip
      have w_no := z_rng no
      have w_t0 := z_rng t0
      have w_wy := z_rng wy
      have gfr := z_rng fr
      have gto := z_rng to
      have gpl := z_rng pl
      have gmn := z_rng mn
      have gla := z_rng la
      have MC1 := MC.1
      have hps := pQ_rng hq (a := fr.toInt.toNat) (b := to.toInt.toNat) (by omega) (by omega)
      have S2 := zG_sh F S
      apply ez_Wp_in
      show ez_gw _ _ _ _ _ _ (cz_44) _ _ _ _ _
      refine gw_skip _ ?_
      have r1 := z_rng (ez_I h2 71 15)
      have r2 := z_rng (ez_I h2 71 16)
      have r3 := z_rng (ez_I h2 71 56)
      have r4 := z_rng (ez_I h2 71 57)
      have r5 := z_rng (ez_I h2 71 58)
      refine gw_ld rfl rfl ?_
      refine z_gI2 (by decide) (zT S2 (by decide) rfl) (rfl) ?_
      refine gw_st rfl rfl rfl ?_
      show ez_gw _ _ _ _ _ _ _ _ [some (.ref 71), some (.int fr), some (.int to), some (.int pl), some (.int mn), some (.int la), some (.int no), some (.long dy), none, some (.int t0), some (.long fx), none, some (.long sd), none, some (.int wy), some (.int (ez_I h2 71 15)), l16] _ _ _
      refine gw_ld rfl rfl ?_
      refine z_gR (q := 83) (zT S2 (by decide) rfl) (zRf S2 (by decide) (by decide) rfl) (by decide) ?_
      refine gw_ld rfl rfl ?_
      refine gw_ld rfl rfl ?_
      refine z_is (n := 12) (zT S2 (by decide) rfl) (zN S2 (by decide) rfl) (by omega) (fun h6 e7 => ?_)
      have S8 := zSh_set S2 e7
      have F9 := zG_setA F e7 (by decide) (by decide)
      have f10 : ez_I h6 71 15 = (ez_I h2 71 15) := (zI_ne e7 (by omega)).trans (rfl)
      have f11 : ez_I h6 71 16 = (ez_I h2 71 16) := (zI_ne e7 (by omega)).trans (rfl)
      have f12 : ez_I h6 71 56 = (ez_I h2 71 56) := (zI_ne e7 (by omega)).trans (rfl)
      have f13 : ez_I h6 71 57 = (ez_I h2 71 57) := (zI_ne e7 (by omega)).trans (rfl)
      have f14 : ez_I h6 71 58 = (ez_I h2 71 58) := (zI_ne e7 (by omega)).trans (rfl)
      have A15 : ckI wy.toInt 1 (3 + (wS (ez_I h 77) (ez_I h 78) (ez_I h 79) (ez_I h 92) (ez_I h 94) (ez_I h6 106) (ez_I h 93) (ez_I h6 108) (ez_I h 95) to.toInt.toNat - wS (ez_I h 77) (ez_I h 78) (ez_I h 79) (ez_I h 92) (ez_I h 94) (ez_I h6 106) (ez_I h 93) (ez_I h6 108) (ez_I h 95) fr.toInt.toNat) + (ez_I h6 106 256).toInt) (42 + 8 * mn.toInt) := by rw [zI_fn e7 106 (by decide), zI_fn e7 108 (by decide)]; exact A_ck1
      have A16 : ckI wy.toInt 2 (17 + 3 * t0.toInt + rS (ez_I h6 102) (ez_I h6 117) rm + (wS (ez_I h 77) (ez_I h 78) (ez_I h 79) (ez_I h 92) (ez_I h 94) (ez_I h6 100) (ez_I h 93) (ez_I h6 101) (ez_I h 95) to.toInt.toNat - wS (ez_I h 77) (ez_I h 78) (ez_I h 79) (ez_I h 92) (ez_I h 94) (ez_I h6 100) (ez_I h 93) (ez_I h6 101) (ez_I h 95) fr.toInt.toNat) + (ez_I h6 100 256).toInt) (42 + 8 * mn.toInt) := by rw [zI_fn e7 100 (by decide), zI_fn e7 101 (by decide), zI_fn e7 102 (by decide), zI_fn e7 117 (by decide)]; exact A_ck2
      have A17 : aR (ez_I h6 106) 288 0 15 := by rw [zI_fn e7 106 (by decide)]; exact A_f
      have A18 : aR (ez_I h6 108) 30 0 15 := by rw [zI_fn e7 108 (by decide)]; exact A_fb
      have A19 : aR (ez_I h6 100) 286 0 15 := by rw [zI_fn e7 100 (by decide)]; exact A_L
      have A20 : aR (ez_I h6 101) 30 0 15 := by rw [zI_fn e7 101 (by decide)]; exact A_B
      have A21 : aR (ez_I h6 102) 19 0 15 := by rw [zI_fn e7 102 (by decide)]; exact A_r
      have A22 : aR (ez_I h6 117) rm 0 18 := by rw [zI_fn e7 117 (by decide)]; exact A_rt
      refine gw_ld rfl rfl ?_
      refine z_gR (q := 84) (zT S8 (by decide) rfl) (zRf S8 (by decide) (by decide) rfl) (by decide) ?_
      refine gw_ld rfl rfl ?_
      refine gw_ld rfl rfl ?_
      refine gw_ld rfl rfl ?_
      refine z_sub (by omega) (fun x23 ex23 => ?_)
      refine z_is (n := 12) (zT S8 (by decide) rfl) (zN S8 (by decide) rfl) (by omega) (fun h24 e25 => ?_)
      have S26 := zSh_set S8 e25
      have F27 := zG_setA F9 e25 (by decide) (by decide)
      have f28 : ez_I h24 71 15 = (ez_I h2 71 15) := (zI_ne e25 (by omega)).trans (f10)
      have f29 : ez_I h24 71 16 = (ez_I h2 71 16) := (zI_ne e25 (by omega)).trans (f11)
      have f30 : ez_I h24 71 56 = (ez_I h2 71 56) := (zI_ne e25 (by omega)).trans (f12)
      have f31 : ez_I h24 71 57 = (ez_I h2 71 57) := (zI_ne e25 (by omega)).trans (f13)
      have f32 : ez_I h24 71 58 = (ez_I h2 71 58) := (zI_ne e25 (by omega)).trans (f14)
      have A33 : ckI wy.toInt 1 (3 + (wS (ez_I h 77) (ez_I h 78) (ez_I h 79) (ez_I h 92) (ez_I h 94) (ez_I h24 106) (ez_I h 93) (ez_I h24 108) (ez_I h 95) to.toInt.toNat - wS (ez_I h 77) (ez_I h 78) (ez_I h 79) (ez_I h 92) (ez_I h 94) (ez_I h24 106) (ez_I h 93) (ez_I h24 108) (ez_I h 95) fr.toInt.toNat) + (ez_I h24 106 256).toInt) (42 + 8 * mn.toInt) := by rw [zI_fn e25 106 (by decide), zI_fn e25 108 (by decide)]; exact A15
      have A34 : ckI wy.toInt 2 (17 + 3 * t0.toInt + rS (ez_I h24 102) (ez_I h24 117) rm + (wS (ez_I h 77) (ez_I h 78) (ez_I h 79) (ez_I h 92) (ez_I h 94) (ez_I h24 100) (ez_I h 93) (ez_I h24 101) (ez_I h 95) to.toInt.toNat - wS (ez_I h 77) (ez_I h 78) (ez_I h 79) (ez_I h 92) (ez_I h 94) (ez_I h24 100) (ez_I h 93) (ez_I h24 101) (ez_I h 95) fr.toInt.toNat) + (ez_I h24 100 256).toInt) (42 + 8 * mn.toInt) := by rw [zI_fn e25 100 (by decide), zI_fn e25 101 (by decide), zI_fn e25 102 (by decide), zI_fn e25 117 (by decide)]; exact A16
      have A35 : aR (ez_I h24 106) 288 0 15 := by rw [zI_fn e25 106 (by decide)]; exact A17
      have A36 : aR (ez_I h24 108) 30 0 15 := by rw [zI_fn e25 108 (by decide)]; exact A18
      have A37 : aR (ez_I h24 100) 286 0 15 := by rw [zI_fn e25 100 (by decide)]; exact A19
      have A38 : aR (ez_I h24 101) 30 0 15 := by rw [zI_fn e25 101 (by decide)]; exact A20
      have A39 : aR (ez_I h24 102) 19 0 15 := by rw [zI_fn e25 102 (by decide)]; exact A21
      have A40 : aR (ez_I h24 117) rm 0 18 := by rw [zI_fn e25 117 (by decide)]; exact A22
      clear A15
      clear A16
      clear A17
      clear A18
      clear A19
      clear A20
      clear A21
      clear A22
      refine gw_ld rfl rfl ?_
      refine z_gR (q := 85) (zT S26 (by decide) rfl) (zRf S26 (by decide) (by decide) rfl) (by decide) ?_
      refine gw_ld rfl rfl ?_
      refine gw_ld rfl rfl ?_
      refine z_is (n := 12) (zT S26 (by decide) rfl) (zN S26 (by decide) rfl) (by omega) (fun h41 e42 => ?_)
      have S43 := zSh_set S26 e42
      have F44 := zG_setA F27 e42 (by decide) (by decide)
      have f45 : ez_I h41 71 15 = (ez_I h2 71 15) := (zI_ne e42 (by omega)).trans (f28)
      have f46 : ez_I h41 71 16 = (ez_I h2 71 16) := (zI_ne e42 (by omega)).trans (f29)
      have f47 : ez_I h41 71 56 = (ez_I h2 71 56) := (zI_ne e42 (by omega)).trans (f30)
      have f48 : ez_I h41 71 57 = (ez_I h2 71 57) := (zI_ne e42 (by omega)).trans (f31)
      have f49 : ez_I h41 71 58 = (ez_I h2 71 58) := (zI_ne e42 (by omega)).trans (f32)
      have A50 : ckI wy.toInt 1 (3 + (wS (ez_I h 77) (ez_I h 78) (ez_I h 79) (ez_I h 92) (ez_I h 94) (ez_I h41 106) (ez_I h 93) (ez_I h41 108) (ez_I h 95) to.toInt.toNat - wS (ez_I h 77) (ez_I h 78) (ez_I h 79) (ez_I h 92) (ez_I h 94) (ez_I h41 106) (ez_I h 93) (ez_I h41 108) (ez_I h 95) fr.toInt.toNat) + (ez_I h41 106 256).toInt) (42 + 8 * mn.toInt) := by rw [zI_fn e42 106 (by decide), zI_fn e42 108 (by decide)]; exact A33
      have A51 : ckI wy.toInt 2 (17 + 3 * t0.toInt + rS (ez_I h41 102) (ez_I h41 117) rm + (wS (ez_I h 77) (ez_I h 78) (ez_I h 79) (ez_I h 92) (ez_I h 94) (ez_I h41 100) (ez_I h 93) (ez_I h41 101) (ez_I h 95) to.toInt.toNat - wS (ez_I h 77) (ez_I h 78) (ez_I h 79) (ez_I h 92) (ez_I h 94) (ez_I h41 100) (ez_I h 93) (ez_I h41 101) (ez_I h 95) fr.toInt.toNat) + (ez_I h41 100 256).toInt) (42 + 8 * mn.toInt) := by rw [zI_fn e42 100 (by decide), zI_fn e42 101 (by decide), zI_fn e42 102 (by decide), zI_fn e42 117 (by decide)]; exact A34
      have A52 : aR (ez_I h41 106) 288 0 15 := by rw [zI_fn e42 106 (by decide)]; exact A35
      have A53 : aR (ez_I h41 108) 30 0 15 := by rw [zI_fn e42 108 (by decide)]; exact A36
      have A54 : aR (ez_I h41 100) 286 0 15 := by rw [zI_fn e42 100 (by decide)]; exact A37
      have A55 : aR (ez_I h41 101) 30 0 15 := by rw [zI_fn e42 101 (by decide)]; exact A38
      have A56 : aR (ez_I h41 102) 19 0 15 := by rw [zI_fn e42 102 (by decide)]; exact A39
      have A57 : aR (ez_I h41 117) rm 0 18 := by rw [zI_fn e42 117 (by decide)]; exact A40
      clear A33
      clear A34
      clear A35
      clear A36
      clear A37
      clear A38
      clear A39
      clear A40
      refine gw_ld rfl rfl ?_
      refine z_gR (q := 86) (zT S43 (by decide) rfl) (zRf S43 (by decide) (by decide) rfl) (by decide) ?_
      refine gw_ld rfl rfl ?_
      refine gw_ld rfl rfl ?_
      refine z_b1 (fun c58 => ?_) (fun c58 => ?_)
      · have c58 : wy.toInt ≠ 0 := c58
        refine gw_skip _ ?_
        refine gw_ld rfl rfl ?_
        refine z_C (m := 1) rfl rfl (fun x59 ex59 => ?_)
        refine z_b2 (fun c60 => ?_) (fun c60 => ?_)
        · have c60 : wy.toInt ≠ x59.toInt := c60
          refine gw_skip _ ?_
          refine gw_ld rfl rfl ?_
          refine gw_op rfl ?_
          generalize (_ : Int64).toInt32 = x61
          refine z_is (n := 12) (zT S43 (by decide) rfl) (zN S43 (by decide) rfl) (by omega) (fun h62 e63 => ?_)
          have S64 := zSh_set S43 e63
          have F65 := zG_setA F44 e63 (by decide) (by decide)
          have f66 : ez_I h62 71 15 = (ez_I h2 71 15) := (zI_ne e63 (by omega)).trans (f45)
          have f67 : ez_I h62 71 16 = (ez_I h2 71 16) := (zI_ne e63 (by omega)).trans (f46)
          have f68 : ez_I h62 71 56 = (ez_I h2 71 56) := (zI_ne e63 (by omega)).trans (f47)
          have f69 : ez_I h62 71 57 = (ez_I h2 71 57) := (zI_ne e63 (by omega)).trans (f48)
          have f70 : ez_I h62 71 58 = (ez_I h2 71 58) := (zI_ne e63 (by omega)).trans (f49)
          have A71 : ckI wy.toInt 1 (3 + (wS (ez_I h 77) (ez_I h 78) (ez_I h 79) (ez_I h 92) (ez_I h 94) (ez_I h62 106) (ez_I h 93) (ez_I h62 108) (ez_I h 95) to.toInt.toNat - wS (ez_I h 77) (ez_I h 78) (ez_I h 79) (ez_I h 92) (ez_I h 94) (ez_I h62 106) (ez_I h 93) (ez_I h62 108) (ez_I h 95) fr.toInt.toNat) + (ez_I h62 106 256).toInt) (42 + 8 * mn.toInt) := by rw [zI_fn e63 106 (by decide), zI_fn e63 108 (by decide)]; exact A50
          have A72 : ckI wy.toInt 2 (17 + 3 * t0.toInt + rS (ez_I h62 102) (ez_I h62 117) rm + (wS (ez_I h 77) (ez_I h 78) (ez_I h 79) (ez_I h 92) (ez_I h 94) (ez_I h62 100) (ez_I h 93) (ez_I h62 101) (ez_I h 95) to.toInt.toNat - wS (ez_I h 77) (ez_I h 78) (ez_I h 79) (ez_I h 92) (ez_I h 94) (ez_I h62 100) (ez_I h 93) (ez_I h62 101) (ez_I h 95) fr.toInt.toNat) + (ez_I h62 100 256).toInt) (42 + 8 * mn.toInt) := by rw [zI_fn e63 100 (by decide), zI_fn e63 101 (by decide), zI_fn e63 102 (by decide), zI_fn e63 117 (by decide)]; exact A51
          have A73 : aR (ez_I h62 106) 288 0 15 := by rw [zI_fn e63 106 (by decide)]; exact A52
          have A74 : aR (ez_I h62 108) 30 0 15 := by rw [zI_fn e63 108 (by decide)]; exact A53
          have A75 : aR (ez_I h62 100) 286 0 15 := by rw [zI_fn e63 100 (by decide)]; exact A54
          have A76 : aR (ez_I h62 101) 30 0 15 := by rw [zI_fn e63 101 (by decide)]; exact A55
          have A77 : aR (ez_I h62 102) 19 0 15 := by rw [zI_fn e63 102 (by decide)]; exact A56
          have A78 : aR (ez_I h62 117) rm 0 18 := by rw [zI_fn e63 117 (by decide)]; exact A57
          clear A50
          clear A51
          clear A52
          clear A53
          clear A54
          clear A55
          clear A56
          clear A57
          refine gw_ld rfl rfl ?_
          refine z_gR (q := 87) (zT S64 (by decide) rfl) (zRf S64 (by decide) (by decide) rfl) (by decide) ?_
          refine gw_ld rfl rfl ?_
          refine gw_ld rfl rfl ?_
          refine gw_op rfl ?_
          generalize (_ : Int64).toInt32 = x79
          refine z_is (n := 12) (zT S64 (by decide) rfl) (zN S64 (by decide) rfl) (by omega) (fun h80 e81 => ?_)
          have S82 := zSh_set S64 e81
          have F83 := zG_setA F65 e81 (by decide) (by decide)
          have f84 : ez_I h80 71 15 = (ez_I h2 71 15) := (zI_ne e81 (by omega)).trans (f66)
          have f85 : ez_I h80 71 16 = (ez_I h2 71 16) := (zI_ne e81 (by omega)).trans (f67)
          have f86 : ez_I h80 71 56 = (ez_I h2 71 56) := (zI_ne e81 (by omega)).trans (f68)
          have f87 : ez_I h80 71 57 = (ez_I h2 71 57) := (zI_ne e81 (by omega)).trans (f69)
          have f88 : ez_I h80 71 58 = (ez_I h2 71 58) := (zI_ne e81 (by omega)).trans (f70)
          have A89 : ckI wy.toInt 1 (3 + (wS (ez_I h 77) (ez_I h 78) (ez_I h 79) (ez_I h 92) (ez_I h 94) (ez_I h80 106) (ez_I h 93) (ez_I h80 108) (ez_I h 95) to.toInt.toNat - wS (ez_I h 77) (ez_I h 78) (ez_I h 79) (ez_I h 92) (ez_I h 94) (ez_I h80 106) (ez_I h 93) (ez_I h80 108) (ez_I h 95) fr.toInt.toNat) + (ez_I h80 106 256).toInt) (42 + 8 * mn.toInt) := by rw [zI_fn e81 106 (by decide), zI_fn e81 108 (by decide)]; exact A71
          have A90 : ckI wy.toInt 2 (17 + 3 * t0.toInt + rS (ez_I h80 102) (ez_I h80 117) rm + (wS (ez_I h 77) (ez_I h 78) (ez_I h 79) (ez_I h 92) (ez_I h 94) (ez_I h80 100) (ez_I h 93) (ez_I h80 101) (ez_I h 95) to.toInt.toNat - wS (ez_I h 77) (ez_I h 78) (ez_I h 79) (ez_I h 92) (ez_I h 94) (ez_I h80 100) (ez_I h 93) (ez_I h80 101) (ez_I h 95) fr.toInt.toNat) + (ez_I h80 100 256).toInt) (42 + 8 * mn.toInt) := by rw [zI_fn e81 100 (by decide), zI_fn e81 101 (by decide), zI_fn e81 102 (by decide), zI_fn e81 117 (by decide)]; exact A72
          have A91 : aR (ez_I h80 106) 288 0 15 := by rw [zI_fn e81 106 (by decide)]; exact A73
          have A92 : aR (ez_I h80 108) 30 0 15 := by rw [zI_fn e81 108 (by decide)]; exact A74
          have A93 : aR (ez_I h80 100) 286 0 15 := by rw [zI_fn e81 100 (by decide)]; exact A75
          have A94 : aR (ez_I h80 101) 30 0 15 := by rw [zI_fn e81 101 (by decide)]; exact A76
          have A95 : aR (ez_I h80 102) 19 0 15 := by rw [zI_fn e81 102 (by decide)]; exact A77
          have A96 : aR (ez_I h80 117) rm 0 18 := by rw [zI_fn e81 117 (by decide)]; exact A78
          clear A71
          clear A72
          clear A73
          clear A74
          clear A75
          clear A76
          clear A77
          clear A78
          refine gw_ld rfl rfl ?_
          refine z_gR (q := 88) (zT S82 (by decide) rfl) (zRf S82 (by decide) (by decide) rfl) (by decide) ?_
          refine gw_ld rfl rfl ?_
          refine gw_ld rfl rfl ?_
          refine gw_op rfl ?_
          generalize (_ : Int64).toInt32 = x97
          refine z_is (n := 12) (zT S82 (by decide) rfl) (zN S82 (by decide) rfl) (by omega) (fun h98 e99 => ?_)
          have S100 := zSh_set S82 e99
          have F101 := zG_setA F83 e99 (by decide) (by decide)
          have f102 : ez_I h98 71 15 = (ez_I h2 71 15) := (zI_ne e99 (by omega)).trans (f84)
          have f103 : ez_I h98 71 16 = (ez_I h2 71 16) := (zI_ne e99 (by omega)).trans (f85)
          have f104 : ez_I h98 71 56 = (ez_I h2 71 56) := (zI_ne e99 (by omega)).trans (f86)
          have f105 : ez_I h98 71 57 = (ez_I h2 71 57) := (zI_ne e99 (by omega)).trans (f87)
          have f106 : ez_I h98 71 58 = (ez_I h2 71 58) := (zI_ne e99 (by omega)).trans (f88)
          have A107 : ckI wy.toInt 1 (3 + (wS (ez_I h 77) (ez_I h 78) (ez_I h 79) (ez_I h 92) (ez_I h 94) (ez_I h98 106) (ez_I h 93) (ez_I h98 108) (ez_I h 95) to.toInt.toNat - wS (ez_I h 77) (ez_I h 78) (ez_I h 79) (ez_I h 92) (ez_I h 94) (ez_I h98 106) (ez_I h 93) (ez_I h98 108) (ez_I h 95) fr.toInt.toNat) + (ez_I h98 106 256).toInt) (42 + 8 * mn.toInt) := by rw [zI_fn e99 106 (by decide), zI_fn e99 108 (by decide)]; exact A89
          have A108 : ckI wy.toInt 2 (17 + 3 * t0.toInt + rS (ez_I h98 102) (ez_I h98 117) rm + (wS (ez_I h 77) (ez_I h 78) (ez_I h 79) (ez_I h 92) (ez_I h 94) (ez_I h98 100) (ez_I h 93) (ez_I h98 101) (ez_I h 95) to.toInt.toNat - wS (ez_I h 77) (ez_I h 78) (ez_I h 79) (ez_I h 92) (ez_I h 94) (ez_I h98 100) (ez_I h 93) (ez_I h98 101) (ez_I h 95) fr.toInt.toNat) + (ez_I h98 100 256).toInt) (42 + 8 * mn.toInt) := by rw [zI_fn e99 100 (by decide), zI_fn e99 101 (by decide), zI_fn e99 102 (by decide), zI_fn e99 117 (by decide)]; exact A90
          have A109 : aR (ez_I h98 106) 288 0 15 := by rw [zI_fn e99 106 (by decide)]; exact A91
          have A110 : aR (ez_I h98 108) 30 0 15 := by rw [zI_fn e99 108 (by decide)]; exact A92
          have A111 : aR (ez_I h98 100) 286 0 15 := by rw [zI_fn e99 100 (by decide)]; exact A93
          have A112 : aR (ez_I h98 101) 30 0 15 := by rw [zI_fn e99 101 (by decide)]; exact A94
          have A113 : aR (ez_I h98 102) 19 0 15 := by rw [zI_fn e99 102 (by decide)]; exact A95
          have A114 : aR (ez_I h98 117) rm 0 18 := by rw [zI_fn e99 117 (by decide)]; exact A96
          clear A89
          clear A90
          clear A91
          clear A92
          clear A93
          clear A94
          clear A95
          clear A96
          refine z_C (m := 0) rfl rfl (fun x115 ex115 => ?_)
          refine gw_st rfl rfl rfl ?_
          show ez_gw _ _ _ _ _ _ _ _ [some (.ref 71), some (.int fr), some (.int to), some (.int pl), some (.int mn), some (.int la), some (.int no), some (.long dy), none, some (.int t0), some (.long fx), none, some (.long sd), none, some (.int wy), some (.int (ez_I h2 71 15)), some (.int x115)] _ _ _
          have t116 := congrArg Int32.toInt (f102)
          have t117 := congrArg Int32.toInt (f103)
          have t118 := congrArg Int32.toInt (f104)
          have t119 := congrArg Int32.toInt (f105)
          have t120 := congrArg Int32.toInt (f106)
          exact ez_Wp_at ((m_wblock_L9 (fr := fr) (to := to) (pl := pl) (mn := mn) (la := la) S M6 MC hq hr hp hmn hbk hb K (((1000 - x115.toInt)).toNat + 1)) h98 no dy t0 fx sd wy (ez_I h2 71 15) x115 rm F101 (by omega) A107 A108 A109 A110 A111 A112 A113 A114 (by omega)) rfl
        · have c60 : ¬ (wy.toInt ≠ x59.toInt) := c60
          refine gw_ld rfl rfl ?_
          refine z_go ?_
          refine gw_skip _ ?_
          refine gw_op rfl ?_
          generalize (_ : Int64).toInt32 = x121
          refine z_is (n := 12) (zT S43 (by decide) rfl) (zN S43 (by decide) rfl) (by omega) (fun h122 e123 => ?_)
          have S124 := zSh_set S43 e123
          have F125 := zG_setA F44 e123 (by decide) (by decide)
          have f126 : ez_I h122 71 15 = (ez_I h2 71 15) := (zI_ne e123 (by omega)).trans (f45)
          have f127 : ez_I h122 71 16 = (ez_I h2 71 16) := (zI_ne e123 (by omega)).trans (f46)
          have f128 : ez_I h122 71 56 = (ez_I h2 71 56) := (zI_ne e123 (by omega)).trans (f47)
          have f129 : ez_I h122 71 57 = (ez_I h2 71 57) := (zI_ne e123 (by omega)).trans (f48)
          have f130 : ez_I h122 71 58 = (ez_I h2 71 58) := (zI_ne e123 (by omega)).trans (f49)
          have A131 : ckI wy.toInt 1 (3 + (wS (ez_I h 77) (ez_I h 78) (ez_I h 79) (ez_I h 92) (ez_I h 94) (ez_I h122 106) (ez_I h 93) (ez_I h122 108) (ez_I h 95) to.toInt.toNat - wS (ez_I h 77) (ez_I h 78) (ez_I h 79) (ez_I h 92) (ez_I h 94) (ez_I h122 106) (ez_I h 93) (ez_I h122 108) (ez_I h 95) fr.toInt.toNat) + (ez_I h122 106 256).toInt) (42 + 8 * mn.toInt) := by rw [zI_fn e123 106 (by decide), zI_fn e123 108 (by decide)]; exact A50
          have A132 : ckI wy.toInt 2 (17 + 3 * t0.toInt + rS (ez_I h122 102) (ez_I h122 117) rm + (wS (ez_I h 77) (ez_I h 78) (ez_I h 79) (ez_I h 92) (ez_I h 94) (ez_I h122 100) (ez_I h 93) (ez_I h122 101) (ez_I h 95) to.toInt.toNat - wS (ez_I h 77) (ez_I h 78) (ez_I h 79) (ez_I h 92) (ez_I h 94) (ez_I h122 100) (ez_I h 93) (ez_I h122 101) (ez_I h 95) fr.toInt.toNat) + (ez_I h122 100 256).toInt) (42 + 8 * mn.toInt) := by rw [zI_fn e123 100 (by decide), zI_fn e123 101 (by decide), zI_fn e123 102 (by decide), zI_fn e123 117 (by decide)]; exact A51
          have A133 : aR (ez_I h122 106) 288 0 15 := by rw [zI_fn e123 106 (by decide)]; exact A52
          have A134 : aR (ez_I h122 108) 30 0 15 := by rw [zI_fn e123 108 (by decide)]; exact A53
          have A135 : aR (ez_I h122 100) 286 0 15 := by rw [zI_fn e123 100 (by decide)]; exact A54
          have A136 : aR (ez_I h122 101) 30 0 15 := by rw [zI_fn e123 101 (by decide)]; exact A55
          have A137 : aR (ez_I h122 102) 19 0 15 := by rw [zI_fn e123 102 (by decide)]; exact A56
          have A138 : aR (ez_I h122 117) rm 0 18 := by rw [zI_fn e123 117 (by decide)]; exact A57
          clear A50
          clear A51
          clear A52
          clear A53
          clear A54
          clear A55
          clear A56
          clear A57
          refine gw_ld rfl rfl ?_
          refine z_gR (q := 87) (zT S124 (by decide) rfl) (zRf S124 (by decide) (by decide) rfl) (by decide) ?_
          refine gw_ld rfl rfl ?_
          refine gw_ld rfl rfl ?_
          refine gw_op rfl ?_
          generalize (_ : Int64).toInt32 = x139
          refine z_is (n := 12) (zT S124 (by decide) rfl) (zN S124 (by decide) rfl) (by omega) (fun h140 e141 => ?_)
          have S142 := zSh_set S124 e141
          have F143 := zG_setA F125 e141 (by decide) (by decide)
          have f144 : ez_I h140 71 15 = (ez_I h2 71 15) := (zI_ne e141 (by omega)).trans (f126)
          have f145 : ez_I h140 71 16 = (ez_I h2 71 16) := (zI_ne e141 (by omega)).trans (f127)
          have f146 : ez_I h140 71 56 = (ez_I h2 71 56) := (zI_ne e141 (by omega)).trans (f128)
          have f147 : ez_I h140 71 57 = (ez_I h2 71 57) := (zI_ne e141 (by omega)).trans (f129)
          have f148 : ez_I h140 71 58 = (ez_I h2 71 58) := (zI_ne e141 (by omega)).trans (f130)
          have A149 : ckI wy.toInt 1 (3 + (wS (ez_I h 77) (ez_I h 78) (ez_I h 79) (ez_I h 92) (ez_I h 94) (ez_I h140 106) (ez_I h 93) (ez_I h140 108) (ez_I h 95) to.toInt.toNat - wS (ez_I h 77) (ez_I h 78) (ez_I h 79) (ez_I h 92) (ez_I h 94) (ez_I h140 106) (ez_I h 93) (ez_I h140 108) (ez_I h 95) fr.toInt.toNat) + (ez_I h140 106 256).toInt) (42 + 8 * mn.toInt) := by rw [zI_fn e141 106 (by decide), zI_fn e141 108 (by decide)]; exact A131
          have A150 : ckI wy.toInt 2 (17 + 3 * t0.toInt + rS (ez_I h140 102) (ez_I h140 117) rm + (wS (ez_I h 77) (ez_I h 78) (ez_I h 79) (ez_I h 92) (ez_I h 94) (ez_I h140 100) (ez_I h 93) (ez_I h140 101) (ez_I h 95) to.toInt.toNat - wS (ez_I h 77) (ez_I h 78) (ez_I h 79) (ez_I h 92) (ez_I h 94) (ez_I h140 100) (ez_I h 93) (ez_I h140 101) (ez_I h 95) fr.toInt.toNat) + (ez_I h140 100 256).toInt) (42 + 8 * mn.toInt) := by rw [zI_fn e141 100 (by decide), zI_fn e141 101 (by decide), zI_fn e141 102 (by decide), zI_fn e141 117 (by decide)]; exact A132
          have A151 : aR (ez_I h140 106) 288 0 15 := by rw [zI_fn e141 106 (by decide)]; exact A133
          have A152 : aR (ez_I h140 108) 30 0 15 := by rw [zI_fn e141 108 (by decide)]; exact A134
          have A153 : aR (ez_I h140 100) 286 0 15 := by rw [zI_fn e141 100 (by decide)]; exact A135
          have A154 : aR (ez_I h140 101) 30 0 15 := by rw [zI_fn e141 101 (by decide)]; exact A136
          have A155 : aR (ez_I h140 102) 19 0 15 := by rw [zI_fn e141 102 (by decide)]; exact A137
          have A156 : aR (ez_I h140 117) rm 0 18 := by rw [zI_fn e141 117 (by decide)]; exact A138
          clear A131
          clear A132
          clear A133
          clear A134
          clear A135
          clear A136
          clear A137
          clear A138
          refine gw_ld rfl rfl ?_
          refine z_gR (q := 88) (zT S142 (by decide) rfl) (zRf S142 (by decide) (by decide) rfl) (by decide) ?_
          refine gw_ld rfl rfl ?_
          refine gw_ld rfl rfl ?_
          refine gw_op rfl ?_
          generalize (_ : Int64).toInt32 = x157
          refine z_is (n := 12) (zT S142 (by decide) rfl) (zN S142 (by decide) rfl) (by omega) (fun h158 e159 => ?_)
          have S160 := zSh_set S142 e159
          have F161 := zG_setA F143 e159 (by decide) (by decide)
          have f162 : ez_I h158 71 15 = (ez_I h2 71 15) := (zI_ne e159 (by omega)).trans (f144)
          have f163 : ez_I h158 71 16 = (ez_I h2 71 16) := (zI_ne e159 (by omega)).trans (f145)
          have f164 : ez_I h158 71 56 = (ez_I h2 71 56) := (zI_ne e159 (by omega)).trans (f146)
          have f165 : ez_I h158 71 57 = (ez_I h2 71 57) := (zI_ne e159 (by omega)).trans (f147)
          have f166 : ez_I h158 71 58 = (ez_I h2 71 58) := (zI_ne e159 (by omega)).trans (f148)
          have A167 : ckI wy.toInt 1 (3 + (wS (ez_I h 77) (ez_I h 78) (ez_I h 79) (ez_I h 92) (ez_I h 94) (ez_I h158 106) (ez_I h 93) (ez_I h158 108) (ez_I h 95) to.toInt.toNat - wS (ez_I h 77) (ez_I h 78) (ez_I h 79) (ez_I h 92) (ez_I h 94) (ez_I h158 106) (ez_I h 93) (ez_I h158 108) (ez_I h 95) fr.toInt.toNat) + (ez_I h158 106 256).toInt) (42 + 8 * mn.toInt) := by rw [zI_fn e159 106 (by decide), zI_fn e159 108 (by decide)]; exact A149
          have A168 : ckI wy.toInt 2 (17 + 3 * t0.toInt + rS (ez_I h158 102) (ez_I h158 117) rm + (wS (ez_I h 77) (ez_I h 78) (ez_I h 79) (ez_I h 92) (ez_I h 94) (ez_I h158 100) (ez_I h 93) (ez_I h158 101) (ez_I h 95) to.toInt.toNat - wS (ez_I h 77) (ez_I h 78) (ez_I h 79) (ez_I h 92) (ez_I h 94) (ez_I h158 100) (ez_I h 93) (ez_I h158 101) (ez_I h 95) fr.toInt.toNat) + (ez_I h158 100 256).toInt) (42 + 8 * mn.toInt) := by rw [zI_fn e159 100 (by decide), zI_fn e159 101 (by decide), zI_fn e159 102 (by decide), zI_fn e159 117 (by decide)]; exact A150
          have A169 : aR (ez_I h158 106) 288 0 15 := by rw [zI_fn e159 106 (by decide)]; exact A151
          have A170 : aR (ez_I h158 108) 30 0 15 := by rw [zI_fn e159 108 (by decide)]; exact A152
          have A171 : aR (ez_I h158 100) 286 0 15 := by rw [zI_fn e159 100 (by decide)]; exact A153
          have A172 : aR (ez_I h158 101) 30 0 15 := by rw [zI_fn e159 101 (by decide)]; exact A154
          have A173 : aR (ez_I h158 102) 19 0 15 := by rw [zI_fn e159 102 (by decide)]; exact A155
          have A174 : aR (ez_I h158 117) rm 0 18 := by rw [zI_fn e159 117 (by decide)]; exact A156
          clear A149
          clear A150
          clear A151
          clear A152
          clear A153
          clear A154
          clear A155
          clear A156
          refine z_C (m := 0) rfl rfl (fun x175 ex175 => ?_)
          refine gw_st rfl rfl rfl ?_
          show ez_gw _ _ _ _ _ _ _ _ [some (.ref 71), some (.int fr), some (.int to), some (.int pl), some (.int mn), some (.int la), some (.int no), some (.long dy), none, some (.int t0), some (.long fx), none, some (.long sd), none, some (.int wy), some (.int (ez_I h2 71 15)), some (.int x175)] _ _ _
          have t176 := congrArg Int32.toInt (f162)
          have t177 := congrArg Int32.toInt (f163)
          have t178 := congrArg Int32.toInt (f164)
          have t179 := congrArg Int32.toInt (f165)
          have t180 := congrArg Int32.toInt (f166)
          exact ez_Wp_at ((m_wblock_L9 (fr := fr) (to := to) (pl := pl) (mn := mn) (la := la) S M6 MC hq hr hp hmn hbk hb K (((1000 - x175.toInt)).toNat + 1)) h158 no dy t0 fx sd wy (ez_I h2 71 15) x175 rm F161 (by omega) A167 A168 A169 A170 A171 A172 A173 A174 (by omega)) rfl
      · have c58 : ¬ (wy.toInt ≠ 0) := c58
        refine gw_ld rfl rfl ?_
        refine z_go ?_
        refine gw_skip _ ?_
        refine gw_op rfl ?_
        generalize (_ : Int64).toInt32 = x181
        refine z_is (n := 12) (zT S43 (by decide) rfl) (zN S43 (by decide) rfl) (by omega) (fun h182 e183 => ?_)
        have S184 := zSh_set S43 e183
        have F185 := zG_setA F44 e183 (by decide) (by decide)
        have f186 : ez_I h182 71 15 = (ez_I h2 71 15) := (zI_ne e183 (by omega)).trans (f45)
        have f187 : ez_I h182 71 16 = (ez_I h2 71 16) := (zI_ne e183 (by omega)).trans (f46)
        have f188 : ez_I h182 71 56 = (ez_I h2 71 56) := (zI_ne e183 (by omega)).trans (f47)
        have f189 : ez_I h182 71 57 = (ez_I h2 71 57) := (zI_ne e183 (by omega)).trans (f48)
        have f190 : ez_I h182 71 58 = (ez_I h2 71 58) := (zI_ne e183 (by omega)).trans (f49)
        have A191 : ckI wy.toInt 1 (3 + (wS (ez_I h 77) (ez_I h 78) (ez_I h 79) (ez_I h 92) (ez_I h 94) (ez_I h182 106) (ez_I h 93) (ez_I h182 108) (ez_I h 95) to.toInt.toNat - wS (ez_I h 77) (ez_I h 78) (ez_I h 79) (ez_I h 92) (ez_I h 94) (ez_I h182 106) (ez_I h 93) (ez_I h182 108) (ez_I h 95) fr.toInt.toNat) + (ez_I h182 106 256).toInt) (42 + 8 * mn.toInt) := by rw [zI_fn e183 106 (by decide), zI_fn e183 108 (by decide)]; exact A50
        have A192 : ckI wy.toInt 2 (17 + 3 * t0.toInt + rS (ez_I h182 102) (ez_I h182 117) rm + (wS (ez_I h 77) (ez_I h 78) (ez_I h 79) (ez_I h 92) (ez_I h 94) (ez_I h182 100) (ez_I h 93) (ez_I h182 101) (ez_I h 95) to.toInt.toNat - wS (ez_I h 77) (ez_I h 78) (ez_I h 79) (ez_I h 92) (ez_I h 94) (ez_I h182 100) (ez_I h 93) (ez_I h182 101) (ez_I h 95) fr.toInt.toNat) + (ez_I h182 100 256).toInt) (42 + 8 * mn.toInt) := by rw [zI_fn e183 100 (by decide), zI_fn e183 101 (by decide), zI_fn e183 102 (by decide), zI_fn e183 117 (by decide)]; exact A51
        have A193 : aR (ez_I h182 106) 288 0 15 := by rw [zI_fn e183 106 (by decide)]; exact A52
        have A194 : aR (ez_I h182 108) 30 0 15 := by rw [zI_fn e183 108 (by decide)]; exact A53
        have A195 : aR (ez_I h182 100) 286 0 15 := by rw [zI_fn e183 100 (by decide)]; exact A54
        have A196 : aR (ez_I h182 101) 30 0 15 := by rw [zI_fn e183 101 (by decide)]; exact A55
        have A197 : aR (ez_I h182 102) 19 0 15 := by rw [zI_fn e183 102 (by decide)]; exact A56
        have A198 : aR (ez_I h182 117) rm 0 18 := by rw [zI_fn e183 117 (by decide)]; exact A57
        clear A50
        clear A51
        clear A52
        clear A53
        clear A54
        clear A55
        clear A56
        clear A57
        refine gw_ld rfl rfl ?_
        refine z_gR (q := 87) (zT S184 (by decide) rfl) (zRf S184 (by decide) (by decide) rfl) (by decide) ?_
        refine gw_ld rfl rfl ?_
        refine gw_ld rfl rfl ?_
        refine gw_op rfl ?_
        generalize (_ : Int64).toInt32 = x199
        refine z_is (n := 12) (zT S184 (by decide) rfl) (zN S184 (by decide) rfl) (by omega) (fun h200 e201 => ?_)
        have S202 := zSh_set S184 e201
        have F203 := zG_setA F185 e201 (by decide) (by decide)
        have f204 : ez_I h200 71 15 = (ez_I h2 71 15) := (zI_ne e201 (by omega)).trans (f186)
        have f205 : ez_I h200 71 16 = (ez_I h2 71 16) := (zI_ne e201 (by omega)).trans (f187)
        have f206 : ez_I h200 71 56 = (ez_I h2 71 56) := (zI_ne e201 (by omega)).trans (f188)
        have f207 : ez_I h200 71 57 = (ez_I h2 71 57) := (zI_ne e201 (by omega)).trans (f189)
        have f208 : ez_I h200 71 58 = (ez_I h2 71 58) := (zI_ne e201 (by omega)).trans (f190)
        have A209 : ckI wy.toInt 1 (3 + (wS (ez_I h 77) (ez_I h 78) (ez_I h 79) (ez_I h 92) (ez_I h 94) (ez_I h200 106) (ez_I h 93) (ez_I h200 108) (ez_I h 95) to.toInt.toNat - wS (ez_I h 77) (ez_I h 78) (ez_I h 79) (ez_I h 92) (ez_I h 94) (ez_I h200 106) (ez_I h 93) (ez_I h200 108) (ez_I h 95) fr.toInt.toNat) + (ez_I h200 106 256).toInt) (42 + 8 * mn.toInt) := by rw [zI_fn e201 106 (by decide), zI_fn e201 108 (by decide)]; exact A191
        have A210 : ckI wy.toInt 2 (17 + 3 * t0.toInt + rS (ez_I h200 102) (ez_I h200 117) rm + (wS (ez_I h 77) (ez_I h 78) (ez_I h 79) (ez_I h 92) (ez_I h 94) (ez_I h200 100) (ez_I h 93) (ez_I h200 101) (ez_I h 95) to.toInt.toNat - wS (ez_I h 77) (ez_I h 78) (ez_I h 79) (ez_I h 92) (ez_I h 94) (ez_I h200 100) (ez_I h 93) (ez_I h200 101) (ez_I h 95) fr.toInt.toNat) + (ez_I h200 100 256).toInt) (42 + 8 * mn.toInt) := by rw [zI_fn e201 100 (by decide), zI_fn e201 101 (by decide), zI_fn e201 102 (by decide), zI_fn e201 117 (by decide)]; exact A192
        have A211 : aR (ez_I h200 106) 288 0 15 := by rw [zI_fn e201 106 (by decide)]; exact A193
        have A212 : aR (ez_I h200 108) 30 0 15 := by rw [zI_fn e201 108 (by decide)]; exact A194
        have A213 : aR (ez_I h200 100) 286 0 15 := by rw [zI_fn e201 100 (by decide)]; exact A195
        have A214 : aR (ez_I h200 101) 30 0 15 := by rw [zI_fn e201 101 (by decide)]; exact A196
        have A215 : aR (ez_I h200 102) 19 0 15 := by rw [zI_fn e201 102 (by decide)]; exact A197
        have A216 : aR (ez_I h200 117) rm 0 18 := by rw [zI_fn e201 117 (by decide)]; exact A198
        clear A191
        clear A192
        clear A193
        clear A194
        clear A195
        clear A196
        clear A197
        clear A198
        refine gw_ld rfl rfl ?_
        refine z_gR (q := 88) (zT S202 (by decide) rfl) (zRf S202 (by decide) (by decide) rfl) (by decide) ?_
        refine gw_ld rfl rfl ?_
        refine gw_ld rfl rfl ?_
        refine gw_op rfl ?_
        generalize (_ : Int64).toInt32 = x217
        refine z_is (n := 12) (zT S202 (by decide) rfl) (zN S202 (by decide) rfl) (by omega) (fun h218 e219 => ?_)
        have S220 := zSh_set S202 e219
        have F221 := zG_setA F203 e219 (by decide) (by decide)
        have f222 : ez_I h218 71 15 = (ez_I h2 71 15) := (zI_ne e219 (by omega)).trans (f204)
        have f223 : ez_I h218 71 16 = (ez_I h2 71 16) := (zI_ne e219 (by omega)).trans (f205)
        have f224 : ez_I h218 71 56 = (ez_I h2 71 56) := (zI_ne e219 (by omega)).trans (f206)
        have f225 : ez_I h218 71 57 = (ez_I h2 71 57) := (zI_ne e219 (by omega)).trans (f207)
        have f226 : ez_I h218 71 58 = (ez_I h2 71 58) := (zI_ne e219 (by omega)).trans (f208)
        have A227 : ckI wy.toInt 1 (3 + (wS (ez_I h 77) (ez_I h 78) (ez_I h 79) (ez_I h 92) (ez_I h 94) (ez_I h218 106) (ez_I h 93) (ez_I h218 108) (ez_I h 95) to.toInt.toNat - wS (ez_I h 77) (ez_I h 78) (ez_I h 79) (ez_I h 92) (ez_I h 94) (ez_I h218 106) (ez_I h 93) (ez_I h218 108) (ez_I h 95) fr.toInt.toNat) + (ez_I h218 106 256).toInt) (42 + 8 * mn.toInt) := by rw [zI_fn e219 106 (by decide), zI_fn e219 108 (by decide)]; exact A209
        have A228 : ckI wy.toInt 2 (17 + 3 * t0.toInt + rS (ez_I h218 102) (ez_I h218 117) rm + (wS (ez_I h 77) (ez_I h 78) (ez_I h 79) (ez_I h 92) (ez_I h 94) (ez_I h218 100) (ez_I h 93) (ez_I h218 101) (ez_I h 95) to.toInt.toNat - wS (ez_I h 77) (ez_I h 78) (ez_I h 79) (ez_I h 92) (ez_I h 94) (ez_I h218 100) (ez_I h 93) (ez_I h218 101) (ez_I h 95) fr.toInt.toNat) + (ez_I h218 100 256).toInt) (42 + 8 * mn.toInt) := by rw [zI_fn e219 100 (by decide), zI_fn e219 101 (by decide), zI_fn e219 102 (by decide), zI_fn e219 117 (by decide)]; exact A210
        have A229 : aR (ez_I h218 106) 288 0 15 := by rw [zI_fn e219 106 (by decide)]; exact A211
        have A230 : aR (ez_I h218 108) 30 0 15 := by rw [zI_fn e219 108 (by decide)]; exact A212
        have A231 : aR (ez_I h218 100) 286 0 15 := by rw [zI_fn e219 100 (by decide)]; exact A213
        have A232 : aR (ez_I h218 101) 30 0 15 := by rw [zI_fn e219 101 (by decide)]; exact A214
        have A233 : aR (ez_I h218 102) 19 0 15 := by rw [zI_fn e219 102 (by decide)]; exact A215
        have A234 : aR (ez_I h218 117) rm 0 18 := by rw [zI_fn e219 117 (by decide)]; exact A216
        clear A209
        clear A210
        clear A211
        clear A212
        clear A213
        clear A214
        clear A215
        clear A216
        refine z_C (m := 0) rfl rfl (fun x235 ex235 => ?_)
        refine gw_st rfl rfl rfl ?_
        show ez_gw _ _ _ _ _ _ _ _ [some (.ref 71), some (.int fr), some (.int to), some (.int pl), some (.int mn), some (.int la), some (.int no), some (.long dy), none, some (.int t0), some (.long fx), none, some (.long sd), none, some (.int wy), some (.int (ez_I h2 71 15)), some (.int x235)] _ _ _
        have t236 := congrArg Int32.toInt (f222)
        have t237 := congrArg Int32.toInt (f223)
        have t238 := congrArg Int32.toInt (f224)
        have t239 := congrArg Int32.toInt (f225)
        have t240 := congrArg Int32.toInt (f226)
        exact ez_Wp_at ((m_wblock_L9 (fr := fr) (to := to) (pl := pl) (mn := mn) (la := la) S M6 MC hq hr hp hmn hbk hb K (((1000 - x235.toInt)).toNat + 1)) h218 no dy t0 fx sd wy (ez_I h2 71 15) x235 rm F221 (by omega) A227 A228 A229 A230 A231 A232 A233 A234 (by omega)) rfl
set_option maxRecDepth 4000 in
set_option maxHeartbeats 20000000 in
theorem m_wblock_L7 {E : Nat → Nat × (Nat → Int32)} {d : Nat} {Q : ez_Q} {h : ez_H} {fr : Int32} {to : Int32} {pl : Int32} {mn : Int32} {la : Int32} (S : zSh h) {n : Nat} (M6 : 0 ≤ (ez_I h 71 6).toInt ∧ (ez_I h 71 6).toInt ≤ 6000) (MC : cC h) (hq : pQ (ez_I h 77) (ez_I h 78) (ez_I h 79) (ez_I h 72) n (ez_I h 71 6).toInt) (hr : 0 ≤ fr.toInt ∧ fr.toInt ≤ to.toInt ∧ to.toInt ≤ n ∧ n ≤ 6000 ∧ to.toInt - fr.toInt ≤ 600) (hp : pl.toInt = pS (ez_I h 77) fr.toInt.toNat) (hmn : mn.toInt = pS (ez_I h 77) to.toInt.toNat - pS (ez_I h 77) fr.toInt.toNat) (hbk : 0 ≤ (ez_I h 71 15).toInt ∧ (ez_I h 71 15).toInt < 12) (hb : 0 ≤ (ez_I h 71 16).toInt ∧ (ez_I h 71 16).toInt + 42 + 8 * mn.toInt ≤ 64000) (K : ∀ h2, zG (fun k => k = 15 ∨ k = 16 ∨ k = 56 ∨ k = 57 ∨ k = 58) (fun q => q = 75 ∨ 83 ≤ q ∧ q ≤ 91 ∨ 97 ≤ q ∧ q ≤ 119) h h2 → (0 ≤ (ez_I h2 71 16).toInt ∧ (ez_I h2 71 16).toInt ≤ (ez_I h 71 16).toInt + 42 + 8 * mn.toInt ∧ (ez_I h2 71 15).toInt = (ez_I h 71 15).toInt + 1) → Q (.inl none) h2) : ∀ N : Nat, (∀ (h2 : ez_H) (no : Int32) (dy : Int64) (t0 : Int32) (k : Int32) (l11 : Option Value) (l12 : Option Value) (l13 : Option Value) (l14 : Option Value) (l15 : Option Value) (l16 : Option Value) (rm : Nat), zG (fun k => k = 15 ∨ k = 16 ∨ k = 56 ∨ k = 57 ∨ k = 58) (fun q => q = 75 ∨ 83 ≤ q ∧ q ≤ 91 ∨ 97 ≤ q ∧ q ≤ 119) h h2 → (0 ≤ k.toInt ∧ k.toInt ≤ 30 ∧ 0 ≤ dy.toInt ∧ dy.toInt ≤ 40000000 ∧ (ez_I h2 71 15).toInt = (ez_I h 71 15).toInt ∧ (ez_I h2 71 16).toInt = (ez_I h 71 16).toInt ∧ 257 ≤ (ez_I h2 71 57).toInt ∧ (ez_I h2 71 57).toInt ≤ 286 ∧ 1 ≤ (ez_I h2 71 58).toInt ∧ (ez_I h2 71 58).toInt ≤ 30 ∧ (ez_I h2 71 56).toInt = rm ∧ rm ≤ 316 ∧ 4 ≤ t0.toInt ∧ t0.toInt ≤ 19) → cE (ez_I h2 97) (ez_I h2 98) (ez_I h 77) (ez_I h 78) (ez_I h 79) (ez_I h 92) (ez_I h 94) fr.toInt.toNat to.toInt.toNat → aR (ez_I h2 100) 286 0 15 → aR (ez_I h2 101) 30 0 15 → dy.toInt = wsm (ez_I h2 97) (clI (ez_I h2 100) (ez_I h 93)) 286 + wsm (ez_I h2 98) (cbI (ez_I h2 101) (ez_I h 95)) 30 + (17 + 3 * t0.toInt) + wsm (ez_I h2 99) (rcI (ez_I h2 102)) 19 → rQ (ez_I h2 99) (ez_I h2 117) rm → aR (ez_I h2 102) 19 0 15 → aR (ez_I h2 106) 288 0 15 → aR (ez_I h2 108) k.toInt.toNat 0 15 → (1000 - k.toInt) < (N : Int) → pw E (d + 2) 44 442 [some (.ref 71), some (.int fr), some (.int to), some (.int pl), some (.int mn), some (.int la), some (.int no), some (.long dy), none, some (.int t0), some (.int k), l11, l12, l13, l14, l15, l16] [] h2 Q) := by
  intro N
  induction N with
  | zero => exact fun h2 no dy t0 k l11 l12 l13 l14 l15 l16 rm F hinv A_ce A_L A_B A_d2 A_rq A_r A_f A_fb hm => absurd hm (by have w_no := z_rng no; have w_t0 := z_rng t0; have w_k := z_rng k; have gfr := z_rng fr; have gto := z_rng to; have gpl := z_rng pl; have gmn := z_rng mn; have gla := z_rng la; have MC1 := MC.1; have hps := pQ_rng hq (a := fr.toInt.toNat) (b := to.toInt.toNat) (by omega) (by omega); omega)
  | succ N ih =>
    refine fun h2 no dy t0 k l11 l12 l13 l14 l15 l16 rm F hinv A_ce A_L A_B A_d2 A_rq A_r A_f A_fb hm => ?_
    · skip
      have w_no := z_rng no
      have w_t0 := z_rng t0
      have w_k := z_rng k
      have gfr := z_rng fr
      have gto := z_rng to
      have gpl := z_rng pl
      have gmn := z_rng mn
      have gla := z_rng la
      have MC1 := MC.1
      have hps := pQ_rng hq (a := fr.toInt.toNat) (b := to.toInt.toNat) (by omega) (by omega)
      have S2 := zG_sh F S
      apply ez_Wp_in
      show ez_gw _ _ _ _ _ _ (cz_44) _ _ _ _ _
      refine gw_skip _ ?_
      have r1 := z_rng (ez_I h2 71 15)
      have r2 := z_rng (ez_I h2 71 16)
      have r3 := z_rng (ez_I h2 71 56)
      have r4 := z_rng (ez_I h2 71 57)
      have r5 := z_rng (ez_I h2 71 58)
      refine gw_ld rfl rfl ?_
      refine z_C (m := 30) rfl rfl (fun x6 ex6 => ?_)
      refine z_b2 (fun c7 => ?_) (fun c7 => ?_)
      · have c7 : x6.toInt ≤ k.toInt := c7
        refine gw_skip _ ?_
        refine z_lC (m := 3) rfl rfl (fun lg8 elg8 => ?_)
        refine gw_ld rfl rfl ?_
        refine gw_ld rfl rfl ?_
        refine z_gR (q := 106) (zT S2 (by decide) rfl) (zRf S2 (by decide) (by decide) rfl) (by decide) ?_
        refine gw_ld rfl rfl ?_
        refine z_gR (q := 108) (zT S2 (by decide) rfl) (zRf S2 (by decide) (by decide) rfl) (by decide) ?_
        refine z_cl rfl rfl rfl rfl rfl rfl rfl rfl rfl rfl rfl (zT S2 (by decide) rfl) ?_
        refine m_cost S2 (show zA 106 288 from fun _ S => ⟨zT S (by decide) rfl, zN S (by decide) rfl⟩) (show zA 108 30 from fun _ S => ⟨zT S (by decide) rfl, zN S (by decide) rfl⟩) (by decide) (aR_le A_f (by omega)) (aR_le A_fb (by omega)) A_ce.1 A_ce.2.1 (cC_G MC F (fun q hq => by omega)) (fun lg9 k10 k11 => ?_)
        rw [zG_fn F 93 (by decide) (by decide), zG_fn F 95 (by decide) (by decide)] at k11
        refine z_ladd (by omega) (fun lg12 elg12 => ?_)
        refine gw_st rfl rfl rfl ?_
        show ez_gw _ _ _ _ _ _ _ _ [some (.ref 71), some (.int fr), some (.int to), some (.int pl), some (.int mn), some (.int la), some (.int no), some (.long dy), none, some (.int t0), some (.long lg12), none, l12, l13, l14, l15, l16] _ _ _
        refine gw_ld rfl rfl ?_
        refine z_gI2 (by decide) (zT S2 (by decide) rfl) (rfl) ?_
        refine z_C (m := 3) rfl rfl (fun x13 ex13 => ?_)
        refine z_add (by omega) (fun x14 ex14 => ?_)
        refine z_C (m := 7) rfl rfl (fun x15 ex15 => ?_)
        refine z_add (by omega) (fun x16 ex16 => ?_)
        refine z_C (m := 8) rfl rfl (fun x17 ex17 => ?_)
        refine z_dvP (c := 8) ex17 (by decide) (by omega) (fun x18 ex18 => ?_)
        refine z_C (m := 8) rfl rfl (fun x19 ex19 => ?_)
        refine z_mulR (c := 8) ex19 (by omega) (fun x20 ex20 => ?_)
        refine gw_ld rfl rfl ?_
        refine z_gI2 (by decide) (zT S2 (by decide) rfl) (rfl) ?_
        refine z_sub (by omega) (fun x21 ex21 => ?_)
        refine z_i2l (fun lg22 elg22 => ?_)
        refine z_lC (m := 32) rfl rfl (fun lg23 elg23 => ?_)
        refine z_ladd (by omega) (fun lg24 elg24 => ?_)
        refine z_lC (m := 8) rfl rfl (fun lg25 elg25 => ?_)
        refine gw_ld rfl rfl ?_
        refine z_i2l (fun lg26 elg26 => ?_)
        refine z_lmul (B := 1000000) (by omega) (by omega) (fun p28 ep28 np28 mp28 lg27 elg27 => ?_) (fun p hp => by rw [hp, elg25]; omega)
        have qp28 : p28 = 8 * lg26.toInt := by rw [ep28, elg25]
        refine z_ladd (by omega) (fun lg29 elg29 => ?_)
        refine gw_st rfl rfl rfl ?_
        show ez_gw _ _ _ _ _ _ _ _ [some (.ref 71), some (.int fr), some (.int to), some (.int pl), some (.int mn), some (.int la), some (.int no), some (.long dy), none, some (.int t0), some (.long lg12), none, some (.long lg29), none, l14, l15, l16] _ _ _
        refine gw_ld rfl rfl ?_
        refine gw_ld rfl rfl ?_
        refine z_lcmp (fun x30 ex30 => ?_)
        refine z_b1 (fun c31 => ?_) (fun c31 => ?_)
        · have c31 : 0 < x30.toInt := c31
          refine gw_skip _ ?_
          refine gw_ld rfl rfl ?_
          refine gw_ld rfl rfl ?_
          refine z_lcmp (fun x32 ex32 => ?_)
          refine z_b1 (fun c33 => ?_) (fun c33 => ?_)
          · have c33 : 0 < x32.toInt := c33
            refine gw_skip _ ?_
            refine z_C (m := 2) rfl rfl (fun x34 ex34 => ?_)
            refine gw_st rfl rfl rfl ?_
            show ez_gw _ _ _ _ _ _ _ _ [some (.ref 71), some (.int fr), some (.int to), some (.int pl), some (.int mn), some (.int la), some (.int no), some (.long dy), none, some (.int t0), some (.long lg12), none, some (.long lg29), none, some (.int x34), l15, l16] _ _ _
            exact ez_Wp_at ((m_wblock_L8 (fr := fr) (to := to) (pl := pl) (mn := mn) (la := la) S M6 MC hq hr hp hmn hbk hb K (((0 : Int)).toNat + 1)) h2 no dy t0 lg12 lg29 x34 (l15) (l16) rm F (by omega) (ckI_of fun q => by have a := cE_cost (L := ez_I h2 106) (X := ez_I h 93) (W := ez_I h2 108) (Z := ez_I h 95) (x := lg9.toInt) A_ce k11 rfl; omega) (ckI_of fun q => by have a := cE_cost (L := ez_I h2 100) (X := ez_I h 93) (W := ez_I h2 101) (Z := ez_I h 95) (x := dy.toInt - (17 + 3 * t0.toInt) - wsm (ez_I h2 99) (rcI (ez_I h2 102)) 19) A_ce (by have := A_d2; omega) rfl; have b : wsm (ez_I h2 99) (rcI (ez_I h2 102)) 19 = rS (ez_I h2 102) (ez_I h2 117) rm := A_rq.2.2 _; have d2 := A_d2; omega) (aR_le A_f (by omega)) (aR_le A_fb (by omega)) A_L A_B A_r (A_rq.2.1) (by omega)) rfl
          · have c33 : ¬ (0 < x32.toInt) := c33
            refine z_C (m := 1) rfl rfl (fun x35 ex35 => ?_)
            refine z_go ?_
            refine gw_skip _ ?_
            refine gw_st rfl rfl rfl ?_
            show ez_gw _ _ _ _ _ _ _ _ [some (.ref 71), some (.int fr), some (.int to), some (.int pl), some (.int mn), some (.int la), some (.int no), some (.long dy), none, some (.int t0), some (.long lg12), none, some (.long lg29), none, some (.int x35), l15, l16] _ _ _
            exact ez_Wp_at ((m_wblock_L8 (fr := fr) (to := to) (pl := pl) (mn := mn) (la := la) S M6 MC hq hr hp hmn hbk hb K (((0 : Int)).toNat + 1)) h2 no dy t0 lg12 lg29 x35 (l15) (l16) rm F (by omega) (ckI_of fun q => by have a := cE_cost (L := ez_I h2 106) (X := ez_I h 93) (W := ez_I h2 108) (Z := ez_I h 95) (x := lg9.toInt) A_ce k11 rfl; omega) (ckI_of fun q => by have a := cE_cost (L := ez_I h2 100) (X := ez_I h 93) (W := ez_I h2 101) (Z := ez_I h 95) (x := dy.toInt - (17 + 3 * t0.toInt) - wsm (ez_I h2 99) (rcI (ez_I h2 102)) 19) A_ce (by have := A_d2; omega) rfl; have b : wsm (ez_I h2 99) (rcI (ez_I h2 102)) 19 = rS (ez_I h2 102) (ez_I h2 117) rm := A_rq.2.2 _; have d2 := A_d2; omega) (aR_le A_f (by omega)) (aR_le A_fb (by omega)) A_L A_B A_r (A_rq.2.1) (by omega)) rfl
        · have c31 : ¬ (0 < x30.toInt) := c31
          refine gw_ld rfl rfl ?_
          refine gw_ld rfl rfl ?_
          refine z_lcmp (fun x36 ex36 => ?_)
          refine z_b1 (fun c37 => ?_) (fun c37 => ?_)
          · have c37 : 0 < x36.toInt := c37
            refine gw_skip _ ?_
            refine gw_ld rfl rfl ?_
            refine gw_ld rfl rfl ?_
            refine z_lcmp (fun x38 ex38 => ?_)
            refine z_b1 (fun c39 => ?_) (fun c39 => ?_)
            · have c39 : 0 < x38.toInt := c39
              refine gw_skip _ ?_
              refine z_C (m := 2) rfl rfl (fun x40 ex40 => ?_)
              refine gw_st rfl rfl rfl ?_
              show ez_gw _ _ _ _ _ _ _ _ [some (.ref 71), some (.int fr), some (.int to), some (.int pl), some (.int mn), some (.int la), some (.int no), some (.long dy), none, some (.int t0), some (.long lg12), none, some (.long lg29), none, some (.int x40), l15, l16] _ _ _
              exact ez_Wp_at ((m_wblock_L8 (fr := fr) (to := to) (pl := pl) (mn := mn) (la := la) S M6 MC hq hr hp hmn hbk hb K (((0 : Int)).toNat + 1)) h2 no dy t0 lg12 lg29 x40 (l15) (l16) rm F (by omega) (ckI_of fun q => by have a := cE_cost (L := ez_I h2 106) (X := ez_I h 93) (W := ez_I h2 108) (Z := ez_I h 95) (x := lg9.toInt) A_ce k11 rfl; omega) (ckI_of fun q => by have a := cE_cost (L := ez_I h2 100) (X := ez_I h 93) (W := ez_I h2 101) (Z := ez_I h 95) (x := dy.toInt - (17 + 3 * t0.toInt) - wsm (ez_I h2 99) (rcI (ez_I h2 102)) 19) A_ce (by have := A_d2; omega) rfl; have b : wsm (ez_I h2 99) (rcI (ez_I h2 102)) 19 = rS (ez_I h2 102) (ez_I h2 117) rm := A_rq.2.2 _; have d2 := A_d2; omega) (aR_le A_f (by omega)) (aR_le A_fb (by omega)) A_L A_B A_r (A_rq.2.1) (by omega)) rfl
            · have c39 : ¬ (0 < x38.toInt) := c39
              refine z_C (m := 1) rfl rfl (fun x41 ex41 => ?_)
              refine z_go ?_
              refine gw_skip _ ?_
              refine gw_st rfl rfl rfl ?_
              show ez_gw _ _ _ _ _ _ _ _ [some (.ref 71), some (.int fr), some (.int to), some (.int pl), some (.int mn), some (.int la), some (.int no), some (.long dy), none, some (.int t0), some (.long lg12), none, some (.long lg29), none, some (.int x41), l15, l16] _ _ _
              exact ez_Wp_at ((m_wblock_L8 (fr := fr) (to := to) (pl := pl) (mn := mn) (la := la) S M6 MC hq hr hp hmn hbk hb K (((0 : Int)).toNat + 1)) h2 no dy t0 lg12 lg29 x41 (l15) (l16) rm F (by omega) (ckI_of fun q => by have a := cE_cost (L := ez_I h2 106) (X := ez_I h 93) (W := ez_I h2 108) (Z := ez_I h 95) (x := lg9.toInt) A_ce k11 rfl; omega) (ckI_of fun q => by have a := cE_cost (L := ez_I h2 100) (X := ez_I h 93) (W := ez_I h2 101) (Z := ez_I h 95) (x := dy.toInt - (17 + 3 * t0.toInt) - wsm (ez_I h2 99) (rcI (ez_I h2 102)) 19) A_ce (by have := A_d2; omega) rfl; have b : wsm (ez_I h2 99) (rcI (ez_I h2 102)) 19 = rS (ez_I h2 102) (ez_I h2 117) rm := A_rq.2.2 _; have d2 := A_d2; omega) (aR_le A_f (by omega)) (aR_le A_fb (by omega)) A_L A_B A_r (A_rq.2.1) (by omega)) rfl
          · have c37 : ¬ (0 < x36.toInt) := c37
            refine z_C (m := 0) rfl rfl (fun x42 ex42 => ?_)
            refine z_go ?_
            refine gw_skip _ ?_
            refine gw_st rfl rfl rfl ?_
            show ez_gw _ _ _ _ _ _ _ _ [some (.ref 71), some (.int fr), some (.int to), some (.int pl), some (.int mn), some (.int la), some (.int no), some (.long dy), none, some (.int t0), some (.long lg12), none, some (.long lg29), none, some (.int x42), l15, l16] _ _ _
            exact ez_Wp_at ((m_wblock_L8 (fr := fr) (to := to) (pl := pl) (mn := mn) (la := la) S M6 MC hq hr hp hmn hbk hb K (((0 : Int)).toNat + 1)) h2 no dy t0 lg12 lg29 x42 (l15) (l16) rm F (by omega) (ckI_of fun q => by have a := cE_cost (L := ez_I h2 106) (X := ez_I h 93) (W := ez_I h2 108) (Z := ez_I h 95) (x := lg9.toInt) A_ce k11 rfl; omega) (ckI_of fun q => by have a := cE_cost (L := ez_I h2 100) (X := ez_I h 93) (W := ez_I h2 101) (Z := ez_I h 95) (x := dy.toInt - (17 + 3 * t0.toInt) - wsm (ez_I h2 99) (rcI (ez_I h2 102)) 19) A_ce (by have := A_d2; omega) rfl; have b : wsm (ez_I h2 99) (rcI (ez_I h2 102)) 19 = rS (ez_I h2 102) (ez_I h2 117) rm := A_rq.2.2 _; have d2 := A_d2; omega) (aR_le A_f (by omega)) (aR_le A_fb (by omega)) A_L A_B A_r (A_rq.2.1) (by omega)) rfl
      · have c7 : ¬ (x6.toInt ≤ k.toInt) := c7
        refine gw_ld rfl rfl ?_
        refine z_gR (q := 108) (zT S2 (by decide) rfl) (zRf S2 (by decide) (by decide) rfl) (by decide) ?_
        refine gw_ld rfl rfl ?_
        refine z_C (m := 5) rfl rfl (fun x43 ex43 => ?_)
        refine z_is (n := 30) (zT S2 (by decide) rfl) (zN S2 (by decide) rfl) (by omega) (fun h44 e45 => ?_)
        have S46 := zSh_set S2 e45
        have F47 := zG_setA F e45 (by decide) (by decide)
        have f48 : ez_I h44 71 15 = (ez_I h2 71 15) := (zI_ne e45 (by omega)).trans (rfl)
        have f49 : ez_I h44 71 16 = (ez_I h2 71 16) := (zI_ne e45 (by omega)).trans (rfl)
        have f50 : ez_I h44 71 56 = (ez_I h2 71 56) := (zI_ne e45 (by omega)).trans (rfl)
        have f51 : ez_I h44 71 57 = (ez_I h2 71 57) := (zI_ne e45 (by omega)).trans (rfl)
        have f52 : ez_I h44 71 58 = (ez_I h2 71 58) := (zI_ne e45 (by omega)).trans (rfl)
        have A53 : cE (ez_I h44 97) (ez_I h44 98) (ez_I h 77) (ez_I h 78) (ez_I h 79) (ez_I h 92) (ez_I h 94) fr.toInt.toNat to.toInt.toNat := by rw [zI_fn e45 97 (by decide), zI_fn e45 98 (by decide)]; exact A_ce
        have A54 : aR (ez_I h44 100) 286 0 15 := by rw [zI_fn e45 100 (by decide)]; exact A_L
        have A55 : aR (ez_I h44 101) 30 0 15 := by rw [zI_fn e45 101 (by decide)]; exact A_B
        have A56 : dy.toInt = wsm (ez_I h44 97) (clI (ez_I h44 100) (ez_I h 93)) 286 + wsm (ez_I h44 98) (cbI (ez_I h44 101) (ez_I h 95)) 30 + (17 + 3 * t0.toInt) + wsm (ez_I h44 99) (rcI (ez_I h44 102)) 19 := by rw [zI_fn e45 97 (by decide), zI_fn e45 98 (by decide), zI_fn e45 99 (by decide), zI_fn e45 100 (by decide), zI_fn e45 101 (by decide), zI_fn e45 102 (by decide)]; exact A_d2
        have A57 : rQ (ez_I h44 99) (ez_I h44 117) rm := by rw [zI_fn e45 99 (by decide), zI_fn e45 117 (by decide)]; exact A_rq
        have A58 : aR (ez_I h44 102) 19 0 15 := by rw [zI_fn e45 102 (by decide)]; exact A_r
        have A59 : aR (ez_I h44 106) 288 0 15 := by rw [zI_fn e45 106 (by decide)]; exact A_f
        have A60 : aR (ez_I h44 108) (k.toInt.toNat + 1) 0 15 := aR_ex A_fb e45 (by omega) (by omega)
        refine z_inc rfl (by rw [show (1 : Int32).toInt = 1 from rfl]; omega) (fun x61 ex61 => ?_)
        rw [show (1 : Int32).toInt = 1 from rfl] at ex61
        show ez_gw _ _ _ _ _ _ _ _ [some (.ref 71), some (.int fr), some (.int to), some (.int pl), some (.int mn), some (.int la), some (.int no), some (.long dy), none, some (.int t0), some (.int x61), l11, l12, l13, l14, l15, l16] _ _ _
        refine z_go ?_
        have t62 := congrArg Int32.toInt (f48)
        have t63 := congrArg Int32.toInt (f49)
        have t64 := congrArg Int32.toInt (f50)
        have t65 := congrArg Int32.toInt (f51)
        have t66 := congrArg Int32.toInt (f52)
        exact ih h44 no dy t0 x61 (l11) (l12) (l13) (l14) (l15) (l16) rm F47 (by omega) A53 A54 A55 A56 A57 A58 (aR_le A59 (by omega)) (aR_le A60 (by omega)) (by omega)
set_option maxRecDepth 4000 in
set_option maxHeartbeats 20000000 in
theorem m_wblock_L6 {E : Nat → Nat × (Nat → Int32)} {d : Nat} {Q : ez_Q} {h : ez_H} {fr : Int32} {to : Int32} {pl : Int32} {mn : Int32} {la : Int32} (S : zSh h) {n : Nat} (M6 : 0 ≤ (ez_I h 71 6).toInt ∧ (ez_I h 71 6).toInt ≤ 6000) (MC : cC h) (hq : pQ (ez_I h 77) (ez_I h 78) (ez_I h 79) (ez_I h 72) n (ez_I h 71 6).toInt) (hr : 0 ≤ fr.toInt ∧ fr.toInt ≤ to.toInt ∧ to.toInt ≤ n ∧ n ≤ 6000 ∧ to.toInt - fr.toInt ≤ 600) (hp : pl.toInt = pS (ez_I h 77) fr.toInt.toNat) (hmn : mn.toInt = pS (ez_I h 77) to.toInt.toNat - pS (ez_I h 77) fr.toInt.toNat) (hbk : 0 ≤ (ez_I h 71 15).toInt ∧ (ez_I h 71 15).toInt < 12) (hb : 0 ≤ (ez_I h 71 16).toInt ∧ (ez_I h 71 16).toInt + 42 + 8 * mn.toInt ≤ 64000) (K : ∀ h2, zG (fun k => k = 15 ∨ k = 16 ∨ k = 56 ∨ k = 57 ∨ k = 58) (fun q => q = 75 ∨ 83 ≤ q ∧ q ≤ 91 ∨ 97 ≤ q ∧ q ≤ 119) h h2 → (0 ≤ (ez_I h2 71 16).toInt ∧ (ez_I h2 71 16).toInt ≤ (ez_I h 71 16).toInt + 42 + 8 * mn.toInt ∧ (ez_I h2 71 15).toInt = (ez_I h 71 15).toInt + 1) → Q (.inl none) h2) : ∀ N : Nat, (∀ (h2 : ez_H) (no : Int32) (dy : Int64) (t0 : Int32) (k : Int32) (l11 : Option Value) (l12 : Option Value) (l13 : Option Value) (l14 : Option Value) (l15 : Option Value) (l16 : Option Value) (rm : Nat), zG (fun k => k = 15 ∨ k = 16 ∨ k = 56 ∨ k = 57 ∨ k = 58) (fun q => q = 75 ∨ 83 ≤ q ∧ q ≤ 91 ∨ 97 ≤ q ∧ q ≤ 119) h h2 → (0 ≤ k.toInt ∧ k.toInt ≤ 288 ∧ 0 ≤ dy.toInt ∧ dy.toInt ≤ 40000000 ∧ (ez_I h2 71 15).toInt = (ez_I h 71 15).toInt ∧ (ez_I h2 71 16).toInt = (ez_I h 71 16).toInt ∧ 257 ≤ (ez_I h2 71 57).toInt ∧ (ez_I h2 71 57).toInt ≤ 286 ∧ 1 ≤ (ez_I h2 71 58).toInt ∧ (ez_I h2 71 58).toInt ≤ 30 ∧ (ez_I h2 71 56).toInt = rm ∧ rm ≤ 316 ∧ 4 ≤ t0.toInt ∧ t0.toInt ≤ 19) → cE (ez_I h2 97) (ez_I h2 98) (ez_I h 77) (ez_I h 78) (ez_I h 79) (ez_I h 92) (ez_I h 94) fr.toInt.toNat to.toInt.toNat → aR (ez_I h2 100) 286 0 15 → aR (ez_I h2 101) 30 0 15 → dy.toInt = wsm (ez_I h2 97) (clI (ez_I h2 100) (ez_I h 93)) 286 + wsm (ez_I h2 98) (cbI (ez_I h2 101) (ez_I h 95)) 30 + (17 + 3 * t0.toInt) + wsm (ez_I h2 99) (rcI (ez_I h2 102)) 19 → rQ (ez_I h2 99) (ez_I h2 117) rm → aR (ez_I h2 102) 19 0 15 → aR (ez_I h2 106) k.toInt.toNat 0 15 → (1000 - k.toInt) < (N : Int) → pw E (d + 2) 44 377 [some (.ref 71), some (.int fr), some (.int to), some (.int pl), some (.int mn), some (.int la), some (.int no), some (.long dy), none, some (.int t0), some (.int k), l11, l12, l13, l14, l15, l16] [] h2 Q) := by
  intro N
  induction N with
  | zero => exact fun h2 no dy t0 k l11 l12 l13 l14 l15 l16 rm F hinv A_ce A_L A_B A_d2 A_rq A_r A_f hm => absurd hm (by have w_no := z_rng no; have w_t0 := z_rng t0; have w_k := z_rng k; have gfr := z_rng fr; have gto := z_rng to; have gpl := z_rng pl; have gmn := z_rng mn; have gla := z_rng la; have MC1 := MC.1; have hps := pQ_rng hq (a := fr.toInt.toNat) (b := to.toInt.toNat) (by omega) (by omega); omega)
  | succ N ih =>
    refine fun h2 no dy t0 k l11 l12 l13 l14 l15 l16 rm F hinv A_ce A_L A_B A_d2 A_rq A_r A_f hm => ?_
    · skip
      have w_no := z_rng no
      have w_t0 := z_rng t0
      have w_k := z_rng k
      have gfr := z_rng fr
      have gto := z_rng to
      have gpl := z_rng pl
      have gmn := z_rng mn
      have gla := z_rng la
      have MC1 := MC.1
      have hps := pQ_rng hq (a := fr.toInt.toNat) (b := to.toInt.toNat) (by omega) (by omega)
      have S2 := zG_sh F S
      apply ez_Wp_in
      show ez_gw _ _ _ _ _ _ (cz_44) _ _ _ _ _
      refine gw_skip _ ?_
      have r1 := z_rng (ez_I h2 71 15)
      have r2 := z_rng (ez_I h2 71 16)
      have r3 := z_rng (ez_I h2 71 56)
      have r4 := z_rng (ez_I h2 71 57)
      have r5 := z_rng (ez_I h2 71 58)
      refine gw_ld rfl rfl ?_
      refine z_C (m := 288) rfl rfl (fun x6 ex6 => ?_)
      refine z_b2 (fun c7 => ?_) (fun c7 => ?_)
      · have c7 : x6.toInt ≤ k.toInt := c7
        refine gw_skip _ ?_
        refine z_C (m := 0) rfl rfl (fun x8 ex8 => ?_)
        refine gw_st rfl rfl rfl ?_
        show ez_gw _ _ _ _ _ _ _ _ [some (.ref 71), some (.int fr), some (.int to), some (.int pl), some (.int mn), some (.int la), some (.int no), some (.long dy), none, some (.int t0), some (.int x8), l11, l12, l13, l14, l15, l16] _ _ _
        exact ez_Wp_at ((m_wblock_L7 (fr := fr) (to := to) (pl := pl) (mn := mn) (la := la) S M6 MC hq hr hp hmn hbk hb K (((1000 - x8.toInt)).toNat + 1)) h2 no dy t0 x8 (l11) (l12) (l13) (l14) (l15) (l16) rm F (by omega) A_ce A_L A_B A_d2 A_rq A_r (aR_le A_f (by omega)) ((by rw [show x8.toInt.toNat = 0 by omega]; exact aR_0 _ _ _)) (by omega)) rfl
      · have c7 : ¬ (x6.toInt ≤ k.toInt) := c7
        refine gw_ld rfl rfl ?_
        refine z_gR (q := 106) (zT S2 (by decide) rfl) (zRf S2 (by decide) (by decide) rfl) (by decide) ?_
        refine gw_ld rfl rfl ?_
        refine gw_ld rfl rfl ?_
        refine z_C (m := 144) rfl rfl (fun x9 ex9 => ?_)
        refine z_b2 (fun c10 => ?_) (fun c10 => ?_)
        · have c10 : x9.toInt ≤ k.toInt := c10
          refine gw_skip _ ?_
          refine gw_ld rfl rfl ?_
          refine z_C (m := 256) rfl rfl (fun x11 ex11 => ?_)
          refine z_b2 (fun c12 => ?_) (fun c12 => ?_)
          · have c12 : x11.toInt ≤ k.toInt := c12
            refine gw_skip _ ?_
            refine gw_ld rfl rfl ?_
            refine z_C (m := 280) rfl rfl (fun x13 ex13 => ?_)
            refine z_b2 (fun c14 => ?_) (fun c14 => ?_)
            · have c14 : x13.toInt ≤ k.toInt := c14
              refine gw_skip _ ?_
              refine z_C (m := 8) rfl rfl (fun x15 ex15 => ?_)
              refine z_is (n := 288) (zT S2 (by decide) rfl) (zN S2 (by decide) rfl) (by omega) (fun h16 e17 => ?_)
              have S18 := zSh_set S2 e17
              have F19 := zG_setA F e17 (by decide) (by decide)
              have f20 : ez_I h16 71 15 = (ez_I h2 71 15) := (zI_ne e17 (by omega)).trans (rfl)
              have f21 : ez_I h16 71 16 = (ez_I h2 71 16) := (zI_ne e17 (by omega)).trans (rfl)
              have f22 : ez_I h16 71 56 = (ez_I h2 71 56) := (zI_ne e17 (by omega)).trans (rfl)
              have f23 : ez_I h16 71 57 = (ez_I h2 71 57) := (zI_ne e17 (by omega)).trans (rfl)
              have f24 : ez_I h16 71 58 = (ez_I h2 71 58) := (zI_ne e17 (by omega)).trans (rfl)
              have A25 : cE (ez_I h16 97) (ez_I h16 98) (ez_I h 77) (ez_I h 78) (ez_I h 79) (ez_I h 92) (ez_I h 94) fr.toInt.toNat to.toInt.toNat := by rw [zI_fn e17 97 (by decide), zI_fn e17 98 (by decide)]; exact A_ce
              have A26 : aR (ez_I h16 100) 286 0 15 := by rw [zI_fn e17 100 (by decide)]; exact A_L
              have A27 : aR (ez_I h16 101) 30 0 15 := by rw [zI_fn e17 101 (by decide)]; exact A_B
              have A28 : dy.toInt = wsm (ez_I h16 97) (clI (ez_I h16 100) (ez_I h 93)) 286 + wsm (ez_I h16 98) (cbI (ez_I h16 101) (ez_I h 95)) 30 + (17 + 3 * t0.toInt) + wsm (ez_I h16 99) (rcI (ez_I h16 102)) 19 := by rw [zI_fn e17 97 (by decide), zI_fn e17 98 (by decide), zI_fn e17 99 (by decide), zI_fn e17 100 (by decide), zI_fn e17 101 (by decide), zI_fn e17 102 (by decide)]; exact A_d2
              have A29 : rQ (ez_I h16 99) (ez_I h16 117) rm := by rw [zI_fn e17 99 (by decide), zI_fn e17 117 (by decide)]; exact A_rq
              have A30 : aR (ez_I h16 102) 19 0 15 := by rw [zI_fn e17 102 (by decide)]; exact A_r
              have A31 : aR (ez_I h16 106) (k.toInt.toNat + 1) 0 15 := aR_ex A_f e17 (by omega) (by omega)
              refine z_inc rfl (by rw [show (1 : Int32).toInt = 1 from rfl]; omega) (fun x32 ex32 => ?_)
              rw [show (1 : Int32).toInt = 1 from rfl] at ex32
              show ez_gw _ _ _ _ _ _ _ _ [some (.ref 71), some (.int fr), some (.int to), some (.int pl), some (.int mn), some (.int la), some (.int no), some (.long dy), none, some (.int t0), some (.int x32), l11, l12, l13, l14, l15, l16] _ _ _
              refine z_go ?_
              have t33 := congrArg Int32.toInt (f20)
              have t34 := congrArg Int32.toInt (f21)
              have t35 := congrArg Int32.toInt (f22)
              have t36 := congrArg Int32.toInt (f23)
              have t37 := congrArg Int32.toInt (f24)
              exact ih h16 no dy t0 x32 (l11) (l12) (l13) (l14) (l15) (l16) rm F19 (by omega) A25 A26 A27 (A28) A29 A30 (aR_le A31 (by omega)) (by omega)
            · have c14 : ¬ (x13.toInt ≤ k.toInt) := c14
              refine z_C (m := 7) rfl rfl (fun x38 ex38 => ?_)
              refine z_go ?_
              refine gw_skip _ ?_
              refine z_is (n := 288) (zT S2 (by decide) rfl) (zN S2 (by decide) rfl) (by omega) (fun h39 e40 => ?_)
              have S41 := zSh_set S2 e40
              have F42 := zG_setA F e40 (by decide) (by decide)
              have f43 : ez_I h39 71 15 = (ez_I h2 71 15) := (zI_ne e40 (by omega)).trans (rfl)
              have f44 : ez_I h39 71 16 = (ez_I h2 71 16) := (zI_ne e40 (by omega)).trans (rfl)
              have f45 : ez_I h39 71 56 = (ez_I h2 71 56) := (zI_ne e40 (by omega)).trans (rfl)
              have f46 : ez_I h39 71 57 = (ez_I h2 71 57) := (zI_ne e40 (by omega)).trans (rfl)
              have f47 : ez_I h39 71 58 = (ez_I h2 71 58) := (zI_ne e40 (by omega)).trans (rfl)
              have A48 : cE (ez_I h39 97) (ez_I h39 98) (ez_I h 77) (ez_I h 78) (ez_I h 79) (ez_I h 92) (ez_I h 94) fr.toInt.toNat to.toInt.toNat := by rw [zI_fn e40 97 (by decide), zI_fn e40 98 (by decide)]; exact A_ce
              have A49 : aR (ez_I h39 100) 286 0 15 := by rw [zI_fn e40 100 (by decide)]; exact A_L
              have A50 : aR (ez_I h39 101) 30 0 15 := by rw [zI_fn e40 101 (by decide)]; exact A_B
              have A51 : dy.toInt = wsm (ez_I h39 97) (clI (ez_I h39 100) (ez_I h 93)) 286 + wsm (ez_I h39 98) (cbI (ez_I h39 101) (ez_I h 95)) 30 + (17 + 3 * t0.toInt) + wsm (ez_I h39 99) (rcI (ez_I h39 102)) 19 := by rw [zI_fn e40 97 (by decide), zI_fn e40 98 (by decide), zI_fn e40 99 (by decide), zI_fn e40 100 (by decide), zI_fn e40 101 (by decide), zI_fn e40 102 (by decide)]; exact A_d2
              have A52 : rQ (ez_I h39 99) (ez_I h39 117) rm := by rw [zI_fn e40 99 (by decide), zI_fn e40 117 (by decide)]; exact A_rq
              have A53 : aR (ez_I h39 102) 19 0 15 := by rw [zI_fn e40 102 (by decide)]; exact A_r
              have A54 : aR (ez_I h39 106) (k.toInt.toNat + 1) 0 15 := aR_ex A_f e40 (by omega) (by omega)
              refine z_inc rfl (by rw [show (1 : Int32).toInt = 1 from rfl]; omega) (fun x55 ex55 => ?_)
              rw [show (1 : Int32).toInt = 1 from rfl] at ex55
              show ez_gw _ _ _ _ _ _ _ _ [some (.ref 71), some (.int fr), some (.int to), some (.int pl), some (.int mn), some (.int la), some (.int no), some (.long dy), none, some (.int t0), some (.int x55), l11, l12, l13, l14, l15, l16] _ _ _
              refine z_go ?_
              have t56 := congrArg Int32.toInt (f43)
              have t57 := congrArg Int32.toInt (f44)
              have t58 := congrArg Int32.toInt (f45)
              have t59 := congrArg Int32.toInt (f46)
              have t60 := congrArg Int32.toInt (f47)
              exact ih h39 no dy t0 x55 (l11) (l12) (l13) (l14) (l15) (l16) rm F42 (by omega) A48 A49 A50 (A51) A52 A53 (aR_le A54 (by omega)) (by omega)
          · have c12 : ¬ (x11.toInt ≤ k.toInt) := c12
            refine z_C (m := 9) rfl rfl (fun x61 ex61 => ?_)
            refine z_go ?_
            refine gw_skip _ ?_
            refine z_is (n := 288) (zT S2 (by decide) rfl) (zN S2 (by decide) rfl) (by omega) (fun h62 e63 => ?_)
            have S64 := zSh_set S2 e63
            have F65 := zG_setA F e63 (by decide) (by decide)
            have f66 : ez_I h62 71 15 = (ez_I h2 71 15) := (zI_ne e63 (by omega)).trans (rfl)
            have f67 : ez_I h62 71 16 = (ez_I h2 71 16) := (zI_ne e63 (by omega)).trans (rfl)
            have f68 : ez_I h62 71 56 = (ez_I h2 71 56) := (zI_ne e63 (by omega)).trans (rfl)
            have f69 : ez_I h62 71 57 = (ez_I h2 71 57) := (zI_ne e63 (by omega)).trans (rfl)
            have f70 : ez_I h62 71 58 = (ez_I h2 71 58) := (zI_ne e63 (by omega)).trans (rfl)
            have A71 : cE (ez_I h62 97) (ez_I h62 98) (ez_I h 77) (ez_I h 78) (ez_I h 79) (ez_I h 92) (ez_I h 94) fr.toInt.toNat to.toInt.toNat := by rw [zI_fn e63 97 (by decide), zI_fn e63 98 (by decide)]; exact A_ce
            have A72 : aR (ez_I h62 100) 286 0 15 := by rw [zI_fn e63 100 (by decide)]; exact A_L
            have A73 : aR (ez_I h62 101) 30 0 15 := by rw [zI_fn e63 101 (by decide)]; exact A_B
            have A74 : dy.toInt = wsm (ez_I h62 97) (clI (ez_I h62 100) (ez_I h 93)) 286 + wsm (ez_I h62 98) (cbI (ez_I h62 101) (ez_I h 95)) 30 + (17 + 3 * t0.toInt) + wsm (ez_I h62 99) (rcI (ez_I h62 102)) 19 := by rw [zI_fn e63 97 (by decide), zI_fn e63 98 (by decide), zI_fn e63 99 (by decide), zI_fn e63 100 (by decide), zI_fn e63 101 (by decide), zI_fn e63 102 (by decide)]; exact A_d2
            have A75 : rQ (ez_I h62 99) (ez_I h62 117) rm := by rw [zI_fn e63 99 (by decide), zI_fn e63 117 (by decide)]; exact A_rq
            have A76 : aR (ez_I h62 102) 19 0 15 := by rw [zI_fn e63 102 (by decide)]; exact A_r
            have A77 : aR (ez_I h62 106) (k.toInt.toNat + 1) 0 15 := aR_ex A_f e63 (by omega) (by omega)
            refine z_inc rfl (by rw [show (1 : Int32).toInt = 1 from rfl]; omega) (fun x78 ex78 => ?_)
            rw [show (1 : Int32).toInt = 1 from rfl] at ex78
            show ez_gw _ _ _ _ _ _ _ _ [some (.ref 71), some (.int fr), some (.int to), some (.int pl), some (.int mn), some (.int la), some (.int no), some (.long dy), none, some (.int t0), some (.int x78), l11, l12, l13, l14, l15, l16] _ _ _
            refine z_go ?_
            have t79 := congrArg Int32.toInt (f66)
            have t80 := congrArg Int32.toInt (f67)
            have t81 := congrArg Int32.toInt (f68)
            have t82 := congrArg Int32.toInt (f69)
            have t83 := congrArg Int32.toInt (f70)
            exact ih h62 no dy t0 x78 (l11) (l12) (l13) (l14) (l15) (l16) rm F65 (by omega) A71 A72 A73 (A74) A75 A76 (aR_le A77 (by omega)) (by omega)
        · have c10 : ¬ (x9.toInt ≤ k.toInt) := c10
          refine z_C (m := 8) rfl rfl (fun x84 ex84 => ?_)
          refine z_go ?_
          refine gw_skip _ ?_
          refine z_is (n := 288) (zT S2 (by decide) rfl) (zN S2 (by decide) rfl) (by omega) (fun h85 e86 => ?_)
          have S87 := zSh_set S2 e86
          have F88 := zG_setA F e86 (by decide) (by decide)
          have f89 : ez_I h85 71 15 = (ez_I h2 71 15) := (zI_ne e86 (by omega)).trans (rfl)
          have f90 : ez_I h85 71 16 = (ez_I h2 71 16) := (zI_ne e86 (by omega)).trans (rfl)
          have f91 : ez_I h85 71 56 = (ez_I h2 71 56) := (zI_ne e86 (by omega)).trans (rfl)
          have f92 : ez_I h85 71 57 = (ez_I h2 71 57) := (zI_ne e86 (by omega)).trans (rfl)
          have f93 : ez_I h85 71 58 = (ez_I h2 71 58) := (zI_ne e86 (by omega)).trans (rfl)
          have A94 : cE (ez_I h85 97) (ez_I h85 98) (ez_I h 77) (ez_I h 78) (ez_I h 79) (ez_I h 92) (ez_I h 94) fr.toInt.toNat to.toInt.toNat := by rw [zI_fn e86 97 (by decide), zI_fn e86 98 (by decide)]; exact A_ce
          have A95 : aR (ez_I h85 100) 286 0 15 := by rw [zI_fn e86 100 (by decide)]; exact A_L
          have A96 : aR (ez_I h85 101) 30 0 15 := by rw [zI_fn e86 101 (by decide)]; exact A_B
          have A97 : dy.toInt = wsm (ez_I h85 97) (clI (ez_I h85 100) (ez_I h 93)) 286 + wsm (ez_I h85 98) (cbI (ez_I h85 101) (ez_I h 95)) 30 + (17 + 3 * t0.toInt) + wsm (ez_I h85 99) (rcI (ez_I h85 102)) 19 := by rw [zI_fn e86 97 (by decide), zI_fn e86 98 (by decide), zI_fn e86 99 (by decide), zI_fn e86 100 (by decide), zI_fn e86 101 (by decide), zI_fn e86 102 (by decide)]; exact A_d2
          have A98 : rQ (ez_I h85 99) (ez_I h85 117) rm := by rw [zI_fn e86 99 (by decide), zI_fn e86 117 (by decide)]; exact A_rq
          have A99 : aR (ez_I h85 102) 19 0 15 := by rw [zI_fn e86 102 (by decide)]; exact A_r
          have A100 : aR (ez_I h85 106) (k.toInt.toNat + 1) 0 15 := aR_ex A_f e86 (by omega) (by omega)
          refine z_inc rfl (by rw [show (1 : Int32).toInt = 1 from rfl]; omega) (fun x101 ex101 => ?_)
          rw [show (1 : Int32).toInt = 1 from rfl] at ex101
          show ez_gw _ _ _ _ _ _ _ _ [some (.ref 71), some (.int fr), some (.int to), some (.int pl), some (.int mn), some (.int la), some (.int no), some (.long dy), none, some (.int t0), some (.int x101), l11, l12, l13, l14, l15, l16] _ _ _
          refine z_go ?_
          have t102 := congrArg Int32.toInt (f89)
          have t103 := congrArg Int32.toInt (f90)
          have t104 := congrArg Int32.toInt (f91)
          have t105 := congrArg Int32.toInt (f92)
          have t106 := congrArg Int32.toInt (f93)
          exact ih h85 no dy t0 x101 (l11) (l12) (l13) (l14) (l15) (l16) rm F88 (by omega) A94 A95 A96 (A97) A98 A99 (aR_le A100 (by omega)) (by omega)
set_option maxRecDepth 4000 in
set_option maxHeartbeats 20000000 in
theorem m_wblock_L5 {E : Nat → Nat × (Nat → Int32)} {d : Nat} {Q : ez_Q} {h : ez_H} {fr : Int32} {to : Int32} {pl : Int32} {mn : Int32} {la : Int32} (S : zSh h) {n : Nat} (M6 : 0 ≤ (ez_I h 71 6).toInt ∧ (ez_I h 71 6).toInt ≤ 6000) (MC : cC h) (hq : pQ (ez_I h 77) (ez_I h 78) (ez_I h 79) (ez_I h 72) n (ez_I h 71 6).toInt) (hr : 0 ≤ fr.toInt ∧ fr.toInt ≤ to.toInt ∧ to.toInt ≤ n ∧ n ≤ 6000 ∧ to.toInt - fr.toInt ≤ 600) (hp : pl.toInt = pS (ez_I h 77) fr.toInt.toNat) (hmn : mn.toInt = pS (ez_I h 77) to.toInt.toNat - pS (ez_I h 77) fr.toInt.toNat) (hbk : 0 ≤ (ez_I h 71 15).toInt ∧ (ez_I h 71 15).toInt < 12) (hb : 0 ≤ (ez_I h 71 16).toInt ∧ (ez_I h 71 16).toInt + 42 + 8 * mn.toInt ≤ 64000) (K : ∀ h2, zG (fun k => k = 15 ∨ k = 16 ∨ k = 56 ∨ k = 57 ∨ k = 58) (fun q => q = 75 ∨ 83 ≤ q ∧ q ≤ 91 ∨ 97 ≤ q ∧ q ≤ 119) h h2 → (0 ≤ (ez_I h2 71 16).toInt ∧ (ez_I h2 71 16).toInt ≤ (ez_I h 71 16).toInt + 42 + 8 * mn.toInt ∧ (ez_I h2 71 15).toInt = (ez_I h 71 15).toInt + 1) → Q (.inl none) h2) : ∀ N : Nat, (∀ (h2 : ez_H) (no : Int32) (dy : Int64) (t0 : Int32) (k : Int32) (l11 : Option Value) (l12 : Option Value) (l13 : Option Value) (l14 : Option Value) (l15 : Option Value) (l16 : Option Value) (rm : Nat), zG (fun k => k = 15 ∨ k = 16 ∨ k = 56 ∨ k = 57 ∨ k = 58) (fun q => q = 75 ∨ 83 ≤ q ∧ q ≤ 91 ∨ 97 ≤ q ∧ q ≤ 119) h h2 → (0 ≤ k.toInt ∧ k.toInt ≤ 19 ∧ 0 ≤ dy.toInt ∧ dy.toInt ≤ 20000000 + 30000 * k.toInt ∧ (ez_I h2 71 15).toInt = (ez_I h 71 15).toInt ∧ (ez_I h2 71 16).toInt = (ez_I h 71 16).toInt ∧ 257 ≤ (ez_I h2 71 57).toInt ∧ (ez_I h2 71 57).toInt ≤ 286 ∧ 1 ≤ (ez_I h2 71 58).toInt ∧ (ez_I h2 71 58).toInt ≤ 30 ∧ (ez_I h2 71 56).toInt = rm ∧ rm ≤ 316 ∧ 4 ≤ t0.toInt ∧ t0.toInt ≤ 19) → cE (ez_I h2 97) (ez_I h2 98) (ez_I h 77) (ez_I h 78) (ez_I h 79) (ez_I h 92) (ez_I h 94) fr.toInt.toNat to.toInt.toNat → aR (ez_I h2 100) 286 0 15 → aR (ez_I h2 101) 30 0 15 → dy.toInt = wsm (ez_I h2 97) (clI (ez_I h2 100) (ez_I h 93)) 286 + wsm (ez_I h2 98) (cbI (ez_I h2 101) (ez_I h 95)) 30 + (17 + 3 * t0.toInt) + wsm (ez_I h2 99) (rcI (ez_I h2 102)) k.toInt.toNat → rQ (ez_I h2 99) (ez_I h2 117) rm → aR (ez_I h2 102) 19 0 15 → (1000 - k.toInt) < (N : Int) → pw E (d + 2) 44 333 [some (.ref 71), some (.int fr), some (.int to), some (.int pl), some (.int mn), some (.int la), some (.int no), some (.long dy), none, some (.int t0), some (.int k), l11, l12, l13, l14, l15, l16] [] h2 Q) := by
  intro N
  induction N with
  | zero => exact fun h2 no dy t0 k l11 l12 l13 l14 l15 l16 rm F hinv A_ce A_L A_B A_d2 A_rq A_r hm => absurd hm (by have w_no := z_rng no; have w_t0 := z_rng t0; have w_k := z_rng k; have gfr := z_rng fr; have gto := z_rng to; have gpl := z_rng pl; have gmn := z_rng mn; have gla := z_rng la; have MC1 := MC.1; have hps := pQ_rng hq (a := fr.toInt.toNat) (b := to.toInt.toNat) (by omega) (by omega); omega)
  | succ N ih =>
    refine fun h2 no dy t0 k l11 l12 l13 l14 l15 l16 rm F hinv A_ce A_L A_B A_d2 A_rq A_r hm => ?_
    · skip
      have w_no := z_rng no
      have w_t0 := z_rng t0
      have w_k := z_rng k
      have gfr := z_rng fr
      have gto := z_rng to
      have gpl := z_rng pl
      have gmn := z_rng mn
      have gla := z_rng la
      have MC1 := MC.1
      have hps := pQ_rng hq (a := fr.toInt.toNat) (b := to.toInt.toNat) (by omega) (by omega)
      have S2 := zG_sh F S
      apply ez_Wp_in
      show ez_gw _ _ _ _ _ _ (cz_44) _ _ _ _ _
      refine gw_skip _ ?_
      have r1 := z_rng (ez_I h2 71 15)
      have r2 := z_rng (ez_I h2 71 16)
      have r3 := z_rng (ez_I h2 71 56)
      have r4 := z_rng (ez_I h2 71 57)
      have r5 := z_rng (ez_I h2 71 58)
      refine gw_ld rfl rfl ?_
      refine z_C (m := 19) rfl rfl (fun x6 ex6 => ?_)
      refine z_b2 (fun c7 => ?_) (fun c7 => ?_)
      · have c7 : x6.toInt ≤ k.toInt := c7
        refine gw_skip _ ?_
        refine z_C (m := 0) rfl rfl (fun x8 ex8 => ?_)
        refine gw_st rfl rfl rfl ?_
        show ez_gw _ _ _ _ _ _ _ _ [some (.ref 71), some (.int fr), some (.int to), some (.int pl), some (.int mn), some (.int la), some (.int no), some (.long dy), none, some (.int t0), some (.int x8), l11, l12, l13, l14, l15, l16] _ _ _
        exact ez_Wp_at ((m_wblock_L6 (fr := fr) (to := to) (pl := pl) (mn := mn) (la := la) S M6 MC hq hr hp hmn hbk hb K (((1000 - x8.toInt)).toNat + 1)) h2 no dy t0 x8 (l11) (l12) (l13) (l14) (l15) (l16) rm F (by omega) A_ce A_L A_B ((by rw [show (19 : Nat) = k.toInt.toNat by omega]; exact A_d2)) A_rq A_r ((by rw [show x8.toInt.toNat = 0 by omega]; exact aR_0 _ _ _)) (by omega)) rfl
      · have c7 : ¬ (x6.toInt ≤ k.toInt) := c7
        refine gw_ld rfl rfl ?_
        refine gw_ld rfl rfl ?_
        refine z_gR (q := 99) (zT S2 (by decide) rfl) (zRf S2 (by decide) (by decide) rfl) (by decide) ?_
        refine gw_ld rfl rfl ?_
        refine z_ia (n := 19) (zT S2 (by decide) rfl) (zN S2 (by decide) rfl) (by omega) ?_
        generalize ex9 : ez_I h2 99 k.toInt.toNat = x9
        have rx9 := z_rng x9
        have yx9 := A_rq.1 k.toInt.toNat (by omega)
        rw [ex9] at yx9
        refine z_i2l (fun lg10 elg10 => ?_)
        refine gw_ld rfl rfl ?_
        refine z_gR (q := 102) (zT S2 (by decide) rfl) (zRf S2 (by decide) (by decide) rfl) (by decide) ?_
        refine gw_ld rfl rfl ?_
        refine z_ia (n := 19) (zT S2 (by decide) rfl) (zN S2 (by decide) rfl) (by omega) ?_
        generalize ex11 : ez_I h2 102 k.toInt.toNat = x11
        have rx11 := z_rng x11
        have yx11 := A_r k.toInt.toNat (by omega)
        rw [ex11] at yx11
        refine gw_ld rfl rfl ?_
        refine z_cl rfl rfl rfl rfl rfl rfl rfl rfl rfl rfl rfl (trivial) ?_
        refine m_rest (y := k) S2 (fun x12 k13 k14 => ?_)
        have rx12 := z_rng x12
        refine z_add (by omega) (fun x15 ex15 => ?_)
        refine z_i2l (fun lg16 elg16 => ?_)
        refine z_lmul (B := 30000) (by omega) (by omega) (fun p18 ep18 np18 mp18 lg17 elg17 => ?_) (fun p hp => by rw [hp]; exact mul_bd (by omega) (by omega))
        refine z_ladd (by omega) (fun lg19 elg19 => ?_)
        refine gw_st rfl rfl rfl ?_
        show ez_gw _ _ _ _ _ _ _ _ [some (.ref 71), some (.int fr), some (.int to), some (.int pl), some (.int mn), some (.int la), some (.int no), some (.long lg19), none, some (.int t0), some (.int k), l11, l12, l13, l14, l15, l16] _ _ _
        refine z_inc rfl (by rw [show (1 : Int32).toInt = 1 from rfl]; omega) (fun x20 ex20 => ?_)
        rw [show (1 : Int32).toInt = 1 from rfl] at ex20
        show ez_gw _ _ _ _ _ _ _ _ [some (.ref 71), some (.int fr), some (.int to), some (.int pl), some (.int mn), some (.int la), some (.int no), some (.long lg19), none, some (.int t0), some (.int x20), l11, l12, l13, l14, l15, l16] _ _ _
        refine z_go ?_
        exact ih h2 no lg19 t0 x20 (l11) (l12) (l13) (l14) (l15) (l16) rm F (by omega) A_ce A_L A_B ((by have hs := wsm_s (O := ez_I h2 99) (c := rcI (ez_I h2 102)) (k := k.toInt.toNat) (p := p18) (y := lg16.toInt) ex9 (show lg16.toInt = (ez_I h2 102 k.toInt.toNat).toInt + rsI k.toInt.toNat by rw [ex11, ← rs_eq k14 (by omega)]; omega) (by rw [ep18, elg10]); rw [show x20.toInt.toNat = k.toInt.toNat + 1 by omega, hs]; have := A_d2; omega)) A_rq A_r (by omega)
set_option maxRecDepth 4000 in
set_option maxHeartbeats 20000000 in
theorem m_wblock_L4 {E : Nat → Nat × (Nat → Int32)} {d : Nat} {Q : ez_Q} {h : ez_H} {fr : Int32} {to : Int32} {pl : Int32} {mn : Int32} {la : Int32} (S : zSh h) {n : Nat} (M6 : 0 ≤ (ez_I h 71 6).toInt ∧ (ez_I h 71 6).toInt ≤ 6000) (MC : cC h) (hq : pQ (ez_I h 77) (ez_I h 78) (ez_I h 79) (ez_I h 72) n (ez_I h 71 6).toInt) (hr : 0 ≤ fr.toInt ∧ fr.toInt ≤ to.toInt ∧ to.toInt ≤ n ∧ n ≤ 6000 ∧ to.toInt - fr.toInt ≤ 600) (hp : pl.toInt = pS (ez_I h 77) fr.toInt.toNat) (hmn : mn.toInt = pS (ez_I h 77) to.toInt.toNat - pS (ez_I h 77) fr.toInt.toNat) (hbk : 0 ≤ (ez_I h 71 15).toInt ∧ (ez_I h 71 15).toInt < 12) (hb : 0 ≤ (ez_I h 71 16).toInt ∧ (ez_I h 71 16).toInt + 42 + 8 * mn.toInt ≤ 64000) (K : ∀ h2, zG (fun k => k = 15 ∨ k = 16 ∨ k = 56 ∨ k = 57 ∨ k = 58) (fun q => q = 75 ∨ 83 ≤ q ∧ q ≤ 91 ∨ 97 ≤ q ∧ q ≤ 119) h h2 → (0 ≤ (ez_I h2 71 16).toInt ∧ (ez_I h2 71 16).toInt ≤ (ez_I h 71 16).toInt + 42 + 8 * mn.toInt ∧ (ez_I h2 71 15).toInt = (ez_I h 71 15).toInt + 1) → Q (.inl none) h2) : ∀ N : Nat, (∀ (h2 : ez_H) (no : Int32) (dy : Int64) (t0 : Int32) (k : Int32) (l11 : Option Value) (l12 : Option Value) (l13 : Option Value) (l14 : Option Value) (l15 : Option Value) (l16 : Option Value) (rm : Nat), zG (fun k => k = 15 ∨ k = 16 ∨ k = 56 ∨ k = 57 ∨ k = 58) (fun q => q = 75 ∨ 83 ≤ q ∧ q ≤ 91 ∨ 97 ≤ q ∧ q ≤ 119) h h2 → (4 ≤ k.toInt ∧ k.toInt ≤ 19 ∧ 0 ≤ dy.toInt ∧ dy.toInt ≤ 10000000 ∧ (ez_I h2 71 15).toInt = (ez_I h 71 15).toInt ∧ (ez_I h2 71 16).toInt = (ez_I h 71 16).toInt ∧ 257 ≤ (ez_I h2 71 57).toInt ∧ (ez_I h2 71 57).toInt ≤ 286 ∧ 1 ≤ (ez_I h2 71 58).toInt ∧ (ez_I h2 71 58).toInt ≤ 30 ∧ (ez_I h2 71 56).toInt = rm ∧ rm ≤ 316 ∧ 4 ≤ t0.toInt ∧ t0.toInt ≤ 19) → cE (ez_I h2 97) (ez_I h2 98) (ez_I h 77) (ez_I h 78) (ez_I h 79) (ez_I h 92) (ez_I h 94) fr.toInt.toNat to.toInt.toNat → aR (ez_I h2 100) 286 0 15 → aR (ez_I h2 101) 30 0 15 → dy.toInt = wsm (ez_I h2 97) (clI (ez_I h2 100) (ez_I h 93)) 286 + wsm (ez_I h2 98) (cbI (ez_I h2 101) (ez_I h 95)) 30 → rQ (ez_I h2 99) (ez_I h2 117) rm → aR (ez_I h2 102) 19 0 15 → (1000 - k.toInt) < (N : Int) → pw E (d + 2) 44 275 [some (.ref 71), some (.int fr), some (.int to), some (.int pl), some (.int mn), some (.int la), some (.int no), some (.long dy), none, some (.int t0), some (.int k), l11, l12, l13, l14, l15, l16] [] h2 Q) := by
  intro N
  induction N with
  | zero => exact fun h2 no dy t0 k l11 l12 l13 l14 l15 l16 rm F hinv A_ce A_L A_B A_dy A_rq A_r hm => absurd hm (by have w_no := z_rng no; have w_t0 := z_rng t0; have w_k := z_rng k; have gfr := z_rng fr; have gto := z_rng to; have gpl := z_rng pl; have gmn := z_rng mn; have gla := z_rng la; have MC1 := MC.1; have hps := pQ_rng hq (a := fr.toInt.toNat) (b := to.toInt.toNat) (by omega) (by omega); omega)
  | succ N ih =>
    refine fun h2 no dy t0 k l11 l12 l13 l14 l15 l16 rm F hinv A_ce A_L A_B A_dy A_rq A_r hm => ?_
    · skip
      have w_no := z_rng no
      have w_t0 := z_rng t0
      have w_k := z_rng k
      have gfr := z_rng fr
      have gto := z_rng to
      have gpl := z_rng pl
      have gmn := z_rng mn
      have gla := z_rng la
      have MC1 := MC.1
      have hps := pQ_rng hq (a := fr.toInt.toNat) (b := to.toInt.toNat) (by omega) (by omega)
      have S2 := zG_sh F S
      apply ez_Wp_in
      show ez_gw _ _ _ _ _ _ (cz_44) _ _ _ _ _
      refine gw_skip _ ?_
      have r1 := z_rng (ez_I h2 71 15)
      have r2 := z_rng (ez_I h2 71 16)
      have r3 := z_rng (ez_I h2 71 56)
      have r4 := z_rng (ez_I h2 71 57)
      have r5 := z_rng (ez_I h2 71 58)
      refine gw_ld rfl rfl ?_
      refine z_C (m := 19) rfl rfl (fun x6 ex6 => ?_)
      refine z_b2 (fun c7 => ?_) (fun c7 => ?_)
      · have c7 : x6.toInt ≤ k.toInt := c7
        refine gw_skip _ ?_
        refine gw_ld rfl rfl ?_
        refine z_lC (m := 17) rfl rfl (fun lg8 elg8 => ?_)
        refine z_lC (m := 3) rfl rfl (fun lg9 elg9 => ?_)
        refine gw_ld rfl rfl ?_
        refine z_i2l (fun lg10 elg10 => ?_)
        refine z_lmul (B := 1000000) (by omega) (by omega) (fun p12 ep12 np12 mp12 lg11 elg11 => ?_) (fun p hp => by rw [hp, elg9]; omega)
        have qp12 : p12 = 3 * lg10.toInt := by rw [ep12, elg9]
        refine z_ladd (by omega) (fun lg13 elg13 => ?_)
        refine z_ladd (by omega) (fun lg14 elg14 => ?_)
        refine gw_st rfl rfl rfl ?_
        show ez_gw _ _ _ _ _ _ _ _ [some (.ref 71), some (.int fr), some (.int to), some (.int pl), some (.int mn), some (.int la), some (.int no), some (.long lg14), none, some (.int t0), some (.int k), l11, l12, l13, l14, l15, l16] _ _ _
        refine z_C (m := 0) rfl rfl (fun x15 ex15 => ?_)
        refine gw_st rfl rfl rfl ?_
        show ez_gw _ _ _ _ _ _ _ _ [some (.ref 71), some (.int fr), some (.int to), some (.int pl), some (.int mn), some (.int la), some (.int no), some (.long lg14), none, some (.int t0), some (.int x15), l11, l12, l13, l14, l15, l16] _ _ _
        exact ez_Wp_at ((m_wblock_L5 (fr := fr) (to := to) (pl := pl) (mn := mn) (la := la) S M6 MC hq hr hp hmn hbk hb K (((1000 - x15.toInt)).toNat + 1)) h2 no lg14 t0 x15 (l11) (l12) (l13) (l14) (l15) (l16) rm F (by omega) A_ce A_L A_B ((by rw [show x15.toInt.toNat = 0 by omega]; have := A_dy; show _ = _ + (0 : Int); omega)) A_rq A_r (by omega)) rfl
      · have c7 : ¬ (x6.toInt ≤ k.toInt) := c7
        refine gw_ld rfl rfl ?_
        refine z_gR (q := 102) (zT S2 (by decide) rfl) (zRf S2 (by decide) (by decide) rfl) (by decide) ?_
        refine gw_ld rfl rfl ?_
        refine z_gR (q := 96) (zT S2 (by decide) rfl) (zRf S2 (by decide) (by decide) rfl) (by decide) ?_
        refine gw_ld rfl rfl ?_
        refine z_iaV (n := 19) (zT S2 (by decide) rfl) (zN S2 (by decide) rfl) (by omega) (zG_a F (by decide) (by decide)) ?_
        generalize ex16 : ez_I h 96 k.toInt.toNat = x16
        have rx16 := z_rng x16
        have yx16 := MC.2.2.2.2.2 k.toInt.toNat (by omega)
        rw [ex16] at yx16
        refine z_ia (n := 19) (zT S2 (by decide) rfl) (zN S2 (by decide) rfl) (by omega) ?_
        generalize ex17 : ez_I h2 102 x16.toInt.toNat = x17
        have rx17 := z_rng x17
        refine z_b1 (fun c18 => ?_) (fun c18 => ?_)
        · have c18 : x17.toInt ≤ 0 := c18
          refine gw_skip _ ?_
          refine gw_ld rfl rfl ?_
          refine gw_st rfl rfl rfl ?_
          show ez_gw _ _ _ _ _ _ _ _ [some (.ref 71), some (.int fr), some (.int to), some (.int pl), some (.int mn), some (.int la), some (.int no), some (.long dy), none, some (.int t0), some (.int k), l11, l12, l13, l14, l15, l16] _ _ _
          refine z_inc rfl (by rw [show (1 : Int32).toInt = 1 from rfl]; omega) (fun x19 ex19 => ?_)
          rw [show (1 : Int32).toInt = 1 from rfl] at ex19
          show ez_gw _ _ _ _ _ _ _ _ [some (.ref 71), some (.int fr), some (.int to), some (.int pl), some (.int mn), some (.int la), some (.int no), some (.long dy), none, some (.int t0), some (.int x19), l11, l12, l13, l14, l15, l16] _ _ _
          refine z_go ?_
          exact ih h2 no dy t0 x19 (l11) (l12) (l13) (l14) (l15) (l16) rm F (by omega) A_ce A_L (aR_le A_B (by omega)) A_dy A_rq A_r (by omega)
        · have c18 : ¬ (x17.toInt ≤ 0) := c18
          refine gw_ld rfl rfl ?_
          refine z_C (m := 1) rfl rfl (fun x20 ex20 => ?_)
          refine z_add (by omega) (fun x21 ex21 => ?_)
          refine z_go ?_
          refine gw_skip _ ?_
          refine gw_st rfl rfl rfl ?_
          show ez_gw _ _ _ _ _ _ _ _ [some (.ref 71), some (.int fr), some (.int to), some (.int pl), some (.int mn), some (.int la), some (.int no), some (.long dy), none, some (.int x21), some (.int k), l11, l12, l13, l14, l15, l16] _ _ _
          refine z_inc rfl (by rw [show (1 : Int32).toInt = 1 from rfl]; omega) (fun x22 ex22 => ?_)
          rw [show (1 : Int32).toInt = 1 from rfl] at ex22
          show ez_gw _ _ _ _ _ _ _ _ [some (.ref 71), some (.int fr), some (.int to), some (.int pl), some (.int mn), some (.int la), some (.int no), some (.long dy), none, some (.int x21), some (.int x22), l11, l12, l13, l14, l15, l16] _ _ _
          refine z_go ?_
          exact ih h2 no dy x21 x22 (l11) (l12) (l13) (l14) (l15) (l16) rm F (by omega) A_ce A_L (aR_le A_B (by omega)) A_dy A_rq A_r (by omega)
set_option maxRecDepth 4000 in
set_option maxHeartbeats 20000000 in
theorem m_wblock_L3 {E : Nat → Nat × (Nat → Int32)} {d : Nat} {Q : ez_Q} {h : ez_H} {fr : Int32} {to : Int32} {pl : Int32} {mn : Int32} {la : Int32} (S : zSh h) {n : Nat} (M6 : 0 ≤ (ez_I h 71 6).toInt ∧ (ez_I h 71 6).toInt ≤ 6000) (MC : cC h) (hq : pQ (ez_I h 77) (ez_I h 78) (ez_I h 79) (ez_I h 72) n (ez_I h 71 6).toInt) (hr : 0 ≤ fr.toInt ∧ fr.toInt ≤ to.toInt ∧ to.toInt ≤ n ∧ n ≤ 6000 ∧ to.toInt - fr.toInt ≤ 600) (hp : pl.toInt = pS (ez_I h 77) fr.toInt.toNat) (hmn : mn.toInt = pS (ez_I h 77) to.toInt.toNat - pS (ez_I h 77) fr.toInt.toNat) (hbk : 0 ≤ (ez_I h 71 15).toInt ∧ (ez_I h 71 15).toInt < 12) (hb : 0 ≤ (ez_I h 71 16).toInt ∧ (ez_I h 71 16).toInt + 42 + 8 * mn.toInt ≤ 64000) (K : ∀ h2, zG (fun k => k = 15 ∨ k = 16 ∨ k = 56 ∨ k = 57 ∨ k = 58) (fun q => q = 75 ∨ 83 ≤ q ∧ q ≤ 91 ∨ 97 ≤ q ∧ q ≤ 119) h h2 → (0 ≤ (ez_I h2 71 16).toInt ∧ (ez_I h2 71 16).toInt ≤ (ez_I h 71 16).toInt + 42 + 8 * mn.toInt ∧ (ez_I h2 71 15).toInt = (ez_I h 71 15).toInt + 1) → Q (.inl none) h2) : ∀ N : Nat, (∀ (h2 : ez_H) (no : Int32) (k : Int32) (l8 : Option Value) (l9 : Option Value) (l10 : Option Value) (l11 : Option Value) (l12 : Option Value) (l13 : Option Value) (l14 : Option Value) (l15 : Option Value) (l16 : Option Value) , zG (fun k => k = 15 ∨ k = 16 ∨ k = 56 ∨ k = 57 ∨ k = 58) (fun q => q = 75 ∨ 83 ≤ q ∧ q ≤ 91 ∨ 97 ≤ q ∧ q ≤ 119) h h2 → (0 ≤ k.toInt ∧ k.toInt ≤ 30 ∧ 0 ≤ no.toInt ∧ no.toInt ≤ 1 ∧ (ez_I h2 71 15).toInt = (ez_I h 71 15).toInt ∧ (ez_I h2 71 16).toInt = (ez_I h 71 16).toInt) → cE (ez_I h2 97) (ez_I h2 98) (ez_I h 77) (ez_I h 78) (ez_I h 79) (ez_I h 92) (ez_I h 94) fr.toInt.toNat to.toInt.toNat → aR (ez_I h2 100) 286 0 15 → aR (ez_I h2 101) 30 0 15 → ((∀ s : Nat, s < 30 → (ez_I h2 101 s).toInt = 0) → ∀ k : Nat, k < 30 → (ez_I h2 98 k).toInt = 0) → (no.toInt = 1 → ∀ s : Nat, s < k.toInt.toNat → (ez_I h2 101 s).toInt = 0) → (1000 - k.toInt) < (N : Int) → pw E (d + 2) 44 188 [some (.ref 71), some (.int fr), some (.int to), some (.int pl), some (.int mn), some (.int la), some (.int no), some (.int k), l8, l9, l10, l11, l12, l13, l14, l15, l16] [] h2 Q) := by
  intro N
  induction N with
  | zero => exact fun h2 no k l8 l9 l10 l11 l12 l13 l14 l15 l16  F hinv A_ce A_L A_B A_bz A_no hm => absurd hm (by have w_no := z_rng no; have w_k := z_rng k; have gfr := z_rng fr; have gto := z_rng to; have gpl := z_rng pl; have gmn := z_rng mn; have gla := z_rng la; have MC1 := MC.1; have hps := pQ_rng hq (a := fr.toInt.toNat) (b := to.toInt.toNat) (by omega) (by omega); omega)
  | succ N ih =>
    refine fun h2 no k l8 l9 l10 l11 l12 l13 l14 l15 l16  F hinv A_ce A_L A_B A_bz A_no hm => ?_
    · skip
      have w_no := z_rng no
      have w_k := z_rng k
      have gfr := z_rng fr
      have gto := z_rng to
      have gpl := z_rng pl
      have gmn := z_rng mn
      have gla := z_rng la
      have MC1 := MC.1
      have hps := pQ_rng hq (a := fr.toInt.toNat) (b := to.toInt.toNat) (by omega) (by omega)
      have S2 := zG_sh F S
      apply ez_Wp_in
      show ez_gw _ _ _ _ _ _ (cz_44) _ _ _ _ _
      refine gw_skip _ ?_
      have r1 := z_rng (ez_I h2 71 15)
      have r2 := z_rng (ez_I h2 71 16)
      have r3 := z_rng (ez_I h2 71 56)
      have r4 := z_rng (ez_I h2 71 57)
      have r5 := z_rng (ez_I h2 71 58)
      refine gw_ld rfl rfl ?_
      refine z_C (m := 30) rfl rfl (fun x6 ex6 => ?_)
      refine z_b2 (fun c7 => ?_) (fun c7 => ?_)
      · have c7 : x6.toInt ≤ k.toInt := c7
        refine gw_skip _ ?_
        refine gw_ld rfl rfl ?_
        refine gw_ld rfl rfl ?_
        refine z_gR (q := 100) (zT S2 (by decide) rfl) (zRf S2 (by decide) (by decide) rfl) (by decide) ?_
        refine gw_ld rfl rfl ?_
        refine z_gR (q := 101) (zT S2 (by decide) rfl) (zRf S2 (by decide) (by decide) rfl) (by decide) ?_
        refine z_cl rfl rfl rfl rfl rfl rfl rfl rfl rfl rfl rfl (zT S2 (by decide) rfl) ?_
        refine m_cost S2 (show zA 100 288 from fun _ S => ⟨zT S (by decide) rfl, zN S (by decide) rfl⟩) (show zA 101 30 from fun _ S => ⟨zT S (by decide) rfl, zN S (by decide) rfl⟩) (by decide) A_L A_B A_ce.1 A_ce.2.1 (cC_G MC F (fun q hq => by omega)) (fun lg8 k9 k10 => ?_)
        rw [zG_fn F 93 (by decide) (by decide), zG_fn F 95 (by decide) (by decide)] at k10
        refine gw_st rfl rfl rfl ?_
        show ez_gw _ _ _ _ _ _ _ _ [some (.ref 71), some (.int fr), some (.int to), some (.int pl), some (.int mn), some (.int la), some (.int no), some (.long lg8), none, l9, l10, l11, l12, l13, l14, l15, l16] _ _ _
        refine gw_ld rfl rfl ?_
        refine z_b1 (fun c11 => ?_) (fun c11 => ?_)
        · have c11 : no.toInt = 0 := c11
          refine gw_skip _ ?_
          refine gw_ld rfl rfl ?_
          refine z_cl rfl rfl rfl rfl rfl rfl rfl rfl rfl rfl rfl (zT S2 (by decide) rfl) ?_
          refine m_tl S2 A_L A_B (fun h12 F13 k14 k15 => ?_)
          have S16 := zG_sh F13 S2
          have F17 := zG_tr F (zG_mono F13 (fun k hk => by first | omega | exact False.elim hk) (fun k hk => by first | omega | exact False.elim hk))
          have f18 : ez_I h12 71 15 = (ez_I h2 71 15) := (zG_f F13 (by decide)).trans (rfl)
          have f19 : ez_I h12 71 16 = (ez_I h2 71 16) := (zG_f F13 (by decide)).trans (rfl)
          have r20 := z_rng (ez_I h12 71 56)
          have r21 := z_rng (ez_I h12 71 57)
          have r22 := z_rng (ez_I h12 71 58)
          have A23 : cE (ez_I h12 97) (ez_I h12 98) (ez_I h 77) (ez_I h 78) (ez_I h 79) (ez_I h 92) (ez_I h 94) fr.toInt.toNat to.toInt.toNat := by rw [zG_fn F13 97 (by decide) (by first | omega | exact fun c => c), zG_fn F13 98 (by decide) (by first | omega | exact fun c => c)]; exact A_ce
          have A24 : aR (ez_I h12 100) 286 0 15 := by rw [zG_fn F13 100 (by decide) (by first | omega | exact fun c => c)]; exact A_L
          have A25 : aR (ez_I h12 101) 30 0 15 := by rw [zG_fn F13 101 (by decide) (by first | omega | exact fun c => c)]; exact A_B
          have A26 : ((∀ s : Nat, s < 30 → (ez_I h12 101 s).toInt = 0) → ∀ k : Nat, k < 30 → (ez_I h12 98 k).toInt = 0) := by rw [zG_fn F13 98 (by decide) (by first | omega | exact fun c => c), zG_fn F13 101 (by decide) (by first | omega | exact fun c => c)]; exact A_bz
          have A27 : (no.toInt = 1 → ∀ s : Nat, s < k.toInt.toNat → (ez_I h12 101 s).toInt = 0) := by rw [zG_fn F13 101 (by decide) (by first | omega | exact fun c => c)]; exact A_no
          have A28 : lg8.toInt = wsm (ez_I h12 97) (clI (ez_I h12 100) (ez_I h 93)) 286 + wsm (ez_I h12 98) (cbI (ez_I h12 101) (ez_I h 95)) 30 := by rw [zG_fn F13 97 (by decide) (by first | omega | exact fun c => c), zG_fn F13 98 (by decide) (by first | omega | exact fun c => c), zG_fn F13 100 (by decide) (by first | omega | exact fun c => c), zG_fn F13 101 (by decide) (by first | omega | exact fun c => c)]; exact k10
          refine gw_ld rfl rfl ?_
          refine gw_ld rfl rfl ?_
          refine z_gR (q := 99) (zT S16 (by decide) rfl) (zRf S16 (by decide) (by decide) rfl) (by decide) ?_
          refine z_C (m := 19) rfl rfl (fun x29 ex29 => ?_)
          refine z_C (m := 7) rfl rfl (fun x30 ex30 => ?_)
          refine gw_ld rfl rfl ?_
          refine z_gR (q := 102) (zT S16 (by decide) rfl) (zRf S16 (by decide) (by decide) rfl) (by decide) ?_
          have t31 := congrArg Int32.toInt (f18)
          have t32 := congrArg Int32.toInt (f19)
          refine z_cl rfl rfl rfl rfl rfl rfl rfl rfl rfl rfl rfl (zT S16 (by decide) rfl) ?_
          refine m_len S16 (al := x29) (li := x30) (show zA 99 19 from fun _ S => ⟨zT S (by decide) rfl, zN S (by decide) rfl⟩) (show zA 102 19 from fun _ S => ⟨zT S (by decide) rfl, zN S (by decide) rfl⟩) (by decide) (by omega) (by omega) (fun h33  F34 k35 k36 => ?_)
          have S37 := zG_sh F34 S16
          have F38 := zG_tr F17 (zG_mono F34 (fun k hk => by first | omega | exact False.elim hk) (fun k hk => by first | omega | exact False.elim hk))
          have f39 : ez_I h33 71 15 = (ez_I h2 71 15) := (zG_f F34 (by decide)).trans (f18)
          have f40 : ez_I h33 71 16 = (ez_I h2 71 16) := (zG_f F34 (by decide)).trans (f19)
          have f41 : ez_I h33 71 56 = (ez_I h12 71 56) := (zG_f F34 (by decide)).trans (rfl)
          have f42 : ez_I h33 71 57 = (ez_I h12 71 57) := (zG_f F34 (by decide)).trans (rfl)
          have f43 : ez_I h33 71 58 = (ez_I h12 71 58) := (zG_f F34 (by decide)).trans (rfl)
          have A44 : cE (ez_I h33 97) (ez_I h33 98) (ez_I h 77) (ez_I h 78) (ez_I h 79) (ez_I h 92) (ez_I h 94) fr.toInt.toNat to.toInt.toNat := by rw [zG_fn F34 97 (by decide) (by first | omega | exact fun c => c), zG_fn F34 98 (by decide) (by first | omega | exact fun c => c)]; exact A23
          have A45 : aR (ez_I h33 100) 286 0 15 := by rw [zG_fn F34 100 (by decide) (by first | omega | exact fun c => c)]; exact A24
          have A46 : aR (ez_I h33 101) 30 0 15 := by rw [zG_fn F34 101 (by decide) (by first | omega | exact fun c => c)]; exact A25
          have A47 : ((∀ s : Nat, s < 30 → (ez_I h33 101 s).toInt = 0) → ∀ k : Nat, k < 30 → (ez_I h33 98 k).toInt = 0) := by rw [zG_fn F34 98 (by decide) (by first | omega | exact fun c => c), zG_fn F34 101 (by decide) (by first | omega | exact fun c => c)]; exact A26
          have A48 : (no.toInt = 1 → ∀ s : Nat, s < k.toInt.toNat → (ez_I h33 101 s).toInt = 0) := by rw [zG_fn F34 101 (by decide) (by first | omega | exact fun c => c)]; exact A27
          have A49 : lg8.toInt = wsm (ez_I h33 97) (clI (ez_I h33 100) (ez_I h 93)) 286 + wsm (ez_I h33 98) (cbI (ez_I h33 101) (ez_I h 95)) 30 := by rw [zG_fn F34 97 (by decide) (by first | omega | exact fun c => c), zG_fn F34 98 (by decide) (by first | omega | exact fun c => c), zG_fn F34 100 (by decide) (by first | omega | exact fun c => c), zG_fn F34 101 (by decide) (by first | omega | exact fun c => c)]; exact A28
          have A50 : rQ (ez_I h33 99) (ez_I h33 117) (ez_I h12 71 56).toInt.toNat := by rw [zG_fn F34 99 (by decide) (by first | omega | exact fun c => c), zG_fn F34 117 (by decide) (by first | omega | exact fun c => c)]; exact k15
          refine z_C (m := 4) rfl rfl (fun x51 ex51 => ?_)
          refine gw_st rfl rfl rfl ?_
          show ez_gw _ _ _ _ _ _ _ _ [some (.ref 71), some (.int fr), some (.int to), some (.int pl), some (.int mn), some (.int la), some (.int no), some (.long lg8), none, some (.int x51), l10, l11, l12, l13, l14, l15, l16] _ _ _
          refine z_C (m := 4) rfl rfl (fun x52 ex52 => ?_)
          refine gw_st rfl rfl rfl ?_
          show ez_gw _ _ _ _ _ _ _ _ [some (.ref 71), some (.int fr), some (.int to), some (.int pl), some (.int mn), some (.int la), some (.int no), some (.long lg8), none, some (.int x51), some (.int x52), l11, l12, l13, l14, l15, l16] _ _ _
          have t53 := congrArg Int32.toInt (f39)
          have t54 := congrArg Int32.toInt (f40)
          have t55 := congrArg Int32.toInt (f41)
          have t56 := congrArg Int32.toInt (f42)
          have t57 := congrArg Int32.toInt (f43)
          exact ez_Wp_at ((m_wblock_L4 (fr := fr) (to := to) (pl := pl) (mn := mn) (la := la) S M6 MC hq hr hp hmn hbk hb K (((1000 - x52.toInt)).toNat + 1)) h33 no lg8 x51 x52 (l11) (l12) (l13) (l14) (l15) (l16) (ez_I h12 71 56).toInt.toNat F38 (by omega) A44 A45 (aR_le A46 (by omega)) A49 A50 (aR_le (k35 (pw7 (by omega) (by omega))) (by omega)) (by omega)) rfl
        · have c11 : ¬ (no.toInt = 0) := c11
          refine gw_ld rfl rfl ?_
          refine z_gR (q := 101) (zT S2 (by decide) rfl) (zRf S2 (by decide) (by decide) rfl) (by decide) ?_
          refine z_C (m := 0) rfl rfl (fun x58 ex58 => ?_)
          refine z_C (m := 1) rfl rfl (fun x59 ex59 => ?_)
          refine z_is (n := 30) (zT S2 (by decide) rfl) (zN S2 (by decide) rfl) (by omega) (fun h60 e61 => ?_)
          have S62 := zSh_set S2 e61
          have F63 := zG_setA F e61 (by decide) (by decide)
          have f64 : ez_I h60 71 15 = (ez_I h2 71 15) := (zI_ne e61 (by omega)).trans (rfl)
          have f65 : ez_I h60 71 16 = (ez_I h2 71 16) := (zI_ne e61 (by omega)).trans (rfl)
          have f66 : ez_I h60 71 56 = (ez_I h2 71 56) := (zI_ne e61 (by omega)).trans (rfl)
          have f67 : ez_I h60 71 57 = (ez_I h2 71 57) := (zI_ne e61 (by omega)).trans (rfl)
          have f68 : ez_I h60 71 58 = (ez_I h2 71 58) := (zI_ne e61 (by omega)).trans (rfl)
          have A69 : cE (ez_I h60 97) (ez_I h60 98) (ez_I h 77) (ez_I h 78) (ez_I h 79) (ez_I h 92) (ez_I h 94) fr.toInt.toNat to.toInt.toNat := by rw [zI_fn e61 97 (by decide), zI_fn e61 98 (by decide)]; exact A_ce
          have A70 : aR (ez_I h60 100) 286 0 15 := by rw [zI_fn e61 100 (by decide)]; exact A_L
          have A71 : aR (ez_I h60 101) 30 0 15 := aR_up A_B e61 (by omega)
          have A72 : lg8.toInt = wsm (ez_I h60 97) (clI (ez_I h60 100) (ez_I h 93)) 286 + wsm (ez_I h60 98) (cbI (ez_I h60 101) (ez_I h 95)) 30 := by rw [zI_fn e61 97 (by decide), zI_fn e61 98 (by decide), zI_fn e61 100 (by decide), dy_z (W := ez_I h60 101) (W' := ez_I h2 101) (A_bz (fun s hs => A_no (by omega) s (by omega)))]; exact k10
          refine gw_ld rfl rfl ?_
          have t73 := congrArg Int32.toInt (f64)
          have t74 := congrArg Int32.toInt (f65)
          have t75 := congrArg Int32.toInt (f66)
          have t76 := congrArg Int32.toInt (f67)
          have t77 := congrArg Int32.toInt (f68)
          refine z_cl rfl rfl rfl rfl rfl rfl rfl rfl rfl rfl rfl (zT S62 (by decide) rfl) ?_
          refine m_tl S62 A70 A71 (fun h78 F79 k80 k81 => ?_)
          have S82 := zG_sh F79 S62
          have F83 := zG_tr F63 (zG_mono F79 (fun k hk => by first | omega | exact False.elim hk) (fun k hk => by first | omega | exact False.elim hk))
          have f84 : ez_I h78 71 15 = (ez_I h2 71 15) := (zG_f F79 (by decide)).trans (f64)
          have f85 : ez_I h78 71 16 = (ez_I h2 71 16) := (zG_f F79 (by decide)).trans (f65)
          have r86 := z_rng (ez_I h78 71 56)
          have r87 := z_rng (ez_I h78 71 57)
          have r88 := z_rng (ez_I h78 71 58)
          have A89 : cE (ez_I h78 97) (ez_I h78 98) (ez_I h 77) (ez_I h 78) (ez_I h 79) (ez_I h 92) (ez_I h 94) fr.toInt.toNat to.toInt.toNat := by rw [zG_fn F79 97 (by decide) (by first | omega | exact fun c => c), zG_fn F79 98 (by decide) (by first | omega | exact fun c => c)]; exact A69
          have A90 : aR (ez_I h78 100) 286 0 15 := by rw [zG_fn F79 100 (by decide) (by first | omega | exact fun c => c)]; exact A70
          have A91 : aR (ez_I h78 101) 30 0 15 := by rw [zG_fn F79 101 (by decide) (by first | omega | exact fun c => c)]; exact A71
          have A92 : lg8.toInt = wsm (ez_I h78 97) (clI (ez_I h78 100) (ez_I h 93)) 286 + wsm (ez_I h78 98) (cbI (ez_I h78 101) (ez_I h 95)) 30 := by rw [zG_fn F79 97 (by decide) (by first | omega | exact fun c => c), zG_fn F79 98 (by decide) (by first | omega | exact fun c => c), zG_fn F79 100 (by decide) (by first | omega | exact fun c => c), zG_fn F79 101 (by decide) (by first | omega | exact fun c => c)]; exact A72
          refine gw_ld rfl rfl ?_
          refine gw_ld rfl rfl ?_
          refine z_gR (q := 99) (zT S82 (by decide) rfl) (zRf S82 (by decide) (by decide) rfl) (by decide) ?_
          refine z_C (m := 19) rfl rfl (fun x93 ex93 => ?_)
          refine z_C (m := 7) rfl rfl (fun x94 ex94 => ?_)
          refine gw_ld rfl rfl ?_
          refine z_gR (q := 102) (zT S82 (by decide) rfl) (zRf S82 (by decide) (by decide) rfl) (by decide) ?_
          have t95 := congrArg Int32.toInt (f84)
          have t96 := congrArg Int32.toInt (f85)
          refine z_cl rfl rfl rfl rfl rfl rfl rfl rfl rfl rfl rfl (zT S82 (by decide) rfl) ?_
          refine m_len S82 (al := x93) (li := x94) (show zA 99 19 from fun _ S => ⟨zT S (by decide) rfl, zN S (by decide) rfl⟩) (show zA 102 19 from fun _ S => ⟨zT S (by decide) rfl, zN S (by decide) rfl⟩) (by decide) (by omega) (by omega) (fun h97  F98 k99 k100 => ?_)
          have S101 := zG_sh F98 S82
          have F102 := zG_tr F83 (zG_mono F98 (fun k hk => by first | omega | exact False.elim hk) (fun k hk => by first | omega | exact False.elim hk))
          have f103 : ez_I h97 71 15 = (ez_I h2 71 15) := (zG_f F98 (by decide)).trans (f84)
          have f104 : ez_I h97 71 16 = (ez_I h2 71 16) := (zG_f F98 (by decide)).trans (f85)
          have f105 : ez_I h97 71 56 = (ez_I h78 71 56) := (zG_f F98 (by decide)).trans (rfl)
          have f106 : ez_I h97 71 57 = (ez_I h78 71 57) := (zG_f F98 (by decide)).trans (rfl)
          have f107 : ez_I h97 71 58 = (ez_I h78 71 58) := (zG_f F98 (by decide)).trans (rfl)
          have A108 : cE (ez_I h97 97) (ez_I h97 98) (ez_I h 77) (ez_I h 78) (ez_I h 79) (ez_I h 92) (ez_I h 94) fr.toInt.toNat to.toInt.toNat := by rw [zG_fn F98 97 (by decide) (by first | omega | exact fun c => c), zG_fn F98 98 (by decide) (by first | omega | exact fun c => c)]; exact A89
          have A109 : aR (ez_I h97 100) 286 0 15 := by rw [zG_fn F98 100 (by decide) (by first | omega | exact fun c => c)]; exact A90
          have A110 : aR (ez_I h97 101) 30 0 15 := by rw [zG_fn F98 101 (by decide) (by first | omega | exact fun c => c)]; exact A91
          have A111 : lg8.toInt = wsm (ez_I h97 97) (clI (ez_I h97 100) (ez_I h 93)) 286 + wsm (ez_I h97 98) (cbI (ez_I h97 101) (ez_I h 95)) 30 := by rw [zG_fn F98 97 (by decide) (by first | omega | exact fun c => c), zG_fn F98 98 (by decide) (by first | omega | exact fun c => c), zG_fn F98 100 (by decide) (by first | omega | exact fun c => c), zG_fn F98 101 (by decide) (by first | omega | exact fun c => c)]; exact A92
          have A112 : rQ (ez_I h97 99) (ez_I h97 117) (ez_I h78 71 56).toInt.toNat := by rw [zG_fn F98 99 (by decide) (by first | omega | exact fun c => c), zG_fn F98 117 (by decide) (by first | omega | exact fun c => c)]; exact k81
          refine z_C (m := 4) rfl rfl (fun x113 ex113 => ?_)
          refine gw_st rfl rfl rfl ?_
          show ez_gw _ _ _ _ _ _ _ _ [some (.ref 71), some (.int fr), some (.int to), some (.int pl), some (.int mn), some (.int la), some (.int no), some (.long lg8), none, some (.int x113), l10, l11, l12, l13, l14, l15, l16] _ _ _
          refine z_C (m := 4) rfl rfl (fun x114 ex114 => ?_)
          refine gw_st rfl rfl rfl ?_
          show ez_gw _ _ _ _ _ _ _ _ [some (.ref 71), some (.int fr), some (.int to), some (.int pl), some (.int mn), some (.int la), some (.int no), some (.long lg8), none, some (.int x113), some (.int x114), l11, l12, l13, l14, l15, l16] _ _ _
          have t115 := congrArg Int32.toInt (f103)
          have t116 := congrArg Int32.toInt (f104)
          have t117 := congrArg Int32.toInt (f105)
          have t118 := congrArg Int32.toInt (f106)
          have t119 := congrArg Int32.toInt (f107)
          exact ez_Wp_at ((m_wblock_L4 (fr := fr) (to := to) (pl := pl) (mn := mn) (la := la) S M6 MC hq hr hp hmn hbk hb K (((1000 - x114.toInt)).toNat + 1)) h97 no lg8 x113 x114 (l11) (l12) (l13) (l14) (l15) (l16) (ez_I h78 71 56).toInt.toNat F102 (by omega) A108 A109 (aR_le A110 (by omega)) A111 A112 (aR_le (k99 (pw7 (by omega) (by omega))) (by omega)) (by omega)) rfl
      · have c7 : ¬ (x6.toInt ≤ k.toInt) := c7
        refine gw_ld rfl rfl ?_
        refine z_b1 (fun c120 => ?_) (fun c120 => ?_)
        · have c120 : no.toInt = 0 := c120
          refine gw_skip _ ?_
          refine z_C (m := 0) rfl rfl (fun x121 ex121 => ?_)
          refine gw_st rfl rfl rfl ?_
          show ez_gw _ _ _ _ _ _ _ _ [some (.ref 71), some (.int fr), some (.int to), some (.int pl), some (.int mn), some (.int la), some (.int x121), some (.int k), l8, l9, l10, l11, l12, l13, l14, l15, l16] _ _ _
          refine z_inc rfl (by rw [show (1 : Int32).toInt = 1 from rfl]; omega) (fun x122 ex122 => ?_)
          rw [show (1 : Int32).toInt = 1 from rfl] at ex122
          show ez_gw _ _ _ _ _ _ _ _ [some (.ref 71), some (.int fr), some (.int to), some (.int pl), some (.int mn), some (.int la), some (.int x121), some (.int x122), l8, l9, l10, l11, l12, l13, l14, l15, l16] _ _ _
          refine z_go ?_
          exact ih h2 x121 x122 (l8) (l9) (l10) (l11) (l12) (l13) (l14) (l15) (l16) F (by omega) A_ce A_L A_B A_bz (fun q => by exfalso; omega) (by omega)
        · have c120 : ¬ (no.toInt = 0) := c120
          refine gw_ld rfl rfl ?_
          refine z_gR (q := 101) (zT S2 (by decide) rfl) (zRf S2 (by decide) (by decide) rfl) (by decide) ?_
          refine gw_ld rfl rfl ?_
          refine z_ia (n := 30) (zT S2 (by decide) rfl) (zN S2 (by decide) rfl) (by omega) ?_
          generalize ex123 : ez_I h2 101 k.toInt.toNat = x123
          have rx123 := z_rng x123
          refine z_b1 (fun c124 => ?_) (fun c124 => ?_)
          · have c124 : x123.toInt ≠ 0 := c124
            refine gw_skip _ ?_
            refine z_C (m := 0) rfl rfl (fun x125 ex125 => ?_)
            refine gw_st rfl rfl rfl ?_
            show ez_gw _ _ _ _ _ _ _ _ [some (.ref 71), some (.int fr), some (.int to), some (.int pl), some (.int mn), some (.int la), some (.int x125), some (.int k), l8, l9, l10, l11, l12, l13, l14, l15, l16] _ _ _
            refine z_inc rfl (by rw [show (1 : Int32).toInt = 1 from rfl]; omega) (fun x126 ex126 => ?_)
            rw [show (1 : Int32).toInt = 1 from rfl] at ex126
            show ez_gw _ _ _ _ _ _ _ _ [some (.ref 71), some (.int fr), some (.int to), some (.int pl), some (.int mn), some (.int la), some (.int x125), some (.int x126), l8, l9, l10, l11, l12, l13, l14, l15, l16] _ _ _
            refine z_go ?_
            exact ih h2 x125 x126 (l8) (l9) (l10) (l11) (l12) (l13) (l14) (l15) (l16) F (by omega) A_ce A_L A_B A_bz (fun q => by exfalso; omega) (by omega)
          · have c124 : ¬ (x123.toInt ≠ 0) := c124
            refine z_C (m := 1) rfl rfl (fun x127 ex127 => ?_)
            refine z_go ?_
            refine gw_skip _ ?_
            refine gw_st rfl rfl rfl ?_
            show ez_gw _ _ _ _ _ _ _ _ [some (.ref 71), some (.int fr), some (.int to), some (.int pl), some (.int mn), some (.int la), some (.int x127), some (.int k), l8, l9, l10, l11, l12, l13, l14, l15, l16] _ _ _
            refine z_inc rfl (by rw [show (1 : Int32).toInt = 1 from rfl]; omega) (fun x128 ex128 => ?_)
            rw [show (1 : Int32).toInt = 1 from rfl] at ex128
            show ez_gw _ _ _ _ _ _ _ _ [some (.ref 71), some (.int fr), some (.int to), some (.int pl), some (.int mn), some (.int la), some (.int x127), some (.int x128), l8, l9, l10, l11, l12, l13, l14, l15, l16] _ _ _
            refine z_go ?_
            exact ih h2 x127 x128 (l8) (l9) (l10) (l11) (l12) (l13) (l14) (l15) (l16) F (by omega) A_ce A_L A_B A_bz ((fun q s hs => by by_cases c : s = k.toInt.toNat; (subst c; rw [ex123]; omega); exact A_no (by omega) s (by omega))) (by omega)
set_option maxRecDepth 4000 in
set_option maxHeartbeats 20000000 in
theorem m_wblock_L2 {E : Nat → Nat × (Nat → Int32)} {d : Nat} {Q : ez_Q} {h : ez_H} {fr : Int32} {to : Int32} {pl : Int32} {mn : Int32} {la : Int32} (S : zSh h) {n : Nat} (M6 : 0 ≤ (ez_I h 71 6).toInt ∧ (ez_I h 71 6).toInt ≤ 6000) (MC : cC h) (hq : pQ (ez_I h 77) (ez_I h 78) (ez_I h 79) (ez_I h 72) n (ez_I h 71 6).toInt) (hr : 0 ≤ fr.toInt ∧ fr.toInt ≤ to.toInt ∧ to.toInt ≤ n ∧ n ≤ 6000 ∧ to.toInt - fr.toInt ≤ 600) (hp : pl.toInt = pS (ez_I h 77) fr.toInt.toNat) (hmn : mn.toInt = pS (ez_I h 77) to.toInt.toNat - pS (ez_I h 77) fr.toInt.toNat) (hbk : 0 ≤ (ez_I h 71 15).toInt ∧ (ez_I h 71 15).toInt < 12) (hb : 0 ≤ (ez_I h 71 16).toInt ∧ (ez_I h 71 16).toInt + 42 + 8 * mn.toInt ≤ 64000) (K : ∀ h2, zG (fun k => k = 15 ∨ k = 16 ∨ k = 56 ∨ k = 57 ∨ k = 58) (fun q => q = 75 ∨ 83 ≤ q ∧ q ≤ 91 ∨ 97 ≤ q ∧ q ≤ 119) h h2 → (0 ≤ (ez_I h2 71 16).toInt ∧ (ez_I h2 71 16).toInt ≤ (ez_I h 71 16).toInt + 42 + 8 * mn.toInt ∧ (ez_I h2 71 15).toInt = (ez_I h 71 15).toInt + 1) → Q (.inl none) h2) : ∀ N : Nat, (∀ (h2 : ez_H) (k : Int32) (l7 : Option Value) (l8 : Option Value) (l9 : Option Value) (l10 : Option Value) (l11 : Option Value) (l12 : Option Value) (l13 : Option Value) (l14 : Option Value) (l15 : Option Value) (l16 : Option Value) , zG (fun k => k = 15 ∨ k = 16 ∨ k = 56 ∨ k = 57 ∨ k = 58) (fun q => q = 75 ∨ 83 ≤ q ∧ q ≤ 91 ∨ 97 ≤ q ∧ q ≤ 119) h h2 → (fr.toInt ≤ k.toInt ∧ k.toInt ≤ to.toInt ∧ (ez_I h2 71 15).toInt = (ez_I h 71 15).toInt ∧ (ez_I h2 71 16).toInt = (ez_I h 71 16).toInt) → cQ (ez_I h2 97) (ez_I h2 98) (ez_I h 77) (ez_I h 78) (ez_I h 79) (ez_I h 92) (ez_I h 94) fr.toInt.toNat k.toInt.toNat → (7000 - k.toInt) < (N : Int) → pw E (d + 2) 44 52 [some (.ref 71), some (.int fr), some (.int to), some (.int pl), some (.int mn), some (.int la), some (.int k), l7, l8, l9, l10, l11, l12, l13, l14, l15, l16] [] h2 Q) := by
  intro N
  induction N with
  | zero => exact fun h2 k l7 l8 l9 l10 l11 l12 l13 l14 l15 l16  F hinv A_cq hm => absurd hm (by have w_k := z_rng k; have gfr := z_rng fr; have gto := z_rng to; have gpl := z_rng pl; have gmn := z_rng mn; have gla := z_rng la; have MC1 := MC.1; have hps := pQ_rng hq (a := fr.toInt.toNat) (b := to.toInt.toNat) (by omega) (by omega); omega)
  | succ N ih =>
    refine fun h2 k l7 l8 l9 l10 l11 l12 l13 l14 l15 l16  F hinv A_cq hm => ?_
    · skip
      have w_k := z_rng k
      have gfr := z_rng fr
      have gto := z_rng to
      have gpl := z_rng pl
      have gmn := z_rng mn
      have gla := z_rng la
      have MC1 := MC.1
      have hps := pQ_rng hq (a := fr.toInt.toNat) (b := to.toInt.toNat) (by omega) (by omega)
      have S2 := zG_sh F S
      have hpk : k.toInt < to.toInt → _ := fun c => hq.2 k.toInt.toNat (by omega)
      apply ez_Wp_in
      show ez_gw _ _ _ _ _ _ (cz_44) _ _ _ _ _
      refine gw_skip _ ?_
      have r1 := z_rng (ez_I h2 71 15)
      have r2 := z_rng (ez_I h2 71 16)
      have r3 := z_rng (ez_I h2 71 56)
      have r4 := z_rng (ez_I h2 71 57)
      have r5 := z_rng (ez_I h2 71 58)
      refine gw_ld rfl rfl ?_
      refine gw_ld rfl rfl ?_
      refine z_b2 (fun c6 => ?_) (fun c6 => ?_)
      · have c6 : to.toInt ≤ k.toInt := c6
        refine gw_skip _ ?_
        refine gw_ld rfl rfl ?_
        refine z_gR (q := 97) (zT S2 (by decide) rfl) (zRf S2 (by decide) (by decide) rfl) (by decide) ?_
        refine z_C (m := 256) rfl rfl (fun x7 ex7 => ?_)
        refine gw_op rfl ?_
        refine z_ia (n := 288) (zT S2 (by decide) rfl) (zN S2 (by decide) rfl) (by omega) ?_
        generalize ex8 : ez_I h2 97 x7.toInt.toNat = x8
        have rx8 := z_rng x8
        have yx8 := A_cq.1 x7.toInt.toNat (by omega)
        rw [ex8] at yx8
        refine z_C (m := 1) rfl rfl (fun x9 ex9 => ?_)
        refine z_add (by omega) (fun x10 ex10 => ?_)
        refine z_is (n := 288) (zT S2 (by decide) rfl) (zN S2 (by decide) rfl) (by omega) (fun h11 e12 => ?_)
        have S13 := zSh_set S2 e12
        have F14 := zG_setA F e12 (by decide) (by decide)
        have f15 : ez_I h11 71 15 = (ez_I h2 71 15) := (zI_ne e12 (by omega)).trans (rfl)
        have f16 : ez_I h11 71 16 = (ez_I h2 71 16) := (zI_ne e12 (by omega)).trans (rfl)
        have f17 : ez_I h11 71 56 = (ez_I h2 71 56) := (zI_ne e12 (by omega)).trans (rfl)
        have f18 : ez_I h11 71 57 = (ez_I h2 71 57) := (zI_ne e12 (by omega)).trans (rfl)
        have f19 : ez_I h11 71 58 = (ez_I h2 71 58) := (zI_ne e12 (by omega)).trans (rfl)
        have A20 : cQ (ez_I h2 97) (ez_I h11 98) (ez_I h 77) (ez_I h 78) (ez_I h 79) (ez_I h 92) (ez_I h 94) fr.toInt.toNat k.toInt.toNat := by rw [zI_fn e12 98 (by decide)]; exact A_cq
        have A21 : cE (ez_I h11 97) (ez_I h11 98) (ez_I h 77) (ez_I h 78) (ez_I h 79) (ez_I h 92) (ez_I h 94) fr.toInt.toNat to.toInt.toNat := by rw [zI_fn e12 98 (by decide), show to.toInt.toNat = k.toInt.toNat by omega]; exact cE_of A_cq (upd1_of e12 ex8 (by omega)) (by omega) (by omega)
        refine gw_ld rfl rfl ?_
        refine gw_ld rfl rfl ?_
        refine z_gR (q := 97) (zT S13 (by decide) rfl) (zRf S13 (by decide) (by decide) rfl) (by decide) ?_
        refine z_C (m := 286) rfl rfl (fun x22 ex22 => ?_)
        refine z_C (m := 15) rfl rfl (fun x23 ex23 => ?_)
        refine gw_ld rfl rfl ?_
        refine z_gR (q := 100) (zT S13 (by decide) rfl) (zRf S13 (by decide) (by decide) rfl) (by decide) ?_
        have t24 := congrArg Int32.toInt (f15)
        have t25 := congrArg Int32.toInt (f16)
        have t26 := congrArg Int32.toInt (f17)
        have t27 := congrArg Int32.toInt (f18)
        have t28 := congrArg Int32.toInt (f19)
        refine z_cl rfl rfl rfl rfl rfl rfl rfl rfl rfl rfl rfl (zT S13 (by decide) rfl) ?_
        refine m_len S13 (al := x22) (li := x23) (show zA 97 288 from fun _ S => ⟨zT S (by decide) rfl, zN S (by decide) rfl⟩) (show zA 100 288 from fun _ S => ⟨zT S (by decide) rfl, zN S (by decide) rfl⟩) (by decide) (by omega) (by omega) (fun h29  F30 k31 k32 => ?_)
        have S33 := zG_sh F30 S13
        have F34 := zG_tr F14 (zG_mono F30 (fun k hk => by first | omega | exact False.elim hk) (fun k hk => by first | omega | exact False.elim hk))
        have f35 : ez_I h29 71 15 = (ez_I h2 71 15) := (zG_f F30 (by decide)).trans (f15)
        have f36 : ez_I h29 71 16 = (ez_I h2 71 16) := (zG_f F30 (by decide)).trans (f16)
        have f37 : ez_I h29 71 56 = (ez_I h2 71 56) := (zG_f F30 (by decide)).trans (f17)
        have f38 : ez_I h29 71 57 = (ez_I h2 71 57) := (zG_f F30 (by decide)).trans (f18)
        have f39 : ez_I h29 71 58 = (ez_I h2 71 58) := (zG_f F30 (by decide)).trans (f19)
        have A40 : cQ (ez_I h2 97) (ez_I h29 98) (ez_I h 77) (ez_I h 78) (ez_I h 79) (ez_I h 92) (ez_I h 94) fr.toInt.toNat k.toInt.toNat := by rw [zG_fn F30 98 (by decide) (by first | omega | exact fun c => c)]; exact A20
        have A41 : cE (ez_I h29 97) (ez_I h29 98) (ez_I h 77) (ez_I h 78) (ez_I h 79) (ez_I h 92) (ez_I h 94) fr.toInt.toNat to.toInt.toNat := by rw [zG_fn F30 97 (by decide) (by first | omega | exact fun c => c), zG_fn F30 98 (by decide) (by first | omega | exact fun c => c)]; exact A21
        refine gw_ld rfl rfl ?_
        refine gw_ld rfl rfl ?_
        refine z_gR (q := 98) (zT S33 (by decide) rfl) (zRf S33 (by decide) (by decide) rfl) (by decide) ?_
        refine z_C (m := 30) rfl rfl (fun x42 ex42 => ?_)
        refine z_C (m := 15) rfl rfl (fun x43 ex43 => ?_)
        refine gw_ld rfl rfl ?_
        refine z_gR (q := 101) (zT S33 (by decide) rfl) (zRf S33 (by decide) (by decide) rfl) (by decide) ?_
        have t44 := congrArg Int32.toInt (f35)
        have t45 := congrArg Int32.toInt (f36)
        have t46 := congrArg Int32.toInt (f37)
        have t47 := congrArg Int32.toInt (f38)
        have t48 := congrArg Int32.toInt (f39)
        refine z_cl rfl rfl rfl rfl rfl rfl rfl rfl rfl rfl rfl (zT S33 (by decide) rfl) ?_
        refine m_len S33 (al := x42) (li := x43) (show zA 98 30 from fun _ S => ⟨zT S (by decide) rfl, zN S (by decide) rfl⟩) (show zA 101 30 from fun _ S => ⟨zT S (by decide) rfl, zN S (by decide) rfl⟩) (by decide) (by omega) (by omega) (fun h49  F50 k51 k52 => ?_)
        have S53 := zG_sh F50 S33
        have F54 := zG_tr F34 (zG_mono F50 (fun k hk => by first | omega | exact False.elim hk) (fun k hk => by first | omega | exact False.elim hk))
        have f55 : ez_I h49 71 15 = (ez_I h2 71 15) := (zG_f F50 (by decide)).trans (f35)
        have f56 : ez_I h49 71 16 = (ez_I h2 71 16) := (zG_f F50 (by decide)).trans (f36)
        have f57 : ez_I h49 71 56 = (ez_I h2 71 56) := (zG_f F50 (by decide)).trans (f37)
        have f58 : ez_I h49 71 57 = (ez_I h2 71 57) := (zG_f F50 (by decide)).trans (f38)
        have f59 : ez_I h49 71 58 = (ez_I h2 71 58) := (zG_f F50 (by decide)).trans (f39)
        have A60 : cQ (ez_I h2 97) (ez_I h49 98) (ez_I h 77) (ez_I h 78) (ez_I h 79) (ez_I h 92) (ez_I h 94) fr.toInt.toNat k.toInt.toNat := by rw [zG_fn F50 98 (by decide) (by first | omega | exact fun c => c)]; exact A40
        have A61 : cE (ez_I h49 97) (ez_I h49 98) (ez_I h 77) (ez_I h 78) (ez_I h 79) (ez_I h 92) (ez_I h 94) fr.toInt.toNat to.toInt.toNat := by rw [zG_fn F50 97 (by decide) (by first | omega | exact fun c => c), zG_fn F50 98 (by decide) (by first | omega | exact fun c => c)]; exact A41
        have A62 : aR (ez_I h49 100) 286 0 15 := by rw [zG_fn F50 100 (by decide) (by first | omega | exact fun c => c)]; exact (aR_le (k31 (pw15 (by omega) (by omega))) (by omega))
        refine z_C (m := 1) rfl rfl (fun x63 ex63 => ?_)
        refine gw_st rfl rfl rfl ?_
        show ez_gw _ _ _ _ _ _ _ _ [some (.ref 71), some (.int fr), some (.int to), some (.int pl), some (.int mn), some (.int la), some (.int x63), l7, l8, l9, l10, l11, l12, l13, l14, l15, l16] _ _ _
        refine z_C (m := 0) rfl rfl (fun x64 ex64 => ?_)
        refine gw_st rfl rfl rfl ?_
        show ez_gw _ _ _ _ _ _ _ _ [some (.ref 71), some (.int fr), some (.int to), some (.int pl), some (.int mn), some (.int la), some (.int x63), some (.int x64), l8, l9, l10, l11, l12, l13, l14, l15, l16] _ _ _
        have t65 := congrArg Int32.toInt (f55)
        have t66 := congrArg Int32.toInt (f56)
        have t67 := congrArg Int32.toInt (f57)
        have t68 := congrArg Int32.toInt (f58)
        have t69 := congrArg Int32.toInt (f59)
        exact ez_Wp_at ((m_wblock_L3 (fr := fr) (to := to) (pl := pl) (mn := mn) (la := la) S M6 MC hq hr hp hmn hbk hb K (((1000 - x64.toInt)).toNat + 1)) h49 x63 x64 (l8) (l9) (l10) (l11) (l12) (l13) (l14) (l15) (l16) F54 (by omega) A61 A62 (aR_le (k51 (pw15 (by omega) (by omega))) (by omega)) (fun Z k hk => by rw [zG_fn F50 98 (by decide) (by omega)]; exact k52 (pw15 (by omega) (by omega)) (fun s hs => Z s (by omega)) k (by omega)) (fun q s hs => by exfalso; omega) (by omega)) rfl
      · have c6 : ¬ (to.toInt ≤ k.toInt) := c6
        refine gw_ld rfl rfl ?_
        refine z_gR (q := 78) (zT S2 (by decide) rfl) (zRf S2 (by decide) (by decide) rfl) (by decide) ?_
        refine gw_ld rfl rfl ?_
        refine z_iaV (n := 6000) (zT S2 (by decide) rfl) (zN S2 (by decide) rfl) (by omega) (zG_a F (by decide) (by decide)) ?_
        generalize ex70 : ez_I h 78 k.toInt.toNat = x70
        have rx70 := z_rng x70
        have hpk0 := hpk (by omega)
        have hpk1 := hpk0.1
        have hpk2 := hpk0.2.1
        have hpk3 := hpk0.2.2.1
        have hpk5 := hpk0.2.2.2.2
        rw [ex70] at hpk2 hpk3
        refine z_b1 (fun c71 => ?_) (fun c71 => ?_)
        · have c71 : x70.toInt ≠ 0 := c71
          refine gw_skip _ ?_
          refine gw_ld rfl rfl ?_
          refine z_gR (q := 97) (zT S2 (by decide) rfl) (zRf S2 (by decide) (by decide) rfl) (by decide) ?_
          refine z_C (m := 257) rfl rfl (fun x72 ex72 => ?_)
          refine gw_ld rfl rfl ?_
          refine gw_ld rfl rfl ?_
          refine z_gR (q := 77) (zT S2 (by decide) rfl) (zRf S2 (by decide) (by decide) rfl) (by decide) ?_
          refine gw_ld rfl rfl ?_
          refine z_iaV (n := 6000) (zT S2 (by decide) rfl) (zN S2 (by decide) rfl) (by omega) (zG_a F (by decide) (by decide)) ?_
          generalize ex73 : ez_I h 77 k.toInt.toNat = x73
          have rx73 := z_rng x73
          rw [ex73] at hpk1 hpk3
          refine z_cl rfl rfl rfl rfl rfl rfl rfl rfl rfl rfl rfl (zT S2 (by decide) rfl) ?_
          refine m_lc (n := x73) (f := ez_I h 92) S2 (zG_fn F 92 (by decide) (by omega)) (by omega) (fun x74 k75 => ?_)
          have rx74 := z_rng x74
          refine z_add (by omega) (fun x76 ex76 => ?_)
          refine gw_op rfl ?_
          refine z_ia (n := 288) (zT S2 (by decide) rfl) (zN S2 (by decide) rfl) (by omega) ?_
          generalize ex77 : ez_I h2 97 x76.toInt.toNat = x77
          have rx77 := z_rng x77
          have yx77 := A_cq.1 x76.toInt.toNat (by omega)
          rw [ex77] at yx77
          refine z_C (m := 1) rfl rfl (fun x78 ex78 => ?_)
          refine z_add (by omega) (fun x79 ex79 => ?_)
          refine z_is (n := 288) (zT S2 (by decide) rfl) (zN S2 (by decide) rfl) (by omega) (fun h80 e81 => ?_)
          have S82 := zSh_set S2 e81
          have F83 := zG_setA F e81 (by decide) (by decide)
          have f84 : ez_I h80 71 15 = (ez_I h2 71 15) := (zI_ne e81 (by omega)).trans (rfl)
          have f85 : ez_I h80 71 16 = (ez_I h2 71 16) := (zI_ne e81 (by omega)).trans (rfl)
          have f86 : ez_I h80 71 56 = (ez_I h2 71 56) := (zI_ne e81 (by omega)).trans (rfl)
          have f87 : ez_I h80 71 57 = (ez_I h2 71 57) := (zI_ne e81 (by omega)).trans (rfl)
          have f88 : ez_I h80 71 58 = (ez_I h2 71 58) := (zI_ne e81 (by omega)).trans (rfl)
          have A89 : cQ (ez_I h2 97) (ez_I h80 98) (ez_I h 77) (ez_I h 78) (ez_I h 79) (ez_I h 92) (ez_I h 94) fr.toInt.toNat k.toInt.toNat := by rw [zI_fn e81 98 (by decide)]; exact A_cq
          have A90 : upd1 (ez_I h2 97) (ez_I h80 97) x76.toInt.toNat := upd1_of e81 ex77 (by omega)
          refine gw_ld rfl rfl ?_
          refine z_gR (q := 98) (zT S82 (by decide) rfl) (zRf S82 (by decide) (by decide) rfl) (by decide) ?_
          refine gw_ld rfl rfl ?_
          refine gw_ld rfl rfl ?_
          refine z_gR (q := 78) (zT S82 (by decide) rfl) (zRf S82 (by decide) (by decide) rfl) (by decide) ?_
          refine gw_ld rfl rfl ?_
          refine z_iaV (n := 6000) (zT S82 (by decide) rfl) (zN S82 (by decide) rfl) (by omega) ((zG_a F83 (by decide) (by decide)).trans ex70) ?_
          have t92 := congrArg Int32.toInt (f84)
          have t93 := congrArg Int32.toInt (f85)
          have t94 := congrArg Int32.toInt (f86)
          have t95 := congrArg Int32.toInt (f87)
          have t96 := congrArg Int32.toInt (f88)
          refine z_cl rfl rfl rfl rfl rfl rfl rfl rfl rfl rfl rfl (zT S82 (by decide) rfl) ?_
          refine m_bc (n := x70) (f := ez_I h 94) S82 (zG_fn F83 94 (by decide) (by omega)) (by omega) (fun x97 k98 => ?_)
          have rx97 := z_rng x97
          refine gw_op rfl ?_
          refine z_ia (n := 30) (zT S82 (by decide) rfl) (zN S82 (by decide) rfl) (by omega) ?_
          generalize ex99 : ez_I h80 98 x97.toInt.toNat = x99
          have rx99 := z_rng x99
          have yx99 := A89.2.1 x97.toInt.toNat (by omega)
          rw [ex99] at yx99
          refine z_C (m := 1) rfl rfl (fun x100 ex100 => ?_)
          refine z_add (by omega) (fun x101 ex101 => ?_)
          refine z_is (n := 30) (zT S82 (by decide) rfl) (zN S82 (by decide) rfl) (by omega) (fun h102 e103 => ?_)
          have S104 := zSh_set S82 e103
          have F105 := zG_setA F83 e103 (by decide) (by decide)
          have f106 : ez_I h102 71 15 = (ez_I h2 71 15) := (zI_ne e103 (by omega)).trans (f84)
          have f107 : ez_I h102 71 16 = (ez_I h2 71 16) := (zI_ne e103 (by omega)).trans (f85)
          have f108 : ez_I h102 71 56 = (ez_I h2 71 56) := (zI_ne e103 (by omega)).trans (f86)
          have f109 : ez_I h102 71 57 = (ez_I h2 71 57) := (zI_ne e103 (by omega)).trans (f87)
          have f110 : ez_I h102 71 58 = (ez_I h2 71 58) := (zI_ne e103 (by omega)).trans (f88)
          have A111 : cQ (ez_I h102 97) (ez_I h102 98) (ez_I h 77) (ez_I h 78) (ez_I h 79) (ez_I h 92) (ez_I h 94) fr.toInt.toNat (k.toInt.toNat + 1) := by rw [zI_fn e103 97 (by decide)]; exact cQ_r A89 A90 (upd1_of e103 ex99 (by omega)) ex73 ex70 (by omega) k75.2.2 k98.2.2 (by omega) rfl rfl
          have A112 : upd1 (ez_I h2 97) (ez_I h102 97) x76.toInt.toNat := by rw [zI_fn e103 97 (by decide)]; exact A90
          clear A89
          clear A90
          refine z_inc rfl (by rw [show (1 : Int32).toInt = 1 from rfl]; omega) (fun x113 ex113 => ?_)
          rw [show (1 : Int32).toInt = 1 from rfl] at ex113
          show ez_gw _ _ _ _ _ _ _ _ [some (.ref 71), some (.int fr), some (.int to), some (.int pl), some (.int mn), some (.int la), some (.int x113), l7, l8, l9, l10, l11, l12, l13, l14, l15, l16] _ _ _
          refine z_go ?_
          have t114 := congrArg Int32.toInt (f106)
          have t115 := congrArg Int32.toInt (f107)
          have t116 := congrArg Int32.toInt (f108)
          have t117 := congrArg Int32.toInt (f109)
          have t118 := congrArg Int32.toInt (f110)
          exact ih h102 x113 (l7) (l8) (l9) (l10) (l11) (l12) (l13) (l14) (l15) (l16) F105 (by omega) ((by rw [show x113.toInt.toNat = k.toInt.toNat + 1 by omega]; exact A111)) (by omega)
        · have c71 : ¬ (x70.toInt ≠ 0) := c71
          refine gw_ld rfl rfl ?_
          refine z_gR (q := 97) (zT S2 (by decide) rfl) (zRf S2 (by decide) (by decide) rfl) (by decide) ?_
          refine gw_ld rfl rfl ?_
          refine z_gR (q := 79) (zT S2 (by decide) rfl) (zRf S2 (by decide) (by decide) rfl) (by decide) ?_
          refine gw_ld rfl rfl ?_
          refine z_iaV (n := 6000) (zT S2 (by decide) rfl) (zN S2 (by decide) rfl) (by omega) (zG_a F (by decide) (by decide)) ?_
          generalize ex119 : ez_I h 79 k.toInt.toNat = x119
          have rx119 := z_rng x119
          rw [ex119] at hpk5
          refine gw_op rfl ?_
          refine z_ia (n := 288) (zT S2 (by decide) rfl) (zN S2 (by decide) rfl) (by omega) ?_
          generalize ex120 : ez_I h2 97 x119.toInt.toNat = x120
          have rx120 := z_rng x120
          have yx120 := A_cq.1 x119.toInt.toNat (by omega)
          rw [ex120] at yx120
          refine z_C (m := 1) rfl rfl (fun x121 ex121 => ?_)
          refine z_add (by omega) (fun x122 ex122 => ?_)
          refine z_is (n := 288) (zT S2 (by decide) rfl) (zN S2 (by decide) rfl) (by omega) (fun h123 e124 => ?_)
          have S125 := zSh_set S2 e124
          have F126 := zG_setA F e124 (by decide) (by decide)
          have f127 : ez_I h123 71 15 = (ez_I h2 71 15) := (zI_ne e124 (by omega)).trans (rfl)
          have f128 : ez_I h123 71 16 = (ez_I h2 71 16) := (zI_ne e124 (by omega)).trans (rfl)
          have f129 : ez_I h123 71 56 = (ez_I h2 71 56) := (zI_ne e124 (by omega)).trans (rfl)
          have f130 : ez_I h123 71 57 = (ez_I h2 71 57) := (zI_ne e124 (by omega)).trans (rfl)
          have f131 : ez_I h123 71 58 = (ez_I h2 71 58) := (zI_ne e124 (by omega)).trans (rfl)
          have A132 : cQ (ez_I h123 97) (ez_I h123 98) (ez_I h 77) (ez_I h 78) (ez_I h 79) (ez_I h 92) (ez_I h 94) fr.toInt.toNat (k.toInt.toNat + 1) := by rw [zI_fn e124 98 (by decide)]; exact cQ_b A_cq (upd1_of e124 ex120 (by omega)) ex70 (by omega) ex119 rfl (by omega) rfl
          refine z_go ?_
          refine gw_skip _ ?_
          refine z_inc rfl (by rw [show (1 : Int32).toInt = 1 from rfl]; omega) (fun x133 ex133 => ?_)
          rw [show (1 : Int32).toInt = 1 from rfl] at ex133
          show ez_gw _ _ _ _ _ _ _ _ [some (.ref 71), some (.int fr), some (.int to), some (.int pl), some (.int mn), some (.int la), some (.int x133), l7, l8, l9, l10, l11, l12, l13, l14, l15, l16] _ _ _
          refine z_go ?_
          have t134 := congrArg Int32.toInt (f127)
          have t135 := congrArg Int32.toInt (f128)
          have t136 := congrArg Int32.toInt (f129)
          have t137 := congrArg Int32.toInt (f130)
          have t138 := congrArg Int32.toInt (f131)
          exact ih h123 x133 (l7) (l8) (l9) (l10) (l11) (l12) (l13) (l14) (l15) (l16) F126 (by omega) ((by rw [show x133.toInt.toNat = k.toInt.toNat + 1 by omega]; exact A132)) (by omega)
set_option maxRecDepth 4000 in
set_option maxHeartbeats 20000000 in
theorem m_wblock_L1 {E : Nat → Nat × (Nat → Int32)} {d : Nat} {Q : ez_Q} {h : ez_H} {fr : Int32} {to : Int32} {pl : Int32} {mn : Int32} {la : Int32} (S : zSh h) {n : Nat} (M6 : 0 ≤ (ez_I h 71 6).toInt ∧ (ez_I h 71 6).toInt ≤ 6000) (MC : cC h) (hq : pQ (ez_I h 77) (ez_I h 78) (ez_I h 79) (ez_I h 72) n (ez_I h 71 6).toInt) (hr : 0 ≤ fr.toInt ∧ fr.toInt ≤ to.toInt ∧ to.toInt ≤ n ∧ n ≤ 6000 ∧ to.toInt - fr.toInt ≤ 600) (hp : pl.toInt = pS (ez_I h 77) fr.toInt.toNat) (hmn : mn.toInt = pS (ez_I h 77) to.toInt.toNat - pS (ez_I h 77) fr.toInt.toNat) (hbk : 0 ≤ (ez_I h 71 15).toInt ∧ (ez_I h 71 15).toInt < 12) (hb : 0 ≤ (ez_I h 71 16).toInt ∧ (ez_I h 71 16).toInt + 42 + 8 * mn.toInt ≤ 64000) (K : ∀ h2, zG (fun k => k = 15 ∨ k = 16 ∨ k = 56 ∨ k = 57 ∨ k = 58) (fun q => q = 75 ∨ 83 ≤ q ∧ q ≤ 91 ∨ 97 ≤ q ∧ q ≤ 119) h h2 → (0 ≤ (ez_I h2 71 16).toInt ∧ (ez_I h2 71 16).toInt ≤ (ez_I h 71 16).toInt + 42 + 8 * mn.toInt ∧ (ez_I h2 71 15).toInt = (ez_I h 71 15).toInt + 1) → Q (.inl none) h2) : ∀ N : Nat, (∀ (h2 : ez_H) (k : Int32) (l7 : Option Value) (l8 : Option Value) (l9 : Option Value) (l10 : Option Value) (l11 : Option Value) (l12 : Option Value) (l13 : Option Value) (l14 : Option Value) (l15 : Option Value) (l16 : Option Value) , zG (fun k => k = 15 ∨ k = 16 ∨ k = 56 ∨ k = 57 ∨ k = 58) (fun q => q = 75 ∨ 83 ≤ q ∧ q ≤ 91 ∨ 97 ≤ q ∧ q ≤ 119) h h2 → (0 ≤ k.toInt ∧ k.toInt ≤ 30 ∧ (ez_I h2 71 15).toInt = (ez_I h 71 15).toInt ∧ (ez_I h2 71 16).toInt = (ez_I h 71 16).toInt) → aR (ez_I h2 97) 288 0 0 → aR (ez_I h2 98) k.toInt.toNat 0 0 → (1000 - k.toInt) < (N : Int) → pw E (d + 2) 44 28 [some (.ref 71), some (.int fr), some (.int to), some (.int pl), some (.int mn), some (.int la), some (.int k), l7, l8, l9, l10, l11, l12, l13, l14, l15, l16] [] h2 Q) := by
  intro N
  induction N with
  | zero => exact fun h2 k l7 l8 l9 l10 l11 l12 l13 l14 l15 l16  F hinv A_z97 A_z98 hm => absurd hm (by have w_k := z_rng k; have gfr := z_rng fr; have gto := z_rng to; have gpl := z_rng pl; have gmn := z_rng mn; have gla := z_rng la; have MC1 := MC.1; have hps := pQ_rng hq (a := fr.toInt.toNat) (b := to.toInt.toNat) (by omega) (by omega); omega)
  | succ N ih =>
    refine fun h2 k l7 l8 l9 l10 l11 l12 l13 l14 l15 l16  F hinv A_z97 A_z98 hm => ?_
    · skip
      have w_k := z_rng k
      have gfr := z_rng fr
      have gto := z_rng to
      have gpl := z_rng pl
      have gmn := z_rng mn
      have gla := z_rng la
      have MC1 := MC.1
      have hps := pQ_rng hq (a := fr.toInt.toNat) (b := to.toInt.toNat) (by omega) (by omega)
      have S2 := zG_sh F S
      apply ez_Wp_in
      show ez_gw _ _ _ _ _ _ (cz_44) _ _ _ _ _
      refine gw_skip _ ?_
      have r1 := z_rng (ez_I h2 71 15)
      have r2 := z_rng (ez_I h2 71 16)
      have r3 := z_rng (ez_I h2 71 56)
      have r4 := z_rng (ez_I h2 71 57)
      have r5 := z_rng (ez_I h2 71 58)
      refine gw_ld rfl rfl ?_
      refine z_C (m := 30) rfl rfl (fun x6 ex6 => ?_)
      refine z_b2 (fun c7 => ?_) (fun c7 => ?_)
      · have c7 : x6.toInt ≤ k.toInt := c7
        refine gw_skip _ ?_
        refine gw_ld rfl rfl ?_
        refine gw_st rfl rfl rfl ?_
        show ez_gw _ _ _ _ _ _ _ _ [some (.ref 71), some (.int fr), some (.int to), some (.int pl), some (.int mn), some (.int la), some (.int fr), l7, l8, l9, l10, l11, l12, l13, l14, l15, l16] _ _ _
        exact ez_Wp_at ((m_wblock_L2 (fr := fr) (to := to) (pl := pl) (mn := mn) (la := la) S M6 MC hq hr hp hmn hbk hb K (((7000 - fr.toInt)).toNat + 1)) h2 fr (l7) (l8) (l9) (l10) (l11) (l12) (l13) (l14) (l15) (l16) F (by omega) (cQ_0 (aR_le A_z97 (by omega)) (aR_le A_z98 (by omega)) (by omega)) (by omega)) rfl
      · have c7 : ¬ (x6.toInt ≤ k.toInt) := c7
        refine gw_ld rfl rfl ?_
        refine z_gR (q := 98) (zT S2 (by decide) rfl) (zRf S2 (by decide) (by decide) rfl) (by decide) ?_
        refine gw_ld rfl rfl ?_
        refine z_C (m := 0) rfl rfl (fun x8 ex8 => ?_)
        refine z_is (n := 30) (zT S2 (by decide) rfl) (zN S2 (by decide) rfl) (by omega) (fun h9 e10 => ?_)
        have S11 := zSh_set S2 e10
        have F12 := zG_setA F e10 (by decide) (by decide)
        have f13 : ez_I h9 71 15 = (ez_I h2 71 15) := (zI_ne e10 (by omega)).trans (rfl)
        have f14 : ez_I h9 71 16 = (ez_I h2 71 16) := (zI_ne e10 (by omega)).trans (rfl)
        have f15 : ez_I h9 71 56 = (ez_I h2 71 56) := (zI_ne e10 (by omega)).trans (rfl)
        have f16 : ez_I h9 71 57 = (ez_I h2 71 57) := (zI_ne e10 (by omega)).trans (rfl)
        have f17 : ez_I h9 71 58 = (ez_I h2 71 58) := (zI_ne e10 (by omega)).trans (rfl)
        have A18 : aR (ez_I h9 97) 288 0 0 := by rw [zI_fn e10 97 (by decide)]; exact A_z97
        have A19 : aR (ez_I h9 98) (k.toInt.toNat + 1) 0 0 := aR_ex A_z98 e10 (by omega) (by omega)
        refine z_inc rfl (by rw [show (1 : Int32).toInt = 1 from rfl]; omega) (fun x20 ex20 => ?_)
        rw [show (1 : Int32).toInt = 1 from rfl] at ex20
        show ez_gw _ _ _ _ _ _ _ _ [some (.ref 71), some (.int fr), some (.int to), some (.int pl), some (.int mn), some (.int la), some (.int x20), l7, l8, l9, l10, l11, l12, l13, l14, l15, l16] _ _ _
        refine z_go ?_
        have t21 := congrArg Int32.toInt (f13)
        have t22 := congrArg Int32.toInt (f14)
        have t23 := congrArg Int32.toInt (f15)
        have t24 := congrArg Int32.toInt (f16)
        have t25 := congrArg Int32.toInt (f17)
        exact ih h9 x20 (l7) (l8) (l9) (l10) (l11) (l12) (l13) (l14) (l15) (l16) F12 (by omega) (aR_le A18 (by omega)) (aR_le A19 (by omega)) (by omega)
set_option maxRecDepth 4000 in
set_option maxHeartbeats 20000000 in
theorem m_wblock_L0 {E : Nat → Nat × (Nat → Int32)} {d : Nat} {Q : ez_Q} {h : ez_H} {fr : Int32} {to : Int32} {pl : Int32} {mn : Int32} {la : Int32} (S : zSh h) {n : Nat} (M6 : 0 ≤ (ez_I h 71 6).toInt ∧ (ez_I h 71 6).toInt ≤ 6000) (MC : cC h) (hq : pQ (ez_I h 77) (ez_I h 78) (ez_I h 79) (ez_I h 72) n (ez_I h 71 6).toInt) (hr : 0 ≤ fr.toInt ∧ fr.toInt ≤ to.toInt ∧ to.toInt ≤ n ∧ n ≤ 6000 ∧ to.toInt - fr.toInt ≤ 600) (hp : pl.toInt = pS (ez_I h 77) fr.toInt.toNat) (hmn : mn.toInt = pS (ez_I h 77) to.toInt.toNat - pS (ez_I h 77) fr.toInt.toNat) (hbk : 0 ≤ (ez_I h 71 15).toInt ∧ (ez_I h 71 15).toInt < 12) (hb : 0 ≤ (ez_I h 71 16).toInt ∧ (ez_I h 71 16).toInt + 42 + 8 * mn.toInt ≤ 64000) (K : ∀ h2, zG (fun k => k = 15 ∨ k = 16 ∨ k = 56 ∨ k = 57 ∨ k = 58) (fun q => q = 75 ∨ 83 ≤ q ∧ q ≤ 91 ∨ 97 ≤ q ∧ q ≤ 119) h h2 → (0 ≤ (ez_I h2 71 16).toInt ∧ (ez_I h2 71 16).toInt ≤ (ez_I h 71 16).toInt + 42 + 8 * mn.toInt ∧ (ez_I h2 71 15).toInt = (ez_I h 71 15).toInt + 1) → Q (.inl none) h2) : ∀ N : Nat, (∀ (h2 : ez_H) (k : Int32) (l7 : Option Value) (l8 : Option Value) (l9 : Option Value) (l10 : Option Value) (l11 : Option Value) (l12 : Option Value) (l13 : Option Value) (l14 : Option Value) (l15 : Option Value) (l16 : Option Value) , zG (fun k => k = 15 ∨ k = 16 ∨ k = 56 ∨ k = 57 ∨ k = 58) (fun q => q = 75 ∨ 83 ≤ q ∧ q ≤ 91 ∨ 97 ≤ q ∧ q ≤ 119) h h2 → (0 ≤ k.toInt ∧ k.toInt ≤ 288 ∧ (ez_I h2 71 15).toInt = (ez_I h 71 15).toInt ∧ (ez_I h2 71 16).toInt = (ez_I h 71 16).toInt) → aR (ez_I h2 97) k.toInt.toNat 0 0 → (1000 - k.toInt) < (N : Int) → pw E (d + 2) 44 3 [some (.ref 71), some (.int fr), some (.int to), some (.int pl), some (.int mn), some (.int la), some (.int k), l7, l8, l9, l10, l11, l12, l13, l14, l15, l16] [] h2 Q) := by
  intro N
  induction N with
  | zero => exact fun h2 k l7 l8 l9 l10 l11 l12 l13 l14 l15 l16  F hinv A_z97 hm => absurd hm (by have w_k := z_rng k; have gfr := z_rng fr; have gto := z_rng to; have gpl := z_rng pl; have gmn := z_rng mn; have gla := z_rng la; have MC1 := MC.1; have hps := pQ_rng hq (a := fr.toInt.toNat) (b := to.toInt.toNat) (by omega) (by omega); omega)
  | succ N ih =>
    refine fun h2 k l7 l8 l9 l10 l11 l12 l13 l14 l15 l16  F hinv A_z97 hm => ?_
    · skip
      have w_k := z_rng k
      have gfr := z_rng fr
      have gto := z_rng to
      have gpl := z_rng pl
      have gmn := z_rng mn
      have gla := z_rng la
      have MC1 := MC.1
      have hps := pQ_rng hq (a := fr.toInt.toNat) (b := to.toInt.toNat) (by omega) (by omega)
      have S2 := zG_sh F S
      apply ez_Wp_in
      show ez_gw _ _ _ _ _ _ (cz_44) _ _ _ _ _
      refine gw_skip _ ?_
      have r1 := z_rng (ez_I h2 71 15)
      have r2 := z_rng (ez_I h2 71 16)
      have r3 := z_rng (ez_I h2 71 56)
      have r4 := z_rng (ez_I h2 71 57)
      have r5 := z_rng (ez_I h2 71 58)
      refine gw_ld rfl rfl ?_
      refine z_C (m := 288) rfl rfl (fun x6 ex6 => ?_)
      refine z_b2 (fun c7 => ?_) (fun c7 => ?_)
      · have c7 : x6.toInt ≤ k.toInt := c7
        refine gw_skip _ ?_
        refine z_C (m := 0) rfl rfl (fun x8 ex8 => ?_)
        refine gw_st rfl rfl rfl ?_
        show ez_gw _ _ _ _ _ _ _ _ [some (.ref 71), some (.int fr), some (.int to), some (.int pl), some (.int mn), some (.int la), some (.int x8), l7, l8, l9, l10, l11, l12, l13, l14, l15, l16] _ _ _
        exact ez_Wp_at ((m_wblock_L1 (fr := fr) (to := to) (pl := pl) (mn := mn) (la := la) S M6 MC hq hr hp hmn hbk hb K (((1000 - x8.toInt)).toNat + 1)) h2 x8 (l7) (l8) (l9) (l10) (l11) (l12) (l13) (l14) (l15) (l16) F (by omega) (aR_le A_z97 (by omega)) ((by rw [show x8.toInt.toNat = 0 by omega]; exact aR_0 _ _ _)) (by omega)) rfl
      · have c7 : ¬ (x6.toInt ≤ k.toInt) := c7
        refine gw_ld rfl rfl ?_
        refine z_gR (q := 97) (zT S2 (by decide) rfl) (zRf S2 (by decide) (by decide) rfl) (by decide) ?_
        refine gw_ld rfl rfl ?_
        refine z_C (m := 0) rfl rfl (fun x9 ex9 => ?_)
        refine z_is (n := 288) (zT S2 (by decide) rfl) (zN S2 (by decide) rfl) (by omega) (fun h10 e11 => ?_)
        have S12 := zSh_set S2 e11
        have F13 := zG_setA F e11 (by decide) (by decide)
        have f14 : ez_I h10 71 15 = (ez_I h2 71 15) := (zI_ne e11 (by omega)).trans (rfl)
        have f15 : ez_I h10 71 16 = (ez_I h2 71 16) := (zI_ne e11 (by omega)).trans (rfl)
        have f16 : ez_I h10 71 56 = (ez_I h2 71 56) := (zI_ne e11 (by omega)).trans (rfl)
        have f17 : ez_I h10 71 57 = (ez_I h2 71 57) := (zI_ne e11 (by omega)).trans (rfl)
        have f18 : ez_I h10 71 58 = (ez_I h2 71 58) := (zI_ne e11 (by omega)).trans (rfl)
        have A19 : aR (ez_I h10 97) (k.toInt.toNat + 1) 0 0 := aR_ex A_z97 e11 (by omega) (by omega)
        refine z_inc rfl (by rw [show (1 : Int32).toInt = 1 from rfl]; omega) (fun x20 ex20 => ?_)
        rw [show (1 : Int32).toInt = 1 from rfl] at ex20
        show ez_gw _ _ _ _ _ _ _ _ [some (.ref 71), some (.int fr), some (.int to), some (.int pl), some (.int mn), some (.int la), some (.int x20), l7, l8, l9, l10, l11, l12, l13, l14, l15, l16] _ _ _
        refine z_go ?_
        have t21 := congrArg Int32.toInt (f14)
        have t22 := congrArg Int32.toInt (f15)
        have t23 := congrArg Int32.toInt (f16)
        have t24 := congrArg Int32.toInt (f17)
        have t25 := congrArg Int32.toInt (f18)
        exact ih h10 x20 (l7) (l8) (l9) (l10) (l11) (l12) (l13) (l14) (l15) (l16) F13 (by omega) (aR_le A19 (by omega)) (by omega)
set_option maxRecDepth 4000 in
set_option maxHeartbeats 20000000 in
theorem m_wblock {E : Nat → Nat × (Nat → Int32)} {d : Nat} {Q : ez_Q} {h : ez_H} {fr : Int32} {to : Int32} {pl : Int32} {mn : Int32} {la : Int32} (S : zSh h) {n : Nat} (M6 : 0 ≤ (ez_I h 71 6).toInt ∧ (ez_I h 71 6).toInt ≤ 6000) (MC : cC h) (hq : pQ (ez_I h 77) (ez_I h 78) (ez_I h 79) (ez_I h 72) n (ez_I h 71 6).toInt) (hr : 0 ≤ fr.toInt ∧ fr.toInt ≤ to.toInt ∧ to.toInt ≤ n ∧ n ≤ 6000 ∧ to.toInt - fr.toInt ≤ 600) (hp : pl.toInt = pS (ez_I h 77) fr.toInt.toNat) (hmn : mn.toInt = pS (ez_I h 77) to.toInt.toNat - pS (ez_I h 77) fr.toInt.toNat) (hbk : 0 ≤ (ez_I h 71 15).toInt ∧ (ez_I h 71 15).toInt < 12) (hb : 0 ≤ (ez_I h 71 16).toInt ∧ (ez_I h 71 16).toInt + 42 + 8 * mn.toInt ≤ 64000) (K : ∀ h2, zG (fun k => k = 15 ∨ k = 16 ∨ k = 56 ∨ k = 57 ∨ k = 58) (fun q => q = 75 ∨ 83 ≤ q ∧ q ≤ 91 ∨ 97 ≤ q ∧ q ≤ 119) h h2 → (0 ≤ (ez_I h2 71 16).toInt ∧ (ez_I h2 71 16).toInt ≤ (ez_I h 71 16).toInt + 42 + 8 * mn.toInt ∧ (ez_I h2 71 15).toInt = (ez_I h 71 15).toInt + 1) → Q (.inl none) h2) : pw E (d + 2) 44 0 [some (.ref 71), some (.int fr), some (.int to), some (.int pl), some (.int mn), some (.int la), none, none, none, none, none, none, none, none, none, none, none] [] h Q := by
  have gfr := z_rng fr
  have gto := z_rng to
  have gpl := z_rng pl
  have gmn := z_rng mn
  have gla := z_rng la
  have MC1 := MC.1
  have hps := pQ_rng hq (a := fr.toInt.toNat) (b := to.toInt.toNat) (by omega) (by omega)
  have F := zG_refl (fun k => k = 15 ∨ k = 16 ∨ k = 56 ∨ k = 57 ∨ k = 58) (fun q => q = 75 ∨ 83 ≤ q ∧ q ≤ 91 ∨ 97 ≤ q ∧ q ≤ 119) h
  apply ez_Wp_in
  show ez_gw _ _ _ _ _ _ (cz_44) _ _ _ _ _
  refine gw_skip _ ?_
  have r1 := z_rng (ez_I h 71 15)
  have r2 := z_rng (ez_I h 71 16)
  have r3 := z_rng (ez_I h 71 56)
  have r4 := z_rng (ez_I h 71 57)
  have r5 := z_rng (ez_I h 71 58)
  refine z_C (m := 0) rfl rfl (fun x6 ex6 => ?_)
  refine gw_st rfl rfl rfl ?_
  show ez_gw _ _ _ _ _ _ _ _ [some (.ref 71), some (.int fr), some (.int to), some (.int pl), some (.int mn), some (.int la), some (.int x6), none, none, none, none, none, none, none, none, none, none] _ _ _
  exact ez_Wp_at ((m_wblock_L0 (fr := fr) (to := to) (pl := pl) (mn := mn) (la := la) S M6 MC hq hr hp hmn hbk hb K (((1000 - x6.toInt)).toNat + 1)) h x6 (none) (none) (none) (none) (none) (none) (none) (none) (none) (none) F (by omega) ((by rw [show x6.toInt.toNat = 0 by omega]; exact aR_0 _ _ _)) (by omega)) rfl
