/-! the model's block, phase by phase -/
theorem wr_z (x y : Nat) : wr (x, y) 0 1 = (x, y + 1) := by
  unfold wr
  rw [Nat.zero_mul]
  rfl
theorem sw_c {f g : Nat → Int32} {L : Nat → Nat} {N : Nat} (A : wdI f (nL g) N N) (h : ∀ k, k < N → nL g k = L k) (hn : ∀ k, k < N → 1 ≤ L k → nL f k = cdN L 288 k) (hL : aR g N 0 15) (x : Nat) (hx : x < N) (h1 : 1 ≤ L x) : swP g f L (cdN L 288) x := by
  have a1 := h x hx
  have a2 := hL x hx
  have a3 := hn x hx h1
  have a4 := A x hx (by rw [a1]; exact h1)
  have a5 : nL g x = (g x).toInt.toNat := rfl
  have a6 : nL f x = (f x).toInt.toNat := rfl
  exact ⟨by omega, by omega, cdN_lt _ _ _, by omega⟩
def mbC (f72 f77 f78 f79 f80 f92 f93 f94 f95 f96 : Nat → Int32) (T : Nat → Int) (n c : Nat) : Prop := n ≤ 6000 ∧ c ≤ 6000 ∧ (∀ i, i < n → 0 ≤ T i ∧ T i ≤ 255) ∧ (∀ i, i < n → (f72 i).toInt % 256 = T i) ∧ pmI f77 f78 f79 f80 T n c ∧ ltP T n c ∧ ptP T n c = n ∧ ctI f92 LBf 29 ∧ ctI f93 LEf 29 ∧ ctI f94 DBf 30 ∧ ctI f95 DEf 30 ∧ ctI f96 ORf 19
def mbF (f100 f101 f102 f117 f118 : Nat → Int32) (T : Nat → Int) (n a j : Nat) : Prop := lbP f100 (bkL T n a j) (bkC T n a j) 286 15 ∧ lbP f101 (bkE T n a j) (bkD T n a j) 30 15 ∧ lbP f102 (bkA T n a j) (tC (rowF (bkL T n a j) (bkE T n a j)) (rowM (bkL T n a j) (bkE T n a j)) (bkR T n a j)) 19 7 ∧ teI f117 f118 (rowF (bkL T n a j) (bkE T n a j)) (rowM (bkL T n a j) (bkE T n a j)) (bkR T n a j) ∧ ltrP (rowF (bkL T n a j) (bkE T n a j)) (rowM (bkL T n a j) (bkE T n a j)) (bkR T n a j)
def mbX (f106 f108 : Nat → Int32) : Prop := cpN f106 fxL 288 ∧ cpN f108 fxD 30
def mbA (fr to pl my : Int32) (T : Nat → Int) (n c a j : Nat) : Prop := fr.toInt = (a : Nat) ∧ to.toInt = ((a + j : Nat) : Int) ∧ a + j ≤ c ∧ j ≤ 600 ∧ pl.toInt = (ptP T n a : Nat) ∧ my.toInt = (bkY T n a j : Nat) ∧ ptP T n a + bkY T n a j ≤ n
def mbT (x56 x57 x58 : Int32) (T : Nat → Int) (n a j : Nat) : Prop := x56.toInt = (bkR T n a j : Nat) ∧ x57.toInt = (tdM (bkL T n a j) 257 29 : Nat) ∧ x58.toInt = (tdM (bkE T n a j) 1 29 : Nat)
def mbk (f83 f84 f85 f86 f87 f88 f89 f90 f91 o83 o84 o85 o86 o87 o88 o89 o90 o91 : Nat → Int32) (T : Nat → Int) (n a j z bn : Nat) : Prop := onE f83 o83 bn ((bkW T n a j z : Nat) : Int) ∧ onE f84 o84 bn ((j : Nat) : Int) ∧ onE f85 o85 bn ((bkY T n a j : Nat) : Int) ∧ onE f86 o86 bn ((bkB T n a j z : Nat) : Int) ∧ onE f87 o87 bn ((bkFX T n a j : Nat) : Int) ∧ onE f88 o88 bn ((bkDY T n a j : Nat) : Int) ∧ kpN f89 o89 (bkL T n a j) (288 * bn) 288 286 288 ∧ kpN f90 o90 (bkE T n a j) (30 * bn) 30 30 30 ∧ kpN f91 o91 (bkA T n a j) (19 * bn) 19 19 19
section MB
variable {f72 f77 f78 f79 f80 f92 f93 f94 f95 f96 f100 f101 f102 f117 f118 f106 f108 : Nat → Int32} {T : Nat → Int} {n c a j : Nat}
theorem mbF_15 (H : mbF f100 f101 f102 f117 f118 T n a j) : (∀ q, q < 286 → bkL T n a j q ≤ 15) ∧ (∀ q, q < 30 → bkE T n a j q ≤ 15) ∧ (∀ q, q < 19 → bkA T n a j q ≤ 7) := by
  obtain ⟨h1, h2, h3, _⟩ := H
  refine ⟨fun q hq => ?_, fun q hq => ?_, fun q hq => ?_⟩
  · rw [← h1.1 q hq]; have := h1.2.1 q hq; show (f100 q).toInt.toNat ≤ 15; omega
  · rw [← h2.1 q hq]; have := h2.2.1 q hq; show (f101 q).toInt.toNat ≤ 15; omega
  · rw [← h3.1 q hq]; have := h3.2.1 q hq; show (f102 q).toInt.toNat ≤ 7; omega
theorem mbF_ok (H : mbF f100 f101 f102 f117 f118 T n a j) : ∀ i, i < bkR T n a j → tS (rowF (bkL T n a j) (bkE T n a j)) (rowM (bkL T n a j) (bkE T n a j)) i ≤ 18 ∧ tX (rowF (bkL T n a j) (bkE T n a j)) (rowM (bkL T n a j) (bkE T n a j)) i < 2 ^ rEf (tS (rowF (bkL T n a j) (bkE T n a j)) (rowM (bkL T n a j) (bkE T n a j)) i) := fun i hi =>
  tSX_ok H.2.2.2.2.1 (row15c (mbF_15 H).1 (mbF_15 H).2.1) hi
theorem mbF_le (H : mbF f100 f101 f102 f117 f118 T n a j) (hT : ∀ i, i < n → 0 ≤ T i ∧ T i ≤ 255) (h : ltP T n c) (hj : a + j ≤ c) (l : Nat) (s : Nat × Nat) : (bkS T n a j l s).2 ≤ s.2 + 42 + 8 * bkY T n a j := by
  have h1 := bkS_2 (l := l) (s := s) hT h hj (fun i hi => by have := (mbF_ok H i hi).1; omega)
  have h2 := bkB_le (T := T) (n := n) (a := a) (j := j) (z := s.2)
  omega
/-- the sums are small -/
theorem mbF_big (H : mbF f100 f101 f102 f117 f118 T n a j) (hT : ∀ i, i < n → 0 ≤ T i ∧ T i ≤ 255) (h : ltP T n c) (hj : a + j ≤ c) (h6 : j ≤ 600) : sN (fun i => bkC T n a j i * (bkL T n a j i + exL i)) 286 + sN (fun i => bkD T n a j i * (LNf (bkD T n a j) 30 15 i + DEf i)) 30 ≤ 8000000 ∧ sN (fun s => tC (rowF (bkL T n a j) (bkE T n a j)) (rowM (bkL T n a j) (bkE T n a j)) (bkR T n a j) s * (bkA T n a j s + rEf s)) 19 ≤ 90000 ∧ 4 ≤ bkO T n a j ∧ bkO T n a j ≤ 19 ∧ bkFX T n a j ≤ 8000000 ∧ bkDY T n a j ≤ 9000000 := by
  have hbc : ∀ z, bkC T n a j z ≤ 601 := fun z => by have h9 := cL_le (aM T n) (dI T n) a j z; have h8 : bkC T n a j z = cL (aM T n) (dI T n) a j z := rfl; omega
  have hbd : ∀ z, bkD T n a j z ≤ 601 := fun z => by have h9 := cD_le (dI T n) a j z; have h8 : bkD T n a j z = cD (dI T n) a j z := rfl; omega
  obtain ⟨b1, b2, b3⟩ := mbF_15 H
  have hq1 : sN (fun i => bkC T n a j i * (bkL T n a j i + exL i)) 286 ≤ 601 * 40 * 286 := wsm_le (fun k _ => hbc k) (fun k hk => by have a9 := b1 k hk; have a8 := exL_5 k; show bkL T n a j k + exL k ≤ 40; omega)
  have hq2 : sN (fun i => bkD T n a j i * (LNf (bkD T n a j) 30 15 i + DEf i)) 30 ≤ 601 * 40 * 30 := by
    rw [LD_sum2]
    exact wsm_le (c := bkD T n a j) (fun k _ => hbd k) (fun k hk => by have a9 : LDx (bkD T n a j) k ≤ 15 := b2 k hk; have a8 := DE_13 k; show LDx _ k + DEf k ≤ 40; omega)
  have hq3 : sN (fun s => tC (rowF (bkL T n a j) (bkE T n a j)) (rowM (bkL T n a j) (bkE T n a j)) (bkR T n a j) s * (bkA T n a j s + rEf s)) 19 ≤ 316 * 14 * 19 := wsm_le (fun k _ => Nat.le_trans (tC_le _ _ _ k) H.2.2.2.2.2) (fun k hk => by have a9 := b3 k hk; have a8 := rEf_7 k; show bkA T n a j k + rEf k ≤ 14; omega)
  have hq4 : sN (fun i => bkC T n a j i * (fxL i + exL i)) 286 ≤ 601 * 40 * 286 := wsm_le (fun k _ => hbc k) (fun k hk => by have a9 := (fxL_1 k).2; have a8 := exL_5 k; show fxL k + exL k ≤ 40; omega)
  have hq5 : sN (fun i => bkD T n a j i * (fxD i + DEf i)) 30 ≤ 601 * 40 * 30 := wsm_le (fun k _ => hbd k) (fun k hk => by have a9 := fxD_5 k; have a8 := DE_13 k; show fxD k + DEf k ≤ 40; omega)
  have hd := dy_is (a := a) (j := j) hT h hj
  have hf := fx_is (a := a) (j := j) hT h hj
  have ho := tdM_rng (fun q => bkA T n a j (ORf q)) 4 15
  have ho2 : bkO T n a j = tdM (fun q => bkA T n a j (ORf q)) 4 15 := rfl
  omega
end MB
theorem mbA_of {fr to pl my : Int32} {T : Nat → Int} {n c a j : Nat} (hT : ∀ i, i < n → 0 ≤ T i ∧ T i ≤ 255) (h : ltP T n c) (h1 : fr.toInt = (a : Nat)) (h2 : to.toInt = ((a + j : Nat) : Int)) (h3 : a + j ≤ c) (h4 : j ≤ 600) (h5 : pl.toInt = (ptP T n a : Nat)) (h6 : my.toInt = (bkY T n a j : Nat)) : mbA fr to pl my T n c a j := by
  have b1 := bY_pt (a := a) hT h j h3
  have b2 := ptP_k (T := T) (n := n) (a + j) (fun q hq => h q (by omega))
  have b3 : bkY T n a j = bY (aM T n) (dI T n) a j := rfl
  exact ⟨h1, h2, h3, h4, h5, h6, by omega⟩
theorem bkH_s2 (T : Nat → Int) (n a j : Nat) (s1 : Nat × Nat) : (bkH T n a j s1).2 = s1.2 + 14 + 3 * bkO T n a j + sN (fun q => bkA T n a j (tS (rowF (bkL T n a j) (bkE T n a j)) (rowM (bkL T n a j) (bkE T n a j)) q) + rEf (tS (rowF (bkL T n a j) (bkE T n a j)) (rowM (bkL T n a j) (bkE T n a j)) q)) (bkR T n a j) := by
  unfold bkH
  rw [sS_2, oS_2]
  show s1.2 + 5 + 5 + 4 + 3 * bkO T n a j + _ = _
  omega
theorem hd_bd {T : Nat → Int} {n a j : Nat} {s1 : Nat × Nat} (hr : (bkP T n a j (bkL T n a j) (bkE T n a j) (bkH T n a j s1)).2 ≤ 64000) : s1.2 + 14 + 3 * bkO T n a j + sN (fun q => bkA T n a j (tS (rowF (bkL T n a j) (bkE T n a j)) (rowM (bkL T n a j) (bkE T n a j)) q) + rEf (tS (rowF (bkL T n a j) (bkE T n a j)) (rowM (bkL T n a j) (bkE T n a j)) q)) (bkR T n a j) ≤ 64000 := by
  have h1 : (bkP T n a j (bkL T n a j) (bkE T n a j) (bkH T n a j s1)).2 = (wps (aM T n) (dI T n) (cdN (bkL T n a j) 288) (bkL T n a j) (cdN (bkE T n a j) 288) (bkE T n a j) (bkH T n a j s1) a j).2 + bkL T n a j 256 := rfl
  rw [wps_2] at h1
  have h2 := bkH_s2 T n a j s1
  omega
theorem lb_rd {f : Nat → Int32} {L C : Nat → Nat} {n : Nat} {m : Int} {k : Nat} {z : Int32} (H : lbP f L C n m) (hk : k < n) (e : f k = z) : z.toInt = (L k : Nat) ∧ 0 ≤ z.toInt ∧ z.toInt ≤ m := by
  have h1 := H.1 k hk
  have h2 := H.2.1 k hk
  have h3 : nL f k = (f k).toInt.toNat := rfl
  rw [e] at h2 h3
  omega
theorem dbP_z {f : Nat → Int32} {c : Nat → Nat} (H : dbP f c) (h : sN c 30 ≠ 0) : lbP f (LDx c) c 30 15 := by
  refine ⟨fun k hk => ?_, H.2.1, H.2.2.1⟩
  unfold LDx
  rw [if_neg h]
  exact H.1 k hk
/-! PRINTED by wip/pack: the model writes a block: stored -/
theorem x71_0 : ∀ k : Nat, ¬ (72 = 71 ∧ k = 16) := fun k c => by omega
theorem x71_1 : ∀ q k : Nat, (q = 71 ∧ k = 16) → (q = 71 ∧ k = 16) := fun q k hk => hk
theorem x71_2 : ∀ q : Nat, (q = 75) → (q = 75) := fun q hk => hk
theorem x71_3 : ∀ q : Nat, (False) → (False) := fun q hk => hk.elim
set_option maxRecDepth 4000 in
set_option maxHeartbeats 2000000 in
theorem w_s0_L1 {E : Nat → Nat × (Nat → Int32)} {d : Nat} {Q : ez_Q} {h : ez_H} {fr : Int32} {to : Int32} {pl : Int32} {my : Int32} {ls : Int32} {l6 : Option Value} {l7 : Option Value} {l8 : Option Value} {l9 : Option Value} {l10 : Option Value} {l11 : Option Value} {l12 : Option Value} {l13 : Option Value} {l14 : Option Value} {b15 : Int32} {l16 : Option Value} (S : zSh h) {T : Nat → Int} {n P Y : Nat} {s1 : Nat × Nat} (hn : n ≤ 6000) (hT0 : ∀ i, i < n → 0 ≤ T i ∧ T i ≤ 255) (hB : ∀ i, i < n → (ez_I h 72 i).toInt % 256 = T i) (hpl : pl.toInt = (P : Nat)) (hmy : my.toInt = (Y : Nat)) (hpn : P + Y ≤ n) (hs : mS (ez_I h 75) s1) (hb : (ez_I h 71 16).toInt = (s1.2 : Nat)) (hg : aR (ez_I h 75) 8000 (-128) 127) (hr : (s1.2 + 7) / 8 * 8 + 32 + 8 * Y ≤ 64000) (K : ∀ h2, zW (fun q k => q = 71 ∧ k = 16) (fun q => q = 75) (fun _ => False) h h2 → mst (ez_I h2 75) (ez_I h2 71 16).toInt (bS T P (wr (wr (s1.1, (s1.2 + 7) / 8 * 8) Y 16) (65535 - Y) 16) Y) → aR (ez_I h2 75) 8000 (-128) 127 → Q (.inl none) h2) : ∀ N : Nat, (∀ (h2 : ez_H) (k : Int32) , zW (fun q k => q = 71 ∧ k = 16) (fun q => q = 75) (fun _ => False) h h2 → (0 ≤ k.toInt ∧ k.toInt ≤ Y ∧ (ez_I h2 71 16).toInt = ((bS T P (wr (wr (s1.1, (s1.2 + 7) / 8 * 8) Y 16) (65535 - Y) 16) k.toInt.toNat).2 : Nat)) → (mS (ez_I h2 75) (bS T P (wr (wr (s1.1, (s1.2 + 7) / 8 * 8) Y 16) (65535 - Y) 16) k.toInt.toNat)) → (aR (ez_I h2 75) 8000 (-128) 127) → (10000 - k.toInt) < (N : Int) → pw E (d + 2) 44 823 [some (.ref 71), some (.int fr), some (.int to), some (.int pl), some (.int my), some (.int ls), l6, l7, l8, l9, l10, l11, l12, l13, l14, some (.int b15), some (.int k)] [] h2 Q) := by
  intro N
  induction N with
  | zero => exact fun h2 k  F hinv A_st A_hg hm => absurd hm (by have w_k := z_rng k; have gfr := z_rng fr; have gto := z_rng to; have gpl := z_rng pl; have gmy := z_rng my; have gls := z_rng ls; have gb15 := z_rng b15; omega)
  | succ N ih =>
    refine fun h2 k  F hinv A_st A_hg hm => ?_
    · skip
      have w_k := z_rng k
      have gfr := z_rng fr
      have gto := z_rng to
      have gpl := z_rng pl
      have gmy := z_rng my
      have gls := z_rng ls
      have gb15 := z_rng b15
      have S2 := zW_sh F S
      obtain ⟨hk0, hkY, hbb⟩ := hinv
      have hb9 : (bS T P (wr (wr (s1.1, (s1.2 + 7) / 8 * 8) Y 16) (65535 - Y) 16) k.toInt.toNat).2 = (s1.2 + 7) / 8 * 8 + 16 + 16 + 8 * k.toInt.toNat := bS_2 _ _ _ _
      apply ez_Wp_in
      show ez_gw _ _ _ _ _ _ (cz_44) _ _ _ _ _
      refine gw_skip _ ?_
      have r1 := z_rng (ez_I h2 71 16)
      refine gw_ld rfl rfl ?_
      refine gw_ld rfl rfl ?_
      refine z_b2 (fun c2 => ?_) (fun c2 => ?_)
      · have c2 : my.toInt ≤ k.toInt := c2
        refine gw_skip _ ?_
        refine z_go ?_
        refine gw_skip _ ?_
        refine z_rv ?_
        have b1 := A_st
        have b2 := hbb
        rw [show k.toInt.toNat = Y by omega] at b1 b2
        exact K _ F (mS_m b1 b2) A_hg
      · have c2 : ¬ (my.toInt ≤ k.toInt) := c2
        refine gw_ld rfl rfl ?_
        refine gw_ld rfl rfl ?_
        refine z_gR (q := 72) (zT S2 (by decide) rfl) (zRf S2 (by decide) (by decide) rfl) (by decide) ?_
        refine gw_ld rfl rfl ?_
        refine gw_ld rfl rfl ?_
        refine z_add (by omega) (fun x3 ex3 => ?_)
        refine z_baV (n := 6000) (zT S2 (by decide) rfl) (zN S2 (by decide) rfl) (by omega) (zW_f F (by decide) (x71_0 _)) ?_
        generalize ex4 : ez_I h 72 x3.toInt.toNat = x4
        have rx4 := z_rng x4
        have yx4 := hB (P + k.toInt.toNat) (by omega)
        rw [show P + k.toInt.toNat = x3.toInt.toNat by omega, ex4] at yx4
        rw [show x3.toInt.toNat = P + k.toInt.toNat by omega] at yx4
        have hTk := hT0 (P + k.toInt.toNat) (by omega)
        refine z_C (m := 255) rfl rfl (fun x5 ex5 => ?_)
        refine z_and (fun x6 ex6 ux6 wx6 => ?_)
        have rx6 := z_rng x6
        replace ux6 := ux6 (by omega)
        clear wx6
        have vx6 := n_mask (k := 8) (by decide) (by omega) ex6
        rw [show (2 : Int) ^ 8 = 256 from rfl] at vx6
        refine z_C (m := 8) rfl rfl (fun x7 ex7 => ?_)
        refine z_cl rfl rfl rfl rfl rfl rfl rfl rfl rfl rfl rfl (zT S2 (by decide) rfl) ?_
        refine d_wbV (s := (bS T P (wr (wr (s1.1, (s1.2 + 7) / 8 * 8) Y 16) (65535 - Y) 16) k.toInt.toNat)) (V := (T (P + k.toInt.toNat)).toNat) (N := 8) (v := x6) (n := x7) S2 A_st (hbb) A_hg (by omega) (by omega) (by show _ < 256; omega) (by decide) (by rw [hb9]; omega) (fun h8 F9 k10 k11 k12 => ?_)
        have S13 := zW_sh F9 S2
        have F14 := zW_tr F (zW_mono F9 (x71_1) (x71_2) (x71_3))
        have r15 := z_rng (ez_I h8 71 16)
        refine z_inc rfl (by rw [show (1 : Int32).toInt = 1 from rfl]; omega) (fun x16 ex16 => ?_)
        rw [show (1 : Int32).toInt = 1 from rfl] at ex16
        show ez_gw _ _ _ _ _ _ _ _ [some (.ref 71), some (.int fr), some (.int to), some (.int pl), some (.int my), some (.int ls), l6, l7, l8, l9, l10, l11, l12, l13, l14, some (.int b15), some (.int x16)] _ _ _
        refine z_go ?_
        exact ih h8 x16 F14 (⟨by omega, by omega, by rw [show x16.toInt.toNat = k.toInt.toNat + 1 by omega]; exact k11⟩) ((by rw [show x16.toInt.toNat = k.toInt.toNat + 1 by omega]; exact k10)) k12 (by omega)
set_option maxRecDepth 4000 in
set_option maxHeartbeats 2000000 in
theorem w_s0_L0 {E : Nat → Nat × (Nat → Int32)} {d : Nat} {Q : ez_Q} {h : ez_H} {fr : Int32} {to : Int32} {pl : Int32} {my : Int32} {ls : Int32} {l6 : Option Value} {l7 : Option Value} {l8 : Option Value} {l9 : Option Value} {l10 : Option Value} {l11 : Option Value} {l12 : Option Value} {l13 : Option Value} {l14 : Option Value} {b15 : Int32} {l16 : Option Value} (S : zSh h) {T : Nat → Int} {n P Y : Nat} {s1 : Nat × Nat} (hn : n ≤ 6000) (hT0 : ∀ i, i < n → 0 ≤ T i ∧ T i ≤ 255) (hB : ∀ i, i < n → (ez_I h 72 i).toInt % 256 = T i) (hpl : pl.toInt = (P : Nat)) (hmy : my.toInt = (Y : Nat)) (hpn : P + Y ≤ n) (hs : mS (ez_I h 75) s1) (hb : (ez_I h 71 16).toInt = (s1.2 : Nat)) (hg : aR (ez_I h 75) 8000 (-128) 127) (hr : (s1.2 + 7) / 8 * 8 + 32 + 8 * Y ≤ 64000) (K : ∀ h2, zW (fun q k => q = 71 ∧ k = 16) (fun q => q = 75) (fun _ => False) h h2 → mst (ez_I h2 75) (ez_I h2 71 16).toInt (bS T P (wr (wr (s1.1, (s1.2 + 7) / 8 * 8) Y 16) (65535 - Y) 16) Y) → aR (ez_I h2 75) 8000 (-128) 127 → Q (.inl none) h2) : ∀ N : Nat, (∀ (h2 : ez_H)  (i : Nat), zW (fun q k => q = 71 ∧ k = 16) (fun q => q = 75) (fun _ => False) h h2 → ((ez_I h2 71 16).toInt = ((s1.2 + i : Nat) : Int) ∧ i ≤ 7 ∧ s1.2 + i ≤ (s1.2 + 7) / 8 * 8) → (mS (ez_I h2 75) (s1.1, s1.2 + i)) → (aR (ez_I h2 75) 8000 (-128) 127) → (100 - (i : Int)) < (N : Int) → pw E (d + 2) 44 783 [some (.ref 71), some (.int fr), some (.int to), some (.int pl), some (.int my), some (.int ls), l6, l7, l8, l9, l10, l11, l12, l13, l14, some (.int b15), l16] [] h2 Q) := by
  intro N
  induction N with
  | zero => exact fun h2  i F hinv A_st A_hg hm => absurd hm (by have gfr := z_rng fr; have gto := z_rng to; have gpl := z_rng pl; have gmy := z_rng my; have gls := z_rng ls; have gb15 := z_rng b15; omega)
  | succ N ih =>
    refine fun h2  i F hinv A_st A_hg hm => ?_
    · skip
      have gfr := z_rng fr
      have gto := z_rng to
      have gpl := z_rng pl
      have gmy := z_rng my
      have gls := z_rng ls
      have gb15 := z_rng b15
      have S2 := zW_sh F S
      apply ez_Wp_in
      show ez_gw _ _ _ _ _ _ (cz_44) _ _ _ _ _
      refine gw_skip _ ?_
      have r1 := z_rng (ez_I h2 71 16)
      refine gw_ld rfl rfl ?_
      refine z_gI2 (by decide) (zT S2 (by decide) rfl) (rfl) ?_
      refine z_C (m := 8) rfl rfl (fun x2 ex2 => ?_)
      refine z_rmP (c := 8) ex2 (by decide) (by omega) (fun x3 ex3 => ?_)
      refine z_b1 (fun c4 => ?_) (fun c4 => ?_)
      · have c4 : x3.toInt = 0 := c4
        refine gw_skip _ ?_
        have hal : (s1.2 + 7) / 8 * 8 = s1.2 + i := by omega
        have A5 : mS (ez_I h2 75) (s1.1, (s1.2 + 7) / 8 * 8) := by rw [hal]; exact A_st
        refine gw_ld rfl rfl ?_
        refine gw_ld rfl rfl ?_
        refine z_C (m := 16) rfl rfl (fun x6 ex6 => ?_)
        refine z_cl rfl rfl rfl rfl rfl rfl rfl rfl rfl rfl rfl (zT S2 (by decide) rfl) ?_
        refine d_wbV (s := (s1.1, (s1.2 + 7) / 8 * 8)) (V := Y) (N := 16) (v := my) (n := x6) S2 A5 (by show _ = (((s1.2 + 7) / 8 * 8 : Nat) : Int); omega) A_hg (by omega) (by omega) (by show Y < 65536; omega) (by decide) (by show (s1.2 + 7) / 8 * 8 + 16 ≤ 64000; omega) (fun h7 F8 k9 k10 k11 => ?_)
        have S12 := zW_sh F8 S2
        have F13 := zW_tr F (zW_mono F8 (x71_1) (x71_2) (x71_3))
        have r14 := z_rng (ez_I h7 71 16)
        refine gw_ld rfl rfl ?_
        refine gw_ld rfl rfl ?_
        refine z_C (m := -1) rfl rfl (fun x15 ex15 => ?_)
        refine z_2 rfl (fun x16 ex16 => ?_)
        have rx16 := z_rng x16
        refine z_C (m := 16) rfl rfl (fun x17 ex17 => ?_)
        refine z_cl rfl rfl rfl rfl rfl rfl rfl rfl rfl rfl rfl (zT S12 (by decide) rfl) ?_
        have vn := n_notm (by omega) ex16
        refine d_wb (s := (wr (s1.1, (s1.2 + 7) / 8 * 8) Y 16)) (v := x16) (n := x17) S12 (mS_m k9 k10) k11 (by omega) (by show (s1.2 + 7) / 8 * 8 + 16 + x17.toInt.toNat ≤ 64000; omega) (fun h18 F19 k20 k21 => ?_)
        rw [show x17.toInt.toNat = 16 by omega, wv_neg (v := x16.toInt) (Y := Y) (by omega) (by omega)] at k20
        have A22 : mS (ez_I h18 75) (wr (wr (s1.1, (s1.2 + 7) / 8 * 8) Y 16) (65535 - Y) 16) := m_mS k20
        have hb8 : (ez_I h18 71 16).toInt = (((wr (wr (s1.1, (s1.2 + 7) / 8 * 8) Y 16) (65535 - Y) 16)).2 : Nat) := k20.1
        have S23 := zW_sh F19 S12
        have F24 := zW_tr F13 (zW_mono F19 (x71_1) (x71_2) (x71_3))
        have r25 := z_rng (ez_I h18 71 16)
        refine z_C (m := 0) rfl rfl (fun x26 ex26 => ?_)
        refine gw_st rfl rfl rfl ?_
        show ez_gw _ _ _ _ _ _ _ _ [some (.ref 71), some (.int fr), some (.int to), some (.int pl), some (.int my), some (.int ls), l6, l7, l8, l9, l10, l11, l12, l13, l14, some (.int b15), some (.int x26)] _ _ _
        exact ez_Wp_at ((w_s0_L1 (fr := fr) (to := to) (pl := pl) (my := my) (ls := ls) (l6 := l6) (l7 := l7) (l8 := l8) (l9 := l9) (l10 := l10) (l11 := l11) (l12 := l12) (l13 := l13) (l14 := l14) (b15 := b15) (l16 := l16) S hn hT0 hB hpl hmy hpn hs hb hg hr K (((10000 - x26.toInt)).toNat + 1)) h18 x26 F24 (⟨by omega, by omega, by rw [show x26.toInt.toNat = 0 by omega]; exact hb8⟩) ((by rw [show x26.toInt.toNat = 0 by omega]; exact A22)) k21 (by omega)) rfl
      · have c4 : ¬ (x3.toInt = 0) := c4
        refine gw_ld rfl rfl ?_
        refine z_C (m := 0) rfl rfl (fun x27 ex27 => ?_)
        refine z_C (m := 1) rfl rfl (fun x28 ex28 => ?_)
        refine z_cl rfl rfl rfl rfl rfl rfl rfl rfl rfl rfl rfl (zT S2 (by decide) rfl) ?_
        refine d_wbV (s := (s1.1, s1.2 + i)) (V := 0) (N := 1) (v := x27) (n := x28) S2 A_st (by show _ = ((s1.2 + i : Nat) : Int); omega) A_hg (by omega) (by omega) (by decide) (by decide) (by show s1.2 + i + 1 ≤ 64000; omega) (fun h29 F30 k31 k32 k33 => ?_)
        have S34 := zW_sh F30 S2
        have F35 := zW_tr F (zW_mono F30 (x71_1) (x71_2) (x71_3))
        have r36 := z_rng (ez_I h29 71 16)
        have A37 : mS (ez_I h29 75) (s1.1, s1.2 + (i + 1)) := by have b1 := k31; rw [wr_z] at b1; exact b1
        have hb9 : (ez_I h29 71 16).toInt = ((s1.2 + i + 1 : Nat) : Int) := k32
        refine z_go ?_
        exact ih h29 (i + 1) F35 (by omega) (A37) (k33) (by omega)
set_option maxRecDepth 4000 in
set_option maxHeartbeats 2000000 in
theorem w_s0 {E : Nat → Nat × (Nat → Int32)} {d : Nat} {Q : ez_Q} {h : ez_H} {fr : Int32} {to : Int32} {pl : Int32} {my : Int32} {ls : Int32} {l6 : Option Value} {l7 : Option Value} {l8 : Option Value} {l9 : Option Value} {l10 : Option Value} {l11 : Option Value} {l12 : Option Value} {l13 : Option Value} {l14 : Option Value} {b15 : Int32} {l16 : Option Value} (S : zSh h) {T : Nat → Int} {n P Y : Nat} {s1 : Nat × Nat} (hn : n ≤ 6000) (hT0 : ∀ i, i < n → 0 ≤ T i ∧ T i ≤ 255) (hB : ∀ i, i < n → (ez_I h 72 i).toInt % 256 = T i) (hpl : pl.toInt = (P : Nat)) (hmy : my.toInt = (Y : Nat)) (hpn : P + Y ≤ n) (hs : mS (ez_I h 75) s1) (hb : (ez_I h 71 16).toInt = (s1.2 : Nat)) (hg : aR (ez_I h 75) 8000 (-128) 127) (hr : (s1.2 + 7) / 8 * 8 + 32 + 8 * Y ≤ 64000) (K : ∀ h2, zW (fun q k => q = 71 ∧ k = 16) (fun q => q = 75) (fun _ => False) h h2 → mst (ez_I h2 75) (ez_I h2 71 16).toInt (bS T P (wr (wr (s1.1, (s1.2 + 7) / 8 * 8) Y 16) (65535 - Y) 16) Y) → aR (ez_I h2 75) 8000 (-128) 127 → Q (.inl none) h2) : pw E (d + 2) 44 783 [some (.ref 71), some (.int fr), some (.int to), some (.int pl), some (.int my), some (.int ls), l6, l7, l8, l9, l10, l11, l12, l13, l14, some (.int b15), l16] [] h Q := by
  have gfr := z_rng fr
  have gto := z_rng to
  have gpl := z_rng pl
  have gmy := z_rng my
  have gls := z_rng ls
  have gb15 := z_rng b15
  have F := zW_refl (fun q k => q = 71 ∧ k = 16) (fun q => q = 75) (fun _ => False) h
  apply ez_Wp_in
  show ez_gw _ _ _ _ _ _ (cz_44) _ _ _ _ _
  refine gw_skip _ ?_
  have r1 := z_rng (ez_I h 71 16)
  exact ez_Wp_at ((w_s0_L0 (fr := fr) (to := to) (pl := pl) (my := my) (ls := ls) (l6 := l6) (l7 := l7) (l8 := l8) (l9 := l9) (l10 := l10) (l11 := l11) (l12 := l12) (l13 := l13) (l14 := l14) (b15 := b15) (l16 := l16) S hn hT0 hB hpl hmy hpn hs hb hg hr K (((100 - (0 : Int))).toNat + 1)) h 0 F (⟨hb, by omega, by omega⟩) (hs) (hg) (by omega)) rfl
