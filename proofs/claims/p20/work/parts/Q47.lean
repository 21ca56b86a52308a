section
/-! the model writes parts: one value written, the facts of a symbol -/
def swP (fU fV : Nat → Int32) (nU nV : Nat → Nat) (x : Nat) : Prop := (fU x).toInt = (nU x : Nat) ∧ (fV x).toInt = (nV x : Nat) ∧ nV x < 2 ^ nU x ∧ nU x ≤ 15
theorem d_wbV {E : Nat → Nat × (Nat → Int32)} {d : Nat} {Q : ez_Q} {h : ez_H} {v n : Int32} (S : zSh h) {s : Nat × Nat} {V N : Nat} (hs : mS (ez_I h 75) s) (hb : (ez_I h 71 16).toInt = (s.2 : Nat)) (hg : aR (ez_I h 75) 8000 (-128) 127) (hv : v.toInt = (V : Nat)) (hn : n.toInt = (N : Nat)) (hV : V < 2 ^ N) (hN : N ≤ 16) (hr : s.2 + N ≤ 64000) (K : ∀ h2, zW (fun q k => q = 71 ∧ k = 16) (fun q => q = 75) (fun _ => False) h h2 → mS (ez_I h2 75) (wr s V N) → (ez_I h2 71 16).toInt = ((wr s V N).2 : Nat) → aR (ez_I h2 75) 8000 (-128) 127 → Q (.inl none) h2) : pw E d 38 0 [some (.ref 71), some (.int v), some (.int n), none] [] h Q := by
  have hn2 : n.toInt.toNat = N := by omega
  have hv2 : (v.toInt % 65536).toNat % 2 ^ n.toInt.toNat = V := by rw [hn2]; exact wv hv hV hN
  refine d_wb (s := s) (v := v) (n := n) S (mS_m hs hb) hg (by omega) (by omega) (fun h2 F k1 k2 => ?_)
  rw [hv2, hn2] at k1
  exact K h2 F (m_mS k1) k1.1 k2
theorem wb4 {s : Nat × Nat} {a b c d e f g i M : Nat} (h : (wr (wr (wr (wr s a b) c d) e f) g i).2 ≤ M) : s.2 + b ≤ M ∧ (wr s a b).2 + d ≤ M ∧ (wr (wr s a b) c d).2 + f ≤ M ∧ (wr (wr (wr s a b) c d) e f).2 + i ≤ M := by
  have h1 : s.2 + b + d + f + i ≤ M := h
  refine ⟨by omega, ?_, ?_, ?_⟩
  · show s.2 + b + d ≤ M; omega
  · show s.2 + b + d + f ≤ M; omega
  · show s.2 + b + d + f + i ≤ M; omega
theorem wp_bd {am di wl ll wd ld : Nat → Nat} {s : Nat × Nat} {a J j z M : Nat} (hr : (wps am di wl ll wd ld s a J).2 + z ≤ M) (hj : j < J) : (wpt am di wl ll wd ld (wps am di wl ll wd ld s a j) (a + j)).2 ≤ M := by
  have h1 := wps_2 am di wl ll wd ld s a (j + 1)
  have h2 := wps_2 am di wl ll wd ld s a J
  have h3 := sN_mono (f := fun i => ibN am di ll ld (a + i)) (n := j + 1) J (by omega)
  have h4 : (wps am di wl ll wd ld s a (j + 1)).2 = (wpt am di wl ll wd ld (wps am di wl ll wd ld s a j) (a + j)).2 := rfl
  omega
theorem wpt_0 {am di wl ll wd ld : Nat → Nat} {s : Nat × Nat} {k : Nat} (h : di k = 0) : wpt am di wl ll wd ld s k = wr s (wl (am k)) (ll (am k)) := by unfold wpt; rw [if_pos h]
theorem wpt_1 {am di wl ll wd ld : Nat → Nat} {s : Nat × Nat} {k : Nat} (h : 1 ≤ di k) : wpt am di wl ll wd ld s k = wr (wr (wr (wr s (wl (257 + kL (am k))) (ll (257 + kL (am k)))) (am k - LBf (kL (am k))) (LEf (kL (am k)))) (wd (kD (di k))) (ld (kD (di k)))) (di k - DBf (kD (di k))) (DEf (kD (di k))) := by unfold wpt; rw [if_neg (by omega)]
theorem lSy_0 {am di : Nat → Nat} {k : Nat} (h : di k = 0) : lSy am di k = am k := if_pos h
theorem lSy_1 {am di : Nat → Nat} {k : Nat} (h : 1 ≤ di k) : lSy am di k = 257 + kL (am k) := if_neg (by omega)
/-- a part that is a byte -/
theorem wp_0 {T : Nat → Int} {n c k : Nat} (hT : ∀ i, i < n → 0 ≤ T i ∧ T i ≤ 255) (h : ltP T n c) (hk : k < c) (hd : dI T n k = 0) : aM T n k ≤ 255 ∧ ptS T n (ptP T n k) = 1 ∧ ((aM T n k : Nat) : Int) = T (ptP T n k) ∧ ptP T n k < n := by
  have q := (pk_rng hT h hk).resolve_right (fun q => by omega)
  exact ⟨q.2.1, q.2.2.1, q.2.2.2, h k hk⟩
theorem wp_1 {T : Nat → Int} {n c k : Nat} (hT : ∀ i, i < n → 0 ≤ T i ∧ T i ≤ 255) (h : ltP T n c) (hk : k < c) (hd : 1 ≤ dI T n k) : dI T n k ≤ 4096 ∧ 3 ≤ aM T n k ∧ aM T n k ≤ 258 ∧ aM T n k = ptS T n (ptP T n k) := by
  have q := (pk_rng hT h hk).resolve_left (fun q => by omega)
  exact ⟨q.2.1, q.2.2.1, q.2.2.2.1, q.2.2.2.2⟩
/-! PRINTED by wip/pack: the model writes parts, by its settled codes -/
theorem x70_0 : ∀ k : Nat, ¬ (78 = 71 ∧ k = 16) := fun k c => by omega
theorem x70_1 : ∀ k : Nat, ¬ (72 = 71 ∧ k = 16) := fun k c => by omega
theorem x70_2 : ∀ k : Nat, ¬ (107 = 71 ∧ k = 16) := fun k c => by omega
theorem x70_3 : ∀ k : Nat, ¬ (106 = 71 ∧ k = 16) := fun k c => by omega
theorem x70_4 : ∀ q k : Nat, (q = 71 ∧ k = 16) → (q = 71 ∧ k = 16) := fun q k hk => hk
theorem x70_5 : ∀ q : Nat, (q = 75) → (q = 75) := fun q hk => hk
theorem x70_6 : ∀ q : Nat, (False) → (False) := fun q hk => hk.elim
theorem x70_7 : ∀ k : Nat, ¬ (77 = 71 ∧ k = 16) := fun k c => by omega
theorem x70_8 : ¬ (92 = 75) := by omega
theorem x70_9 : ∀ k : Nat, ¬ (92 = 71 ∧ k = 16) := fun k c => by omega
theorem x70_10 : ∀ k : Nat, ¬ (93 = 71 ∧ k = 16) := fun k c => by omega
theorem x70_11 : ¬ (94 = 75) := by omega
theorem x70_12 : ∀ k : Nat, ¬ (94 = 71 ∧ k = 16) := fun k c => by omega
theorem x70_13 : ∀ k : Nat, ¬ (109 = 71 ∧ k = 16) := fun k c => by omega
theorem x70_14 : ∀ k : Nat, ¬ (108 = 71 ∧ k = 16) := fun k c => by omega
theorem x70_15 : ∀ k : Nat, ¬ (95 = 71 ∧ k = 16) := fun k c => by omega
set_option maxRecDepth 4000 in
set_option maxHeartbeats 2000000 in
theorem d_wPartsA_L0 {E : Nat → Nat × (Nat → Int32)} {d : Nat} {Q : ez_Q} {h : ez_H} {fr : Int32} {to : Int32} {pl : Int32} (S : zSh h) {T : Nat → Int} {n : Nat} {nU nV nW nY : Nat → Nat} {s : Nat × Nat} {c a J : Nat} (hn : n ≤ 6000) (hT : ∀ i, i < n → 0 ≤ T i ∧ T i ≤ 255) (hB : ∀ i, i < n → (ez_I h 72 i).toInt % 256 = T i) (hs : mst (ez_I h 75) (ez_I h 71 16).toInt s) (hg : aR (ez_I h 75) 8000 (-128) 127) (hpm : pmI (ez_I h 77) (ez_I h 78) (ez_I h 79) (ez_I h 80) T n c) (hlt : ltP T n c) (hc : c ≤ 6000) (hf : fr.toInt = ((a : Nat) : Int) ∧ to.toInt = ((a + J : Nat) : Int) ∧ a + J ≤ c) (hpl : pl.toInt = (ptP T n a : Nat)) (hU : ∀ x, x < 286 → 1 ≤ nU x → swP (ez_I h 106) (ez_I h 107) nU nV x) (hW : ∀ x, x < 30 → 1 ≤ nW x → swP (ez_I h 108) (ez_I h 109) nW nY x) (hu_ : ∀ k, (a ≤ k ∧ k < a + J) → 1 ≤ nU (lSy (aM T n) (dI T n) k) ∧ (dI T n k ≠ 0 → 1 ≤ nW (kD (dI T n k)))) (hu6 : 1 ≤ nU 256) (hr : (wps (aM T n) (dI T n) nV nU nY nW s a J).2 + nU 256 ≤ 64000) (t92 : ctI (ez_I h 92) LBf 29) (t93 : ctI (ez_I h 93) LEf 29) (t94 : ctI (ez_I h 94) DBf 30) (t95 : ctI (ez_I h 95) DEf 30) (K : ∀ h2, zW (fun q k => q = 71 ∧ k = 16) (fun q => q = 75) (fun _ => False) h h2 → mst (ez_I h2 75) (ez_I h2 71 16).toInt (wr (wps (aM T n) (dI T n) nV nU nY nW s a J) (nV 256) (nU 256)) → aR (ez_I h2 75) 8000 (-128) 127 → Q (.inl none) h2) : ∀ N : Nat, (∀ (h2 : ez_H) (p : Int32) (k : Int32) (l10 : Option Value) (l11 : Option Value) (j : Nat), zW (fun q k => q = 71 ∧ k = 16) (fun q => q = 75) (fun _ => False) h h2 → (k.toInt = ((a + j : Nat) : Int) ∧ j ≤ J ∧ p.toInt = (ptP T n (a + j) : Nat) ∧ (ez_I h2 71 16).toInt = ((wps (aM T n) (dI T n) nV nU nY nW s a j).2 : Nat)) → (mS (ez_I h2 75) (wps (aM T n) (dI T n) nV nU nY nW s a j)) → (aR (ez_I h2 75) 8000 (-128) 127) → (10 * (100000 - k.toInt)) < (N : Int) → pw E (d + 1) 40 6 [some (.ref 71), some (.int fr), some (.int to), some (.int pl), some (.ref 106), some (.ref 107), some (.ref 108), some (.ref 109), some (.int p), some (.int k), l10, l11] [] h2 Q) ∧ (∀ (h2 : ez_H) (p : Int32) (k : Int32) (l10 : Option Value) (l11 : Option Value) (j : Nat), zW (fun q k => q = 71 ∧ k = 16) (fun q => q = 75) (fun _ => False) h h2 → (k.toInt = ((a + j : Nat) : Int) ∧ j < J ∧ p.toInt = (ptP T n (a + j) : Nat) ∧ 1 ≤ dI T n (a + j) ∧ (ez_I h2 71 16).toInt = ((wps (aM T n) (dI T n) nV nU nY nW s a j).2 : Nat)) → (mS (ez_I h2 75) (wps (aM T n) (dI T n) nV nU nY nW s a j)) → (aR (ez_I h2 75) 8000 (-128) 127) → (10 * (100000 - k.toInt) - 1) < (N : Int) → pw E (d + 1) 40 52 [some (.ref 71), some (.int fr), some (.int to), some (.int pl), some (.ref 106), some (.ref 107), some (.ref 108), some (.ref 109), some (.int p), some (.int k), l10, l11] [] h2 Q) ∧ (∀ (h2 : ez_H) (p : Int32) (k : Int32) (l : Int32) (l11 : Option Value) (j : Nat), zW (fun q k => q = 71 ∧ k = 16) (fun q => q = 75) (fun _ => False) h h2 → (k.toInt = ((a + j : Nat) : Int) ∧ j < J ∧ p.toInt = (ptP T n (a + j) : Nat) ∧ 1 ≤ dI T n (a + j) ∧ l.toInt = (kL (aM T n (a + j)) : Nat) ∧ (ez_I h2 71 16).toInt = ((wr (wps (aM T n) (dI T n) nV nU nY nW s a j) (nV (257 + kL (aM T n (a + j)))) (nU (257 + kL (aM T n (a + j))))).2 : Nat)) → (mS (ez_I h2 75) (wr (wps (aM T n) (dI T n) nV nU nY nW s a j) (nV (257 + kL (aM T n (a + j)))) (nU (257 + kL (aM T n (a + j)))))) → (aR (ez_I h2 75) 8000 (-128) 127) → (10 * (100000 - k.toInt) - 2) < (N : Int) → pw E (d + 1) 40 87 [some (.ref 71), some (.int fr), some (.int to), some (.int pl), some (.ref 106), some (.ref 107), some (.ref 108), some (.ref 109), some (.int p), some (.int k), some (.int l), l11] [] h2 Q) ∧ (∀ (h2 : ez_H) (p : Int32) (k : Int32) (l : Int32) (l11 : Option Value) (j : Nat), zW (fun q k => q = 71 ∧ k = 16) (fun q => q = 75) (fun _ => False) h h2 → (k.toInt = ((a + j : Nat) : Int) ∧ j < J ∧ p.toInt = (ptP T n (a + j) : Nat) ∧ 1 ≤ dI T n (a + j) ∧ (ez_I h2 71 16).toInt = ((wr (wr (wps (aM T n) (dI T n) nV nU nY nW s a j) (nV (257 + kL (aM T n (a + j)))) (nU (257 + kL (aM T n (a + j))))) ((aM T n (a + j)) - LBf (kL (aM T n (a + j)))) (LEf (kL (aM T n (a + j))))).2 : Nat)) → (mS (ez_I h2 75) (wr (wr (wps (aM T n) (dI T n) nV nU nY nW s a j) (nV (257 + kL (aM T n (a + j)))) (nU (257 + kL (aM T n (a + j))))) ((aM T n (a + j)) - LBf (kL (aM T n (a + j)))) (LEf (kL (aM T n (a + j)))))) → (aR (ez_I h2 75) 8000 (-128) 127) → (10 * (100000 - k.toInt) - 3) < (N : Int) → pw E (d + 1) 40 113 [some (.ref 71), some (.int fr), some (.int to), some (.int pl), some (.ref 106), some (.ref 107), some (.ref 108), some (.ref 109), some (.int p), some (.int k), some (.int l), l11] [] h2 Q) ∧ (∀ (h2 : ez_H) (p : Int32) (k : Int32) (l10 : Option Value) (q : Int32) (j : Nat), zW (fun q k => q = 71 ∧ k = 16) (fun q => q = 75) (fun _ => False) h h2 → (k.toInt = ((a + j : Nat) : Int) ∧ j < J ∧ p.toInt = (ptP T n (a + j) : Nat) ∧ 1 ≤ dI T n (a + j) ∧ q.toInt = (kD (dI T n (a + j)) : Nat) ∧ (ez_I h2 71 16).toInt = ((wr (wr (wr (wps (aM T n) (dI T n) nV nU nY nW s a j) (nV (257 + kL (aM T n (a + j)))) (nU (257 + kL (aM T n (a + j))))) ((aM T n (a + j)) - LBf (kL (aM T n (a + j)))) (LEf (kL (aM T n (a + j))))) (nY (kD (dI T n (a + j)))) (nW (kD (dI T n (a + j))))).2 : Nat)) → (mS (ez_I h2 75) (wr (wr (wr (wps (aM T n) (dI T n) nV nU nY nW s a j) (nV (257 + kL (aM T n (a + j)))) (nU (257 + kL (aM T n (a + j))))) ((aM T n (a + j)) - LBf (kL (aM T n (a + j)))) (LEf (kL (aM T n (a + j))))) (nY (kD (dI T n (a + j)))) (nW (kD (dI T n (a + j)))))) → (aR (ez_I h2 75) 8000 (-128) 127) → (10 * (100000 - k.toInt) - 4) < (N : Int) → pw E (d + 1) 40 140 [some (.ref 71), some (.int fr), some (.int to), some (.int pl), some (.ref 106), some (.ref 107), some (.ref 108), some (.ref 109), some (.int p), some (.int k), l10, some (.int q)] [] h2 Q) ∧ (∀ (h2 : ez_H) (p : Int32) (k : Int32) (l10 : Option Value) (l11 : Option Value) (j : Nat), zW (fun q k => q = 71 ∧ k = 16) (fun q => q = 75) (fun _ => False) h h2 → (k.toInt = ((a + j : Nat) : Int) ∧ j < J ∧ p.toInt = (ptP T n (a + j) : Nat) ∧ (ez_I h2 71 16).toInt = ((wps (aM T n) (dI T n) nV nU nY nW s a (j + 1)).2 : Nat)) → (mS (ez_I h2 75) (wps (aM T n) (dI T n) nV nU nY nW s a (j + 1))) → (aR (ez_I h2 75) 8000 (-128) 127) → (10 * (100000 - k.toInt) - 5) < (N : Int) → pw E (d + 1) 40 166 [some (.ref 71), some (.int fr), some (.int to), some (.int pl), some (.ref 106), some (.ref 107), some (.ref 108), some (.ref 109), some (.int p), some (.int k), l10, l11] [] h2 Q) ∧ (∀ (h2 : ez_H) (l8 : Option Value) (l9 : Option Value) (l10 : Option Value) (l11 : Option Value) , zW (fun q k => q = 71 ∧ k = 16) (fun q => q = 75) (fun _ => False) h h2 → ((ez_I h2 71 16).toInt = ((wps (aM T n) (dI T n) nV nU nY nW s a J).2 : Nat)) → (mS (ez_I h2 75) (wps (aM T n) (dI T n) nV nU nY nW s a J)) → (aR (ez_I h2 75) 8000 (-128) 127) → 5 < (N : Int) → pw E (d + 1) 40 184 [some (.ref 71), some (.int fr), some (.int to), some (.int pl), some (.ref 106), some (.ref 107), some (.ref 108), some (.ref 109), l8, l9, l10, l11] [] h2 Q) := by
  intro N
  induction N with
  | zero => exact ⟨fun h2 p k l10 l11 j F hinv A_st A_hg hm => absurd hm (by have w_p := z_rng p; have w_k := z_rng k; have gfr := z_rng fr; have gto := z_rng to; have gpl := z_rng pl; omega), fun h2 p k l10 l11 j F hinv A_st A_hg hm => absurd hm (by have w_p := z_rng p; have w_k := z_rng k; have gfr := z_rng fr; have gto := z_rng to; have gpl := z_rng pl; omega), fun h2 p k l l11 j F hinv A_st A_hg hm => absurd hm (by have w_p := z_rng p; have w_k := z_rng k; have w_l := z_rng l; have gfr := z_rng fr; have gto := z_rng to; have gpl := z_rng pl; omega), fun h2 p k l l11 j F hinv A_st A_hg hm => absurd hm (by have w_p := z_rng p; have w_k := z_rng k; have w_l := z_rng l; have gfr := z_rng fr; have gto := z_rng to; have gpl := z_rng pl; omega), fun h2 p k l10 q j F hinv A_st A_hg hm => absurd hm (by have w_p := z_rng p; have w_k := z_rng k; have w_q := z_rng q; have gfr := z_rng fr; have gto := z_rng to; have gpl := z_rng pl; omega), fun h2 p k l10 l11 j F hinv A_st A_hg hm => absurd hm (by have w_p := z_rng p; have w_k := z_rng k; have gfr := z_rng fr; have gto := z_rng to; have gpl := z_rng pl; omega), fun h2 l8 l9 l10 l11  F hinv A_st A_hg hm => absurd hm (by have gfr := z_rng fr; have gto := z_rng to; have gpl := z_rng pl; omega)⟩
  | succ N ih =>
    refine ⟨fun h2 p k l10 l11 j F hinv A_st A_hg hm => ?_, fun h2 p k l10 l11 j F hinv A_st A_hg hm => ?_, fun h2 p k l l11 j F hinv A_st A_hg hm => ?_, fun h2 p k l l11 j F hinv A_st A_hg hm => ?_, fun h2 p k l10 q j F hinv A_st A_hg hm => ?_, fun h2 p k l10 l11 j F hinv A_st A_hg hm => ?_, fun h2 l8 l9 l10 l11  F hinv A_st A_hg hm => ?_⟩
    · skip
      have w_p := z_rng p
      have w_k := z_rng k
      have gfr := z_rng fr
      have gto := z_rng to
      have gpl := z_rng pl
      have S2 := zW_sh F S
      obtain ⟨hk, hj, hp, hbb⟩ := hinv
      apply ez_Wp_in
      show ez_gw _ _ _ _ _ _ (cz_40) _ _ _ _ _
      refine gw_skip _ ?_
      have r1 := z_rng (ez_I h2 71 16)
      refine gw_ld rfl rfl ?_
      refine gw_ld rfl rfl ?_
      refine z_b2 (fun c2 => ?_) (fun c2 => ?_)
      · have c2 : to.toInt ≤ k.toInt := c2
        exact gw_skip _ (ez_Wp_at (ih.2.2.2.2.2.2 h2 (some (.int p)) (some (.int k)) (l10) (l11) F (by rw [show J = j by omega]; exact hbb) ((by rw [show J = j by omega]; exact A_st)) (A_hg) (by omega)) rfl)
      · have c2 : ¬ (to.toInt ≤ k.toInt) := c2
        refine gw_ld rfl rfl ?_
        refine z_gR (q := 78) (zT S2 (by decide) rfl) (zRf S2 (by decide) (by decide) rfl) (by decide) ?_
        refine gw_ld rfl rfl ?_
        refine z_iaV (n := 6000) (zT S2 (by decide) rfl) (zN S2 (by decide) rfl) (by omega) (zW_f F (by decide) (x70_0 _)) ?_
        generalize ex3 : ez_I h 78 k.toInt.toNat = x3
        have rx3 := z_rng x3
        have yx3 := (hpm (a + j) (by omega)).2.1
        rw [show a + j = k.toInt.toNat by omega, ex3] at yx3
        rw [show k.toInt.toNat = a + j by omega] at yx3
        refine z_b1 (fun c4 => ?_) (fun c4 => ?_)
        · have c4 : x3.toInt ≠ 0 := c4
          exact gw_skip _ (ez_Wp_at (ih.2.1 h2 p k (l10) (l11) j F (⟨hk, by omega, hp, by omega, hbb⟩) (A_st) (A_hg) (by omega)) rfl)
        · have c4 : ¬ (x3.toInt ≠ 0) := c4
          have hd0 : dI T n (a + j) = 0 := by omega
          have hp0 := wp_0 hT hlt (show a + j < c by omega) hd0
          have hsw := hU (aM T n (a + j)) (by omega) (by have h9 := (hu_ (a + j) (by omega)).1; rw [lSy_0 hd0] at h9; exact h9)
          have hbd := wp_bd hr (show j < J by omega)
          rw [wpt_0 hd0] at hbd
          refine gw_ld rfl rfl ?_
          refine z_gR (q := 72) (zT S2 (by decide) rfl) (zRf S2 (by decide) (by decide) rfl) (by decide) ?_
          refine gw_ld rfl rfl ?_
          refine z_baV (n := 6000) (zT S2 (by decide) rfl) (zN S2 (by decide) rfl) (by omega) (zW_f F (by decide) (x70_1 _)) ?_
          generalize ex5 : ez_I h 72 p.toInt.toNat = x5
          have rx5 := z_rng x5
          have yx5 := hB (ptP T n (a + j)) hp0.2.2.2
          rw [show ptP T n (a + j) = p.toInt.toNat by omega, ex5] at yx5
          rw [show p.toInt.toNat = ptP T n (a + j) by omega] at yx5
          refine z_C (m := 255) rfl rfl (fun x6 ex6 => ?_)
          refine z_and (fun x7 ex7 ux7 wx7 => ?_)
          have rx7 := z_rng x7
          replace ux7 := ux7 (by omega)
          clear wx7
          have vx7 := n_mask (k := 8) (by decide) (by omega) ex7
          rw [show (2 : Int) ^ 8 = 256 from rfl] at vx7
          refine gw_st rfl rfl rfl ?_
          show ez_gw _ _ _ _ _ _ _ _ [some (.ref 71), some (.int fr), some (.int to), some (.int pl), some (.ref 106), some (.ref 107), some (.ref 108), some (.ref 109), some (.int p), some (.int k), some (.int x7), l11] _ _ _
          refine gw_ld rfl rfl ?_
          refine gw_ld rfl rfl ?_
          refine gw_ld rfl rfl ?_
          refine z_iaV (n := 288) (zT S2 (by decide) rfl) (zN S2 (by decide) rfl) (by omega) (zW_f F (by decide) (x70_2 _)) ?_
          generalize ex8 : ez_I h 107 x7.toInt.toNat = x8
          have rx8 := z_rng x8
          skip
          refine gw_ld rfl rfl ?_
          refine gw_ld rfl rfl ?_
          refine z_iaV (n := 288) (zT S2 (by decide) rfl) (zN S2 (by decide) rfl) (by omega) (zW_f F (by decide) (x70_3 _)) ?_
          generalize ex9 : ez_I h 106 x7.toInt.toNat = x9
          have rx9 := z_rng x9
          skip
          refine z_cl rfl rfl rfl rfl rfl rfl rfl rfl rfl rfl rfl (zT S2 (by decide) rfl) ?_
          refine d_wbV (s := (wps (aM T n) (dI T n) nV nU nY nW s a j)) (V := nV (aM T n (a + j))) (N := nU (aM T n (a + j))) (v := x8) (n := x9) S2 A_st (hbb) A_hg (by rw [← ex8, show x7.toInt.toNat = (aM T n (a + j)) by omega]; exact hsw.2.1) (by rw [← ex9, show x7.toInt.toNat = (aM T n (a + j)) by omega]; exact hsw.1) (hsw.2.2.1) (Nat.le_trans hsw.2.2.2 (by decide)) (Nat.le_trans (Nat.le_refl _) hbd) (fun h10 F11 k12 k13 k14 => ?_)
          have S15 := zW_sh F11 S2
          have F16 := zW_tr F (zW_mono F11 (x70_4) (x70_5) (x70_6))
          have r17 := z_rng (ez_I h10 71 16)
          refine z_go ?_
          exact gw_skip _ (ez_Wp_at (ih.2.2.2.2.2.1 h10 p k (some (.int x7)) (l11) j F16 (⟨hk, by omega, hp, by show _ = (((wpt (aM T n) (dI T n) nV nU nY nW (wps (aM T n) (dI T n) nV nU nY nW s a j) (a + j)).2 : Nat) : Int); rw [wpt_0 hd0]; exact k13⟩) ((by show mS _ (wpt (aM T n) (dI T n) nV nU nY nW (wps (aM T n) (dI T n) nV nU nY nW s a j) (a + j)); rw [wpt_0 hd0]; exact k12)) (k14) (by omega)) rfl)
    · skip
      have w_p := z_rng p
      have w_k := z_rng k
      have gfr := z_rng fr
      have gto := z_rng to
      have gpl := z_rng pl
      have S2 := zW_sh F S
      obtain ⟨hk, hj, hp, hd1, hbb⟩ := hinv
      have hp1 := wp_1 hT hlt (show a + j < c by omega) hd1
      have hbd := wp_bd hr (show j < J by omega)
      rw [wpt_1 hd1] at hbd
      have hb4 := wb4 hbd
      clear hbd
      have hkl := kL_ok (v := (aM T n (a + j))) (by omega)
      have hkl1 := hkl.1
      have hkl2 := hkl.2.1
      have hsw := hU (257 + kL (aM T n (a + j))) (by omega) (by have h9 := (hu_ (a + j) (by omega)).1; rw [lSy_1 hd1] at h9; exact h9)
      apply ez_Wp_in
      show ez_gw _ _ _ _ _ _ (cz_40) _ _ _ _ _
      refine gw_skip _ ?_
      have r18 := z_rng (ez_I h2 71 16)
      refine gw_ld rfl rfl ?_
      refine gw_ld rfl rfl ?_
      refine z_gR (q := 77) (zT S2 (by decide) rfl) (zRf S2 (by decide) (by decide) rfl) (by decide) ?_
      refine gw_ld rfl rfl ?_
      refine z_iaV (n := 6000) (zT S2 (by decide) rfl) (zN S2 (by decide) rfl) (by omega) (zW_f F (by decide) (x70_7 _)) ?_
      generalize ex19 : ez_I h 77 k.toInt.toNat = x19
      have rx19 := z_rng x19
      have yx19 := (hpm (a + j) (by omega)).1
      rw [show a + j = k.toInt.toNat by omega, ex19] at yx19
      rw [show k.toInt.toNat = a + j by omega] at yx19
      refine z_cl rfl rfl rfl rfl rfl rfl rfl rfl rfl rfl rfl (zT S2 (by decide) rfl) ?_
      have ham : x19.toInt.toNat = (aM T n (a + j)) := by omega
      refine d_kL (n := x19) S2 (by rw [(show ez_I h2 92 = ez_I h 92 from zW_fn F 92 x70_8 x70_9)]; exact t92) (by omega) (fun x20 k21 => ?_)
      rw [ham] at k21
      have rx20 := z_rng x20
      refine gw_st rfl rfl rfl ?_
      show ez_gw _ _ _ _ _ _ _ _ [some (.ref 71), some (.int fr), some (.int to), some (.int pl), some (.ref 106), some (.ref 107), some (.ref 108), some (.ref 109), some (.int p), some (.int k), some (.int x20), l11] _ _ _
      refine gw_ld rfl rfl ?_
      refine gw_ld rfl rfl ?_
      refine z_C (m := 257) rfl rfl (fun x22 ex22 => ?_)
      refine gw_ld rfl rfl ?_
      refine z_add (by omega) (fun x23 ex23 => ?_)
      refine z_iaV (n := 288) (zT S2 (by decide) rfl) (zN S2 (by decide) rfl) (by omega) (zW_f F (by decide) (x70_2 _)) ?_
      generalize ex24 : ez_I h 107 x23.toInt.toNat = x24
      have rx24 := z_rng x24
      skip
      refine gw_ld rfl rfl ?_
      refine z_C (m := 257) rfl rfl (fun x25 ex25 => ?_)
      refine gw_ld rfl rfl ?_
      refine z_add (by omega) (fun x26 ex26 => ?_)
      refine z_iaV (n := 288) (zT S2 (by decide) rfl) (zN S2 (by decide) rfl) (by omega) (zW_f F (by decide) (x70_3 _)) ?_
      generalize ex27 : ez_I h 106 x26.toInt.toNat = x27
      have rx27 := z_rng x27
      skip
      refine z_cl rfl rfl rfl rfl rfl rfl rfl rfl rfl rfl rfl (zT S2 (by decide) rfl) ?_
      refine d_wbV (s := (wps (aM T n) (dI T n) nV nU nY nW s a j)) (V := nV (257 + kL (aM T n (a + j)))) (N := nU (257 + kL (aM T n (a + j)))) (v := x24) (n := x27) S2 A_st (hbb) A_hg (by rw [← ex24, show x23.toInt.toNat = 257 + kL (aM T n (a + j)) by omega]; exact hsw.2.1) (by rw [← ex27, show x26.toInt.toNat = 257 + kL (aM T n (a + j)) by omega]; exact hsw.1) (hsw.2.2.1) (Nat.le_trans hsw.2.2.2 (by decide)) (hb4.1) (fun h28 F29 k30 k31 k32 => ?_)
      have S33 := zW_sh F29 S2
      have F34 := zW_tr F (zW_mono F29 (x70_4) (x70_5) (x70_6))
      have r35 := z_rng (ez_I h28 71 16)
      exact ez_Wp_at (ih.2.2.1 h28 p k x20 (l11) j F34 (⟨hk, by omega, hp, by omega, by omega, k31⟩) (k30) (k32) (by omega)) rfl
    · skip
      have w_p := z_rng p
      have w_k := z_rng k
      have w_l := z_rng l
      have gfr := z_rng fr
      have gto := z_rng to
      have gpl := z_rng pl
      have S2 := zW_sh F S
      obtain ⟨hk, hj, hp, hd1, hl, hbb⟩ := hinv
      have hp1 := wp_1 hT hlt (show a + j < c by omega) hd1
      have hbd := wp_bd hr (show j < J by omega)
      rw [wpt_1 hd1] at hbd
      have hb4 := wb4 hbd
      clear hbd
      have hkl := kL_ok (v := (aM T n (a + j))) (by omega)
      have hkl1 := hkl.1
      have hkl2 := hkl.2.1
      have hle := LE_5 (kL (aM T n (a + j)))
      apply ez_Wp_in
      show ez_gw _ _ _ _ _ _ (cz_40) _ _ _ _ _
      refine gw_skip _ ?_
      have r36 := z_rng (ez_I h2 71 16)
      refine gw_ld rfl rfl ?_
      refine gw_ld rfl rfl ?_
      refine z_gR (q := 77) (zT S2 (by decide) rfl) (zRf S2 (by decide) (by decide) rfl) (by decide) ?_
      refine gw_ld rfl rfl ?_
      refine z_iaV (n := 6000) (zT S2 (by decide) rfl) (zN S2 (by decide) rfl) (by omega) (zW_f F (by decide) (x70_7 _)) ?_
      generalize ex37 : ez_I h 77 k.toInt.toNat = x37
      have rx37 := z_rng x37
      have yx37 := (hpm (a + j) (by omega)).1
      rw [show a + j = k.toInt.toNat by omega, ex37] at yx37
      rw [show k.toInt.toNat = a + j by omega] at yx37
      refine gw_ld rfl rfl ?_
      refine z_gR (q := 92) (zT S2 (by decide) rfl) (zRf S2 (by decide) (by decide) rfl) (by decide) ?_
      refine gw_ld rfl rfl ?_
      refine z_iaV (n := 29) (zT S2 (by decide) rfl) (zN S2 (by decide) rfl) (by omega) (zW_f F (by decide) (x70_9 _)) ?_
      generalize ex38 : ez_I h 92 l.toInt.toNat = x38
      have rx38 := z_rng x38
      have yx38 := t92 (kL (aM T n (a + j))) (by omega)
      rw [show (kL (aM T n (a + j))) = l.toInt.toNat by omega, ex38] at yx38
      rw [show l.toInt.toNat = (kL (aM T n (a + j))) by omega] at yx38
      refine z_sub (by omega) (fun x39 ex39 => ?_)
      refine gw_ld rfl rfl ?_
      refine z_gR (q := 93) (zT S2 (by decide) rfl) (zRf S2 (by decide) (by decide) rfl) (by decide) ?_
      refine gw_ld rfl rfl ?_
      refine z_iaV (n := 29) (zT S2 (by decide) rfl) (zN S2 (by decide) rfl) (by omega) (zW_f F (by decide) (x70_10 _)) ?_
      generalize ex40 : ez_I h 93 l.toInt.toNat = x40
      have rx40 := z_rng x40
      have yx40 := t93 (kL (aM T n (a + j))) (by omega)
      rw [show (kL (aM T n (a + j))) = l.toInt.toNat by omega, ex40] at yx40
      rw [show l.toInt.toNat = (kL (aM T n (a + j))) by omega] at yx40
      refine z_cl rfl rfl rfl rfl rfl rfl rfl rfl rfl rfl rfl (zT S2 (by decide) rfl) ?_
      refine d_wbV (s := (wr (wps (aM T n) (dI T n) nV nU nY nW s a j) (nV (257 + kL (aM T n (a + j)))) (nU (257 + kL (aM T n (a + j)))))) (V := (aM T n (a + j)) - LBf (kL (aM T n (a + j)))) (N := LEf (kL (aM T n (a + j)))) (v := x39) (n := x40) S2 A_st (hbb) A_hg (by omega) (by omega) (hkl.2.2) (by omega) (hb4.2.1) (fun h41 F42 k43 k44 k45 => ?_)
      have S46 := zW_sh F42 S2
      have F47 := zW_tr F (zW_mono F42 (x70_4) (x70_5) (x70_6))
      have r48 := z_rng (ez_I h41 71 16)
      exact ez_Wp_at (ih.2.2.2.1 h41 p k l (l11) j F47 (⟨hk, by omega, hp, by omega, k44⟩) (k43) (k45) (by omega)) rfl
    · skip
      have w_p := z_rng p
      have w_k := z_rng k
      have w_l := z_rng l
      have gfr := z_rng fr
      have gto := z_rng to
      have gpl := z_rng pl
      have S2 := zW_sh F S
      obtain ⟨hk, hj, hp, hd1, hbb⟩ := hinv
      have hp1 := wp_1 hT hlt (show a + j < c by omega) hd1
      have hbd := wp_bd hr (show j < J by omega)
      rw [wpt_1 hd1] at hbd
      have hb4 := wb4 hbd
      clear hbd
      have hkd := kD_ok (v := (dI T n (a + j))) (by omega)
      have hkd1 := hkd.1
      have hkd2 := hkd.2.1
      have hsw := hW (kD (dI T n (a + j))) (by omega) ((hu_ (a + j) (by omega)).2 (by omega))
      apply ez_Wp_in
      show ez_gw _ _ _ _ _ _ (cz_40) _ _ _ _ _
      refine gw_skip _ ?_
      have r49 := z_rng (ez_I h2 71 16)
      refine gw_ld rfl rfl ?_
      refine gw_ld rfl rfl ?_
      refine z_gR (q := 78) (zT S2 (by decide) rfl) (zRf S2 (by decide) (by decide) rfl) (by decide) ?_
      refine gw_ld rfl rfl ?_
      refine z_iaV (n := 6000) (zT S2 (by decide) rfl) (zN S2 (by decide) rfl) (by omega) (zW_f F (by decide) (x70_0 _)) ?_
      generalize ex50 : ez_I h 78 k.toInt.toNat = x50
      have rx50 := z_rng x50
      have yx50 := (hpm (a + j) (by omega)).2.1
      rw [show a + j = k.toInt.toNat by omega, ex50] at yx50
      rw [show k.toInt.toNat = a + j by omega] at yx50
      refine z_cl rfl rfl rfl rfl rfl rfl rfl rfl rfl rfl rfl (zT S2 (by decide) rfl) ?_
      have hdi : x50.toInt.toNat = (dI T n (a + j)) := by omega
      refine d_kD (n := x50) S2 (by rw [(show ez_I h2 94 = ez_I h 94 from zW_fn F 94 x70_11 x70_12)]; exact t94) (by omega) (fun x51 k52 => ?_)
      rw [hdi] at k52
      have rx51 := z_rng x51
      refine gw_st rfl rfl rfl ?_
      show ez_gw _ _ _ _ _ _ _ _ [some (.ref 71), some (.int fr), some (.int to), some (.int pl), some (.ref 106), some (.ref 107), some (.ref 108), some (.ref 109), some (.int p), some (.int k), some (.int l), some (.int x51)] _ _ _
      refine gw_ld rfl rfl ?_
      refine gw_ld rfl rfl ?_
      refine gw_ld rfl rfl ?_
      refine z_iaV (n := 30) (zT S2 (by decide) rfl) (zN S2 (by decide) rfl) (by omega) (zW_f F (by decide) (x70_13 _)) ?_
      generalize ex53 : ez_I h 109 x51.toInt.toNat = x53
      have rx53 := z_rng x53
      skip
      refine gw_ld rfl rfl ?_
      refine gw_ld rfl rfl ?_
      refine z_iaV (n := 30) (zT S2 (by decide) rfl) (zN S2 (by decide) rfl) (by omega) (zW_f F (by decide) (x70_14 _)) ?_
      generalize ex54 : ez_I h 108 x51.toInt.toNat = x54
      have rx54 := z_rng x54
      skip
      refine z_cl rfl rfl rfl rfl rfl rfl rfl rfl rfl rfl rfl (zT S2 (by decide) rfl) ?_
      refine d_wbV (s := (wr (wr (wps (aM T n) (dI T n) nV nU nY nW s a j) (nV (257 + kL (aM T n (a + j)))) (nU (257 + kL (aM T n (a + j))))) ((aM T n (a + j)) - LBf (kL (aM T n (a + j)))) (LEf (kL (aM T n (a + j)))))) (V := nY (kD (dI T n (a + j)))) (N := nW (kD (dI T n (a + j)))) (v := x53) (n := x54) S2 A_st (hbb) A_hg (by rw [← ex53, show x51.toInt.toNat = kD (dI T n (a + j)) by omega]; exact hsw.2.1) (by rw [← ex54, show x51.toInt.toNat = kD (dI T n (a + j)) by omega]; exact hsw.1) (hsw.2.2.1) (Nat.le_trans hsw.2.2.2 (by decide)) (hb4.2.2.1) (fun h55 F56 k57 k58 k59 => ?_)
      have S60 := zW_sh F56 S2
      have F61 := zW_tr F (zW_mono F56 (x70_4) (x70_5) (x70_6))
      have r62 := z_rng (ez_I h55 71 16)
      exact ez_Wp_at (ih.2.2.2.2.1 h55 p k (some (.int l)) x51 j F61 (⟨hk, by omega, hp, by omega, by omega, k58⟩) (k57) (k59) (by omega)) rfl
    · skip
      have w_p := z_rng p
      have w_k := z_rng k
      have w_q := z_rng q
      have gfr := z_rng fr
      have gto := z_rng to
      have gpl := z_rng pl
      have S2 := zW_sh F S
      obtain ⟨hk, hj, hp, hd1, hq, hbb⟩ := hinv
      have hp1 := wp_1 hT hlt (show a + j < c by omega) hd1
      have hbd := wp_bd hr (show j < J by omega)
      rw [wpt_1 hd1] at hbd
      have hb4 := wb4 hbd
      clear hbd
      have hkd := kD_ok (v := (dI T n (a + j))) (by omega)
      have hkd1 := hkd.1
      have hkd2 := hkd.2.1
      have hde := DE_13 (kD (dI T n (a + j)))
      apply ez_Wp_in
      show ez_gw _ _ _ _ _ _ (cz_40) _ _ _ _ _
      refine gw_skip _ ?_
      have r63 := z_rng (ez_I h2 71 16)
      refine gw_ld rfl rfl ?_
      refine gw_ld rfl rfl ?_
      refine z_gR (q := 78) (zT S2 (by decide) rfl) (zRf S2 (by decide) (by decide) rfl) (by decide) ?_
      refine gw_ld rfl rfl ?_
      refine z_iaV (n := 6000) (zT S2 (by decide) rfl) (zN S2 (by decide) rfl) (by omega) (zW_f F (by decide) (x70_0 _)) ?_
      generalize ex64 : ez_I h 78 k.toInt.toNat = x64
      have rx64 := z_rng x64
      have yx64 := (hpm (a + j) (by omega)).2.1
      rw [show a + j = k.toInt.toNat by omega, ex64] at yx64
      rw [show k.toInt.toNat = a + j by omega] at yx64
      refine gw_ld rfl rfl ?_
      refine z_gR (q := 94) (zT S2 (by decide) rfl) (zRf S2 (by decide) (by decide) rfl) (by decide) ?_
      refine gw_ld rfl rfl ?_
      refine z_iaV (n := 30) (zT S2 (by decide) rfl) (zN S2 (by decide) rfl) (by omega) (zW_f F (by decide) (x70_12 _)) ?_
      generalize ex65 : ez_I h 94 q.toInt.toNat = x65
      have rx65 := z_rng x65
      have yx65 := t94 (kD (dI T n (a + j))) (by omega)
      rw [show (kD (dI T n (a + j))) = q.toInt.toNat by omega, ex65] at yx65
      rw [show q.toInt.toNat = (kD (dI T n (a + j))) by omega] at yx65
      refine z_sub (by omega) (fun x66 ex66 => ?_)
      refine gw_ld rfl rfl ?_
      refine z_gR (q := 95) (zT S2 (by decide) rfl) (zRf S2 (by decide) (by decide) rfl) (by decide) ?_
      refine gw_ld rfl rfl ?_
      refine z_iaV (n := 30) (zT S2 (by decide) rfl) (zN S2 (by decide) rfl) (by omega) (zW_f F (by decide) (x70_15 _)) ?_
      generalize ex67 : ez_I h 95 q.toInt.toNat = x67
      have rx67 := z_rng x67
      have yx67 := t95 (kD (dI T n (a + j))) (by omega)
      rw [show (kD (dI T n (a + j))) = q.toInt.toNat by omega, ex67] at yx67
      rw [show q.toInt.toNat = (kD (dI T n (a + j))) by omega] at yx67
      refine z_cl rfl rfl rfl rfl rfl rfl rfl rfl rfl rfl rfl (zT S2 (by decide) rfl) ?_
      refine d_wbV (s := (wr (wr (wr (wps (aM T n) (dI T n) nV nU nY nW s a j) (nV (257 + kL (aM T n (a + j)))) (nU (257 + kL (aM T n (a + j))))) ((aM T n (a + j)) - LBf (kL (aM T n (a + j)))) (LEf (kL (aM T n (a + j))))) (nY (kD (dI T n (a + j)))) (nW (kD (dI T n (a + j)))))) (V := (dI T n (a + j)) - DBf (kD (dI T n (a + j)))) (N := DEf (kD (dI T n (a + j)))) (v := x66) (n := x67) S2 A_st (hbb) A_hg (by omega) (by omega) (hkd.2.2) (by omega) (hb4.2.2.2) (fun h68 F69 k70 k71 k72 => ?_)
      have S73 := zW_sh F69 S2
      have F74 := zW_tr F (zW_mono F69 (x70_4) (x70_5) (x70_6))
      have r75 := z_rng (ez_I h68 71 16)
      exact ez_Wp_at (ih.2.2.2.2.2.1 h68 p k (l10) (some (.int q)) j F74 (⟨hk, by omega, hp, by show _ = (((wpt (aM T n) (dI T n) nV nU nY nW (wps (aM T n) (dI T n) nV nU nY nW s a j) (a + j)).2 : Nat) : Int); rw [wpt_1 hd1]; exact k71⟩) ((by show mS _ (wpt (aM T n) (dI T n) nV nU nY nW (wps (aM T n) (dI T n) nV nU nY nW s a j) (a + j)); rw [wpt_1 hd1]; exact k70)) (k72) (by omega)) rfl
    · skip
      have w_p := z_rng p
      have w_k := z_rng k
      have gfr := z_rng fr
      have gto := z_rng to
      have gpl := z_rng pl
      have S2 := zW_sh F S
      obtain ⟨hk, hj, hp, hbb⟩ := hinv
      have hpn := ptP_n T n (a + j)
      have hpc := ptP_k (T := T) (n := n) (a + j + 1) (fun q hq => hlt q (by omega))
      apply ez_Wp_in
      show ez_gw _ _ _ _ _ _ (cz_40) _ _ _ _ _
      refine gw_skip _ ?_
      have r76 := z_rng (ez_I h2 71 16)
      refine gw_ld rfl rfl ?_
      refine gw_ld rfl rfl ?_
      refine z_gR (q := 77) (zT S2 (by decide) rfl) (zRf S2 (by decide) (by decide) rfl) (by decide) ?_
      refine gw_ld rfl rfl ?_
      refine z_iaV (n := 6000) (zT S2 (by decide) rfl) (zN S2 (by decide) rfl) (by omega) (zW_f F (by decide) (x70_7 _)) ?_
      generalize ex77 : ez_I h 77 k.toInt.toNat = x77
      have rx77 := z_rng x77
      have yx77 := (hpm (a + j) (by omega)).1
      rw [show a + j = k.toInt.toNat by omega, ex77] at yx77
      rw [show k.toInt.toNat = a + j by omega] at yx77
      refine z_add (by omega) (fun x78 ex78 => ?_)
      refine gw_st rfl rfl rfl ?_
      show ez_gw _ _ _ _ _ _ _ _ [some (.ref 71), some (.int fr), some (.int to), some (.int pl), some (.ref 106), some (.ref 107), some (.ref 108), some (.ref 109), some (.int x78), some (.int k), l10, l11] _ _ _
      have hpp : x78.toInt = ((ptP T n (a + (j + 1)) : Nat) : Int) := by show _ = ((ptP T n (a + j + 1) : Nat) : Int); rw [hpn]; omega
      refine z_inc rfl (by rw [show (1 : Int32).toInt = 1 from rfl]; omega) (fun x79 ex79 => ?_)
      rw [show (1 : Int32).toInt = 1 from rfl] at ex79
      show ez_gw _ _ _ _ _ _ _ _ [some (.ref 71), some (.int fr), some (.int to), some (.int pl), some (.ref 106), some (.ref 107), some (.ref 108), some (.ref 109), some (.int x78), some (.int x79), l10, l11] _ _ _
      refine z_go ?_
      exact ih.1 h2 x78 x79 (l10) (l11) (j + 1) F (⟨by omega, by omega, hpp, hbb⟩) (A_st) (A_hg) (by omega)
    · skip
      have gfr := z_rng fr
      have gto := z_rng to
      have gpl := z_rng pl
      have S2 := zW_sh F S
      have hbb := hinv
      have hs6 := hU 256 (by decide) hu6
      apply ez_Wp_in
      show ez_gw _ _ _ _ _ _ (cz_40) _ _ _ _ _
      refine gw_skip _ ?_
      have r80 := z_rng (ez_I h2 71 16)
      refine gw_ld rfl rfl ?_
      refine gw_ld rfl rfl ?_
      refine z_C (m := 256) rfl rfl (fun x81 ex81 => ?_)
      refine z_iaV (n := 288) (zT S2 (by decide) rfl) (zN S2 (by decide) rfl) (by omega) (zW_f F (by decide) (x70_2 _)) ?_
      generalize ex82 : ez_I h 107 x81.toInt.toNat = x82
      have rx82 := z_rng x82
      skip
      refine gw_ld rfl rfl ?_
      refine z_C (m := 256) rfl rfl (fun x83 ex83 => ?_)
      refine z_iaV (n := 288) (zT S2 (by decide) rfl) (zN S2 (by decide) rfl) (by omega) (zW_f F (by decide) (x70_3 _)) ?_
      generalize ex84 : ez_I h 106 x83.toInt.toNat = x84
      have rx84 := z_rng x84
      skip
      refine z_cl rfl rfl rfl rfl rfl rfl rfl rfl rfl rfl rfl (zT S2 (by decide) rfl) ?_
      refine d_wbV (s := (wps (aM T n) (dI T n) nV nU nY nW s a J)) (V := nV 256) (N := nU 256) (v := x82) (n := x84) S2 A_st (hbb) A_hg (by rw [← ex82, show x81.toInt.toNat = 256 by omega]; exact hs6.2.1) (by rw [← ex84, show x83.toInt.toNat = 256 by omega]; exact hs6.1) (hs6.2.2.1) (Nat.le_trans hs6.2.2.2 (by decide)) (hr) (fun h85 F86 k87 k88 k89 => ?_)
      have S90 := zW_sh F86 S2
      have F91 := zW_tr F (zW_mono F86 (x70_4) (x70_5) (x70_6))
      have r92 := z_rng (ez_I h85 71 16)
      refine z_rv ?_
      exact K _ F91 (mS_m k87 k88) k89
set_option maxRecDepth 4000 in
set_option maxHeartbeats 2000000 in
theorem d_wPartsA {E : Nat → Nat × (Nat → Int32)} {d : Nat} {Q : ez_Q} {h : ez_H} {fr : Int32} {to : Int32} {pl : Int32} (S : zSh h) {T : Nat → Int} {n : Nat} {nU nV nW nY : Nat → Nat} {s : Nat × Nat} {c a J : Nat} (hn : n ≤ 6000) (hT : ∀ i, i < n → 0 ≤ T i ∧ T i ≤ 255) (hB : ∀ i, i < n → (ez_I h 72 i).toInt % 256 = T i) (hs : mst (ez_I h 75) (ez_I h 71 16).toInt s) (hg : aR (ez_I h 75) 8000 (-128) 127) (hpm : pmI (ez_I h 77) (ez_I h 78) (ez_I h 79) (ez_I h 80) T n c) (hlt : ltP T n c) (hc : c ≤ 6000) (hf : fr.toInt = ((a : Nat) : Int) ∧ to.toInt = ((a + J : Nat) : Int) ∧ a + J ≤ c) (hpl : pl.toInt = (ptP T n a : Nat)) (hU : ∀ x, x < 286 → 1 ≤ nU x → swP (ez_I h 106) (ez_I h 107) nU nV x) (hW : ∀ x, x < 30 → 1 ≤ nW x → swP (ez_I h 108) (ez_I h 109) nW nY x) (hu_ : ∀ k, (a ≤ k ∧ k < a + J) → 1 ≤ nU (lSy (aM T n) (dI T n) k) ∧ (dI T n k ≠ 0 → 1 ≤ nW (kD (dI T n k)))) (hu6 : 1 ≤ nU 256) (hr : (wps (aM T n) (dI T n) nV nU nY nW s a J).2 + nU 256 ≤ 64000) (t92 : ctI (ez_I h 92) LBf 29) (t93 : ctI (ez_I h 93) LEf 29) (t94 : ctI (ez_I h 94) DBf 30) (t95 : ctI (ez_I h 95) DEf 30) (K : ∀ h2, zW (fun q k => q = 71 ∧ k = 16) (fun q => q = 75) (fun _ => False) h h2 → mst (ez_I h2 75) (ez_I h2 71 16).toInt (wr (wps (aM T n) (dI T n) nV nU nY nW s a J) (nV 256) (nU 256)) → aR (ez_I h2 75) 8000 (-128) 127 → Q (.inl none) h2) : pw E (d + 1) 40 0 [some (.ref 71), some (.int fr), some (.int to), some (.int pl), some (.ref 106), some (.ref 107), some (.ref 108), some (.ref 109), none, none, none, none] [] h Q := by
  have gfr := z_rng fr
  have gto := z_rng to
  have gpl := z_rng pl
  have F := zW_refl (fun q k => q = 71 ∧ k = 16) (fun q => q = 75) (fun _ => False) h
  apply ez_Wp_in
  show ez_gw _ _ _ _ _ _ (cz_40) _ _ _ _ _
  refine gw_skip _ ?_
  have r1 := z_rng (ez_I h 71 16)
  refine gw_ld rfl rfl ?_
  refine gw_st rfl rfl rfl ?_
  show ez_gw _ _ _ _ _ _ _ _ [some (.ref 71), some (.int fr), some (.int to), some (.int pl), some (.ref 106), some (.ref 107), some (.ref 108), some (.ref 109), some (.int pl), none, none, none] _ _ _
  refine gw_ld rfl rfl ?_
  refine gw_st rfl rfl rfl ?_
  show ez_gw _ _ _ _ _ _ _ _ [some (.ref 71), some (.int fr), some (.int to), some (.int pl), some (.ref 106), some (.ref 107), some (.ref 108), some (.ref 109), some (.int pl), some (.int fr), none, none] _ _ _
  exact ez_Wp_at ((d_wPartsA_L0 (fr := fr) (to := to) (pl := pl) S hn hT hB hs hg hpm hlt hc hf hpl hU hW hu_ hu6 hr t92 t93 t94 t95 K (((10 * (100000 - fr.toInt))).toNat + 1)).1 h pl fr (none) (none) 0 F (⟨by omega, by omega, hpl, hs.1⟩) (m_mS hs) (hg) (by omega)) rfl

end
section
/-! PRINTED by wip/pack: the model writes parts, by its made codes -/
theorem x70_16 : ∀ k : Nat, ¬ (78 = 71 ∧ k = 16) := fun k c => by omega
theorem x70_17 : ∀ k : Nat, ¬ (72 = 71 ∧ k = 16) := fun k c => by omega
theorem x70_18 : ∀ k : Nat, ¬ (103 = 71 ∧ k = 16) := fun k c => by omega
theorem x70_19 : ∀ k : Nat, ¬ (100 = 71 ∧ k = 16) := fun k c => by omega
theorem x70_20 : ∀ q k : Nat, (q = 71 ∧ k = 16) → (q = 71 ∧ k = 16) := fun q k hk => hk
theorem x70_21 : ∀ q : Nat, (q = 75) → (q = 75) := fun q hk => hk
theorem x70_22 : ∀ q : Nat, (False) → (False) := fun q hk => hk.elim
theorem x70_23 : ∀ k : Nat, ¬ (77 = 71 ∧ k = 16) := fun k c => by omega
theorem x70_24 : ¬ (92 = 75) := by omega
theorem x70_25 : ∀ k : Nat, ¬ (92 = 71 ∧ k = 16) := fun k c => by omega
theorem x70_26 : ∀ k : Nat, ¬ (93 = 71 ∧ k = 16) := fun k c => by omega
theorem x70_27 : ¬ (94 = 75) := by omega
theorem x70_28 : ∀ k : Nat, ¬ (94 = 71 ∧ k = 16) := fun k c => by omega
theorem x70_29 : ∀ k : Nat, ¬ (104 = 71 ∧ k = 16) := fun k c => by omega
theorem x70_30 : ∀ k : Nat, ¬ (101 = 71 ∧ k = 16) := fun k c => by omega
theorem x70_31 : ∀ k : Nat, ¬ (95 = 71 ∧ k = 16) := fun k c => by omega
set_option maxRecDepth 4000 in
set_option maxHeartbeats 2000000 in
theorem d_wPartsB_L0 {E : Nat → Nat × (Nat → Int32)} {d : Nat} {Q : ez_Q} {h : ez_H} {fr : Int32} {to : Int32} {pl : Int32} (S : zSh h) {T : Nat → Int} {n : Nat} {nU nV nW nY : Nat → Nat} {s : Nat × Nat} {c a J : Nat} (hn : n ≤ 6000) (hT : ∀ i, i < n → 0 ≤ T i ∧ T i ≤ 255) (hB : ∀ i, i < n → (ez_I h 72 i).toInt % 256 = T i) (hs : mst (ez_I h 75) (ez_I h 71 16).toInt s) (hg : aR (ez_I h 75) 8000 (-128) 127) (hpm : pmI (ez_I h 77) (ez_I h 78) (ez_I h 79) (ez_I h 80) T n c) (hlt : ltP T n c) (hc : c ≤ 6000) (hf : fr.toInt = ((a : Nat) : Int) ∧ to.toInt = ((a + J : Nat) : Int) ∧ a + J ≤ c) (hpl : pl.toInt = (ptP T n a : Nat)) (hU : ∀ x, x < 286 → 1 ≤ nU x → swP (ez_I h 100) (ez_I h 103) nU nV x) (hW : ∀ x, x < 30 → 1 ≤ nW x → swP (ez_I h 101) (ez_I h 104) nW nY x) (hu_ : ∀ k, (a ≤ k ∧ k < a + J) → 1 ≤ nU (lSy (aM T n) (dI T n) k) ∧ (dI T n k ≠ 0 → 1 ≤ nW (kD (dI T n k)))) (hu6 : 1 ≤ nU 256) (hr : (wps (aM T n) (dI T n) nV nU nY nW s a J).2 + nU 256 ≤ 64000) (t92 : ctI (ez_I h 92) LBf 29) (t93 : ctI (ez_I h 93) LEf 29) (t94 : ctI (ez_I h 94) DBf 30) (t95 : ctI (ez_I h 95) DEf 30) (K : ∀ h2, zW (fun q k => q = 71 ∧ k = 16) (fun q => q = 75) (fun _ => False) h h2 → mst (ez_I h2 75) (ez_I h2 71 16).toInt (wr (wps (aM T n) (dI T n) nV nU nY nW s a J) (nV 256) (nU 256)) → aR (ez_I h2 75) 8000 (-128) 127 → Q (.inl none) h2) : ∀ N : Nat, (∀ (h2 : ez_H) (p : Int32) (k : Int32) (l10 : Option Value) (l11 : Option Value) (j : Nat), zW (fun q k => q = 71 ∧ k = 16) (fun q => q = 75) (fun _ => False) h h2 → (k.toInt = ((a + j : Nat) : Int) ∧ j ≤ J ∧ p.toInt = (ptP T n (a + j) : Nat) ∧ (ez_I h2 71 16).toInt = ((wps (aM T n) (dI T n) nV nU nY nW s a j).2 : Nat)) → (mS (ez_I h2 75) (wps (aM T n) (dI T n) nV nU nY nW s a j)) → (aR (ez_I h2 75) 8000 (-128) 127) → (10 * (100000 - k.toInt)) < (N : Int) → pw E (d + 1) 40 6 [some (.ref 71), some (.int fr), some (.int to), some (.int pl), some (.ref 100), some (.ref 103), some (.ref 101), some (.ref 104), some (.int p), some (.int k), l10, l11] [] h2 Q) ∧ (∀ (h2 : ez_H) (p : Int32) (k : Int32) (l10 : Option Value) (l11 : Option Value) (j : Nat), zW (fun q k => q = 71 ∧ k = 16) (fun q => q = 75) (fun _ => False) h h2 → (k.toInt = ((a + j : Nat) : Int) ∧ j < J ∧ p.toInt = (ptP T n (a + j) : Nat) ∧ 1 ≤ dI T n (a + j) ∧ (ez_I h2 71 16).toInt = ((wps (aM T n) (dI T n) nV nU nY nW s a j).2 : Nat)) → (mS (ez_I h2 75) (wps (aM T n) (dI T n) nV nU nY nW s a j)) → (aR (ez_I h2 75) 8000 (-128) 127) → (10 * (100000 - k.toInt) - 1) < (N : Int) → pw E (d + 1) 40 52 [some (.ref 71), some (.int fr), some (.int to), some (.int pl), some (.ref 100), some (.ref 103), some (.ref 101), some (.ref 104), some (.int p), some (.int k), l10, l11] [] h2 Q) ∧ (∀ (h2 : ez_H) (p : Int32) (k : Int32) (l : Int32) (l11 : Option Value) (j : Nat), zW (fun q k => q = 71 ∧ k = 16) (fun q => q = 75) (fun _ => False) h h2 → (k.toInt = ((a + j : Nat) : Int) ∧ j < J ∧ p.toInt = (ptP T n (a + j) : Nat) ∧ 1 ≤ dI T n (a + j) ∧ l.toInt = (kL (aM T n (a + j)) : Nat) ∧ (ez_I h2 71 16).toInt = ((wr (wps (aM T n) (dI T n) nV nU nY nW s a j) (nV (257 + kL (aM T n (a + j)))) (nU (257 + kL (aM T n (a + j))))).2 : Nat)) → (mS (ez_I h2 75) (wr (wps (aM T n) (dI T n) nV nU nY nW s a j) (nV (257 + kL (aM T n (a + j)))) (nU (257 + kL (aM T n (a + j)))))) → (aR (ez_I h2 75) 8000 (-128) 127) → (10 * (100000 - k.toInt) - 2) < (N : Int) → pw E (d + 1) 40 87 [some (.ref 71), some (.int fr), some (.int to), some (.int pl), some (.ref 100), some (.ref 103), some (.ref 101), some (.ref 104), some (.int p), some (.int k), some (.int l), l11] [] h2 Q) ∧ (∀ (h2 : ez_H) (p : Int32) (k : Int32) (l : Int32) (l11 : Option Value) (j : Nat), zW (fun q k => q = 71 ∧ k = 16) (fun q => q = 75) (fun _ => False) h h2 → (k.toInt = ((a + j : Nat) : Int) ∧ j < J ∧ p.toInt = (ptP T n (a + j) : Nat) ∧ 1 ≤ dI T n (a + j) ∧ (ez_I h2 71 16).toInt = ((wr (wr (wps (aM T n) (dI T n) nV nU nY nW s a j) (nV (257 + kL (aM T n (a + j)))) (nU (257 + kL (aM T n (a + j))))) ((aM T n (a + j)) - LBf (kL (aM T n (a + j)))) (LEf (kL (aM T n (a + j))))).2 : Nat)) → (mS (ez_I h2 75) (wr (wr (wps (aM T n) (dI T n) nV nU nY nW s a j) (nV (257 + kL (aM T n (a + j)))) (nU (257 + kL (aM T n (a + j))))) ((aM T n (a + j)) - LBf (kL (aM T n (a + j)))) (LEf (kL (aM T n (a + j)))))) → (aR (ez_I h2 75) 8000 (-128) 127) → (10 * (100000 - k.toInt) - 3) < (N : Int) → pw E (d + 1) 40 113 [some (.ref 71), some (.int fr), some (.int to), some (.int pl), some (.ref 100), some (.ref 103), some (.ref 101), some (.ref 104), some (.int p), some (.int k), some (.int l), l11] [] h2 Q) ∧ (∀ (h2 : ez_H) (p : Int32) (k : Int32) (l10 : Option Value) (q : Int32) (j : Nat), zW (fun q k => q = 71 ∧ k = 16) (fun q => q = 75) (fun _ => False) h h2 → (k.toInt = ((a + j : Nat) : Int) ∧ j < J ∧ p.toInt = (ptP T n (a + j) : Nat) ∧ 1 ≤ dI T n (a + j) ∧ q.toInt = (kD (dI T n (a + j)) : Nat) ∧ (ez_I h2 71 16).toInt = ((wr (wr (wr (wps (aM T n) (dI T n) nV nU nY nW s a j) (nV (257 + kL (aM T n (a + j)))) (nU (257 + kL (aM T n (a + j))))) ((aM T n (a + j)) - LBf (kL (aM T n (a + j)))) (LEf (kL (aM T n (a + j))))) (nY (kD (dI T n (a + j)))) (nW (kD (dI T n (a + j))))).2 : Nat)) → (mS (ez_I h2 75) (wr (wr (wr (wps (aM T n) (dI T n) nV nU nY nW s a j) (nV (257 + kL (aM T n (a + j)))) (nU (257 + kL (aM T n (a + j))))) ((aM T n (a + j)) - LBf (kL (aM T n (a + j)))) (LEf (kL (aM T n (a + j))))) (nY (kD (dI T n (a + j)))) (nW (kD (dI T n (a + j)))))) → (aR (ez_I h2 75) 8000 (-128) 127) → (10 * (100000 - k.toInt) - 4) < (N : Int) → pw E (d + 1) 40 140 [some (.ref 71), some (.int fr), some (.int to), some (.int pl), some (.ref 100), some (.ref 103), some (.ref 101), some (.ref 104), some (.int p), some (.int k), l10, some (.int q)] [] h2 Q) ∧ (∀ (h2 : ez_H) (p : Int32) (k : Int32) (l10 : Option Value) (l11 : Option Value) (j : Nat), zW (fun q k => q = 71 ∧ k = 16) (fun q => q = 75) (fun _ => False) h h2 → (k.toInt = ((a + j : Nat) : Int) ∧ j < J ∧ p.toInt = (ptP T n (a + j) : Nat) ∧ (ez_I h2 71 16).toInt = ((wps (aM T n) (dI T n) nV nU nY nW s a (j + 1)).2 : Nat)) → (mS (ez_I h2 75) (wps (aM T n) (dI T n) nV nU nY nW s a (j + 1))) → (aR (ez_I h2 75) 8000 (-128) 127) → (10 * (100000 - k.toInt) - 5) < (N : Int) → pw E (d + 1) 40 166 [some (.ref 71), some (.int fr), some (.int to), some (.int pl), some (.ref 100), some (.ref 103), some (.ref 101), some (.ref 104), some (.int p), some (.int k), l10, l11] [] h2 Q) ∧ (∀ (h2 : ez_H) (l8 : Option Value) (l9 : Option Value) (l10 : Option Value) (l11 : Option Value) , zW (fun q k => q = 71 ∧ k = 16) (fun q => q = 75) (fun _ => False) h h2 → ((ez_I h2 71 16).toInt = ((wps (aM T n) (dI T n) nV nU nY nW s a J).2 : Nat)) → (mS (ez_I h2 75) (wps (aM T n) (dI T n) nV nU nY nW s a J)) → (aR (ez_I h2 75) 8000 (-128) 127) → 5 < (N : Int) → pw E (d + 1) 40 184 [some (.ref 71), some (.int fr), some (.int to), some (.int pl), some (.ref 100), some (.ref 103), some (.ref 101), some (.ref 104), l8, l9, l10, l11] [] h2 Q) := by
  intro N
  induction N with
  | zero => exact ⟨fun h2 p k l10 l11 j F hinv A_st A_hg hm => absurd hm (by have w_p := z_rng p; have w_k := z_rng k; have gfr := z_rng fr; have gto := z_rng to; have gpl := z_rng pl; omega), fun h2 p k l10 l11 j F hinv A_st A_hg hm => absurd hm (by have w_p := z_rng p; have w_k := z_rng k; have gfr := z_rng fr; have gto := z_rng to; have gpl := z_rng pl; omega), fun h2 p k l l11 j F hinv A_st A_hg hm => absurd hm (by have w_p := z_rng p; have w_k := z_rng k; have w_l := z_rng l; have gfr := z_rng fr; have gto := z_rng to; have gpl := z_rng pl; omega), fun h2 p k l l11 j F hinv A_st A_hg hm => absurd hm (by have w_p := z_rng p; have w_k := z_rng k; have w_l := z_rng l; have gfr := z_rng fr; have gto := z_rng to; have gpl := z_rng pl; omega), fun h2 p k l10 q j F hinv A_st A_hg hm => absurd hm (by have w_p := z_rng p; have w_k := z_rng k; have w_q := z_rng q; have gfr := z_rng fr; have gto := z_rng to; have gpl := z_rng pl; omega), fun h2 p k l10 l11 j F hinv A_st A_hg hm => absurd hm (by have w_p := z_rng p; have w_k := z_rng k; have gfr := z_rng fr; have gto := z_rng to; have gpl := z_rng pl; omega), fun h2 l8 l9 l10 l11  F hinv A_st A_hg hm => absurd hm (by have gfr := z_rng fr; have gto := z_rng to; have gpl := z_rng pl; omega)⟩
  | succ N ih =>
    refine ⟨fun h2 p k l10 l11 j F hinv A_st A_hg hm => ?_, fun h2 p k l10 l11 j F hinv A_st A_hg hm => ?_, fun h2 p k l l11 j F hinv A_st A_hg hm => ?_, fun h2 p k l l11 j F hinv A_st A_hg hm => ?_, fun h2 p k l10 q j F hinv A_st A_hg hm => ?_, fun h2 p k l10 l11 j F hinv A_st A_hg hm => ?_, fun h2 l8 l9 l10 l11  F hinv A_st A_hg hm => ?_⟩
    · skip
      have w_p := z_rng p
      have w_k := z_rng k
      have gfr := z_rng fr
      have gto := z_rng to
      have gpl := z_rng pl
      have S2 := zW_sh F S
      obtain ⟨hk, hj, hp, hbb⟩ := hinv
      apply ez_Wp_in
      show ez_gw _ _ _ _ _ _ (cz_40) _ _ _ _ _
      refine gw_skip _ ?_
      have r1 := z_rng (ez_I h2 71 16)
      refine gw_ld rfl rfl ?_
      refine gw_ld rfl rfl ?_
      refine z_b2 (fun c2 => ?_) (fun c2 => ?_)
      · have c2 : to.toInt ≤ k.toInt := c2
        exact gw_skip _ (ez_Wp_at (ih.2.2.2.2.2.2 h2 (some (.int p)) (some (.int k)) (l10) (l11) F (by rw [show J = j by omega]; exact hbb) ((by rw [show J = j by omega]; exact A_st)) (A_hg) (by omega)) rfl)
      · have c2 : ¬ (to.toInt ≤ k.toInt) := c2
        refine gw_ld rfl rfl ?_
        refine z_gR (q := 78) (zT S2 (by decide) rfl) (zRf S2 (by decide) (by decide) rfl) (by decide) ?_
        refine gw_ld rfl rfl ?_
        refine z_iaV (n := 6000) (zT S2 (by decide) rfl) (zN S2 (by decide) rfl) (by omega) (zW_f F (by decide) (x70_16 _)) ?_
        generalize ex3 : ez_I h 78 k.toInt.toNat = x3
        have rx3 := z_rng x3
        have yx3 := (hpm (a + j) (by omega)).2.1
        rw [show a + j = k.toInt.toNat by omega, ex3] at yx3
        rw [show k.toInt.toNat = a + j by omega] at yx3
        refine z_b1 (fun c4 => ?_) (fun c4 => ?_)
        · have c4 : x3.toInt ≠ 0 := c4
          exact gw_skip _ (ez_Wp_at (ih.2.1 h2 p k (l10) (l11) j F (⟨hk, by omega, hp, by omega, hbb⟩) (A_st) (A_hg) (by omega)) rfl)
        · have c4 : ¬ (x3.toInt ≠ 0) := c4
          have hd0 : dI T n (a + j) = 0 := by omega
          have hp0 := wp_0 hT hlt (show a + j < c by omega) hd0
          have hsw := hU (aM T n (a + j)) (by omega) (by have h9 := (hu_ (a + j) (by omega)).1; rw [lSy_0 hd0] at h9; exact h9)
          have hbd := wp_bd hr (show j < J by omega)
          rw [wpt_0 hd0] at hbd
          refine gw_ld rfl rfl ?_
          refine z_gR (q := 72) (zT S2 (by decide) rfl) (zRf S2 (by decide) (by decide) rfl) (by decide) ?_
          refine gw_ld rfl rfl ?_
          refine z_baV (n := 6000) (zT S2 (by decide) rfl) (zN S2 (by decide) rfl) (by omega) (zW_f F (by decide) (x70_17 _)) ?_
          generalize ex5 : ez_I h 72 p.toInt.toNat = x5
          have rx5 := z_rng x5
          have yx5 := hB (ptP T n (a + j)) hp0.2.2.2
          rw [show ptP T n (a + j) = p.toInt.toNat by omega, ex5] at yx5
          rw [show p.toInt.toNat = ptP T n (a + j) by omega] at yx5
          refine z_C (m := 255) rfl rfl (fun x6 ex6 => ?_)
          refine z_and (fun x7 ex7 ux7 wx7 => ?_)
          have rx7 := z_rng x7
          replace ux7 := ux7 (by omega)
          clear wx7
          have vx7 := n_mask (k := 8) (by decide) (by omega) ex7
          rw [show (2 : Int) ^ 8 = 256 from rfl] at vx7
          refine gw_st rfl rfl rfl ?_
          show ez_gw _ _ _ _ _ _ _ _ [some (.ref 71), some (.int fr), some (.int to), some (.int pl), some (.ref 100), some (.ref 103), some (.ref 101), some (.ref 104), some (.int p), some (.int k), some (.int x7), l11] _ _ _
          refine gw_ld rfl rfl ?_
          refine gw_ld rfl rfl ?_
          refine gw_ld rfl rfl ?_
          refine z_iaV (n := 288) (zT S2 (by decide) rfl) (zN S2 (by decide) rfl) (by omega) (zW_f F (by decide) (x70_18 _)) ?_
          generalize ex8 : ez_I h 103 x7.toInt.toNat = x8
          have rx8 := z_rng x8
          skip
          refine gw_ld rfl rfl ?_
          refine gw_ld rfl rfl ?_
          refine z_iaV (n := 288) (zT S2 (by decide) rfl) (zN S2 (by decide) rfl) (by omega) (zW_f F (by decide) (x70_19 _)) ?_
          generalize ex9 : ez_I h 100 x7.toInt.toNat = x9
          have rx9 := z_rng x9
          skip
          refine z_cl rfl rfl rfl rfl rfl rfl rfl rfl rfl rfl rfl (zT S2 (by decide) rfl) ?_
          refine d_wbV (s := (wps (aM T n) (dI T n) nV nU nY nW s a j)) (V := nV (aM T n (a + j))) (N := nU (aM T n (a + j))) (v := x8) (n := x9) S2 A_st (hbb) A_hg (by rw [← ex8, show x7.toInt.toNat = (aM T n (a + j)) by omega]; exact hsw.2.1) (by rw [← ex9, show x7.toInt.toNat = (aM T n (a + j)) by omega]; exact hsw.1) (hsw.2.2.1) (Nat.le_trans hsw.2.2.2 (by decide)) (Nat.le_trans (Nat.le_refl _) hbd) (fun h10 F11 k12 k13 k14 => ?_)
          have S15 := zW_sh F11 S2
          have F16 := zW_tr F (zW_mono F11 (x70_20) (x70_21) (x70_22))
          have r17 := z_rng (ez_I h10 71 16)
          refine z_go ?_
          exact gw_skip _ (ez_Wp_at (ih.2.2.2.2.2.1 h10 p k (some (.int x7)) (l11) j F16 (⟨hk, by omega, hp, by show _ = (((wpt (aM T n) (dI T n) nV nU nY nW (wps (aM T n) (dI T n) nV nU nY nW s a j) (a + j)).2 : Nat) : Int); rw [wpt_0 hd0]; exact k13⟩) ((by show mS _ (wpt (aM T n) (dI T n) nV nU nY nW (wps (aM T n) (dI T n) nV nU nY nW s a j) (a + j)); rw [wpt_0 hd0]; exact k12)) (k14) (by omega)) rfl)
    · skip
      have w_p := z_rng p
      have w_k := z_rng k
      have gfr := z_rng fr
      have gto := z_rng to
      have gpl := z_rng pl
      have S2 := zW_sh F S
      obtain ⟨hk, hj, hp, hd1, hbb⟩ := hinv
      have hp1 := wp_1 hT hlt (show a + j < c by omega) hd1
      have hbd := wp_bd hr (show j < J by omega)
      rw [wpt_1 hd1] at hbd
      have hb4 := wb4 hbd
      clear hbd
      have hkl := kL_ok (v := (aM T n (a + j))) (by omega)
      have hkl1 := hkl.1
      have hkl2 := hkl.2.1
      have hsw := hU (257 + kL (aM T n (a + j))) (by omega) (by have h9 := (hu_ (a + j) (by omega)).1; rw [lSy_1 hd1] at h9; exact h9)
      apply ez_Wp_in
      show ez_gw _ _ _ _ _ _ (cz_40) _ _ _ _ _
      refine gw_skip _ ?_
      have r18 := z_rng (ez_I h2 71 16)
      refine gw_ld rfl rfl ?_
      refine gw_ld rfl rfl ?_
      refine z_gR (q := 77) (zT S2 (by decide) rfl) (zRf S2 (by decide) (by decide) rfl) (by decide) ?_
      refine gw_ld rfl rfl ?_
      refine z_iaV (n := 6000) (zT S2 (by decide) rfl) (zN S2 (by decide) rfl) (by omega) (zW_f F (by decide) (x70_23 _)) ?_
      generalize ex19 : ez_I h 77 k.toInt.toNat = x19
      have rx19 := z_rng x19
      have yx19 := (hpm (a + j) (by omega)).1
      rw [show a + j = k.toInt.toNat by omega, ex19] at yx19
      rw [show k.toInt.toNat = a + j by omega] at yx19
      refine z_cl rfl rfl rfl rfl rfl rfl rfl rfl rfl rfl rfl (zT S2 (by decide) rfl) ?_
      have ham : x19.toInt.toNat = (aM T n (a + j)) := by omega
      refine d_kL (n := x19) S2 (by rw [(show ez_I h2 92 = ez_I h 92 from zW_fn F 92 x70_24 x70_25)]; exact t92) (by omega) (fun x20 k21 => ?_)
      rw [ham] at k21
      have rx20 := z_rng x20
      refine gw_st rfl rfl rfl ?_
      show ez_gw _ _ _ _ _ _ _ _ [some (.ref 71), some (.int fr), some (.int to), some (.int pl), some (.ref 100), some (.ref 103), some (.ref 101), some (.ref 104), some (.int p), some (.int k), some (.int x20), l11] _ _ _
      refine gw_ld rfl rfl ?_
      refine gw_ld rfl rfl ?_
      refine z_C (m := 257) rfl rfl (fun x22 ex22 => ?_)
      refine gw_ld rfl rfl ?_
      refine z_add (by omega) (fun x23 ex23 => ?_)
      refine z_iaV (n := 288) (zT S2 (by decide) rfl) (zN S2 (by decide) rfl) (by omega) (zW_f F (by decide) (x70_18 _)) ?_
      generalize ex24 : ez_I h 103 x23.toInt.toNat = x24
      have rx24 := z_rng x24
      skip
      refine gw_ld rfl rfl ?_
      refine z_C (m := 257) rfl rfl (fun x25 ex25 => ?_)
      refine gw_ld rfl rfl ?_
      refine z_add (by omega) (fun x26 ex26 => ?_)
      refine z_iaV (n := 288) (zT S2 (by decide) rfl) (zN S2 (by decide) rfl) (by omega) (zW_f F (by decide) (x70_19 _)) ?_
      generalize ex27 : ez_I h 100 x26.toInt.toNat = x27
      have rx27 := z_rng x27
      skip
      refine z_cl rfl rfl rfl rfl rfl rfl rfl rfl rfl rfl rfl (zT S2 (by decide) rfl) ?_
      refine d_wbV (s := (wps (aM T n) (dI T n) nV nU nY nW s a j)) (V := nV (257 + kL (aM T n (a + j)))) (N := nU (257 + kL (aM T n (a + j)))) (v := x24) (n := x27) S2 A_st (hbb) A_hg (by rw [← ex24, show x23.toInt.toNat = 257 + kL (aM T n (a + j)) by omega]; exact hsw.2.1) (by rw [← ex27, show x26.toInt.toNat = 257 + kL (aM T n (a + j)) by omega]; exact hsw.1) (hsw.2.2.1) (Nat.le_trans hsw.2.2.2 (by decide)) (hb4.1) (fun h28 F29 k30 k31 k32 => ?_)
      have S33 := zW_sh F29 S2
      have F34 := zW_tr F (zW_mono F29 (x70_20) (x70_21) (x70_22))
      have r35 := z_rng (ez_I h28 71 16)
      exact ez_Wp_at (ih.2.2.1 h28 p k x20 (l11) j F34 (⟨hk, by omega, hp, by omega, by omega, k31⟩) (k30) (k32) (by omega)) rfl
    · skip
      have w_p := z_rng p
      have w_k := z_rng k
      have w_l := z_rng l
      have gfr := z_rng fr
      have gto := z_rng to
      have gpl := z_rng pl
      have S2 := zW_sh F S
      obtain ⟨hk, hj, hp, hd1, hl, hbb⟩ := hinv
      have hp1 := wp_1 hT hlt (show a + j < c by omega) hd1
      have hbd := wp_bd hr (show j < J by omega)
      rw [wpt_1 hd1] at hbd
      have hb4 := wb4 hbd
      clear hbd
      have hkl := kL_ok (v := (aM T n (a + j))) (by omega)
      have hkl1 := hkl.1
      have hkl2 := hkl.2.1
      have hle := LE_5 (kL (aM T n (a + j)))
      apply ez_Wp_in
      show ez_gw _ _ _ _ _ _ (cz_40) _ _ _ _ _
      refine gw_skip _ ?_
      have r36 := z_rng (ez_I h2 71 16)
      refine gw_ld rfl rfl ?_
      refine gw_ld rfl rfl ?_
      refine z_gR (q := 77) (zT S2 (by decide) rfl) (zRf S2 (by decide) (by decide) rfl) (by decide) ?_
      refine gw_ld rfl rfl ?_
      refine z_iaV (n := 6000) (zT S2 (by decide) rfl) (zN S2 (by decide) rfl) (by omega) (zW_f F (by decide) (x70_23 _)) ?_
      generalize ex37 : ez_I h 77 k.toInt.toNat = x37
      have rx37 := z_rng x37
      have yx37 := (hpm (a + j) (by omega)).1
      rw [show a + j = k.toInt.toNat by omega, ex37] at yx37
      rw [show k.toInt.toNat = a + j by omega] at yx37
      refine gw_ld rfl rfl ?_
      refine z_gR (q := 92) (zT S2 (by decide) rfl) (zRf S2 (by decide) (by decide) rfl) (by decide) ?_
      refine gw_ld rfl rfl ?_
      refine z_iaV (n := 29) (zT S2 (by decide) rfl) (zN S2 (by decide) rfl) (by omega) (zW_f F (by decide) (x70_25 _)) ?_
      generalize ex38 : ez_I h 92 l.toInt.toNat = x38
      have rx38 := z_rng x38
      have yx38 := t92 (kL (aM T n (a + j))) (by omega)
      rw [show (kL (aM T n (a + j))) = l.toInt.toNat by omega, ex38] at yx38
      rw [show l.toInt.toNat = (kL (aM T n (a + j))) by omega] at yx38
      refine z_sub (by omega) (fun x39 ex39 => ?_)
      refine gw_ld rfl rfl ?_
      refine z_gR (q := 93) (zT S2 (by decide) rfl) (zRf S2 (by decide) (by decide) rfl) (by decide) ?_
      refine gw_ld rfl rfl ?_
      refine z_iaV (n := 29) (zT S2 (by decide) rfl) (zN S2 (by decide) rfl) (by omega) (zW_f F (by decide) (x70_26 _)) ?_
      generalize ex40 : ez_I h 93 l.toInt.toNat = x40
      have rx40 := z_rng x40
      have yx40 := t93 (kL (aM T n (a + j))) (by omega)
      rw [show (kL (aM T n (a + j))) = l.toInt.toNat by omega, ex40] at yx40
      rw [show l.toInt.toNat = (kL (aM T n (a + j))) by omega] at yx40
      refine z_cl rfl rfl rfl rfl rfl rfl rfl rfl rfl rfl rfl (zT S2 (by decide) rfl) ?_
      refine d_wbV (s := (wr (wps (aM T n) (dI T n) nV nU nY nW s a j) (nV (257 + kL (aM T n (a + j)))) (nU (257 + kL (aM T n (a + j)))))) (V := (aM T n (a + j)) - LBf (kL (aM T n (a + j)))) (N := LEf (kL (aM T n (a + j)))) (v := x39) (n := x40) S2 A_st (hbb) A_hg (by omega) (by omega) (hkl.2.2) (by omega) (hb4.2.1) (fun h41 F42 k43 k44 k45 => ?_)
      have S46 := zW_sh F42 S2
      have F47 := zW_tr F (zW_mono F42 (x70_20) (x70_21) (x70_22))
      have r48 := z_rng (ez_I h41 71 16)
      exact ez_Wp_at (ih.2.2.2.1 h41 p k l (l11) j F47 (⟨hk, by omega, hp, by omega, k44⟩) (k43) (k45) (by omega)) rfl
    · skip
      have w_p := z_rng p
      have w_k := z_rng k
      have w_l := z_rng l
      have gfr := z_rng fr
      have gto := z_rng to
      have gpl := z_rng pl
      have S2 := zW_sh F S
      obtain ⟨hk, hj, hp, hd1, hbb⟩ := hinv
      have hp1 := wp_1 hT hlt (show a + j < c by omega) hd1
      have hbd := wp_bd hr (show j < J by omega)
      rw [wpt_1 hd1] at hbd
      have hb4 := wb4 hbd
      clear hbd
      have hkd := kD_ok (v := (dI T n (a + j))) (by omega)
      have hkd1 := hkd.1
      have hkd2 := hkd.2.1
      have hsw := hW (kD (dI T n (a + j))) (by omega) ((hu_ (a + j) (by omega)).2 (by omega))
      apply ez_Wp_in
      show ez_gw _ _ _ _ _ _ (cz_40) _ _ _ _ _
      refine gw_skip _ ?_
      have r49 := z_rng (ez_I h2 71 16)
      refine gw_ld rfl rfl ?_
      refine gw_ld rfl rfl ?_
      refine z_gR (q := 78) (zT S2 (by decide) rfl) (zRf S2 (by decide) (by decide) rfl) (by decide) ?_
      refine gw_ld rfl rfl ?_
      refine z_iaV (n := 6000) (zT S2 (by decide) rfl) (zN S2 (by decide) rfl) (by omega) (zW_f F (by decide) (x70_16 _)) ?_
      generalize ex50 : ez_I h 78 k.toInt.toNat = x50
      have rx50 := z_rng x50
      have yx50 := (hpm (a + j) (by omega)).2.1
      rw [show a + j = k.toInt.toNat by omega, ex50] at yx50
      rw [show k.toInt.toNat = a + j by omega] at yx50
      refine z_cl rfl rfl rfl rfl rfl rfl rfl rfl rfl rfl rfl (zT S2 (by decide) rfl) ?_
      have hdi : x50.toInt.toNat = (dI T n (a + j)) := by omega
      refine d_kD (n := x50) S2 (by rw [(show ez_I h2 94 = ez_I h 94 from zW_fn F 94 x70_27 x70_28)]; exact t94) (by omega) (fun x51 k52 => ?_)
      rw [hdi] at k52
      have rx51 := z_rng x51
      refine gw_st rfl rfl rfl ?_
      show ez_gw _ _ _ _ _ _ _ _ [some (.ref 71), some (.int fr), some (.int to), some (.int pl), some (.ref 100), some (.ref 103), some (.ref 101), some (.ref 104), some (.int p), some (.int k), some (.int l), some (.int x51)] _ _ _
      refine gw_ld rfl rfl ?_
      refine gw_ld rfl rfl ?_
      refine gw_ld rfl rfl ?_
      refine z_iaV (n := 30) (zT S2 (by decide) rfl) (zN S2 (by decide) rfl) (by omega) (zW_f F (by decide) (x70_29 _)) ?_
      generalize ex53 : ez_I h 104 x51.toInt.toNat = x53
      have rx53 := z_rng x53
      skip
      refine gw_ld rfl rfl ?_
      refine gw_ld rfl rfl ?_
      refine z_iaV (n := 30) (zT S2 (by decide) rfl) (zN S2 (by decide) rfl) (by omega) (zW_f F (by decide) (x70_30 _)) ?_
      generalize ex54 : ez_I h 101 x51.toInt.toNat = x54
      have rx54 := z_rng x54
      skip
      refine z_cl rfl rfl rfl rfl rfl rfl rfl rfl rfl rfl rfl (zT S2 (by decide) rfl) ?_
      refine d_wbV (s := (wr (wr (wps (aM T n) (dI T n) nV nU nY nW s a j) (nV (257 + kL (aM T n (a + j)))) (nU (257 + kL (aM T n (a + j))))) ((aM T n (a + j)) - LBf (kL (aM T n (a + j)))) (LEf (kL (aM T n (a + j)))))) (V := nY (kD (dI T n (a + j)))) (N := nW (kD (dI T n (a + j)))) (v := x53) (n := x54) S2 A_st (hbb) A_hg (by rw [← ex53, show x51.toInt.toNat = kD (dI T n (a + j)) by omega]; exact hsw.2.1) (by rw [← ex54, show x51.toInt.toNat = kD (dI T n (a + j)) by omega]; exact hsw.1) (hsw.2.2.1) (Nat.le_trans hsw.2.2.2 (by decide)) (hb4.2.2.1) (fun h55 F56 k57 k58 k59 => ?_)
      have S60 := zW_sh F56 S2
      have F61 := zW_tr F (zW_mono F56 (x70_20) (x70_21) (x70_22))
      have r62 := z_rng (ez_I h55 71 16)
      exact ez_Wp_at (ih.2.2.2.2.1 h55 p k (some (.int l)) x51 j F61 (⟨hk, by omega, hp, by omega, by omega, k58⟩) (k57) (k59) (by omega)) rfl
    · skip
      have w_p := z_rng p
      have w_k := z_rng k
      have w_q := z_rng q
      have gfr := z_rng fr
      have gto := z_rng to
      have gpl := z_rng pl
      have S2 := zW_sh F S
      obtain ⟨hk, hj, hp, hd1, hq, hbb⟩ := hinv
      have hp1 := wp_1 hT hlt (show a + j < c by omega) hd1
      have hbd := wp_bd hr (show j < J by omega)
      rw [wpt_1 hd1] at hbd
      have hb4 := wb4 hbd
      clear hbd
      have hkd := kD_ok (v := (dI T n (a + j))) (by omega)
      have hkd1 := hkd.1
      have hkd2 := hkd.2.1
      have hde := DE_13 (kD (dI T n (a + j)))
      apply ez_Wp_in
      show ez_gw _ _ _ _ _ _ (cz_40) _ _ _ _ _
      refine gw_skip _ ?_
      have r63 := z_rng (ez_I h2 71 16)
      refine gw_ld rfl rfl ?_
      refine gw_ld rfl rfl ?_
      refine z_gR (q := 78) (zT S2 (by decide) rfl) (zRf S2 (by decide) (by decide) rfl) (by decide) ?_
      refine gw_ld rfl rfl ?_
      refine z_iaV (n := 6000) (zT S2 (by decide) rfl) (zN S2 (by decide) rfl) (by omega) (zW_f F (by decide) (x70_16 _)) ?_
      generalize ex64 : ez_I h 78 k.toInt.toNat = x64
      have rx64 := z_rng x64
      have yx64 := (hpm (a + j) (by omega)).2.1
      rw [show a + j = k.toInt.toNat by omega, ex64] at yx64
      rw [show k.toInt.toNat = a + j by omega] at yx64
      refine gw_ld rfl rfl ?_
      refine z_gR (q := 94) (zT S2 (by decide) rfl) (zRf S2 (by decide) (by decide) rfl) (by decide) ?_
      refine gw_ld rfl rfl ?_
      refine z_iaV (n := 30) (zT S2 (by decide) rfl) (zN S2 (by decide) rfl) (by omega) (zW_f F (by decide) (x70_28 _)) ?_
      generalize ex65 : ez_I h 94 q.toInt.toNat = x65
      have rx65 := z_rng x65
      have yx65 := t94 (kD (dI T n (a + j))) (by omega)
      rw [show (kD (dI T n (a + j))) = q.toInt.toNat by omega, ex65] at yx65
      rw [show q.toInt.toNat = (kD (dI T n (a + j))) by omega] at yx65
      refine z_sub (by omega) (fun x66 ex66 => ?_)
      refine gw_ld rfl rfl ?_
      refine z_gR (q := 95) (zT S2 (by decide) rfl) (zRf S2 (by decide) (by decide) rfl) (by decide) ?_
      refine gw_ld rfl rfl ?_
      refine z_iaV (n := 30) (zT S2 (by decide) rfl) (zN S2 (by decide) rfl) (by omega) (zW_f F (by decide) (x70_31 _)) ?_
      generalize ex67 : ez_I h 95 q.toInt.toNat = x67
      have rx67 := z_rng x67
      have yx67 := t95 (kD (dI T n (a + j))) (by omega)
      rw [show (kD (dI T n (a + j))) = q.toInt.toNat by omega, ex67] at yx67
      rw [show q.toInt.toNat = (kD (dI T n (a + j))) by omega] at yx67
      refine z_cl rfl rfl rfl rfl rfl rfl rfl rfl rfl rfl rfl (zT S2 (by decide) rfl) ?_
      refine d_wbV (s := (wr (wr (wr (wps (aM T n) (dI T n) nV nU nY nW s a j) (nV (257 + kL (aM T n (a + j)))) (nU (257 + kL (aM T n (a + j))))) ((aM T n (a + j)) - LBf (kL (aM T n (a + j)))) (LEf (kL (aM T n (a + j))))) (nY (kD (dI T n (a + j)))) (nW (kD (dI T n (a + j)))))) (V := (dI T n (a + j)) - DBf (kD (dI T n (a + j)))) (N := DEf (kD (dI T n (a + j)))) (v := x66) (n := x67) S2 A_st (hbb) A_hg (by omega) (by omega) (hkd.2.2) (by omega) (hb4.2.2.2) (fun h68 F69 k70 k71 k72 => ?_)
      have S73 := zW_sh F69 S2
      have F74 := zW_tr F (zW_mono F69 (x70_20) (x70_21) (x70_22))
      have r75 := z_rng (ez_I h68 71 16)
      exact ez_Wp_at (ih.2.2.2.2.2.1 h68 p k (l10) (some (.int q)) j F74 (⟨hk, by omega, hp, by show _ = (((wpt (aM T n) (dI T n) nV nU nY nW (wps (aM T n) (dI T n) nV nU nY nW s a j) (a + j)).2 : Nat) : Int); rw [wpt_1 hd1]; exact k71⟩) ((by show mS _ (wpt (aM T n) (dI T n) nV nU nY nW (wps (aM T n) (dI T n) nV nU nY nW s a j) (a + j)); rw [wpt_1 hd1]; exact k70)) (k72) (by omega)) rfl
    · skip
      have w_p := z_rng p
      have w_k := z_rng k
      have gfr := z_rng fr
      have gto := z_rng to
      have gpl := z_rng pl
      have S2 := zW_sh F S
      obtain ⟨hk, hj, hp, hbb⟩ := hinv
      have hpn := ptP_n T n (a + j)
      have hpc := ptP_k (T := T) (n := n) (a + j + 1) (fun q hq => hlt q (by omega))
      apply ez_Wp_in
      show ez_gw _ _ _ _ _ _ (cz_40) _ _ _ _ _
      refine gw_skip _ ?_
      have r76 := z_rng (ez_I h2 71 16)
      refine gw_ld rfl rfl ?_
      refine gw_ld rfl rfl ?_
      refine z_gR (q := 77) (zT S2 (by decide) rfl) (zRf S2 (by decide) (by decide) rfl) (by decide) ?_
      refine gw_ld rfl rfl ?_
      refine z_iaV (n := 6000) (zT S2 (by decide) rfl) (zN S2 (by decide) rfl) (by omega) (zW_f F (by decide) (x70_23 _)) ?_
      generalize ex77 : ez_I h 77 k.toInt.toNat = x77
      have rx77 := z_rng x77
      have yx77 := (hpm (a + j) (by omega)).1
      rw [show a + j = k.toInt.toNat by omega, ex77] at yx77
      rw [show k.toInt.toNat = a + j by omega] at yx77
      refine z_add (by omega) (fun x78 ex78 => ?_)
      refine gw_st rfl rfl rfl ?_
      show ez_gw _ _ _ _ _ _ _ _ [some (.ref 71), some (.int fr), some (.int to), some (.int pl), some (.ref 100), some (.ref 103), some (.ref 101), some (.ref 104), some (.int x78), some (.int k), l10, l11] _ _ _
      have hpp : x78.toInt = ((ptP T n (a + (j + 1)) : Nat) : Int) := by show _ = ((ptP T n (a + j + 1) : Nat) : Int); rw [hpn]; omega
      refine z_inc rfl (by rw [show (1 : Int32).toInt = 1 from rfl]; omega) (fun x79 ex79 => ?_)
      rw [show (1 : Int32).toInt = 1 from rfl] at ex79
      show ez_gw _ _ _ _ _ _ _ _ [some (.ref 71), some (.int fr), some (.int to), some (.int pl), some (.ref 100), some (.ref 103), some (.ref 101), some (.ref 104), some (.int x78), some (.int x79), l10, l11] _ _ _
      refine z_go ?_
      exact ih.1 h2 x78 x79 (l10) (l11) (j + 1) F (⟨by omega, by omega, hpp, hbb⟩) (A_st) (A_hg) (by omega)
    · skip
      have gfr := z_rng fr
      have gto := z_rng to
      have gpl := z_rng pl
      have S2 := zW_sh F S
      have hbb := hinv
      have hs6 := hU 256 (by decide) hu6
      apply ez_Wp_in
      show ez_gw _ _ _ _ _ _ (cz_40) _ _ _ _ _
      refine gw_skip _ ?_
      have r80 := z_rng (ez_I h2 71 16)
      refine gw_ld rfl rfl ?_
      refine gw_ld rfl rfl ?_
      refine z_C (m := 256) rfl rfl (fun x81 ex81 => ?_)
      refine z_iaV (n := 288) (zT S2 (by decide) rfl) (zN S2 (by decide) rfl) (by omega) (zW_f F (by decide) (x70_18 _)) ?_
      generalize ex82 : ez_I h 103 x81.toInt.toNat = x82
      have rx82 := z_rng x82
      skip
      refine gw_ld rfl rfl ?_
      refine z_C (m := 256) rfl rfl (fun x83 ex83 => ?_)
      refine z_iaV (n := 288) (zT S2 (by decide) rfl) (zN S2 (by decide) rfl) (by omega) (zW_f F (by decide) (x70_19 _)) ?_
      generalize ex84 : ez_I h 100 x83.toInt.toNat = x84
      have rx84 := z_rng x84
      skip
      refine z_cl rfl rfl rfl rfl rfl rfl rfl rfl rfl rfl rfl (zT S2 (by decide) rfl) ?_
      refine d_wbV (s := (wps (aM T n) (dI T n) nV nU nY nW s a J)) (V := nV 256) (N := nU 256) (v := x82) (n := x84) S2 A_st (hbb) A_hg (by rw [← ex82, show x81.toInt.toNat = 256 by omega]; exact hs6.2.1) (by rw [← ex84, show x83.toInt.toNat = 256 by omega]; exact hs6.1) (hs6.2.2.1) (Nat.le_trans hs6.2.2.2 (by decide)) (hr) (fun h85 F86 k87 k88 k89 => ?_)
      have S90 := zW_sh F86 S2
      have F91 := zW_tr F (zW_mono F86 (x70_20) (x70_21) (x70_22))
      have r92 := z_rng (ez_I h85 71 16)
      refine z_rv ?_
      exact K _ F91 (mS_m k87 k88) k89
set_option maxRecDepth 4000 in
set_option maxHeartbeats 2000000 in
theorem d_wPartsB {E : Nat → Nat × (Nat → Int32)} {d : Nat} {Q : ez_Q} {h : ez_H} {fr : Int32} {to : Int32} {pl : Int32} (S : zSh h) {T : Nat → Int} {n : Nat} {nU nV nW nY : Nat → Nat} {s : Nat × Nat} {c a J : Nat} (hn : n ≤ 6000) (hT : ∀ i, i < n → 0 ≤ T i ∧ T i ≤ 255) (hB : ∀ i, i < n → (ez_I h 72 i).toInt % 256 = T i) (hs : mst (ez_I h 75) (ez_I h 71 16).toInt s) (hg : aR (ez_I h 75) 8000 (-128) 127) (hpm : pmI (ez_I h 77) (ez_I h 78) (ez_I h 79) (ez_I h 80) T n c) (hlt : ltP T n c) (hc : c ≤ 6000) (hf : fr.toInt = ((a : Nat) : Int) ∧ to.toInt = ((a + J : Nat) : Int) ∧ a + J ≤ c) (hpl : pl.toInt = (ptP T n a : Nat)) (hU : ∀ x, x < 286 → 1 ≤ nU x → swP (ez_I h 100) (ez_I h 103) nU nV x) (hW : ∀ x, x < 30 → 1 ≤ nW x → swP (ez_I h 101) (ez_I h 104) nW nY x) (hu_ : ∀ k, (a ≤ k ∧ k < a + J) → 1 ≤ nU (lSy (aM T n) (dI T n) k) ∧ (dI T n k ≠ 0 → 1 ≤ nW (kD (dI T n k)))) (hu6 : 1 ≤ nU 256) (hr : (wps (aM T n) (dI T n) nV nU nY nW s a J).2 + nU 256 ≤ 64000) (t92 : ctI (ez_I h 92) LBf 29) (t93 : ctI (ez_I h 93) LEf 29) (t94 : ctI (ez_I h 94) DBf 30) (t95 : ctI (ez_I h 95) DEf 30) (K : ∀ h2, zW (fun q k => q = 71 ∧ k = 16) (fun q => q = 75) (fun _ => False) h h2 → mst (ez_I h2 75) (ez_I h2 71 16).toInt (wr (wps (aM T n) (dI T n) nV nU nY nW s a J) (nV 256) (nU 256)) → aR (ez_I h2 75) 8000 (-128) 127 → Q (.inl none) h2) : pw E (d + 1) 40 0 [some (.ref 71), some (.int fr), some (.int to), some (.int pl), some (.ref 100), some (.ref 103), some (.ref 101), some (.ref 104), none, none, none, none] [] h Q := by
  have gfr := z_rng fr
  have gto := z_rng to
  have gpl := z_rng pl
  have F := zW_refl (fun q k => q = 71 ∧ k = 16) (fun q => q = 75) (fun _ => False) h
  apply ez_Wp_in
  show ez_gw _ _ _ _ _ _ (cz_40) _ _ _ _ _
  refine gw_skip _ ?_
  have r1 := z_rng (ez_I h 71 16)
  refine gw_ld rfl rfl ?_
  refine gw_st rfl rfl rfl ?_
  show ez_gw _ _ _ _ _ _ _ _ [some (.ref 71), some (.int fr), some (.int to), some (.int pl), some (.ref 100), some (.ref 103), some (.ref 101), some (.ref 104), some (.int pl), none, none, none] _ _ _
  refine gw_ld rfl rfl ?_
  refine gw_st rfl rfl rfl ?_
  show ez_gw _ _ _ _ _ _ _ _ [some (.ref 71), some (.int fr), some (.int to), some (.int pl), some (.ref 100), some (.ref 103), some (.ref 101), some (.ref 104), some (.int pl), some (.int fr), none, none] _ _ _
  exact ez_Wp_at ((d_wPartsB_L0 (fr := fr) (to := to) (pl := pl) S hn hT hB hs hg hpm hlt hc hf hpl hU hW hu_ hu6 hr t92 t93 t94 t95 K (((10 * (100000 - fr.toInt))).toNat + 1)).1 h pl fr (none) (none) 0 F (⟨by omega, by omega, hpl, hs.1⟩) (m_mS hs) (hg) (by omega)) rfl
end
section
/-! the model's block, phase by phase -/
theorem wr_z (x y : Nat) : wr (x, y) 0 1 = (x, y + 1) := by
  unfold wr
  rw [Nat.zero_mul]
  rfl
theorem sw_c {f g : Nat → Int32} {L : Nat → Nat} {N : Nat} (A : wdI f (nL g) N N) (h : ∀ k, k < N → nL g k = L k) (hn : ∀ k, k < N → 1 ≤ L k → nL f k = cdN L 288 k) (hL : aR g N 0 15) (x : Nat) (hx : x < N) (h1 : 1 ≤ L x) : swP g f L (cdN L 288) x := by
  have a1 := h x hx
  have a2 := hL x hx
  have a3 := hn x hx h1
  have a4 := A x hx (by rw [a1]; exact h1)
  have a5 : nL g x = (g x).toInt.toNat := rfl
  have a6 : nL f x = (f x).toInt.toNat := rfl
  exact ⟨by omega, by omega, cdN_lt _ _ _, by omega⟩
def mbC (f72 f77 f78 f79 f80 f92 f93 f94 f95 f96 : Nat → Int32) (T : Nat → Int) (n c : Nat) : Prop := n ≤ 6000 ∧ c ≤ 6000 ∧ (∀ i, i < n → 0 ≤ T i ∧ T i ≤ 255) ∧ (∀ i, i < n → (f72 i).toInt % 256 = T i) ∧ pmI f77 f78 f79 f80 T n c ∧ ltP T n c ∧ ptP T n c = n ∧ ctI f92 LBf 29 ∧ ctI f93 LEf 29 ∧ ctI f94 DBf 30 ∧ ctI f95 DEf 30 ∧ ctI f96 ORf 19
def mbF (f100 f101 f102 f117 f118 : Nat → Int32) (T : Nat → Int) (n a j : Nat) : Prop := lbP f100 (bkL T n a j) (bkC T n a j) 286 15 ∧ lbP f101 (bkE T n a j) (bkD T n a j) 30 15 ∧ lbP f102 (bkA T n a j) (tC (rowF (bkL T n a j) (bkE T n a j)) (rowM (bkL T n a j) (bkE T n a j)) (bkR T n a j)) 19 7 ∧ teI f117 f118 (rowF (bkL T n a j) (bkE T n a j)) (rowM (bkL T n a j) (bkE T n a j)) (bkR T n a j) ∧ ltrP (rowF (bkL T n a j) (bkE T n a j)) (rowM (bkL T n a j) (bkE T n a j)) (bkR T n a j)
def mbX (f106 f108 : Nat → Int32) : Prop := cpN f106 fxL 288 ∧ cpN f108 fxD 30
def mbA (fr to pl my : Int32) (T : Nat → Int) (n c a j : Nat) : Prop := fr.toInt = (a : Nat) ∧ to.toInt = ((a + j : Nat) : Int) ∧ a + j ≤ c ∧ j ≤ 600 ∧ pl.toInt = (ptP T n a : Nat) ∧ my.toInt = (bkY T n a j : Nat) ∧ ptP T n a + bkY T n a j ≤ n
def mbT (x56 x57 x58 : Int32) (T : Nat → Int) (n a j : Nat) : Prop := x56.toInt = (bkR T n a j : Nat) ∧ x57.toInt = (tdM (bkL T n a j) 257 29 : Nat) ∧ x58.toInt = (tdM (bkE T n a j) 1 29 : Nat)
def mbk (f83 f84 f85 f86 f87 f88 f89 f90 f91 o83 o84 o85 o86 o87 o88 o89 o90 o91 : Nat → Int32) (T : Nat → Int) (n a j z bn : Nat) : Prop := onE f83 o83 bn ((bkW T n a j z : Nat) : Int) ∧ onE f84 o84 bn ((j : Nat) : Int) ∧ onE f85 o85 bn ((bkY T n a j : Nat) : Int) ∧ onE f86 o86 bn ((bkB T n a j z : Nat) : Int) ∧ onE f87 o87 bn ((bkFX T n a j : Nat) : Int) ∧ onE f88 o88 bn ((bkDY T n a j : Nat) : Int) ∧ kpN f89 o89 (bkL T n a j) (288 * bn) 288 286 288 ∧ kpN f90 o90 (bkE T n a j) (30 * bn) 30 30 30 ∧ kpN f91 o91 (bkA T n a j) (19 * bn) 19 19 19
section MB
variable {f72 f77 f78 f79 f80 f92 f93 f94 f95 f96 f100 f101 f102 f117 f118 f106 f108 : Nat → Int32} {T : Nat → Int} {n c a j : Nat}
theorem mbF_15 (H : mbF f100 f101 f102 f117 f118 T n a j) : (∀ q, q < 286 → bkL T n a j q ≤ 15) ∧ (∀ q, q < 30 → bkE T n a j q ≤ 15) ∧ (∀ q, q < 19 → bkA T n a j q ≤ 7) := by
  obtain ⟨h1, h2, h3, _⟩ := H
  refine ⟨fun q hq => ?_, fun q hq => ?_, fun q hq => ?_⟩
  · rw [← h1.1 q hq]; have := h1.2.1 q hq; show (f100 q).toInt.toNat ≤ 15; omega
  · rw [← h2.1 q hq]; have := h2.2.1 q hq; show (f101 q).toInt.toNat ≤ 15; omega
  · rw [← h3.1 q hq]; have := h3.2.1 q hq; show (f102 q).toInt.toNat ≤ 7; omega
theorem mbF_ok (H : mbF f100 f101 f102 f117 f118 T n a j) : ∀ i, i < bkR T n a j → tS (rowF (bkL T n a j) (bkE T n a j)) (rowM (bkL T n a j) (bkE T n a j)) i ≤ 18 ∧ tX (rowF (bkL T n a j) (bkE T n a j)) (rowM (bkL T n a j) (bkE T n a j)) i < 2 ^ rEf (tS (rowF (bkL T n a j) (bkE T n a j)) (rowM (bkL T n a j) (bkE T n a j)) i) := fun i hi =>
  tSX_ok H.2.2.2.2.1 (row15c (mbF_15 H).1 (mbF_15 H).2.1) hi
theorem mbF_le (H : mbF f100 f101 f102 f117 f118 T n a j) (hT : ∀ i, i < n → 0 ≤ T i ∧ T i ≤ 255) (h : ltP T n c) (hj : a + j ≤ c) (l : Nat) (s : Nat × Nat) : (bkS T n a j l s).2 ≤ s.2 + 42 + 8 * bkY T n a j := by
  have h1 := bkS_2 (l := l) (s := s) hT h hj (fun i hi => by have := (mbF_ok H i hi).1; omega)
  have h2 := bkB_le (T := T) (n := n) (a := a) (j := j) (z := s.2)
  omega
/-- the sums are small -/
theorem mbF_big (H : mbF f100 f101 f102 f117 f118 T n a j) (hT : ∀ i, i < n → 0 ≤ T i ∧ T i ≤ 255) (h : ltP T n c) (hj : a + j ≤ c) (h6 : j ≤ 600) : sN (fun i => bkC T n a j i * (bkL T n a j i + exL i)) 286 + sN (fun i => bkD T n a j i * (LNf (bkD T n a j) 30 15 i + DEf i)) 30 ≤ 8000000 ∧ sN (fun s => tC (rowF (bkL T n a j) (bkE T n a j)) (rowM (bkL T n a j) (bkE T n a j)) (bkR T n a j) s * (bkA T n a j s + rEf s)) 19 ≤ 90000 ∧ 4 ≤ bkO T n a j ∧ bkO T n a j ≤ 19 ∧ bkFX T n a j ≤ 8000000 ∧ bkDY T n a j ≤ 9000000 := by
  have hbc : ∀ z, bkC T n a j z ≤ 601 := fun z => by have h9 := cL_le (aM T n) (dI T n) a j z; have h8 : bkC T n a j z = cL (aM T n) (dI T n) a j z := rfl; omega
  have hbd : ∀ z, bkD T n a j z ≤ 601 := fun z => by have h9 := cD_le (dI T n) a j z; have h8 : bkD T n a j z = cD (dI T n) a j z := rfl; omega
  obtain ⟨b1, b2, b3⟩ := mbF_15 H
  have hq1 : sN (fun i => bkC T n a j i * (bkL T n a j i + exL i)) 286 ≤ 601 * 40 * 286 := wsm_le (fun k _ => hbc k) (fun k hk => by have a9 := b1 k hk; have a8 := exL_5 k; show bkL T n a j k + exL k ≤ 40; omega)
  have hq2 : sN (fun i => bkD T n a j i * (LNf (bkD T n a j) 30 15 i + DEf i)) 30 ≤ 601 * 40 * 30 := by
    rw [LD_sum2]
    exact wsm_le (c := bkD T n a j) (fun k _ => hbd k) (fun k hk => by have a9 : LDx (bkD T n a j) k ≤ 15 := b2 k hk; have a8 := DE_13 k; show LDx _ k + DEf k ≤ 40; omega)
  have hq3 : sN (fun s => tC (rowF (bkL T n a j) (bkE T n a j)) (rowM (bkL T n a j) (bkE T n a j)) (bkR T n a j) s * (bkA T n a j s + rEf s)) 19 ≤ 316 * 14 * 19 := wsm_le (fun k _ => Nat.le_trans (tC_le _ _ _ k) H.2.2.2.2.2) (fun k hk => by have a9 := b3 k hk; have a8 := rEf_7 k; show bkA T n a j k + rEf k ≤ 14; omega)
  have hq4 : sN (fun i => bkC T n a j i * (fxL i + exL i)) 286 ≤ 601 * 40 * 286 := wsm_le (fun k _ => hbc k) (fun k hk => by have a9 := (fxL_1 k).2; have a8 := exL_5 k; show fxL k + exL k ≤ 40; omega)
  have hq5 : sN (fun i => bkD T n a j i * (fxD i + DEf i)) 30 ≤ 601 * 40 * 30 := wsm_le (fun k _ => hbd k) (fun k hk => by have a9 := fxD_5 k; have a8 := DE_13 k; show fxD k + DEf k ≤ 40; omega)
  have hd := dy_is (a := a) (j := j) hT h hj
  have hf := fx_is (a := a) (j := j) hT h hj
  have ho := tdM_rng (fun q => bkA T n a j (ORf q)) 4 15
  have ho2 : bkO T n a j = tdM (fun q => bkA T n a j (ORf q)) 4 15 := rfl
  omega
end MB
theorem mbA_of {fr to pl my : Int32} {T : Nat → Int} {n c a j : Nat} (hT : ∀ i, i < n → 0 ≤ T i ∧ T i ≤ 255) (h : ltP T n c) (h1 : fr.toInt = (a : Nat)) (h2 : to.toInt = ((a + j : Nat) : Int)) (h3 : a + j ≤ c) (h4 : j ≤ 600) (h5 : pl.toInt = (ptP T n a : Nat)) (h6 : my.toInt = (bkY T n a j : Nat)) : mbA fr to pl my T n c a j := by
  have b1 := bY_pt (a := a) hT h j h3
  have b2 := ptP_k (T := T) (n := n) (a + j) (fun q hq => h q (by omega))
  have b3 : bkY T n a j = bY (aM T n) (dI T n) a j := rfl
  exact ⟨h1, h2, h3, h4, h5, h6, by omega⟩
theorem bkH_s2 (T : Nat → Int) (n a j : Nat) (s1 : Nat × Nat) : (bkH T n a j s1).2 = s1.2 + 14 + 3 * bkO T n a j + sN (fun q => bkA T n a j (tS (rowF (bkL T n a j) (bkE T n a j)) (rowM (bkL T n a j) (bkE T n a j)) q) + rEf (tS (rowF (bkL T n a j) (bkE T n a j)) (rowM (bkL T n a j) (bkE T n a j)) q)) (bkR T n a j) := by
  unfold bkH
  rw [sS_2, oS_2]
  show s1.2 + 5 + 5 + 4 + 3 * bkO T n a j + _ = _
  omega
theorem hd_bd {T : Nat → Int} {n a j : Nat} {s1 : Nat × Nat} (hr : (bkP T n a j (bkL T n a j) (bkE T n a j) (bkH T n a j s1)).2 ≤ 64000) : s1.2 + 14 + 3 * bkO T n a j + sN (fun q => bkA T n a j (tS (rowF (bkL T n a j) (bkE T n a j)) (rowM (bkL T n a j) (bkE T n a j)) q) + rEf (tS (rowF (bkL T n a j) (bkE T n a j)) (rowM (bkL T n a j) (bkE T n a j)) q)) (bkR T n a j) ≤ 64000 := by
  have h1 : (bkP T n a j (bkL T n a j) (bkE T n a j) (bkH T n a j s1)).2 = (wps (aM T n) (dI T n) (cdN (bkL T n a j) 288) (bkL T n a j) (cdN (bkE T n a j) 288) (bkE T n a j) (bkH T n a j s1) a j).2 + bkL T n a j 256 := rfl
  rw [wps_2] at h1
  have h2 := bkH_s2 T n a j s1
  omega
theorem lb_rd {f : Nat → Int32} {L C : Nat → Nat} {n : Nat} {m : Int} {k : Nat} {z : Int32} (H : lbP f L C n m) (hk : k < n) (e : f k = z) : z.toInt = (L k : Nat) ∧ 0 ≤ z.toInt ∧ z.toInt ≤ m := by
  have h1 := H.1 k hk
  have h2 := H.2.1 k hk
  have h3 : nL f k = (f k).toInt.toNat := rfl
  rw [e] at h2 h3
  omega
theorem dbP_z {f : Nat → Int32} {c : Nat → Nat} (H : dbP f c) (h : sN c 30 ≠ 0) : lbP f (LDx c) c 30 15 := by
  refine ⟨fun k hk => ?_, H.2.1, H.2.2.1⟩
  unfold LDx
  rw [if_neg h]
  exact H.1 k hk
/-! PRINTED by wip/pack: the model writes a block: stored -/
theorem x71_0 : ∀ k : Nat, ¬ (72 = 71 ∧ k = 16) := fun k c => by omega
theorem x71_1 : ∀ q k : Nat, (q = 71 ∧ k = 16) → (q = 71 ∧ k = 16) := fun q k hk => hk
theorem x71_2 : ∀ q : Nat, (q = 75) → (q = 75) := fun q hk => hk
theorem x71_3 : ∀ q : Nat, (False) → (False) := fun q hk => hk.elim
set_option maxRecDepth 4000 in
set_option maxHeartbeats 2000000 in
theorem w_s0_L1 {E : Nat → Nat × (Nat → Int32)} {d : Nat} {Q : ez_Q} {h : ez_H} {fr : Int32} {to : Int32} {pl : Int32} {my : Int32} {ls : Int32} {l6 : Option Value} {l7 : Option Value} {l8 : Option Value} {l9 : Option Value} {l10 : Option Value} {l11 : Option Value} {l12 : Option Value} {l13 : Option Value} {l14 : Option Value} {b15 : Int32} {l16 : Option Value} (S : zSh h) {T : Nat → Int} {n P Y : Nat} {s1 : Nat × Nat} (hn : n ≤ 6000) (hT0 : ∀ i, i < n → 0 ≤ T i ∧ T i ≤ 255) (hB : ∀ i, i < n → (ez_I h 72 i).toInt % 256 = T i) (hpl : pl.toInt = (P : Nat)) (hmy : my.toInt = (Y : Nat)) (hpn : P + Y ≤ n) (hs : mS (ez_I h 75) s1) (hb : (ez_I h 71 16).toInt = (s1.2 : Nat)) (hg : aR (ez_I h 75) 8000 (-128) 127) (hr : (s1.2 + 7) / 8 * 8 + 32 + 8 * Y ≤ 64000) (K : ∀ h2, zW (fun q k => q = 71 ∧ k = 16) (fun q => q = 75) (fun _ => False) h h2 → mst (ez_I h2 75) (ez_I h2 71 16).toInt (bS T P (wr (wr (s1.1, (s1.2 + 7) / 8 * 8) Y 16) (65535 - Y) 16) Y) → aR (ez_I h2 75) 8000 (-128) 127 → Q (.inl none) h2) : ∀ N : Nat, (∀ (h2 : ez_H) (k : Int32) , zW (fun q k => q = 71 ∧ k = 16) (fun q => q = 75) (fun _ => False) h h2 → (0 ≤ k.toInt ∧ k.toInt ≤ Y ∧ (ez_I h2 71 16).toInt = ((bS T P (wr (wr (s1.1, (s1.2 + 7) / 8 * 8) Y 16) (65535 - Y) 16) k.toInt.toNat).2 : Nat)) → (mS (ez_I h2 75) (bS T P (wr (wr (s1.1, (s1.2 + 7) / 8 * 8) Y 16) (65535 - Y) 16) k.toInt.toNat)) → (aR (ez_I h2 75) 8000 (-128) 127) → (10000 - k.toInt) < (N : Int) → pw E (d + 2) 44 823 [some (.ref 71), some (.int fr), some (.int to), some (.int pl), some (.int my), some (.int ls), l6, l7, l8, l9, l10, l11, l12, l13, l14, some (.int b15), some (.int k)] [] h2 Q) := by
  intro N
  induction N with
  | zero => exact fun h2 k  F hinv A_st A_hg hm => absurd hm (by have w_k := z_rng k; have gfr := z_rng fr; have gto := z_rng to; have gpl := z_rng pl; have gmy := z_rng my; have gls := z_rng ls; have gb15 := z_rng b15; omega)
  | succ N ih =>
    refine fun h2 k  F hinv A_st A_hg hm => ?_
    · skip
      have w_k := z_rng k
      have gfr := z_rng fr
      have gto := z_rng to
      have gpl := z_rng pl
      have gmy := z_rng my
      have gls := z_rng ls
      have gb15 := z_rng b15
      have S2 := zW_sh F S
      obtain ⟨hk0, hkY, hbb⟩ := hinv
      have hb9 : (bS T P (wr (wr (s1.1, (s1.2 + 7) / 8 * 8) Y 16) (65535 - Y) 16) k.toInt.toNat).2 = (s1.2 + 7) / 8 * 8 + 16 + 16 + 8 * k.toInt.toNat := bS_2 _ _ _ _
      apply ez_Wp_in
      show ez_gw _ _ _ _ _ _ (cz_44) _ _ _ _ _
      refine gw_skip _ ?_
      have r1 := z_rng (ez_I h2 71 16)
      refine gw_ld rfl rfl ?_
      refine gw_ld rfl rfl ?_
      refine z_b2 (fun c2 => ?_) (fun c2 => ?_)
      · have c2 : my.toInt ≤ k.toInt := c2
        refine gw_skip _ ?_
        refine z_go ?_
        refine gw_skip _ ?_
        refine z_rv ?_
        have b1 := A_st
        have b2 := hbb
        rw [show k.toInt.toNat = Y by omega] at b1 b2
        exact K _ F (mS_m b1 b2) A_hg
      · have c2 : ¬ (my.toInt ≤ k.toInt) := c2
        refine gw_ld rfl rfl ?_
        refine gw_ld rfl rfl ?_
        refine z_gR (q := 72) (zT S2 (by decide) rfl) (zRf S2 (by decide) (by decide) rfl) (by decide) ?_
        refine gw_ld rfl rfl ?_
        refine gw_ld rfl rfl ?_
        refine z_add (by omega) (fun x3 ex3 => ?_)
        refine z_baV (n := 6000) (zT S2 (by decide) rfl) (zN S2 (by decide) rfl) (by omega) (zW_f F (by decide) (x71_0 _)) ?_
        generalize ex4 : ez_I h 72 x3.toInt.toNat = x4
        have rx4 := z_rng x4
        have yx4 := hB (P + k.toInt.toNat) (by omega)
        rw [show P + k.toInt.toNat = x3.toInt.toNat by omega, ex4] at yx4
        rw [show x3.toInt.toNat = P + k.toInt.toNat by omega] at yx4
        have hTk := hT0 (P + k.toInt.toNat) (by omega)
        refine z_C (m := 255) rfl rfl (fun x5 ex5 => ?_)
        refine z_and (fun x6 ex6 ux6 wx6 => ?_)
        have rx6 := z_rng x6
        replace ux6 := ux6 (by omega)
        clear wx6
        have vx6 := n_mask (k := 8) (by decide) (by omega) ex6
        rw [show (2 : Int) ^ 8 = 256 from rfl] at vx6
        refine z_C (m := 8) rfl rfl (fun x7 ex7 => ?_)
        refine z_cl rfl rfl rfl rfl rfl rfl rfl rfl rfl rfl rfl (zT S2 (by decide) rfl) ?_
        refine d_wbV (s := (bS T P (wr (wr (s1.1, (s1.2 + 7) / 8 * 8) Y 16) (65535 - Y) 16) k.toInt.toNat)) (V := (T (P + k.toInt.toNat)).toNat) (N := 8) (v := x6) (n := x7) S2 A_st (hbb) A_hg (by omega) (by omega) (by show _ < 256; omega) (by decide) (by rw [hb9]; omega) (fun h8 F9 k10 k11 k12 => ?_)
        have S13 := zW_sh F9 S2
        have F14 := zW_tr F (zW_mono F9 (x71_1) (x71_2) (x71_3))
        have r15 := z_rng (ez_I h8 71 16)
        refine z_inc rfl (by rw [show (1 : Int32).toInt = 1 from rfl]; omega) (fun x16 ex16 => ?_)
        rw [show (1 : Int32).toInt = 1 from rfl] at ex16
        show ez_gw _ _ _ _ _ _ _ _ [some (.ref 71), some (.int fr), some (.int to), some (.int pl), some (.int my), some (.int ls), l6, l7, l8, l9, l10, l11, l12, l13, l14, some (.int b15), some (.int x16)] _ _ _
        refine z_go ?_
        exact ih h8 x16 F14 (⟨by omega, by omega, by rw [show x16.toInt.toNat = k.toInt.toNat + 1 by omega]; exact k11⟩) ((by rw [show x16.toInt.toNat = k.toInt.toNat + 1 by omega]; exact k10)) k12 (by omega)
set_option maxRecDepth 4000 in
set_option maxHeartbeats 2000000 in
theorem w_s0_L0 {E : Nat → Nat × (Nat → Int32)} {d : Nat} {Q : ez_Q} {h : ez_H} {fr : Int32} {to : Int32} {pl : Int32} {my : Int32} {ls : Int32} {l6 : Option Value} {l7 : Option Value} {l8 : Option Value} {l9 : Option Value} {l10 : Option Value} {l11 : Option Value} {l12 : Option Value} {l13 : Option Value} {l14 : Option Value} {b15 : Int32} {l16 : Option Value} (S : zSh h) {T : Nat → Int} {n P Y : Nat} {s1 : Nat × Nat} (hn : n ≤ 6000) (hT0 : ∀ i, i < n → 0 ≤ T i ∧ T i ≤ 255) (hB : ∀ i, i < n → (ez_I h 72 i).toInt % 256 = T i) (hpl : pl.toInt = (P : Nat)) (hmy : my.toInt = (Y : Nat)) (hpn : P + Y ≤ n) (hs : mS (ez_I h 75) s1) (hb : (ez_I h 71 16).toInt = (s1.2 : Nat)) (hg : aR (ez_I h 75) 8000 (-128) 127) (hr : (s1.2 + 7) / 8 * 8 + 32 + 8 * Y ≤ 64000) (K : ∀ h2, zW (fun q k => q = 71 ∧ k = 16) (fun q => q = 75) (fun _ => False) h h2 → mst (ez_I h2 75) (ez_I h2 71 16).toInt (bS T P (wr (wr (s1.1, (s1.2 + 7) / 8 * 8) Y 16) (65535 - Y) 16) Y) → aR (ez_I h2 75) 8000 (-128) 127 → Q (.inl none) h2) : ∀ N : Nat, (∀ (h2 : ez_H)  (i : Nat), zW (fun q k => q = 71 ∧ k = 16) (fun q => q = 75) (fun _ => False) h h2 → ((ez_I h2 71 16).toInt = ((s1.2 + i : Nat) : Int) ∧ i ≤ 7 ∧ s1.2 + i ≤ (s1.2 + 7) / 8 * 8) → (mS (ez_I h2 75) (s1.1, s1.2 + i)) → (aR (ez_I h2 75) 8000 (-128) 127) → (100 - (i : Int)) < (N : Int) → pw E (d + 2) 44 783 [some (.ref 71), some (.int fr), some (.int to), some (.int pl), some (.int my), some (.int ls), l6, l7, l8, l9, l10, l11, l12, l13, l14, some (.int b15), l16] [] h2 Q) := by
  intro N
  induction N with
  | zero => exact fun h2  i F hinv A_st A_hg hm => absurd hm (by have gfr := z_rng fr; have gto := z_rng to; have gpl := z_rng pl; have gmy := z_rng my; have gls := z_rng ls; have gb15 := z_rng b15; omega)
  | succ N ih =>
    refine fun h2  i F hinv A_st A_hg hm => ?_
    · skip
      have gfr := z_rng fr
      have gto := z_rng to
      have gpl := z_rng pl
      have gmy := z_rng my
      have gls := z_rng ls
      have gb15 := z_rng b15
      have S2 := zW_sh F S
      apply ez_Wp_in
      show ez_gw _ _ _ _ _ _ (cz_44) _ _ _ _ _
      refine gw_skip _ ?_
      have r1 := z_rng (ez_I h2 71 16)
      refine gw_ld rfl rfl ?_
      refine z_gI2 (by decide) (zT S2 (by decide) rfl) (rfl) ?_
      refine z_C (m := 8) rfl rfl (fun x2 ex2 => ?_)
      refine z_rmP (c := 8) ex2 (by decide) (by omega) (fun x3 ex3 => ?_)
      refine z_b1 (fun c4 => ?_) (fun c4 => ?_)
      · have c4 : x3.toInt = 0 := c4
        refine gw_skip _ ?_
        have hal : (s1.2 + 7) / 8 * 8 = s1.2 + i := by omega
        have A5 : mS (ez_I h2 75) (s1.1, (s1.2 + 7) / 8 * 8) := by rw [hal]; exact A_st
        refine gw_ld rfl rfl ?_
        refine gw_ld rfl rfl ?_
        refine z_C (m := 16) rfl rfl (fun x6 ex6 => ?_)
        refine z_cl rfl rfl rfl rfl rfl rfl rfl rfl rfl rfl rfl (zT S2 (by decide) rfl) ?_
        refine d_wbV (s := (s1.1, (s1.2 + 7) / 8 * 8)) (V := Y) (N := 16) (v := my) (n := x6) S2 A5 (by show _ = (((s1.2 + 7) / 8 * 8 : Nat) : Int); omega) A_hg (by omega) (by omega) (by show Y < 65536; omega) (by decide) (by show (s1.2 + 7) / 8 * 8 + 16 ≤ 64000; omega) (fun h7 F8 k9 k10 k11 => ?_)
        have S12 := zW_sh F8 S2
        have F13 := zW_tr F (zW_mono F8 (x71_1) (x71_2) (x71_3))
        have r14 := z_rng (ez_I h7 71 16)
        refine gw_ld rfl rfl ?_
        refine gw_ld rfl rfl ?_
        refine z_C (m := -1) rfl rfl (fun x15 ex15 => ?_)
        refine z_2 rfl (fun x16 ex16 => ?_)
        have rx16 := z_rng x16
        refine z_C (m := 16) rfl rfl (fun x17 ex17 => ?_)
        refine z_cl rfl rfl rfl rfl rfl rfl rfl rfl rfl rfl rfl (zT S12 (by decide) rfl) ?_
        have vn := n_notm (by omega) ex16
        refine d_wb (s := (wr (s1.1, (s1.2 + 7) / 8 * 8) Y 16)) (v := x16) (n := x17) S12 (mS_m k9 k10) k11 (by omega) (by show (s1.2 + 7) / 8 * 8 + 16 + x17.toInt.toNat ≤ 64000; omega) (fun h18 F19 k20 k21 => ?_)
        rw [show x17.toInt.toNat = 16 by omega, wv_neg (v := x16.toInt) (Y := Y) (by omega) (by omega)] at k20
        have A22 : mS (ez_I h18 75) (wr (wr (s1.1, (s1.2 + 7) / 8 * 8) Y 16) (65535 - Y) 16) := m_mS k20
        have hb8 : (ez_I h18 71 16).toInt = (((wr (wr (s1.1, (s1.2 + 7) / 8 * 8) Y 16) (65535 - Y) 16)).2 : Nat) := k20.1
        have S23 := zW_sh F19 S12
        have F24 := zW_tr F13 (zW_mono F19 (x71_1) (x71_2) (x71_3))
        have r25 := z_rng (ez_I h18 71 16)
        refine z_C (m := 0) rfl rfl (fun x26 ex26 => ?_)
        refine gw_st rfl rfl rfl ?_
        show ez_gw _ _ _ _ _ _ _ _ [some (.ref 71), some (.int fr), some (.int to), some (.int pl), some (.int my), some (.int ls), l6, l7, l8, l9, l10, l11, l12, l13, l14, some (.int b15), some (.int x26)] _ _ _
        exact ez_Wp_at ((w_s0_L1 (fr := fr) (to := to) (pl := pl) (my := my) (ls := ls) (l6 := l6) (l7 := l7) (l8 := l8) (l9 := l9) (l10 := l10) (l11 := l11) (l12 := l12) (l13 := l13) (l14 := l14) (b15 := b15) (l16 := l16) S hn hT0 hB hpl hmy hpn hs hb hg hr K (((10000 - x26.toInt)).toNat + 1)) h18 x26 F24 (⟨by omega, by omega, by rw [show x26.toInt.toNat = 0 by omega]; exact hb8⟩) ((by rw [show x26.toInt.toNat = 0 by omega]; exact A22)) k21 (by omega)) rfl
      · have c4 : ¬ (x3.toInt = 0) := c4
        refine gw_ld rfl rfl ?_
        refine z_C (m := 0) rfl rfl (fun x27 ex27 => ?_)
        refine z_C (m := 1) rfl rfl (fun x28 ex28 => ?_)
        refine z_cl rfl rfl rfl rfl rfl rfl rfl rfl rfl rfl rfl (zT S2 (by decide) rfl) ?_
        refine d_wbV (s := (s1.1, s1.2 + i)) (V := 0) (N := 1) (v := x27) (n := x28) S2 A_st (by show _ = ((s1.2 + i : Nat) : Int); omega) A_hg (by omega) (by omega) (by decide) (by decide) (by show s1.2 + i + 1 ≤ 64000; omega) (fun h29 F30 k31 k32 k33 => ?_)
        have S34 := zW_sh F30 S2
        have F35 := zW_tr F (zW_mono F30 (x71_1) (x71_2) (x71_3))
        have r36 := z_rng (ez_I h29 71 16)
        have A37 : mS (ez_I h29 75) (s1.1, s1.2 + (i + 1)) := by have b1 := k31; rw [wr_z] at b1; exact b1
        have hb9 : (ez_I h29 71 16).toInt = ((s1.2 + i + 1 : Nat) : Int) := k32
        refine z_go ?_
        exact ih h29 (i + 1) F35 (by omega) (A37) (k33) (by omega)
set_option maxRecDepth 4000 in
set_option maxHeartbeats 2000000 in
theorem w_s0 {E : Nat → Nat × (Nat → Int32)} {d : Nat} {Q : ez_Q} {h : ez_H} {fr : Int32} {to : Int32} {pl : Int32} {my : Int32} {ls : Int32} {l6 : Option Value} {l7 : Option Value} {l8 : Option Value} {l9 : Option Value} {l10 : Option Value} {l11 : Option Value} {l12 : Option Value} {l13 : Option Value} {l14 : Option Value} {b15 : Int32} {l16 : Option Value} (S : zSh h) {T : Nat → Int} {n P Y : Nat} {s1 : Nat × Nat} (hn : n ≤ 6000) (hT0 : ∀ i, i < n → 0 ≤ T i ∧ T i ≤ 255) (hB : ∀ i, i < n → (ez_I h 72 i).toInt % 256 = T i) (hpl : pl.toInt = (P : Nat)) (hmy : my.toInt = (Y : Nat)) (hpn : P + Y ≤ n) (hs : mS (ez_I h 75) s1) (hb : (ez_I h 71 16).toInt = (s1.2 : Nat)) (hg : aR (ez_I h 75) 8000 (-128) 127) (hr : (s1.2 + 7) / 8 * 8 + 32 + 8 * Y ≤ 64000) (K : ∀ h2, zW (fun q k => q = 71 ∧ k = 16) (fun q => q = 75) (fun _ => False) h h2 → mst (ez_I h2 75) (ez_I h2 71 16).toInt (bS T P (wr (wr (s1.1, (s1.2 + 7) / 8 * 8) Y 16) (65535 - Y) 16) Y) → aR (ez_I h2 75) 8000 (-128) 127 → Q (.inl none) h2) : pw E (d + 2) 44 783 [some (.ref 71), some (.int fr), some (.int to), some (.int pl), some (.int my), some (.int ls), l6, l7, l8, l9, l10, l11, l12, l13, l14, some (.int b15), l16] [] h Q := by
  have gfr := z_rng fr
  have gto := z_rng to
  have gpl := z_rng pl
  have gmy := z_rng my
  have gls := z_rng ls
  have gb15 := z_rng b15
  have F := zW_refl (fun q k => q = 71 ∧ k = 16) (fun q => q = 75) (fun _ => False) h
  apply ez_Wp_in
  show ez_gw _ _ _ _ _ _ (cz_44) _ _ _ _ _
  refine gw_skip _ ?_
  have r1 := z_rng (ez_I h 71 16)
  exact ez_Wp_at ((w_s0_L0 (fr := fr) (to := to) (pl := pl) (my := my) (ls := ls) (l6 := l6) (l7 := l7) (l8 := l8) (l9 := l9) (l10 := l10) (l11 := l11) (l12 := l12) (l13 := l13) (l14 := l14) (b15 := b15) (l16 := l16) S hn hT0 hB hpl hmy hpn hs hb hg hr K (((100 - (0 : Int))).toNat + 1)) h 0 F (⟨hb, by omega, by omega⟩) (hs) (hg) (by omega)) rfl
end
section
/-! PRINTED by wip/pack: the model writes a block: parts -/
theorem x71_4 : ¬ (106 = 75 ∨ 106 = 107 ∨ 106 = 109 ∨ 106 = 115 ∨ 106 = 116) := by omega
theorem x71_5 : ∀ k : Nat, ¬ (106 = 71 ∧ k = 16) := fun k c => by omega
theorem x71_6 : ∀ q k : Nat, (False) → (q = 71 ∧ k = 16) := fun q k hk => hk.elim
theorem x71_7 : ∀ q : Nat, (q = 115 ∨ q = 116 ∨ q = 107) → (q = 75 ∨ q = 107 ∨ q = 109 ∨ q = 115 ∨ q = 116) := fun q hk => hk.elim (fun g => (.inr (.inr (.inr (.inl g))))) (fun hk => hk.elim (fun g => (.inr (.inr (.inr (.inr g))))) (fun hk => (.inr (.inl hk))))
theorem x71_8 : ∀ q : Nat, (False) → (False) := fun q hk => hk.elim
theorem x71_9 : ¬ (108 = 75 ∨ 108 = 107 ∨ 108 = 109 ∨ 108 = 115 ∨ 108 = 116) := by omega
theorem x71_10 : ∀ k : Nat, ¬ (108 = 71 ∧ k = 16) := fun k c => by omega
theorem x71_11 : ∀ q : Nat, (q = 115 ∨ q = 116 ∨ q = 109) → (q = 75 ∨ q = 107 ∨ q = 109 ∨ q = 115 ∨ q = 116) := fun q hk => hk.elim (fun g => (.inr (.inr (.inr (.inl g))))) (fun hk => hk.elim (fun g => (.inr (.inr (.inr (.inr g))))) (fun hk => (.inr (.inr (.inl hk)))))
theorem x71_12 : ¬ (72 = 75 ∨ 72 = 107 ∨ 72 = 109 ∨ 72 = 115 ∨ 72 = 116) := by omega
theorem x71_13 : ∀ k : Nat, ¬ (72 = 71 ∧ k = 16) := fun k c => by omega
theorem x71_14 : ¬ (77 = 75 ∨ 77 = 107 ∨ 77 = 109 ∨ 77 = 115 ∨ 77 = 116) := by omega
theorem x71_15 : ∀ k : Nat, ¬ (77 = 71 ∧ k = 16) := fun k c => by omega
theorem x71_16 : ¬ (78 = 75 ∨ 78 = 107 ∨ 78 = 109 ∨ 78 = 115 ∨ 78 = 116) := by omega
theorem x71_17 : ∀ k : Nat, ¬ (78 = 71 ∧ k = 16) := fun k c => by omega
theorem x71_18 : ¬ (79 = 75 ∨ 79 = 107 ∨ 79 = 109 ∨ 79 = 115 ∨ 79 = 116) := by omega
theorem x71_19 : ∀ k : Nat, ¬ (79 = 71 ∧ k = 16) := fun k c => by omega
theorem x71_20 : ¬ (80 = 75 ∨ 80 = 107 ∨ 80 = 109 ∨ 80 = 115 ∨ 80 = 116) := by omega
theorem x71_21 : ∀ k : Nat, ¬ (80 = 71 ∧ k = 16) := fun k c => by omega
theorem x71_22 : ¬ (92 = 75 ∨ 92 = 107 ∨ 92 = 109 ∨ 92 = 115 ∨ 92 = 116) := by omega
theorem x71_23 : ∀ k : Nat, ¬ (92 = 71 ∧ k = 16) := fun k c => by omega
theorem x71_24 : ¬ (93 = 75 ∨ 93 = 107 ∨ 93 = 109 ∨ 93 = 115 ∨ 93 = 116) := by omega
theorem x71_25 : ∀ k : Nat, ¬ (93 = 71 ∧ k = 16) := fun k c => by omega
theorem x71_26 : ¬ (94 = 75 ∨ 94 = 107 ∨ 94 = 109 ∨ 94 = 115 ∨ 94 = 116) := by omega
theorem x71_27 : ∀ k : Nat, ¬ (94 = 71 ∧ k = 16) := fun k c => by omega
theorem x71_28 : ¬ (95 = 75 ∨ 95 = 107 ∨ 95 = 109 ∨ 95 = 115 ∨ 95 = 116) := by omega
theorem x71_29 : ∀ k : Nat, ¬ (95 = 71 ∧ k = 16) := fun k c => by omega
theorem x71_30 : ∀ q k : Nat, (q = 71 ∧ k = 16) → (q = 71 ∧ k = 16) := fun q k hk => hk
theorem x71_31 : ∀ q : Nat, (q = 75) → (q = 75 ∨ q = 107 ∨ q = 109 ∨ q = 115 ∨ q = 116) := fun q hk => (.inl hk)
theorem x71_32 : ∀ k : Nat, ¬ (107 = 71 ∧ k = 16) := fun k c => by omega
theorem x71_33 : ∀ k : Nat, ¬ (109 = 71 ∧ k = 16) := fun k c => by omega
set_option maxRecDepth 4000 in
set_option maxHeartbeats 2000000 in
theorem w_s1 {E : Nat → Nat × (Nat → Int32)} {d : Nat} {Q : ez_Q} {h : ez_H} {fr : Int32} {to : Int32} {pl : Int32} {my : Int32} {ls : Int32} {l6 : Option Value} {l7 : Option Value} {l8 : Option Value} {l9 : Option Value} {l10 : Option Value} {l11 : Option Value} {l12 : Option Value} {l13 : Option Value} {l14 : Option Value} {l15 : Option Value} {l16 : Option Value} (S : zSh h) {T : Nat → Int} {n c a J : Nat} {s1 : Nat × Nat} (hC : mbC (ez_I h 72) (ez_I h 77) (ez_I h 78) (ez_I h 79) (ez_I h 80) (ez_I h 92) (ez_I h 93) (ez_I h 94) (ez_I h 95) (ez_I h 96) T n c) (hA : mbA fr to pl my T n c a J) (hX : mbX (ez_I h 106) (ez_I h 108)) (hs : mS (ez_I h 75) s1) (hb : (ez_I h 71 16).toInt = (s1.2 : Nat)) (hg : aR (ez_I h 75) 8000 (-128) 127) (hr : (bkP T n a J fxL fxD s1).2 ≤ 64000) (K : ∀ h2, zW (fun q k => q = 71 ∧ k = 16) (fun q => q = 75 ∨ q = 107 ∨ q = 109 ∨ q = 115 ∨ q = 116) (fun _ => False) h h2 → mst (ez_I h2 75) (ez_I h2 71 16).toInt (bkP T n a J fxL fxD s1) → aR (ez_I h2 75) 8000 (-128) 127 → Q (.inl none) h2) : pw E (d + 2) 44 864 [some (.ref 71), some (.int fr), some (.int to), some (.int pl), some (.int my), some (.int ls), l6, l7, l8, l9, l10, l11, l12, l13, l14, l15, l16] [] h Q := by
  have gfr := z_rng fr
  have gto := z_rng to
  have gpl := z_rng pl
  have gmy := z_rng my
  have gls := z_rng ls
  obtain ⟨cn, cc, hT0, hB, hpm, hlt, hpe, t92, t93, t94, t95, t96⟩ := hC
  obtain ⟨afr, ato, ajc, aj6, apl, amy, apn⟩ := hA
  have F := zW_refl (fun q k => q = 71 ∧ k = 16) (fun q => q = 75 ∨ q = 107 ∨ q = 109 ∨ q = 115 ∨ q = 116) (fun _ => False) h
  apply ez_Wp_in
  show ez_gw _ _ _ _ _ _ (cz_44) _ _ _ _ _
  refine gw_skip _ ?_
  have r1 := z_rng (ez_I h 71 16)
  refine gw_ld rfl rfl ?_
  refine gw_ld rfl rfl ?_
  refine z_gR (q := 106) (zT S (by decide) rfl) (zRf S (by decide) (by decide) rfl) (by decide) ?_
  refine z_C (m := 288) rfl rfl (fun x2 ex2 => ?_)
  refine gw_ld rfl rfl ?_
  refine z_gR (q := 107) (zT S (by decide) rfl) (zRf S (by decide) (by decide) rfl) (by decide) ?_
  refine z_cl rfl rfl rfl rfl rfl rfl rfl rfl rfl rfl rfl (zT S (by decide) rfl) ?_
  refine d_cds (u := 106) (n := x2) (w := 107) S (nu := 288) (nw := 288) (fun _ S => ⟨zT S (by decide) rfl, zN S (by decide) rfl⟩) (fun _ S => ⟨zT S (by decide) rfl, zN S (by decide) rfl⟩) (by decide) (by omega) (by rw [show x2.toInt.toNat = 288 by omega, (show ez_I h 106 = ez_I h 106 from zW_fn F 106 x71_4 x71_5)]; exact cpN_aR hX.1 (fun k _ => (fxL_1 k).2)) (fun h3 F4 k5 => ?_)
  rw [show x2.toInt.toNat = 288 by omega, (show ez_I h 106 = ez_I h 106 from zW_fn F 106 x71_4 x71_5)] at k5
  have S6 := zW_sh F4 S
  have F7 := zW_tr F (zW_mono F4 (x71_6) (x71_7) (x71_8))
  have f8 : ez_I h3 71 16 = (ez_I h 71 16) := (zW_f F4 (by decide) (fun c => c)).trans (rfl)
  have A9 : mS (ez_I h3 75) s1 := by rw [zW_fn F4 75 (by decide) (fun _ c => c)]; exact hs
  have A10 : aR (ez_I h3 75) 8000 (-128) 127 := by rw [zW_fn F4 75 (by decide) (fun _ c => c)]; exact hg
  refine gw_ld rfl rfl ?_
  refine gw_ld rfl rfl ?_
  refine z_gR (q := 108) (zT S6 (by decide) rfl) (zRf S6 (by decide) (by decide) rfl) (by decide) ?_
  refine z_C (m := 30) rfl rfl (fun x11 ex11 => ?_)
  refine gw_ld rfl rfl ?_
  refine z_gR (q := 109) (zT S6 (by decide) rfl) (zRf S6 (by decide) (by decide) rfl) (by decide) ?_
  have t12 := congrArg Int32.toInt (f8)
  refine z_cl rfl rfl rfl rfl rfl rfl rfl rfl rfl rfl rfl (zT S6 (by decide) rfl) ?_
  refine d_cds (u := 108) (n := x11) (w := 109) S6 (nu := 30) (nw := 30) (fun _ S => ⟨zT S (by decide) rfl, zN S (by decide) rfl⟩) (fun _ S => ⟨zT S (by decide) rfl, zN S (by decide) rfl⟩) (by decide) (by omega) (by rw [show x11.toInt.toNat = 30 by omega, (show ez_I h3 108 = ez_I h 108 from zW_fn F7 108 x71_9 x71_10)]; exact cpN_aR hX.2 (fun k _ => fxD_5 k)) (fun h13 F14 k15 => ?_)
  rw [show x11.toInt.toNat = 30 by omega, (show ez_I h3 108 = ez_I h 108 from zW_fn F7 108 x71_9 x71_10)] at k15
  have S16 := zW_sh F14 S6
  have F17 := zW_tr F7 (zW_mono F14 (x71_6) (x71_11) (x71_8))
  have f18 : ez_I h13 71 16 = (ez_I h 71 16) := (zW_f F14 (by decide) (fun c => c)).trans (f8)
  have A19 : mS (ez_I h13 75) s1 := by rw [zW_fn F14 75 (by decide) (fun _ c => c)]; exact A9
  have A20 : aR (ez_I h13 75) 8000 (-128) 127 := by rw [zW_fn F14 75 (by decide) (fun _ c => c)]; exact A10
  have A21 : wdI (ez_I h13 107) (nL (ez_I h 106)) 288 288 := by rw [zW_fn F14 107 (by decide) (fun _ c => c)]; exact k5
  clear A9
  clear A10
  refine gw_ld rfl rfl ?_
  refine gw_ld rfl rfl ?_
  refine gw_ld rfl rfl ?_
  refine gw_ld rfl rfl ?_
  refine gw_ld rfl rfl ?_
  refine z_gR (q := 106) (zT S16 (by decide) rfl) (zRf S16 (by decide) (by decide) rfl) (by decide) ?_
  refine gw_ld rfl rfl ?_
  refine z_gR (q := 107) (zT S16 (by decide) rfl) (zRf S16 (by decide) (by decide) rfl) (by decide) ?_
  refine gw_ld rfl rfl ?_
  refine z_gR (q := 108) (zT S16 (by decide) rfl) (zRf S16 (by decide) (by decide) rfl) (by decide) ?_
  refine gw_ld rfl rfl ?_
  refine z_gR (q := 109) (zT S16 (by decide) rfl) (zRf S16 (by decide) (by decide) rfl) (by decide) ?_
  have t22 := congrArg Int32.toInt (f18)
  refine z_cl rfl rfl rfl rfl rfl rfl rfl rfl rfl rfl rfl (zT S16 (by decide) rfl) ?_
  have hsl : ∀ x, x < 286 → 1 ≤ fxL x → swP (ez_I h13 106) (ez_I h13 107) fxL (cdN fxL 288) x := fun x hx h1 => by rw [(show ez_I h13 106 = ez_I h 106 from zW_fn F17 106 x71_4 x71_5)]; exact sw_c A21 (fun k hk => cpN_nL hX.1 k hk) (fun k hk h1 => wd_nL A21 (by decide) (by decide) (cpN_nL hX.1) (fun l _ => ctN_congr 288 (cpN_nL hX.1)) k hk h1) (cpN_aR hX.1 (fun k _ => (fxL_1 k).2)) x (by omega) h1
  have hse : ∀ x, x < 30 → 1 ≤ fxD x → swP (ez_I h13 108) (ez_I h13 109) fxD (cdN fxD 288) x := fun x hx h1 => by rw [(show ez_I h13 108 = ez_I h 108 from zW_fn F17 108 x71_9 x71_10)]; exact sw_c k15 (cpN_nL hX.2) (fxd_w k15 (cpN_nL hX.2)) (cpN_aR hX.2 (fun k _ => fxD_5 k)) x hx h1
  refine d_wPartsA (fr := fr) (to := to) (pl := pl) (T := T) (n := n) (nU := fxL) (nV := cdN fxL 288) (nW := fxD) (nY := cdN fxD 288) (s := s1) (c := c) (a := a) (J := J) S16 cn hT0 (by rw [(show ez_I h13 72 = ez_I h 72 from zW_fn F17 72 x71_12 x71_13)]; exact hB) (mS_m A19 (by rw [f18]; exact hb)) A20 (by rw [(show ez_I h13 77 = ez_I h 77 from zW_fn F17 77 x71_14 x71_15), (show ez_I h13 78 = ez_I h 78 from zW_fn F17 78 x71_16 x71_17), (show ez_I h13 79 = ez_I h 79 from zW_fn F17 79 x71_18 x71_19), (show ez_I h13 80 = ez_I h 80 from zW_fn F17 80 x71_20 x71_21)]; exact hpm) hlt cc ⟨afr, ato, ajc⟩ apl hsl hse (fun q hq => ⟨(fxL_1 _).1, fun z => fxD_1 ((lSy_lt hT0 hlt (k := q) (by omega)).2 z)⟩) ((fxL_1 256).1) (hr) (by rw [(show ez_I h13 92 = ez_I h 92 from zW_fn F17 92 x71_22 x71_23)]; exact t92) (by rw [(show ez_I h13 93 = ez_I h 93 from zW_fn F17 93 x71_24 x71_25)]; exact t93) (by rw [(show ez_I h13 94 = ez_I h 94 from zW_fn F17 94 x71_26 x71_27)]; exact t94) (by rw [(show ez_I h13 95 = ez_I h 95 from zW_fn F17 95 x71_28 x71_29)]; exact t95) (fun h23 F24 k25 k26 => ?_)
  have S27 := zW_sh F24 S16
  have F28 := zW_tr F17 (zW_mono F24 (x71_30) (x71_31) (x71_8))
  have r29 := z_rng (ez_I h23 71 16)
  have A30 : wdI (ez_I h23 107) (nL (ez_I h 106)) 288 288 := by rw [zW_fn F24 107 (by decide) (x71_32)]; exact A21
  have A31 : wdI (ez_I h23 109) (nL (ez_I h 108)) 30 30 := by rw [zW_fn F24 109 (by decide) (x71_33)]; exact k15
  clear A21
  refine z_go ?_
  refine gw_skip _ ?_
  refine z_rv ?_
  exact K _ F28 k25 k26
theorem x71_34 : ¬ (100 = 75 ∨ 100 = 103 ∨ 100 = 104 ∨ 100 = 115 ∨ 100 = 116) := by omega
theorem x71_35 : ∀ k : Nat, ¬ (100 = 71 ∧ k = 16) := fun k c => by omega
theorem x71_36 : ∀ q : Nat, (q = 115 ∨ q = 116 ∨ q = 103) → (q = 75 ∨ q = 103 ∨ q = 104 ∨ q = 115 ∨ q = 116) := fun q hk => hk.elim (fun g => (.inr (.inr (.inr (.inl g))))) (fun hk => hk.elim (fun g => (.inr (.inr (.inr (.inr g))))) (fun hk => (.inr (.inl hk))))
theorem x71_37 : ¬ (101 = 75 ∨ 101 = 103 ∨ 101 = 104 ∨ 101 = 115 ∨ 101 = 116) := by omega
theorem x71_38 : ∀ k : Nat, ¬ (101 = 71 ∧ k = 16) := fun k c => by omega
theorem x71_39 : ∀ q : Nat, (q = 115 ∨ q = 116 ∨ q = 104) → (q = 75 ∨ q = 103 ∨ q = 104 ∨ q = 115 ∨ q = 116) := fun q hk => hk.elim (fun g => (.inr (.inr (.inr (.inl g))))) (fun hk => hk.elim (fun g => (.inr (.inr (.inr (.inr g))))) (fun hk => (.inr (.inr (.inl hk)))))
theorem x71_40 : ¬ (72 = 75 ∨ 72 = 103 ∨ 72 = 104 ∨ 72 = 115 ∨ 72 = 116) := by omega
theorem x71_41 : ¬ (77 = 75 ∨ 77 = 103 ∨ 77 = 104 ∨ 77 = 115 ∨ 77 = 116) := by omega
theorem x71_42 : ¬ (78 = 75 ∨ 78 = 103 ∨ 78 = 104 ∨ 78 = 115 ∨ 78 = 116) := by omega
theorem x71_43 : ¬ (79 = 75 ∨ 79 = 103 ∨ 79 = 104 ∨ 79 = 115 ∨ 79 = 116) := by omega
theorem x71_44 : ¬ (80 = 75 ∨ 80 = 103 ∨ 80 = 104 ∨ 80 = 115 ∨ 80 = 116) := by omega
theorem x71_45 : ¬ (92 = 75 ∨ 92 = 103 ∨ 92 = 104 ∨ 92 = 115 ∨ 92 = 116) := by omega
theorem x71_46 : ¬ (93 = 75 ∨ 93 = 103 ∨ 93 = 104 ∨ 93 = 115 ∨ 93 = 116) := by omega
theorem x71_47 : ¬ (94 = 75 ∨ 94 = 103 ∨ 94 = 104 ∨ 94 = 115 ∨ 94 = 116) := by omega
theorem x71_48 : ¬ (95 = 75 ∨ 95 = 103 ∨ 95 = 104 ∨ 95 = 115 ∨ 95 = 116) := by omega
theorem x71_49 : ∀ q : Nat, (q = 75) → (q = 75 ∨ q = 103 ∨ q = 104 ∨ q = 115 ∨ q = 116) := fun q hk => (.inl hk)
theorem x71_50 : ∀ k : Nat, ¬ (103 = 71 ∧ k = 16) := fun k c => by omega
theorem x71_51 : ∀ k : Nat, ¬ (104 = 71 ∧ k = 16) := fun k c => by omega
set_option maxRecDepth 4000 in
set_option maxHeartbeats 2000000 in
theorem w_s3 {E : Nat → Nat × (Nat → Int32)} {d : Nat} {Q : ez_Q} {h : ez_H} {fr : Int32} {to : Int32} {pl : Int32} {my : Int32} {ls : Int32} {l6 : Option Value} {l7 : Option Value} {l8 : Option Value} {l9 : Option Value} {l10 : Option Value} {l11 : Option Value} {l12 : Option Value} {l13 : Option Value} {l14 : Option Value} {l15 : Option Value} {l16 : Option Value} (S : zSh h) {T : Nat → Int} {n c a J : Nat} {s1 : Nat × Nat} (hC : mbC (ez_I h 72) (ez_I h 77) (ez_I h 78) (ez_I h 79) (ez_I h 80) (ez_I h 92) (ez_I h 93) (ez_I h 94) (ez_I h 95) (ez_I h 96) T n c) (hA : mbA fr to pl my T n c a J) (hF : mbF (ez_I h 100) (ez_I h 101) (ez_I h 102) (ez_I h 117) (ez_I h 118) T n a J) (hs : mS (ez_I h 75) s1) (hb : (ez_I h 71 16).toInt = (s1.2 : Nat)) (hg : aR (ez_I h 75) 8000 (-128) 127) (hr : (bkP T n a J (bkL T n a J) (bkE T n a J) s1).2 ≤ 64000) (K : ∀ h2, zW (fun q k => q = 71 ∧ k = 16) (fun q => q = 75 ∨ q = 103 ∨ q = 104 ∨ q = 115 ∨ q = 116) (fun _ => False) h h2 → mst (ez_I h2 75) (ez_I h2 71 16).toInt (bkP T n a J (bkL T n a J) (bkE T n a J) s1) → aR (ez_I h2 75) 8000 (-128) 127 → Q (.inl none) h2) : pw E (d + 2) 44 1066 [some (.ref 71), some (.int fr), some (.int to), some (.int pl), some (.int my), some (.int ls), l6, l7, l8, l9, l10, l11, l12, l13, l14, l15, l16] [] h Q := by
  have gfr := z_rng fr
  have gto := z_rng to
  have gpl := z_rng pl
  have gmy := z_rng my
  have gls := z_rng ls
  obtain ⟨cn, cc, hT0, hB, hpm, hlt, hpe, t92, t93, t94, t95, t96⟩ := hC
  obtain ⟨afr, ato, ajc, aj6, apl, amy, apn⟩ := hA
  have F := zW_refl (fun q k => q = 71 ∧ k = 16) (fun q => q = 75 ∨ q = 103 ∨ q = 104 ∨ q = 115 ∨ q = 116) (fun _ => False) h
  apply ez_Wp_in
  show ez_gw _ _ _ _ _ _ (cz_44) _ _ _ _ _
  refine gw_skip _ ?_
  have r1 := z_rng (ez_I h 71 16)
  refine gw_ld rfl rfl ?_
  refine gw_ld rfl rfl ?_
  refine z_gR (q := 100) (zT S (by decide) rfl) (zRf S (by decide) (by decide) rfl) (by decide) ?_
  refine z_C (m := 286) rfl rfl (fun x2 ex2 => ?_)
  refine gw_ld rfl rfl ?_
  refine z_gR (q := 103) (zT S (by decide) rfl) (zRf S (by decide) (by decide) rfl) (by decide) ?_
  refine z_cl rfl rfl rfl rfl rfl rfl rfl rfl rfl rfl rfl (zT S (by decide) rfl) ?_
  refine d_cds (u := 100) (n := x2) (w := 103) S (nu := 288) (nw := 288) (fun _ S => ⟨zT S (by decide) rfl, zN S (by decide) rfl⟩) (fun _ S => ⟨zT S (by decide) rfl, zN S (by decide) rfl⟩) (by decide) (by omega) (by rw [show x2.toInt.toNat = 286 by omega, (show ez_I h 100 = ez_I h 100 from zW_fn F 100 x71_34 x71_35)]; exact hF.1.2.1) (fun h3 F4 k5 => ?_)
  rw [show x2.toInt.toNat = 286 by omega, (show ez_I h 100 = ez_I h 100 from zW_fn F 100 x71_34 x71_35)] at k5
  have S6 := zW_sh F4 S
  have F7 := zW_tr F (zW_mono F4 (x71_6) (x71_36) (x71_8))
  have f8 : ez_I h3 71 16 = (ez_I h 71 16) := (zW_f F4 (by decide) (fun c => c)).trans (rfl)
  have A9 : mS (ez_I h3 75) s1 := by rw [zW_fn F4 75 (by decide) (fun _ c => c)]; exact hs
  have A10 : aR (ez_I h3 75) 8000 (-128) 127 := by rw [zW_fn F4 75 (by decide) (fun _ c => c)]; exact hg
  refine gw_ld rfl rfl ?_
  refine gw_ld rfl rfl ?_
  refine z_gR (q := 101) (zT S6 (by decide) rfl) (zRf S6 (by decide) (by decide) rfl) (by decide) ?_
  refine z_C (m := 30) rfl rfl (fun x11 ex11 => ?_)
  refine gw_ld rfl rfl ?_
  refine z_gR (q := 104) (zT S6 (by decide) rfl) (zRf S6 (by decide) (by decide) rfl) (by decide) ?_
  have t12 := congrArg Int32.toInt (f8)
  refine z_cl rfl rfl rfl rfl rfl rfl rfl rfl rfl rfl rfl (zT S6 (by decide) rfl) ?_
  refine d_cds (u := 101) (n := x11) (w := 104) S6 (nu := 30) (nw := 30) (fun _ S => ⟨zT S (by decide) rfl, zN S (by decide) rfl⟩) (fun _ S => ⟨zT S (by decide) rfl, zN S (by decide) rfl⟩) (by decide) (by omega) (by rw [show x11.toInt.toNat = 30 by omega, (show ez_I h3 101 = ez_I h 101 from zW_fn F7 101 x71_37 x71_38)]; exact hF.2.1.2.1) (fun h13 F14 k15 => ?_)
  rw [show x11.toInt.toNat = 30 by omega, (show ez_I h3 101 = ez_I h 101 from zW_fn F7 101 x71_37 x71_38)] at k15
  have S16 := zW_sh F14 S6
  have F17 := zW_tr F7 (zW_mono F14 (x71_6) (x71_39) (x71_8))
  have f18 : ez_I h13 71 16 = (ez_I h 71 16) := (zW_f F14 (by decide) (fun c => c)).trans (f8)
  have A19 : mS (ez_I h13 75) s1 := by rw [zW_fn F14 75 (by decide) (fun _ c => c)]; exact A9
  have A20 : aR (ez_I h13 75) 8000 (-128) 127 := by rw [zW_fn F14 75 (by decide) (fun _ c => c)]; exact A10
  have A21 : wdI (ez_I h13 103) (nL (ez_I h 100)) 286 286 := by rw [zW_fn F14 103 (by decide) (fun _ c => c)]; exact k5
  clear A9
  clear A10
  refine gw_ld rfl rfl ?_
  refine gw_ld rfl rfl ?_
  refine gw_ld rfl rfl ?_
  refine gw_ld rfl rfl ?_
  refine gw_ld rfl rfl ?_
  refine z_gR (q := 100) (zT S16 (by decide) rfl) (zRf S16 (by decide) (by decide) rfl) (by decide) ?_
  refine gw_ld rfl rfl ?_
  refine z_gR (q := 103) (zT S16 (by decide) rfl) (zRf S16 (by decide) (by decide) rfl) (by decide) ?_
  refine gw_ld rfl rfl ?_
  refine z_gR (q := 101) (zT S16 (by decide) rfl) (zRf S16 (by decide) (by decide) rfl) (by decide) ?_
  refine gw_ld rfl rfl ?_
  refine z_gR (q := 104) (zT S16 (by decide) rfl) (zRf S16 (by decide) (by decide) rfl) (by decide) ?_
  have t22 := congrArg Int32.toInt (f18)
  refine z_cl rfl rfl rfl rfl rfl rfl rfl rfl rfl rfl rfl (zT S16 (by decide) rfl) ?_
  have hsl : ∀ x, x < 286 → 1 ≤ (bkL T n a J) x → swP (ez_I h13 100) (ez_I h13 103) (bkL T n a J) (cdN (bkL T n a J) 288) x := fun x hx h1 => by rw [(show ez_I h13 100 = ez_I h 100 from zW_fn F17 100 x71_34 x71_35)]; exact sw_c A21 (hF.1.1) (wd_nL2 A21 hF.1.1 (by decide) (fun k a b => LNf_out a)) (hF.1.2.1) x (by omega) h1
  have hse : ∀ x, x < 30 → 1 ≤ (bkE T n a J) x → swP (ez_I h13 101) (ez_I h13 104) (bkE T n a J) (cdN (bkE T n a J) 288) x := fun x hx h1 => by rw [(show ez_I h13 101 = ez_I h 101 from zW_fn F17 101 x71_37 x71_38)]; exact sw_c k15 (hF.2.1.1) (wd_nL2 k15 hF.2.1.1 (by decide) (fun k a b => bkE_0 a)) (hF.2.1.2.1) x hx h1
  refine d_wPartsB (fr := fr) (to := to) (pl := pl) (T := T) (n := n) (nU := (bkL T n a J)) (nV := cdN (bkL T n a J) 288) (nW := (bkE T n a J)) (nY := cdN (bkE T n a J) 288) (s := s1) (c := c) (a := a) (J := J) S16 cn hT0 (by rw [(show ez_I h13 72 = ez_I h 72 from zW_fn F17 72 x71_40 x71_13)]; exact hB) (mS_m A19 (by rw [f18]; exact hb)) A20 (by rw [(show ez_I h13 77 = ez_I h 77 from zW_fn F17 77 x71_41 x71_15), (show ez_I h13 78 = ez_I h 78 from zW_fn F17 78 x71_42 x71_17), (show ez_I h13 79 = ez_I h 79 from zW_fn F17 79 x71_43 x71_19), (show ez_I h13 80 = ez_I h 80 from zW_fn F17 80 x71_44 x71_21)]; exact hpm) hlt cc ⟨afr, ato, ajc⟩ apl hsl hse (fun q hq => ⟨by have h8 := (lSy_lt hT0 hlt (k := q) (by omega)).1; rw [← hF.1.1 _ h8]; exact hF.1.2.2 _ h8 (by have h7 := bkC_pos (T := T) (n := n) (a := a) (j := J) (i := q - a) (by omega); rw [show a + (q - a) = q by omega] at h7; exact h7), fun z => by have h8 := (lSy_lt hT0 hlt (k := q) (by omega)).2 z; rw [← hF.2.1.1 _ h8]; exact hF.2.1.2.2 _ h8 (by have h7 := bkD_pos (T := T) (n := n) (a := a) (j := J) (i := q - a) (by omega) (by rw [show a + (q - a) = q by omega]; exact z); rw [show a + (q - a) = q by omega] at h7; exact h7)⟩) (by rw [← hF.1.1 256 (by decide)]; exact hF.1.2.2 256 (by decide) (cL_256 _ _ _ _)) (hr) (by rw [(show ez_I h13 92 = ez_I h 92 from zW_fn F17 92 x71_45 x71_23)]; exact t92) (by rw [(show ez_I h13 93 = ez_I h 93 from zW_fn F17 93 x71_46 x71_25)]; exact t93) (by rw [(show ez_I h13 94 = ez_I h 94 from zW_fn F17 94 x71_47 x71_27)]; exact t94) (by rw [(show ez_I h13 95 = ez_I h 95 from zW_fn F17 95 x71_48 x71_29)]; exact t95) (fun h23 F24 k25 k26 => ?_)
  have S27 := zW_sh F24 S16
  have F28 := zW_tr F17 (zW_mono F24 (x71_30) (x71_49) (x71_8))
  have r29 := z_rng (ez_I h23 71 16)
  have A30 : wdI (ez_I h23 103) (nL (ez_I h 100)) 286 286 := by rw [zW_fn F24 103 (by decide) (x71_50)]; exact A21
  have A31 : wdI (ez_I h23 104) (nL (ez_I h 101)) 30 30 := by rw [zW_fn F24 104 (by decide) (x71_51)]; exact k15
  clear A21
  refine z_rv ?_
  exact K _ F28 k25 k26
end
section
/-! PRINTED by wip/pack: the model writes a block: the head -/
theorem x71_52 : ¬ (72 = 75 ∨ 103 ≤ 72 ∧ 72 ≤ 105 ∨ 72 = 115 ∨ 72 = 116) := by omega
theorem x71_53 : ∀ k : Nat, ¬ (72 = 71 ∧ k = 16) := fun k c => by omega
theorem x71_54 : ¬ (77 = 75 ∨ 103 ≤ 77 ∧ 77 ≤ 105 ∨ 77 = 115 ∨ 77 = 116) := by omega
theorem x71_55 : ∀ k : Nat, ¬ (77 = 71 ∧ k = 16) := fun k c => by omega
theorem x71_56 : ¬ (78 = 75 ∨ 103 ≤ 78 ∧ 78 ≤ 105 ∨ 78 = 115 ∨ 78 = 116) := by omega
theorem x71_57 : ∀ k : Nat, ¬ (78 = 71 ∧ k = 16) := fun k c => by omega
theorem x71_58 : ¬ (79 = 75 ∨ 103 ≤ 79 ∧ 79 ≤ 105 ∨ 79 = 115 ∨ 79 = 116) := by omega
theorem x71_59 : ∀ k : Nat, ¬ (79 = 71 ∧ k = 16) := fun k c => by omega
theorem x71_60 : ¬ (80 = 75 ∨ 103 ≤ 80 ∧ 80 ≤ 105 ∨ 80 = 115 ∨ 80 = 116) := by omega
theorem x71_61 : ∀ k : Nat, ¬ (80 = 71 ∧ k = 16) := fun k c => by omega
theorem x71_62 : ¬ (92 = 75 ∨ 103 ≤ 92 ∧ 92 ≤ 105 ∨ 92 = 115 ∨ 92 = 116) := by omega
theorem x71_63 : ∀ k : Nat, ¬ (92 = 71 ∧ k = 16) := fun k c => by omega
theorem x71_64 : ¬ (93 = 75 ∨ 103 ≤ 93 ∧ 93 ≤ 105 ∨ 93 = 115 ∨ 93 = 116) := by omega
theorem x71_65 : ∀ k : Nat, ¬ (93 = 71 ∧ k = 16) := fun k c => by omega
theorem x71_66 : ¬ (94 = 75 ∨ 103 ≤ 94 ∧ 94 ≤ 105 ∨ 94 = 115 ∨ 94 = 116) := by omega
theorem x71_67 : ∀ k : Nat, ¬ (94 = 71 ∧ k = 16) := fun k c => by omega
theorem x71_68 : ¬ (95 = 75 ∨ 103 ≤ 95 ∧ 95 ≤ 105 ∨ 95 = 115 ∨ 95 = 116) := by omega
theorem x71_69 : ∀ k : Nat, ¬ (95 = 71 ∧ k = 16) := fun k c => by omega
theorem x71_70 : ¬ (96 = 75 ∨ 103 ≤ 96 ∧ 96 ≤ 105 ∨ 96 = 115 ∨ 96 = 116) := by omega
theorem x71_71 : ∀ k : Nat, ¬ (96 = 71 ∧ k = 16) := fun k c => by omega
theorem x71_72 : ¬ (100 = 75 ∨ 103 ≤ 100 ∧ 100 ≤ 105 ∨ 100 = 115 ∨ 100 = 116) := by omega
theorem x71_73 : ∀ k : Nat, ¬ (100 = 71 ∧ k = 16) := fun k c => by omega
theorem x71_74 : ¬ (101 = 75 ∨ 103 ≤ 101 ∧ 101 ≤ 105 ∨ 101 = 115 ∨ 101 = 116) := by omega
theorem x71_75 : ∀ k : Nat, ¬ (101 = 71 ∧ k = 16) := fun k c => by omega
theorem x71_76 : ¬ (102 = 75 ∨ 103 ≤ 102 ∧ 102 ≤ 105 ∨ 102 = 115 ∨ 102 = 116) := by omega
theorem x71_77 : ∀ k : Nat, ¬ (102 = 71 ∧ k = 16) := fun k c => by omega
theorem x71_78 : ¬ (117 = 75 ∨ 103 ≤ 117 ∧ 117 ≤ 105 ∨ 117 = 115 ∨ 117 = 116) := by omega
theorem x71_79 : ∀ k : Nat, ¬ (117 = 71 ∧ k = 16) := fun k c => by omega
theorem x71_80 : ¬ (118 = 75 ∨ 103 ≤ 118 ∧ 118 ≤ 105 ∨ 118 = 115 ∨ 118 = 116) := by omega
theorem x71_81 : ∀ k : Nat, ¬ (118 = 71 ∧ k = 16) := fun k c => by omega
theorem x71_82 : ∀ q k : Nat, (q = 71 ∧ k = 16) → (q = 71 ∧ k = 16) := fun q k hk => hk
theorem x71_83 : ∀ q : Nat, (q = 75 ∨ 103 ≤ q ∧ q ≤ 105 ∨ q = 115 ∨ q = 116) → (q = 75 ∨ 103 ≤ q ∧ q ≤ 105 ∨ q = 115 ∨ q = 116) := fun q hk => hk.elim (fun g => (.inl g)) (fun hk => hk.elim (fun g => (.inr (.inl g))) (fun hk => hk.elim (fun g => (.inr (.inr (.inl g)))) (fun hk => (.inr (.inr (.inr hk))))))
theorem x71_84 : ∀ q : Nat, (False) → (False) := fun q hk => hk.elim
theorem x71_85 : ∀ q : Nat, (q = 75 ∨ q = 103 ∨ q = 104 ∨ q = 115 ∨ q = 116) → (q = 75 ∨ 103 ≤ q ∧ q ≤ 105 ∨ q = 115 ∨ q = 116) := fun q hk => hk.elim (fun g => (.inl g)) (fun hk => hk.elim (fun g => (.inr (.inl (show 103 ≤ q ∧ q ≤ 105 by omega)))) (fun hk => hk.elim (fun g => (.inr (.inl (show 103 ≤ q ∧ q ≤ 105 by omega)))) (fun hk => hk.elim (fun g => (.inr (.inr (.inl g)))) (fun hk => (.inr (.inr (.inr hk)))))))
theorem x71_86 : ∀ q : Nat, (q = 75) → (q = 75 ∨ 103 ≤ q ∧ q ≤ 105 ∨ q = 115 ∨ q = 116) := fun q hk => (.inl hk)
theorem x71_87 : ∀ k : Nat, ¬ (105 = 71 ∧ k = 16) := fun k c => by omega
set_option maxRecDepth 4000 in
set_option maxHeartbeats 2000000 in
theorem w_s2_L1 {E : Nat → Nat × (Nat → Int32)} {d : Nat} {Q : ez_Q} {h : ez_H} {fr : Int32} {to : Int32} {pl : Int32} {my : Int32} {ls : Int32} {l6 : Option Value} {l7 : Option Value} {l8 : Option Value} {od : Int32} {l10 : Option Value} {l11 : Option Value} {l12 : Option Value} {l13 : Option Value} {l14 : Option Value} {b15 : Int32} {l16 : Option Value} (S : zSh h) {T : Nat → Int} {n c a J : Nat} {s1 : Nat × Nat} (hC : mbC (ez_I h 72) (ez_I h 77) (ez_I h 78) (ez_I h 79) (ez_I h 80) (ez_I h 92) (ez_I h 93) (ez_I h 94) (ez_I h 95) (ez_I h 96) T n c) (hA : mbA fr to pl my T n c a J) (hF : mbF (ez_I h 100) (ez_I h 101) (ez_I h 102) (ez_I h 117) (ez_I h 118) T n a J) (hT : mbT (ez_I h 71 56) (ez_I h 71 57) (ez_I h 71 58) T n a J) (hod : od.toInt = ((bkO T n a J) : Nat)) (hs : mS (ez_I h 75) s1) (hb : (ez_I h 71 16).toInt = (s1.2 : Nat)) (hg : aR (ez_I h 75) 8000 (-128) 127) (hr : (bkP T n a J (bkL T n a J) (bkE T n a J) (bkH T n a J s1)).2 ≤ 64000) (K : ∀ h2, zW (fun q k => q = 71 ∧ k = 16) (fun q => q = 75 ∨ 103 ≤ q ∧ q ≤ 105 ∨ q = 115 ∨ q = 116) (fun _ => False) h h2 → mst (ez_I h2 75) (ez_I h2 71 16).toInt (bkP T n a J (bkL T n a J) (bkE T n a J) (bkH T n a J s1)) → aR (ez_I h2 75) 8000 (-128) 127 → Q (.inl none) h2) : ∀ N : Nat, (∀ (h2 : ez_H) (k : Int32) , zW (fun q k => q = 71 ∧ k = 16) (fun q => q = 75 ∨ 103 ≤ q ∧ q ≤ 105 ∨ q = 115 ∨ q = 116) (fun _ => False) h h2 → (0 ≤ k.toInt ∧ k.toInt ≤ (bkR T n a J) ∧ (ez_I h2 71 16).toInt = ((sS (cdN (bkA T n a J) 288) (bkA T n a J) (rowF (bkL T n a J) (bkE T n a J)) (rowM (bkL T n a J) (bkE T n a J)) (oS (bkA T n a J) (hdS (tdM (bkL T n a J) 257 29) (tdM (bkE T n a J) 1 29) (bkO T n a J) s1) (bkO T n a J)) k.toInt.toNat).2 : Nat)) → (mS (ez_I h2 75) (sS (cdN (bkA T n a J) 288) (bkA T n a J) (rowF (bkL T n a J) (bkE T n a J)) (rowM (bkL T n a J) (bkE T n a J)) (oS (bkA T n a J) (hdS (tdM (bkL T n a J) 257 29) (tdM (bkE T n a J) 1 29) (bkO T n a J) s1) (bkO T n a J)) k.toInt.toNat)) → (aR (ez_I h2 75) 8000 (-128) 127) → (wdI (ez_I h2 105) (nL (ez_I h 102)) 19 19) → (1000 - k.toInt) < (N : Int) → pw E (d + 2) 44 1002 [some (.ref 71), some (.int fr), some (.int to), some (.int pl), some (.int my), some (.int ls), l6, l7, l8, some (.int od), l10, l11, l12, l13, l14, some (.int b15), some (.int k)] [] h2 Q) := by
  intro N
  induction N with
  | zero => exact fun h2 k  F hinv A_st A_hg A_wd105 hm => absurd hm (by have hr316 := hF.2.2.2.2.2; have w_k := z_rng k; have gfr := z_rng fr; have gto := z_rng to; have gpl := z_rng pl; have gmy := z_rng my; have gls := z_rng ls; have god := z_rng od; have gb15 := z_rng b15; omega)
  | succ N ih =>
    refine fun h2 k  F hinv A_st A_hg A_wd105 hm => ?_
    · skip
      have hr316 := hF.2.2.2.2.2
      have w_k := z_rng k
      have gfr := z_rng fr
      have gto := z_rng to
      have gpl := z_rng pl
      have gmy := z_rng my
      have gls := z_rng ls
      have god := z_rng od
      have gb15 := z_rng b15
      have S2 := zW_sh F S
      obtain ⟨hk0, hkO, hbb⟩ := hinv
      have hss : (sS (cdN (bkA T n a J) 288) (bkA T n a J) (rowF (bkL T n a J) (bkE T n a J)) (rowM (bkL T n a J) (bkE T n a J)) (oS (bkA T n a J) (hdS (tdM (bkL T n a J) 257 29) (tdM (bkE T n a J) 1 29) (bkO T n a J) s1) (bkO T n a J)) k.toInt.toNat).2 = s1.2 + 14 + 3 * (bkO T n a J) + sN (fun q => (bkA T n a J) (tS (rowF (bkL T n a J) (bkE T n a J)) (rowM (bkL T n a J) (bkE T n a J)) q) + rEf (tS (rowF (bkL T n a J) (bkE T n a J)) (rowM (bkL T n a J) (bkE T n a J)) q)) k.toInt.toNat := by rw [sS_2, oS_2]; show s1.2 + 5 + 5 + 4 + 3 * (bkO T n a J) + _ = _; omega
      obtain ⟨hx6, hx7, hx8⟩ := id hT
      have ho := tdM_rng (fun q => (bkA T n a J) (ORf q)) 4 15
      have ho2 : (bkO T n a J) = tdM (fun q => (bkA T n a J) (ORf q)) 4 15 := rfl
      have htd1 := tdM_rng (bkL T n a J) 257 29
      have htd2 := tdM_rng (bkE T n a J) 1 29
      have hhr := hd_bd hr
      apply ez_Wp_in
      show ez_gw _ _ _ _ _ _ (cz_44) _ _ _ _ _
      refine gw_skip _ ?_
      have r1 := z_rng (ez_I h2 71 16)
      refine gw_ld rfl rfl ?_
      refine gw_ld rfl rfl ?_
      have r2 := z_rng (ez_I h 71 56)
      refine z_gI2 (by decide) (zT S2 (by decide) rfl) (zW_f F (by decide) (by decide)) ?_
      refine z_b2 (fun c3 => ?_) (fun c3 => ?_)
      · have c3 : ((ez_I h 71 56)).toInt ≤ k.toInt := c3
        refine gw_skip _ (ez_Wp_at (w_s3  (T := T) (n := n) (c := c) (a := a) (J := J) (s1 := (bkH T n a J s1)) S2 (by rw [(show ez_I h2 72 = ez_I h 72 from zW_fn F 72 x71_52 x71_53), (show ez_I h2 77 = ez_I h 77 from zW_fn F 77 x71_54 x71_55), (show ez_I h2 78 = ez_I h 78 from zW_fn F 78 x71_56 x71_57), (show ez_I h2 79 = ez_I h 79 from zW_fn F 79 x71_58 x71_59), (show ez_I h2 80 = ez_I h 80 from zW_fn F 80 x71_60 x71_61), (show ez_I h2 92 = ez_I h 92 from zW_fn F 92 x71_62 x71_63), (show ez_I h2 93 = ez_I h 93 from zW_fn F 93 x71_64 x71_65), (show ez_I h2 94 = ez_I h 94 from zW_fn F 94 x71_66 x71_67), (show ez_I h2 95 = ez_I h 95 from zW_fn F 95 x71_68 x71_69), (show ez_I h2 96 = ez_I h 96 from zW_fn F 96 x71_70 x71_71)]; exact hC) hA (by rw [(show ez_I h2 100 = ez_I h 100 from zW_fn F 100 x71_72 x71_73), (show ez_I h2 101 = ez_I h 101 from zW_fn F 101 x71_74 x71_75), (show ez_I h2 102 = ez_I h 102 from zW_fn F 102 x71_76 x71_77), (show ez_I h2 117 = ez_I h 117 from zW_fn F 117 x71_78 x71_79), (show ez_I h2 118 = ez_I h 118 from zW_fn F 118 x71_80 x71_81)]; exact hF) (by have b1 := A_st; rw [show k.toInt.toNat = (bkR T n a J) by omega] at b1; exact b1) (by have b1 := hbb; rw [show k.toInt.toNat = (bkR T n a J) by omega] at b1; exact b1) A_hg hr (fun h4 F5 k6 k7 => ?_)) rfl)
        have F8 := zW_tr (zW_mono F x71_82 x71_83 x71_84) (zW_mono F5 x71_82 x71_85 x71_84)
        exact K _ F8 k6 k7
      · have c3 : ¬ (((ez_I h 71 56)).toInt ≤ k.toInt) := c3
        have hmo := sN_mono (f := fun q => (bkA T n a J) (tS (rowF (bkL T n a J) (bkE T n a J)) (rowM (bkL T n a J) (bkE T n a J)) q) + rEf (tS (rowF (bkL T n a J) (bkE T n a J)) (rowM (bkL T n a J) (bkE T n a J)) q)) (n := k.toInt.toNat + 1) (bkR T n a J) (by omega)
        have hsu : sN (fun q => (bkA T n a J) (tS (rowF (bkL T n a J) (bkE T n a J)) (rowM (bkL T n a J) (bkE T n a J)) q) + rEf (tS (rowF (bkL T n a J) (bkE T n a J)) (rowM (bkL T n a J) (bkE T n a J)) q)) (k.toInt.toNat + 1) = sN (fun q => (bkA T n a J) (tS (rowF (bkL T n a J) (bkE T n a J)) (rowM (bkL T n a J) (bkE T n a J)) q) + rEf (tS (rowF (bkL T n a J) (bkE T n a J)) (rowM (bkL T n a J) (bkE T n a J)) q)) k.toInt.toNat + ((bkA T n a J) (tS (rowF (bkL T n a J) (bkE T n a J)) (rowM (bkL T n a J) (bkE T n a J)) k.toInt.toNat) + rEf (tS (rowF (bkL T n a J) (bkE T n a J)) (rowM (bkL T n a J) (bkE T n a J)) k.toInt.toNat)) := rfl
        refine gw_ld rfl rfl ?_
        refine gw_ld rfl rfl ?_
        refine z_gR (q := 105) (zT S2 (by decide) rfl) (zRf S2 (by decide) (by decide) rfl) (by decide) ?_
        refine gw_ld rfl rfl ?_
        refine z_gR (q := 117) (zT S2 (by decide) rfl) (zRf S2 (by decide) (by decide) rfl) (by decide) ?_
        refine gw_ld rfl rfl ?_
        refine z_iaV (n := 330) (zT S2 (by decide) rfl) (zN S2 (by decide) rfl) (by omega) (zW_f F (by decide) (x71_79 _)) ?_
        generalize ex9 : ez_I h 117 k.toInt.toNat = x9
        have rx9 := z_rng x9
        obtain ⟨te1, te2⟩ := hF.2.2.2.1 k.toInt.toNat (by omega)
        rw [show k.toInt.toNat = k.toInt.toNat by omega, ex9] at te1
        rw [show k.toInt.toNat = k.toInt.toNat by omega] at te1
        have tso := mbF_ok hF k.toInt.toNat (by omega)
        have tso1 := tso.1
        have tsl := hF.2.2.1.1 (tS (rowF (bkL T n a J) (bkE T n a J)) (rowM (bkL T n a J) (bkE T n a J)) k.toInt.toNat) (by omega)
        have tsu := hF.2.2.1.2.2 (tS (rowF (bkL T n a J) (bkE T n a J)) (rowM (bkL T n a J) (bkE T n a J)) k.toInt.toNat) (by omega) (tC_pos (bkR T n a J) k.toInt.toNat (by omega))
        have hs7 := rEf_7 (tS (rowF (bkL T n a J) (bkE T n a J)) (rowM (bkL T n a J) (bkE T n a J)) k.toInt.toNat)
        refine z_ia (n := 19) (zT S2 (by decide) rfl) (zN S2 (by decide) rfl) (by omega) ?_
        generalize ex10 : ez_I h2 105 x9.toInt.toNat = x10
        have rx10 := z_rng x10
        have yw : x10.toInt = (cdN (bkA T n a J) 288 (tS (rowF (bkL T n a J) (bkE T n a J)) (rowM (bkL T n a J) (bkE T n a J)) k.toInt.toNat) : Nat) := by have h9 := A_wd105 (tS (rowF (bkL T n a J) (bkE T n a J)) (rowM (bkL T n a J) (bkE T n a J)) k.toInt.toNat) (by omega) (by omega); rw [show (tS (rowF (bkL T n a J) (bkE T n a J)) (rowM (bkL T n a J) (bkE T n a J)) k.toInt.toNat) = x9.toInt.toNat by omega, ex10] at h9; rw [h9, show x9.toInt.toNat = (tS (rowF (bkL T n a J) (bkE T n a J)) (rowM (bkL T n a J) (bkE T n a J)) k.toInt.toNat) by omega, cdN_congr (L' := (bkA T n a J)) (N' := 288) (fun l hl => (by rw [ctN_congr 19 hF.2.2.1.1, ← ctN_more hl 288 (by decide) (fun k a b => bkA_0 a)])) (fun j hj => hF.2.2.1.1 j (by omega))]
        refine gw_ld rfl rfl ?_
        refine z_gR (q := 102) (zT S2 (by decide) rfl) (zRf S2 (by decide) (by decide) rfl) (by decide) ?_
        refine gw_ld rfl rfl ?_
        refine z_gR (q := 117) (zT S2 (by decide) rfl) (zRf S2 (by decide) (by decide) rfl) (by decide) ?_
        refine gw_ld rfl rfl ?_
        refine z_iaV (n := 330) (zT S2 (by decide) rfl) (zN S2 (by decide) rfl) (by omega) ((zW_f F (by decide) (x71_79 _)).trans ex9) ?_
        refine z_iaV (n := 19) (zT S2 (by decide) rfl) (zN S2 (by decide) rfl) (by omega) (zW_f F (by decide) (x71_77 _)) ?_
        generalize ex12 : ez_I h 102 x9.toInt.toNat = x12
        have rx12 := z_rng x12
        have yx12 := hF.2.2.1.2.1 x9.toInt.toNat (by omega)
        rw [ex12] at yx12
        have yl : (bkA T n a J) (tS (rowF (bkL T n a J) (bkE T n a J)) (rowM (bkL T n a J) (bkE T n a J)) k.toInt.toNat) = x12.toInt.toNat := by rw [← tsl]; show (ez_I h 102 (tS (rowF (bkL T n a J) (bkE T n a J)) (rowM (bkL T n a J) (bkE T n a J)) k.toInt.toNat)).toInt.toNat = _; rw [show (tS (rowF (bkL T n a J) (bkE T n a J)) (rowM (bkL T n a J) (bkE T n a J)) k.toInt.toNat) = x9.toInt.toNat by omega, ex12]
        refine z_cl rfl rfl rfl rfl rfl rfl rfl rfl rfl rfl rfl (zT S2 (by decide) rfl) ?_
        refine d_wbV (s := (sS (cdN (bkA T n a J) 288) (bkA T n a J) (rowF (bkL T n a J) (bkE T n a J)) (rowM (bkL T n a J) (bkE T n a J)) (oS (bkA T n a J) (hdS (tdM (bkL T n a J) 257 29) (tdM (bkE T n a J) 1 29) (bkO T n a J) s1) (bkO T n a J)) k.toInt.toNat)) (V := cdN (bkA T n a J) 288 (tS (rowF (bkL T n a J) (bkE T n a J)) (rowM (bkL T n a J) (bkE T n a J)) k.toInt.toNat)) (N := (bkA T n a J) (tS (rowF (bkL T n a J) (bkE T n a J)) (rowM (bkL T n a J) (bkE T n a J)) k.toInt.toNat)) (v := x10) (n := x12) S2 A_st (hbb) A_hg (yw) (by omega) (cdN_lt _ _ _) (by omega) (by rw [hss]; omega) (fun h13 F14 k15 k16 k17 => ?_)
        have S18 := zW_sh F14 S2
        have F19 := zW_tr F (zW_mono F14 (x71_82) (x71_86) (x71_84))
        have r20 := z_rng (ez_I h13 71 16)
        have A21 : wdI (ez_I h13 105) (nL (ez_I h 102)) 19 19 := by rw [zW_fn F14 105 (by decide) (x71_87)]; exact A_wd105
        refine gw_ld rfl rfl ?_
        refine gw_ld rfl rfl ?_
        refine z_gR (q := 118) (zT S18 (by decide) rfl) (zRf S18 (by decide) (by decide) rfl) (by decide) ?_
        refine gw_ld rfl rfl ?_
        refine z_iaV (n := 330) (zT S18 (by decide) rfl) (zN S18 (by decide) rfl) (by omega) (zW_f F19 (by decide) (x71_81 _)) ?_
        generalize ex22 : ez_I h 118 k.toInt.toNat = x22
        have rx22 := z_rng x22
        rw [show k.toInt.toNat = k.toInt.toNat by omega, ex22] at te2
        rw [show k.toInt.toNat = k.toInt.toNat by omega] at te2
        refine gw_ld rfl rfl ?_
        refine z_gR (q := 117) (zT S18 (by decide) rfl) (zRf S18 (by decide) (by decide) rfl) (by decide) ?_
        refine gw_ld rfl rfl ?_
        refine z_iaV (n := 330) (zT S18 (by decide) rfl) (zN S18 (by decide) rfl) (by omega) ((zW_f F19 (by decide) (x71_79 _)).trans ex9) ?_
        refine z_cl rfl rfl rfl rfl rfl rfl rfl rfl rfl rfl rfl (trivial) ?_
        refine d_rest (y := x9) S18 (by omega) (fun x24 k25 => ?_)
        have rx24 := z_rng x24
        rw [show x9.toInt.toNat = (tS (rowF (bkL T n a J) (bkE T n a J)) (rowM (bkL T n a J) (bkE T n a J)) k.toInt.toNat) by omega] at k25
        refine z_cl rfl rfl rfl rfl rfl rfl rfl rfl rfl rfl rfl (zT S18 (by decide) rfl) ?_
        refine d_wbV (s := (wr (sS (cdN (bkA T n a J) 288) (bkA T n a J) (rowF (bkL T n a J) (bkE T n a J)) (rowM (bkL T n a J) (bkE T n a J)) (oS (bkA T n a J) (hdS (tdM (bkL T n a J) 257 29) (tdM (bkE T n a J) 1 29) (bkO T n a J) s1) (bkO T n a J)) k.toInt.toNat) (cdN (bkA T n a J) 288 (tS (rowF (bkL T n a J) (bkE T n a J)) (rowM (bkL T n a J) (bkE T n a J)) k.toInt.toNat)) ((bkA T n a J) (tS (rowF (bkL T n a J) (bkE T n a J)) (rowM (bkL T n a J) (bkE T n a J)) k.toInt.toNat)))) (V := (tX (rowF (bkL T n a J) (bkE T n a J)) (rowM (bkL T n a J) (bkE T n a J)) k.toInt.toNat)) (N := rEf (tS (rowF (bkL T n a J) (bkE T n a J)) (rowM (bkL T n a J) (bkE T n a J)) k.toInt.toNat)) (v := x22) (n := x24) S18 k15 (k16) k17 (by omega) (by omega) (tso.2) (by omega) (by show (sS (cdN (bkA T n a J) 288) (bkA T n a J) (rowF (bkL T n a J) (bkE T n a J)) (rowM (bkL T n a J) (bkE T n a J)) (oS (bkA T n a J) (hdS (tdM (bkL T n a J) 257 29) (tdM (bkE T n a J) 1 29) (bkO T n a J) s1) (bkO T n a J)) k.toInt.toNat).2 + (bkA T n a J) (tS (rowF (bkL T n a J) (bkE T n a J)) (rowM (bkL T n a J) (bkE T n a J)) k.toInt.toNat) + _ ≤ _; rw [hss]; omega) (fun h26 F27 k28 k29 k30 => ?_)
        have S31 := zW_sh F27 S18
        have F32 := zW_tr F19 (zW_mono F27 (x71_82) (x71_86) (x71_84))
        have r33 := z_rng (ez_I h26 71 16)
        have A34 : wdI (ez_I h26 105) (nL (ez_I h 102)) 19 19 := by rw [zW_fn F27 105 (by decide) (x71_87)]; exact A21
        clear A21
        refine z_inc rfl (by rw [show (1 : Int32).toInt = 1 from rfl]; omega) (fun x35 ex35 => ?_)
        rw [show (1 : Int32).toInt = 1 from rfl] at ex35
        show ez_gw _ _ _ _ _ _ _ _ [some (.ref 71), some (.int fr), some (.int to), some (.int pl), some (.int my), some (.int ls), l6, l7, l8, some (.int od), l10, l11, l12, l13, l14, some (.int b15), some (.int x35)] _ _ _
        refine z_go ?_
        exact ih h26 x35 F32 (⟨by omega, by omega, by rw [show x35.toInt.toNat = k.toInt.toNat + 1 by omega]; exact k29⟩) ((by rw [show x35.toInt.toNat = k.toInt.toNat + 1 by omega]; exact k28)) k30 A34 (by omega)
theorem x71_88 : ∀ q k : Nat, (False) → (q = 71 ∧ k = 16) := fun q k hk => hk.elim
theorem x71_89 : ∀ q : Nat, (q = 115 ∨ q = 116 ∨ q = 105) → (q = 75 ∨ 103 ≤ q ∧ q ≤ 105 ∨ q = 115 ∨ q = 116) := fun q hk => hk.elim (fun g => (.inr (.inr (.inl g)))) (fun hk => hk.elim (fun g => (.inr (.inr (.inr g)))) (fun hk => (.inr (.inl (show 103 ≤ q ∧ q ≤ 105 by omega)))))
set_option maxRecDepth 4000 in
set_option maxHeartbeats 2000000 in
theorem w_s2_L0 {E : Nat → Nat × (Nat → Int32)} {d : Nat} {Q : ez_Q} {h : ez_H} {fr : Int32} {to : Int32} {pl : Int32} {my : Int32} {ls : Int32} {l6 : Option Value} {l7 : Option Value} {l8 : Option Value} {od : Int32} {l10 : Option Value} {l11 : Option Value} {l12 : Option Value} {l13 : Option Value} {l14 : Option Value} {b15 : Int32} {l16 : Option Value} (S : zSh h) {T : Nat → Int} {n c a J : Nat} {s1 : Nat × Nat} (hC : mbC (ez_I h 72) (ez_I h 77) (ez_I h 78) (ez_I h 79) (ez_I h 80) (ez_I h 92) (ez_I h 93) (ez_I h 94) (ez_I h 95) (ez_I h 96) T n c) (hA : mbA fr to pl my T n c a J) (hF : mbF (ez_I h 100) (ez_I h 101) (ez_I h 102) (ez_I h 117) (ez_I h 118) T n a J) (hT : mbT (ez_I h 71 56) (ez_I h 71 57) (ez_I h 71 58) T n a J) (hod : od.toInt = ((bkO T n a J) : Nat)) (hs : mS (ez_I h 75) s1) (hb : (ez_I h 71 16).toInt = (s1.2 : Nat)) (hg : aR (ez_I h 75) 8000 (-128) 127) (hr : (bkP T n a J (bkL T n a J) (bkE T n a J) (bkH T n a J s1)).2 ≤ 64000) (K : ∀ h2, zW (fun q k => q = 71 ∧ k = 16) (fun q => q = 75 ∨ 103 ≤ q ∧ q ≤ 105 ∨ q = 115 ∨ q = 116) (fun _ => False) h h2 → mst (ez_I h2 75) (ez_I h2 71 16).toInt (bkP T n a J (bkL T n a J) (bkE T n a J) (bkH T n a J s1)) → aR (ez_I h2 75) 8000 (-128) 127 → Q (.inl none) h2) : ∀ N : Nat, (∀ (h2 : ez_H) (k : Int32) , zW (fun q k => q = 71 ∧ k = 16) (fun q => q = 75 ∨ 103 ≤ q ∧ q ≤ 105 ∨ q = 115 ∨ q = 116) (fun _ => False) h h2 → (0 ≤ k.toInt ∧ k.toInt ≤ (bkO T n a J) ∧ (ez_I h2 71 16).toInt = ((oS (bkA T n a J) (hdS (tdM (bkL T n a J) 257 29) (tdM (bkE T n a J) 1 29) (bkO T n a J) s1) k.toInt.toNat).2 : Nat)) → (mS (ez_I h2 75) (oS (bkA T n a J) (hdS (tdM (bkL T n a J) 257 29) (tdM (bkE T n a J) 1 29) (bkO T n a J) s1) k.toInt.toNat)) → (aR (ez_I h2 75) 8000 (-128) 127) → (1000 - k.toInt) < (N : Int) → pw E (d + 2) 44 955 [some (.ref 71), some (.int fr), some (.int to), some (.int pl), some (.int my), some (.int ls), l6, l7, l8, some (.int od), l10, l11, l12, l13, l14, some (.int b15), some (.int k)] [] h2 Q) := by
  intro N
  induction N with
  | zero => exact fun h2 k  F hinv A_st A_hg hm => absurd hm (by have ho := tdM_rng (fun q => (bkA T n a J) (ORf q)) 4 15; have ho2 : (bkO T n a J) = tdM (fun q => (bkA T n a J) (ORf q)) 4 15 := rfl; have w_k := z_rng k; have gfr := z_rng fr; have gto := z_rng to; have gpl := z_rng pl; have gmy := z_rng my; have gls := z_rng ls; have god := z_rng od; have gb15 := z_rng b15; omega)
  | succ N ih =>
    refine fun h2 k  F hinv A_st A_hg hm => ?_
    · skip
      have ho := tdM_rng (fun q => (bkA T n a J) (ORf q)) 4 15
      have ho2 : (bkO T n a J) = tdM (fun q => (bkA T n a J) (ORf q)) 4 15 := rfl
      have w_k := z_rng k
      have gfr := z_rng fr
      have gto := z_rng to
      have gpl := z_rng pl
      have gmy := z_rng my
      have gls := z_rng ls
      have god := z_rng od
      have gb15 := z_rng b15
      have S2 := zW_sh F S
      obtain ⟨hk0, hkO, hbb⟩ := hinv
      have t96 := hC.2.2.2.2.2.2.2.2.2.2.2
      have ho9 : (oS (bkA T n a J) (hdS (tdM (bkL T n a J) 257 29) (tdM (bkE T n a J) 1 29) (bkO T n a J) s1) k.toInt.toNat).2 = s1.2 + 5 + 5 + 4 + 3 * k.toInt.toNat := oS_2 _ _ _
      have ha7 := (mbF_15 hF).2.2
      obtain ⟨hx6, hx7, hx8⟩ := id hT
      have ho := tdM_rng (fun q => (bkA T n a J) (ORf q)) 4 15
      have ho2 : (bkO T n a J) = tdM (fun q => (bkA T n a J) (ORf q)) 4 15 := rfl
      have htd1 := tdM_rng (bkL T n a J) 257 29
      have htd2 := tdM_rng (bkE T n a J) 1 29
      have hhr := hd_bd hr
      apply ez_Wp_in
      show ez_gw _ _ _ _ _ _ (cz_44) _ _ _ _ _
      refine gw_skip _ ?_
      have r1 := z_rng (ez_I h2 71 16)
      refine gw_ld rfl rfl ?_
      refine gw_ld rfl rfl ?_
      refine z_b2 (fun c2 => ?_) (fun c2 => ?_)
      · have c2 : od.toInt ≤ k.toInt := c2
        refine gw_skip _ ?_
        refine gw_ld rfl rfl ?_
        refine gw_ld rfl rfl ?_
        refine z_gR (q := 102) (zT S2 (by decide) rfl) (zRf S2 (by decide) (by decide) rfl) (by decide) ?_
        refine z_C (m := 19) rfl rfl (fun x3 ex3 => ?_)
        refine gw_ld rfl rfl ?_
        refine z_gR (q := 105) (zT S2 (by decide) rfl) (zRf S2 (by decide) (by decide) rfl) (by decide) ?_
        refine z_cl rfl rfl rfl rfl rfl rfl rfl rfl rfl rfl rfl (zT S2 (by decide) rfl) ?_
        refine d_cds (u := 102) (n := x3) (w := 105) S2 (nu := 19) (nw := 19) (fun _ S => ⟨zT S (by decide) rfl, zN S (by decide) rfl⟩) (fun _ S => ⟨zT S (by decide) rfl, zN S (by decide) rfl⟩) (by decide) (by omega) (by rw [show x3.toInt.toNat = 19 by omega, (show ez_I h2 102 = ez_I h 102 from zW_fn F 102 x71_76 x71_77)]; exact aR_le hF.2.2.1.2.1 (by decide)) (fun h4 F5 k6 => ?_)
        rw [show x3.toInt.toNat = 19 by omega, (show ez_I h2 102 = ez_I h 102 from zW_fn F 102 x71_76 x71_77)] at k6
        have S7 := zW_sh F5 S2
        have F8 := zW_tr F (zW_mono F5 (x71_88) (x71_89) (x71_84))
        have f9 : ez_I h4 71 16 = (ez_I h2 71 16) := (zW_f F5 (by decide) (fun c => c)).trans (rfl)
        have A10 : mS (ez_I h4 75) (oS (bkA T n a J) (hdS (tdM (bkL T n a J) 257 29) (tdM (bkE T n a J) 1 29) (bkO T n a J) s1) k.toInt.toNat) := by rw [zW_fn F5 75 (by decide) (fun _ c => c)]; exact A_st
        have A11 : aR (ez_I h4 75) 8000 (-128) 127 := by rw [zW_fn F5 75 (by decide) (fun _ c => c)]; exact A_hg
        refine z_C (m := 0) rfl rfl (fun x12 ex12 => ?_)
        refine gw_st rfl rfl rfl ?_
        show ez_gw _ _ _ _ _ _ _ _ [some (.ref 71), some (.int fr), some (.int to), some (.int pl), some (.int my), some (.int ls), l6, l7, l8, some (.int od), l10, l11, l12, l13, l14, some (.int b15), some (.int x12)] _ _ _
        have t13 := congrArg Int32.toInt (f9)
        exact ez_Wp_at ((w_s2_L1 (fr := fr) (to := to) (pl := pl) (my := my) (ls := ls) (l6 := l6) (l7 := l7) (l8 := l8) (od := od) (l10 := l10) (l11 := l11) (l12 := l12) (l13 := l13) (l14 := l14) (b15 := b15) (l16 := l16) S hC hA hF hT hod hs hb hg hr K (((1000 - x12.toInt)).toNat + 1)) h4 x12 F8 (⟨by omega, by omega, by rw [show x12.toInt.toNat = 0 by omega]; exact (by have b1 := hbb; rw [show k.toInt.toNat = (bkO T n a J) by omega] at b1; rw [f9]; exact b1)⟩) ((by rw [show x12.toInt.toNat = 0 by omega]; have b1 := A10; rw [show k.toInt.toNat = (bkO T n a J) by omega] at b1; exact b1)) A11 k6 (by omega)) rfl
      · have c2 : ¬ (od.toInt ≤ k.toInt) := c2
        refine gw_ld rfl rfl ?_
        refine gw_ld rfl rfl ?_
        refine z_gR (q := 102) (zT S2 (by decide) rfl) (zRf S2 (by decide) (by decide) rfl) (by decide) ?_
        refine gw_ld rfl rfl ?_
        refine z_gR (q := 96) (zT S2 (by decide) rfl) (zRf S2 (by decide) (by decide) rfl) (by decide) ?_
        refine gw_ld rfl rfl ?_
        refine z_iaV (n := 19) (zT S2 (by decide) rfl) (zN S2 (by decide) rfl) (by omega) (zW_f F (by decide) (x71_71 _)) ?_
        generalize ex14 : ez_I h 96 k.toInt.toNat = x14
        have rx14 := z_rng x14
        have yx14 := t96 k.toInt.toNat (by omega)
        rw [ex14, show k.toInt.toNat = k.toInt.toNat by omega] at yx14
        have uo := OR_18 k.toInt.toNat (by omega)
        refine z_iaV (n := 19) (zT S2 (by decide) rfl) (zN S2 (by decide) rfl) (by omega) (zW_f F (by decide) (x71_77 _)) ?_
        generalize ex15 : ez_I h 102 x14.toInt.toNat = x15
        have rx15 := z_rng x15
        have yx : x14.toInt.toNat = ORf k.toInt.toNat := by omega
        have yx15 := hF.2.2.1.2.1 x14.toInt.toNat (by omega)
        have yl := hF.2.2.1.1 x14.toInt.toNat (by omega)
        have ym : nL (ez_I h 102) x14.toInt.toNat = x15.toInt.toNat := by show (ez_I h 102 _).toInt.toNat = _; rw [ex15]
        rw [ex15] at yx15
        rw [ym, yx] at yl
        refine z_C (m := 3) rfl rfl (fun x16 ex16 => ?_)
        refine z_cl rfl rfl rfl rfl rfl rfl rfl rfl rfl rfl rfl (zT S2 (by decide) rfl) ?_
        refine d_wbV (s := (oS (bkA T n a J) (hdS (tdM (bkL T n a J) 257 29) (tdM (bkE T n a J) 1 29) (bkO T n a J) s1) k.toInt.toNat)) (V := (bkA T n a J) (ORf k.toInt.toNat)) (N := 3) (v := x15) (n := x16) S2 A_st (hbb) A_hg (by omega) (by omega) (by show _ < 8; omega) (by decide) (by rw [ho9]; omega) (fun h17 F18 k19 k20 k21 => ?_)
        have S22 := zW_sh F18 S2
        have F23 := zW_tr F (zW_mono F18 (x71_82) (x71_86) (x71_84))
        have r24 := z_rng (ez_I h17 71 16)
        refine z_inc rfl (by rw [show (1 : Int32).toInt = 1 from rfl]; omega) (fun x25 ex25 => ?_)
        rw [show (1 : Int32).toInt = 1 from rfl] at ex25
        show ez_gw _ _ _ _ _ _ _ _ [some (.ref 71), some (.int fr), some (.int to), some (.int pl), some (.int my), some (.int ls), l6, l7, l8, some (.int od), l10, l11, l12, l13, l14, some (.int b15), some (.int x25)] _ _ _
        refine z_go ?_
        exact ih h17 x25 F23 (⟨by omega, by omega, by rw [show x25.toInt.toNat = k.toInt.toNat + 1 by omega]; exact k20⟩) ((by rw [show x25.toInt.toNat = k.toInt.toNat + 1 by omega]; exact k19)) k21 (by omega)
set_option maxRecDepth 4000 in
set_option maxHeartbeats 2000000 in
theorem w_s2 {E : Nat → Nat × (Nat → Int32)} {d : Nat} {Q : ez_Q} {h : ez_H} {fr : Int32} {to : Int32} {pl : Int32} {my : Int32} {ls : Int32} {l6 : Option Value} {l7 : Option Value} {l8 : Option Value} {od : Int32} {l10 : Option Value} {l11 : Option Value} {l12 : Option Value} {l13 : Option Value} {l14 : Option Value} {b15 : Int32} {l16 : Option Value} (S : zSh h) {T : Nat → Int} {n c a J : Nat} {s1 : Nat × Nat} (hC : mbC (ez_I h 72) (ez_I h 77) (ez_I h 78) (ez_I h 79) (ez_I h 80) (ez_I h 92) (ez_I h 93) (ez_I h 94) (ez_I h 95) (ez_I h 96) T n c) (hA : mbA fr to pl my T n c a J) (hF : mbF (ez_I h 100) (ez_I h 101) (ez_I h 102) (ez_I h 117) (ez_I h 118) T n a J) (hT : mbT (ez_I h 71 56) (ez_I h 71 57) (ez_I h 71 58) T n a J) (hod : od.toInt = ((bkO T n a J) : Nat)) (hs : mS (ez_I h 75) s1) (hb : (ez_I h 71 16).toInt = (s1.2 : Nat)) (hg : aR (ez_I h 75) 8000 (-128) 127) (hr : (bkP T n a J (bkL T n a J) (bkE T n a J) (bkH T n a J s1)).2 ≤ 64000) (K : ∀ h2, zW (fun q k => q = 71 ∧ k = 16) (fun q => q = 75 ∨ 103 ≤ q ∧ q ≤ 105 ∨ q = 115 ∨ q = 116) (fun _ => False) h h2 → mst (ez_I h2 75) (ez_I h2 71 16).toInt (bkP T n a J (bkL T n a J) (bkE T n a J) (bkH T n a J s1)) → aR (ez_I h2 75) 8000 (-128) 127 → Q (.inl none) h2) : pw E (d + 2) 44 919 [some (.ref 71), some (.int fr), some (.int to), some (.int pl), some (.int my), some (.int ls), l6, l7, l8, some (.int od), l10, l11, l12, l13, l14, some (.int b15), l16] [] h Q := by
  have gfr := z_rng fr
  have gto := z_rng to
  have gpl := z_rng pl
  have gmy := z_rng my
  have gls := z_rng ls
  have god := z_rng od
  have gb15 := z_rng b15
  obtain ⟨hx6, hx7, hx8⟩ := id hT
  have ho := tdM_rng (fun q => (bkA T n a J) (ORf q)) 4 15
  have ho2 : (bkO T n a J) = tdM (fun q => (bkA T n a J) (ORf q)) 4 15 := rfl
  have htd1 := tdM_rng (bkL T n a J) 257 29
  have htd2 := tdM_rng (bkE T n a J) 1 29
  have hhr := hd_bd hr
  have F := zW_refl (fun q k => q = 71 ∧ k = 16) (fun q => q = 75 ∨ 103 ≤ q ∧ q ≤ 105 ∨ q = 115 ∨ q = 116) (fun _ => False) h
  apply ez_Wp_in
  show ez_gw _ _ _ _ _ _ (cz_44) _ _ _ _ _
  refine gw_skip _ ?_
  have r1 := z_rng (ez_I h 71 16)
  refine gw_ld rfl rfl ?_
  refine gw_ld rfl rfl ?_
  have r2 := z_rng (ez_I h 71 57)
  refine z_gI2 (by decide) (zT S (by decide) rfl) (zW_f F (by decide) (by decide)) ?_
  refine z_C (m := 257) rfl rfl (fun x3 ex3 => ?_)
  refine z_sub (by omega) (fun x4 ex4 => ?_)
  refine z_C (m := 5) rfl rfl (fun x5 ex5 => ?_)
  refine z_cl rfl rfl rfl rfl rfl rfl rfl rfl rfl rfl rfl (zT S (by decide) rfl) ?_
  refine d_wbV (s := s1) (V := tdM (bkL T n a J) 257 29 - 257) (N := 5) (v := x4) (n := x5) S hs (hb) hg (by omega) (by omega) (by show _ < 32; omega) (by decide) (by omega) (fun h6 F7 k8 k9 k10 => ?_)
  have S11 := zW_sh F7 S
  have F12 := zW_tr F (zW_mono F7 (x71_82) (x71_86) (x71_84))
  have r13 := z_rng (ez_I h6 71 16)
  refine gw_ld rfl rfl ?_
  refine gw_ld rfl rfl ?_
  have r14 := z_rng (ez_I h 71 58)
  refine z_gI2 (by decide) (zT S11 (by decide) rfl) (zW_f F12 (by decide) (by decide)) ?_
  refine z_C (m := 1) rfl rfl (fun x15 ex15 => ?_)
  refine z_sub (by omega) (fun x16 ex16 => ?_)
  refine z_C (m := 5) rfl rfl (fun x17 ex17 => ?_)
  refine z_cl rfl rfl rfl rfl rfl rfl rfl rfl rfl rfl rfl (zT S11 (by decide) rfl) ?_
  refine d_wbV (s := (wr s1 (tdM (bkL T n a J) 257 29 - 257) 5)) (V := tdM (bkE T n a J) 1 29 - 1) (N := 5) (v := x16) (n := x17) S11 k8 (k9) k10 (by omega) (by omega) (by show _ < 32; omega) (by decide) (by show s1.2 + 5 + 5 ≤ _; omega) (fun h18 F19 k20 k21 k22 => ?_)
  have S23 := zW_sh F19 S11
  have F24 := zW_tr F12 (zW_mono F19 (x71_82) (x71_86) (x71_84))
  have r25 := z_rng (ez_I h18 71 16)
  refine gw_ld rfl rfl ?_
  refine gw_ld rfl rfl ?_
  refine z_C (m := 4) rfl rfl (fun x26 ex26 => ?_)
  refine z_sub (by omega) (fun x27 ex27 => ?_)
  refine z_C (m := 4) rfl rfl (fun x28 ex28 => ?_)
  refine z_cl rfl rfl rfl rfl rfl rfl rfl rfl rfl rfl rfl (zT S23 (by decide) rfl) ?_
  refine d_wbV (s := (wr (wr s1 (tdM (bkL T n a J) 257 29 - 257) 5) (tdM (bkE T n a J) 1 29 - 1) 5)) (V := (bkO T n a J) - 4) (N := 4) (v := x27) (n := x28) S23 k20 (k21) k22 (by omega) (by omega) (by show _ < 16; omega) (by decide) (by show s1.2 + 5 + 5 + 4 ≤ _; omega) (fun h29 F30 k31 k32 k33 => ?_)
  have S34 := zW_sh F30 S23
  have F35 := zW_tr F24 (zW_mono F30 (x71_82) (x71_86) (x71_84))
  have r36 := z_rng (ez_I h29 71 16)
  refine z_C (m := 0) rfl rfl (fun x37 ex37 => ?_)
  refine gw_st rfl rfl rfl ?_
  show ez_gw _ _ _ _ _ _ _ _ [some (.ref 71), some (.int fr), some (.int to), some (.int pl), some (.int my), some (.int ls), l6, l7, l8, some (.int od), l10, l11, l12, l13, l14, some (.int b15), some (.int x37)] _ _ _
  exact ez_Wp_at ((w_s2_L0 (fr := fr) (to := to) (pl := pl) (my := my) (ls := ls) (l6 := l6) (l7 := l7) (l8 := l8) (od := od) (l10 := l10) (l11 := l11) (l12 := l12) (l13 := l13) (l14 := l14) (b15 := b15) (l16 := l16) S hC hA hF hT hod hs hb hg hr K (((1000 - x37.toInt)).toNat + 1)) h29 x37 F35 (⟨by omega, by omega, by rw [show x37.toInt.toNat = 0 by omega]; exact k32⟩) ((by rw [show x37.toInt.toNat = 0 by omega]; exact k31)) k33 (by omega)) rfl
end
section
/-! PRINTED by wip/pack: the model writes a block: its bits -/
theorem x71_90 : ∀ q k : Nat, (q = 71 ∧ k = 16) → (q = 71 ∧ k = 16) := fun q k hk => hk
theorem x71_91 : ∀ q : Nat, (q = 75) → (q = 75 ∨ 103 ≤ q ∧ q ≤ 105 ∨ q = 107 ∨ q = 109 ∨ q = 115 ∨ q = 116) := fun q hk => (.inl hk)
theorem x71_92 : ∀ q : Nat, (False) → (False) := fun q hk => hk.elim
theorem x71_93 : ¬ (72 = 75 ∨ 103 ≤ 72 ∧ 72 ≤ 105 ∨ 72 = 107 ∨ 72 = 109 ∨ 72 = 115 ∨ 72 = 116) := by omega
theorem x71_94 : ∀ k : Nat, ¬ (72 = 71 ∧ k = 16) := fun k c => by omega
theorem x71_95 : ¬ (77 = 75 ∨ 103 ≤ 77 ∧ 77 ≤ 105 ∨ 77 = 107 ∨ 77 = 109 ∨ 77 = 115 ∨ 77 = 116) := by omega
theorem x71_96 : ∀ k : Nat, ¬ (77 = 71 ∧ k = 16) := fun k c => by omega
theorem x71_97 : ¬ (78 = 75 ∨ 103 ≤ 78 ∧ 78 ≤ 105 ∨ 78 = 107 ∨ 78 = 109 ∨ 78 = 115 ∨ 78 = 116) := by omega
theorem x71_98 : ∀ k : Nat, ¬ (78 = 71 ∧ k = 16) := fun k c => by omega
theorem x71_99 : ¬ (79 = 75 ∨ 103 ≤ 79 ∧ 79 ≤ 105 ∨ 79 = 107 ∨ 79 = 109 ∨ 79 = 115 ∨ 79 = 116) := by omega
theorem x71_100 : ∀ k : Nat, ¬ (79 = 71 ∧ k = 16) := fun k c => by omega
theorem x71_101 : ¬ (80 = 75 ∨ 103 ≤ 80 ∧ 80 ≤ 105 ∨ 80 = 107 ∨ 80 = 109 ∨ 80 = 115 ∨ 80 = 116) := by omega
theorem x71_102 : ∀ k : Nat, ¬ (80 = 71 ∧ k = 16) := fun k c => by omega
theorem x71_103 : ¬ (92 = 75 ∨ 103 ≤ 92 ∧ 92 ≤ 105 ∨ 92 = 107 ∨ 92 = 109 ∨ 92 = 115 ∨ 92 = 116) := by omega
theorem x71_104 : ∀ k : Nat, ¬ (92 = 71 ∧ k = 16) := fun k c => by omega
theorem x71_105 : ¬ (93 = 75 ∨ 103 ≤ 93 ∧ 93 ≤ 105 ∨ 93 = 107 ∨ 93 = 109 ∨ 93 = 115 ∨ 93 = 116) := by omega
theorem x71_106 : ∀ k : Nat, ¬ (93 = 71 ∧ k = 16) := fun k c => by omega
theorem x71_107 : ¬ (94 = 75 ∨ 103 ≤ 94 ∧ 94 ≤ 105 ∨ 94 = 107 ∨ 94 = 109 ∨ 94 = 115 ∨ 94 = 116) := by omega
theorem x71_108 : ∀ k : Nat, ¬ (94 = 71 ∧ k = 16) := fun k c => by omega
theorem x71_109 : ¬ (95 = 75 ∨ 103 ≤ 95 ∧ 95 ≤ 105 ∨ 95 = 107 ∨ 95 = 109 ∨ 95 = 115 ∨ 95 = 116) := by omega
theorem x71_110 : ∀ k : Nat, ¬ (95 = 71 ∧ k = 16) := fun k c => by omega
theorem x71_111 : ¬ (96 = 75 ∨ 103 ≤ 96 ∧ 96 ≤ 105 ∨ 96 = 107 ∨ 96 = 109 ∨ 96 = 115 ∨ 96 = 116) := by omega
theorem x71_112 : ∀ k : Nat, ¬ (96 = 71 ∧ k = 16) := fun k c => by omega
theorem x71_113 : ¬ (100 = 75 ∨ 103 ≤ 100 ∧ 100 ≤ 105 ∨ 100 = 107 ∨ 100 = 109 ∨ 100 = 115 ∨ 100 = 116) := by omega
theorem x71_114 : ∀ k : Nat, ¬ (100 = 71 ∧ k = 16) := fun k c => by omega
theorem x71_115 : ¬ (101 = 75 ∨ 103 ≤ 101 ∧ 101 ≤ 105 ∨ 101 = 107 ∨ 101 = 109 ∨ 101 = 115 ∨ 101 = 116) := by omega
theorem x71_116 : ∀ k : Nat, ¬ (101 = 71 ∧ k = 16) := fun k c => by omega
theorem x71_117 : ¬ (102 = 75 ∨ 103 ≤ 102 ∧ 102 ≤ 105 ∨ 102 = 107 ∨ 102 = 109 ∨ 102 = 115 ∨ 102 = 116) := by omega
theorem x71_118 : ∀ k : Nat, ¬ (102 = 71 ∧ k = 16) := fun k c => by omega
theorem x71_119 : ¬ (117 = 75 ∨ 103 ≤ 117 ∧ 117 ≤ 105 ∨ 117 = 107 ∨ 117 = 109 ∨ 117 = 115 ∨ 117 = 116) := by omega
theorem x71_120 : ∀ k : Nat, ¬ (117 = 71 ∧ k = 16) := fun k c => by omega
theorem x71_121 : ¬ (118 = 75 ∨ 103 ≤ 118 ∧ 118 ≤ 105 ∨ 118 = 107 ∨ 118 = 109 ∨ 118 = 115 ∨ 118 = 116) := by omega
theorem x71_122 : ∀ k : Nat, ¬ (118 = 71 ∧ k = 16) := fun k c => by omega
theorem x71_123 : ¬ (71 = 75 ∨ 103 ≤ 71 ∧ 71 ≤ 105 ∨ 71 = 107 ∨ 71 = 109 ∨ 71 = 115 ∨ 71 = 116) := by omega
theorem x71_124 : ¬ (71 = 71 ∧ 56 = 16) := by omega
theorem x71_125 : ¬ (71 = 71 ∧ 57 = 16) := by omega
theorem x71_126 : ¬ (71 = 71 ∧ 58 = 16) := by omega
theorem x71_127 : ∀ q : Nat, (q = 75 ∨ 103 ≤ q ∧ q ≤ 105 ∨ q = 107 ∨ q = 109 ∨ q = 115 ∨ q = 116) → (q = 75 ∨ 103 ≤ q ∧ q ≤ 105 ∨ q = 107 ∨ q = 109 ∨ q = 115 ∨ q = 116) := fun q hk => hk.elim (fun g => (.inl g)) (fun hk => hk.elim (fun g => (.inr (.inl g))) (fun hk => hk.elim (fun g => (.inr (.inr (.inl g)))) (fun hk => hk.elim (fun g => (.inr (.inr (.inr (.inl g))))) (fun hk => hk.elim (fun g => (.inr (.inr (.inr (.inr (.inl g)))))) (fun hk => (.inr (.inr (.inr (.inr (.inr hk))))))))))
theorem x71_128 : ∀ q : Nat, (q = 75 ∨ 103 ≤ q ∧ q ≤ 105 ∨ q = 115 ∨ q = 116) → (q = 75 ∨ 103 ≤ q ∧ q ≤ 105 ∨ q = 107 ∨ q = 109 ∨ q = 115 ∨ q = 116) := fun q hk => hk.elim (fun g => (.inl g)) (fun hk => hk.elim (fun g => (.inr (.inl g))) (fun hk => hk.elim (fun g => (.inr (.inr (.inr (.inr (.inl g)))))) (fun hk => (.inr (.inr (.inr (.inr (.inr hk))))))))
theorem x71_129 : ¬ (106 = 75 ∨ 103 ≤ 106 ∧ 106 ≤ 105 ∨ 106 = 107 ∨ 106 = 109 ∨ 106 = 115 ∨ 106 = 116) := by omega
theorem x71_130 : ∀ k : Nat, ¬ (106 = 71 ∧ k = 16) := fun k c => by omega
theorem x71_131 : ¬ (108 = 75 ∨ 103 ≤ 108 ∧ 108 ≤ 105 ∨ 108 = 107 ∨ 108 = 109 ∨ 108 = 115 ∨ 108 = 116) := by omega
theorem x71_132 : ∀ k : Nat, ¬ (108 = 71 ∧ k = 16) := fun k c => by omega
theorem x71_133 : ∀ q : Nat, (q = 75 ∨ q = 107 ∨ q = 109 ∨ q = 115 ∨ q = 116) → (q = 75 ∨ 103 ≤ q ∧ q ≤ 105 ∨ q = 107 ∨ q = 109 ∨ q = 115 ∨ q = 116) := fun q hk => hk.elim (fun g => (.inl g)) (fun hk => hk.elim (fun g => (.inr (.inr (.inl g)))) (fun hk => hk.elim (fun g => (.inr (.inr (.inr (.inl g))))) (fun hk => hk.elim (fun g => (.inr (.inr (.inr (.inr (.inl g)))))) (fun hk => (.inr (.inr (.inr (.inr (.inr hk)))))))))
set_option maxRecDepth 4000 in
set_option maxHeartbeats 2000000 in
theorem w_s {E : Nat → Nat × (Nat → Int32)} {d : Nat} {Q : ez_Q} {h : ez_H} {fr : Int32} {to : Int32} {pl : Int32} {my : Int32} {ls : Int32} {l6 : Option Value} {l7 : Option Value} {l8 : Option Value} {od : Int32} {l10 : Option Value} {l11 : Option Value} {l12 : Option Value} {l13 : Option Value} {wy : Int32} {b15 : Int32} {l16 : Option Value} (S : zSh h) {T : Nat → Int} {n c a J : Nat} {l : Nat} {s0 : Nat × Nat} (hC : mbC (ez_I h 72) (ez_I h 77) (ez_I h 78) (ez_I h 79) (ez_I h 80) (ez_I h 92) (ez_I h 93) (ez_I h 94) (ez_I h 95) (ez_I h 96) T n c) (hA : mbA fr to pl my T n c a J) (hF : mbF (ez_I h 100) (ez_I h 101) (ez_I h 102) (ez_I h 117) (ez_I h 118) T n a J) (hT : mbT (ez_I h 71 56) (ez_I h 71 57) (ez_I h 71 58) T n a J) (hX : mbX (ez_I h 106) (ez_I h 108)) (hod : od.toInt = ((bkO T n a J) : Nat)) (hwy : wy.toInt = ((bkW T n a J s0.2) : Nat)) (hls : ls.toInt = (l : Nat) ∧ l ≤ 1) (hs : mS (ez_I h 75) s0) (hb : (ez_I h 71 16).toInt = (s0.2 : Nat)) (hg : aR (ez_I h 75) 8000 (-128) 127) (hr : s0.2 + 50 + 8 * (bkY T n a J) ≤ 48800) (K : ∀ h2, zW (fun q k => q = 71 ∧ k = 16) (fun q => q = 75 ∨ 103 ≤ q ∧ q ≤ 105 ∨ q = 107 ∨ q = 109 ∨ q = 115 ∨ q = 116) (fun _ => False) h h2 → (bkS T n a J l s0).2 ≤ s0.2 + 42 + 8 * (bkY T n a J) → mst (ez_I h2 75) (ez_I h2 71 16).toInt (bkS T n a J l s0) → aR (ez_I h2 75) 8000 (-128) 127 → Q (.inl none) h2) : pw E (d + 2) 44 756 [some (.ref 71), some (.int fr), some (.int to), some (.int pl), some (.int my), some (.int ls), l6, l7, l8, some (.int od), l10, l11, l12, l13, some (.int wy), some (.int b15), l16] [] h Q := by
  have gfr := z_rng fr
  have gto := z_rng to
  have gpl := z_rng pl
  have gmy := z_rng my
  have gls := z_rng ls
  have god := z_rng od
  have gwy := z_rng wy
  have gb15 := z_rng b15
  obtain ⟨cn, cc, hT0, hB, hpm, hlt, hpe, t92, t93, t94, t95, t96⟩ := id hC
  obtain ⟨afr, ato, ajc, aj6, apl, amy, apn⟩ := id hA
  have hfl := mbF_le hF hT0 hlt ajc l s0
  have hw9 := bkW_2 T n a J s0.2
  have F := zW_refl (fun q k => q = 71 ∧ k = 16) (fun q => q = 75 ∨ 103 ≤ q ∧ q ≤ 105 ∨ q = 107 ∨ q = 109 ∨ q = 115 ∨ q = 116) (fun _ => False) h
  apply ez_Wp_in
  show ez_gw _ _ _ _ _ _ (cz_44) _ _ _ _ _
  refine gw_skip _ ?_
  have r1 := z_rng (ez_I h 71 16)
  refine gw_ld rfl rfl ?_
  refine gw_ld rfl rfl ?_
  refine z_b1 (fun c2 => ?_) (fun c2 => ?_)
  · have c2 : ls.toInt = 0 := c2
    refine gw_skip _ ?_
    refine z_C (m := 0) rfl rfl (fun x3 ex3 => ?_)
    refine z_C (m := 1) rfl rfl (fun x4 ex4 => ?_)
    refine z_cl rfl rfl rfl rfl rfl rfl rfl rfl rfl rfl rfl (zT S (by decide) rfl) ?_
    refine d_wbV (s := s0) (V := l) (N := 1) (v := x3) (n := x4) S hs (hb) hg (by omega) (by omega) (by show l < 2; omega) (by decide) (by omega) (fun h5 F6 k7 k8 k9 => ?_)
    have S10 := zW_sh F6 S
    have F11 := zW_tr F (zW_mono F6 (x71_90) (x71_91) (x71_92))
    have r12 := z_rng (ez_I h5 71 16)
    refine gw_ld rfl rfl ?_
    refine gw_ld rfl rfl ?_
    refine z_C (m := 2) rfl rfl (fun x13 ex13 => ?_)
    refine z_cl rfl rfl rfl rfl rfl rfl rfl rfl rfl rfl rfl (zT S10 (by decide) rfl) ?_
    refine d_wbV (s := (wr s0 (l) (1))) (V := bkW T n a J s0.2) (N := 2) (v := wy) (n := x13) S10 k7 (k8) k9 (by omega) (by omega) (by show _ < 4; omega) (by decide) (by show s0.2 + 1 + 2 ≤ _; omega) (fun h14 F15 k16 k17 k18 => ?_)
    have S19 := zW_sh F15 S10
    have F20 := zW_tr F11 (zW_mono F15 (x71_90) (x71_91) (x71_92))
    have r21 := z_rng (ez_I h14 71 16)
    refine gw_ld rfl rfl ?_
    refine z_b1 (fun c22 => ?_) (fun c22 => ?_)
    · have c22 : wy.toInt ≠ 0 := c22
      refine gw_skip _ ?_
      refine gw_ld rfl rfl ?_
      refine z_C (m := 1) rfl rfl (fun x23 ex23 => ?_)
      refine z_b2 (fun c24 => ?_) (fun c24 => ?_)
      · have c24 : wy.toInt ≠ x23.toInt := c24
        have hw2 : (bkW T n a J s0.2) = 2 := by omega
        refine gw_skip _ (ez_Wp_at (w_s2 (T := T) (n := n) (c := c) (a := a) (J := J) (s1 := (bk1 T n a J l s0)) S19 (by rw [(show ez_I h14 72 = ez_I h 72 from zW_fn F20 72 x71_93 x71_94), (show ez_I h14 77 = ez_I h 77 from zW_fn F20 77 x71_95 x71_96), (show ez_I h14 78 = ez_I h 78 from zW_fn F20 78 x71_97 x71_98), (show ez_I h14 79 = ez_I h 79 from zW_fn F20 79 x71_99 x71_100), (show ez_I h14 80 = ez_I h 80 from zW_fn F20 80 x71_101 x71_102), (show ez_I h14 92 = ez_I h 92 from zW_fn F20 92 x71_103 x71_104), (show ez_I h14 93 = ez_I h 93 from zW_fn F20 93 x71_105 x71_106), (show ez_I h14 94 = ez_I h 94 from zW_fn F20 94 x71_107 x71_108), (show ez_I h14 95 = ez_I h 95 from zW_fn F20 95 x71_109 x71_110), (show ez_I h14 96 = ez_I h 96 from zW_fn F20 96 x71_111 x71_112)]; exact hC) hA (by rw [(show ez_I h14 100 = ez_I h 100 from zW_fn F20 100 x71_113 x71_114), (show ez_I h14 101 = ez_I h 101 from zW_fn F20 101 x71_115 x71_116), (show ez_I h14 102 = ez_I h 102 from zW_fn F20 102 x71_117 x71_118), (show ez_I h14 117 = ez_I h 117 from zW_fn F20 117 x71_119 x71_120), (show ez_I h14 118 = ez_I h 118 from zW_fn F20 118 x71_121 x71_122)]; exact hF) (by rw [(show ez_I h14 71 56 = ez_I h 71 56 from zW_f F20 x71_123 x71_124), (show ez_I h14 71 57 = ez_I h 71 57 from zW_f F20 x71_123 x71_125), (show ez_I h14 71 58 = ez_I h 71 58 from zW_f F20 x71_123 x71_126)]; exact hT) hod k16 k17 k18 (by rw [← (bk_w2 (l := l) (s := s0) hw2).1]; omega) (fun h25 F26 k27 k28 => ?_)) rfl)
        have F29 := zW_tr (zW_mono F20 x71_90 x71_127 x71_92) (zW_mono F26 x71_90 x71_128 x71_92)
        exact K _ F29 hfl (by rw [(bk_w2 hw2).1]; exact k27) k28
      · have c24 : ¬ (wy.toInt ≠ x23.toInt) := c24
        have hw1 : (bkW T n a J s0.2) = 1 := by omega
        refine ez_Wp_at (w_s1 (T := T) (n := n) (c := c) (a := a) (J := J) (s1 := (bk1 T n a J l s0)) S19 (by rw [(show ez_I h14 72 = ez_I h 72 from zW_fn F20 72 x71_93 x71_94), (show ez_I h14 77 = ez_I h 77 from zW_fn F20 77 x71_95 x71_96), (show ez_I h14 78 = ez_I h 78 from zW_fn F20 78 x71_97 x71_98), (show ez_I h14 79 = ez_I h 79 from zW_fn F20 79 x71_99 x71_100), (show ez_I h14 80 = ez_I h 80 from zW_fn F20 80 x71_101 x71_102), (show ez_I h14 92 = ez_I h 92 from zW_fn F20 92 x71_103 x71_104), (show ez_I h14 93 = ez_I h 93 from zW_fn F20 93 x71_105 x71_106), (show ez_I h14 94 = ez_I h 94 from zW_fn F20 94 x71_107 x71_108), (show ez_I h14 95 = ez_I h 95 from zW_fn F20 95 x71_109 x71_110), (show ez_I h14 96 = ez_I h 96 from zW_fn F20 96 x71_111 x71_112)]; exact hC) hA (by rw [(show ez_I h14 106 = ez_I h 106 from zW_fn F20 106 x71_129 x71_130), (show ez_I h14 108 = ez_I h 108 from zW_fn F20 108 x71_131 x71_132)]; exact hX) k16 k17 k18 (by rw [← (bk_w1 (l := l) (s := s0) hw1).1]; omega) (fun h30 F31 k32 k33 => ?_)) rfl
        have F34 := zW_tr (zW_mono F20 x71_90 x71_127 x71_92) (zW_mono F31 x71_90 x71_133 x71_92)
        exact K _ F34 hfl (by rw [(bk_w1 hw1).1]; exact k32) k33
    · have c22 : ¬ (wy.toInt ≠ 0) := c22
      have hw0 : (bkW T n a J s0.2) = 0 := by omega
      refine ez_Wp_at (w_s0 (T := T) (n := n) (P := ptP T n a) (Y := (bkY T n a J)) (s1 := (bk1 T n a J l s0)) S19 cn hT0 (by rw [(show ez_I h14 72 = ez_I h 72 from zW_fn F20 72 x71_93 x71_94)]; exact hB) apl amy apn k16 k17 k18 (by have h8 : (bk1 T n a J l s0).2 = s0.2 + 3 := rfl; omega) (fun h35 F36 k37 k38 => ?_)) rfl
      have F39 := zW_tr (zW_mono F20 x71_90 x71_127 x71_92) (zW_mono F36 x71_90 x71_91 x71_92)
      exact K _ F39 hfl (by rw [(bk_w0 hw0).1]; exact k37) k38
  · have c2 : ¬ (ls.toInt = 0) := c2
    refine z_C (m := 1) rfl rfl (fun x40 ex40 => ?_)
    refine z_go ?_
    refine gw_skip _ ?_
    refine z_C (m := 1) rfl rfl (fun x41 ex41 => ?_)
    refine z_cl rfl rfl rfl rfl rfl rfl rfl rfl rfl rfl rfl (zT S (by decide) rfl) ?_
    refine d_wbV (s := s0) (V := l) (N := 1) (v := x40) (n := x41) S hs (hb) hg (by omega) (by omega) (by show l < 2; omega) (by decide) (by omega) (fun h42 F43 k44 k45 k46 => ?_)
    have S47 := zW_sh F43 S
    have F48 := zW_tr F (zW_mono F43 (x71_90) (x71_91) (x71_92))
    have r49 := z_rng (ez_I h42 71 16)
    refine gw_ld rfl rfl ?_
    refine gw_ld rfl rfl ?_
    refine z_C (m := 2) rfl rfl (fun x50 ex50 => ?_)
    refine z_cl rfl rfl rfl rfl rfl rfl rfl rfl rfl rfl rfl (zT S47 (by decide) rfl) ?_
    refine d_wbV (s := (wr s0 (l) (1))) (V := bkW T n a J s0.2) (N := 2) (v := wy) (n := x50) S47 k44 (k45) k46 (by omega) (by omega) (by show _ < 4; omega) (by decide) (by show s0.2 + 1 + 2 ≤ _; omega) (fun h51 F52 k53 k54 k55 => ?_)
    have S56 := zW_sh F52 S47
    have F57 := zW_tr F48 (zW_mono F52 (x71_90) (x71_91) (x71_92))
    have r58 := z_rng (ez_I h51 71 16)
    refine gw_ld rfl rfl ?_
    refine z_b1 (fun c59 => ?_) (fun c59 => ?_)
    · have c59 : wy.toInt ≠ 0 := c59
      refine gw_skip _ ?_
      refine gw_ld rfl rfl ?_
      refine z_C (m := 1) rfl rfl (fun x60 ex60 => ?_)
      refine z_b2 (fun c61 => ?_) (fun c61 => ?_)
      · have c61 : wy.toInt ≠ x60.toInt := c61
        have hw2 : (bkW T n a J s0.2) = 2 := by omega
        refine gw_skip _ (ez_Wp_at (w_s2 (T := T) (n := n) (c := c) (a := a) (J := J) (s1 := (bk1 T n a J l s0)) S56 (by rw [(show ez_I h51 72 = ez_I h 72 from zW_fn F57 72 x71_93 x71_94), (show ez_I h51 77 = ez_I h 77 from zW_fn F57 77 x71_95 x71_96), (show ez_I h51 78 = ez_I h 78 from zW_fn F57 78 x71_97 x71_98), (show ez_I h51 79 = ez_I h 79 from zW_fn F57 79 x71_99 x71_100), (show ez_I h51 80 = ez_I h 80 from zW_fn F57 80 x71_101 x71_102), (show ez_I h51 92 = ez_I h 92 from zW_fn F57 92 x71_103 x71_104), (show ez_I h51 93 = ez_I h 93 from zW_fn F57 93 x71_105 x71_106), (show ez_I h51 94 = ez_I h 94 from zW_fn F57 94 x71_107 x71_108), (show ez_I h51 95 = ez_I h 95 from zW_fn F57 95 x71_109 x71_110), (show ez_I h51 96 = ez_I h 96 from zW_fn F57 96 x71_111 x71_112)]; exact hC) hA (by rw [(show ez_I h51 100 = ez_I h 100 from zW_fn F57 100 x71_113 x71_114), (show ez_I h51 101 = ez_I h 101 from zW_fn F57 101 x71_115 x71_116), (show ez_I h51 102 = ez_I h 102 from zW_fn F57 102 x71_117 x71_118), (show ez_I h51 117 = ez_I h 117 from zW_fn F57 117 x71_119 x71_120), (show ez_I h51 118 = ez_I h 118 from zW_fn F57 118 x71_121 x71_122)]; exact hF) (by rw [(show ez_I h51 71 56 = ez_I h 71 56 from zW_f F57 x71_123 x71_124), (show ez_I h51 71 57 = ez_I h 71 57 from zW_f F57 x71_123 x71_125), (show ez_I h51 71 58 = ez_I h 71 58 from zW_f F57 x71_123 x71_126)]; exact hT) hod k53 k54 k55 (by rw [← (bk_w2 (l := l) (s := s0) hw2).1]; omega) (fun h62 F63 k64 k65 => ?_)) rfl)
        have F66 := zW_tr (zW_mono F57 x71_90 x71_127 x71_92) (zW_mono F63 x71_90 x71_128 x71_92)
        exact K _ F66 hfl (by rw [(bk_w2 hw2).1]; exact k64) k65
      · have c61 : ¬ (wy.toInt ≠ x60.toInt) := c61
        have hw1 : (bkW T n a J s0.2) = 1 := by omega
        refine ez_Wp_at (w_s1 (T := T) (n := n) (c := c) (a := a) (J := J) (s1 := (bk1 T n a J l s0)) S56 (by rw [(show ez_I h51 72 = ez_I h 72 from zW_fn F57 72 x71_93 x71_94), (show ez_I h51 77 = ez_I h 77 from zW_fn F57 77 x71_95 x71_96), (show ez_I h51 78 = ez_I h 78 from zW_fn F57 78 x71_97 x71_98), (show ez_I h51 79 = ez_I h 79 from zW_fn F57 79 x71_99 x71_100), (show ez_I h51 80 = ez_I h 80 from zW_fn F57 80 x71_101 x71_102), (show ez_I h51 92 = ez_I h 92 from zW_fn F57 92 x71_103 x71_104), (show ez_I h51 93 = ez_I h 93 from zW_fn F57 93 x71_105 x71_106), (show ez_I h51 94 = ez_I h 94 from zW_fn F57 94 x71_107 x71_108), (show ez_I h51 95 = ez_I h 95 from zW_fn F57 95 x71_109 x71_110), (show ez_I h51 96 = ez_I h 96 from zW_fn F57 96 x71_111 x71_112)]; exact hC) hA (by rw [(show ez_I h51 106 = ez_I h 106 from zW_fn F57 106 x71_129 x71_130), (show ez_I h51 108 = ez_I h 108 from zW_fn F57 108 x71_131 x71_132)]; exact hX) k53 k54 k55 (by rw [← (bk_w1 (l := l) (s := s0) hw1).1]; omega) (fun h67 F68 k69 k70 => ?_)) rfl
        have F71 := zW_tr (zW_mono F57 x71_90 x71_127 x71_92) (zW_mono F68 x71_90 x71_133 x71_92)
        exact K _ F71 hfl (by rw [(bk_w1 hw1).1]; exact k69) k70
    · have c59 : ¬ (wy.toInt ≠ 0) := c59
      have hw0 : (bkW T n a J s0.2) = 0 := by omega
      refine ez_Wp_at (w_s0 (T := T) (n := n) (P := ptP T n a) (Y := (bkY T n a J)) (s1 := (bk1 T n a J l s0)) S56 cn hT0 (by rw [(show ez_I h51 72 = ez_I h 72 from zW_fn F57 72 x71_93 x71_94)]; exact hB) apl amy apn k53 k54 k55 (by have h8 : (bk1 T n a J l s0).2 = s0.2 + 3 := rfl; omega) (fun h72 F73 k74 k75 => ?_)) rfl
      have F76 := zW_tr (zW_mono F57 x71_90 x71_127 x71_92) (zW_mono F73 x71_90 x71_91 x71_92)
      exact K _ F76 hfl (by rw [(bk_w0 hw0).1]; exact k74) k75
end
