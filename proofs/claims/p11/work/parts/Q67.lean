/-! the model unpacks: its blocks -/
theorem om_s {h h2 : ez_H} {c x n m : Nat} {y : Int32} {o : Nat → Int} (A : oM (ez_I h c) o n) (e : h2 = ez_setI h c x y) (hx : x = n) (hy : y.toInt % 256 = o n) (hm : m = n + 1) : oM (ez_I h2 c) o m := fun k hk => by
  subst hm; subst hx
  by_cases q : k = x
  · rw [q, zI_eq e, hy]
  · rw [zI_ne e (fun c => q c.2)]; exact A k (by omega)
theorem fx_one1 {f : Nat → Int32} (A : cpN f fxL 288) : plN (nL f) 288 16 = 1 → ctN (nL f) 1 288 = 1 := fun q => by
  have h1 := one_M (L := nL f) (L' := fxL) (M := 288) (N := 288) (Nat.le_refl 288) (fun k hk => cpN_nL A k hk) (fun k a b => by omega)
  rw [h1.1] at q
  have : plN fxL 288 16 = 288 := by decide +kernel
  omega
theorem fx_one2 {f : Nat → Int32} (A : cpN f fxD 32) : plN (nL f) 32 16 = 1 → ctN (nL f) 1 32 = 1 := fun q => by
  have h1 := one_M (L := nL f) (L' := fxD) (M := 32) (N := 32) (Nat.le_refl 32) (fun k hk => cpN_nL A k hk) (fun k a b => by omega)
  rw [h1.1] at q
  have : plN fxD 32 16 = 32 := by decide +kernel
  omega
def lsP (ls : Int) (A B : Prop) : Prop := (ls = 0 → A) ∧ (ls = 1 → B)
def cdP (f g : Nat → Int32) (T : Nat → Int) (n p2 p3 : Nat) : Prop := aR f 288 0 15 ∧ (plN (nL f) 288 16 = 1 → ctN (nL f) 1 288 = 1) ∧ aR g 32 0 15 ∧ (plN (nL g) 32 16 = 1 → ctN (nL g) 1 32 = 1) ∧ ∀ o m, blU T n p2 o m = upP T n (nL f) 288 (nL g) 32 (8 * n) p3 o m
theorem cdP_1 {f g : Nat → Int32} {T : Nat → Int} {n p2 : Nat} (A : cpN f fxL 288) (B : cpN g fxD 32) (h : p2 + 3 ≤ 8 * n) (hv : vB T (p2 + 1) 2 = 1) : cdP f g T n p2 (p2 + 3) :=
  ⟨cpN_aR A (fun k _ => (fxL_1 k).2), fx_one1 A, cpN_aR B (fun k _ => fxD_5 k), fx_one2 B, fun o m => (blU_1 h hv rfl).trans (upP_eq (Nat.le_refl 288) (fun k hk => (cpN_nL A k hk).symm) (fun k a b => by omega) (by decide) (fun k hk => (cpN_nL B k hk).symm) (fun k a _ => if_neg (by omega)) _ _ _ _)⟩
section UO
variable {E : Nat → Nat × (Nat → Int32)} {d : Nat} {Q : ez_Q} {h : ez_H}
theorem d_stO {T : Nat → Int} {n p m : Nat} {o : Nat → Int} (S : zSh h) (hT : tB (ez_I h 72) = T) (hN : (ez_I h 71 6).toInt = (n : Nat)) (hn : n ≤ 6000) (hp : (ez_I h 71 59).toInt = (p : Nat)) (hp8 : p ≤ 8 * n) (hf : (ez_I h 71 61).toInt = 0) (hg : (ez_I h 71 60).toInt = (m : Nat)) (hm : m ≤ 6000) (ho : oM (ez_I h 76) o m) (K1 : ∀ h2 (q : Nat) (o2 : Nat → Int) (m2 : Nat), zW (fun q k => q = 71 ∧ k = 59 ∨ q = 71 ∧ k = 61 ∨ q = 71 ∧ k = 60) (fun q => q = 76) (fun _ => False) h h2 → stS T n p o m = some (q, o2, m2) → (ez_I h2 71 59).toInt = (q : Nat) → (ez_I h2 71 60).toInt = (m2 : Nat) → m2 ≤ 6000 → oM (ez_I h2 76) o2 m2 → (ez_I h2 71 61).toInt = 0 → Q (.inl none) h2) (K2 : ∀ h2, zW (fun q k => q = 71 ∧ k = 59 ∨ q = 71 ∧ k = 61 ∨ q = 71 ∧ k = 60) (fun q => q = 76) (fun _ => False) h h2 → stS T n p o m = none → 1 ≤ (ez_I h2 71 61).toInt → (0 ≤ (ez_I h2 71 59).toInt ∧ (ez_I h2 71 59).toInt ≤ 8 * (n : Int)) → Q (.inl none) h2) : pw E (d + 2) 57 0 [some (.ref 71), none, none, none, none] [] h Q := by
  have e0 : (ez_I h 71 60).toInt.toNat = m := by omega
  refine d_stored (o := o) S (by omega) (by omega) hf (by omega) (by rw [e0]; exact ho) (fun h2 F k1 k2 k3 => ?_)
  rw [hT, e0, show (ez_I h 71 59).toInt.toNat = p by omega, show (ez_I h 71 6).toInt.toNat = n by omega] at k1
  rcases k1 with ⟨a1, q, o2, m2, a2, a3, a4, a5⟩ | ⟨a1, a2⟩
  · exact K1 h2 q o2 m2 F a2 a3 a4 (by omega) a5 a1
  · exact K2 h2 F a2 a1 (by omega)
theorem d_cdO {T : Nat → Int} {n p2 p m : Nat} {o : Nat → Int} (S : zSh h) (hT : tB (ez_I h 72) = T) (hN : (ez_I h 71 6).toInt = (n : Nat)) (hn : n ≤ 6000) (hp : (ez_I h 71 59).toInt = (p : Nat)) (hp8 : p ≤ 8 * n) (hf : (ez_I h 71 61).toInt = 0) (hg : (ez_I h 71 60).toInt = (m : Nat)) (hm : m ≤ 6000) (ho : oM (ez_I h 76) o m) (t92 : ctI (ez_I h 92) LBf 29) (t93 : ctI (ez_I h 93) LEf 29) (t94 : ctI (ez_I h 94) DBf 30) (t95 : ctI (ez_I h 95) DEf 30) (hc : cdP (ez_I h 120) (ez_I h 121) T n p2 p) (K1 : ∀ h2 (q : Nat) (o2 : Nat → Int) (m2 : Nat), zW (fun q k => q = 71 ∧ k = 59 ∨ q = 71 ∧ k = 61 ∨ q = 71 ∧ k = 60) (fun q => q = 76 ∨ q = 115) (fun _ => False) h h2 → blU T n p2 o m = some (q, o2, m2) → (ez_I h2 71 59).toInt = (q : Nat) → (ez_I h2 71 60).toInt = (m2 : Nat) → m2 ≤ 6000 → oM (ez_I h2 76) o2 m2 → (ez_I h2 71 61).toInt = 0 → Q (.inl none) h2) (K2 : ∀ h2, zW (fun q k => q = 71 ∧ k = 59 ∨ q = 71 ∧ k = 61 ∨ q = 71 ∧ k = 60) (fun q => q = 76 ∨ q = 115) (fun _ => False) h h2 → blU T n p2 o m = none → 1 ≤ (ez_I h2 71 61).toInt → (0 ≤ (ez_I h2 71 59).toInt ∧ (ez_I h2 71 59).toInt ≤ 8 * (n : Int)) → Q (.inl none) h2) : pw E (d + 2) 59 0 [some (.ref 71), none, none, none, none, none] [] h Q := by
  have e0 : (ez_I h 71 60).toInt.toNat = m := by omega
  refine d_codes (o := o) S (by omega) (by omega) hf (by omega) (by rw [e0]; exact ho) t92 t93 t94 t95 hc.1 hc.2.1 hc.2.2.1 hc.2.2.2.1 (fun h2 F k1 k2 k3 => ?_)
  rw [hT, e0, show (ez_I h 71 59).toInt.toNat = p by omega, show (ez_I h 71 6).toInt.toNat = n by omega, ← hc.2.2.2.2] at k1
  rcases k1 with ⟨a1, q, o2, m2, a2, a3, a4, a5⟩ | ⟨a1, a2⟩
  · exact K1 h2 q o2 m2 F a2 a3 a4 (by omega) a5 a1
  · exact K2 h2 F a2 a1 (by omega)
theorem d_hdO {T : Nat → Int} {n p2 p : Nat} (S : zSh h) (hT : tB (ez_I h 72) = T) (hN : (ez_I h 71 6).toInt = (n : Nat)) (hn : n ≤ 6000) (hp : (ez_I h 71 59).toInt = (p : Nat)) (hp8 : p ≤ 8 * n) (hf : (ez_I h 71 61).toInt = 0) (t96 : ctI (ez_I h 96) ORf 19) (hq : p = p2 + 3) (hv : vB T (p2 + 1) 2 = 2) (K1 : ∀ h2 (q : Nat), zW (fun q k => q = 71 ∧ k = 59 ∨ q = 71 ∧ k = 61) (fun q => q = 115 ∨ q = 120 ∨ q = 121 ∨ q = 122 ∨ q = 123) (fun _ => False) h h2 → q ≤ 8 * n → (ez_I h2 71 59).toInt = (q : Nat) → cdP (ez_I h2 120) (ez_I h2 121) T n p2 q → (ez_I h2 71 61).toInt = 0 → Q (.inl none) h2) (K2 : ∀ h2, zW (fun q k => q = 71 ∧ k = 59 ∨ q = 71 ∧ k = 61) (fun q => q = 115 ∨ q = 120 ∨ q = 121 ∨ q = 122 ∨ q = 123) (fun _ => False) h h2 → (∀ o m, blU T n p2 o m = none) → 1 ≤ (ez_I h2 71 61).toInt → (0 ≤ (ez_I h2 71 59).toInt ∧ (ez_I h2 71 59).toInt ≤ 8 * (n : Int)) → Q (.inl none) h2) : pw E (d + 2) 58 0 [some (.ref 71), none, none, none, none, none, none, none, none, none] [] h Q := by
  refine d_head (T := T) (n := n) (p := p) S hT hN hn hp hp8 hf t96 (fun h2 F k1 k2 => ?_)
  rcases k1 with ⟨a1, q, L1, L2, a2, a3, a4, a5, a6, a7, a8, a9, b1⟩ | ⟨a1, a2⟩
  · have ho := (hdU_ok a2).2
    exact K1 h2 q F ho a3 ⟨a5, a6, a9, b1, fun o m => (blU_2y (by omega) hv hq a2).trans (upP_eq (Nat.le_refl 288) (fun k hk => (a4 k hk).symm) (fun k a b => by omega) (by decide) (fun k hk => (a7 k hk).symm) (fun k a _ => a8 k a) _ _ _ _)⟩ a1
  · exact K2 h2 F (fun o m => blU_2n (by omega) hv hq a2) a1 k2
end UO
/-! PRINTED by wip/pack: the model unpacks: the ends -/
set_option maxRecDepth 4000 in
set_option maxHeartbeats 2000000 in
theorem u_F195 {E : Nat → Nat × (Nat → Int32)} {d : Nat} {Q : ez_Q} {h : ez_H} {l1 : Option Value} {l2 : Option Value} {l3 : Option Value} (S : zSh h) (hf : 1 ≤ (ez_I h 71 61).toInt) (hp : 0 ≤ (ez_I h 71 59).toInt ∧ (ez_I h 71 59).toInt ≤ 48000) (K : ∀ h2 (x : Int32), zW (fun q k => q = 71 ∧ k = 62 ∨ q = 71 ∧ k = 63 ∨ q = 71 ∧ k = 0) (fun _ => False) (fun _ => False) h h2 → (ez_I h2 71 0).toInt = 1 → Q (.inl (some (.int x))) h2) : pw E (d + 3) 60 195 [some (.ref 71), l1, l2, l3] [] h Q := by
  have F := zW_refl (fun q k => q = 71 ∧ k = 62 ∨ q = 71 ∧ k = 63 ∨ q = 71 ∧ k = 0) (fun _ => False) (fun _ => False) h
  apply ez_Wp_in
  show ez_gw _ _ _ _ _ _ (cz_60) _ _ _ _ _
  refine gw_skip _ ?_
  have r1 := z_rng (ez_I h 71 62)
  have r2 := z_rng (ez_I h 71 63)
  have r3 := z_rng (ez_I h 71 0)
  refine gw_ld rfl rfl ?_
  refine gw_ld rfl rfl ?_
  have r4 := z_rng (ez_I h 71 61)
  refine z_gI2 (by decide) (zT S (by decide) rfl) (zW_f F (fun c => c) (by decide)) ?_
  refine z_pI (zT S (by decide) rfl) (fun h5 e6 => ?_)
  have S7 := zSh_set S e6
  have F8 := zW_setF F e6 (by decide)
  have f9 : ez_I h5 71 62 = (ez_I h 71 61) := zI_eq e6
  have f10 : ez_I h5 71 63 = (ez_I h 71 63) := (zI_ne e6 (by decide)).trans (rfl)
  have f11 : ez_I h5 71 0 = (ez_I h 71 0) := (zI_ne e6 (by decide)).trans (rfl)
  refine gw_ld rfl rfl ?_
  refine gw_ld rfl rfl ?_
  refine z_gI2 (by decide) (zT S7 (by decide) rfl) (f9) ?_
  refine z_b1 (fun c12 => ?_) (fun c12 => ?_)
  · have c12 : ((ez_I h 71 61)).toInt ≤ 0 := c12
    exfalso; omega
  · have c12 : ¬ (((ez_I h 71 61)).toInt ≤ 0) := c12
    refine gw_ld rfl rfl ?_
    have r13 := z_rng (ez_I h 71 59)
    refine z_gI2 (by decide) (zT S7 (by decide) rfl) (zW_f F8 (fun c => c) (by decide)) ?_
    refine z_C (m := 7) rfl rfl (fun x14 ex14 => ?_)
    refine z_add (by omega) (fun x15 ex15 => ?_)
    refine z_C (m := 8) rfl rfl (fun x16 ex16 => ?_)
    refine z_dvP (c := 8) ex16 (by decide) (by omega) (fun x17 ex17 => ?_)
    refine z_go ?_
    refine gw_skip _ ?_
    refine z_pI (zT S7 (by decide) rfl) (fun h18 e19 => ?_)
    have S20 := zSh_set S7 e19
    have F21 := zW_setF F8 e19 (by decide)
    have f22 : ez_I h18 71 62 = (ez_I h 71 61) := (zI_ne e19 (by decide)).trans (f9)
    have f23 : ez_I h18 71 63 = x17 := zI_eq e19
    have f24 : ez_I h18 71 0 = (ez_I h 71 0) := (zI_ne e19 (by decide)).trans (f11)
    refine gw_ld rfl rfl ?_
    refine gw_ld rfl rfl ?_
    refine z_gI2 (by decide) (zT S20 (by decide) rfl) (f22) ?_
    refine z_b1 (fun c25 => ?_) (fun c25 => ?_)
    · have c25 : ((ez_I h 71 61)).toInt ≤ 0 := c25
      exfalso; omega
    · have c25 : ¬ (((ez_I h 71 61)).toInt ≤ 0) := c25
      refine z_C (m := 1) rfl rfl (fun x26 ex26 => ?_)
      refine z_go ?_
      refine gw_skip _ ?_
      refine z_pI (zT S20 (by decide) rfl) (fun h27 e28 => ?_)
      have S29 := zSh_set S20 e28
      have F30 := zW_setF F21 e28 (by decide)
      have f31 : ez_I h27 71 62 = (ez_I h 71 61) := (zI_ne e28 (by decide)).trans (f22)
      have f32 : ez_I h27 71 63 = x17 := (zI_ne e28 (by decide)).trans (f23)
      have f33 : ez_I h27 71 0 = x26 := zI_eq e28
      refine gw_ld rfl rfl ?_
      refine z_gI2 (by decide) (zT S29 (by decide) rfl) (f33) ?_
      refine z_b1 (fun c34 => ?_) (fun c34 => ?_)
      · have c34 : x26.toInt ≤ 0 := c34
        exfalso; omega
      · have c34 : ¬ (x26.toInt ≤ 0) := c34
        refine z_C (m := 0) rfl rfl (fun x35 ex35 => ?_)
        refine z_ri ?_
        have t36 := congrArg Int32.toInt (f31)
        have t37 := congrArg Int32.toInt (f32)
        have t38 := congrArg Int32.toInt (f33)
        exact K _ _ F30 (by omega)
theorem x74_0 : ∀ q k : Nat, (False) → (q = 71 ∧ k = 62 ∨ q = 71 ∧ k = 63 ∨ q = 71 ∧ k = 0) := fun q k hk => hk.elim
theorem x74_1 : ∀ q : Nat, (False) → (False) := fun q hk => hk.elim
theorem x74_2 : ∀ q k : Nat, (q = 71 ∧ k = 62 ∨ q = 71 ∧ k = 63 ∨ q = 71 ∧ k = 0) → (q = 71 ∧ k = 62 ∨ q = 71 ∧ k = 63 ∨ q = 71 ∧ k = 0) := fun q k hk => hk.elim (fun g => (.inl g)) (fun hk => hk.elim (fun g => (.inr (.inl g))) (fun hk => (.inr (.inr hk))))
set_option maxRecDepth 4000 in
set_option maxHeartbeats 2000000 in
theorem u_F17 {E : Nat → Nat × (Nat → Int32)} {d : Nat} {Q : ez_Q} {h : ez_H} {ls : Int32} {l2 : Option Value} {l3 : Option Value} (S : zSh h) (hf : 1 ≤ (ez_I h 71 61).toInt) (hp : 0 ≤ (ez_I h 71 59).toInt ∧ (ez_I h 71 59).toInt ≤ 48000) (K : ∀ h2 (x : Int32), zW (fun q k => q = 71 ∧ k = 62 ∨ q = 71 ∧ k = 63 ∨ q = 71 ∧ k = 0) (fun _ => False) (fun _ => False) h h2 → (ez_I h2 71 0).toInt = 1 → Q (.inl (some (.int x))) h2) : pw E (d + 3) 60 17 [some (.ref 71), some (.int ls), l2, l3] [] h Q := by
  have gls := z_rng ls
  have F := zW_refl (fun _ _ => False) (fun _ => False) (fun _ => False) h
  apply ez_Wp_in
  show ez_gw _ _ _ _ _ _ (cz_60) _ _ _ _ _
  refine gw_skip _ ?_
  refine gw_ld rfl rfl ?_
  refine z_b1 (fun c1 => ?_) (fun c1 => ?_)
  · have c1 : ls.toInt ≠ 0 := c1
    suffices tl : pw E (d + 3) 60 195 [some (.ref 71), some (.int ls), l2, l3] [] h Q from gw_skip _ (ez_Wp_at tl rfl)
    refine u_F195 S (by rw [(show ez_I h 71 61 = ez_I h 71 61 from zW_f F (fun c => c) (fun c => c))]; exact hf) (by rw [(show ez_I h 71 59 = ez_I h 71 59 from zW_f F (fun c => c) (fun c => c))]; exact hp) (fun h2 x3 F4 k6 => ?_)
    have F5 := zW_tr (zW_mono F x74_0 x74_1 x74_1) (zW_mono F4 x74_2 x74_1 x74_1)
    exact K _ _ F5 k6
  · have c1 : ¬ (ls.toInt ≠ 0) := c1
    refine gw_ld rfl rfl ?_
    have r7 := z_rng (ez_I h 71 61)
    refine z_gI2 (by decide) (zT S (by decide) rfl) (zW_f F (fun c => c) (fun c => c)) ?_
    refine z_b1 (fun c8 => ?_) (fun c8 => ?_)
    · have c8 : ((ez_I h 71 61)).toInt ≠ 0 := c8
      suffices tl : pw E (d + 3) 60 195 [some (.ref 71), some (.int ls), l2, l3] [] h Q from gw_skip _ (ez_Wp_at tl rfl)
      refine u_F195 S (by rw [(show ez_I h 71 61 = ez_I h 71 61 from zW_f F (fun c => c) (fun c => c))]; exact hf) (by rw [(show ez_I h 71 59 = ez_I h 71 59 from zW_f F (fun c => c) (fun c => c))]; exact hp) (fun h9 x10 F11 k13 => ?_)
      have F12 := zW_tr (zW_mono F x74_0 x74_1 x74_1) (zW_mono F11 x74_2 x74_1 x74_1)
      exact K _ _ F12 k13
    · have c8 : ¬ (((ez_I h 71 61)).toInt ≠ 0) := c8
      exfalso; omega
theorem x74_3 : ∀ k : Nat, ¬ (76 = 71 ∧ k = 62 ∨ 76 = 71 ∧ k = 63 ∨ 76 = 71 ∧ k = 0 ∨ 76 = 71 ∧ k = 7) := fun k c => by omega
set_option maxRecDepth 4000 in
set_option maxHeartbeats 2000000 in
theorem u_T195_L0 {E : Nat → Nat × (Nat → Int32)} {d : Nat} {Q : ez_Q} {h : ez_H} {ls : Int32} {l2 : Option Value} {l3 : Option Value} (S : zSh h) {o2 : Nat → Int} {m2 : Nat} (hf : (ez_I h 71 61).toInt = 0) (hg : (ez_I h 71 60).toInt = (m2 : Nat)) (hm : m2 ≤ 6000) (ho : oM (ez_I h 76) o2 m2) (K : ∀ h2 (x : Int32), zW (fun q k => q = 71 ∧ k = 62 ∨ q = 71 ∧ k = 63 ∨ q = 71 ∧ k = 0 ∨ q = 71 ∧ k = 7) (fun q => q = 73) (fun _ => False) h h2 → (ez_I h2 71 0).toInt = 0 → x.toInt = (m2 : Nat) → (ez_I h2 71 7).toInt = (m2 : Nat) → oM (ez_I h2 73) o2 m2 → Q (.inl (some (.int x))) h2) : ∀ N : Nat, (∀ (h2 : ez_H) (k : Int32) , zW (fun q k => q = 71 ∧ k = 62 ∨ q = 71 ∧ k = 63 ∨ q = 71 ∧ k = 0 ∨ q = 71 ∧ k = 7) (fun q => q = 73) (fun _ => False) h h2 → (0 ≤ k.toInt ∧ k.toInt ≤ m2 ∧ (ez_I h2 71 7).toInt = (m2 : Nat) ∧ (ez_I h2 71 0).toInt = 0) → (oM (ez_I h2 73) o2 k.toInt.toNat) → (10000 - k.toInt) < (N : Int) → pw E (d + 3) 60 263 [some (.ref 71), some (.int ls), some (.int k), l3] [] h2 Q) := by
  intro N
  induction N with
  | zero => exact fun h2 k  F hinv A_out hm => absurd hm (by have w_k := z_rng k; have gls := z_rng ls; omega)
  | succ N ih =>
    refine fun h2 k  F hinv A_out hm => ?_
    · skip
      have w_k := z_rng k
      have gls := z_rng ls
      have S2 := zW_sh F S
      apply ez_Wp_in
      show ez_gw _ _ _ _ _ _ (cz_60) _ _ _ _ _
      refine gw_skip _ ?_
      have r1 := z_rng (ez_I h2 71 62)
      have r2 := z_rng (ez_I h2 71 63)
      have r3 := z_rng (ez_I h2 71 0)
      have r4 := z_rng (ez_I h2 71 7)
      refine gw_ld rfl rfl ?_
      refine gw_ld rfl rfl ?_
      have r5 := z_rng (ez_I h 71 60)
      refine z_gI2 (by decide) (zT S2 (by decide) rfl) (zW_f F (by decide) (by decide)) ?_
      refine z_b2 (fun c6 => ?_) (fun c6 => ?_)
      · have c6 : ((ez_I h 71 60)).toInt ≤ k.toInt := c6
        refine gw_skip _ ?_
        refine gw_ld rfl rfl ?_
        refine z_gI2 (by decide) (zT S2 (by decide) rfl) (rfl) ?_
        refine z_ri ?_
        exact K _ _ F (by omega) (by omega) (by omega) (by have b1 := A_out; rw [show k.toInt.toNat = m2 by omega] at b1; exact b1)
      · have c6 : ¬ (((ez_I h 71 60)).toInt ≤ k.toInt) := c6
        refine gw_ld rfl rfl ?_
        refine z_gR (q := 73) (zT S2 (by decide) rfl) (zRf S2 (by decide) (by decide) rfl) (by decide) ?_
        refine gw_ld rfl rfl ?_
        refine gw_ld rfl rfl ?_
        refine z_gR (q := 76) (zT S2 (by decide) rfl) (zRf S2 (by decide) (by decide) rfl) (by decide) ?_
        refine gw_ld rfl rfl ?_
        refine z_baV (n := 6000) (zT S2 (by decide) rfl) (zN S2 (by decide) rfl) (by omega) (zW_f F (by decide) (x74_3 _)) ?_
        generalize ex7 : ez_I h 76 k.toInt.toNat = x7
        have rx7 := z_rng x7
        have yo := ho k.toInt.toNat (by omega)
        rw [show k.toInt.toNat = k.toInt.toNat by omega, ex7] at yo
        rw [show k.toInt.toNat = k.toInt.toNat by omega] at yo
        refine z_bs (n := 6200) (zT S2 (by decide) rfl) (zN S2 (by decide) rfl) (by omega) (fun h8 e9 => ?_)
        have S11 := zSh_set S2 e9
        have F12 := zW_setA F e9 (by decide)
        have f13 : ez_I h8 71 62 = (ez_I h2 71 62) := (zI_ne e9 (by omega)).trans (rfl)
        have f14 : ez_I h8 71 63 = (ez_I h2 71 63) := (zI_ne e9 (by omega)).trans (rfl)
        have f15 : ez_I h8 71 0 = (ez_I h2 71 0) := (zI_ne e9 (by omega)).trans (rfl)
        have f16 : ez_I h8 71 7 = (ez_I h2 71 7) := (zI_ne e9 (by omega)).trans (rfl)
        have A17 : oM (ez_I h8 73) o2 (k.toInt.toNat + 1) := om_s A_out e9 (by omega) (by rw [n_i2b]; exact yo) rfl
        refine z_inc rfl (by rw [show (1 : Int32).toInt = 1 from rfl]; omega) (fun x18 ex18 => ?_)
        rw [show (1 : Int32).toInt = 1 from rfl] at ex18
        show ez_gw _ _ _ _ _ _ _ _ [some (.ref 71), some (.int ls), some (.int x18), l3] _ _ _
        refine z_go ?_
        have t19 := congrArg Int32.toInt (f13)
        have t20 := congrArg Int32.toInt (f14)
        have t21 := congrArg Int32.toInt (f15)
        have t22 := congrArg Int32.toInt (f16)
        exact ih h8 x18 F12 (by omega) ((by rw [show x18.toInt.toNat = k.toInt.toNat + 1 by omega]; exact A17)) (by omega)
set_option maxRecDepth 4000 in
set_option maxHeartbeats 2000000 in
theorem u_T195 {E : Nat → Nat × (Nat → Int32)} {d : Nat} {Q : ez_Q} {h : ez_H} {ls : Int32} {l2 : Option Value} {l3 : Option Value} (S : zSh h) {o2 : Nat → Int} {m2 : Nat} (hf : (ez_I h 71 61).toInt = 0) (hg : (ez_I h 71 60).toInt = (m2 : Nat)) (hm : m2 ≤ 6000) (ho : oM (ez_I h 76) o2 m2) (K : ∀ h2 (x : Int32), zW (fun q k => q = 71 ∧ k = 62 ∨ q = 71 ∧ k = 63 ∨ q = 71 ∧ k = 0 ∨ q = 71 ∧ k = 7) (fun q => q = 73) (fun _ => False) h h2 → (ez_I h2 71 0).toInt = 0 → x.toInt = (m2 : Nat) → (ez_I h2 71 7).toInt = (m2 : Nat) → oM (ez_I h2 73) o2 m2 → Q (.inl (some (.int x))) h2) : pw E (d + 3) 60 195 [some (.ref 71), some (.int ls), l2, l3] [] h Q := by
  have gls := z_rng ls
  have F := zW_refl (fun q k => q = 71 ∧ k = 62 ∨ q = 71 ∧ k = 63 ∨ q = 71 ∧ k = 0 ∨ q = 71 ∧ k = 7) (fun q => q = 73) (fun _ => False) h
  apply ez_Wp_in
  show ez_gw _ _ _ _ _ _ (cz_60) _ _ _ _ _
  refine gw_skip _ ?_
  have r1 := z_rng (ez_I h 71 62)
  have r2 := z_rng (ez_I h 71 63)
  have r3 := z_rng (ez_I h 71 0)
  have r4 := z_rng (ez_I h 71 7)
  refine gw_ld rfl rfl ?_
  refine gw_ld rfl rfl ?_
  have r5 := z_rng (ez_I h 71 61)
  refine z_gI2 (by decide) (zT S (by decide) rfl) (zW_f F (by decide) (by decide)) ?_
  refine z_pI (zT S (by decide) rfl) (fun h6 e7 => ?_)
  have S8 := zSh_set S e7
  have F9 := zW_setF F e7 (by decide)
  have f10 : ez_I h6 71 62 = (ez_I h 71 61) := zI_eq e7
  have f11 : ez_I h6 71 63 = (ez_I h 71 63) := (zI_ne e7 (by decide)).trans (rfl)
  have f12 : ez_I h6 71 0 = (ez_I h 71 0) := (zI_ne e7 (by decide)).trans (rfl)
  have f13 : ez_I h6 71 7 = (ez_I h 71 7) := (zI_ne e7 (by decide)).trans (rfl)
  refine gw_ld rfl rfl ?_
  refine gw_ld rfl rfl ?_
  refine z_gI2 (by decide) (zT S8 (by decide) rfl) (f10) ?_
  refine z_b1 (fun c14 => ?_) (fun c14 => ?_)
  · have c14 : ((ez_I h 71 61)).toInt ≤ 0 := c14
    refine gw_skip _ ?_
    refine z_C (m := -1) rfl rfl (fun x15 ex15 => ?_)
    refine z_pI (zT S8 (by decide) rfl) (fun h16 e17 => ?_)
    have S18 := zSh_set S8 e17
    have F19 := zW_setF F9 e17 (by decide)
    have f20 : ez_I h16 71 62 = (ez_I h 71 61) := (zI_ne e17 (by decide)).trans (f10)
    have f21 : ez_I h16 71 63 = x15 := zI_eq e17
    have f22 : ez_I h16 71 0 = (ez_I h 71 0) := (zI_ne e17 (by decide)).trans (f12)
    have f23 : ez_I h16 71 7 = (ez_I h 71 7) := (zI_ne e17 (by decide)).trans (f13)
    refine gw_ld rfl rfl ?_
    refine gw_ld rfl rfl ?_
    refine z_gI2 (by decide) (zT S18 (by decide) rfl) (f20) ?_
    refine z_b1 (fun c24 => ?_) (fun c24 => ?_)
    · have c24 : ((ez_I h 71 61)).toInt ≤ 0 := c24
      refine gw_skip _ ?_
      refine z_C (m := 0) rfl rfl (fun x25 ex25 => ?_)
      refine z_pI (zT S18 (by decide) rfl) (fun h26 e27 => ?_)
      have S28 := zSh_set S18 e27
      have F29 := zW_setF F19 e27 (by decide)
      have f30 : ez_I h26 71 62 = (ez_I h 71 61) := (zI_ne e27 (by decide)).trans (f20)
      have f31 : ez_I h26 71 63 = x15 := (zI_ne e27 (by decide)).trans (f21)
      have f32 : ez_I h26 71 0 = x25 := zI_eq e27
      have f33 : ez_I h26 71 7 = (ez_I h 71 7) := (zI_ne e27 (by decide)).trans (f23)
      refine gw_ld rfl rfl ?_
      refine z_gI2 (by decide) (zT S28 (by decide) rfl) (f32) ?_
      refine z_b1 (fun c34 => ?_) (fun c34 => ?_)
      · have c34 : x25.toInt ≤ 0 := c34
        refine gw_skip _ ?_
        refine gw_ld rfl rfl ?_
        refine gw_ld rfl rfl ?_
        have r35 := z_rng (ez_I h 71 60)
        refine z_gI2 (by decide) (zT S28 (by decide) rfl) (zW_f F29 (by decide) (by decide)) ?_
        refine z_pI (zT S28 (by decide) rfl) (fun h36 e37 => ?_)
        have S38 := zSh_set S28 e37
        have F39 := zW_setF F29 e37 (by decide)
        have f40 : ez_I h36 71 62 = (ez_I h 71 61) := (zI_ne e37 (by decide)).trans (f30)
        have f41 : ez_I h36 71 63 = x15 := (zI_ne e37 (by decide)).trans (f31)
        have f42 : ez_I h36 71 0 = x25 := (zI_ne e37 (by decide)).trans (f32)
        have f43 : ez_I h36 71 7 = (ez_I h 71 60) := zI_eq e37
        refine z_C (m := 0) rfl rfl (fun x44 ex44 => ?_)
        refine gw_st rfl rfl rfl ?_
        show ez_gw _ _ _ _ _ _ _ _ [some (.ref 71), some (.int ls), some (.int x44), l3] _ _ _
        have t45 := congrArg Int32.toInt (f40)
        have t46 := congrArg Int32.toInt (f41)
        have t47 := congrArg Int32.toInt (f42)
        have t48 := congrArg Int32.toInt (f43)
        exact ez_Wp_at ((u_T195_L0 (ls := ls) (l2 := l2) (l3 := l3) S hf hg hm ho K (((10000 - x44.toInt)).toNat + 1)) h36 x44 F39 (by omega) ((fun j hj => by omega)) (by omega)) rfl
      · have c34 : ¬ (x25.toInt ≤ 0) := c34
        exfalso; omega
    · have c24 : ¬ (((ez_I h 71 61)).toInt ≤ 0) := c24
      exfalso; omega
  · have c14 : ¬ (((ez_I h 71 61)).toInt ≤ 0) := c14
    exfalso; omega
