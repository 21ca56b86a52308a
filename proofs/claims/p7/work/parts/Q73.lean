section
/-! what both objects tell behind the constructors -/
noncomputable def cq1 (S : ev_S) (p n : Nat) (f : Nat → Nat) : Bool := match ev_gc S.2.2 p with
  | .mul (.add (.num a) (.num b)) (.add ai (.add _ _)) => and (Nat.ble 1000 a) (and (Nat.ble n b) ((List.range n).all (fun k => and (Nat.beq (ev_g ai k) (f k)) (Nat.blt (f k) 2147483648))))
  | _ => false
theorem cq1_ok {S : ev_S} {h : ez_H} {p n : Nat} {f : Nat → Nat} (H : cq1 S p n f = true) (hr : ev_rel S h) (hp : p < 128) : cpN (ez_I h p) f n := by
  unfold cq1 at H
  split at H
  · rename_i a b ai al ar e
    obtain ⟨h1, h2⟩ := ev_and H
    obtain ⟨h2, h4⟩ := ev_and h2
    have hc := hr.2.2 p hp
    rw [e] at hc
    have h1 := Nat.le_of_ble_eq_true h1
    have h2 := Nat.le_of_ble_eq_true h2
    have hsz : ev_sz a b = b := by
      unfold ev_sz
      have : Nat.blt a 1000 = false := by
        cases q : Nat.blt a 1000 with
        | false => rfl
        | true => have := Nat.blt_eq.mp q; omega
      rw [this]
      rfl
    intro k hk
    have := List.all_eq_true.mp h4 k (List.mem_range.mpr hk)
    obtain ⟨b1, b2⟩ := ev_and this
    have b1 := Nat.eq_of_beq_eq_true b1
    have b2 := Nat.blt_eq.mp b2
    have v := (hc.2.2 k (by rw [hsz]; omega)).1 (by omega)
    have := z_of_u (x := ez_I h p k) (by omega)
    omega
  · cases H
noncomputable def iq1 (S : ev_S) (p n : Nat) (f : Nat → Nat) : Bool := match ev_gc S.2.2 p with
  | .mul (.add (.num a) (.num b)) (.add ai (.add _ _)) => and (Nat.ble 1000 a) (and (Nat.blt n 2147483648) ((List.range n).all (fun k => and (Nat.blt (f k) b) (Nat.beq (ev_g ai (f k)) k))))
  | _ => false
theorem iq1_ok {S : ev_S} {h : ez_H} {p n : Nat} {f : Nat → Nat} (H : iq1 S p n f = true) (hr : ev_rel S h) (hp : p < 128) : ∀ k, k < n → (ez_I h p (f k)).toInt = (k : Nat) := by
  unfold iq1 at H
  split at H
  · rename_i a b ai al ar e
    obtain ⟨h1, h2⟩ := ev_and H
    obtain ⟨h2, h4⟩ := ev_and h2
    have hc := hr.2.2 p hp
    rw [e] at hc
    have h1 := Nat.le_of_ble_eq_true h1
    have h2 := Nat.blt_eq.mp h2
    have hsz : ev_sz a b = b := by
      unfold ev_sz
      have : Nat.blt a 1000 = false := by
        cases q : Nat.blt a 1000 with
        | false => rfl
        | true => have := Nat.blt_eq.mp q; omega
      rw [this]
      rfl
    intro k hk
    have := List.all_eq_true.mp h4 k (List.mem_range.mpr hk)
    obtain ⟨b1, b2⟩ := ev_and this
    have b1 := Nat.blt_eq.mp b1
    have b2 := Nat.eq_of_beq_eq_true b2
    have v := (hc.2.2 (f k) (by rw [hsz]; omega)).1 (by omega)
    have := z_of_u (x := ez_I h p (f k)) (by omega)
    omega
  · cases H
/-- the fixed codes, told shortly -/
noncomputable def fxC (l : Nat) : Nat := if l = 8 then 48 else if l = 9 then 400 else 0
noncomputable def fxP (l : Nat) : Nat := if l = 8 then 24 else if l = 9 then 176 else 0
noncomputable def fxN (k : Nat) : Nat := if k < 144 then k else if k < 256 then k - 144 else if k < 280 then k - 256 else k - 280 + 144
theorem fx_n : ∀ k, k < 288 → ctN fxL (fxL k) k = fxN k := by
  have e : ((List.range 288).all (fun k => Nat.beq (ctN fxL (fxL k) k) (fxN k))) = true := by decide +kernel
  intro k hk
  exact Nat.eq_of_beq_eq_true (List.all_eq_true.mp e k (List.mem_range.mpr hk))
theorem fxL_v (k : Nat) : fxL k = 7 ∨ fxL k = 8 ∨ fxL k = 9 := by
  unfold fxL
  by_cases a : k < 144
  · rw [if_pos a]; omega
  · rw [if_neg a]
    by_cases b : k < 256
    · rw [if_pos b]; omega
    · rw [if_neg b]
      by_cases c : k < 280
      · rw [if_pos c]; omega
      · rw [if_neg c]; omega
theorem fx_c (k : Nat) : ncN fxL 288 (fxL k) = fxC (fxL k) := by
  have e7 : ncN fxL 288 7 = fxC 7 := by decide +kernel
  have e8 : ncN fxL 288 8 = fxC 8 := by decide +kernel
  have e9 : ncN fxL 288 9 = fxC 9 := by decide +kernel
  rcases fxL_v k with q | q | q
  · rw [q]; exact e7
  · rw [q]; exact e8
  · rw [q]; exact e9
theorem fx_p (k : Nat) : plN fxL 288 (fxL k) = fxP (fxL k) := by
  have e7 : plN fxL 288 7 = fxP 7 := by decide +kernel
  have e8 : plN fxL 288 8 = fxP 8 := by decide +kernel
  have e9 : plN fxL 288 9 = fxP 9 := by decide +kernel
  rcases fxL_v k with q | q | q
  · rw [q]; exact e7
  · rw [q]; exact e8
  · rw [q]; exact e9
theorem fx_cd {k : Nat} (hk : k < 288) : cdN fxL 288 k = rvN (fxC (fxL k) + fxN k) (fxL k) := by
  unfold cdN cwN
  rw [fx_c, fx_n k hk]
theorem fx_pc {k : Nat} (hk : k < 288) : pcN fxL 288 k = fxP (fxL k) + fxN k := by
  unfold pcN
  rw [fx_p, fx_n k hk]
theorem fd_n : ∀ k, k < 32 → ctN fxD 5 k = k := by
  have e : ((List.range 32).all (fun k => Nat.beq (ctN fxD 5 k) k)) = true := by decide +kernel
  intro k hk
  exact Nat.eq_of_beq_eq_true (List.all_eq_true.mp e k (List.mem_range.mpr hk))
theorem fd_cd {k : Nat} (hk : k < 32) : cdN fxD 288 k = rvN k 5 := by
  have h5 : fxD k = 5 := if_pos hk
  have e : ncN fxD 288 5 = 0 := by decide +kernel
  unfold cdN cwN
  rw [h5, e, fd_n k hk, Nat.zero_add]
theorem fd_pc {k : Nat} (hk : k < 32) : pcN fxD 288 k = k := by
  have h5 : fxD k = 5 := if_pos hk
  have e : plN fxD 288 5 = 0 := by decide +kernel
  unfold pcN
  rw [h5, e, fd_n k hk, Nat.zero_add]
section FXG
variable {g f : Nat → Int32} {L : Nat → Nat}
theorem wd_g (e : ∀ k, k < 288 → nL g k = L k) (A : ∀ k, k < 288 → 1 ≤ L k → (f k).toInt = (cdN L 288 k : Nat)) : wdI f (nL g) 288 288 := fun k hk h1 => by
  rw [A k hk (by rw [← e k hk]; exact h1), cdN_congr (L := nL g) (L' := L) (N := 288) (N' := 288) (fun l _ => ctN_congr 288 e) (fun j hj => e j (by omega))]
theorem ct_g (e : ∀ k, k < 288 → nL g k = L k) (A : cpN f (fun l => if l = 0 then 0 else ctN L l 288) 16) : ctC f (nL g) 288 := ⟨A 0 (by decide), fun l h1 h2 => by
  rw [A l h2, ctN_congr 288 e]
  show (((if l = 0 then 0 else ctN L l 288) : Nat) : Int) = _
  rw [if_neg (by omega)]⟩
theorem it_g (e : ∀ k, k < 288 → nL g k = L k) (A : ∀ k, k < 288 → 1 ≤ L k → (f (pcN L 288 k)).toInt = (k : Nat)) : itI f (nL g) 288 288 := fun k hk h1 => by
  have e1 : pcN (nL g) 288 k = pcN L 288 k := by
    unfold pcN
    rw [e k hk, pl_eq e, ctN_congr k (fun j hj => e j (by omega))]
  rw [e1]
  exact A k hk (by rw [← e k hk]; exact h1)
end FXG
set_option maxRecDepth 8000 in
theorem g3_F {h : ez_H} (hr : ev_rel gS3 h) : rFp (ez_I h 15 4) (ez_I h 16) (ez_I h 17) (ez_I h 18) (ez_I h 19) (ez_I h 22 4) (ez_I h 23) (ez_I h 24) (ez_I h 25) (ez_I h 26) := by
  have c16 : cpN (ez_I h 16) fxL 288 := cq1_ok (p := 16) (n := 288) (f := fxL) (by decide +kernel) hr (by decide)
  have c17 : cpN (ez_I h 17) (fun k => rvN (fxC (fxL k) + fxN k) (fxL k)) 288 := cq1_ok (p := 17) (n := 288) (by decide +kernel) hr (by decide)
  have c18 : cpN (ez_I h 18) (fun l => if l = 0 then 0 else ctN fxL l 288) 16 := cq1_ok (p := 18) (n := 16) (by decide +kernel) hr (by decide)
  have c15 : (ez_I h 15 4).toInt = ((288 : Nat) : Int) := it1_ok (p := 15) (k := 4) (n := 288) (by decide +kernel) hr (by decide)
  have c19 : ∀ k, k < 288 → (ez_I h 19 (fxP (fxL k) + fxN k)).toInt = (k : Nat) := iq1_ok (p := 19) (n := 288) (f := fun k => fxP (fxL k) + fxN k) (by decide +kernel) hr (by decide)
  have c23 : cpN (ez_I h 23) fxD 288 := cq1_ok (p := 23) (n := 288) (f := fxD) (by decide +kernel) hr (by decide)
  have c24 : cpN (ez_I h 24) (fun k => rvN k 5) 32 := cq1_ok (p := 24) (n := 32) (by decide +kernel) hr (by decide)
  have c25 : cpN (ez_I h 25) (fun l => if l = 0 then 0 else ctN fxD l 288) 16 := cq1_ok (p := 25) (n := 16) (by decide +kernel) hr (by decide)
  have c22 : (ez_I h 22 4).toInt = ((32 : Nat) : Int) := it1_ok (p := 22) (k := 4) (n := 32) (by decide +kernel) hr (by decide)
  have c26 : ∀ k, k < 32 → (ez_I h 26 k).toInt = (k : Nat) := iq1_ok (p := 26) (n := 32) (f := fun k => k) (by decide +kernel) hr (by decide)
  have e16 := cpN_nL c16
  have e23 := cpN_nL c23
  have p1 : plN fxL 288 16 = 288 := by decide +kernel
  have p2 : plN fxD 288 16 = 32 := by decide +kernel
  have hd : ∀ k, 1 ≤ fxD k → k < 32 := fun k h1 => by
    unfold fxD at h1
    by_cases c : k < 32
    · exact c
    · rw [if_neg c] at h1; omega
  refine ⟨⟨cpN_aR c16 (fun k _ => (fxL_1 k).2), wd_g e16 (fun k hk _ => by rw [fx_cd hk]; exact c17 k hk), e16, ct_g e16 c18, by rw [pl_eq e16, p1]; exact c15, it_g e16 (fun k hk _ => by rw [fx_pc hk]; exact c19 k hk)⟩, cpN_aR c23 (fun k _ => fxD_5 k), wd_g e23 (fun k _ h1 => by rw [fd_cd (hd k h1)]; exact c24 k (hd k h1)), e23, ct_g e23 c25, by rw [pl_eq e23, p2]; exact c22, it_g e23 (fun k _ h1 => by rw [fd_pc (hd k h1)]; exact c26 k (hd k h1))⟩
theorem aR_m {f : Nat → Int32} {n : Nat} {a b c d : Int} (A : aR f n a b) (h1 : c ≤ a) (h2 : b ≤ d) : aR f n c d := fun k hk => by have := A k hk; omega
set_option maxRecDepth 20000 in
theorem g3_RR {h : ez_H} (hr : ev_rel gS3 h) : RR h := by
  have z : ∀ p k, p < 128 → it1 gS3 p k 0 = true → (ez_I h p k).toInt = 0 := fun p k hp H => it1_ok H hr hp
  have a7 := ar1_ok (p := 7) (n := 64) (lo := 0) (hi := 0) (by decide +kernel) hr (by decide)
  have a124 := ar1_ok (p := 124) (n := 64) (lo := 0) (hi := 0) (by decide +kernel) hr (by decide)
  have a75 := ar1_ok (p := 75) (n := 8000) (lo := 0) (hi := 0) (by decide +kernel) hr (by decide)
  have a72 := ar1_ok (p := 72) (n := 6000) (lo := 0) (hi := 0) (by decide +kernel) hr (by decide)
  have a6 := ar1_ok (p := 6) (n := 20) (lo := 0) (hi := 0) (by decide +kernel) hr (by decide)
  have a74 := ar1_ok (p := 74) (n := 20) (lo := 0) (hi := 0) (by decide +kernel) hr (by decide)
  have z2 := z 2 1 (by decide) (by decide +kernel)
  have z4 := z 4 1 (by decide) (by decide +kernel)
  have z53 := z 53 1 (by decide) (by decide +kernel)
  have z55 := z 55 2 (by decide) (by decide +kernel)
  have y6 := z 71 6 (by decide) (by decide +kernel)
  have y7 := z 71 7 (by decide) (by decide +kernel)
  have y14 := z 71 14 (by decide) (by decide +kernel)
  have y15 := z 71 15 (by decide) (by decide +kernel)
  refine ⟨g3_sh hr, g3_F hr, ⟨aR_m a75 (by decide) (by decide), cq1_ok (p := 92) (n := 29) (f := LBf) (by decide +kernel) hr (by decide), cq1_ok (p := 93) (n := 29) (f := LEf) (by decide +kernel) hr (by decide), cq1_ok (p := 94) (n := 30) (f := DBf) (by decide +kernel) hr (by decide), cq1_ok (p := 95) (n := 30) (f := DEf) (by decide +kernel) hr (by decide), cq1_ok (p := 96) (n := 19) (f := ORf) (by decide +kernel) hr (by decide)⟩, ⟨aR_m a7 (by decide) (by decide), aR_m a124 (by decide) (by decide)⟩, ⟨by omega, by omega, by omega, fun i hi => by omega, aR_m a72 (by decide) (by decide)⟩, ⟨by omega, by omega, by omega, fun i hi => by omega⟩, ⟨fun k hk => ?_, aR_m a74 (by decide) (by decide)⟩, ⟨fun _ => 0, 0, 0, z53, y14, by decide, fun i hi => by omega, fun j hj => by omega, fun j hj => by omega, fun j hj => by omega⟩, ⟨fun _ => 0, 0, 0, 0, 0, z55, y15, by decide, fun i hi => by omega, fun i hi => by omega⟩⟩
  have h1 := a6 k hk
  have h2 := a74 k hk
  omega
end
section
/-! PRINTED by wip/pack: the law: its own helpers -/
theorem zV_m {PF PF2 : Nat → Nat → Prop} {PA PA2 : Nat → Prop} {h h2 : ez_H} (V : zV PF PA h h2) (a : ∀ q k, PF q k → PF2 q k) (b : ∀ q, PA q → PA2 q) : zV PF2 PA2 h h2 := ⟨V.1, fun p k x y => V.2 p k (fun c => x (b p c)) (fun c => y (a p k c))⟩
theorem zV_r {PF : Nat → Nat → Prop} {PA : Nat → Prop} {h : ez_H} (S : zSh h) : zV PF PA h h := ⟨S, fun _ _ _ _ => rfl⟩
theorem zV_b {PF : Nat → Nat → Prop} {PA : Nat → Prop} {h h2 : ez_H} (V : zV PF PA h h2) : zV PF PA h (ez_bump h2) := ⟨V.1, V.2⟩
theorem zV_L {PF : Nat → Nat → Prop} {PA : Nat → Prop} {h h1 h2 : ez_H} {p k : Nat} {v : Int64} (V : zV PF PA h h1) (e : h2 = ez_setL h1 p k v) : zV PF PA h h2 := by subst e; exact V
def lC (h h2 : ez_H) : Prop := ez_n h2 ≤ ez_n h + 1 ∧ ez_u h2 ≤ ez_u h + 6
theorem lC_W {PF : Nat → Nat → Prop} {PA PL : Nat → Prop} {h h2 : ez_H} (F : zW PF PA PL h h2) : lC h h2 := ⟨by rw [F.1]; omega, by rw [F.2.1]; omega⟩
theorem lC_b {PF : Nat → Nat → Prop} {PA PL : Nat → Prop} {h h2 : ez_H} (F : zW PF PA PL h h2) : lC h (ez_bump h2) := ⟨by show ez_n h2 + 1 ≤ _; rw [F.1]; omega, by show ez_u h2 + 6 ≤ _; rw [F.2.1]; omega⟩
theorem lC_b0 (h : ez_H) : lC h (ez_bump h) := ⟨Nat.le_refl _, Nat.le_refl _⟩
theorem lC_L {h h1 h2 : ez_H} {p k : Nat} {v : Int64} (A : lC h h1) (e : h2 = ez_setL h1 p k v) : lC h h2 := by subst e; exact A
theorem lC_t {PF : Nat → Nat → Prop} {PA PL : Nat → Prop} {h h1 h2 : ez_H} (A : lC h h1) (F : zW PF PA PL h1 h2) : lC h h2 := ⟨by rw [F.1]; exact A.1, by rw [F.2.1]; exact A.2⟩
theorem ez_IL {h1 h2 : ez_H} {p k : Nat} {v : Int64} (e : h2 = ez_setL h1 p k v) (q : Nat) : ez_I h2 q = ez_I h1 q := zIL_fn e q
theorem l_takeR {E : Nat → Nat × (Nat → Int32)} {d : Nat} {Q : ez_Q} {h : ez_H} (R : RR h) (hM : zMem h) (K : ∀ h2 (x : Int32), lC h h2 → zV (fun q k => q = 2 ∧ k = 1) (fun q => q = 3) h h2 → ((6000 < (ez_I h 4 1).toInt ∧ ez_I h2 2 1 = ez_I h 2 1 ∧ ez_I h2 3 = ez_I h 3) ∨ ((ez_I h 4 1).toInt ≤ 6000 ∧ (ez_I h2 2 1).toInt = (ez_I h 4 1).toInt ∧ (∀ k : Nat, (k : Int) < (ez_I h 4 1).toInt → ez_I h2 3 k = ez_I h 5 k))) → ((6000 < (ez_I h 4 1).toInt ∧ x.toInt = 1) ∨ ((ez_I h 4 1).toInt ≤ 6000 ∧ x.toInt = 0 ∧ (ez_L h2 126 0).toInt = (ez_I h 4 1).toInt)) → Q (.inl (some (.int x))) h2) : pw E (d + 2) 144 0 [some (.ref 1), some (.ref 126), none] [] h Q := by
  apply ez_Wp_in
  show ez_gw _ _ _ _ _ _ (cz_144) _ _ _ _ _
  refine gw_skip _ ?_
  refine gw_ld rfl rfl ?_
  refine z_C (m := 0) rfl rfl (fun x1 ex1 => ?_)
  refine gw_ld rfl rfl ?_
  refine z_cl rfl rfl rfl rfl rfl rfl rfl rfl rfl rfl rfl (zT R.1 (by decide) rfl) ?_
  refine x_takeF R.1 hM (RR_o R) (fun q => ?_) (fun h2 x F k1 k2 k3 k4 => ?_)
  · show ez_gw _ _ _ _ _ _ _ (12 + 1) [some (.ref 1), some (.ref 126), none] [] _ _
    refine gw_skip _ ?_
    refine z_C (m := 1) rfl rfl (fun x2 ex2 => ?_)
    refine z_ri ?_
    exact K _ _ (lC_b0 h) (zV_b (zV_r R.1)) (.inl ⟨q, rfl, rfl⟩) (.inl ⟨q, by omega⟩)
  · have S2 := zW_sh F R.1
    refine z_i2l (fun l el => ?_)
    refine z_ls (n := 1) (zT S2 (by decide) rfl) (zN S2 (by decide) rfl) (by omega) (fun h3 e3 => ?_)
    refine z_go ?_
    refine gw_skip _ ?_
    refine z_C (m := 0) rfl rfl (fun x2 ex2 => ?_)
    refine z_ri ?_
    exact K _ _ (lC_L (lC_W F) e3) (zV_L (zV_of R.1 F) e3) (.inr ⟨k1, by rw [ez_IL e3]; exact k3, fun k hk => by rw [ez_IL e3]; exact k4 k hk⟩) (.inr ⟨k1, by omega, by rw [show x1.toInt.toNat = 0 by omega] at e3; rw [zL_eq e3, el, k2]; exact k3⟩)
theorem x77_2 : ¬ (30 ≤ 4 ∧ 4 ≤ 35 ∨ 37 ≤ 4 ∧ 4 ≤ 42 ∨ 44 ≤ 4 ∧ 4 ≤ 49 ∨ 4 = 70 ∨ 4 = 51) := by omega
theorem x77_3 : ¬ (30 ≤ 5 ∧ 5 ≤ 35 ∨ 37 ≤ 5 ∧ 5 ≤ 42 ∨ 44 ≤ 5 ∧ 5 ≤ 49 ∨ 5 = 70 ∨ 5 = 51) := by omega
theorem x77_4 : ¬ (4 = 69 ∧ 1 = 2 ∨ 4 = 69 ∧ 1 = 3 ∨ 4 = 69 ∧ 1 = 6 ∨ 4 = 29 ∧ 1 = 4 ∨ 4 = 36 ∧ 1 = 4 ∨ 4 = 43 ∧ 1 = 4 ∨ 4 = 50 ∧ 1 = 1 ∨ 4 = 69 ∧ 1 = 1) := by omega
theorem x77_5 : ∀ k : Nat, ¬ (5 = 69 ∧ k = 2 ∨ 5 = 69 ∧ k = 3 ∨ 5 = 69 ∧ k = 6 ∨ 5 = 29 ∧ k = 4 ∨ 5 = 36 ∧ k = 4 ∨ 5 = 43 ∧ k = 4 ∨ 5 = 50 ∧ k = 1 ∨ 5 = 69 ∧ k = 1) := fun k c => by omega
theorem x77_6 : ∀ q k : Nat, (q = 69 ∧ k = 2 ∨ q = 69 ∧ k = 3 ∨ q = 69 ∧ k = 6 ∨ q = 29 ∧ k = 4 ∨ q = 36 ∧ k = 4 ∨ q = 43 ∧ k = 4 ∨ q = 50 ∧ k = 1 ∨ q = 69 ∧ k = 1) → (q = 69 ∧ k = 2 ∨ q = 69 ∧ k = 3 ∨ q = 69 ∧ k = 6 ∨ q = 29 ∧ k = 4 ∨ q = 36 ∧ k = 4 ∨ q = 43 ∧ k = 4 ∨ q = 50 ∧ k = 1 ∨ q = 69 ∧ k = 1 ∨ q = 4 ∧ k = 1) := fun q k hk => hk.elim (fun g => (.inl g)) (fun hk => hk.elim (fun g => (.inr (.inl g))) (fun hk => hk.elim (fun g => (.inr (.inr (.inl g)))) (fun hk => hk.elim (fun g => (.inr (.inr (.inr (.inl g))))) (fun hk => hk.elim (fun g => (.inr (.inr (.inr (.inr (.inl g)))))) (fun hk => hk.elim (fun g => (.inr (.inr (.inr (.inr (.inr (.inl g))))))) (fun hk => hk.elim (fun g => (.inr (.inr (.inr (.inr (.inr (.inr (.inl g)))))))) (fun hk => (.inr (.inr (.inr (.inr (.inr (.inr (.inr (.inl hk)))))))))))))))
theorem x77_7 : ∀ q : Nat, (30 ≤ q ∧ q ≤ 35 ∨ 37 ≤ q ∧ q ≤ 42 ∨ 44 ≤ q ∧ q ≤ 49 ∨ q = 70 ∨ q = 51) → (30 ≤ q ∧ q ≤ 35 ∨ 37 ≤ q ∧ q ≤ 42 ∨ 44 ≤ q ∧ q ≤ 49 ∨ q = 70 ∨ q = 51 ∨ q = 5) := fun q hk => hk.elim (fun g => (.inl g)) (fun hk => hk.elim (fun g => (.inr (.inl g))) (fun hk => hk.elim (fun g => (.inr (.inr (.inl g)))) (fun hk => hk.elim (fun g => (.inr (.inr (.inr (.inl g))))) (fun hk => (.inr (.inr (.inr (.inr (.inl hk)))))))))
theorem l_unpackR {E : Nat → Nat × (Nat → Int32)} {d : Nat} {Q : ez_Q} {h : ez_H} (R : RR h) (hE : zE E) (hM : zMem h) (K : ∀ h2 (x : Int32), lC h h2 → zV (fun q k => q = 69 ∧ k = 2 ∨ q = 69 ∧ k = 3 ∨ q = 69 ∧ k = 6 ∨ q = 29 ∧ k = 4 ∨ q = 36 ∧ k = 4 ∨ q = 43 ∧ k = 4 ∨ q = 50 ∧ k = 1 ∨ q = 69 ∧ k = 1 ∨ q = 4 ∧ k = 1) (fun q => 30 ≤ q ∧ q ≤ 35 ∨ 37 ≤ q ∧ q ≤ 42 ∨ 44 ≤ q ∧ q ≤ 49 ∨ q = 70 ∨ q = 51 ∨ q = 5) h h2 → (((unL (tI (ez_I h 3)) (ez_I h 2 1).toInt.toNat (8 * (ez_I h 2 1).toInt.toNat) 0 (fun _ => 0) 0) = none ∧ ez_I h2 4 1 = ez_I h 4 1 ∧ ez_I h2 5 = ez_I h 5) ∨ ∃ (o2 : Nat → Int) (m2 : Nat), (unL (tI (ez_I h 3)) (ez_I h 2 1).toInt.toNat (8 * (ez_I h 2 1).toInt.toNat) 0 (fun _ => 0) 0) = some (o2, m2) ∧ (ez_I h2 4 1).toInt = (m2 : Nat) ∧ m2 ≤ 6000 ∧ oR (ez_I h2 5) o2 m2) → (((unL (tI (ez_I h 3)) (ez_I h 2 1).toInt.toNat (8 * (ez_I h 2 1).toInt.toNat) 0 (fun _ => 0) 0) = none ∧ x.toInt = 1) ∨ ∃ (o2 : Nat → Int) (m2 : Nat), (unL (tI (ez_I h 3)) (ez_I h 2 1).toInt.toNat (8 * (ez_I h 2 1).toInt.toNat) 0 (fun _ => 0) 0) = some (o2, m2) ∧ x.toInt = 0 ∧ (ez_L h2 126 0).toInt = (m2 : Nat)) → Q (.inl (some (.int x))) h2) : pw E (d + 7) 145 0 [some (.ref 1), some (.ref 126), none] [] h Q := by
  apply ez_Wp_in
  show ez_gw _ _ _ _ _ _ (cz_145) _ _ _ _ _
  refine gw_skip _ ?_
  refine gw_ld rfl rfl ?_
  refine z_C (m := 0) rfl rfl (fun x1 ex1 => ?_)
  refine gw_ld rfl rfl ?_
  refine z_cl rfl rfl rfl rfl rfl rfl rfl rfl rfl rfl rfl (zT R.1 (by decide) rfl) ?_
  refine x_unpackF R.1 hE hM (RR_z R) (RR_b R) R.2.1.1.1 R.2.1.1.2.2.2.1 R.2.1.1.2.2.2.2.1 R.2.1.1.2.2.2.2.2 R.2.1.2.1 R.2.1.2.2.2.2.1 R.2.1.2.2.2.2.2.1 R.2.1.2.2.2.2.2.2 R.2.1.1.2.2.1 R.2.1.2.2.2.1 (fun q h2 F => ?_) (fun h2 x F o2 m2 k1 k2 k3 k4 k5 => ?_)
  · show ez_gw _ _ _ _ _ _ _ (12 + 1) [some (.ref 1), some (.ref 126), none] [] _ _
    refine gw_skip _ ?_
    refine z_C (m := 1) rfl rfl (fun x2 ex2 => ?_)
    refine z_ri ?_
    exact K _ _ (lC_b F) (zV_b (zV_m (zV_of R.1 F) x77_6 x77_7)) (.inl ⟨q, show ez_I h2 4 1 = ez_I h 4 1 from zW_f F x77_2 x77_4, show ez_I h2 5 = ez_I h 5 from zW_fn F 5 x77_3 x77_5⟩) (.inl ⟨q, by omega⟩)
  · have S2 := zW_sh F R.1
    refine z_i2l (fun l el => ?_)
    refine z_ls (n := 1) (zT S2 (by decide) rfl) (zN S2 (by decide) rfl) (by omega) (fun h3 e3 => ?_)
    refine z_go ?_
    refine gw_skip _ ?_
    refine z_C (m := 0) rfl rfl (fun x2 ex2 => ?_)
    refine z_ri ?_
    exact K _ _ (lC_L (lC_W F) e3) (zV_L (zV_of R.1 F) e3) (.inr ⟨o2, m2, k1, by rw [ez_IL e3]; exact k3, k4, by rw [ez_IL e3]; exact k5⟩) (.inr ⟨o2, m2, k1, by omega, by rw [show x1.toInt.toNat = 0 by omega] at e3; rw [zL_eq e3, el]; exact k2⟩)
theorem x77_8 : ∀ q k : Nat, (False) → (False) := fun q k hk => hk.elim
theorem x77_9 : ∀ q : Nat, (q = 7) → (q = 7 ∨ q = 8 ∨ q = 10 ∨ q = 13) := fun q hk => (.inl hk)
theorem x77_10 : ∀ q : Nat, (q = 10 ∨ q = 13 ∨ q = 8) → (q = 7 ∨ q = 8 ∨ q = 10 ∨ q = 13) := fun q hk => hk.elim (fun g => (.inr (.inr (.inl g)))) (fun hk => hk.elim (fun g => (.inr (.inr (.inr g)))) (fun hk => (.inr (.inl hk))))
theorem l_weighR {E : Nat → Nat × (Nat → Int32)} {d : Nat} {Q : ez_Q} {h : ez_H} {y w : Int32} (R : RR h) (hM : zMem h) (K : ∀ h2 (x : Int32), lC h h2 → zV (fun _ _ => False) (fun q => q = 7 ∨ q = 8 ∨ q = 10 ∨ q = 13) h h2 → aR (ez_I h2 7) 64 0 1000000 → Q (.inl (some (.int x))) h2) : pw E (d + 1) 146 0 [some (.ref 1), some (.int y), some (.int w), none] [] h Q := by
  apply ez_Wp_in
  show ez_gw _ _ _ _ _ _ (cz_146) _ _ _ _ _
  refine gw_skip _ ?_
  refine gw_ld rfl rfl ?_
  refine gw_ld rfl rfl ?_
  refine gw_ld rfl rfl ?_
  refine z_cl rfl rfl rfl rfl rfl rfl rfl rfl rfl rfl rfl (zT R.1 (by decide) rfl) ?_
  refine f_weigh R.1 hM (fun q => ?_) (fun q q2 => ?_) (fun h2 F q v => ?_)
  · show ez_gw _ _ _ _ _ _ _ (10 + 1) [some (.ref 1), some (.int y), some (.int w), none] [] _ _
    refine gw_skip _ ?_
    refine z_C (m := 1) rfl rfl (fun x2 ex2 => ?_)
    refine z_ri ?_
    exact K _ _ (lC_b0 h) (zV_b (zV_r R.1)) R.2.2.2.1.1
  · show ez_gw _ _ _ _ _ _ _ (13 + 1) [some (.ref 1), some (.int y), some (.int w), none] [] _ _
    refine gw_skip _ ?_
    refine z_C (m := 2) rfl rfl (fun x2 ex2 => ?_)
    refine z_ri ?_
    exact K _ _ (lC_b0 h) (zV_b (zV_r R.1)) R.2.2.2.1.1
  · refine z_go ?_
    refine gw_skip _ ?_
    refine z_C (m := 0) rfl rfl (fun x2 ex2 => ?_)
    refine z_ri ?_
    refine K _ _ (lC_W (zW_ofK F)) (zV_m (zV_of R.1 (zW_ofK F)) x77_8 x77_9) (fun k hk => ?_)
    by_cases e : k = y.toInt.toNat
    · rw [e, v.1]; exact ⟨q.2.2.1, q.2.2.2⟩
    · rw [v.2 k e]; exact R.2.2.2.1.1 k hk
theorem l_measureR {E : Nat → Nat × (Nat → Int32)} {d : Nat} {Q : ez_Q} {h : ez_H} {m : Int32} (R : RR h) (hE : zE E) (hM : zMem h) (K : ∀ h2 (x : Int32), lC h h2 → zV (fun _ _ => False) (fun q => q = 7 ∨ q = 8 ∨ q = 10 ∨ q = 13) h h2 → aR (ez_I h2 7) 64 0 1000000 → Q (.inl (some (.int x))) h2) : pw E (d + 4) 147 0 [some (.ref 1), some (.int m), some (.ref 126), none] [] h Q := by
  apply ez_Wp_in
  show ez_gw _ _ _ _ _ _ (cz_147) _ _ _ _ _
  refine gw_skip _ ?_
  refine gw_ld rfl rfl ?_
  refine z_C (m := 0) rfl rfl (fun x1 ex1 => ?_)
  refine gw_ld rfl rfl ?_
  refine gw_ld rfl rfl ?_
  refine z_cl rfl rfl rfl rfl rfl rfl rfl rfl rfl rfl rfl (zT R.1 (by decide) rfl) ?_
  refine f_measure R.1 hE hM R.2.2.2.1.1 (fun q => ?_) (fun q q2 => ?_) (fun h2 x F q q2 lp ws => ?_)
  · show ez_gw _ _ _ _ _ _ _ (13 + 1) [some (.ref 1), some (.int m), some (.ref 126), none] [] _ _
    refine gw_skip _ ?_
    refine z_C (m := 1) rfl rfl (fun x2 ex2 => ?_)
    refine z_ri ?_
    exact K _ _ (lC_b0 h) (zV_b (zV_r R.1)) R.2.2.2.1.1
  · show ez_gw _ _ _ _ _ _ _ (16 + 1) [some (.ref 1), some (.int m), some (.ref 126), none] [] _ _
    refine gw_skip _ ?_
    refine z_C (m := 2) rfl rfl (fun x2 ex2 => ?_)
    refine z_ri ?_
    exact K _ _ (lC_b0 h) (zV_b (zV_r R.1)) R.2.2.2.1.1
  · have FW := zW_ofK F
    have S2 := zW_sh FW R.1
    refine z_i2l (fun l el => ?_)
    refine z_ls (n := 1) (zT S2 (by decide) rfl) (zN S2 (by decide) rfl) (by omega) (fun h3 e3 => ?_)
    refine z_go ?_
    refine gw_skip _ ?_
    refine z_C (m := 0) rfl rfl (fun x2 ex2 => ?_)
    refine z_ri ?_
    exact K _ _ (lC_L (lC_W FW) e3) (zV_L (zV_m (zV_of R.1 FW) x77_8 x77_10) e3) (by rw [ez_IL e3, zW_fn FW 7 (by omega) (fun _ c => c)]; exact R.2.2.2.1.1)
theorem m_wR {h h2 : ez_H} {y w : Int32} (A : aR (ez_I h 124) 64 0 1000000) (k1 : (0 ≤ y.toInt ∧ y.toInt < 64 ∧ 0 ≤ w.toInt ∧ w.toInt ≤ 1000000) → ez_I h2 124 y.toInt.toNat = w ∧ ∀ k, k ≠ y.toInt.toNat → ez_I h2 124 k = ez_I h 124 k) (k2 : ¬ (0 ≤ y.toInt ∧ y.toInt < 64 ∧ 0 ≤ w.toInt ∧ w.toInt ≤ 1000000) → ez_I h2 124 = ez_I h 124) : aR (ez_I h2 124) 64 0 1000000 := by
  by_cases c : 0 ≤ y.toInt ∧ y.toInt < 64 ∧ 0 ≤ w.toInt ∧ w.toInt ≤ 1000000
  · intro k hk
    by_cases e : k = y.toInt.toNat
    · rw [e, (k1 c).1]; exact ⟨c.2.2.1, c.2.2.2⟩
    · rw [(k1 c).2 k e]; exact A k hk
  · rw [k2 c]; exact A
end
