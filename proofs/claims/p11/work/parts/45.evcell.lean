/-! instructions that look at cells -/
theorem ev_ob_ok {S : ev_S} {p a b : Nat} {c : Nat → ev_X → ev_X → ev_X → ev_R} {r : (Option ev_X ⊕ Nat) × ev_S} {h : ez_H} (H : ev_ob S p a b c = some r) (hr : ev_rel S h) : ∃ len ai al ar, p < 128 ∧ c len ai al ar = some r ∧ ev_ce a len ai al ar h p ∧ ev_dp a len = 7 ∧ b < ev_sz a len := by
  unfold ev_ob at H
  obtain ⟨tag, len, ai, al, ar, hp, H, hc⟩ := ev_cl_ok H hr
  obtain ⟨h1, H2⟩ := ev_cond H
  obtain ⟨h1, h2⟩ := ev_and h1
  obtain ⟨h2, h3⟩ := ev_and h2
  have e := Nat.eq_of_beq_eq_true h1
  subst e
  have e7 := ev_dp_obj (len := len) (Nat.blt_eq.mp h2)
  exact ⟨len, ai, al, ar, hp, H2, hc, e7, ev_sz_obj (Nat.blt_eq.mp h2) (Nat.blt_eq.mp h3)⟩
theorem ev_ra_ok {S : ev_S} {p a n : Nat} {c : Nat → ev_X → ev_X → ev_X → ev_R} {r : (Option ev_X ⊕ Nat) × ev_S} {h : ez_H} (H : ev_ra S p a n c = some r) (ha : 1000 ≤ a) (hr : ev_rel S h) : ∃ len ai al ar, p < 128 ∧ c len ai al ar = some r ∧ ev_ce a len ai al ar h p ∧ n < len ∧ len ≤ 200000 ∧ n < ev_sz a len := by
  unfold ev_ra at H
  obtain ⟨tag, len, ai, al, ar, hp, H, hc⟩ := ev_cl_ok H hr
  obtain ⟨h1, H2⟩ := ev_cond H
  obtain ⟨h1, h2⟩ := ev_and h1
  obtain ⟨h2, h3⟩ := ev_and h2
  have e := Nat.eq_of_beq_eq_true h1
  subst e
  have hn := Nat.blt_eq.mp h2
  exact ⟨len, ai, al, ar, hp, H2, hc, hn, Nat.ble_eq.mp h3, ev_dp_arr ha hn⟩
theorem ev_ix {x : Int32} {n len : Nat} (h : ev_u x = n) (h1 : n < len) (h2 : len ≤ 200000) : vp_in x len ∧ x.toNatClampNeg = n := by
  have e := ev_nI h (by omega)
  rw [e]
  exact ⟨vp_in_nI h1 (by omega), nI_clamp (by omega)⟩
section OKC
variable {pc a b k : Nat} {i : ClassFile.Instr} {v : Int32}
theorem ok_gI {q : Nat} (hk : k = 0 ∨ k = 1) : ev_OK (pc, .getfield q, a, b, k, v) (eh_gI a b) := fun X E ml hn mi d cs sc nx to cal hsc hnx hto hcal ls st S r ls' st' h Q H hl hs hr hQ => by
  unfold eh_gI at H
  split at H
  · obtain ⟨w, r', rfl, hx, hs1⟩ := ev_gs_cons hs
    have e : w = .ref _ := hx
    subst e
    obtain ⟨len, ai, al, ar, hp, H, hc, -, hb⟩ := ev_ob_ok H hr
    rw [ev_f_eq] at H
    obtain ⟨y, H, hy⟩ := ev_gi_hv (hc.2.2 b hb).1 H
    rcases hk with rfl | rfl
    · exact gw_sm rfl rfl rfl rfl rfl hc.1 (hnx _ _ _ _ _ _ _ _ H hl ⟨hy, hs1⟩ hr hQ)
    · exact gw_sm rfl rfl rfl rfl rfl hc.1 (hnx _ _ _ _ _ _ _ _ H hl ⟨hy, hs1⟩ hr hQ)
  · cases H
theorem ok_gL {q : Nat} : ev_OK (pc, .getfield q, a, b, 2, v) (eh_gL a b) := fun X E ml hn mi d cs sc nx to cal hsc hnx hto hcal ls st S r ls' st' h Q H hl hs hr hQ => by
  unfold eh_gL at H
  split at H
  · obtain ⟨w, r', rfl, hx, hs1⟩ := ev_gs_cons hs
    have e : w = .ref _ := hx
    subst e
    obtain ⟨len, ai, al, ar, hp, H, hc, -, hb⟩ := ev_ob_ok H hr
    rw [ev_f_eq] at H
    exact gw_sm rfl rfl rfl rfl rfl hc.1 (hnx _ _ _ _ _ _ _ _ H hl ⟨⟨_, rfl, (hc.2.2 b hb).2.1⟩, hs1⟩ hr hQ)
  · cases H
theorem ok_gR {q : Nat} : ev_OK (pc, .getfield q, a, b, 3, v) (eh_gR a b) := fun X E ml hn mi d cs sc nx to cal hsc hnx hto hcal ls st S r ls' st' h Q H hl hs hr hQ => by
  unfold eh_gR at H
  split at H
  · obtain ⟨w, r', rfl, hx, hs1⟩ := ev_gs_cons hs
    have e : w = .ref _ := hx
    subst e
    obtain ⟨len, ai, al, ar, hp, H, hc, -, hb⟩ := ev_ob_ok H hr
    rw [ev_f_eq] at H
    obtain ⟨h1, H⟩ := ev_cond' H
    have e := (hc.2.2 b hb).2.2
    exact gw_sm rfl rfl rfl rfl rfl ⟨hc.1, by rw [e]; exact Nat.ne_of_beq_eq_false h1⟩ (hnx _ _ _ _ _ _ _ _ H hl ⟨by rw [e]; rfl, hs1⟩ hr hQ)
  · cases H
theorem ok_gK {q j : Nat} : ev_OK (pc, .getfield q, a, b, j + 4, v) (eh_gK a b j) := fun X E ml hn mi d cs sc nx to cal hsc hnx hto hcal ls st S r ls' st' h Q H hl hs hr hQ => by
  unfold eh_gK at H
  split at H
  · obtain ⟨w, r', rfl, hx, hs1⟩ := ev_gs_cons hs
    have e : w = .ref _ := hx
    subst e
    obtain ⟨len, ai, al, ar, hp, H, hc, -, hb⟩ := ev_ob_ok H hr
    rw [ev_f_eq] at H
    obtain ⟨h1, H⟩ := ev_cond H
    have e := (hc.2.2 b hb).2.2
    have e2 := Nat.eq_of_beq_eq_true h1
    exact gw_sm rfl rfl rfl rfl rfl ⟨hc.1, by rw [e, e2]⟩ (hnx _ _ _ _ _ _ _ _ H hl ⟨by rw [e2]; rfl, hs1⟩ hr hQ)
  · cases H
theorem ok_pI {q : Nat} : ev_OK (pc, .putfield q, a, b, 0, v) (eh_pI a b) := fun X E ml hn mi d cs sc nx to cal hsc hnx hto hcal ls st S r ls' st' h Q H hl hs hr hQ => by
  unfold eh_pI ev_pf0 at H
  split at H
  · obtain ⟨w, r', rfl, ⟨y, rfl, rfl⟩, hs1⟩ := ev_gs_cons hs
    obtain ⟨w, r', rfl, hx, hs2⟩ := ev_gs_cons hs1
    have e : w = .ref _ := hx
    subst e
    obtain ⟨len, ai, al, ar, hp, H, hc, e7, hb⟩ := ev_ob_ok H hr
    rw [← e7] at H
    obtain ⟨S', H, hS⟩ := ev_setI_ok (x := y) hr hp hc hb (fun _ => rfl) H
    exact gw_sm rfl rfl rfl rfl rfl hc.1 (hnx _ _ _ _ _ _ _ _ H hl hs2 hS hQ)
  · obtain ⟨w, r', rfl, ⟨y, rfl, -⟩, hs1⟩ := ev_gs_cons hs
    obtain ⟨w, r', rfl, hx, hs2⟩ := ev_gs_cons hs1
    have e : w = .ref _ := hx
    subst e
    obtain ⟨len, ai, al, ar, hp, H, hc, e7, hb⟩ := ev_ob_ok H hr
    rw [← e7] at H
    obtain ⟨S', H, hS⟩ := ev_setI_ok (x := y) hr hp hc hb (fun c => absurd c (Nat.lt_irrefl _)) H
    exact gw_sm rfl rfl rfl rfl rfl hc.1 (hnx _ _ _ _ _ _ _ _ H hl hs2 hS hQ)
  · cases H
theorem ev_u_01 {y : Int32} (h : Nat.ble (ev_u y) 1 = true) : y = 0 ∨ y = 1 := by
  have h1 := Nat.ble_eq.mp h
  rcases Nat.lt_or_ge (ev_u y) 1 with h2 | h2
  · exact .inl (ev_u_inj (by show ev_u y = 0; omega))
  · exact .inr (ev_u_inj (by show ev_u y = 1; omega))
theorem ok_pZ {q : Nat} : ev_OK (pc, .putfield q, a, b, 1, v) (eh_pZ a b) := fun X E ml hn mi d cs sc nx to cal hsc hnx hto hcal ls st S r ls' st' h Q H hl hs hr hQ => by
  unfold eh_pZ ev_pf1 at H
  split at H
  · obtain ⟨w, r', rfl, ⟨y, rfl, rfl⟩, hs1⟩ := ev_gs_cons hs
    obtain ⟨w, r', rfl, hx, hs2⟩ := ev_gs_cons hs1
    have e : w = .ref _ := hx
    subst e
    obtain ⟨h1, H⟩ := ev_cond H
    obtain ⟨len, ai, al, ar, hp, H, hc, e7, hb⟩ := ev_ob_ok H hr
    rw [← e7] at H
    obtain ⟨S', H, hS⟩ := ev_setI_ok (x := y) hr hp hc hb (fun _ => rfl) H
    exact gw_sm rfl rfl rfl rfl rfl ⟨hc.1, ev_u_01 h1⟩ (hnx _ _ _ _ _ _ _ _ H hl hs2 hS hQ)
  · cases H
theorem ok_pR {q j : Nat} : ev_OK (pc, .putfield q, a, b, j + 3, v) (eh_pR a b) := fun X E ml hn mi d cs sc nx to cal hsc hnx hto hcal ls st S r ls' st' h Q H hl hs hr hQ => by
  unfold eh_pR ev_pf3 at H
  split at H
  · obtain ⟨w, r', rfl, hx, hs1⟩ := ev_gs_cons hs
    have e : w = .ref _ := hx
    subst e
    obtain ⟨w, r', rfl, hx', hs2⟩ := ev_gs_cons hs1
    have e : w = .ref _ := hx'
    subst e
    obtain ⟨h1, H⟩ := ev_cond H
    obtain ⟨len, ai, al, ar, hp, H, hc, e7, hb⟩ := ev_ob_ok H hr
    rw [← e7] at H
    obtain ⟨S', H, hS⟩ := ev_setR_ok hr hp hc hb H
    exact gw_sm rfl rfl rfl rfl rfl ⟨hc.1, Nat.ne_of_gt (Nat.blt_eq.mp h1)⟩ (hnx _ _ _ _ _ _ _ _ H hl hs2 hS hQ)
  · cases H
theorem ok_gs {q : Nat} : ev_OK (pc, .getstatic q, a, b, k, v) (eh_gs a) := fun X E ml hn mi d cs sc nx to cal hsc hnx hto hcal ls st S r ls' st' h Q H hl hs hr hQ =>
  gw_sm rfl rfl rfl rfl rfl trivial (hnx _ _ _ _ _ _ _ _ H hl ⟨rfl, hs⟩ hr hQ)
theorem ok_ia : ev_OK (pc, .iaload, a, b, k, v) eh_ia := fun X E ml hn mi d cs sc nx to cal hsc hnx hto hcal ls st S r ls' st' h Q H hl hs hr hQ => by
  unfold eh_ia ev_ia at H
  split at H
  · obtain ⟨w, r', rfl, ⟨y, rfl, hy⟩, hs1⟩ := ev_gs_cons hs
    obtain ⟨w, r', rfl, hx, hs2⟩ := ev_gs_cons hs1
    have e : w = .ref _ := hx
    subst e
    obtain ⟨len, ai, al, ar, hp, H, hc, h1, h2, h3⟩ := ev_ra_ok H (by decide) hr
    obtain ⟨i1, i2⟩ := ev_ix hy h1 h2
    rw [ev_f_eq] at H
    obtain ⟨y, H, hy⟩ := ev_gi_hv (hc.2.2 _ h3).1 H
    exact gw_sm rfl rfl rfl rfl rfl ⟨hc.1, by rw [hc.2.1]; exact i1⟩ (hnx _ _ _ _ _ _ _ _ H hl ⟨by rw [i2]; exact hy, hs2⟩ hr hQ)
  · obtain ⟨w, r', rfl, ⟨y, rfl, hy⟩, hs1⟩ := ev_gs_cons hs
    obtain ⟨w, r', rfl, hx, hs2⟩ := ev_gs_cons hs1
    have e : w = .retAddr _ := hx
    subst e
    obtain ⟨s1, s2, s3⟩ := hsc
    split at H
    · obtain ⟨hb, H⟩ := ev_cond H
      obtain ⟨h1, h2⟩ := ev_and hb
      have h1 := Nat.blt_eq.mp h1
      obtain ⟨i1, i2⟩ := ev_ix hy h1 (Nat.ble_eq.mp h2)
      have hv := s2 _ h1
      unfold ev_sc at H
      split at H
      · rename_i e
        rw [e] at hv
        exact gw_sm rfl rfl rfl rfl rfl (by rw [s1 (by omega)]; exact i1) (hnx _ _ _ _ _ _ _ _ H hl ⟨by rw [i2]; exact hv, hs2⟩ hr hQ)
      · rename_i e
        rw [e] at hv
        exact gw_sm rfl rfl rfl rfl rfl (by rw [s1 (by omega)]; exact i1) (hnx _ _ _ _ _ _ _ _ H hl ⟨by rw [i2]; exact hv, hs2⟩ hr hQ)
      · cases H
    · rename_i j
      obtain ⟨hb, H⟩ := ev_cond H
      obtain ⟨h1, h2⟩ := ev_and hb
      have h1 := Nat.blt_eq.mp h1
      obtain ⟨i1, i2⟩ := ev_ix hy h1 (Nat.ble_eq.mp h2)
      rw [ev_f_eq] at H
      exact gw_sm rfl rfl rfl rfl rfl (by rw [show E (Nat.succ j) = _ from s3 j]; exact i1) (hnx _ _ _ _ _ _ _ _ H hl ⟨⟨_, rfl, by rw [i2, show E (Nat.succ j) = _ from s3 j]⟩, hs2⟩ hr hQ)
  · cases H
theorem ok_ba : ev_OK (pc, .baload, a, b, k, v) eh_ba := fun X E ml hn mi d cs sc nx to cal hsc hnx hto hcal ls st S r ls' st' h Q H hl hs hr hQ => by
  unfold eh_ba ev_ba at H
  split at H
  · obtain ⟨w, r', rfl, ⟨y, rfl, hy⟩, hs1⟩ := ev_gs_cons hs
    obtain ⟨w, r', rfl, hx, hs2⟩ := ev_gs_cons hs1
    have e : w = .ref _ := hx
    subst e
    obtain ⟨len, ai, al, ar, hp, H, hc, h1, h2, h3⟩ := ev_ra_ok H (by decide) hr
    obtain ⟨i1, i2⟩ := ev_ix hy h1 h2
    rw [ev_f_eq] at H
    obtain ⟨y, H, hy⟩ := ev_gi_hv (hc.2.2 _ h3).1 H
    exact gw_sm rfl rfl rfl rfl rfl ⟨hc.1, by rw [hc.2.1]; exact i1⟩ (hnx _ _ _ _ _ _ _ _ H hl ⟨by rw [i2]; exact hy, hs2⟩ hr hQ)
  · cases H
theorem ok_ja : ev_OK (pc, .laload, a, b, k, v) eh_ja := fun X E ml hn mi d cs sc nx to cal hsc hnx hto hcal ls st S r ls' st' h Q H hl hs hr hQ => by
  unfold eh_ja ev_la at H
  split at H
  · obtain ⟨w, r', rfl, ⟨y, rfl, hy⟩, hs1⟩ := ev_gs_cons hs
    obtain ⟨w, r', rfl, hx, hs2⟩ := ev_gs_cons hs1
    have e : w = .ref _ := hx
    subst e
    obtain ⟨len, ai, al, ar, hp, H, hc, h1, h2, h3⟩ := ev_ra_ok H (by decide) hr
    obtain ⟨i1, i2⟩ := ev_ix hy h1 h2
    rw [ev_f_eq] at H
    exact gw_sm rfl rfl rfl rfl rfl ⟨hc.1, by rw [hc.2.1]; exact i1⟩ (hnx _ _ _ _ _ _ _ _ H hl ⟨⟨_, rfl, by rw [i2]; exact (hc.2.2 _ h3).2.1⟩, hs2⟩ hr hQ)
  · cases H
theorem ok_is : ev_OK (pc, .iastore, a, b, k, v) eh_is := fun X E ml hn mi d cs sc nx to cal hsc hnx hto hcal ls st S r ls' st' h Q H hl hs hr hQ => by
  unfold eh_is ev_is at H
  split at H
  · obtain ⟨w, r', rfl, ⟨z, rfl, rfl⟩, hs1⟩ := ev_gs_cons hs
    obtain ⟨w, r', rfl, ⟨y, rfl, hy⟩, hs2⟩ := ev_gs_cons hs1
    obtain ⟨w, r', rfl, hx, hs3⟩ := ev_gs_cons hs2
    have e : w = .ref _ := hx
    subst e
    obtain ⟨len, ai, al, ar, hp, H, hc, h1, h2, h3⟩ := ev_ra_ok H (by decide) hr
    obtain ⟨i1, i2⟩ := ev_ix hy h1 h2
    obtain ⟨S', H, hS⟩ := ev_setI_ok (x := z) hr hp hc h3 (fun _ => rfl) H
    exact gw_sm rfl rfl rfl rfl rfl ⟨hc.1, by rw [hc.2.1]; exact i1⟩ (hnx _ _ _ _ _ _ _ _ H hl hs3 (by rw [i2]; exact hS) hQ)
  · obtain ⟨w, r', rfl, ⟨z, rfl, -⟩, hs1⟩ := ev_gs_cons hs
    obtain ⟨w, r', rfl, ⟨y, rfl, hy⟩, hs2⟩ := ev_gs_cons hs1
    obtain ⟨w, r', rfl, hx, hs3⟩ := ev_gs_cons hs2
    have e : w = .ref _ := hx
    subst e
    obtain ⟨len, ai, al, ar, hp, H, hc, h1, h2, h3⟩ := ev_ra_ok H (by decide) hr
    obtain ⟨i1, i2⟩ := ev_ix hy h1 h2
    obtain ⟨S', H, hS⟩ := ev_setI_ok (x := z) hr hp hc h3 (fun c => absurd c (Nat.lt_irrefl _)) H
    exact gw_sm rfl rfl rfl rfl rfl ⟨hc.1, by rw [hc.2.1]; exact i1⟩ (hnx _ _ _ _ _ _ _ _ H hl hs3 (by rw [i2]; exact hS) hQ)
  · cases H
theorem ok_bs : ev_OK (pc, .bastore, a, b, k, v) eh_bs := fun X E ml hn mi d cs sc nx to cal hsc hnx hto hcal ls st S r ls' st' h Q H hl hs hr hQ => by
  unfold eh_bs ev_bs at H
  split at H
  · obtain ⟨w, r', rfl, ⟨z, rfl, rfl⟩, hs1⟩ := ev_gs_cons hs
    obtain ⟨w, r', rfl, ⟨y, rfl, hy⟩, hs2⟩ := ev_gs_cons hs1
    obtain ⟨w, r', rfl, hx, hs3⟩ := ev_gs_cons hs2
    have e : w = .ref _ := hx
    subst e
    obtain ⟨len, ai, al, ar, hp, H, hc, h1, h2, h3⟩ := ev_ra_ok H (by decide) hr
    obtain ⟨i1, i2⟩ := ev_ix hy h1 h2
    rw [ev_f_eq, ev_i_u] at H
    obtain ⟨S', H, hS⟩ := ev_setI_ok (x := z.toInt8.toInt32) hr hp hc h3 (fun _ => rfl) H
    exact gw_sm rfl rfl rfl rfl rfl ⟨hc.1, by rw [hc.2.1]; exact i1⟩ (hnx _ _ _ _ _ _ _ _ H hl hs3 (by rw [i2]; exact hS) hQ)
  · obtain ⟨w, r', rfl, ⟨z, rfl, -⟩, hs1⟩ := ev_gs_cons hs
    obtain ⟨w, r', rfl, ⟨y, rfl, hy⟩, hs2⟩ := ev_gs_cons hs1
    obtain ⟨w, r', rfl, hx, hs3⟩ := ev_gs_cons hs2
    have e : w = .ref _ := hx
    subst e
    obtain ⟨len, ai, al, ar, hp, H, hc, h1, h2, h3⟩ := ev_ra_ok H (by decide) hr
    obtain ⟨i1, i2⟩ := ev_ix hy h1 h2
    obtain ⟨S', H, hS⟩ := ev_setI_ok (x := z.toInt8.toInt32) hr hp hc h3 (fun c => absurd c (Nat.lt_irrefl _)) H
    exact gw_sm rfl rfl rfl rfl rfl ⟨hc.1, by rw [hc.2.1]; exact i1⟩ (hnx _ _ _ _ _ _ _ _ H hl hs3 (by rw [i2]; exact hS) hQ)
  · cases H
theorem ok_js : ev_OK (pc, .lastore, a, b, k, v) eh_js := fun X E ml hn mi d cs sc nx to cal hsc hnx hto hcal ls st S r ls' st' h Q H hl hs hr hQ => by
  unfold eh_js ev_lt2 at H
  split at H
  · obtain ⟨w, r', rfl, ⟨z, rfl, rfl⟩, hs1⟩ := ev_gs_cons hs
    obtain ⟨w, r', rfl, ⟨y, rfl, hy⟩, hs2⟩ := ev_gs_cons hs1
    obtain ⟨w, r', rfl, hx, hs3⟩ := ev_gs_cons hs2
    have e : w = .ref _ := hx
    subst e
    obtain ⟨len, ai, al, ar, hp, H, hc, h1, h2, h3⟩ := ev_ra_ok H (by decide) hr
    obtain ⟨i1, i2⟩ := ev_ix hy h1 h2
    obtain ⟨S', H, hS⟩ := ev_setL_ok (x := z) hr hp hc h3 rfl H
    exact gw_sm rfl rfl rfl rfl rfl ⟨hc.1, by rw [hc.2.1]; exact i1⟩ (hnx _ _ _ _ _ _ _ _ H hl hs3 (by rw [i2]; exact hS) hQ)
  · cases H
theorem ok_al : ev_OK (pc, .arraylength, a, b, k, v) eh_al := fun X E ml hn mi d cs sc nx to cal hsc hnx hto hcal ls st S r ls' st' h Q H hl hs hr hQ => by
  unfold eh_al ev_al at H
  split at H
  · obtain ⟨w, r', rfl, hx, hs1⟩ := ev_gs_cons hs
    have e : w = .ref _ := hx
    subst e
    obtain ⟨tag, len, ai, al, ar, hp, H, hc⟩ := ev_cl_ok H hr
    obtain ⟨hb, H⟩ := ev_cond H
    obtain ⟨h1, h2⟩ := ev_and hb
    have ht : tag = 1000 ∨ tag = 1002 ∨ tag = 1003 := by
      simp only [Bool.or_eq_true] at h1
      rcases h1 with h1 | h1 | h1
      · exact .inl (Nat.eq_of_beq_eq_true h1)
      · exact .inr (.inl (Nat.eq_of_beq_eq_true h1))
      · exact .inr (.inr (Nat.eq_of_beq_eq_true h1))
    have h2 := Nat.ble_eq.mp h2
    exact gw_sm rfl rfl rfl rfl rfl (by rw [hc.1]; exact ht) (hnx _ _ _ _ _ _ _ _ H hl ⟨⟨_, rfl, by rw [hc.2.1]; exact ev_u_nI (by omega)⟩, hs1⟩ hr hQ)
  · obtain ⟨w, r', rfl, hx, hs1⟩ := ev_gs_cons hs
    have e : w = .retAddr _ := hx
    subst e
    obtain ⟨s1, s2, s3⟩ := hsc
    split at H
    · obtain ⟨hb, H⟩ := ev_cond H
      obtain ⟨hb, h2⟩ := ev_and hb
      have hb := Nat.blt_eq.mp hb
      have h2 := Nat.ble_eq.mp h2
      rw [ev_f_eq] at H
      exact gw_sm rfl rfl rfl rfl rfl trivial (hnx _ _ _ _ _ _ _ _ H hl ⟨⟨_, rfl, by rw [s1 hb]; exact ev_u_nI (by omega)⟩, hs1⟩ hr hQ)
    · rename_i j
      obtain ⟨hb, H⟩ := ev_cond H
      have h2 := Nat.ble_eq.mp hb
      rw [ev_f_eq] at H
      exact gw_sm rfl rfl rfl rfl rfl trivial (hnx _ _ _ _ _ _ _ _ H hl ⟨⟨_, rfl, by rw [show E (Nat.succ j) = _ from s3 j]; exact ev_u_nI (Nat.lt_of_le_of_lt h2 (by decide))⟩, hs1⟩ hr hQ)
  · cases H
theorem ev_u_ne {y : Int32} (h : Nat.beq (ev_u y) 0 = false) : ¬ y = 0 := fun e => by
  have := Nat.ne_of_beq_eq_false h
  rw [e] at this
  exact this rfl
theorem ok_dv : ev_OK (pc, .idiv, a, b, k, v) eh_dv := fun X E ml hn mi d cs sc nx to cal hsc hnx hto hcal ls st S r ls' st' h Q H hl hs hr hQ => by
  unfold eh_dv ev_dv at H
  split at H
  · obtain ⟨w, r', rfl, ⟨y, rfl, rfl⟩, hs1⟩ := ev_gs_cons hs
    obtain ⟨w, r', rfl, ⟨x, rfl, rfl⟩, hs2⟩ := ev_gs_cons hs1
    obtain ⟨h1, H⟩ := ev_cond' H
    rw [ev_f_eq, ev_i_u, ev_i_u] at H
    exact gw_sm rfl rfl rfl rfl rfl (ev_u_ne h1) (hnx _ _ _ _ _ _ _ _ H hl ⟨⟨_, rfl, rfl⟩, hs2⟩ hr hQ)
  · cases H
theorem ok_rm : ev_OK (pc, .irem, a, b, k, v) eh_rm := fun X E ml hn mi d cs sc nx to cal hsc hnx hto hcal ls st S r ls' st' h Q H hl hs hr hQ => by
  unfold eh_rm ev_rm at H
  split at H
  · obtain ⟨w, r', rfl, ⟨y, rfl, rfl⟩, hs1⟩ := ev_gs_cons hs
    obtain ⟨w, r', rfl, ⟨x, rfl, rfl⟩, hs2⟩ := ev_gs_cons hs1
    obtain ⟨h1, H⟩ := ev_cond' H
    rw [ev_f_eq, ev_i_u, ev_i_u] at H
    exact gw_sm rfl rfl rfl rfl rfl (ev_u_ne h1) (hnx _ _ _ _ _ _ _ _ H hl ⟨⟨_, rfl, rfl⟩, hs2⟩ hr hQ)
  · cases H
theorem ok_na {q : ArrayType} : ev_OK (pc, .newarray q, a, b, k, v) (eh_na a) := fun X E ml hn mi d cs sc nx to cal hsc hnx hto hcal ls st S r ls' st' h Q H hl hs hr hQ => by
  unfold eh_na ev_na at H
  split at H
  · obtain ⟨w, r', rfl, ⟨y, rfl, hy⟩, hs1⟩ := ev_gs_cons hs
    obtain ⟨h1, H⟩ := ev_cond H
    have h1 := Nat.ble_eq.mp h1
    obtain ⟨hm, S', H, hS⟩ := ev_nw_ok hr H
    rename_i n0 r0 _ _ _
    have e := ev_nI hy (by omega)
    have e2 : y.toNatClampNeg = n0 := by rw [e]; exact nI_clamp (by omega)
    exact gw_sm rfl rfl rfl rfl rfl ⟨by rw [e]; exact nI_pos (by omega), by rw [e2]; exact h1, hm.1, by rw [e2]; exact hm.2⟩ (hnx _ _ _ _ _ _ _ _ H hl ⟨rfl, hs1⟩ (by rw [e2]; exact hS) hQ)
  · cases H
theorem ok_nw {q : Nat} : ev_OK (pc, .new q, a, b, k, v) (eh_nw a b) := fun X E ml hn mi d cs sc nx to cal hsc hnx hto hcal ls st S r ls' st' h Q H hl hs hr hQ => by
  unfold eh_nw at H
  obtain ⟨hm, S', H, hS⟩ := ev_nw_ok hr H
  exact gw_sm rfl rfl rfl rfl rfl hm (hnx _ _ _ _ _ _ _ _ H hl ⟨rfl, hs⟩ hS hQ)
theorem ev_ct_ok {x : ev_X} {w : Value} (h : ev_v x w) : w.category = ev_ct x := by
  cases x with
  | num n => obtain ⟨y, rfl, -⟩ := h; rfl
  | add a b => obtain ⟨y, rfl, -⟩ := h; rfl
  | var p => cases h; rfl
  | mul a b =>
    cases a with
    | num j => cases h; rfl
    | var n => obtain ⟨y, rfl, -⟩ := h; rfl
    | add _ _ => exact absurd h id
    | mul _ _ => exact absurd h id
theorem ev_sum_ok : ∀ {st : List ev_X} {st' : List Value}, ev_gs st st' → (st'.map fun v => v.category).sum = (st.map ev_ct).sum
  | [], [], _ => rfl
  | x :: r, v :: r', h => by
    simp only [List.map_cons, List.sum_cons]
    rw [ev_ct_ok h.1, ev_sum_ok h.2]
  | [], _ :: _, h => absurd h id
  | _ :: _, [], h => absurd h id
theorem ev_few_ok {st : List ev_X} {st' : List Value} (h : ev_gs st st') (hf : ev_few st = true) : ez_few st' = true := by
  unfold ez_few; rw [ev_sum_ok h]; exact hf
theorem ok_oi {q : Nat} : ev_OK (pc, .invokespecial q, a, b, 0, v) eh_oi := fun X E ml hn mi d cs sc nx to cal hsc hnx hto hcal ls st S r ls' st' h Q H hl hs hr hQ => by
  unfold eh_oi ev_in at H
  split at H
  · obtain ⟨w, r', rfl, hx, hs1⟩ := ev_gs_cons hs
    have e : w = .ref _ := hx
    subst e
    obtain ⟨h1, H⟩ := ev_cond H
    exact gw_sm rfl rfl rfl rfl rfl (ev_few_ok hs1 h1) (hnx _ _ _ _ _ _ _ _ H hl hs1 hr hQ)
  · cases H
theorem ok_max {q : Nat} : ev_OK (pc, .invokestatic q, a, b, 1, v) eh_max := fun X E ml hn mi d cs sc nx to cal hsc hnx hto hcal ls st S r ls' st' h Q H hl hs hr hQ => by
  unfold eh_max ev_max at H
  split at H
  · obtain ⟨w, r', rfl, ⟨y, rfl, rfl⟩, hs1⟩ := ev_gs_cons hs
    obtain ⟨w, r', rfl, ⟨x, rfl, rfl⟩, hs2⟩ := ev_gs_cons hs1
    obtain ⟨h1, H⟩ := ev_cond H
    cases hb : Nat.blt (ev_e (ev_u x)) (ev_e (ev_u y)) with
    | true =>
      rw [hb] at H
      have hlt : x < y := (ev_lt_iff _ _).mpr (Nat.blt_eq.mp hb)
      exact gw_sm rfl rfl rfl rfl rfl (ev_few_ok hs2 h1) (hnx _ _ _ _ _ _ _ _ H hl ⟨⟨_, rfl, by simp only [hlt, ↓reduceIte]⟩, hs2⟩ hr hQ)
    | false =>
      rw [hb] at H
      have hlt : ¬ x < y := fun c => by rw [Nat.blt_eq.mpr ((ev_lt_iff _ _).mp c)] at hb; cases hb
      exact gw_sm rfl rfl rfl rfl rfl (ev_few_ok hs2 h1) (hnx _ _ _ _ _ _ _ _ H hl ⟨⟨_, rfl, by simp only [hlt, ↓reduceIte]⟩, hs2⟩ hr hQ)
  · cases H
theorem ok_min {q : Nat} : ev_OK (pc, .invokestatic q, a, b, 2, v) eh_min := fun X E ml hn mi d cs sc nx to cal hsc hnx hto hcal ls st S r ls' st' h Q H hl hs hr hQ => by
  unfold eh_min ev_min at H
  split at H
  · obtain ⟨w, r', rfl, ⟨y, rfl, rfl⟩, hs1⟩ := ev_gs_cons hs
    obtain ⟨w, r', rfl, ⟨x, rfl, rfl⟩, hs2⟩ := ev_gs_cons hs1
    obtain ⟨h1, H⟩ := ev_cond H
    cases hb : Nat.blt (ev_e (ev_u y)) (ev_e (ev_u x)) with
    | true =>
      rw [hb] at H
      have hlt : y < x := (ev_lt_iff _ _).mpr (Nat.blt_eq.mp hb)
      exact gw_sm rfl rfl rfl rfl rfl (ev_few_ok hs2 h1) (hnx _ _ _ _ _ _ _ _ H hl ⟨⟨_, rfl, by simp only [hlt, ↓reduceIte]⟩, hs2⟩ hr hQ)
    | false =>
      rw [hb] at H
      have hlt : ¬ y < x := fun c => by rw [Nat.blt_eq.mpr ((ev_lt_iff _ _).mp c)] at hb; cases hb
      exact gw_sm rfl rfl rfl rfl rfl (ev_few_ok hs2 h1) (hnx _ _ _ _ _ _ _ _ H hl ⟨⟨_, rfl, by simp only [hlt, ↓reduceIte]⟩, hs2⟩ hr hQ)
  · cases H
theorem ok_ri : ev_OK (pc, .ireturn, 0, b, k, v) eh_ri := fun X E ml hn mi d cs sc nx to cal hsc hnx hto hcal ls st S r ls' st' h Q H hl hs hr hQ => by
  unfold eh_ri at H
  split at H
  · obtain ⟨w, r', rfl, hx, hs1⟩ := ev_gs_cons hs
    have e := ev_gs_nil hs1
    subst e
    obtain ⟨y, rfl, -⟩ := id hx
    cases H
    exact gw_rt rfl rfl rfl rfl rfl rfl trivial (hQ _ _ hx hr)
  · obtain ⟨w, r', rfl, hx, hs1⟩ := ev_gs_cons hs
    have e := ev_gs_nil hs1
    subst e
    obtain ⟨y, rfl, -⟩ := id hx
    cases H
    exact gw_rt rfl rfl rfl rfl rfl rfl trivial (hQ _ _ hx hr)
  · cases H
theorem ok_rz {j : Nat} : ev_OK (pc, .ireturn, j + 1, b, k, v) eh_rz := fun X E ml hn mi d cs sc nx to cal hsc hnx hto hcal ls st S r ls' st' h Q H hl hs hr hQ => by
  unfold eh_rz at H
  split at H
  · obtain ⟨w, r', rfl, hx, hs1⟩ := ev_gs_cons hs
    have e := ev_gs_nil hs1
    subst e
    obtain ⟨y, rfl, hy⟩ := id hx
    obtain ⟨h1, H⟩ := ev_cond H
    cases H
    exact gw_rt rfl rfl rfl rfl rfl rfl (ev_u_01 (by rw [hy]; exact h1)) (hQ _ _ hx hr)
  · cases H
theorem ok_rl : ev_OK (pc, .lreturn, a, b, k, v) eh_rl := fun X E ml hn mi d cs sc nx to cal hsc hnx hto hcal ls st S r ls' st' h Q H hl hs hr hQ => by
  unfold eh_rl at H
  split at H
  · obtain ⟨w, r', rfl, hx, hs1⟩ := ev_gs_cons hs
    have e := ev_gs_nil hs1
    subst e
    obtain ⟨y, rfl, hy⟩ := id hx
    cases H
    exact gw_rt rfl rfl rfl rfl rfl rfl trivial (hQ _ _ hx hr)
  · cases H
theorem ok_rv : ev_OK (pc, .return_, a, b, k, v) eh_rv := fun X E ml hn mi d cs sc nx to cal hsc hnx hto hcal ls st S r ls' st' h Q H hl hs hr hQ => by
  unfold eh_rv at H
  split at H
  · have e := ev_gs_nil hs
    subst e
    cases H
    exact gw_rt rfl rfl rfl rfl rfl rfl trivial (hQ _ _ trivial hr)
  · cases H
theorem ok_th : ev_OK (pc, .athrow, a, b, k, v) (eh_th a) := fun X E ml hn mi d cs sc nx to cal hsc hnx hto hcal ls st S r ls' st' h Q H hl hs hr hQ => by
  unfold eh_th at H
  split at H
  · have e := ev_gs_nil hs
    subst e
    obtain ⟨h1, H⟩ := ev_cond H
    obtain ⟨h1, h2⟩ := ev_and h1
    rw [ev_f_eq, ev_f_eq] at H
    cases H
    refine ⟨⟨by rw [hr.1]; exact Nat.ble_eq.mp h1, by rw [hr.2.1]; exact Nat.ble_eq.mp h2⟩, hQ _ _ rfl ⟨?_, ?_, hr.2.2⟩⟩
    · show ez_n h + 1 = Nat.succ S.1; rw [hr.1]
    · show ez_u h + 6 = Nat.add S.2.1 6; rw [hr.2.1]
  · cases H
theorem ok_cl (h0 : ∀ st, ez_op i v st = none) (h1 : ∀ ls st, ez_ld i ls st = none) (h2 : ∀ ls st, ez_st i v ls st = none) (h3 : ∀ st, ez_br i st = none) (h4 : ∀ E ls st h, ez_sm E i a b k ls st h = none) (h5 : ∀ st, ez_rt i a st = none) (h6 : ∀ st, ez_jp i pc a st = (none, st)) (h7 : ez_cl i k = true) : ev_OK (pc, i, a, b, k, v) (eh_cl pc a b k) := fun X E ml hn mi d cs sc nx to cal hsc hnx hto hcal ls st S r ls' st' h Q H hl hs hr hQ =>
  gw_cl (h0 _) (h1 _ _) (h2 _ _) (h3 _) (h4 _ _ _ _) (h5 _) (h6 _) h7 (hcal a b k ls st S r ls' st' h Q H hl hs hr hQ)
end OKC
