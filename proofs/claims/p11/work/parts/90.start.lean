/-! what holds behind the constructors -/
noncomputable def sh1 (S : ev_S) (p : Nat) : Bool := match ev_gc S.2.2 p with
  | .mul (.add (.num a) (.num b)) (.add _ (.add _ ar)) => and (Nat.beq a (ly_T p)) (and (Nat.beq b (ly_N p)) (or (Nat.ble 1000 a) ((List.range 128).all (fun k => Nat.beq (ev_g ar k) (ly_R p k)))))
  | _ => false
theorem sh1_ok {S : ev_S} {h : ez_H} {p : Nat} (H : sh1 S p = true) (hr : ev_rel S h) (hp : p < 128) : ez_t h p = ly_T p ∧ ez_l h p = ly_N p ∧ (ly_T p < 1000 → ∀ k, k < 128 → ez_R h p k = ly_R p k) := by
  unfold sh1 at H
  split at H
  · rename_i a b ai al ar e
    obtain ⟨h1, h2⟩ := ev_and H
    obtain ⟨h2, h3⟩ := ev_and h2
    have hc := hr.2.2 p hp
    rw [e] at hc
    have e1 := Nat.eq_of_beq_eq_true h1
    have e2 := Nat.eq_of_beq_eq_true h2
    refine ⟨by rw [← e1]; exact hc.1, by rw [← e2]; exact hc.2.1, fun ht k hk => ?_⟩
    rw [← e1] at ht
    have hsz : ev_sz a b = 128 := by
      unfold ev_sz
      rw [show Nat.blt a 1000 = true from Nat.blt_eq.mpr ht]
      rfl
    have hb : Nat.ble 1000 a = false := by
      cases q : Nat.ble 1000 a with
      | false => rfl
      | true => have := Nat.le_of_ble_eq_true q; omega
    rw [hb] at h3
    have h3 : ((List.range 128).all (fun k => Nat.beq (ev_g ar k) (ly_R p k))) = true := h3
    have := List.all_eq_true.mp h3 k (List.mem_range.mpr hk)
    rw [(hc.2.2 k (by rw [hsz]; exact hk)).2.2]
    exact Nat.eq_of_beq_eq_true this
  · cases H
theorem sh_all : ((List.range 126).all (fun i => sh1 gS3 (i + 1))) = true := by decide +kernel
theorem g3_sh {h : ez_H} (hr : ev_rel gS3 h) : zSh h := fun p hp => by
  have := List.all_eq_true.mp sh_all (p - 1) (List.mem_range.mpr (by omega))
  have e : p - 1 + 1 = p := by omega
  rw [e] at this
  exact sh1_ok this hr (by omega)
noncomputable def ar1 (S : ev_S) (p n lo hi : Nat) : Bool := match ev_gc S.2.2 p with
  | .mul (.add (.num a) (.num b)) (.add ai (.add _ _)) => and (Nat.ble 1000 a) (and (Nat.ble n b) (and (Nat.blt hi 2147483648) ((List.range n).all (fun k => and (Nat.ble lo (ev_g ai k)) (Nat.ble (ev_g ai k) hi)))))
  | _ => false
theorem ar1_ok {S : ev_S} {h : ez_H} {p n lo hi : Nat} (H : ar1 S p n lo hi = true) (hr : ev_rel S h) (hp : p < 128) : aR (ez_I h p) n lo hi := by
  unfold ar1 at H
  split at H
  · rename_i a b ai al ar e
    obtain ⟨h1, h2⟩ := ev_and H
    obtain ⟨h2, h3⟩ := ev_and h2
    obtain ⟨h3, h4⟩ := ev_and h3
    have hc := hr.2.2 p hp
    rw [e] at hc
    have h1 := Nat.le_of_ble_eq_true h1
    have h2 := Nat.le_of_ble_eq_true h2
    have h3 := Nat.blt_eq.mp h3
    have hsz : ev_sz a b = b := by
      unfold ev_sz
      have : Nat.blt a 1000 = false := by
        cases q : Nat.blt a 1000 with
        | false => rfl
        | true => have := Nat.blt_eq.mp q; omega
      rw [this]
      rfl
    intro k hk
    have := List.all_eq_true.mp h4 k (List.mem_range.mpr hk)
    obtain ⟨b1, b2⟩ := ev_and this
    have b1 := Nat.le_of_ble_eq_true b1
    have b2 := Nat.le_of_ble_eq_true b2
    have v := (hc.2.2 k (by rw [hsz]; omega)).1 (by omega)
    have := z_of_u (x := ez_I h p k) (by omega)
    omega
  · cases H
noncomputable def it1 (S : ev_S) (p k n : Nat) : Bool := match ev_gc S.2.2 p with
  | .mul (.add (.num a) (.num b)) (.add ai (.add _ _)) => and (Nat.blt k (ev_sz a b)) (and (Nat.beq (ev_g ai k) n) (Nat.blt n 2147483648))
  | _ => false
theorem it1_ok {S : ev_S} {h : ez_H} {p k n : Nat} (H : it1 S p k n = true) (hr : ev_rel S h) (hp : p < 128) : (ez_I h p k).toInt = n := by
  unfold it1 at H
  split at H
  · rename_i e
    obtain ⟨h2, h3⟩ := ev_and H
    obtain ⟨h3, h4⟩ := ev_and h3
    have hc := hr.2.2 p hp
    rw [e] at hc
    have h4 := Nat.blt_eq.mp h4
    have v := (hc.2.2 k (Nat.blt_eq.mp h2)).1
    rw [Nat.eq_of_beq_eq_true h3] at v
    have v := v (by omega)
    have := z_of_u (x := ez_I h p k) (by omega)
    omega
  · cases H
/-! the law's state between calls -/
