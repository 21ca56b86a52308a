/-! what holds behind the constructors -/
noncomputable def sh1 (S : ev_S) (p : Nat) : Bool := match ev_gc S.2.2 p with
  | .mul (.add (.num a) (.num b)) (.add _ (.add _ ar)) => and (Nat.beq a (ly_T p)) (and (Nat.beq b (ly_N p)) (or (Nat.ble 1000 a) ((List.range 128).all (fun k => Nat.beq (ev_g ar k) (ly_R p k)))))
  | _ => false
theorem sh1_ok {S : ev_S} {h : ez_H} {p : Nat} (H : sh1 S p = true) (hr : ev_rel S h) (hp : p < 128) : ez_t h p = ly_T p ∧ ez_l h p = ly_N p ∧ (ly_T p < 1000 → ∀ k, k < 128 → ez_R h p k = ly_R p k) := by
  unfold sh1 at H
  split at H
  · rename_i a b ai al ar e
    obtain ⟨h1, h2⟩ := ev_and H
    obtain ⟨h2, h3⟩ := ev_and h2
    have hc := hr.2.2 p hp
    rw [e] at hc
    have e1 := Nat.eq_of_beq_eq_true h1
    have e2 := Nat.eq_of_beq_eq_true h2
    refine ⟨by rw [← e1]; exact hc.1, by rw [← e2]; exact hc.2.1, fun ht k hk => ?_⟩
    rw [← e1] at ht
    have hsz : ev_sz a b = 128 := by
      unfold ev_sz
      rw [show Nat.blt a 1000 = true from Nat.blt_eq.mpr ht]
      rfl
    have hb : Nat.ble 1000 a = false := by
      cases q : Nat.ble 1000 a with
      | false => rfl
      | true => have := Nat.le_of_ble_eq_true q; omega
    rw [hb] at h3
    have h3 : ((List.range 128).all (fun k => Nat.beq (ev_g ar k) (ly_R p k))) = true := h3
    have := List.all_eq_true.mp h3 k (List.mem_range.mpr hk)
    rw [(hc.2.2 k (by rw [hsz]; exact hk)).2.2]
    exact Nat.eq_of_beq_eq_true this
  · cases H
theorem sh_all : ((List.range 126).all (fun i => sh1 gS3 (i + 1))) = true := by decide +kernel
theorem g3_sh {h : ez_H} (hr : ev_rel gS3 h) : zSh h := fun p hp => by
  have := List.all_eq_true.mp sh_all (p - 1) (List.mem_range.mpr (by omega))
  have e : p - 1 + 1 = p := by omega
  rw [e] at this
  exact sh1_ok this hr (by omega)
noncomputable def ar1 (S : ev_S) (p n lo hi : Nat) : Bool := match ev_gc S.2.2 p with
  | .mul (.add (.num a) (.num b)) (.add ai (.add _ _)) => and (Nat.ble 1000 a) (and (Nat.ble n b) (and (Nat.blt hi 2147483648) ((List.range n).all (fun k => and (Nat.ble lo (ev_g ai k)) (Nat.ble (ev_g ai k) hi)))))
  | _ => false
theorem ar1_ok {S : ev_S} {h : ez_H} {p n lo hi : Nat} (H : ar1 S p n lo hi = true) (hr : ev_rel S h) (hp : p < 128) : aR (ez_I h p) n lo hi := by
  unfold ar1 at H
  split at H
  · rename_i a b ai al ar e
    obtain ⟨h1, h2⟩ := ev_and H
    obtain ⟨h2, h3⟩ := ev_and h2
    obtain ⟨h3, h4⟩ := ev_and h3
    have hc := hr.2.2 p hp
    rw [e] at hc
    have h1 := Nat.le_of_ble_eq_true h1
    have h2 := Nat.le_of_ble_eq_true h2
    have h3 := Nat.blt_eq.mp h3
    have hsz : ev_sz a b = b := by
      unfold ev_sz
      have : Nat.blt a 1000 = false := by
        cases q : Nat.blt a 1000 with
        | false => rfl
        | true => have := Nat.blt_eq.mp q; omega
      rw [this]
      rfl
    intro k hk
    have := List.all_eq_true.mp h4 k (List.mem_range.mpr hk)
    obtain ⟨b1, b2⟩ := ev_and this
    have b1 := Nat.le_of_ble_eq_true b1
    have b2 := Nat.le_of_ble_eq_true b2
    have v := (hc.2.2 k (by rw [hsz]; omega)).1 (by omega)
    have := z_of_u (x := ez_I h p k) (by omega)
    omega
  · cases H
noncomputable def it1 (S : ev_S) (p k n : Nat) : Bool := match ev_gc S.2.2 p with
  | .mul (.add (.num a) (.num b)) (.add ai (.add _ _)) => and (Nat.blt k (ev_sz a b)) (and (Nat.beq (ev_g ai k) n) (Nat.blt n 2147483648))
  | _ => false
theorem it1_ok {S : ev_S} {h : ez_H} {p k n : Nat} (H : it1 S p k n = true) (hr : ev_rel S h) (hp : p < 128) : (ez_I h p k).toInt = n := by
  unfold it1 at H
  split at H
  · rename_i e
    obtain ⟨h2, h3⟩ := ev_and H
    obtain ⟨h3, h4⟩ := ev_and h3
    have hc := hr.2.2 p hp
    rw [e] at hc
    have h4 := Nat.blt_eq.mp h4
    have v := (hc.2.2 k (Nat.blt_eq.mp h2)).1
    rw [Nat.eq_of_beq_eq_true h3] at v
    have v := v (by omega)
    have := z_of_u (x := ez_I h p k) (by omega)
    omega
  · cases H
theorem g3_xI {h : ez_H} (hr : ev_rel gS3 h) : xI h := by
  have f : ∀ p k, p < 128 → it1 gS3 p k 0 = true → ∀ c : Int, 0 ≤ c → 0 ≤ (ez_I h p k).toInt ∧ (ez_I h p k).toInt ≤ c := fun p k hp H c hc => by
    have := it1_ok H hr hp
    omega
  exact ⟨g3_sh hr, f 2 1 (by decide) (by decide +kernel) _ (by decide), f 4 1 (by decide) (by decide +kernel) _ (by decide), f 50 1 (by decide) (by decide +kernel) _ (by decide), f 53 1 (by decide) (by decide +kernel) _ (by decide), f 55 2 (by decide) (by decide +kernel) _ (by decide), f 61 5 (by decide) (by decide +kernel) _ (by decide)⟩
theorem g3_mI {h : ez_H} (hr : ev_rel gS3 h) : mI h := by
  have f : ∀ p k, p < 128 → it1 gS3 p k 0 = true → ∀ c : Int, 0 ≤ c → 0 ≤ (ez_I h p k).toInt ∧ (ez_I h p k).toInt ≤ c := fun p k hp H c hc => by
    have := it1_ok H hr hp
    omega
  refine ⟨⟨f 71 6 (by decide) (by decide +kernel) _ (by decide), f 71 7 (by decide) (by decide +kernel) _ (by decide), f 71 14 (by decide) (by decide +kernel) _ (by decide), f 71 15 (by decide) (by decide +kernel) _ (by decide)⟩, ⟨it1_ok (n := 3) (by decide +kernel) hr (by decide), it1_ok (n := 1) (by decide +kernel) hr (by decide)⟩, ?_, ?_, ?_, ?_, ?_⟩
  · exact ar1_ok (p := 92) (n := 29) (lo := 3) (hi := 258) (by decide +kernel) hr (by decide)
  · exact ar1_ok (p := 93) (n := 29) (lo := 0) (hi := 5) (by decide +kernel) hr (by decide)
  · exact ar1_ok (p := 94) (n := 30) (lo := 1) (hi := 24577) (by decide +kernel) hr (by decide)
  · exact ar1_ok (p := 95) (n := 30) (lo := 0) (hi := 13) (by decide +kernel) hr (by decide)
  · exact ar1_ok (p := 96) (n := 19) (lo := 0) (hi := 18) (by decide +kernel) hr (by decide)
/-! the law's state between calls -/
theorem cC_F {h h2 : ez_H} (M : cC h) (F : zF zX h h2) : cC h2 := by
  have e : ∀ q, 71 ≤ q → ez_I h2 q = ez_I h q := fun q hq => (F.2.2.2.2.2 q (by unfold zX; omega)).1
  unfold cC
  rw [e 92 (by decide), e 93 (by decide), e 94 (by decide), e 95 (by decide), e 96 (by decide)]
  exact M
theorem mI_X {h h2 : ez_H} (M : mI h) (F : zF zX h h2) : mI h2 := by
  have e : ez_I h2 71 = ez_I h 71 := (F.2.2.2.2.2 71 (by unfold zX; omega)).1
  refine ⟨?_, cC_F M.2 F⟩
  unfold mR
  rw [e]
  exact M.1
theorem xI_Y {h h2 : ez_H} (X : xI h) (F : zF zY h h2) : xI h2 := by
  have e : ∀ q, q ≤ 70 → ez_I h2 q = ez_I h q := fun q hq => (F.2.2.2.2.2 q (by unfold zY; omega)).1
  refine ⟨zF_sh F X.1, ?_⟩
  rw [e 2 (by decide), e 4 (by decide), e 50 (by decide), e 53 (by decide), e 55 (by decide), e 61 (by decide)]
  exact X.2
/-- weights and scale are the same on both sides -/
def wV (h : ez_H) : Prop := (∀ k, k < 64 → ez_I h 7 k = ez_I h 124 k) ∧ aR (ez_I h 7) 64 0 1000000 ∧ ∀ k, k < 64 → ez_I h 8 k = ez_I h 125 k
theorem wV_of {h h2 : ez_H} (V : wV h) (e7 : ez_I h2 7 = ez_I h 7) (e8 : ez_I h2 8 = ez_I h 8) (e4 : ez_I h2 124 = ez_I h 124) (e5 : ez_I h2 125 = ez_I h 125) : wV h2 := by
  unfold wV
  rw [e7, e8, e4, e5]
  exact V
theorem wV_X {h h2 : ez_H} (V : wV h) (F : zF zX h h2) : wV h2 := wV_of V (F.2.2.2.2.2 7 (by unfold zX; omega)).1 (F.2.2.2.2.2 8 (by unfold zX; omega)).1 (F.2.2.2.2.2 124 (by unfold zX; omega)).1 (F.2.2.2.2.2 125 (by unfold zX; omega)).1
theorem wV_Y {h h2 : ez_H} (V : wV h) (F : zF zY h h2) : wV h2 := wV_of V (F.2.2.2.2.2 7 (by unfold zY; omega)).1 (F.2.2.2.2.2 8 (by unfold zY; omega)).1 (F.2.2.2.2.2 124 (by unfold zY; omega)).1 (F.2.2.2.2.2 125 (by unfold zY; omega)).1
theorem g3_wV {h : ez_H} (hr : ev_rel gS3 h) : wV h := by
  have a7 := ar1_ok (p := 7) (n := 64) (lo := 0) (hi := 0) (by decide +kernel) hr (by decide)
  have a8 := ar1_ok (p := 8) (n := 64) (lo := 0) (hi := 0) (by decide +kernel) hr (by decide)
  have a4 := ar1_ok (p := 124) (n := 64) (lo := 0) (hi := 0) (by decide +kernel) hr (by decide)
  have a5 := ar1_ok (p := 125) (n := 64) (lo := 0) (hi := 0) (by decide +kernel) hr (by decide)
  refine ⟨fun k hk => z_inj ?_, fun k hk => ?_, fun k hk => z_inj ?_⟩
  · have := a7 k hk
    have := a4 k hk
    omega
  · have := a7 k hk
    omega
  · have := a8 k hk
    have := a5 k hk
    omega
/-- from one heap to a later: at most one cell and six slots more -/
def lJ (h h2 : ez_H) : Prop := xI h2 ∧ (mI h2 ∧ wV h2) ∧ ez_n h2 ≤ ez_n h + 1 ∧ ez_u h2 ≤ ez_u h + 6
def lS (h h2 : ez_H) : Prop := xI h2 ∧ (mI h2 ∧ wV h2) ∧ ez_n h2 = ez_n h ∧ ez_u h2 = ez_u h
theorem lS_X {h h1 h2 : ez_H} (A : lS h h1) (F : zF zX h1 h2) (X : xI h2) : lS h h2 := ⟨X, ⟨mI_X A.2.1.1 F, wV_X A.2.1.2 F⟩, F.1.trans A.2.2.1, F.2.1.trans A.2.2.2⟩
theorem lJ_Y {h h1 h2 : ez_H} (A : lJ h h1) (F : zF zY h1 h2) (M : mI h2) : lJ h h2 := ⟨xI_Y A.1 F, ⟨M, wV_Y A.2.1.2 F⟩, by rw [F.1]; exact A.2.2.1, by rw [F.2.1]; exact A.2.2.2⟩
theorem lJ_S {h h2 : ez_H} (A : lS h h2) : lJ h h2 := ⟨A.1, A.2.1, by rw [A.2.2.1]; omega, by rw [A.2.2.2]; omega⟩
theorem lJ_b {h h2 : ez_H} (A : lS h h2) : lJ h (ez_bump h2) := ⟨A.1, A.2.1, by show ez_n h2 + 1 ≤ _; rw [A.2.2.1]; omega, by show ez_u h2 + 6 ≤ _; rw [A.2.2.2]; omega⟩
theorem lS_L {h h1 h2 : ez_H} {p k : Nat} {v : Int64} (A : lS h h1) (e : h2 = ez_setL h1 p k v) : lS h h2 := by subst e; exact A
theorem lS_r {h : ez_H} (X : xI h) (M : mI h ∧ wV h) : lS h h := ⟨X, M, rfl, rfl⟩
