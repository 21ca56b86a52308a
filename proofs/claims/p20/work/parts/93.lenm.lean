/-! lengths in the model, told in full -/
noncomputable def kyf (U Y : Nat → Int32) : Nat → Int := fun i => (U (Y i).toInt.toNat).toInt * 512 + (Y i).toInt
def cP (U Y : Nat → Int32) (n s : Nat) : Prop := n = poC U s ∧ ∀ x, cnZ (kyf U Y) x n = cnU U x s
def cPH (U Y : Nat → Int32) (n k s : Nat) : Prop := n + 1 = poC U (s + 1) ∧ ∀ x, cnZ (hol (kyf U Y) k (kyU U s)) x (n + 1) = cnU U x (s + 1)
theorem cP_0 {U Y : Nat → Int32} {n s : Nat} (hn : n = 0) (hs : s = 0) : cP U Y n s := by
  subst hn; subst hs
  exact ⟨rfl, fun _ => rfl⟩
theorem cP_z {U Y : Nat → Int32} {n s s' : Nat} {v : Int32} (A : cP U Y n s) (e : U s = v) (hv : v.toInt ≤ 0) (hs : s' = s + 1) : cP U Y n s' := by
  subst hs
  have h : ¬ 0 < (U s).toInt := by rw [e]; omega
  refine ⟨?_, fun x => ?_⟩
  · show n = poC U s + (if 0 < (U s).toInt then 1 else 0)
    simp only [h, ↓reduceIte]; exact A.1
  · rw [A.2 x]
    show _ = cnU U x s + (if 0 < (U s).toInt ∧ kyU U s = x then 1 else 0)
    have h2 : ¬ (0 < (U s).toInt ∧ kyU U s = x) := fun c => h c.1
    simp only [h2, ↓reduceIte]; rfl
theorem cPH_0 {U Y : Nat → Int32} {n k s : Nat} {v : Int32} (A : cP U Y n s) (e : U s = v) (hv : 0 < v.toInt) (hk : k = n) : cPH U Y n k s := by
  subst hk
  have h : 0 < (U s).toInt := by rw [e]; exact hv
  refine ⟨?_, fun x => ?_⟩
  · show k + 1 = poC U s + (if 0 < (U s).toInt then 1 else 0)
    simp only [h, ↓reduceIte]
    have := A.1
    omega
  · show cnZ (hol (kyf U Y) k (kyU U s)) x k + (if hol (kyf U Y) k (kyU U s) k = x then 1 else 0) = cnU U x s + (if 0 < (U s).toInt ∧ kyU U s = x then 1 else 0)
    rw [hol_e, cnZ_congr (f := hol (kyf U Y) k (kyU U s)) (g := kyf U Y) k (fun i hi => hol_n (by omega)), A.2 x]
    simp only [h, true_and]
theorem kyf_w {h h2 : ez_H} {U : Nat → Int32} {x : Nat} {y : Int32} (e : h2 = ez_setI h 110 x y) : kyf U (ez_I h2 110) x = (U y.toInt.toNat).toInt * 512 + y.toInt ∧ ∀ i, i ≠ x → kyf U (ez_I h2 110) i = kyf U (ez_I h 110) i := by
  refine ⟨?_, fun i hi => ?_⟩
  · unfold kyf; rw [zI_eq e]
  · unfold kyf; rw [zI_ne e (by omega)]
theorem cPH_mv {h h2 : ez_H} {U : Nat → Int32} {n k q s x : Nat} {y : Int32} (A : cPH U (ez_I h 110) n k s) (e : h2 = ez_setI h 110 x y) (hx : x = k) (ey : ez_I h 110 q = y) (hq : q + 1 = k) (hk : k ≤ n) : cPH U (ez_I h2 110) n q s := by
  subst hx
  obtain ⟨w1, w2⟩ := kyf_w (U := U) e
  refine ⟨A.1, fun z => ?_⟩
  rw [cnZ_mv (f := kyf U (ez_I h 110)) (k := x) (by omega) (by omega) (by omega) (by rw [w1]; unfold kyf; rw [ey]) w2]
  exact A.2 z
theorem soH_mvY {h h2 : ez_H} {U : Nat → Int32} {n k q s x : Nat} {y a b : Int32} (A : soH (kyf U (ez_I h 110)) n k (kyU U s)) (e : h2 = ez_setI h 110 x y) (hx : x = k) (ey : ez_I h 110 q = y) (hq : q + 1 = k) (hk : k ≤ n) (ea : U y.toInt.toNat = a) (eb : U s = b) (hab : b.toInt < a.toInt) (hs : s < 512) (hy : 0 ≤ y.toInt) : soH (kyf U (ez_I h2 110)) n q (kyU U s) := by
  subst hx
  obtain ⟨w1, w2⟩ := kyf_w (U := U) e
  refine soH_mv A hq hk (by rw [w1]; unfold kyf; rw [ey]) w2 ?_
  unfold kyf kyU
  rw [ey, ea, eb]
  omega
theorem soS_fin {h h2 : ez_H} {U : Nat → Int32} {n k s x m : Nat} {y : Int32} (A : soH (kyf U (ez_I h 110)) n k (kyU U s)) (e : h2 = ez_setI h 110 x y) (hx : x = k) (hk : k ≤ n) (hy : y.toInt = s) (hv : 0 < k → ∃ a b c : Int32, ez_I h 110 (k - 1) = c ∧ U c.toInt.toNat = a ∧ U s = b ∧ a.toInt ≤ b.toInt ∧ c.toInt < s) (hm : m = n + 1) : soS (kyf U (ez_I h2 110)) m := by
  subst hx
  obtain ⟨w1, w2⟩ := kyf_w (U := U) e
  refine soH_end A hk (by rw [w1, hy]; unfold kyU; rw [show ((s : Nat) : Int).toNat = s by omega]) w2 (fun q => ?_) hm
  obtain ⟨a, b, c, e1, e2, e3, h4, h5⟩ := hv q
  unfold kyf kyU
  rw [e1, e2, e3]
  omega
theorem cP_fin {h h2 : ez_H} {U : Nat → Int32} {n k s x m s' : Nat} {y : Int32} (A : cPH U (ez_I h 110) n k s) (e : h2 = ez_setI h 110 x y) (hx : x = k) (hk : k ≤ n) (hy : y.toInt = s) (hm : m = n + 1) (hs : s' = s + 1) : cP U (ez_I h2 110) m s' := by
  subst hx; subst hm; subst hs
  obtain ⟨w1, w2⟩ := kyf_w (U := U) e
  refine ⟨A.1, fun z => ?_⟩
  rw [← A.2 z]
  refine cnZ_congr _ (fun i _ => ?_)
  by_cases c : i = x
  · subst c
    rw [w1, hol_e, hy]
    unfold kyU
    rw [show ((s : Nat) : Int).toNat = s by omega]
  · rw [hol_n c]; exact w2 i c
/-- weights of a list, sums of its rows -/
def wlI (V : Nat → Int32) (L : Nat → Int) (k : Nat) : Prop := ∀ i, i < k → (V i).toInt = L i
theorem wlI_ex {h h2 : ez_H} {c k x m : Nat} {y : Int32} {L : Nat → Int} (A : wlI (ez_I h c) L k) (e : h2 = ez_setI h c x y) (hx : x = k) (hy : y.toInt = L k) (hm : m = k + 1) : wlI (ez_I h2 c) L m := fun i hi => by
  subst hx; subst hm
  by_cases q : i = x
  · subst q; rw [zI_eq e]; exact hy
  · rw [zI_ne e (by omega)]; exact A i (by omega)
def rfI (H : Nat → Int32) (n r : Nat) (F : Nat → Nat → Int) : Prop := ∀ j, j < n → ∀ k, k ≤ r → hS H j k = F k j
theorem rfI_0 {H : Nat → Int32} {n r : Nat} {F : Nat → Nat → Int} (h : r = 0) (hF : ∀ j, F 0 j = 0) : rfI H n r F := fun j _ k hk => by
  subst h
  have : k = 0 := by omega
  subst this
  rw [hF]; rfl
theorem rfI_congr {H H' : Nat → Int32} {n r : Nat} {F : Nat → Nat → Int} (A : rfI H n r F) (h : ∀ i j, i < r → j < n → H' (288 * i + j) = H (288 * i + j)) : rfI H' n r F := fun j hj k hk => by
  rw [hS_congr (fun i hi => h i j (by omega) hj)]
  exact A j hj k hk
theorem rfI_w {h h2 : ez_H} {c x n r : Nat} {v : Int32} {F : Nat → Nat → Int} (A : rfI (ez_I h c) n r F) (e : h2 = ez_setI h c x v) (hx : 288 * r ≤ x) (hn : n ≤ 288) : rfI (ez_I h2 c) n r F := rfI_congr A (fun i j hi hj => zI_ne e (by
  have : 288 * (i + 1) ≤ 288 * r := Nat.mul_le_mul_left 288 hi
  omega))
theorem rfI_row {H : Nat → Int32} {n r m : Nat} {F : Nat → Nat → Int} (A : rfI H n r F) (hv : ∀ j, j < n → F (r + 1) j = F r j + (H (288 * r + j)).toInt) (hm : m = r + 1) : rfI H n m F := fun j hj k hk => by
  subst hm
  by_cases c : k = r + 1
  · subst c
    show hS H j r + (H (288 * r + j)).toInt = _
    rw [hv j hj, A j hj r (Nat.le_refl _)]
  · exact A j hj k (by omega)
theorem rfI_init {H : Nat → Int32} {n k m : Nat} {W : Nat → Int} (A : rfI H n k (FF W n 0)) (B : rwI H k (unit1 k) n) (hm : m = k + 1) : rfI H n m (FF W n 0) := rfI_row A (fun j hj => by
  rw [B j hj]
  show lt1 ((k + 1 : Nat) : Int) j = lt1 (k : Int) j + unit1 k j
  rw [lt1_up]; rfl) hm
theorem FF_0 (W : Nat → Int) (n t j : Nat) : FF W n t 0 j = 0 := by
  have l0 : lt1 ((0 : Nat) : Int) j = 0 := by
    unfold lt1
    have : ¬ ((j : Int) < ((0 : Nat) : Int)) := by omega
    simp only [this, ↓reduceIte]
  induction t with
  | zero => exact l0
  | succ t ih =>
    show lt1 (cS W n (t + 1) 0) j + FF W n t (2 * (0 - cS W n (t + 1) 0)) j = 0
    have e : cS W n (t + 1) 0 = 0 := rfl
    rw [e]
    show lt1 ((0 : Nat) : Int) j + FF W n t 0 j = 0
    rw [l0, ih]; rfl
/-- a package put -/
theorem rfI_s {G G' H : Nat → Int32} {n k m s p t : Nat} {a b o : Int} {W : Nat → Int} (A : rfI G n k (FF W n (t + 1))) (B : pN G' G H k a b o n) (hn : n ≤ 288) (hs : s = cS W n (t + 1) k) (hp' : p = 2 * (k - s)) (h : sgl W (LL W n t) n (rz n t) s p) (hk : s ≤ k) (ho : o = s) (hm : m = k + 1) : rfI G' n m (FF W n (t + 1)) := by
  have A' : rfI G' n k (FF W n (t + 1)) := rfI_congr A (fun i j hi hj => B.1 _ (by
    have : 288 * (i + 1) ≤ 288 * k := Nat.mul_le_mul_left 288 hi
    omega))
  refine rfI_row A' (fun j hj => ?_) hm
  rw [FF_y hs hp' h hk, B.2 j hj]
  congr 1
  unfold hp unit1
  have : 0 ≤ o := by omega
  simp only [this, ↓reduceIte]
  split <;> split <;> omega
theorem rfI_p {G G' H : Nat → Int32} {n k m s p t r : Nat} {a b o : Int} {W : Nat → Int} (A : rfI G n k (FF W n (t + 1))) (B : pN G' G H k a b o n) (R : rfI H n r (FF W n t)) (hn : n ≤ 288) (hs : s = cS W n (t + 1) k) (hp' : p = 2 * (k - s)) (h : ¬ sgl W (LL W n t) n (rz n t) s p) (hk : s ≤ k) (hr : p + 2 ≤ r) (ho : o < 0) (ha : a = p) (hb : b = p + 1) (hm : m = k + 1) : rfI G' n m (FF W n (t + 1)) := by
  have A' : rfI G' n k (FF W n (t + 1)) := rfI_congr A (fun i j hi hj => B.1 _ (by
    have : 288 * (i + 1) ≤ 288 * k := Nat.mul_le_mul_left 288 hi
    omega))
  refine rfI_row A' (fun j hj => ?_) hm
  rw [FF_n hs hp' h hk, B.2 j hj, ← R j hj p (by omega), ← R j hj (p + 2) hr]
  unfold hp
  have : ¬ 0 ≤ o := by omega
  simp only [this, ↓reduceIte]
  rw [ha, hb, show ((p : Nat) : Int).toNat = p by omega, show ((p : Int) + 1).toNat = p + 1 by omega]
  have e : hS H j (p + 2) = hS H j p + (H (288 * p + j)).toInt + (H (288 * (p + 1) + j)).toInt := rfl
  rw [e]
  omega
def wwI (W : Nat → Int) (U Y : Nat → Int32) (n : Nat) : Prop := ∀ i, i < n → W i = (U (Y i).toInt.toNat).toInt
theorem wwI_at {W : Nat → Int} {U Y : Nat → Int32} {n x : Nat} {y v : Int32} (A : wwI W U Y n) (ey : Y x = y) (ev : U y.toInt.toNat = v) (hx : x < n) : v.toInt = W x := by rw [A x hx, ey, ev]
theorem fI_len {R Y H : Nat → Int32} {al n i j r : Nat} {F : Nat → Nat → Int} (A : fI R Y H al n i j) (hj : j = 0) (Q : rfI H n r F) (hi : i ≤ r) : ∀ q, q < n → (R (Y q).toInt.toNat).toInt = F i q := fun q hq => by
  subst hj
  have a := A.1 q hq
  have c2 : ¬ q < 0 := by omega
  simp only [c2, ↓reduceIte] at a
  rw [a, ← Q q hq i hi]
  omega
/-- what the lengths are: from the heap's facts -/
theorem lnP_of {U Y R : Nat → Int32} {al n li : Nat} {W : Nat → Int} (h1 : cP U Y n al) (h2 : soS (kyf U Y) n) (h3 : syI Y n al) (hal : al ≤ 512) (hW : wwI W U Y n) (hc : ∀ i, n ≤ i → W i = 0) (hR : ∀ q, q < n → (R (Y q).toInt.toNat).toInt = if n = 1 then 1 else FF W n (li - 1) (2 * n - 2) q) (hz : ∀ s : Nat, s < al → (∀ q, q < n → (Y q).toInt ≠ s) → (R s).toInt = 0) : lnP U R al li := by
  have m5 : ∀ q, q < n → kyf U Y q % 512 = (Y q).toInt ∧ kyf U Y q / 512 = (U (Y q).toInt.toNat).toInt := fun q hq => by
    have := (h3 q hq).1
    unfold kyf
    omega
  have eW : cut1 n (fun i => kyf U Y i / 512) = W := by
    funext i
    unfold cut1
    by_cases c : i < n
    · simp only [c, ↓reduceIte]
      rw [(m5 i c).2, hW i c]
    · simp only [c, ↓reduceIte]
      exact (hc i (by omega)).symm
  refine ⟨n, kyf U Y, h1.1, h2, h1.2, fun j hj => ?_, fun s hs hne => hz s hs (fun q hq e => hne q hq (by rw [(m5 q hq).1]; exact e))⟩
  rw [(m5 j hj).1, hR j hj]
  unfold lnO
  rw [eW]
theorem lnP_0 {U Y R : Nat → Int32} {al n li : Nat} (h1 : cP U Y n al) (hn : n = 0) (Z : aR R al 0 0) : lnP U R al li := by
  subst hn
  refine ⟨0, kyf U Y, h1.1, fun i hi => by omega, h1.2, fun j hj => by omega, fun s hs _ => by have := Z s hs; omega⟩
theorem lnP_1 {h h2 : ez_H} {U Y : Nat → Int32} {w al n li x : Nat} {y c : Int32} (h1 : cP U Y n al) (hn : n = 1) (h3 : syI Y n al) (hal : al ≤ 512) (Z : aR (ez_I h w) al 0 0) (e : h2 = ez_setI h w x y) (hy : y.toInt = 1) (ec : Y 0 = c) (hx : x = c.toInt.toNat) : lnP U (ez_I h2 w) al li := by
  subst hn
  have b := (h3 0 (by omega)).1
  rw [ec] at b
  have m5 : kyf U Y 0 % 512 = c.toInt := by
    unfold kyf
    rw [ec]
    omega
  refine ⟨1, kyf U Y, h1.1, fun i hi => by omega, h1.2, fun j hj => ?_, fun s hs hne => ?_⟩
  · have : j = 0 := by omega
    subst this
    rw [m5, ← hx, zI_eq e, hy]
    rfl
  · have := hne 0 (by omega)
    rw [m5] at this
    rw [zI_ne e (by omega)]
    have := Z s hs
    omega
theorem wb_of {U Y : Nat → Int32} {W : Nat → Int} {n al : Nat} {mx : Int} (A : wwI W U Y n) (hU : aR U al 0 mx) (hY : syI Y n al) (hn : n ≤ al) (hm : 0 ≤ mx) (hB : (al : Int) * mx ≤ 100000000) : (∀ j, j < n → 0 ≤ W j) ∧ sm W n ≤ 100000000 := by
  have r : ∀ j, j < n → 0 ≤ W j ∧ W j ≤ mx := fun j hj => by
    rw [A j hj]
    have := (hY j hj).1
    exact hU _ (by omega)
  refine ⟨fun j hj => (r j hj).1, ?_⟩
  have h1 : sm W n ≤ sm (fun _ => mx) n := sm_le (fun k hk => (r k hk).2)
  rw [sm_const] at h1
  have h2 : mx * (n : Int) ≤ mx * al := Int.mul_le_mul_of_nonneg_left (by omega) hm
  rw [Int.mul_comm mx al] at h2
  omega
def cp1 (V V' : Nat → Int32) (i : Nat) : Prop := ∀ a, a < i → V a = V' a
theorem cp1_w {h h2 : ez_H} {i x z m : Nat} {y : Int32} (A : cp1 (ez_I h 111) (ez_I h 112) i) (e : h2 = ez_setI h 111 x y) (hx : x = i) (ey : ez_I h 112 z = y) (hz : z = i) (hm : m = i + 1) : cp1 (ez_I h2 111) (ez_I h2 112) m := fun a ha => by
  subst hx; subst hm
  rw [zI_ne (q := 112) e (by omega)]
  by_cases q : a = x
  · subst q
    rw [zI_eq e, ← ey, hz]
  · rw [zI_ne e (by omega)]; exact A a (by omega)
theorem wlI_cp {V V' : Nat → Int32} {L : Nat → Int} {r i : Nat} (A : wlI V' L r) (B : cp1 V V' i) (h : r ≤ i) : wlI V L r := fun a ha => by rw [B a (by omega)]; exact A a ha
theorem wlI_pp {V V' : Nat → Int32} {L : Nat → Int} {k m : Nat} {y : Int32} (A : wlI V L k) (B : (∀ i, i ≠ k → V' i = V i) ∧ V' k = y) (hy : y.toInt = L k) (hm : m = k + 1) : wlI V' L m := fun i hi => by
  subst hm
  by_cases q : i = k
  · subst q; rw [B.2]; exact hy
  · rw [B.1 i q]; exact A i (by omega)
/-! PRINTED by wip/p18/con18.py: the lengths of the model, told in full -/
set_option maxRecDepth 4000 in
set_option maxHeartbeats 20000000 in
theorem m_ppF_L0 {E : Nat → Nat × (Nat → Int32)} {d : Nat} {Q : ez_Q} {h : ez_H} {k : Int32} {n : Int32} {w : Int32} {a : Int32} {b : Int32} {o : Int32} (S : zSh h) (hk : 0 ≤ k.toInt ∧ k.toInt < 600 ∧ 0 ≤ n.toInt ∧ n.toInt ≤ 288 ∧ 0 ≤ a.toInt ∧ a.toInt < 600 ∧ 0 ≤ b.toInt ∧ b.toInt < 600) (hs : o.toInt < 0 → ∀ j, j < n.toInt.toNat → (0 ≤ (ez_I h 113 (288 * a.toInt.toNat + j)).toInt ∧ (ez_I h 113 (288 * a.toInt.toNat + j)).toInt ≤ 1000) ∧ (0 ≤ (ez_I h 113 (288 * b.toInt.toNat + j)).toInt ∧ (ez_I h 113 (288 * b.toInt.toNat + j)).toInt ≤ 1000)) (K : ∀ h2, zG (fun _ => False) (fun q => q = 112 ∨ q = 114) h h2 → pN (ez_I h2 114) (ez_I h 114) (ez_I h 113) k.toInt.toNat a.toInt b.toInt o.toInt n.toInt.toNat → ((∀ i, i ≠ k.toInt.toNat → ez_I h2 112 i = ez_I h 112 i) ∧ ez_I h2 112 k.toInt.toNat = w) → Q (.inl none) h2) : ∀ N : Nat, (∀ (h2 : ez_H) (j : Int32) , zG (fun _ => False) (fun q => q = 112 ∨ q = 114) h h2 → (0 ≤ j.toInt ∧ j.toInt ≤ n.toInt) → pN (ez_I h2 114) (ez_I h 114) (ez_I h 113) k.toInt.toNat a.toInt b.toInt o.toInt j.toInt.toNat → ((∀ i, i ≠ k.toInt.toNat → ez_I h2 112 i = ez_I h 112 i) ∧ ez_I h2 112 k.toInt.toNat = w) → (2147483647 - j.toInt) < (N : Int) → pw E d 35 10 [some (.ref 71), some (.int k), some (.int n), some (.int w), some (.int a), some (.int b), some (.int o), some (.int j)] [] h2 Q) := by
  intro N
  induction N with
  | zero => exact fun h2 j  F hinv A_pn A_wv hm => absurd hm (by have w_j := z_rng j; have gk := z_rng k; have gn := z_rng n; have gw := z_rng w; have ga := z_rng a; have gb := z_rng b; have go := z_rng o; omega)
  | succ N ih =>
    refine fun h2 j  F hinv A_pn A_wv hm => ?_
    · skip
      have w_j := z_rng j
      have gk := z_rng k
      have gn := z_rng n
      have gw := z_rng w
      have ga := z_rng a
      have gb := z_rng b
      have go := z_rng o
      have S2 := zG_sh F S
      have hs2 : o.toInt < 0 → j.toInt < n.toInt → _ := fun q1 q2 => hs q1 j.toInt.toNat (by omega)
      apply ez_Wp_in
      show ez_gw _ _ _ _ _ _ (cz_35) _ _ _ _ _
      refine gw_skip _ ?_
      refine gw_ld rfl rfl ?_
      refine gw_ld rfl rfl ?_
      refine z_b2 (fun c1 => ?_) (fun c1 => ?_)
      · have c1 : n.toInt ≤ j.toInt := c1
        refine gw_skip _ ?_
        refine z_rv ?_
        exact K _ F (by rw [show n.toInt.toNat = j.toInt.toNat by omega]; exact A_pn) (A_wv)
      · have c1 : ¬ (n.toInt ≤ j.toInt) := c1
        refine gw_ld rfl rfl ?_
        refine z_gR (q := 114) (zT S2 (by decide) rfl) (zRf S2 (by decide) (by decide) rfl) (by decide) ?_
        refine z_C (m := 288) rfl rfl (fun x2 ex2 => ?_)
        refine gw_ld rfl rfl ?_
        refine z_mulL (c := 288) ex2 (by omega) (fun x3 ex3 => ?_)
        refine gw_ld rfl rfl ?_
        refine z_add (by omega) (fun x4 ex4 => ?_)
        refine gw_ld rfl rfl ?_
        refine z_b1 (fun c5 => ?_) (fun c5 => ?_)
        · have c5 : o.toInt < 0 := c5
          refine gw_skip _ ?_
          refine gw_ld rfl rfl ?_
          refine z_gR (q := 113) (zT S2 (by decide) rfl) (zRf S2 (by decide) (by decide) rfl) (by decide) ?_
          refine z_C (m := 288) rfl rfl (fun x6 ex6 => ?_)
          refine gw_ld rfl rfl ?_
          refine z_mulL (c := 288) ex6 (by omega) (fun x7 ex7 => ?_)
          refine gw_ld rfl rfl ?_
          refine z_add (by omega) (fun x8 ex8 => ?_)
          refine z_iaV (n := 172800) (zT S2 (by decide) rfl) (zN S2 (by decide) rfl) (by omega) (zG_a F (by decide) (by decide)) ?_
          generalize ex9 : ez_I h 113 x8.toInt.toNat = x9
          have rx9 := z_rng x9
          have yx9 := (hs2 (by omega) (by omega)).1
          rw [show 288 * a.toInt.toNat + j.toInt.toNat = x8.toInt.toNat by omega, ex9] at yx9
          refine gw_ld rfl rfl ?_
          refine z_gR (q := 113) (zT S2 (by decide) rfl) (zRf S2 (by decide) (by decide) rfl) (by decide) ?_
          refine z_C (m := 288) rfl rfl (fun x10 ex10 => ?_)
          refine gw_ld rfl rfl ?_
          refine z_mulL (c := 288) ex10 (by omega) (fun x11 ex11 => ?_)
          refine gw_ld rfl rfl ?_
          refine z_add (by omega) (fun x12 ex12 => ?_)
          refine z_iaV (n := 172800) (zT S2 (by decide) rfl) (zN S2 (by decide) rfl) (by omega) (zG_a F (by decide) (by decide)) ?_
          generalize ex13 : ez_I h 113 x12.toInt.toNat = x13
          have rx13 := z_rng x13
          have yx13 := (hs2 (by omega) (by omega)).2
          rw [show 288 * b.toInt.toNat + j.toInt.toNat = x12.toInt.toNat by omega, ex13] at yx13
          refine z_add (by omega) (fun x14 ex14 => ?_)
          refine z_is (n := 172800) (zT S2 (by decide) rfl) (zN S2 (by decide) rfl) (by omega) (fun h15 e16 => ?_)
          have S17 := zSh_set S2 e16
          have F18 := zG_setA F e16 (by decide) (by decide)
          have A19 : pN (ez_I h15 114) (ez_I h 114) (ez_I h 113) k.toInt.toNat a.toInt b.toInt o.toInt (j.toInt.toNat + 1) := pN_up A_pn e16 (by omega) (hp_2 (by omega) ex9 ex13 (by omega) (by omega) (by omega))
          have A20 : ((∀ i, i ≠ k.toInt.toNat → ez_I h15 112 i = ez_I h 112 i) ∧ ez_I h15 112 k.toInt.toNat = w) := by rw [zI_fn e16 112 (by decide)]; exact A_wv
          refine z_inc rfl (by rw [show (1 : Int32).toInt = 1 from rfl]; omega) (fun x21 ex21 => ?_)
          rw [show (1 : Int32).toInt = 1 from rfl] at ex21
          show ez_gw _ _ _ _ _ _ _ _ [some (.ref 71), some (.int k), some (.int n), some (.int w), some (.int a), some (.int b), some (.int o), some (.int x21)] _ _ _
          refine z_go ?_
          exact ih h15 x21 F18 (by omega) ((by rw [show x21.toInt.toNat = j.toInt.toNat + 1 by omega]; exact A19)) A20 (by omega)
        · have c5 : ¬ (o.toInt < 0) := c5
          refine gw_ld rfl rfl ?_
          refine gw_ld rfl rfl ?_
          refine z_b2 (fun c22 => ?_) (fun c22 => ?_)
          · have c22 : j.toInt ≠ o.toInt := c22
            refine gw_skip _ ?_
            refine z_C (m := 0) rfl rfl (fun x23 ex23 => ?_)
            refine z_go ?_
            refine gw_skip _ ?_
            refine z_is (n := 172800) (zT S2 (by decide) rfl) (zN S2 (by decide) rfl) (by omega) (fun h24 e25 => ?_)
            have S26 := zSh_set S2 e25
            have F27 := zG_setA F e25 (by decide) (by decide)
            have A28 : pN (ez_I h24 114) (ez_I h 114) (ez_I h 113) k.toInt.toNat a.toInt b.toInt o.toInt (j.toInt.toNat + 1) := pN_up A_pn e25 (by omega) (hp_1 (by omega) (by omega))
            have A29 : ((∀ i, i ≠ k.toInt.toNat → ez_I h24 112 i = ez_I h 112 i) ∧ ez_I h24 112 k.toInt.toNat = w) := by rw [zI_fn e25 112 (by decide)]; exact A_wv
            refine z_inc rfl (by rw [show (1 : Int32).toInt = 1 from rfl]; omega) (fun x30 ex30 => ?_)
            rw [show (1 : Int32).toInt = 1 from rfl] at ex30
            show ez_gw _ _ _ _ _ _ _ _ [some (.ref 71), some (.int k), some (.int n), some (.int w), some (.int a), some (.int b), some (.int o), some (.int x30)] _ _ _
            refine z_go ?_
            exact ih h24 x30 F27 (by omega) ((by rw [show x30.toInt.toNat = j.toInt.toNat + 1 by omega]; exact A28)) A29 (by omega)
          · have c22 : ¬ (j.toInt ≠ o.toInt) := c22
            refine z_C (m := 1) rfl rfl (fun x31 ex31 => ?_)
            refine z_go ?_
            refine gw_skip _ ?_
            refine z_is (n := 172800) (zT S2 (by decide) rfl) (zN S2 (by decide) rfl) (by omega) (fun h32 e33 => ?_)
            have S34 := zSh_set S2 e33
            have F35 := zG_setA F e33 (by decide) (by decide)
            have A36 : pN (ez_I h32 114) (ez_I h 114) (ez_I h 113) k.toInt.toNat a.toInt b.toInt o.toInt (j.toInt.toNat + 1) := pN_up A_pn e33 (by omega) (hp_1 (by omega) (by omega))
            have A37 : ((∀ i, i ≠ k.toInt.toNat → ez_I h32 112 i = ez_I h 112 i) ∧ ez_I h32 112 k.toInt.toNat = w) := by rw [zI_fn e33 112 (by decide)]; exact A_wv
            refine z_inc rfl (by rw [show (1 : Int32).toInt = 1 from rfl]; omega) (fun x38 ex38 => ?_)
            rw [show (1 : Int32).toInt = 1 from rfl] at ex38
            show ez_gw _ _ _ _ _ _ _ _ [some (.ref 71), some (.int k), some (.int n), some (.int w), some (.int a), some (.int b), some (.int o), some (.int x38)] _ _ _
            refine z_go ?_
            exact ih h32 x38 F35 (by omega) ((by rw [show x38.toInt.toNat = j.toInt.toNat + 1 by omega]; exact A36)) A37 (by omega)
set_option maxRecDepth 4000 in
set_option maxHeartbeats 20000000 in
theorem m_ppF {E : Nat → Nat × (Nat → Int32)} {d : Nat} {Q : ez_Q} {h : ez_H} {k : Int32} {n : Int32} {w : Int32} {a : Int32} {b : Int32} {o : Int32} (S : zSh h) (hk : 0 ≤ k.toInt ∧ k.toInt < 600 ∧ 0 ≤ n.toInt ∧ n.toInt ≤ 288 ∧ 0 ≤ a.toInt ∧ a.toInt < 600 ∧ 0 ≤ b.toInt ∧ b.toInt < 600) (hs : o.toInt < 0 → ∀ j, j < n.toInt.toNat → (0 ≤ (ez_I h 113 (288 * a.toInt.toNat + j)).toInt ∧ (ez_I h 113 (288 * a.toInt.toNat + j)).toInt ≤ 1000) ∧ (0 ≤ (ez_I h 113 (288 * b.toInt.toNat + j)).toInt ∧ (ez_I h 113 (288 * b.toInt.toNat + j)).toInt ≤ 1000)) (K : ∀ h2, zG (fun _ => False) (fun q => q = 112 ∨ q = 114) h h2 → pN (ez_I h2 114) (ez_I h 114) (ez_I h 113) k.toInt.toNat a.toInt b.toInt o.toInt n.toInt.toNat → ((∀ i, i ≠ k.toInt.toNat → ez_I h2 112 i = ez_I h 112 i) ∧ ez_I h2 112 k.toInt.toNat = w) → Q (.inl none) h2) : pw E d 35 0 [some (.ref 71), some (.int k), some (.int n), some (.int w), some (.int a), some (.int b), some (.int o), none] [] h Q := by
  have gk := z_rng k
  have gn := z_rng n
  have gw := z_rng w
  have ga := z_rng a
  have gb := z_rng b
  have go := z_rng o
  have F := zG_refl (fun _ => False) (fun q => q = 112 ∨ q = 114) h
  apply ez_Wp_in
  show ez_gw _ _ _ _ _ _ (cz_35) _ _ _ _ _
  refine gw_skip _ ?_
  refine gw_ld rfl rfl ?_
  refine z_gR (q := 112) (zT S (by decide) rfl) (zRf S (by decide) (by decide) rfl) (by decide) ?_
  refine gw_ld rfl rfl ?_
  refine gw_ld rfl rfl ?_
  refine z_is (n := 600) (zT S (by decide) rfl) (zN S (by decide) rfl) (by omega) (fun h1 e2 => ?_)
  have S3 := zSh_set S e2
  have F4 := zG_setA F e2 (by decide) (by decide)
  have A5 : ((∀ i, i ≠ k.toInt.toNat → ez_I h1 112 i = ez_I h 112 i) ∧ ez_I h1 112 k.toInt.toNat = w) := ⟨fun i hi => zI_ne e2 (by omega), zI_eq e2⟩
  refine z_C (m := 0) rfl rfl (fun x6 ex6 => ?_)
  refine gw_st rfl rfl rfl ?_
  show ez_gw _ _ _ _ _ _ _ _ [some (.ref 71), some (.int k), some (.int n), some (.int w), some (.int a), some (.int b), some (.int o), some (.int x6)] _ _ _
  exact ez_Wp_at ((m_ppF_L0 (k := k) (n := n) (w := w) (a := a) (b := b) (o := o) S hk hs K (((2147483647 - x6.toInt)).toNat + 1)) h1 x6 F4 (by omega) ((by rw [show x6.toInt.toNat = 0 by omega, zI_fn e2 114 (by decide)]; exact pN_0)) A5 (by omega)) rfl
set_option maxRecDepth 4000 in
set_option maxHeartbeats 20000000 in
theorem m_lenF_L3 {E : Nat → Nat × (Nat → Int32)} {d : Nat} {Q : ez_Q} {h : ez_H} {u : Nat} {al : Int32} {li : Int32} {w : Nat} (S : zSh h) {nu nw : Nat} {mx : Int} (hu : zA u nu) (hw : zA w nw) (hd : (u < 110 ∨ 114 < u) ∧ u ≠ 71 ∧ u ≠ w ∧ (w < 110 ∨ 114 < w) ∧ w ≠ 71) (hn : 1 ≤ al.toInt ∧ al.toInt ≤ nu ∧ al.toInt ≤ nw ∧ al.toInt ≤ 288 ∧ nu ≤ 1000 ∧ nw ≤ 1000) (hl : 1 ≤ li.toInt ∧ li.toInt ≤ 15) (hU : aR (ez_I h u) al.toInt.toNat 0 mx) (hmx : 0 ≤ mx ∧ mx ≤ 1000000) (hmB : (al.toInt.toNat : Int) * mx ≤ 100000000) (hP : (poC (ez_I h u) al.toInt.toNat : Int) ≤ 2 ^ li.toInt.toNat) (K : ∀ h2, zG (fun _ => False) (fun q => 110 ≤ q ∧ q ≤ 114 ∨ q = w) h h2 → lnP (ez_I h u) (ez_I h2 w) al.toInt.toNat li.toInt.toNat → Q (.inl none) h2) : ∀ N : Nat, (∀ (h2 : ez_H) (n : Int32) (r : Int32) (i : Int32) (l8 : Option Value) (l9 : Option Value) (l10 : Option Value) (l11 : Option Value) (l12 : Option Value) (W : Nat → Int), zG (fun _ => False) (fun q => 110 ≤ q ∧ q ≤ 114 ∨ q = w) h h2 → (2 ≤ n.toInt ∧ n.toInt ≤ al.toInt ∧ n.toInt ≤ r.toInt ∧ r.toInt ≤ 2 * n.toInt - 1 ∧ 0 ≤ i.toInt ∧ i.toInt ≤ 2 * n.toInt - 2) → syI (ez_I h2 110) n.toInt.toNat al.toInt.toNat → soS (kyf (ez_I h u) (ez_I h2 110)) n.toInt.toNat → cP (ez_I h u) (ez_I h2 110) n.toInt.toNat al.toInt.toNat → wwI W (ez_I h u) (ez_I h2 110) n.toInt.toNat → (∀ i, n.toInt.toNat ≤ i → W i = 0) → ((∀ j, j < n.toInt.toNat → 0 ≤ W j) ∧ sm W n.toInt.toNat ≤ 100000000) → eH n.toInt r.toInt li.toInt → hQ (ez_I h2 113) n.toInt.toNat r.toInt.toNat (fun _ => li.toInt) → rfI (ez_I h2 113) n.toInt.toNat r.toInt.toNat (FF W n.toInt.toNat (li.toInt.toNat - 1)) → fI (ez_I h2 w) (ez_I h2 110) (ez_I h2 113) al.toInt.toNat n.toInt.toNat i.toInt.toNat 0 → (1000 * (1000 - i.toInt)) < (N : Int) → pw E (d + 1) 36 442 [some (.ref 71), some (.ref u), some (.int al), some (.int li), some (.ref w), some (.int n), some (.int r), some (.int i), l8, l9, l10, l11, l12] [] h2 Q) ∧ (∀ (h2 : ez_H) (n : Int32) (r : Int32) (i : Int32) (j : Int32) (l9 : Option Value) (l10 : Option Value) (l11 : Option Value) (l12 : Option Value) (W : Nat → Int), zG (fun _ => False) (fun q => 110 ≤ q ∧ q ≤ 114 ∨ q = w) h h2 → (2 ≤ n.toInt ∧ n.toInt ≤ al.toInt ∧ n.toInt ≤ r.toInt ∧ r.toInt ≤ 2 * n.toInt - 1 ∧ 0 ≤ i.toInt ∧ i.toInt < 2 * n.toInt - 2 ∧ 0 ≤ j.toInt ∧ j.toInt ≤ n.toInt) → syI (ez_I h2 110) n.toInt.toNat al.toInt.toNat → soS (kyf (ez_I h u) (ez_I h2 110)) n.toInt.toNat → cP (ez_I h u) (ez_I h2 110) n.toInt.toNat al.toInt.toNat → wwI W (ez_I h u) (ez_I h2 110) n.toInt.toNat → (∀ i, n.toInt.toNat ≤ i → W i = 0) → ((∀ j, j < n.toInt.toNat → 0 ≤ W j) ∧ sm W n.toInt.toNat ≤ 100000000) → eH n.toInt r.toInt li.toInt → hQ (ez_I h2 113) n.toInt.toNat r.toInt.toNat (fun _ => li.toInt) → rfI (ez_I h2 113) n.toInt.toNat r.toInt.toNat (FF W n.toInt.toNat (li.toInt.toNat - 1)) → fI (ez_I h2 w) (ez_I h2 110) (ez_I h2 113) al.toInt.toNat n.toInt.toNat i.toInt.toNat j.toInt.toNat → (1000 * (1000 - i.toInt) - 500 + (300 - j.toInt)) < (N : Int) → pw E (d + 1) 36 456 [some (.ref 71), some (.ref u), some (.int al), some (.int li), some (.ref w), some (.int n), some (.int r), some (.int i), some (.int j), l9, l10, l11, l12] [] h2 Q) := by
  intro N
  induction N with
  | zero => exact ⟨fun h2 n r i l8 l9 l10 l11 l12 W F hinv A_sy A_so A_cn A_ww A_wz A_wb A_eh A_hq A_rf A_fi hm => absurd hm (by have w_n := z_rng n; have w_r := z_rng r; have w_i := z_rng i; have gal := z_rng al; have gli := z_rng li; omega), fun h2 n r i j l9 l10 l11 l12 W F hinv A_sy A_so A_cn A_ww A_wz A_wb A_eh A_hq A_rf A_fi hm => absurd hm (by have w_n := z_rng n; have w_r := z_rng r; have w_i := z_rng i; have w_j := z_rng j; have gal := z_rng al; have gli := z_rng li; omega)⟩
  | succ N ih =>
    refine ⟨fun h2 n r i l8 l9 l10 l11 l12 W F hinv A_sy A_so A_cn A_ww A_wz A_wb A_eh A_hq A_rf A_fi hm => ?_, fun h2 n r i j l9 l10 l11 l12 W F hinv A_sy A_so A_cn A_ww A_wz A_wb A_eh A_hq A_rf A_fi hm => ?_⟩
    · skip
      have w_n := z_rng n
      have w_r := z_rng r
      have w_i := z_rng i
      have gal := z_rng al
      have gli := z_rng li
      have S2 := zG_sh F S
      apply ez_Wp_in
      show ez_gw _ _ _ _ _ _ (cz_36) _ _ _ _ _
      refine gw_skip _ ?_
      refine gw_ld rfl rfl ?_
      refine z_C (m := 2) rfl rfl (fun x1 ex1 => ?_)
      refine gw_ld rfl rfl ?_
      refine z_mulL (c := 2) ex1 (by omega) (fun x2 ex2 => ?_)
      refine z_C (m := 2) rfl rfl (fun x3 ex3 => ?_)
      refine z_sub (by omega) (fun x4 ex4 => ?_)
      refine z_b2 (fun c5 => ?_) (fun c5 => ?_)
      · have c5 : x4.toInt ≤ i.toInt := c5
        refine gw_skip _ ?_
        refine z_rv ?_
        have ee := eH_end (al := n.toInt) A_eh rfl (by omega) (Int.le_refl _) (by have := A_cn.1; omega)
        exact K _ F (lnP_of A_cn A_so A_sy (by omega) A_ww A_wz (fun q hq => by have a := fI_len A_fi rfl A_rf (by omega) q hq; rw [a, if_neg (by omega)]; congr 1; omega) A_fi.2)
      · have c5 : ¬ (x4.toInt ≤ i.toInt) := c5
        refine z_C (m := 0) rfl rfl (fun x6 ex6 => ?_)
        refine gw_st rfl rfl rfl ?_
        show ez_gw _ _ _ _ _ _ _ _ [some (.ref 71), some (.ref u), some (.int al), some (.int li), some (.ref w), some (.int n), some (.int r), some (.int i), some (.int x6), l9, l10, l11, l12] _ _ _
        exact ez_Wp_at (ih.2 h2 n r i x6 (l9) (l10) (l11) (l12) W F (by omega) A_sy A_so A_cn A_ww A_wz A_wb A_eh A_hq A_rf ((by rw [show x6.toInt.toNat = 0 by omega]; exact A_fi)) (by omega)) rfl
    · skip
      have w_n := z_rng n
      have w_r := z_rng r
      have w_i := z_rng i
      have w_j := z_rng j
      have gal := z_rng al
      have gli := z_rng li
      have S2 := zG_sh F S
      have ee := eH_end (al := n.toInt) A_eh rfl (by omega) (Int.le_refl _) (by have := A_cn.1; omega)
      apply ez_Wp_in
      show ez_gw _ _ _ _ _ _ (cz_36) _ _ _ _ _
      refine gw_skip _ ?_
      refine gw_ld rfl rfl ?_
      refine gw_ld rfl rfl ?_
      refine z_b2 (fun c7 => ?_) (fun c7 => ?_)
      · have c7 : n.toInt ≤ j.toInt := c7
        refine gw_skip _ ?_
        refine z_inc rfl (by rw [show (1 : Int32).toInt = 1 from rfl]; omega) (fun x8 ex8 => ?_)
        rw [show (1 : Int32).toInt = 1 from rfl] at ex8
        show ez_gw _ _ _ _ _ _ _ _ [some (.ref 71), some (.ref u), some (.int al), some (.int li), some (.ref w), some (.int n), some (.int r), some (.int x8), some (.int j), l9, l10, l11, l12] _ _ _
        refine z_go ?_
        exact ih.1 h2 n r x8 (some (.int j)) (l9) (l10) (l11) (l12) W F (by omega) A_sy A_so A_cn A_ww A_wz A_wb (A_eh) (A_hq) (A_rf) (fI_nx A_fi (by omega) (by omega) rfl) (by omega)
      · have c7 : ¬ (n.toInt ≤ j.toInt) := c7
        refine gw_ld rfl rfl ?_
        refine gw_ld rfl rfl ?_
        refine z_gR (q := 110) (zT S2 (by decide) rfl) (zRf S2 (by decide) (by decide) rfl) (by decide) ?_
        refine gw_ld rfl rfl ?_
        refine z_ia (n := 288) (zT S2 (by decide) rfl) (zN S2 (by decide) rfl) (by omega) ?_
        generalize ex9 : ez_I h2 110 j.toInt.toNat = x9
        have rx9 := z_rng x9
        have yx9 := (A_sy j.toInt.toNat (by omega)).1
        rw [ex9] at yx9
        refine gw_op rfl ?_
        refine z_ia (n := nw) ((hw _ S2).1) ((hw _ S2).2) (by omega) ?_
        generalize ex10 : ez_I h2 w x9.toInt.toNat = x10
        have rx10 := z_rng x10
        refine gw_ld rfl rfl ?_
        refine z_gR (q := 113) (zT S2 (by decide) rfl) (zRf S2 (by decide) (by decide) rfl) (by decide) ?_
        refine z_C (m := 288) rfl rfl (fun x11 ex11 => ?_)
        refine gw_ld rfl rfl ?_
        refine z_mulL (c := 288) ex11 (by omega) (fun x12 ex12 => ?_)
        refine gw_ld rfl rfl ?_
        refine z_add (by omega) (fun x13 ex13 => ?_)
        refine z_ia (n := 172800) (zT S2 (by decide) rfl) (zN S2 (by decide) rfl) (by omega) ?_
        generalize ex14 : ez_I h2 113 x13.toInt.toNat = x14
        have rx14 := z_rng x14
        refine z_addW (fun x15 ex15 => ?_)
        have rx15 := z_rng x15
        refine z_is (n := nw) ((hw _ S2).1) ((hw _ S2).2) (by omega) (fun h16 e17 => ?_)
        have S18 := zSh_set S2 e17
        have F19 := zG_setA F e17 (by omega) (by omega)
        have A20 : syI (ez_I h16 110) n.toInt.toNat al.toInt.toNat := by rw [zI_fn e17 110 (by omega)]; exact A_sy
        have A21 : soS (kyf (ez_I h u) (ez_I h16 110)) n.toInt.toNat := by rw [zI_fn e17 110 (by omega)]; exact A_so
        have A22 : cP (ez_I h u) (ez_I h16 110) n.toInt.toNat al.toInt.toNat := by rw [zI_fn e17 110 (by omega)]; exact A_cn
        have A23 : wwI W (ez_I h u) (ez_I h16 110) n.toInt.toNat := by rw [zI_fn e17 110 (by omega)]; exact A_ww
        have A24 : (∀ i, n.toInt.toNat ≤ i → W i = 0) := by rw []; exact A_wz
        have A25 : ((∀ j, j < n.toInt.toNat → 0 ≤ W j) ∧ sm W n.toInt.toNat ≤ 100000000) := by rw []; exact A_wb
        have A26 : eH n.toInt r.toInt li.toInt := by rw []; exact A_eh
        have A27 : hQ (ez_I h16 113) n.toInt.toNat r.toInt.toNat (fun _ => li.toInt) := by rw [zI_fn e17 113 (by omega)]; exact A_hq
        have A28 : rfI (ez_I h16 113) n.toInt.toNat r.toInt.toNat (FF W n.toInt.toNat (li.toInt.toNat - 1)) := by rw [zI_fn e17 113 (by omega)]; exact A_rf
        have A29 : fI (ez_I h16 w) (ez_I h16 110) (ez_I h16 113) al.toInt.toNat n.toInt.toNat i.toInt.toNat (j.toInt.toNat + 1) := fI_w A_fi e17 (by omega) A_sy (by omega) ex9 rfl ex10 ex14 (by omega) (hQ_g A_hq (fun _ _ => by omega)) (by omega) ex15
        refine z_inc rfl (by rw [show (1 : Int32).toInt = 1 from rfl]; omega) (fun x30 ex30 => ?_)
        rw [show (1 : Int32).toInt = 1 from rfl] at ex30
        show ez_gw _ _ _ _ _ _ _ _ [some (.ref 71), some (.ref u), some (.int al), some (.int li), some (.ref w), some (.int n), some (.int r), some (.int i), some (.int x30), l9, l10, l11, l12] _ _ _
        refine z_go ?_
        exact ih.2 h16 n r i x30 (l9) (l10) (l11) (l12) W F19 (by omega) A20 A21 A22 A23 A24 A25 A26 A27 A28 ((by rw [show x30.toInt.toNat = (j.toInt.toNat + 1) by omega]; exact A29)) (by omega)
set_option maxRecDepth 4000 in
set_option maxHeartbeats 20000000 in
theorem m_lenF_L2 {E : Nat → Nat × (Nat → Int32)} {d : Nat} {Q : ez_Q} {h : ez_H} {u : Nat} {al : Int32} {li : Int32} {w : Nat} (S : zSh h) {nu nw : Nat} {mx : Int} (hu : zA u nu) (hw : zA w nw) (hd : (u < 110 ∨ 114 < u) ∧ u ≠ 71 ∧ u ≠ w ∧ (w < 110 ∨ 114 < w) ∧ w ≠ 71) (hn : 1 ≤ al.toInt ∧ al.toInt ≤ nu ∧ al.toInt ≤ nw ∧ al.toInt ≤ 288 ∧ nu ≤ 1000 ∧ nw ≤ 1000) (hl : 1 ≤ li.toInt ∧ li.toInt ≤ 15) (hU : aR (ez_I h u) al.toInt.toNat 0 mx) (hmx : 0 ≤ mx ∧ mx ≤ 1000000) (hmB : (al.toInt.toNat : Int) * mx ≤ 100000000) (hP : (poC (ez_I h u) al.toInt.toNat : Int) ≤ 2 ^ li.toInt.toNat) (K : ∀ h2, zG (fun _ => False) (fun q => 110 ≤ q ∧ q ≤ 114 ∨ q = w) h h2 → lnP (ez_I h u) (ez_I h2 w) al.toInt.toNat li.toInt.toNat → Q (.inl none) h2) : ∀ N : Nat, (∀ (h2 : ez_H) (n : Int32) (r : Int32) (t : Int32) (l8 : Option Value) (l9 : Option Value) (l10 : Option Value) (l11 : Option Value) (l12 : Option Value) (W : Nat → Int), zG (fun _ => False) (fun q => 110 ≤ q ∧ q ≤ 114 ∨ q = w) h h2 → (2 ≤ n.toInt ∧ n.toInt ≤ al.toInt ∧ n.toInt ≤ r.toInt ∧ r.toInt ≤ 2 * n.toInt - 1 ∧ 1 ≤ t.toInt ∧ t.toInt ≤ li.toInt ∧ r.toInt = (rz n.toInt.toNat (t.toInt.toNat - 1) : Nat)) → aR (ez_I h2 w) al.toInt.toNat 0 0 → syI (ez_I h2 110) n.toInt.toNat al.toInt.toNat → soS (kyf (ez_I h u) (ez_I h2 110)) n.toInt.toNat → cP (ez_I h u) (ez_I h2 110) n.toInt.toNat al.toInt.toNat → wwI W (ez_I h u) (ez_I h2 110) n.toInt.toNat → (∀ i, n.toInt.toNat ≤ i → W i = 0) → ((∀ j, j < n.toInt.toNat → 0 ≤ W j) ∧ sm W n.toInt.toNat ≤ 100000000) → eH n.toInt r.toInt t.toInt → hQ (ez_I h2 113) n.toInt.toNat r.toInt.toNat (fun _ => t.toInt) → wlI (ez_I h2 111) (LL W n.toInt.toNat (t.toInt.toNat - 1)) r.toInt.toNat → rfI (ez_I h2 113) n.toInt.toNat r.toInt.toNat (FF W n.toInt.toNat (t.toInt.toNat - 1)) → (1000000 * (20 - t.toInt)) < (N : Int) → pw E (d + 1) 36 199 [some (.ref 71), some (.ref u), some (.int al), some (.int li), some (.ref w), some (.int n), some (.int r), some (.int t), l8, l9, l10, l11, l12] [] h2 Q) ∧ (∀ (h2 : ez_H) (n : Int32) (r : Int32) (t : Int32) (p : Int32) (s : Int32) (k : Int32) (l11 : Option Value) (l12 : Option Value) (W : Nat → Int), zG (fun _ => False) (fun q => 110 ≤ q ∧ q ≤ 114 ∨ q = w) h h2 → (2 ≤ n.toInt ∧ n.toInt ≤ al.toInt ∧ n.toInt ≤ r.toInt ∧ r.toInt ≤ 2 * n.toInt - 1 ∧ 1 ≤ t.toInt ∧ t.toInt < li.toInt ∧ r.toInt = (rz n.toInt.toNat (t.toInt.toNat - 1) : Nat) ∧ 0 ≤ p.toInt ∧ p.toInt ≤ r.toInt ∧ 0 ≤ s.toInt ∧ s.toInt ≤ n.toInt ∧ 2 * k.toInt = 2 * s.toInt + p.toInt ∧ s.toInt = (xs1 W (LL W n.toInt.toNat (t.toInt.toNat - 1)) n.toInt.toNat (rz n.toInt.toNat (t.toInt.toNat - 1)) k.toInt.toNat : Nat)) → aR (ez_I h2 w) al.toInt.toNat 0 0 → syI (ez_I h2 110) n.toInt.toNat al.toInt.toNat → soS (kyf (ez_I h u) (ez_I h2 110)) n.toInt.toNat → cP (ez_I h u) (ez_I h2 110) n.toInt.toNat al.toInt.toNat → wwI W (ez_I h u) (ez_I h2 110) n.toInt.toNat → (∀ i, n.toInt.toNat ≤ i → W i = 0) → ((∀ j, j < n.toInt.toNat → 0 ≤ W j) ∧ sm W n.toInt.toNat ≤ 100000000) → eH n.toInt r.toInt t.toInt → hQ (ez_I h2 113) n.toInt.toNat r.toInt.toNat (fun _ => t.toInt) → tQ (ez_I h2 114) (ez_I h2 113) n.toInt.toNat k.toInt.toNat s.toInt p.toInt → wlI (ez_I h2 111) (LL W n.toInt.toNat (t.toInt.toNat - 1)) r.toInt.toNat → rfI (ez_I h2 113) n.toInt.toNat r.toInt.toNat (FF W n.toInt.toNat (t.toInt.toNat - 1)) → wlI (ez_I h2 112) (LL W n.toInt.toNat ((t.toInt.toNat - 1) + 1)) k.toInt.toNat → rfI (ez_I h2 114) n.toInt.toNat k.toInt.toNat (FF W n.toInt.toNat ((t.toInt.toNat - 1) + 1)) → ((1000000 * (20 - t.toInt)) - 100000 + (1200 - k.toInt)) < (N : Int) → pw E (d + 1) 36 214 [some (.ref 71), some (.ref u), some (.int al), some (.int li), some (.ref w), some (.int n), some (.int r), some (.int t), some (.int p), some (.int s), some (.int k), l11, l12] [] h2 Q) ∧ (∀ (h2 : ez_H) (n : Int32) (r : Int32) (t : Int32) (p : Int32) (s : Int32) (k : Int32) (i : Int32) (l12 : Option Value) (W : Nat → Int), zG (fun _ => False) (fun q => 110 ≤ q ∧ q ≤ 114 ∨ q = w) h h2 → (2 ≤ n.toInt ∧ n.toInt ≤ al.toInt ∧ n.toInt ≤ r.toInt ∧ r.toInt ≤ 2 * n.toInt - 1 ∧ 1 ≤ t.toInt ∧ t.toInt < li.toInt ∧ 0 ≤ i.toInt ∧ i.toInt ≤ r.toInt ∧ r.toInt = (rz n.toInt.toNat ((t.toInt.toNat - 1) + 1) : Nat)) → aR (ez_I h2 w) al.toInt.toNat 0 0 → syI (ez_I h2 110) n.toInt.toNat al.toInt.toNat → soS (kyf (ez_I h u) (ez_I h2 110)) n.toInt.toNat → cP (ez_I h u) (ez_I h2 110) n.toInt.toNat al.toInt.toNat → wwI W (ez_I h u) (ez_I h2 110) n.toInt.toNat → (∀ i, n.toInt.toNat ≤ i → W i = 0) → ((∀ j, j < n.toInt.toNat → 0 ≤ W j) ∧ sm W n.toInt.toNat ≤ 100000000) → eH n.toInt r.toInt (t.toInt + 1) → hQ (ez_I h2 114) n.toInt.toNat r.toInt.toNat (fun _ => t.toInt + 1) → cpI (ez_I h2 113) (ez_I h2 114) n.toInt.toNat i.toInt.toNat → wlI (ez_I h2 112) (LL W n.toInt.toNat ((t.toInt.toNat - 1) + 1)) r.toInt.toNat → rfI (ez_I h2 114) n.toInt.toNat r.toInt.toNat (FF W n.toInt.toNat ((t.toInt.toNat - 1) + 1)) → cp1 (ez_I h2 111) (ez_I h2 112) i.toInt.toNat → ((1000000 * (20 - t.toInt)) - 500000 + 400 * (700 - i.toInt)) < (N : Int) → pw E (d + 1) 36 362 [some (.ref 71), some (.ref u), some (.int al), some (.int li), some (.ref w), some (.int n), some (.int r), some (.int t), some (.int p), some (.int s), some (.int k), some (.int i), l12] [] h2 Q) ∧ (∀ (h2 : ez_H) (n : Int32) (r : Int32) (t : Int32) (p : Int32) (s : Int32) (k : Int32) (i : Int32) (j : Int32) (W : Nat → Int), zG (fun _ => False) (fun q => 110 ≤ q ∧ q ≤ 114 ∨ q = w) h h2 → (2 ≤ n.toInt ∧ n.toInt ≤ al.toInt ∧ n.toInt ≤ r.toInt ∧ r.toInt ≤ 2 * n.toInt - 1 ∧ 1 ≤ t.toInt ∧ t.toInt < li.toInt ∧ 0 ≤ i.toInt ∧ i.toInt < r.toInt ∧ 0 ≤ j.toInt ∧ j.toInt ≤ n.toInt ∧ r.toInt = (rz n.toInt.toNat ((t.toInt.toNat - 1) + 1) : Nat)) → aR (ez_I h2 w) al.toInt.toNat 0 0 → syI (ez_I h2 110) n.toInt.toNat al.toInt.toNat → soS (kyf (ez_I h u) (ez_I h2 110)) n.toInt.toNat → cP (ez_I h u) (ez_I h2 110) n.toInt.toNat al.toInt.toNat → wwI W (ez_I h u) (ez_I h2 110) n.toInt.toNat → (∀ i, n.toInt.toNat ≤ i → W i = 0) → ((∀ j, j < n.toInt.toNat → 0 ≤ W j) ∧ sm W n.toInt.toNat ≤ 100000000) → eH n.toInt r.toInt (t.toInt + 1) → hQ (ez_I h2 114) n.toInt.toNat r.toInt.toNat (fun _ => t.toInt + 1) → cpI (ez_I h2 113) (ez_I h2 114) n.toInt.toNat i.toInt.toNat → wlI (ez_I h2 112) (LL W n.toInt.toNat ((t.toInt.toNat - 1) + 1)) r.toInt.toNat → rfI (ez_I h2 114) n.toInt.toNat r.toInt.toNat (FF W n.toInt.toNat ((t.toInt.toNat - 1) + 1)) → cp1 (ez_I h2 111) (ez_I h2 112) (i.toInt.toNat + 1) → cpR (ez_I h2 113) (ez_I h2 114) i.toInt.toNat j.toInt.toNat → ((1000000 * (20 - t.toInt)) - 500000 + 400 * (700 - i.toInt) - 350 + (300 - j.toInt)) < (N : Int) → pw E (d + 1) 36 386 [some (.ref 71), some (.ref u), some (.int al), some (.int li), some (.ref w), some (.int n), some (.int r), some (.int t), some (.int p), some (.int s), some (.int k), some (.int i), some (.int j)] [] h2 Q) := by
  intro N
  induction N with
  | zero => exact ⟨fun h2 n r t l8 l9 l10 l11 l12 W F hinv A_to A_sy A_so A_cn A_ww A_wz A_wb A_eh A_hq A_wl A_rf hm => absurd hm (by have w_n := z_rng n; have w_r := z_rng r; have w_t := z_rng t; have gal := z_rng al; have gli := z_rng li; omega), fun h2 n r t p s k l11 l12 W F hinv A_to A_sy A_so A_cn A_ww A_wz A_wb A_eh A_hq A_tq A_wl A_rf A_wn A_rn hm => absurd hm (by have w_n := z_rng n; have w_r := z_rng r; have w_t := z_rng t; have w_p := z_rng p; have w_s := z_rng s; have w_k := z_rng k; have gal := z_rng al; have gli := z_rng li; omega), fun h2 n r t p s k i l12 W F hinv A_to A_sy A_so A_cn A_ww A_wz A_wb A_eh A_hg A_cp A_wn A_rg A_wc hm => absurd hm (by have w_n := z_rng n; have w_r := z_rng r; have w_t := z_rng t; have w_p := z_rng p; have w_s := z_rng s; have w_k := z_rng k; have w_i := z_rng i; have gal := z_rng al; have gli := z_rng li; omega), fun h2 n r t p s k i j W F hinv A_to A_sy A_so A_cn A_ww A_wz A_wb A_eh A_hg A_cp A_wn A_rg A_wc A_cr hm => absurd hm (by have w_n := z_rng n; have w_r := z_rng r; have w_t := z_rng t; have w_p := z_rng p; have w_s := z_rng s; have w_k := z_rng k; have w_i := z_rng i; have w_j := z_rng j; have gal := z_rng al; have gli := z_rng li; omega)⟩
  | succ N ih =>
    refine ⟨fun h2 n r t l8 l9 l10 l11 l12 W F hinv A_to A_sy A_so A_cn A_ww A_wz A_wb A_eh A_hq A_wl A_rf hm => ?_, fun h2 n r t p s k l11 l12 W F hinv A_to A_sy A_so A_cn A_ww A_wz A_wb A_eh A_hq A_tq A_wl A_rf A_wn A_rn hm => ?_, fun h2 n r t p s k i l12 W F hinv A_to A_sy A_so A_cn A_ww A_wz A_wb A_eh A_hg A_cp A_wn A_rg A_wc hm => ?_, fun h2 n r t p s k i j W F hinv A_to A_sy A_so A_cn A_ww A_wz A_wb A_eh A_hg A_cp A_wn A_rg A_wc A_cr hm => ?_⟩
    · skip
      have w_n := z_rng n
      have w_r := z_rng r
      have w_t := z_rng t
      have gal := z_rng al
      have gli := z_rng li
      have S2 := zG_sh F S
      have hz : rz n.toInt.toNat ((t.toInt.toNat - 1) + 1) = n.toInt.toNat + rz n.toInt.toNat (t.toInt.toNat - 1) / 2 := rfl
      apply ez_Wp_in
      show ez_gw _ _ _ _ _ _ (cz_36) _ _ _ _ _
      refine gw_skip _ ?_
      refine gw_ld rfl rfl ?_
      refine gw_ld rfl rfl ?_
      refine z_b2 (fun c1 => ?_) (fun c1 => ?_)
      · have c1 : li.toInt ≤ t.toInt := c1
        refine gw_skip _ ?_
        refine z_C (m := 0) rfl rfl (fun x2 ex2 => ?_)
        refine gw_st rfl rfl rfl ?_
        show ez_gw _ _ _ _ _ _ _ _ [some (.ref 71), some (.ref u), some (.int al), some (.int li), some (.ref w), some (.int n), some (.int r), some (.int x2), l8, l9, l10, l11, l12] _ _ _
        exact ez_Wp_at ((m_lenF_L3 (u := u) (al := al) (li := li) (w := w) S hu hw hd hn hl hU hmx hmB hP K (((1000 * (1000 - x2.toInt))).toNat + 1)).1 h2 n r x2 (l8) (l9) (l10) (l11) (l12) W F (by omega) A_sy A_so A_cn A_ww A_wz A_wb ((by rw [show li.toInt = t.toInt by omega]; exact A_eh)) ((by rw [show li.toInt = t.toInt by omega]; exact A_hq)) ((by rw [show li.toInt.toNat = t.toInt.toNat by omega]; exact A_rf)) (fI_0 A_to A_sy (by omega) (by omega) rfl) (by omega)) rfl
      · have c1 : ¬ (li.toInt ≤ t.toInt) := c1
        refine z_C (m := 0) rfl rfl (fun x3 ex3 => ?_)
        refine gw_st rfl rfl rfl ?_
        show ez_gw _ _ _ _ _ _ _ _ [some (.ref 71), some (.ref u), some (.int al), some (.int li), some (.ref w), some (.int n), some (.int r), some (.int t), some (.int x3), l9, l10, l11, l12] _ _ _
        refine z_C (m := 0) rfl rfl (fun x4 ex4 => ?_)
        refine gw_st rfl rfl rfl ?_
        show ez_gw _ _ _ _ _ _ _ _ [some (.ref 71), some (.ref u), some (.int al), some (.int li), some (.ref w), some (.int n), some (.int r), some (.int t), some (.int x3), some (.int x4), l10, l11, l12] _ _ _
        refine z_C (m := 0) rfl rfl (fun x5 ex5 => ?_)
        refine gw_st rfl rfl rfl ?_
        show ez_gw _ _ _ _ _ _ _ _ [some (.ref 71), some (.ref u), some (.int al), some (.int li), some (.ref w), some (.int n), some (.int r), some (.int t), some (.int x3), some (.int x4), some (.int x5), l11, l12] _ _ _
        exact ez_Wp_at (ih.2.1 h2 n r t x3 x4 x5 (l11) (l12) W F (by rw [show x5.toInt.toNat = 0 by omega]; have hx0 : xs1 W (LL W n.toInt.toNat (t.toInt.toNat - 1)) n.toInt.toNat (rz n.toInt.toNat (t.toInt.toNat - 1)) 0 = 0 := rfl; omega) A_to A_sy A_so A_cn A_ww A_wz A_wb A_eh A_hq (tQ_0 (by omega) (by omega) (by omega)) A_wl A_rf ((by rw [show x5.toInt.toNat = 0 by omega]; exact fun i hi => by omega)) (rfI_0 (by omega) (fun j => FF_0 _ _ _ _)) (by omega)) rfl
    · skip
      have w_n := z_rng n
      have w_r := z_rng r
      have w_t := z_rng t
      have w_p := z_rng p
      have w_s := z_rng s
      have w_k := z_rng k
      have gal := z_rng al
      have gli := z_rng li
      have S2 := zG_sh F S
      have hz : rz n.toInt.toNat ((t.toInt.toNat - 1) + 1) = n.toInt.toNat + rz n.toInt.toNat (t.toInt.toNat - 1) / 2 := rfl
      have hpr : p.toInt + 1 < r.toInt → _ := fun q => LL_pr A_wb.1 A_wb.2 (t := (t.toInt.toNat - 1)) (p := p.toInt.toNat) (by omega)
      apply ez_Wp_in
      show ez_gw _ _ _ _ _ _ (cz_36) _ _ _ _ _
      refine gw_skip _ ?_
      refine gw_ld rfl rfl ?_
      refine z_C (m := 1) rfl rfl (fun x6 ex6 => ?_)
      refine z_add (by omega) (fun x7 ex7 => ?_)
      refine gw_ld rfl rfl ?_
      refine z_b2 (fun c8 => ?_) (fun c8 => ?_)
      · have c8 : x7.toInt < r.toInt := c8
        refine gw_skip _ ?_
        refine gw_ld rfl rfl ?_
        refine gw_ld rfl rfl ?_
        refine z_b2 (fun c9 => ?_) (fun c9 => ?_)
        · have c9 : n.toInt ≤ s.toInt := c9
          refine gw_skip _ ?_
          refine z_C (m := 0) rfl rfl (fun x10 ex10 => ?_)
          refine gw_st rfl rfl rfl ?_
          show ez_gw _ _ _ _ _ _ _ _ [some (.ref 71), some (.ref u), some (.int al), some (.int li), some (.ref w), some (.int n), some (.int r), some (.int t), some (.int p), some (.int s), some (.int k), some (.int x10), l12] _ _ _
          refine gw_ld rfl rfl ?_
          refine z_b1 (fun c11 => ?_) (fun c11 => ?_)
          · have c11 : x10.toInt = 0 := c11
            refine gw_skip _ ?_
            refine gw_ld rfl rfl ?_
            refine gw_ld rfl rfl ?_
            refine gw_ld rfl rfl ?_
            refine gw_ld rfl rfl ?_
            refine z_gR (q := 111) (zT S2 (by decide) rfl) (zRf S2 (by decide) (by decide) rfl) (by decide) ?_
            refine gw_ld rfl rfl ?_
            refine z_ia (n := 600) (zT S2 (by decide) rfl) (zN S2 (by decide) rfl) (by omega) ?_
            generalize ex12 : ez_I h2 111 p.toInt.toNat = x12
            have rx12 := z_rng x12
            have qx12 := A_wl p.toInt.toNat (by omega)
            rw [ex12] at qx12
            refine gw_ld rfl rfl ?_
            refine z_gR (q := 111) (zT S2 (by decide) rfl) (zRf S2 (by decide) (by decide) rfl) (by decide) ?_
            refine gw_ld rfl rfl ?_
            refine z_C (m := 1) rfl rfl (fun x13 ex13 => ?_)
            refine z_add (by omega) (fun x14 ex14 => ?_)
            refine z_ia (n := 600) (zT S2 (by decide) rfl) (zN S2 (by decide) rfl) (by omega) ?_
            generalize ex15 : ez_I h2 111 x14.toInt.toNat = x15
            have rx15 := z_rng x15
            have qx15 := A_wl x14.toInt.toNat (by omega)
            rw [ex15, show x14.toInt.toNat = p.toInt.toNat + 1 by omega] at qx15
            have hprx15 := hpr (by omega)
            refine z_add (by omega) (fun x16 ex16 => ?_)
            refine gw_ld rfl rfl ?_
            refine gw_ld rfl rfl ?_
            refine z_C (m := 1) rfl rfl (fun x17 ex17 => ?_)
            refine z_add (by omega) (fun x18 ex18 => ?_)
            refine z_C (m := -1) rfl rfl (fun x19 ex19 => ?_)
            refine z_cl rfl rfl rfl rfl rfl rfl rfl rfl rfl rfl rfl (zT S2 (by decide) rfl) ?_
            have hsg23 : ¬ sgl W (LL W n.toInt.toNat (t.toInt.toNat - 1)) n.toInt.toNat (rz n.toInt.toNat (t.toInt.toNat - 1)) s.toInt.toNat p.toInt.toNat := fun c => by first | (have := c.1; omega) | (rcases c.2 with q | q <;> omega)
            have hx23 : xs1 W (LL W n.toInt.toNat (t.toInt.toNat - 1)) n.toInt.toNat (rz n.toInt.toNat (t.toInt.toNat - 1)) (k.toInt.toNat + 1) = s.toInt.toNat := xs1_n (by omega) (by omega) hsg23
            refine m_ppF (k := k) (n := n) (w := x16) (a := p) (b := x18) (o := x19) S2 (by omega) (fun _ j hj => by first | exact ⟨(fun z => ⟨z.1, by omega⟩) (hQ_ent A_hq (by omega) hj), (fun z => ⟨z.1, by omega⟩) (hQ_ent A_hq (by omega) hj)⟩) (fun h20 F21 k22 k23 => ?_)
            have S24 := zG_sh F21 S2
            have F25 := zG_tr F (zG_mono F21 (fun k hk => by first | omega | exact False.elim hk) (fun k hk => by first | omega | exact False.elim hk))
            have A26 : aR (ez_I h20 w) al.toInt.toNat 0 0 := by rw [zG_fn F21 w (by omega) (by first | omega | exact fun c => c)]; exact A_to
            have A27 : syI (ez_I h20 110) n.toInt.toNat al.toInt.toNat := by rw [zG_fn F21 110 (by decide) (by first | omega | exact fun c => c)]; exact A_sy
            have A28 : soS (kyf (ez_I h u) (ez_I h20 110)) n.toInt.toNat := by rw [zG_fn F21 110 (by decide) (by first | omega | exact fun c => c)]; exact A_so
            have A29 : cP (ez_I h u) (ez_I h20 110) n.toInt.toNat al.toInt.toNat := by rw [zG_fn F21 110 (by decide) (by first | omega | exact fun c => c)]; exact A_cn
            have A30 : wwI W (ez_I h u) (ez_I h20 110) n.toInt.toNat := by rw [zG_fn F21 110 (by decide) (by first | omega | exact fun c => c)]; exact A_ww
            have A31 : (∀ i, n.toInt.toNat ≤ i → W i = 0) := by rw []; exact A_wz
            have A32 : ((∀ j, j < n.toInt.toNat → 0 ≤ W j) ∧ sm W n.toInt.toNat ≤ 100000000) := by rw []; exact A_wb
            have A33 : eH n.toInt r.toInt t.toInt := by rw []; exact A_eh
            have A34 : hQ (ez_I h20 113) n.toInt.toNat r.toInt.toNat (fun _ => t.toInt) := by rw [zG_fn F21 113 (by decide) (by first | omega | exact fun c => c)]; exact A_hq
            have A35 : wlI (ez_I h20 111) (LL W n.toInt.toNat (t.toInt.toNat - 1)) r.toInt.toNat := by rw [zG_fn F21 111 (by decide) (by first | omega | exact fun c => c)]; exact A_wl
            have A36 : rfI (ez_I h20 113) n.toInt.toNat r.toInt.toNat (FF W n.toInt.toNat (t.toInt.toNat - 1)) := by rw [zG_fn F21 113 (by decide) (by first | omega | exact fun c => c)]; exact A_rf
            have A37 : tQ (ez_I h20 114) (ez_I h20 113) n.toInt.toNat (k.toInt.toNat + 1) s.toInt (p.toInt + 2) := by rw [zG_fn F21 113 (by decide) (by omega)]; exact tQ_p A_tq k22 A_hq (by omega) (by omega) (by omega) (by omega) (by omega) (by omega) (by omega)
            have A39 : rfI (ez_I h20 114) n.toInt.toNat (k.toInt.toNat + 1) (FF W n.toInt.toNat ((t.toInt.toNat - 1) + 1)) := rfI_p A_rn k22 A_rf (by omega) (by show _ = xs1 _ _ _ _ _; omega) (by omega) hsg23 (by omega) (by omega) (by omega) (by omega) (by omega) rfl
            have A38 : wlI (ez_I h20 112) (LL W n.toInt.toNat ((t.toInt.toNat - 1) + 1)) (k.toInt.toNat + 1) := wlI_pp A_wn k23 ((show _ = LL W n.toInt.toNat (t.toInt.toNat - 1) p.toInt.toNat + LL W n.toInt.toNat (t.toInt.toNat - 1) (p.toInt.toNat + 1) by omega).trans (nxL_n (by omega) (by omega) hsg23).symm) rfl
            refine z_inc rfl (by rw [show (2 : Int32).toInt = 2 from rfl]; omega) (fun x40 ex40 => ?_)
            rw [show (2 : Int32).toInt = 2 from rfl] at ex40
            show ez_gw _ _ _ _ _ _ _ _ [some (.ref 71), some (.ref u), some (.int al), some (.int li), some (.ref w), some (.int n), some (.int r), some (.int t), some (.int x40), some (.int s), some (.int k), some (.int x10), l12] _ _ _
            refine z_inc rfl (by rw [show (1 : Int32).toInt = 1 from rfl]; omega) (fun x41 ex41 => ?_)
            rw [show (1 : Int32).toInt = 1 from rfl] at ex41
            show ez_gw _ _ _ _ _ _ _ _ [some (.ref 71), some (.ref u), some (.int al), some (.int li), some (.ref w), some (.int n), some (.int r), some (.int t), some (.int x40), some (.int s), some (.int x41), some (.int x10), l12] _ _ _
            refine z_go ?_
            exact ih.2.1 h20 n r t x40 s x41 (some (.int x10)) (l12) W F25 (by rw [show x41.toInt.toNat = k.toInt.toNat + 1 by omega]; omega) A26 A27 A28 A29 A30 A31 A32 A33 A34 ((by rw [show x41.toInt.toNat = k.toInt.toNat + 1 by omega, show x40.toInt = p.toInt + 2 by omega]; exact A37)) A35 A36 ((by rw [show x41.toInt.toNat = (k.toInt.toNat + 1) by omega]; exact A38)) ((by rw [show x41.toInt.toNat = (k.toInt.toNat + 1) by omega]; exact A39)) (by omega)
          · have c11 : ¬ (x10.toInt = 0) := c11
            exfalso; omega
        · have c9 : ¬ (n.toInt ≤ s.toInt) := c9
          refine gw_ld rfl rfl ?_
          refine z_C (m := 1) rfl rfl (fun x42 ex42 => ?_)
          refine z_add (by omega) (fun x43 ex43 => ?_)
          refine gw_ld rfl rfl ?_
          refine z_b2 (fun c44 => ?_) (fun c44 => ?_)
          · have c44 : r.toInt ≤ x43.toInt := c44
            refine gw_skip _ ?_
            refine z_C (m := 1) rfl rfl (fun x45 ex45 => ?_)
            refine z_go ?_
            refine gw_skip _ ?_
            refine gw_st rfl rfl rfl ?_
            show ez_gw _ _ _ _ _ _ _ _ [some (.ref 71), some (.ref u), some (.int al), some (.int li), some (.ref w), some (.int n), some (.int r), some (.int t), some (.int p), some (.int s), some (.int k), some (.int x45), l12] _ _ _
            refine gw_ld rfl rfl ?_
            refine z_b1 (fun c46 => ?_) (fun c46 => ?_)
            · have c46 : x45.toInt = 0 := c46
              exfalso; omega
            · have c46 : ¬ (x45.toInt = 0) := c46
              refine gw_ld rfl rfl ?_
              refine gw_ld rfl rfl ?_
              refine gw_ld rfl rfl ?_
              refine gw_ld rfl rfl ?_
              refine gw_ld rfl rfl ?_
              refine z_gR (q := 110) (zT S2 (by decide) rfl) (zRf S2 (by decide) (by decide) rfl) (by decide) ?_
              refine gw_ld rfl rfl ?_
              refine z_ia (n := 288) (zT S2 (by decide) rfl) (zN S2 (by decide) rfl) (by omega) ?_
              generalize ex47 : ez_I h2 110 s.toInt.toNat = x47
              have rx47 := z_rng x47
              have yx47 := (A_sy s.toInt.toNat (by omega)).1
              rw [ex47] at yx47
              refine z_iaV (n := nu) ((hu _ S2).1) ((hu _ S2).2) (by omega) (zG_a F (by omega) (by omega)) ?_
              generalize ex48 : ez_I h u x47.toInt.toNat = x48
              have rx48 := z_rng x48
              have qx48 := wwI_at A_ww ex47 ex48 (by omega)
              have ux48 := hU x47.toInt.toNat (by omega)
              rw [ex48] at ux48
              refine z_C (m := 0) rfl rfl (fun x49 ex49 => ?_)
              refine z_C (m := 0) rfl rfl (fun x50 ex50 => ?_)
              refine gw_ld rfl rfl ?_
              refine z_cl rfl rfl rfl rfl rfl rfl rfl rfl rfl rfl rfl (zT S2 (by decide) rfl) ?_
              have hsg54 : sgl W (LL W n.toInt.toNat (t.toInt.toNat - 1)) n.toInt.toNat (rz n.toInt.toNat (t.toInt.toNat - 1)) s.toInt.toNat p.toInt.toNat := ⟨by omega, by first | exact .inl (by omega) | exact .inr (by omega)⟩
              have hx54 : xs1 W (LL W n.toInt.toNat (t.toInt.toNat - 1)) n.toInt.toNat (rz n.toInt.toNat (t.toInt.toNat - 1)) (k.toInt.toNat + 1) = s.toInt.toNat + 1 := xs1_y (by omega) (by omega) hsg54
              refine m_ppF (k := k) (n := n) (w := x48) (a := x49) (b := x50) (o := s) S2 (by omega) (fun q => absurd q (by omega)) (fun h51 F52 k53 k54 => ?_)
              have S55 := zG_sh F52 S2
              have F56 := zG_tr F (zG_mono F52 (fun k hk => by first | omega | exact False.elim hk) (fun k hk => by first | omega | exact False.elim hk))
              have A57 : aR (ez_I h51 w) al.toInt.toNat 0 0 := by rw [zG_fn F52 w (by omega) (by first | omega | exact fun c => c)]; exact A_to
              have A58 : syI (ez_I h51 110) n.toInt.toNat al.toInt.toNat := by rw [zG_fn F52 110 (by decide) (by first | omega | exact fun c => c)]; exact A_sy
              have A59 : soS (kyf (ez_I h u) (ez_I h51 110)) n.toInt.toNat := by rw [zG_fn F52 110 (by decide) (by first | omega | exact fun c => c)]; exact A_so
              have A60 : cP (ez_I h u) (ez_I h51 110) n.toInt.toNat al.toInt.toNat := by rw [zG_fn F52 110 (by decide) (by first | omega | exact fun c => c)]; exact A_cn
              have A61 : wwI W (ez_I h u) (ez_I h51 110) n.toInt.toNat := by rw [zG_fn F52 110 (by decide) (by first | omega | exact fun c => c)]; exact A_ww
              have A62 : (∀ i, n.toInt.toNat ≤ i → W i = 0) := by rw []; exact A_wz
              have A63 : ((∀ j, j < n.toInt.toNat → 0 ≤ W j) ∧ sm W n.toInt.toNat ≤ 100000000) := by rw []; exact A_wb
              have A64 : eH n.toInt r.toInt t.toInt := by rw []; exact A_eh
              have A65 : hQ (ez_I h51 113) n.toInt.toNat r.toInt.toNat (fun _ => t.toInt) := by rw [zG_fn F52 113 (by decide) (by first | omega | exact fun c => c)]; exact A_hq
              have A66 : wlI (ez_I h51 111) (LL W n.toInt.toNat (t.toInt.toNat - 1)) r.toInt.toNat := by rw [zG_fn F52 111 (by decide) (by first | omega | exact fun c => c)]; exact A_wl
              have A67 : rfI (ez_I h51 113) n.toInt.toNat r.toInt.toNat (FF W n.toInt.toNat (t.toInt.toNat - 1)) := by rw [zG_fn F52 113 (by decide) (by first | omega | exact fun c => c)]; exact A_rf
              have A68 : tQ (ez_I h51 114) (ez_I h51 113) n.toInt.toNat (k.toInt.toNat + 1) (s.toInt + 1) p.toInt := by rw [zG_fn F52 113 (by decide) (by omega)]; exact tQ_s A_tq k53 (by omega) (by omega) (by omega) (by omega)
              have A70 : rfI (ez_I h51 114) n.toInt.toNat (k.toInt.toNat + 1) (FF W n.toInt.toNat ((t.toInt.toNat - 1) + 1)) := rfI_s A_rn k53 (by omega) (by show _ = xs1 _ _ _ _ _; omega) (by omega) hsg54 (by omega) (by omega) rfl
              have A69 : wlI (ez_I h51 112) (LL W n.toInt.toNat ((t.toInt.toNat - 1) + 1)) (k.toInt.toNat + 1) := wlI_pp A_wn k54 ((show _ = W s.toInt.toNat by omega).trans (nxL_y (by omega) (by omega) hsg54).symm) rfl
              refine z_inc rfl (by rw [show (1 : Int32).toInt = 1 from rfl]; omega) (fun x71 ex71 => ?_)
              rw [show (1 : Int32).toInt = 1 from rfl] at ex71
              show ez_gw _ _ _ _ _ _ _ _ [some (.ref 71), some (.ref u), some (.int al), some (.int li), some (.ref w), some (.int n), some (.int r), some (.int t), some (.int p), some (.int x71), some (.int k), some (.int x45), l12] _ _ _
              refine z_go ?_
              refine gw_skip _ ?_
              refine z_inc rfl (by rw [show (1 : Int32).toInt = 1 from rfl]; omega) (fun x72 ex72 => ?_)
              rw [show (1 : Int32).toInt = 1 from rfl] at ex72
              show ez_gw _ _ _ _ _ _ _ _ [some (.ref 71), some (.ref u), some (.int al), some (.int li), some (.ref w), some (.int n), some (.int r), some (.int t), some (.int p), some (.int x71), some (.int x72), some (.int x45), l12] _ _ _
              refine z_go ?_
              exact ih.2.1 h51 n r t p x71 x72 (some (.int x45)) (l12) W F56 (by rw [show x72.toInt.toNat = k.toInt.toNat + 1 by omega]; omega) A57 A58 A59 A60 A61 A62 A63 A64 A65 ((by rw [show x72.toInt.toNat = k.toInt.toNat + 1 by omega, show x71.toInt = s.toInt + 1 by omega]; exact A68)) A66 A67 ((by rw [show x72.toInt.toNat = (k.toInt.toNat + 1) by omega]; exact A69)) ((by rw [show x72.toInt.toNat = (k.toInt.toNat + 1) by omega]; exact A70)) (by omega)
          · have c44 : ¬ (r.toInt ≤ x43.toInt) := c44
            refine gw_ld rfl rfl ?_
            refine gw_ld rfl rfl ?_
            refine z_gR (q := 110) (zT S2 (by decide) rfl) (zRf S2 (by decide) (by decide) rfl) (by decide) ?_
            refine gw_ld rfl rfl ?_
            refine z_ia (n := 288) (zT S2 (by decide) rfl) (zN S2 (by decide) rfl) (by omega) ?_
            generalize ex73 : ez_I h2 110 s.toInt.toNat = x73
            have rx73 := z_rng x73
            have yx73 := (A_sy s.toInt.toNat (by omega)).1
            rw [ex73] at yx73
            refine z_iaV (n := nu) ((hu _ S2).1) ((hu _ S2).2) (by omega) (zG_a F (by omega) (by omega)) ?_
            generalize ex74 : ez_I h u x73.toInt.toNat = x74
            have rx74 := z_rng x74
            have qx74 := wwI_at A_ww ex73 ex74 (by omega)
            have ux74 := hU x73.toInt.toNat (by omega)
            rw [ex74] at ux74
            refine gw_ld rfl rfl ?_
            refine z_gR (q := 111) (zT S2 (by decide) rfl) (zRf S2 (by decide) (by decide) rfl) (by decide) ?_
            refine gw_ld rfl rfl ?_
            refine z_ia (n := 600) (zT S2 (by decide) rfl) (zN S2 (by decide) rfl) (by omega) ?_
            generalize ex75 : ez_I h2 111 p.toInt.toNat = x75
            have rx75 := z_rng x75
            have qx75 := A_wl p.toInt.toNat (by omega)
            rw [ex75] at qx75
            refine gw_ld rfl rfl ?_
            refine z_gR (q := 111) (zT S2 (by decide) rfl) (zRf S2 (by decide) (by decide) rfl) (by decide) ?_
            refine gw_ld rfl rfl ?_
            refine z_C (m := 1) rfl rfl (fun x76 ex76 => ?_)
            refine z_add (by omega) (fun x77 ex77 => ?_)
            refine z_ia (n := 600) (zT S2 (by decide) rfl) (zN S2 (by decide) rfl) (by omega) ?_
            generalize ex78 : ez_I h2 111 x77.toInt.toNat = x78
            have rx78 := z_rng x78
            have qx78 := A_wl x77.toInt.toNat (by omega)
            rw [ex78, show x77.toInt.toNat = p.toInt.toNat + 1 by omega] at qx78
            have hprx78 := hpr (by omega)
            refine z_add (by omega) (fun x79 ex79 => ?_)
            refine z_b2 (fun c80 => ?_) (fun c80 => ?_)
            · have c80 : x79.toInt < x74.toInt := c80
              refine gw_skip _ ?_
              refine z_C (m := 0) rfl rfl (fun x81 ex81 => ?_)
              refine gw_st rfl rfl rfl ?_
              show ez_gw _ _ _ _ _ _ _ _ [some (.ref 71), some (.ref u), some (.int al), some (.int li), some (.ref w), some (.int n), some (.int r), some (.int t), some (.int p), some (.int s), some (.int k), some (.int x81), l12] _ _ _
              refine gw_ld rfl rfl ?_
              refine z_b1 (fun c82 => ?_) (fun c82 => ?_)
              · have c82 : x81.toInt = 0 := c82
                refine gw_skip _ ?_
                refine gw_ld rfl rfl ?_
                refine gw_ld rfl rfl ?_
                refine gw_ld rfl rfl ?_
                refine gw_ld rfl rfl ?_
                refine z_gR (q := 111) (zT S2 (by decide) rfl) (zRf S2 (by decide) (by decide) rfl) (by decide) ?_
                refine gw_ld rfl rfl ?_
                refine z_iaV (n := 600) (zT S2 (by decide) rfl) (zN S2 (by decide) rfl) (by omega) ex75 ?_
                refine gw_ld rfl rfl ?_
                refine z_gR (q := 111) (zT S2 (by decide) rfl) (zRf S2 (by decide) (by decide) rfl) (by decide) ?_
                refine gw_ld rfl rfl ?_
                refine z_C (m := 1) rfl rfl (fun x84 ex84 => ?_)
                refine z_add (by omega) (fun x85 ex85 => ?_)
                refine z_ia (n := 600) (zT S2 (by decide) rfl) (zN S2 (by decide) rfl) (by omega) ?_
                generalize ex86 : ez_I h2 111 x85.toInt.toNat = x86
                have rx86 := z_rng x86
                have qx86 := A_wl x85.toInt.toNat (by omega)
                rw [ex86, show x85.toInt.toNat = p.toInt.toNat + 1 by omega] at qx86
                have hprx86 := hpr (by omega)
                refine z_add (by omega) (fun x87 ex87 => ?_)
                refine gw_ld rfl rfl ?_
                refine gw_ld rfl rfl ?_
                refine z_C (m := 1) rfl rfl (fun x88 ex88 => ?_)
                refine z_add (by omega) (fun x89 ex89 => ?_)
                refine z_C (m := -1) rfl rfl (fun x90 ex90 => ?_)
                refine z_cl rfl rfl rfl rfl rfl rfl rfl rfl rfl rfl rfl (zT S2 (by decide) rfl) ?_
                have hsg94 : ¬ sgl W (LL W n.toInt.toNat (t.toInt.toNat - 1)) n.toInt.toNat (rz n.toInt.toNat (t.toInt.toNat - 1)) s.toInt.toNat p.toInt.toNat := fun c => by first | (have := c.1; omega) | (rcases c.2 with q | q <;> omega)
                have hx94 : xs1 W (LL W n.toInt.toNat (t.toInt.toNat - 1)) n.toInt.toNat (rz n.toInt.toNat (t.toInt.toNat - 1)) (k.toInt.toNat + 1) = s.toInt.toNat := xs1_n (by omega) (by omega) hsg94
                refine m_ppF (k := k) (n := n) (w := x87) (a := p) (b := x89) (o := x90) S2 (by omega) (fun _ j hj => by first | exact ⟨(fun z => ⟨z.1, by omega⟩) (hQ_ent A_hq (by omega) hj), (fun z => ⟨z.1, by omega⟩) (hQ_ent A_hq (by omega) hj)⟩) (fun h91 F92 k93 k94 => ?_)
                have S95 := zG_sh F92 S2
                have F96 := zG_tr F (zG_mono F92 (fun k hk => by first | omega | exact False.elim hk) (fun k hk => by first | omega | exact False.elim hk))
                have A97 : aR (ez_I h91 w) al.toInt.toNat 0 0 := by rw [zG_fn F92 w (by omega) (by first | omega | exact fun c => c)]; exact A_to
                have A98 : syI (ez_I h91 110) n.toInt.toNat al.toInt.toNat := by rw [zG_fn F92 110 (by decide) (by first | omega | exact fun c => c)]; exact A_sy
                have A99 : soS (kyf (ez_I h u) (ez_I h91 110)) n.toInt.toNat := by rw [zG_fn F92 110 (by decide) (by first | omega | exact fun c => c)]; exact A_so
                have A100 : cP (ez_I h u) (ez_I h91 110) n.toInt.toNat al.toInt.toNat := by rw [zG_fn F92 110 (by decide) (by first | omega | exact fun c => c)]; exact A_cn
                have A101 : wwI W (ez_I h u) (ez_I h91 110) n.toInt.toNat := by rw [zG_fn F92 110 (by decide) (by first | omega | exact fun c => c)]; exact A_ww
                have A102 : (∀ i, n.toInt.toNat ≤ i → W i = 0) := by rw []; exact A_wz
                have A103 : ((∀ j, j < n.toInt.toNat → 0 ≤ W j) ∧ sm W n.toInt.toNat ≤ 100000000) := by rw []; exact A_wb
                have A104 : eH n.toInt r.toInt t.toInt := by rw []; exact A_eh
                have A105 : hQ (ez_I h91 113) n.toInt.toNat r.toInt.toNat (fun _ => t.toInt) := by rw [zG_fn F92 113 (by decide) (by first | omega | exact fun c => c)]; exact A_hq
                have A106 : wlI (ez_I h91 111) (LL W n.toInt.toNat (t.toInt.toNat - 1)) r.toInt.toNat := by rw [zG_fn F92 111 (by decide) (by first | omega | exact fun c => c)]; exact A_wl
                have A107 : rfI (ez_I h91 113) n.toInt.toNat r.toInt.toNat (FF W n.toInt.toNat (t.toInt.toNat - 1)) := by rw [zG_fn F92 113 (by decide) (by first | omega | exact fun c => c)]; exact A_rf
                have A108 : tQ (ez_I h91 114) (ez_I h91 113) n.toInt.toNat (k.toInt.toNat + 1) s.toInt (p.toInt + 2) := by rw [zG_fn F92 113 (by decide) (by omega)]; exact tQ_p A_tq k93 A_hq (by omega) (by omega) (by omega) (by omega) (by omega) (by omega) (by omega)
                have A110 : rfI (ez_I h91 114) n.toInt.toNat (k.toInt.toNat + 1) (FF W n.toInt.toNat ((t.toInt.toNat - 1) + 1)) := rfI_p A_rn k93 A_rf (by omega) (by show _ = xs1 _ _ _ _ _; omega) (by omega) hsg94 (by omega) (by omega) (by omega) (by omega) (by omega) rfl
                have A109 : wlI (ez_I h91 112) (LL W n.toInt.toNat ((t.toInt.toNat - 1) + 1)) (k.toInt.toNat + 1) := wlI_pp A_wn k94 ((show _ = LL W n.toInt.toNat (t.toInt.toNat - 1) p.toInt.toNat + LL W n.toInt.toNat (t.toInt.toNat - 1) (p.toInt.toNat + 1) by omega).trans (nxL_n (by omega) (by omega) hsg94).symm) rfl
                refine z_inc rfl (by rw [show (2 : Int32).toInt = 2 from rfl]; omega) (fun x111 ex111 => ?_)
                rw [show (2 : Int32).toInt = 2 from rfl] at ex111
                show ez_gw _ _ _ _ _ _ _ _ [some (.ref 71), some (.ref u), some (.int al), some (.int li), some (.ref w), some (.int n), some (.int r), some (.int t), some (.int x111), some (.int s), some (.int k), some (.int x81), l12] _ _ _
                refine z_inc rfl (by rw [show (1 : Int32).toInt = 1 from rfl]; omega) (fun x112 ex112 => ?_)
                rw [show (1 : Int32).toInt = 1 from rfl] at ex112
                show ez_gw _ _ _ _ _ _ _ _ [some (.ref 71), some (.ref u), some (.int al), some (.int li), some (.ref w), some (.int n), some (.int r), some (.int t), some (.int x111), some (.int s), some (.int x112), some (.int x81), l12] _ _ _
                refine z_go ?_
                exact ih.2.1 h91 n r t x111 s x112 (some (.int x81)) (l12) W F96 (by rw [show x112.toInt.toNat = k.toInt.toNat + 1 by omega]; omega) A97 A98 A99 A100 A101 A102 A103 A104 A105 ((by rw [show x112.toInt.toNat = k.toInt.toNat + 1 by omega, show x111.toInt = p.toInt + 2 by omega]; exact A108)) A106 A107 ((by rw [show x112.toInt.toNat = (k.toInt.toNat + 1) by omega]; exact A109)) ((by rw [show x112.toInt.toNat = (k.toInt.toNat + 1) by omega]; exact A110)) (by omega)
              · have c82 : ¬ (x81.toInt = 0) := c82
                exfalso; omega
            · have c80 : ¬ (x79.toInt < x74.toInt) := c80
              refine z_C (m := 1) rfl rfl (fun x113 ex113 => ?_)
              refine z_go ?_
              refine gw_skip _ ?_
              refine gw_st rfl rfl rfl ?_
              show ez_gw _ _ _ _ _ _ _ _ [some (.ref 71), some (.ref u), some (.int al), some (.int li), some (.ref w), some (.int n), some (.int r), some (.int t), some (.int p), some (.int s), some (.int k), some (.int x113), l12] _ _ _
              refine gw_ld rfl rfl ?_
              refine z_b1 (fun c114 => ?_) (fun c114 => ?_)
              · have c114 : x113.toInt = 0 := c114
                exfalso; omega
              · have c114 : ¬ (x113.toInt = 0) := c114
                refine gw_ld rfl rfl ?_
                refine gw_ld rfl rfl ?_
                refine gw_ld rfl rfl ?_
                refine gw_ld rfl rfl ?_
                refine gw_ld rfl rfl ?_
                refine z_gR (q := 110) (zT S2 (by decide) rfl) (zRf S2 (by decide) (by decide) rfl) (by decide) ?_
                refine gw_ld rfl rfl ?_
                refine z_iaV (n := 288) (zT S2 (by decide) rfl) (zN S2 (by decide) rfl) (by omega) ex73 ?_
                refine z_iaV (n := nu) ((hu _ S2).1) ((hu _ S2).2) (by omega) ((zG_a F (by omega) (by omega)).trans ex74) ?_
                refine z_C (m := 0) rfl rfl (fun x117 ex117 => ?_)
                refine z_C (m := 0) rfl rfl (fun x118 ex118 => ?_)
                refine gw_ld rfl rfl ?_
                refine z_cl rfl rfl rfl rfl rfl rfl rfl rfl rfl rfl rfl (zT S2 (by decide) rfl) ?_
                have hsg122 : sgl W (LL W n.toInt.toNat (t.toInt.toNat - 1)) n.toInt.toNat (rz n.toInt.toNat (t.toInt.toNat - 1)) s.toInt.toNat p.toInt.toNat := ⟨by omega, by first | exact .inl (by omega) | exact .inr (by omega)⟩
                have hx122 : xs1 W (LL W n.toInt.toNat (t.toInt.toNat - 1)) n.toInt.toNat (rz n.toInt.toNat (t.toInt.toNat - 1)) (k.toInt.toNat + 1) = s.toInt.toNat + 1 := xs1_y (by omega) (by omega) hsg122
                refine m_ppF (k := k) (n := n) (w := x74) (a := x117) (b := x118) (o := s) S2 (by omega) (fun q => absurd q (by omega)) (fun h119 F120 k121 k122 => ?_)
                have S123 := zG_sh F120 S2
                have F124 := zG_tr F (zG_mono F120 (fun k hk => by first | omega | exact False.elim hk) (fun k hk => by first | omega | exact False.elim hk))
                have A125 : aR (ez_I h119 w) al.toInt.toNat 0 0 := by rw [zG_fn F120 w (by omega) (by first | omega | exact fun c => c)]; exact A_to
                have A126 : syI (ez_I h119 110) n.toInt.toNat al.toInt.toNat := by rw [zG_fn F120 110 (by decide) (by first | omega | exact fun c => c)]; exact A_sy
                have A127 : soS (kyf (ez_I h u) (ez_I h119 110)) n.toInt.toNat := by rw [zG_fn F120 110 (by decide) (by first | omega | exact fun c => c)]; exact A_so
                have A128 : cP (ez_I h u) (ez_I h119 110) n.toInt.toNat al.toInt.toNat := by rw [zG_fn F120 110 (by decide) (by first | omega | exact fun c => c)]; exact A_cn
                have A129 : wwI W (ez_I h u) (ez_I h119 110) n.toInt.toNat := by rw [zG_fn F120 110 (by decide) (by first | omega | exact fun c => c)]; exact A_ww
                have A130 : (∀ i, n.toInt.toNat ≤ i → W i = 0) := by rw []; exact A_wz
                have A131 : ((∀ j, j < n.toInt.toNat → 0 ≤ W j) ∧ sm W n.toInt.toNat ≤ 100000000) := by rw []; exact A_wb
                have A132 : eH n.toInt r.toInt t.toInt := by rw []; exact A_eh
                have A133 : hQ (ez_I h119 113) n.toInt.toNat r.toInt.toNat (fun _ => t.toInt) := by rw [zG_fn F120 113 (by decide) (by first | omega | exact fun c => c)]; exact A_hq
                have A134 : wlI (ez_I h119 111) (LL W n.toInt.toNat (t.toInt.toNat - 1)) r.toInt.toNat := by rw [zG_fn F120 111 (by decide) (by first | omega | exact fun c => c)]; exact A_wl
                have A135 : rfI (ez_I h119 113) n.toInt.toNat r.toInt.toNat (FF W n.toInt.toNat (t.toInt.toNat - 1)) := by rw [zG_fn F120 113 (by decide) (by first | omega | exact fun c => c)]; exact A_rf
                have A136 : tQ (ez_I h119 114) (ez_I h119 113) n.toInt.toNat (k.toInt.toNat + 1) (s.toInt + 1) p.toInt := by rw [zG_fn F120 113 (by decide) (by omega)]; exact tQ_s A_tq k121 (by omega) (by omega) (by omega) (by omega)
                have A138 : rfI (ez_I h119 114) n.toInt.toNat (k.toInt.toNat + 1) (FF W n.toInt.toNat ((t.toInt.toNat - 1) + 1)) := rfI_s A_rn k121 (by omega) (by show _ = xs1 _ _ _ _ _; omega) (by omega) hsg122 (by omega) (by omega) rfl
                have A137 : wlI (ez_I h119 112) (LL W n.toInt.toNat ((t.toInt.toNat - 1) + 1)) (k.toInt.toNat + 1) := wlI_pp A_wn k122 ((show _ = W s.toInt.toNat by omega).trans (nxL_y (by omega) (by omega) hsg122).symm) rfl
                refine z_inc rfl (by rw [show (1 : Int32).toInt = 1 from rfl]; omega) (fun x139 ex139 => ?_)
                rw [show (1 : Int32).toInt = 1 from rfl] at ex139
                show ez_gw _ _ _ _ _ _ _ _ [some (.ref 71), some (.ref u), some (.int al), some (.int li), some (.ref w), some (.int n), some (.int r), some (.int t), some (.int p), some (.int x139), some (.int k), some (.int x113), l12] _ _ _
                refine z_go ?_
                refine gw_skip _ ?_
                refine z_inc rfl (by rw [show (1 : Int32).toInt = 1 from rfl]; omega) (fun x140 ex140 => ?_)
                rw [show (1 : Int32).toInt = 1 from rfl] at ex140
                show ez_gw _ _ _ _ _ _ _ _ [some (.ref 71), some (.ref u), some (.int al), some (.int li), some (.ref w), some (.int n), some (.int r), some (.int t), some (.int p), some (.int x139), some (.int x140), some (.int x113), l12] _ _ _
                refine z_go ?_
                exact ih.2.1 h119 n r t p x139 x140 (some (.int x113)) (l12) W F124 (by rw [show x140.toInt.toNat = k.toInt.toNat + 1 by omega]; omega) A125 A126 A127 A128 A129 A130 A131 A132 A133 ((by rw [show x140.toInt.toNat = k.toInt.toNat + 1 by omega, show x139.toInt = s.toInt + 1 by omega]; exact A136)) A134 A135 ((by rw [show x140.toInt.toNat = (k.toInt.toNat + 1) by omega]; exact A137)) ((by rw [show x140.toInt.toNat = (k.toInt.toNat + 1) by omega]; exact A138)) (by omega)
      · have c8 : ¬ (x7.toInt < r.toInt) := c8
        refine gw_ld rfl rfl ?_
        refine gw_ld rfl rfl ?_
        refine z_b2 (fun c141 => ?_) (fun c141 => ?_)
        · have c141 : n.toInt ≤ s.toInt := c141
          refine gw_skip _ ?_
          refine gw_ld rfl rfl ?_
          refine gw_st rfl rfl rfl ?_
          show ez_gw _ _ _ _ _ _ _ _ [some (.ref 71), some (.ref u), some (.int al), some (.int li), some (.ref w), some (.int n), some (.int k), some (.int t), some (.int p), some (.int s), some (.int k), l11, l12] _ _ _
          refine z_C (m := 0) rfl rfl (fun x142 ex142 => ?_)
          refine gw_st rfl rfl rfl ?_
          show ez_gw _ _ _ _ _ _ _ _ [some (.ref 71), some (.ref u), some (.int al), some (.int li), some (.ref w), some (.int n), some (.int k), some (.int t), some (.int p), some (.int s), some (.int k), some (.int x142), l12] _ _ _
          exact ez_Wp_at (ih.2.2.1 h2 n k t p s k x142 (l12) W F (by omega) A_to A_sy A_so A_cn A_ww A_wz A_wb (eH_up (p := p.toInt) (k := k.toInt) A_eh (by omega) (by omega) (by omega) (by omega) (by omega)) (tQ_end A_tq A_hq (by omega) (by omega)) (cpI_0 (by omega)) A_wn (A_rn) ((by rw [show x142.toInt.toNat = 0 by omega]; exact fun a ha => by omega)) (by omega)) rfl
        · have c141 : ¬ (n.toInt ≤ s.toInt) := c141
          refine gw_ld rfl rfl ?_
          refine gw_ld rfl rfl ?_
          refine z_b2 (fun c143 => ?_) (fun c143 => ?_)
          · have c143 : n.toInt ≤ s.toInt := c143
            exfalso; omega
          · have c143 : ¬ (n.toInt ≤ s.toInt) := c143
            refine gw_ld rfl rfl ?_
            refine z_C (m := 1) rfl rfl (fun x144 ex144 => ?_)
            refine z_add (by omega) (fun x145 ex145 => ?_)
            refine gw_ld rfl rfl ?_
            refine z_b2 (fun c146 => ?_) (fun c146 => ?_)
            · have c146 : r.toInt ≤ x145.toInt := c146
              refine gw_skip _ ?_
              refine z_C (m := 1) rfl rfl (fun x147 ex147 => ?_)
              refine z_go ?_
              refine gw_skip _ ?_
              refine gw_st rfl rfl rfl ?_
              show ez_gw _ _ _ _ _ _ _ _ [some (.ref 71), some (.ref u), some (.int al), some (.int li), some (.ref w), some (.int n), some (.int r), some (.int t), some (.int p), some (.int s), some (.int k), some (.int x147), l12] _ _ _
              refine gw_ld rfl rfl ?_
              refine z_b1 (fun c148 => ?_) (fun c148 => ?_)
              · have c148 : x147.toInt = 0 := c148
                exfalso; omega
              · have c148 : ¬ (x147.toInt = 0) := c148
                refine gw_ld rfl rfl ?_
                refine gw_ld rfl rfl ?_
                refine gw_ld rfl rfl ?_
                refine gw_ld rfl rfl ?_
                refine gw_ld rfl rfl ?_
                refine z_gR (q := 110) (zT S2 (by decide) rfl) (zRf S2 (by decide) (by decide) rfl) (by decide) ?_
                refine gw_ld rfl rfl ?_
                refine z_ia (n := 288) (zT S2 (by decide) rfl) (zN S2 (by decide) rfl) (by omega) ?_
                generalize ex149 : ez_I h2 110 s.toInt.toNat = x149
                have rx149 := z_rng x149
                have yx149 := (A_sy s.toInt.toNat (by omega)).1
                rw [ex149] at yx149
                refine z_iaV (n := nu) ((hu _ S2).1) ((hu _ S2).2) (by omega) (zG_a F (by omega) (by omega)) ?_
                generalize ex150 : ez_I h u x149.toInt.toNat = x150
                have rx150 := z_rng x150
                have qx150 := wwI_at A_ww ex149 ex150 (by omega)
                have ux150 := hU x149.toInt.toNat (by omega)
                rw [ex150] at ux150
                refine z_C (m := 0) rfl rfl (fun x151 ex151 => ?_)
                refine z_C (m := 0) rfl rfl (fun x152 ex152 => ?_)
                refine gw_ld rfl rfl ?_
                refine z_cl rfl rfl rfl rfl rfl rfl rfl rfl rfl rfl rfl (zT S2 (by decide) rfl) ?_
                have hsg156 : sgl W (LL W n.toInt.toNat (t.toInt.toNat - 1)) n.toInt.toNat (rz n.toInt.toNat (t.toInt.toNat - 1)) s.toInt.toNat p.toInt.toNat := ⟨by omega, by first | exact .inl (by omega) | exact .inr (by omega)⟩
                have hx156 : xs1 W (LL W n.toInt.toNat (t.toInt.toNat - 1)) n.toInt.toNat (rz n.toInt.toNat (t.toInt.toNat - 1)) (k.toInt.toNat + 1) = s.toInt.toNat + 1 := xs1_y (by omega) (by omega) hsg156
                refine m_ppF (k := k) (n := n) (w := x150) (a := x151) (b := x152) (o := s) S2 (by omega) (fun q => absurd q (by omega)) (fun h153 F154 k155 k156 => ?_)
                have S157 := zG_sh F154 S2
                have F158 := zG_tr F (zG_mono F154 (fun k hk => by first | omega | exact False.elim hk) (fun k hk => by first | omega | exact False.elim hk))
                have A159 : aR (ez_I h153 w) al.toInt.toNat 0 0 := by rw [zG_fn F154 w (by omega) (by first | omega | exact fun c => c)]; exact A_to
                have A160 : syI (ez_I h153 110) n.toInt.toNat al.toInt.toNat := by rw [zG_fn F154 110 (by decide) (by first | omega | exact fun c => c)]; exact A_sy
                have A161 : soS (kyf (ez_I h u) (ez_I h153 110)) n.toInt.toNat := by rw [zG_fn F154 110 (by decide) (by first | omega | exact fun c => c)]; exact A_so
                have A162 : cP (ez_I h u) (ez_I h153 110) n.toInt.toNat al.toInt.toNat := by rw [zG_fn F154 110 (by decide) (by first | omega | exact fun c => c)]; exact A_cn
                have A163 : wwI W (ez_I h u) (ez_I h153 110) n.toInt.toNat := by rw [zG_fn F154 110 (by decide) (by first | omega | exact fun c => c)]; exact A_ww
                have A164 : (∀ i, n.toInt.toNat ≤ i → W i = 0) := by rw []; exact A_wz
                have A165 : ((∀ j, j < n.toInt.toNat → 0 ≤ W j) ∧ sm W n.toInt.toNat ≤ 100000000) := by rw []; exact A_wb
                have A166 : eH n.toInt r.toInt t.toInt := by rw []; exact A_eh
                have A167 : hQ (ez_I h153 113) n.toInt.toNat r.toInt.toNat (fun _ => t.toInt) := by rw [zG_fn F154 113 (by decide) (by first | omega | exact fun c => c)]; exact A_hq
                have A168 : wlI (ez_I h153 111) (LL W n.toInt.toNat (t.toInt.toNat - 1)) r.toInt.toNat := by rw [zG_fn F154 111 (by decide) (by first | omega | exact fun c => c)]; exact A_wl
                have A169 : rfI (ez_I h153 113) n.toInt.toNat r.toInt.toNat (FF W n.toInt.toNat (t.toInt.toNat - 1)) := by rw [zG_fn F154 113 (by decide) (by first | omega | exact fun c => c)]; exact A_rf
                have A170 : tQ (ez_I h153 114) (ez_I h153 113) n.toInt.toNat (k.toInt.toNat + 1) (s.toInt + 1) p.toInt := by rw [zG_fn F154 113 (by decide) (by omega)]; exact tQ_s A_tq k155 (by omega) (by omega) (by omega) (by omega)
                have A172 : rfI (ez_I h153 114) n.toInt.toNat (k.toInt.toNat + 1) (FF W n.toInt.toNat ((t.toInt.toNat - 1) + 1)) := rfI_s A_rn k155 (by omega) (by show _ = xs1 _ _ _ _ _; omega) (by omega) hsg156 (by omega) (by omega) rfl
                have A171 : wlI (ez_I h153 112) (LL W n.toInt.toNat ((t.toInt.toNat - 1) + 1)) (k.toInt.toNat + 1) := wlI_pp A_wn k156 ((show _ = W s.toInt.toNat by omega).trans (nxL_y (by omega) (by omega) hsg156).symm) rfl
                refine z_inc rfl (by rw [show (1 : Int32).toInt = 1 from rfl]; omega) (fun x173 ex173 => ?_)
                rw [show (1 : Int32).toInt = 1 from rfl] at ex173
                show ez_gw _ _ _ _ _ _ _ _ [some (.ref 71), some (.ref u), some (.int al), some (.int li), some (.ref w), some (.int n), some (.int r), some (.int t), some (.int p), some (.int x173), some (.int k), some (.int x147), l12] _ _ _
                refine z_go ?_
                refine gw_skip _ ?_
                refine z_inc rfl (by rw [show (1 : Int32).toInt = 1 from rfl]; omega) (fun x174 ex174 => ?_)
                rw [show (1 : Int32).toInt = 1 from rfl] at ex174
                show ez_gw _ _ _ _ _ _ _ _ [some (.ref 71), some (.ref u), some (.int al), some (.int li), some (.ref w), some (.int n), some (.int r), some (.int t), some (.int p), some (.int x173), some (.int x174), some (.int x147), l12] _ _ _
                refine z_go ?_
                exact ih.2.1 h153 n r t p x173 x174 (some (.int x147)) (l12) W F158 (by rw [show x174.toInt.toNat = k.toInt.toNat + 1 by omega]; omega) A159 A160 A161 A162 A163 A164 A165 A166 A167 ((by rw [show x174.toInt.toNat = k.toInt.toNat + 1 by omega, show x173.toInt = s.toInt + 1 by omega]; exact A170)) A168 A169 ((by rw [show x174.toInt.toNat = (k.toInt.toNat + 1) by omega]; exact A171)) ((by rw [show x174.toInt.toNat = (k.toInt.toNat + 1) by omega]; exact A172)) (by omega)
            · have c146 : ¬ (r.toInt ≤ x145.toInt) := c146
              refine gw_ld rfl rfl ?_
              refine gw_ld rfl rfl ?_
              refine z_gR (q := 110) (zT S2 (by decide) rfl) (zRf S2 (by decide) (by decide) rfl) (by decide) ?_
              refine gw_ld rfl rfl ?_
              refine z_ia (n := 288) (zT S2 (by decide) rfl) (zN S2 (by decide) rfl) (by omega) ?_
              generalize ex175 : ez_I h2 110 s.toInt.toNat = x175
              have rx175 := z_rng x175
              have yx175 := (A_sy s.toInt.toNat (by omega)).1
              rw [ex175] at yx175
              refine z_iaV (n := nu) ((hu _ S2).1) ((hu _ S2).2) (by omega) (zG_a F (by omega) (by omega)) ?_
              generalize ex176 : ez_I h u x175.toInt.toNat = x176
              have rx176 := z_rng x176
              have qx176 := wwI_at A_ww ex175 ex176 (by omega)
              have ux176 := hU x175.toInt.toNat (by omega)
              rw [ex176] at ux176
              refine gw_ld rfl rfl ?_
              refine z_gR (q := 111) (zT S2 (by decide) rfl) (zRf S2 (by decide) (by decide) rfl) (by decide) ?_
              refine gw_ld rfl rfl ?_
              refine z_ia (n := 600) (zT S2 (by decide) rfl) (zN S2 (by decide) rfl) (by omega) ?_
              generalize ex177 : ez_I h2 111 p.toInt.toNat = x177
              have rx177 := z_rng x177
              have qx177 := A_wl p.toInt.toNat (by omega)
              rw [ex177] at qx177
              refine gw_ld rfl rfl ?_
              refine z_gR (q := 111) (zT S2 (by decide) rfl) (zRf S2 (by decide) (by decide) rfl) (by decide) ?_
              refine gw_ld rfl rfl ?_
              refine z_C (m := 1) rfl rfl (fun x178 ex178 => ?_)
              refine z_add (by omega) (fun x179 ex179 => ?_)
              refine z_ia (n := 600) (zT S2 (by decide) rfl) (zN S2 (by decide) rfl) (by omega) ?_
              generalize ex180 : ez_I h2 111 x179.toInt.toNat = x180
              have rx180 := z_rng x180
              have qx180 := A_wl x179.toInt.toNat (by omega)
              rw [ex180, show x179.toInt.toNat = p.toInt.toNat + 1 by omega] at qx180
              have hprx180 := hpr (by omega)
              refine z_add (by omega) (fun x181 ex181 => ?_)
              refine z_b2 (fun c182 => ?_) (fun c182 => ?_)
              · have c182 : x181.toInt < x176.toInt := c182
                refine gw_skip _ ?_
                refine z_C (m := 0) rfl rfl (fun x183 ex183 => ?_)
                refine gw_st rfl rfl rfl ?_
                show ez_gw _ _ _ _ _ _ _ _ [some (.ref 71), some (.ref u), some (.int al), some (.int li), some (.ref w), some (.int n), some (.int r), some (.int t), some (.int p), some (.int s), some (.int k), some (.int x183), l12] _ _ _
                refine gw_ld rfl rfl ?_
                refine z_b1 (fun c184 => ?_) (fun c184 => ?_)
                · have c184 : x183.toInt = 0 := c184
                  refine gw_skip _ ?_
                  refine gw_ld rfl rfl ?_
                  refine gw_ld rfl rfl ?_
                  refine gw_ld rfl rfl ?_
                  refine gw_ld rfl rfl ?_
                  refine z_gR (q := 111) (zT S2 (by decide) rfl) (zRf S2 (by decide) (by decide) rfl) (by decide) ?_
                  refine gw_ld rfl rfl ?_
                  refine z_iaV (n := 600) (zT S2 (by decide) rfl) (zN S2 (by decide) rfl) (by omega) ex177 ?_
                  refine gw_ld rfl rfl ?_
                  refine z_gR (q := 111) (zT S2 (by decide) rfl) (zRf S2 (by decide) (by decide) rfl) (by decide) ?_
                  refine gw_ld rfl rfl ?_
                  refine z_C (m := 1) rfl rfl (fun x186 ex186 => ?_)
                  refine z_add (by omega) (fun x187 ex187 => ?_)
                  refine z_ia (n := 600) (zT S2 (by decide) rfl) (zN S2 (by decide) rfl) (by omega) ?_
                  generalize ex188 : ez_I h2 111 x187.toInt.toNat = x188
                  have rx188 := z_rng x188
                  have qx188 := A_wl x187.toInt.toNat (by omega)
                  rw [ex188, show x187.toInt.toNat = p.toInt.toNat + 1 by omega] at qx188
                  have hprx188 := hpr (by omega)
                  refine z_add (by omega) (fun x189 ex189 => ?_)
                  refine gw_ld rfl rfl ?_
                  refine gw_ld rfl rfl ?_
                  refine z_C (m := 1) rfl rfl (fun x190 ex190 => ?_)
                  refine z_add (by omega) (fun x191 ex191 => ?_)
                  refine z_C (m := -1) rfl rfl (fun x192 ex192 => ?_)
                  refine z_cl rfl rfl rfl rfl rfl rfl rfl rfl rfl rfl rfl (zT S2 (by decide) rfl) ?_
                  have hsg196 : ¬ sgl W (LL W n.toInt.toNat (t.toInt.toNat - 1)) n.toInt.toNat (rz n.toInt.toNat (t.toInt.toNat - 1)) s.toInt.toNat p.toInt.toNat := fun c => by first | (have := c.1; omega) | (rcases c.2 with q | q <;> omega)
                  have hx196 : xs1 W (LL W n.toInt.toNat (t.toInt.toNat - 1)) n.toInt.toNat (rz n.toInt.toNat (t.toInt.toNat - 1)) (k.toInt.toNat + 1) = s.toInt.toNat := xs1_n (by omega) (by omega) hsg196
                  refine m_ppF (k := k) (n := n) (w := x189) (a := p) (b := x191) (o := x192) S2 (by omega) (fun _ j hj => by first | exact ⟨(fun z => ⟨z.1, by omega⟩) (hQ_ent A_hq (by omega) hj), (fun z => ⟨z.1, by omega⟩) (hQ_ent A_hq (by omega) hj)⟩) (fun h193 F194 k195 k196 => ?_)
                  have S197 := zG_sh F194 S2
                  have F198 := zG_tr F (zG_mono F194 (fun k hk => by first | omega | exact False.elim hk) (fun k hk => by first | omega | exact False.elim hk))
                  have A199 : aR (ez_I h193 w) al.toInt.toNat 0 0 := by rw [zG_fn F194 w (by omega) (by first | omega | exact fun c => c)]; exact A_to
                  have A200 : syI (ez_I h193 110) n.toInt.toNat al.toInt.toNat := by rw [zG_fn F194 110 (by decide) (by first | omega | exact fun c => c)]; exact A_sy
                  have A201 : soS (kyf (ez_I h u) (ez_I h193 110)) n.toInt.toNat := by rw [zG_fn F194 110 (by decide) (by first | omega | exact fun c => c)]; exact A_so
                  have A202 : cP (ez_I h u) (ez_I h193 110) n.toInt.toNat al.toInt.toNat := by rw [zG_fn F194 110 (by decide) (by first | omega | exact fun c => c)]; exact A_cn
                  have A203 : wwI W (ez_I h u) (ez_I h193 110) n.toInt.toNat := by rw [zG_fn F194 110 (by decide) (by first | omega | exact fun c => c)]; exact A_ww
                  have A204 : (∀ i, n.toInt.toNat ≤ i → W i = 0) := by rw []; exact A_wz
                  have A205 : ((∀ j, j < n.toInt.toNat → 0 ≤ W j) ∧ sm W n.toInt.toNat ≤ 100000000) := by rw []; exact A_wb
                  have A206 : eH n.toInt r.toInt t.toInt := by rw []; exact A_eh
                  have A207 : hQ (ez_I h193 113) n.toInt.toNat r.toInt.toNat (fun _ => t.toInt) := by rw [zG_fn F194 113 (by decide) (by first | omega | exact fun c => c)]; exact A_hq
                  have A208 : wlI (ez_I h193 111) (LL W n.toInt.toNat (t.toInt.toNat - 1)) r.toInt.toNat := by rw [zG_fn F194 111 (by decide) (by first | omega | exact fun c => c)]; exact A_wl
                  have A209 : rfI (ez_I h193 113) n.toInt.toNat r.toInt.toNat (FF W n.toInt.toNat (t.toInt.toNat - 1)) := by rw [zG_fn F194 113 (by decide) (by first | omega | exact fun c => c)]; exact A_rf
                  have A210 : tQ (ez_I h193 114) (ez_I h193 113) n.toInt.toNat (k.toInt.toNat + 1) s.toInt (p.toInt + 2) := by rw [zG_fn F194 113 (by decide) (by omega)]; exact tQ_p A_tq k195 A_hq (by omega) (by omega) (by omega) (by omega) (by omega) (by omega) (by omega)
                  have A212 : rfI (ez_I h193 114) n.toInt.toNat (k.toInt.toNat + 1) (FF W n.toInt.toNat ((t.toInt.toNat - 1) + 1)) := rfI_p A_rn k195 A_rf (by omega) (by show _ = xs1 _ _ _ _ _; omega) (by omega) hsg196 (by omega) (by omega) (by omega) (by omega) (by omega) rfl
                  have A211 : wlI (ez_I h193 112) (LL W n.toInt.toNat ((t.toInt.toNat - 1) + 1)) (k.toInt.toNat + 1) := wlI_pp A_wn k196 ((show _ = LL W n.toInt.toNat (t.toInt.toNat - 1) p.toInt.toNat + LL W n.toInt.toNat (t.toInt.toNat - 1) (p.toInt.toNat + 1) by omega).trans (nxL_n (by omega) (by omega) hsg196).symm) rfl
                  refine z_inc rfl (by rw [show (2 : Int32).toInt = 2 from rfl]; omega) (fun x213 ex213 => ?_)
                  rw [show (2 : Int32).toInt = 2 from rfl] at ex213
                  show ez_gw _ _ _ _ _ _ _ _ [some (.ref 71), some (.ref u), some (.int al), some (.int li), some (.ref w), some (.int n), some (.int r), some (.int t), some (.int x213), some (.int s), some (.int k), some (.int x183), l12] _ _ _
                  refine z_inc rfl (by rw [show (1 : Int32).toInt = 1 from rfl]; omega) (fun x214 ex214 => ?_)
                  rw [show (1 : Int32).toInt = 1 from rfl] at ex214
                  show ez_gw _ _ _ _ _ _ _ _ [some (.ref 71), some (.ref u), some (.int al), some (.int li), some (.ref w), some (.int n), some (.int r), some (.int t), some (.int x213), some (.int s), some (.int x214), some (.int x183), l12] _ _ _
                  refine z_go ?_
                  exact ih.2.1 h193 n r t x213 s x214 (some (.int x183)) (l12) W F198 (by rw [show x214.toInt.toNat = k.toInt.toNat + 1 by omega]; omega) A199 A200 A201 A202 A203 A204 A205 A206 A207 ((by rw [show x214.toInt.toNat = k.toInt.toNat + 1 by omega, show x213.toInt = p.toInt + 2 by omega]; exact A210)) A208 A209 ((by rw [show x214.toInt.toNat = (k.toInt.toNat + 1) by omega]; exact A211)) ((by rw [show x214.toInt.toNat = (k.toInt.toNat + 1) by omega]; exact A212)) (by omega)
                · have c184 : ¬ (x183.toInt = 0) := c184
                  exfalso; omega
              · have c182 : ¬ (x181.toInt < x176.toInt) := c182
                refine z_C (m := 1) rfl rfl (fun x215 ex215 => ?_)
                refine z_go ?_
                refine gw_skip _ ?_
                refine gw_st rfl rfl rfl ?_
                show ez_gw _ _ _ _ _ _ _ _ [some (.ref 71), some (.ref u), some (.int al), some (.int li), some (.ref w), some (.int n), some (.int r), some (.int t), some (.int p), some (.int s), some (.int k), some (.int x215), l12] _ _ _
                refine gw_ld rfl rfl ?_
                refine z_b1 (fun c216 => ?_) (fun c216 => ?_)
                · have c216 : x215.toInt = 0 := c216
                  exfalso; omega
                · have c216 : ¬ (x215.toInt = 0) := c216
                  refine gw_ld rfl rfl ?_
                  refine gw_ld rfl rfl ?_
                  refine gw_ld rfl rfl ?_
                  refine gw_ld rfl rfl ?_
                  refine gw_ld rfl rfl ?_
                  refine z_gR (q := 110) (zT S2 (by decide) rfl) (zRf S2 (by decide) (by decide) rfl) (by decide) ?_
                  refine gw_ld rfl rfl ?_
                  refine z_iaV (n := 288) (zT S2 (by decide) rfl) (zN S2 (by decide) rfl) (by omega) ex175 ?_
                  refine z_iaV (n := nu) ((hu _ S2).1) ((hu _ S2).2) (by omega) ((zG_a F (by omega) (by omega)).trans ex176) ?_
                  refine z_C (m := 0) rfl rfl (fun x219 ex219 => ?_)
                  refine z_C (m := 0) rfl rfl (fun x220 ex220 => ?_)
                  refine gw_ld rfl rfl ?_
                  refine z_cl rfl rfl rfl rfl rfl rfl rfl rfl rfl rfl rfl (zT S2 (by decide) rfl) ?_
                  have hsg224 : sgl W (LL W n.toInt.toNat (t.toInt.toNat - 1)) n.toInt.toNat (rz n.toInt.toNat (t.toInt.toNat - 1)) s.toInt.toNat p.toInt.toNat := ⟨by omega, by first | exact .inl (by omega) | exact .inr (by omega)⟩
                  have hx224 : xs1 W (LL W n.toInt.toNat (t.toInt.toNat - 1)) n.toInt.toNat (rz n.toInt.toNat (t.toInt.toNat - 1)) (k.toInt.toNat + 1) = s.toInt.toNat + 1 := xs1_y (by omega) (by omega) hsg224
                  refine m_ppF (k := k) (n := n) (w := x176) (a := x219) (b := x220) (o := s) S2 (by omega) (fun q => absurd q (by omega)) (fun h221 F222 k223 k224 => ?_)
                  have S225 := zG_sh F222 S2
                  have F226 := zG_tr F (zG_mono F222 (fun k hk => by first | omega | exact False.elim hk) (fun k hk => by first | omega | exact False.elim hk))
                  have A227 : aR (ez_I h221 w) al.toInt.toNat 0 0 := by rw [zG_fn F222 w (by omega) (by first | omega | exact fun c => c)]; exact A_to
                  have A228 : syI (ez_I h221 110) n.toInt.toNat al.toInt.toNat := by rw [zG_fn F222 110 (by decide) (by first | omega | exact fun c => c)]; exact A_sy
                  have A229 : soS (kyf (ez_I h u) (ez_I h221 110)) n.toInt.toNat := by rw [zG_fn F222 110 (by decide) (by first | omega | exact fun c => c)]; exact A_so
                  have A230 : cP (ez_I h u) (ez_I h221 110) n.toInt.toNat al.toInt.toNat := by rw [zG_fn F222 110 (by decide) (by first | omega | exact fun c => c)]; exact A_cn
                  have A231 : wwI W (ez_I h u) (ez_I h221 110) n.toInt.toNat := by rw [zG_fn F222 110 (by decide) (by first | omega | exact fun c => c)]; exact A_ww
                  have A232 : (∀ i, n.toInt.toNat ≤ i → W i = 0) := by rw []; exact A_wz
                  have A233 : ((∀ j, j < n.toInt.toNat → 0 ≤ W j) ∧ sm W n.toInt.toNat ≤ 100000000) := by rw []; exact A_wb
                  have A234 : eH n.toInt r.toInt t.toInt := by rw []; exact A_eh
                  have A235 : hQ (ez_I h221 113) n.toInt.toNat r.toInt.toNat (fun _ => t.toInt) := by rw [zG_fn F222 113 (by decide) (by first | omega | exact fun c => c)]; exact A_hq
                  have A236 : wlI (ez_I h221 111) (LL W n.toInt.toNat (t.toInt.toNat - 1)) r.toInt.toNat := by rw [zG_fn F222 111 (by decide) (by first | omega | exact fun c => c)]; exact A_wl
                  have A237 : rfI (ez_I h221 113) n.toInt.toNat r.toInt.toNat (FF W n.toInt.toNat (t.toInt.toNat - 1)) := by rw [zG_fn F222 113 (by decide) (by first | omega | exact fun c => c)]; exact A_rf
                  have A238 : tQ (ez_I h221 114) (ez_I h221 113) n.toInt.toNat (k.toInt.toNat + 1) (s.toInt + 1) p.toInt := by rw [zG_fn F222 113 (by decide) (by omega)]; exact tQ_s A_tq k223 (by omega) (by omega) (by omega) (by omega)
                  have A240 : rfI (ez_I h221 114) n.toInt.toNat (k.toInt.toNat + 1) (FF W n.toInt.toNat ((t.toInt.toNat - 1) + 1)) := rfI_s A_rn k223 (by omega) (by show _ = xs1 _ _ _ _ _; omega) (by omega) hsg224 (by omega) (by omega) rfl
                  have A239 : wlI (ez_I h221 112) (LL W n.toInt.toNat ((t.toInt.toNat - 1) + 1)) (k.toInt.toNat + 1) := wlI_pp A_wn k224 ((show _ = W s.toInt.toNat by omega).trans (nxL_y (by omega) (by omega) hsg224).symm) rfl
                  refine z_inc rfl (by rw [show (1 : Int32).toInt = 1 from rfl]; omega) (fun x241 ex241 => ?_)
                  rw [show (1 : Int32).toInt = 1 from rfl] at ex241
                  show ez_gw _ _ _ _ _ _ _ _ [some (.ref 71), some (.ref u), some (.int al), some (.int li), some (.ref w), some (.int n), some (.int r), some (.int t), some (.int p), some (.int x241), some (.int k), some (.int x215), l12] _ _ _
                  refine z_go ?_
                  refine gw_skip _ ?_
                  refine z_inc rfl (by rw [show (1 : Int32).toInt = 1 from rfl]; omega) (fun x242 ex242 => ?_)
                  rw [show (1 : Int32).toInt = 1 from rfl] at ex242
                  show ez_gw _ _ _ _ _ _ _ _ [some (.ref 71), some (.ref u), some (.int al), some (.int li), some (.ref w), some (.int n), some (.int r), some (.int t), some (.int p), some (.int x241), some (.int x242), some (.int x215), l12] _ _ _
                  refine z_go ?_
                  exact ih.2.1 h221 n r t p x241 x242 (some (.int x215)) (l12) W F226 (by rw [show x242.toInt.toNat = k.toInt.toNat + 1 by omega]; omega) A227 A228 A229 A230 A231 A232 A233 A234 A235 ((by rw [show x242.toInt.toNat = k.toInt.toNat + 1 by omega, show x241.toInt = s.toInt + 1 by omega]; exact A238)) A236 A237 ((by rw [show x242.toInt.toNat = (k.toInt.toNat + 1) by omega]; exact A239)) ((by rw [show x242.toInt.toNat = (k.toInt.toNat + 1) by omega]; exact A240)) (by omega)
    · skip
      have w_n := z_rng n
      have w_r := z_rng r
      have w_t := z_rng t
      have w_p := z_rng p
      have w_s := z_rng s
      have w_k := z_rng k
      have w_i := z_rng i
      have gal := z_rng al
      have gli := z_rng li
      have S2 := zG_sh F S
      apply ez_Wp_in
      show ez_gw _ _ _ _ _ _ (cz_36) _ _ _ _ _
      refine gw_skip _ ?_
      refine gw_ld rfl rfl ?_
      refine gw_ld rfl rfl ?_
      refine z_b2 (fun c243 => ?_) (fun c243 => ?_)
      · have c243 : r.toInt ≤ i.toInt := c243
        refine gw_skip _ ?_
        refine z_inc rfl (by rw [show (1 : Int32).toInt = 1 from rfl]; omega) (fun x244 ex244 => ?_)
        rw [show (1 : Int32).toInt = 1 from rfl] at ex244
        show ez_gw _ _ _ _ _ _ _ _ [some (.ref 71), some (.ref u), some (.int al), some (.int li), some (.ref w), some (.int n), some (.int r), some (.int x244), some (.int p), some (.int s), some (.int k), some (.int i), l12] _ _ _
        refine z_go ?_
        exact ih.1 h2 n r x244 (some (.int p)) (some (.int s)) (some (.int k)) (some (.int i)) (l12) W F (by rw [show x244.toInt.toNat - 1 = (t.toInt.toNat - 1) + 1 by omega]; omega) A_to A_sy A_so A_cn A_ww A_wz A_wb ((by rw [show (x244).toInt = t.toInt + 1 by omega]; exact A_eh)) ((by rw [show x244.toInt = t.toInt + 1 by omega]; exact hQ_cp A_hg A_cp (by omega))) ((by rw [show x244.toInt.toNat - 1 = (t.toInt.toNat - 1) + 1 by omega]; exact wlI_cp A_wn A_wc (by omega))) ((by rw [show x244.toInt.toNat - 1 = (t.toInt.toNat - 1) + 1 by omega]; exact rfI_congr A_rg (fun a j ha hj => A_cp a j (by omega) hj))) (by omega)
      · have c243 : ¬ (r.toInt ≤ i.toInt) := c243
        refine gw_ld rfl rfl ?_
        refine z_gR (q := 111) (zT S2 (by decide) rfl) (zRf S2 (by decide) (by decide) rfl) (by decide) ?_
        refine gw_ld rfl rfl ?_
        refine gw_ld rfl rfl ?_
        refine z_gR (q := 112) (zT S2 (by decide) rfl) (zRf S2 (by decide) (by decide) rfl) (by decide) ?_
        refine gw_ld rfl rfl ?_
        refine z_ia (n := 600) (zT S2 (by decide) rfl) (zN S2 (by decide) rfl) (by omega) ?_
        generalize ex245 : ez_I h2 112 i.toInt.toNat = x245
        have rx245 := z_rng x245
        refine z_is (n := 600) (zT S2 (by decide) rfl) (zN S2 (by decide) rfl) (by omega) (fun h246 e247 => ?_)
        have S248 := zSh_set S2 e247
        have F249 := zG_setA F e247 (by decide) (by omega)
        have A250 : aR (ez_I h246 w) al.toInt.toNat 0 0 := by rw [zI_fn e247 w (by omega)]; exact A_to
        have A251 : syI (ez_I h246 110) n.toInt.toNat al.toInt.toNat := by rw [zI_fn e247 110 (by decide)]; exact A_sy
        have A252 : soS (kyf (ez_I h u) (ez_I h246 110)) n.toInt.toNat := by rw [zI_fn e247 110 (by decide)]; exact A_so
        have A253 : cP (ez_I h u) (ez_I h246 110) n.toInt.toNat al.toInt.toNat := by rw [zI_fn e247 110 (by decide)]; exact A_cn
        have A254 : wwI W (ez_I h u) (ez_I h246 110) n.toInt.toNat := by rw [zI_fn e247 110 (by decide)]; exact A_ww
        have A255 : (∀ i, n.toInt.toNat ≤ i → W i = 0) := by rw []; exact A_wz
        have A256 : ((∀ j, j < n.toInt.toNat → 0 ≤ W j) ∧ sm W n.toInt.toNat ≤ 100000000) := by rw []; exact A_wb
        have A257 : eH n.toInt r.toInt (t.toInt + 1) := by rw []; exact A_eh
        have A258 : hQ (ez_I h246 114) n.toInt.toNat r.toInt.toNat (fun _ => t.toInt + 1) := by rw [zI_fn e247 114 (by decide)]; exact A_hg
        have A259 : cpI (ez_I h246 113) (ez_I h246 114) n.toInt.toNat i.toInt.toNat := by rw [zI_fn e247 113 (by decide), zI_fn e247 114 (by decide)]; exact A_cp
        have A260 : wlI (ez_I h246 112) (LL W n.toInt.toNat ((t.toInt.toNat - 1) + 1)) r.toInt.toNat := by rw [zI_fn e247 112 (by decide)]; exact A_wn
        have A261 : rfI (ez_I h246 114) n.toInt.toNat r.toInt.toNat (FF W n.toInt.toNat ((t.toInt.toNat - 1) + 1)) := by rw [zI_fn e247 114 (by decide)]; exact A_rg
        have A262 : cp1 (ez_I h246 111) (ez_I h246 112) (i.toInt.toNat + 1) := cp1_w A_wc e247 rfl ex245 rfl rfl
        refine z_C (m := 0) rfl rfl (fun x263 ex263 => ?_)
        refine gw_st rfl rfl rfl ?_
        show ez_gw _ _ _ _ _ _ _ _ [some (.ref 71), some (.ref u), some (.int al), some (.int li), some (.ref w), some (.int n), some (.int r), some (.int t), some (.int p), some (.int s), some (.int k), some (.int i), some (.int x263)] _ _ _
        exact ez_Wp_at (ih.2.2.2 h246 n r t p s k i x263 W F249 (by omega) A250 A251 A252 A253 A254 A255 A256 A257 A258 A259 A260 A261 A262 (cpR_0 (by omega)) (by omega)) rfl
    · skip
      have w_n := z_rng n
      have w_r := z_rng r
      have w_t := z_rng t
      have w_p := z_rng p
      have w_s := z_rng s
      have w_k := z_rng k
      have w_i := z_rng i
      have w_j := z_rng j
      have gal := z_rng al
      have gli := z_rng li
      have S2 := zG_sh F S
      apply ez_Wp_in
      show ez_gw _ _ _ _ _ _ (cz_36) _ _ _ _ _
      refine gw_skip _ ?_
      refine gw_ld rfl rfl ?_
      refine gw_ld rfl rfl ?_
      refine z_b2 (fun c264 => ?_) (fun c264 => ?_)
      · have c264 : n.toInt ≤ j.toInt := c264
        refine gw_skip _ ?_
        refine z_inc rfl (by rw [show (1 : Int32).toInt = 1 from rfl]; omega) (fun x265 ex265 => ?_)
        rw [show (1 : Int32).toInt = 1 from rfl] at ex265
        show ez_gw _ _ _ _ _ _ _ _ [some (.ref 71), some (.ref u), some (.int al), some (.int li), some (.ref w), some (.int n), some (.int r), some (.int t), some (.int p), some (.int s), some (.int k), some (.int x265), some (.int j)] _ _ _
        refine z_go ?_
        exact ih.2.2.1 h2 n r t p s k x265 (some (.int j)) W F (by omega) A_to A_sy A_so A_cn A_ww A_wz A_wb (A_eh) (A_hg) (cpI_s A_cp (by rw [show n.toInt.toNat = j.toInt.toNat by omega]; exact A_cr) (by omega)) A_wn (A_rg) ((by rw [show x265.toInt.toNat = (i.toInt.toNat + 1) by omega]; exact A_wc)) (by omega)
      · have c264 : ¬ (n.toInt ≤ j.toInt) := c264
        refine gw_ld rfl rfl ?_
        refine z_gR (q := 113) (zT S2 (by decide) rfl) (zRf S2 (by decide) (by decide) rfl) (by decide) ?_
        refine z_C (m := 288) rfl rfl (fun x266 ex266 => ?_)
        refine gw_ld rfl rfl ?_
        refine z_mulL (c := 288) ex266 (by omega) (fun x267 ex267 => ?_)
        refine gw_ld rfl rfl ?_
        refine z_add (by omega) (fun x268 ex268 => ?_)
        refine gw_ld rfl rfl ?_
        refine z_gR (q := 114) (zT S2 (by decide) rfl) (zRf S2 (by decide) (by decide) rfl) (by decide) ?_
        refine z_C (m := 288) rfl rfl (fun x269 ex269 => ?_)
        refine gw_ld rfl rfl ?_
        refine z_mulL (c := 288) ex269 (by omega) (fun x270 ex270 => ?_)
        refine gw_ld rfl rfl ?_
        refine z_add (by omega) (fun x271 ex271 => ?_)
        refine z_ia (n := 172800) (zT S2 (by decide) rfl) (zN S2 (by decide) rfl) (by omega) ?_
        generalize ex272 : ez_I h2 114 x271.toInt.toNat = x272
        have rx272 := z_rng x272
        refine z_is (n := 172800) (zT S2 (by decide) rfl) (zN S2 (by decide) rfl) (by omega) (fun h273 e274 => ?_)
        have S275 := zSh_set S2 e274
        have F276 := zG_setA F e274 (by decide) (by omega)
        have A277 : aR (ez_I h273 w) al.toInt.toNat 0 0 := by rw [zI_fn e274 w (by omega)]; exact A_to
        have A278 : syI (ez_I h273 110) n.toInt.toNat al.toInt.toNat := by rw [zI_fn e274 110 (by decide)]; exact A_sy
        have A279 : soS (kyf (ez_I h u) (ez_I h273 110)) n.toInt.toNat := by rw [zI_fn e274 110 (by decide)]; exact A_so
        have A280 : cP (ez_I h u) (ez_I h273 110) n.toInt.toNat al.toInt.toNat := by rw [zI_fn e274 110 (by decide)]; exact A_cn
        have A281 : wwI W (ez_I h u) (ez_I h273 110) n.toInt.toNat := by rw [zI_fn e274 110 (by decide)]; exact A_ww
        have A282 : (∀ i, n.toInt.toNat ≤ i → W i = 0) := by rw []; exact A_wz
        have A283 : ((∀ j, j < n.toInt.toNat → 0 ≤ W j) ∧ sm W n.toInt.toNat ≤ 100000000) := by rw []; exact A_wb
        have A284 : eH n.toInt r.toInt (t.toInt + 1) := by rw []; exact A_eh
        have A285 : hQ (ez_I h273 114) n.toInt.toNat r.toInt.toNat (fun _ => t.toInt + 1) := by rw [zI_fn e274 114 (by decide)]; exact A_hg
        have A286 : cpI (ez_I h273 113) (ez_I h273 114) n.toInt.toNat i.toInt.toNat := cpI_w A_cp e274 (by omega) (by omega)
        have A287 : wlI (ez_I h273 112) (LL W n.toInt.toNat ((t.toInt.toNat - 1) + 1)) r.toInt.toNat := by rw [zI_fn e274 112 (by decide)]; exact A_wn
        have A288 : rfI (ez_I h273 114) n.toInt.toNat r.toInt.toNat (FF W n.toInt.toNat ((t.toInt.toNat - 1) + 1)) := by rw [zI_fn e274 114 (by decide)]; exact A_rg
        have A289 : cp1 (ez_I h273 111) (ez_I h273 112) (i.toInt.toNat + 1) := by rw [zI_fn e274 111 (by decide), zI_fn e274 112 (by decide)]; exact A_wc
        have A290 : cpR (ez_I h273 113) (ez_I h273 114) i.toInt.toNat (j.toInt.toNat + 1) := cpR_w A_cr e274 (by omega) ex272 (by omega)
        refine z_inc rfl (by rw [show (1 : Int32).toInt = 1 from rfl]; omega) (fun x291 ex291 => ?_)
        rw [show (1 : Int32).toInt = 1 from rfl] at ex291
        show ez_gw _ _ _ _ _ _ _ _ [some (.ref 71), some (.ref u), some (.int al), some (.int li), some (.ref w), some (.int n), some (.int r), some (.int t), some (.int p), some (.int s), some (.int k), some (.int i), some (.int x291)] _ _ _
        refine z_go ?_
        exact ih.2.2.2 h273 n r t p s k i x291 W F276 (by omega) A277 A278 A279 A280 A281 A282 A283 A284 A285 A286 A287 A288 A289 ((by rw [show x291.toInt.toNat = (j.toInt.toNat + 1) by omega]; exact A290)) (by omega)
set_option maxRecDepth 4000 in
set_option maxHeartbeats 20000000 in
theorem m_lenF_L1 {E : Nat → Nat × (Nat → Int32)} {d : Nat} {Q : ez_Q} {h : ez_H} {u : Nat} {al : Int32} {li : Int32} {w : Nat} (S : zSh h) {nu nw : Nat} {mx : Int} (hu : zA u nu) (hw : zA w nw) (hd : (u < 110 ∨ 114 < u) ∧ u ≠ 71 ∧ u ≠ w ∧ (w < 110 ∨ 114 < w) ∧ w ≠ 71) (hn : 1 ≤ al.toInt ∧ al.toInt ≤ nu ∧ al.toInt ≤ nw ∧ al.toInt ≤ 288 ∧ nu ≤ 1000 ∧ nw ≤ 1000) (hl : 1 ≤ li.toInt ∧ li.toInt ≤ 15) (hU : aR (ez_I h u) al.toInt.toNat 0 mx) (hmx : 0 ≤ mx ∧ mx ≤ 1000000) (hmB : (al.toInt.toNat : Int) * mx ≤ 100000000) (hP : (poC (ez_I h u) al.toInt.toNat : Int) ≤ 2 ^ li.toInt.toNat) (K : ∀ h2, zG (fun _ => False) (fun q => 110 ≤ q ∧ q ≤ 114 ∨ q = w) h h2 → lnP (ez_I h u) (ez_I h2 w) al.toInt.toNat li.toInt.toNat → Q (.inl none) h2) : ∀ N : Nat, (∀ (h2 : ez_H) (n : Int32) (r : Int32) (k : Int32) (l8 : Option Value) (l9 : Option Value) (l10 : Option Value) (l11 : Option Value) (l12 : Option Value) (W : Nat → Int), zG (fun _ => False) (fun q => 110 ≤ q ∧ q ≤ 114 ∨ q = w) h h2 → (2 ≤ n.toInt ∧ n.toInt ≤ al.toInt ∧ r.toInt = n.toInt ∧ 0 ≤ k.toInt ∧ k.toInt ≤ n.toInt) → aR (ez_I h2 w) al.toInt.toNat 0 0 → syI (ez_I h2 110) n.toInt.toNat al.toInt.toNat → soS (kyf (ez_I h u) (ez_I h2 110)) n.toInt.toNat → cP (ez_I h u) (ez_I h2 110) n.toInt.toNat al.toInt.toNat → wwI W (ez_I h u) (ez_I h2 110) n.toInt.toNat → (∀ i, n.toInt.toNat ≤ i → W i = 0) → ((∀ j, j < n.toInt.toNat → 0 ≤ W j) ∧ sm W n.toInt.toNat ≤ 100000000) → hQ (ez_I h2 113) n.toInt.toNat k.toInt.toNat (lt1 k.toInt) → wlI (ez_I h2 111) (W) k.toInt.toNat → rfI (ez_I h2 113) n.toInt.toNat k.toInt.toNat (FF W n.toInt.toNat 0) → (1000 * (1000 - k.toInt)) < (N : Int) → pw E (d + 1) 36 125 [some (.ref 71), some (.ref u), some (.int al), some (.int li), some (.ref w), some (.int n), some (.int r), some (.int k), l8, l9, l10, l11, l12] [] h2 Q) ∧ (∀ (h2 : ez_H) (n : Int32) (r : Int32) (k : Int32) (j : Int32) (l9 : Option Value) (l10 : Option Value) (l11 : Option Value) (l12 : Option Value) (W : Nat → Int), zG (fun _ => False) (fun q => 110 ≤ q ∧ q ≤ 114 ∨ q = w) h h2 → (2 ≤ n.toInt ∧ n.toInt ≤ al.toInt ∧ r.toInt = n.toInt ∧ 0 ≤ k.toInt ∧ k.toInt < n.toInt ∧ 0 ≤ j.toInt ∧ j.toInt ≤ n.toInt) → aR (ez_I h2 w) al.toInt.toNat 0 0 → syI (ez_I h2 110) n.toInt.toNat al.toInt.toNat → soS (kyf (ez_I h u) (ez_I h2 110)) n.toInt.toNat → cP (ez_I h u) (ez_I h2 110) n.toInt.toNat al.toInt.toNat → wwI W (ez_I h u) (ez_I h2 110) n.toInt.toNat → (∀ i, n.toInt.toNat ≤ i → W i = 0) → ((∀ j, j < n.toInt.toNat → 0 ≤ W j) ∧ sm W n.toInt.toNat ≤ 100000000) → hQ (ez_I h2 113) n.toInt.toNat k.toInt.toNat (lt1 k.toInt) → wlI (ez_I h2 111) (W) (k.toInt.toNat + 1) → rfI (ez_I h2 113) n.toInt.toNat k.toInt.toNat (FF W n.toInt.toNat 0) → rwI (ez_I h2 113) k.toInt.toNat (unit1 k.toInt.toNat) j.toInt.toNat → (1000 * (1000 - k.toInt) - 500 + (300 - j.toInt)) < (N : Int) → pw E (d + 1) 36 151 [some (.ref 71), some (.ref u), some (.int al), some (.int li), some (.ref w), some (.int n), some (.int r), some (.int k), some (.int j), l9, l10, l11, l12] [] h2 Q) := by
  intro N
  induction N with
  | zero => exact ⟨fun h2 n r k l8 l9 l10 l11 l12 W F hinv A_to A_sy A_so A_cn A_ww A_wz A_wb A_hq A_wl A_rf hm => absurd hm (by have w_n := z_rng n; have w_r := z_rng r; have w_k := z_rng k; have gal := z_rng al; have gli := z_rng li; omega), fun h2 n r k j l9 l10 l11 l12 W F hinv A_to A_sy A_so A_cn A_ww A_wz A_wb A_hq A_wl A_rf A_rw hm => absurd hm (by have w_n := z_rng n; have w_r := z_rng r; have w_k := z_rng k; have w_j := z_rng j; have gal := z_rng al; have gli := z_rng li; omega)⟩
  | succ N ih =>
    refine ⟨fun h2 n r k l8 l9 l10 l11 l12 W F hinv A_to A_sy A_so A_cn A_ww A_wz A_wb A_hq A_wl A_rf hm => ?_, fun h2 n r k j l9 l10 l11 l12 W F hinv A_to A_sy A_so A_cn A_ww A_wz A_wb A_hq A_wl A_rf A_rw hm => ?_⟩
    · skip
      have w_n := z_rng n
      have w_r := z_rng r
      have w_k := z_rng k
      have gal := z_rng al
      have gli := z_rng li
      have S2 := zG_sh F S
      apply ez_Wp_in
      show ez_gw _ _ _ _ _ _ (cz_36) _ _ _ _ _
      refine gw_skip _ ?_
      refine gw_ld rfl rfl ?_
      refine gw_ld rfl rfl ?_
      refine z_b2 (fun c1 => ?_) (fun c1 => ?_)
      · have c1 : n.toInt ≤ k.toInt := c1
        refine gw_skip _ ?_
        refine z_C (m := 1) rfl rfl (fun x2 ex2 => ?_)
        refine gw_st rfl rfl rfl ?_
        show ez_gw _ _ _ _ _ _ _ _ [some (.ref 71), some (.ref u), some (.int al), some (.int li), some (.ref w), some (.int n), some (.int r), some (.int x2), l8, l9, l10, l11, l12] _ _ _
        exact ez_Wp_at ((m_lenF_L2 (u := u) (al := al) (li := li) (w := w) S hu hw hd hn hl hU hmx hmB hP K (((1000000 * (20 - x2.toInt))).toNat + 1)).1 h2 n r x2 (l8) (l9) (l10) (l11) (l12) W F (by rw [show x2.toInt.toNat - 1 = 0 by omega]; have hz0 : rz n.toInt.toNat 0 = n.toInt.toNat := rfl; omega) A_to A_sy A_so A_cn A_ww A_wz A_wb (eH_1 (by omega) (by omega)) ((by rw [show r.toInt.toNat = k.toInt.toNat by omega, show x2.toInt = 1 by omega]; exact hQ_one A_hq)) ((by rw [show r.toInt.toNat = k.toInt.toNat by omega, show x2.toInt.toNat - 1 = 0 by omega]; exact A_wl)) ((by rw [show r.toInt.toNat = k.toInt.toNat by omega, show x2.toInt.toNat - 1 = 0 by omega]; exact A_rf)) (by omega)) rfl
      · have c1 : ¬ (n.toInt ≤ k.toInt) := c1
        refine gw_ld rfl rfl ?_
        refine z_gR (q := 111) (zT S2 (by decide) rfl) (zRf S2 (by decide) (by decide) rfl) (by decide) ?_
        refine gw_ld rfl rfl ?_
        refine gw_ld rfl rfl ?_
        refine gw_ld rfl rfl ?_
        refine z_gR (q := 110) (zT S2 (by decide) rfl) (zRf S2 (by decide) (by decide) rfl) (by decide) ?_
        refine gw_ld rfl rfl ?_
        refine z_ia (n := 288) (zT S2 (by decide) rfl) (zN S2 (by decide) rfl) (by omega) ?_
        generalize ex3 : ez_I h2 110 k.toInt.toNat = x3
        have rx3 := z_rng x3
        have yx3 := (A_sy k.toInt.toNat (by omega)).1
        rw [ex3] at yx3
        refine z_iaV (n := nu) ((hu _ S2).1) ((hu _ S2).2) (by omega) (zG_a F (by omega) (by omega)) ?_
        generalize ex4 : ez_I h u x3.toInt.toNat = x4
        have rx4 := z_rng x4
        refine z_is (n := 600) (zT S2 (by decide) rfl) (zN S2 (by decide) rfl) (by omega) (fun h5 e6 => ?_)
        have S7 := zSh_set S2 e6
        have F8 := zG_setA F e6 (by decide) (by omega)
        have A9 : aR (ez_I h5 w) al.toInt.toNat 0 0 := by rw [zI_fn e6 w (by omega)]; exact A_to
        have A10 : syI (ez_I h5 110) n.toInt.toNat al.toInt.toNat := by rw [zI_fn e6 110 (by decide)]; exact A_sy
        have A11 : soS (kyf (ez_I h u) (ez_I h5 110)) n.toInt.toNat := by rw [zI_fn e6 110 (by decide)]; exact A_so
        have A12 : cP (ez_I h u) (ez_I h5 110) n.toInt.toNat al.toInt.toNat := by rw [zI_fn e6 110 (by decide)]; exact A_cn
        have A13 : wwI W (ez_I h u) (ez_I h5 110) n.toInt.toNat := by rw [zI_fn e6 110 (by decide)]; exact A_ww
        have A14 : (∀ i, n.toInt.toNat ≤ i → W i = 0) := by rw []; exact A_wz
        have A15 : ((∀ j, j < n.toInt.toNat → 0 ≤ W j) ∧ sm W n.toInt.toNat ≤ 100000000) := by rw []; exact A_wb
        have A16 : hQ (ez_I h5 113) n.toInt.toNat k.toInt.toNat (lt1 k.toInt) := by rw [zI_fn e6 113 (by decide)]; exact A_hq
        have A17 : wlI (ez_I h5 111) (W) (k.toInt.toNat + 1) := wlI_ex A_wl e6 rfl (wwI_at A_ww ex3 ex4 (by omega)) rfl
        have A18 : rfI (ez_I h5 113) n.toInt.toNat k.toInt.toNat (FF W n.toInt.toNat 0) := by rw [zI_fn e6 113 (by decide)]; exact A_rf
        refine z_C (m := 0) rfl rfl (fun x19 ex19 => ?_)
        refine gw_st rfl rfl rfl ?_
        show ez_gw _ _ _ _ _ _ _ _ [some (.ref 71), some (.ref u), some (.int al), some (.int li), some (.ref w), some (.int n), some (.int r), some (.int k), some (.int x19), l9, l10, l11, l12] _ _ _
        exact ez_Wp_at (ih.2 h5 n r k x19 (l9) (l10) (l11) (l12) W F8 (by omega) A9 A10 A11 A12 A13 A14 A15 A16 A17 A18 (rwI_0 (by omega)) (by omega)) rfl
    · skip
      have w_n := z_rng n
      have w_r := z_rng r
      have w_k := z_rng k
      have w_j := z_rng j
      have gal := z_rng al
      have gli := z_rng li
      have S2 := zG_sh F S
      apply ez_Wp_in
      show ez_gw _ _ _ _ _ _ (cz_36) _ _ _ _ _
      refine gw_skip _ ?_
      refine gw_ld rfl rfl ?_
      refine gw_ld rfl rfl ?_
      refine z_b2 (fun c20 => ?_) (fun c20 => ?_)
      · have c20 : n.toInt ≤ j.toInt := c20
        refine gw_skip _ ?_
        refine z_inc rfl (by rw [show (1 : Int32).toInt = 1 from rfl]; omega) (fun x21 ex21 => ?_)
        rw [show (1 : Int32).toInt = 1 from rfl] at ex21
        show ez_gw _ _ _ _ _ _ _ _ [some (.ref 71), some (.ref u), some (.int al), some (.int li), some (.ref w), some (.int n), some (.int r), some (.int x21), some (.int j), l9, l10, l11, l12] _ _ _
        refine z_go ?_
        exact ih.1 h2 n r x21 (some (.int j)) (l9) (l10) (l11) (l12) W F (by omega) (aR_le A_to (by omega)) (syI_le A_sy (by omega)) A_so (A_cn) A_ww A_wz A_wb ((by rw [show x21.toInt.toNat = k.toInt.toNat + 1 by omega]; exact hQ_init (m := x21.toInt) (by rw [show ((k.toInt.toNat : Nat) : Int) = k.toInt by omega]; exact A_hq) (by rw [show n.toInt.toNat = j.toInt.toNat by omega]; exact A_rw) (by omega))) ((by rw [show x21.toInt.toNat = (k.toInt.toNat + 1) by omega]; exact A_wl)) (rfI_init A_rf (by rw [show n.toInt.toNat = j.toInt.toNat by omega]; exact A_rw) (by omega)) (by omega)
      · have c20 : ¬ (n.toInt ≤ j.toInt) := c20
        refine gw_ld rfl rfl ?_
        refine z_gR (q := 113) (zT S2 (by decide) rfl) (zRf S2 (by decide) (by decide) rfl) (by decide) ?_
        refine z_C (m := 288) rfl rfl (fun x22 ex22 => ?_)
        refine gw_ld rfl rfl ?_
        refine z_mulL (c := 288) ex22 (by omega) (fun x23 ex23 => ?_)
        refine gw_ld rfl rfl ?_
        refine z_add (by omega) (fun x24 ex24 => ?_)
        refine gw_ld rfl rfl ?_
        refine gw_ld rfl rfl ?_
        refine z_b2 (fun c25 => ?_) (fun c25 => ?_)
        · have c25 : j.toInt ≠ k.toInt := c25
          refine gw_skip _ ?_
          refine z_C (m := 0) rfl rfl (fun x26 ex26 => ?_)
          refine z_is (n := 172800) (zT S2 (by decide) rfl) (zN S2 (by decide) rfl) (by omega) (fun h27 e28 => ?_)
          have S29 := zSh_set S2 e28
          have F30 := zG_setA F e28 (by decide) (by omega)
          have A31 : aR (ez_I h27 w) al.toInt.toNat 0 0 := by rw [zI_fn e28 w (by omega)]; exact A_to
          have A32 : syI (ez_I h27 110) n.toInt.toNat al.toInt.toNat := by rw [zI_fn e28 110 (by decide)]; exact A_sy
          have A33 : soS (kyf (ez_I h u) (ez_I h27 110)) n.toInt.toNat := by rw [zI_fn e28 110 (by decide)]; exact A_so
          have A34 : cP (ez_I h u) (ez_I h27 110) n.toInt.toNat al.toInt.toNat := by rw [zI_fn e28 110 (by decide)]; exact A_cn
          have A35 : wwI W (ez_I h u) (ez_I h27 110) n.toInt.toNat := by rw [zI_fn e28 110 (by decide)]; exact A_ww
          have A36 : (∀ i, n.toInt.toNat ≤ i → W i = 0) := by rw []; exact A_wz
          have A37 : ((∀ j, j < n.toInt.toNat → 0 ≤ W j) ∧ sm W n.toInt.toNat ≤ 100000000) := by rw []; exact A_wb
          have A38 : hQ (ez_I h27 113) n.toInt.toNat k.toInt.toNat (lt1 k.toInt) := hQ_w A_hq e28 (by omega) (by omega)
          have A39 : wlI (ez_I h27 111) (W) (k.toInt.toNat + 1) := by rw [zI_fn e28 111 (by decide)]; exact A_wl
          have A40 : rfI (ez_I h27 113) n.toInt.toNat k.toInt.toNat (FF W n.toInt.toNat 0) := rfI_w A_rf e28 (by omega) (by omega)
          have A41 : rwI (ez_I h27 113) k.toInt.toNat (unit1 k.toInt.toNat) (j.toInt.toNat + 1) := rwI_up A_rw e28 (by omega) (unit1_of (by omega))
          refine z_inc rfl (by rw [show (1 : Int32).toInt = 1 from rfl]; omega) (fun x42 ex42 => ?_)
          rw [show (1 : Int32).toInt = 1 from rfl] at ex42
          show ez_gw _ _ _ _ _ _ _ _ [some (.ref 71), some (.ref u), some (.int al), some (.int li), some (.ref w), some (.int n), some (.int r), some (.int k), some (.int x42), l9, l10, l11, l12] _ _ _
          refine z_go ?_
          exact ih.2 h27 n r k x42 (l9) (l10) (l11) (l12) W F30 (by omega) A31 A32 A33 A34 A35 A36 A37 A38 A39 A40 ((by rw [show x42.toInt.toNat = (j.toInt.toNat + 1) by omega]; exact A41)) (by omega)
        · have c25 : ¬ (j.toInt ≠ k.toInt) := c25
          refine z_C (m := 1) rfl rfl (fun x43 ex43 => ?_)
          refine z_go ?_
          refine gw_skip _ ?_
          refine z_is (n := 172800) (zT S2 (by decide) rfl) (zN S2 (by decide) rfl) (by omega) (fun h44 e45 => ?_)
          have S46 := zSh_set S2 e45
          have F47 := zG_setA F e45 (by decide) (by omega)
          have A48 : aR (ez_I h44 w) al.toInt.toNat 0 0 := by rw [zI_fn e45 w (by omega)]; exact A_to
          have A49 : syI (ez_I h44 110) n.toInt.toNat al.toInt.toNat := by rw [zI_fn e45 110 (by decide)]; exact A_sy
          have A50 : soS (kyf (ez_I h u) (ez_I h44 110)) n.toInt.toNat := by rw [zI_fn e45 110 (by decide)]; exact A_so
          have A51 : cP (ez_I h u) (ez_I h44 110) n.toInt.toNat al.toInt.toNat := by rw [zI_fn e45 110 (by decide)]; exact A_cn
          have A52 : wwI W (ez_I h u) (ez_I h44 110) n.toInt.toNat := by rw [zI_fn e45 110 (by decide)]; exact A_ww
          have A53 : (∀ i, n.toInt.toNat ≤ i → W i = 0) := by rw []; exact A_wz
          have A54 : ((∀ j, j < n.toInt.toNat → 0 ≤ W j) ∧ sm W n.toInt.toNat ≤ 100000000) := by rw []; exact A_wb
          have A55 : hQ (ez_I h44 113) n.toInt.toNat k.toInt.toNat (lt1 k.toInt) := hQ_w A_hq e45 (by omega) (by omega)
          have A56 : wlI (ez_I h44 111) (W) (k.toInt.toNat + 1) := by rw [zI_fn e45 111 (by decide)]; exact A_wl
          have A57 : rfI (ez_I h44 113) n.toInt.toNat k.toInt.toNat (FF W n.toInt.toNat 0) := rfI_w A_rf e45 (by omega) (by omega)
          have A58 : rwI (ez_I h44 113) k.toInt.toNat (unit1 k.toInt.toNat) (j.toInt.toNat + 1) := rwI_up A_rw e45 (by omega) (unit1_of (by omega))
          refine z_inc rfl (by rw [show (1 : Int32).toInt = 1 from rfl]; omega) (fun x59 ex59 => ?_)
          rw [show (1 : Int32).toInt = 1 from rfl] at ex59
          show ez_gw _ _ _ _ _ _ _ _ [some (.ref 71), some (.ref u), some (.int al), some (.int li), some (.ref w), some (.int n), some (.int r), some (.int k), some (.int x59), l9, l10, l11, l12] _ _ _
          refine z_go ?_
          exact ih.2 h44 n r k x59 (l9) (l10) (l11) (l12) W F47 (by omega) A48 A49 A50 A51 A52 A53 A54 A55 A56 A57 ((by rw [show x59.toInt.toNat = (j.toInt.toNat + 1) by omega]; exact A58)) (by omega)
set_option maxRecDepth 4000 in
set_option maxHeartbeats 20000000 in
theorem m_lenF_L0 {E : Nat → Nat × (Nat → Int32)} {d : Nat} {Q : ez_Q} {h : ez_H} {u : Nat} {al : Int32} {li : Int32} {w : Nat} (S : zSh h) {nu nw : Nat} {mx : Int} (hu : zA u nu) (hw : zA w nw) (hd : (u < 110 ∨ 114 < u) ∧ u ≠ 71 ∧ u ≠ w ∧ (w < 110 ∨ 114 < w) ∧ w ≠ 71) (hn : 1 ≤ al.toInt ∧ al.toInt ≤ nu ∧ al.toInt ≤ nw ∧ al.toInt ≤ 288 ∧ nu ≤ 1000 ∧ nw ≤ 1000) (hl : 1 ≤ li.toInt ∧ li.toInt ≤ 15) (hU : aR (ez_I h u) al.toInt.toNat 0 mx) (hmx : 0 ≤ mx ∧ mx ≤ 1000000) (hmB : (al.toInt.toNat : Int) * mx ≤ 100000000) (hP : (poC (ez_I h u) al.toInt.toNat : Int) ≤ 2 ^ li.toInt.toNat) (K : ∀ h2, zG (fun _ => False) (fun q => 110 ≤ q ∧ q ≤ 114 ∨ q = w) h h2 → lnP (ez_I h u) (ez_I h2 w) al.toInt.toNat li.toInt.toNat → Q (.inl none) h2) : ∀ N : Nat, (∀ (h2 : ez_H) (n : Int32) (s : Int32) (l7 : Option Value) (l8 : Option Value) (l9 : Option Value) (l10 : Option Value) (l11 : Option Value) (l12 : Option Value) , zG (fun _ => False) (fun q => 110 ≤ q ∧ q ≤ 114 ∨ q = w) h h2 → (0 ≤ n.toInt ∧ n.toInt ≤ s.toInt ∧ s.toInt ≤ al.toInt) → aR (ez_I h2 w) s.toInt.toNat 0 0 → syI (ez_I h2 110) n.toInt.toNat s.toInt → soS (kyf (ez_I h u) (ez_I h2 110)) n.toInt.toNat → cP (ez_I h u) (ez_I h2 110) n.toInt.toNat s.toInt.toNat → (1000 * (1000 - s.toInt)) < (N : Int) → pw E (d + 1) 36 6 [some (.ref 71), some (.ref u), some (.int al), some (.int li), some (.ref w), some (.int n), some (.int s), l7, l8, l9, l10, l11, l12] [] h2 Q) ∧ (∀ (h2 : ez_H) (n : Int32) (s : Int32) (k : Int32) (l8 : Option Value) (l9 : Option Value) (l10 : Option Value) (l11 : Option Value) (l12 : Option Value) , zG (fun _ => False) (fun q => 110 ≤ q ∧ q ≤ 114 ∨ q = w) h h2 → (0 ≤ k.toInt ∧ k.toInt ≤ n.toInt ∧ n.toInt ≤ s.toInt ∧ s.toInt < al.toInt) → aR (ez_I h2 w) (s.toInt.toNat + 1) 0 0 → syH (ez_I h2 110) n.toInt.toNat k.toInt.toNat s.toInt → soH (kyf (ez_I h u) (ez_I h2 110)) n.toInt.toNat k.toInt.toNat (kyU (ez_I h u) s.toInt.toNat) → cPH (ez_I h u) (ez_I h2 110) n.toInt.toNat k.toInt.toNat s.toInt.toNat → (1000 * (1000 - s.toInt) - 500 + k.toInt) < (N : Int) → pw E (d + 1) 36 32 [some (.ref 71), some (.ref u), some (.int al), some (.int li), some (.ref w), some (.int n), some (.int s), some (.int k), l8, l9, l10, l11, l12] [] h2 Q) := by
  intro N
  induction N with
  | zero => exact ⟨fun h2 n s l7 l8 l9 l10 l11 l12  F hinv A_to A_sy A_so A_cn hm => absurd hm (by have w_n := z_rng n; have w_s := z_rng s; have gal := z_rng al; have gli := z_rng li; omega), fun h2 n s k l8 l9 l10 l11 l12  F hinv A_to A_sh A_sH A_cH hm => absurd hm (by have w_n := z_rng n; have w_s := z_rng s; have w_k := z_rng k; have gal := z_rng al; have gli := z_rng li; omega)⟩
  | succ N ih =>
    refine ⟨fun h2 n s l7 l8 l9 l10 l11 l12  F hinv A_to A_sy A_so A_cn hm => ?_, fun h2 n s k l8 l9 l10 l11 l12  F hinv A_to A_sh A_sH A_cH hm => ?_⟩
    · skip
      have w_n := z_rng n
      have w_s := z_rng s
      have gal := z_rng al
      have gli := z_rng li
      have S2 := zG_sh F S
      apply ez_Wp_in
      show ez_gw _ _ _ _ _ _ (cz_36) _ _ _ _ _
      refine gw_skip _ ?_
      refine gw_ld rfl rfl ?_
      refine gw_ld rfl rfl ?_
      refine z_b2 (fun c1 => ?_) (fun c1 => ?_)
      · have c1 : al.toInt ≤ s.toInt := c1
        refine gw_skip _ ?_
        refine gw_ld rfl rfl ?_
        refine z_C (m := 1) rfl rfl (fun x2 ex2 => ?_)
        refine z_b2 (fun c3 => ?_) (fun c3 => ?_)
        · have c3 : n.toInt ≠ x2.toInt := c3
          refine gw_skip _ ?_
          refine gw_ld rfl rfl ?_
          refine z_C (m := 2) rfl rfl (fun x4 ex4 => ?_)
          refine z_b2 (fun c5 => ?_) (fun c5 => ?_)
          · have c5 : x4.toInt ≤ n.toInt := c5
            refine gw_skip _ ?_
            have A6 : wwI (cut1 n.toInt.toNat (fun i => (ez_I h u (ez_I h2 110 i).toInt.toNat).toInt)) (ez_I h u) (ez_I h2 110) n.toInt.toNat := fun i hi => cut1_e hi
            have A8 : ∀ i, n.toInt.toNat ≤ i → (cut1 n.toInt.toNat (fun i => (ez_I h u (ez_I h2 110 i).toInt.toNat).toInt)) i = 0 := fun i hi => if_neg (by omega)
            have A7 := wb_of A6 hU (syI_le A_sy (by omega)) (by omega) hmx.1 hmB
            refine gw_ld rfl rfl ?_
            refine gw_st rfl rfl rfl ?_
            show ez_gw _ _ _ _ _ _ _ _ [some (.ref 71), some (.ref u), some (.int al), some (.int li), some (.ref w), some (.int n), some (.int n), l7, l8, l9, l10, l11, l12] _ _ _
            refine z_C (m := 0) rfl rfl (fun x9 ex9 => ?_)
            refine gw_st rfl rfl rfl ?_
            show ez_gw _ _ _ _ _ _ _ _ [some (.ref 71), some (.ref u), some (.int al), some (.int li), some (.ref w), some (.int n), some (.int n), some (.int x9), l8, l9, l10, l11, l12] _ _ _
            exact ez_Wp_at ((m_lenF_L1 (u := u) (al := al) (li := li) (w := w) S hu hw hd hn hl hU hmx hmB hP K (((1000 * (1000 - x9.toInt))).toNat + 1)).1 h2 n n x9 (l8) (l9) (l10) (l11) (l12) (cut1 n.toInt.toNat (fun i => (ez_I h u (ez_I h2 110 i).toInt.toNat).toInt)) F (by omega) (aR_le A_to (by omega)) (syI_le A_sy (by omega)) A_so ((by rw [show al.toInt.toNat = s.toInt.toNat by omega]; exact A_cn)) A6 A8 A7 ((by rw [show x9.toInt.toNat = 0 by omega]; exact hQ_0 (fun j _ => by unfold lt1; split <;> omega))) ((by rw [show x9.toInt.toNat = 0 by omega]; exact fun i hi => by omega)) (rfI_0 (by omega) (fun j => FF_0 _ _ _ _)) (by omega)) rfl
          · have c5 : ¬ (x4.toInt ≤ n.toInt) := c5
            refine z_rv ?_
            exact K _ F (lnP_0 (by rw [show al.toInt.toNat = s.toInt.toNat by omega]; exact A_cn) (by omega) (aR_le A_to (by omega)))
        · have c3 : ¬ (n.toInt ≠ x2.toInt) := c3
          refine gw_ld rfl rfl ?_
          refine gw_ld rfl rfl ?_
          refine z_gR (q := 110) (zT S2 (by decide) rfl) (zRf S2 (by decide) (by decide) rfl) (by decide) ?_
          refine z_C (m := 0) rfl rfl (fun x10 ex10 => ?_)
          refine z_ia (n := 288) (zT S2 (by decide) rfl) (zN S2 (by decide) rfl) (by omega) ?_
          generalize ex11 : ez_I h2 110 x10.toInt.toNat = x11
          have rx11 := z_rng x11
          have yx11 := (A_sy x10.toInt.toNat (by omega)).1
          rw [ex11] at yx11
          refine z_C (m := 1) rfl rfl (fun x12 ex12 => ?_)
          refine z_is (n := nw) ((hw _ S2).1) ((hw _ S2).2) (by omega) (fun h13 e14 => ?_)
          have S15 := zSh_set S2 e14
          have F16 := zG_setA F e14 (by omega) (by omega)
          have A17 : aR (ez_I h13 w) al.toInt.toNat 0 1 := aR_up (aR_le A_to (by omega)) e14 (by omega)
          have A18 : syI (ez_I h13 110) n.toInt.toNat s.toInt := by rw [zI_fn e14 110 (by omega)]; exact A_sy
          have A19 : soS (kyf (ez_I h u) (ez_I h13 110)) n.toInt.toNat := by rw [zI_fn e14 110 (by omega)]; exact A_so
          have A20 : cP (ez_I h u) (ez_I h13 110) n.toInt.toNat s.toInt.toNat := by rw [zI_fn e14 110 (by omega)]; exact A_cn
          have A21 : h13 = ez_setI h2 w x11.toInt.toNat x12 := e14
          have A22 : aR (ez_I h2 w) al.toInt.toNat 0 0 := aR_le A_to (by omega)
          refine gw_ld rfl rfl ?_
          refine z_C (m := 2) rfl rfl (fun x23 ex23 => ?_)
          refine z_b2 (fun c24 => ?_) (fun c24 => ?_)
          · have c24 : x23.toInt ≤ n.toInt := c24
            exfalso; omega
          · have c24 : ¬ (x23.toInt ≤ n.toInt) := c24
            refine z_rv ?_
            exact K _ F16 (lnP_1 (by rw [show al.toInt.toNat = s.toInt.toNat by omega]; exact A20) (by omega) (syI_le A18 (by omega)) (by omega) A22 A21 (by omega) ((zI_ne A21 (by omega)).trans (show ez_I _ 110 0 = _ by rw [← ex11]; congr 1; omega)) rfl)
      · have c1 : ¬ (al.toInt ≤ s.toInt) := c1
        refine gw_ld rfl rfl ?_
        refine gw_ld rfl rfl ?_
        refine z_C (m := 0) rfl rfl (fun x25 ex25 => ?_)
        refine z_is (n := nw) ((hw _ S2).1) ((hw _ S2).2) (by omega) (fun h26 e27 => ?_)
        have S28 := zSh_set S2 e27
        have F29 := zG_setA F e27 (by omega) (by omega)
        have A30 : aR (ez_I h26 w) (s.toInt.toNat + 1) 0 0 := aR_ex A_to e27 (by omega) (by omega)
        have A31 : syI (ez_I h26 110) n.toInt.toNat s.toInt := by rw [zI_fn e27 110 (by omega)]; exact A_sy
        have A32 : soS (kyf (ez_I h u) (ez_I h26 110)) n.toInt.toNat := by rw [zI_fn e27 110 (by omega)]; exact A_so
        have A33 : cP (ez_I h u) (ez_I h26 110) n.toInt.toNat s.toInt.toNat := by rw [zI_fn e27 110 (by omega)]; exact A_cn
        refine gw_ld rfl rfl ?_
        refine gw_ld rfl rfl ?_
        refine z_iaV (n := nu) ((hu _ S28).1) ((hu _ S28).2) (by omega) (zG_a F29 (by omega) (by omega)) ?_
        generalize ex34 : ez_I h u s.toInt.toNat = x34
        have rx34 := z_rng x34
        refine z_b1 (fun c35 => ?_) (fun c35 => ?_)
        · have c35 : x34.toInt ≠ 0 := c35
          refine gw_skip _ ?_
          refine gw_ld rfl rfl ?_
          refine gw_st rfl rfl rfl ?_
          show ez_gw _ _ _ _ _ _ _ _ [some (.ref 71), some (.ref u), some (.int al), some (.int li), some (.ref w), some (.int n), some (.int s), some (.int n), l8, l9, l10, l11, l12] _ _ _
          exact ez_Wp_at (ih.2 h26 n s n (l8) (l9) (l10) (l11) (l12) F29 (by omega) (aR_le A30 (by omega)) (syH_of A31 (by omega)) (soH_0 A32 (by omega)) (cPH_0 A33 ex34 (by have := hU s.toInt.toNat (by omega); rw [ex34] at this; omega) (by omega)) (by omega)) rfl
        · have c35 : ¬ (x34.toInt ≠ 0) := c35
          refine z_go ?_
          refine gw_skip _ ?_
          refine z_inc rfl (by rw [show (1 : Int32).toInt = 1 from rfl]; omega) (fun x36 ex36 => ?_)
          rw [show (1 : Int32).toInt = 1 from rfl] at ex36
          show ez_gw _ _ _ _ _ _ _ _ [some (.ref 71), some (.ref u), some (.int al), some (.int li), some (.ref w), some (.int n), some (.int x36), l7, l8, l9, l10, l11, l12] _ _ _
          refine z_go ?_
          exact ih.1 h26 n x36 (l7) (l8) (l9) (l10) (l11) (l12) F29 (by omega) (aR_le A30 (by omega)) (syI_le A31 (by omega)) (A32) (cP_z A33 ex34 (by omega) (by omega)) (by omega)
    · skip
      have w_n := z_rng n
      have w_s := z_rng s
      have w_k := z_rng k
      have gal := z_rng al
      have gli := z_rng li
      have S2 := zG_sh F S
      apply ez_Wp_in
      show ez_gw _ _ _ _ _ _ (cz_36) _ _ _ _ _
      refine gw_skip _ ?_
      refine gw_ld rfl rfl ?_
      refine z_b1 (fun c37 => ?_) (fun c37 => ?_)
      · have c37 : k.toInt ≤ 0 := c37
        refine gw_skip _ ?_
        refine gw_ld rfl rfl ?_
        refine z_gR (q := 110) (zT S2 (by decide) rfl) (zRf S2 (by decide) (by decide) rfl) (by decide) ?_
        refine gw_ld rfl rfl ?_
        refine gw_ld rfl rfl ?_
        refine z_is (n := 288) (zT S2 (by decide) rfl) (zN S2 (by decide) rfl) (by omega) (fun h38 e39 => ?_)
        have S40 := zSh_set S2 e39
        have F41 := zG_setA F e39 (by decide) (by omega)
        have A42 : aR (ez_I h38 w) (s.toInt.toNat + 1) 0 0 := by rw [zI_fn e39 w (by omega)]; exact A_to
        have A43 : syI (ez_I h38 110) (n.toInt + 1).toNat (s.toInt + 1) := syH_fin A_sh e39 (by omega) rfl (by omega) rfl (by omega)
        have A44 : soS (kyf (ez_I h u) (ez_I h38 110)) (n.toInt.toNat + 1) := soS_fin A_sH e39 (by omega) (by omega) (by omega) (fun q => by exfalso; omega) rfl
        have A45 : cP (ez_I h u) (ez_I h38 110) (n.toInt.toNat + 1) (s.toInt.toNat + 1) := cP_fin A_cH e39 (by omega) (by omega) (by omega) rfl rfl
        refine z_inc rfl (by rw [show (1 : Int32).toInt = 1 from rfl]; omega) (fun x46 ex46 => ?_)
        rw [show (1 : Int32).toInt = 1 from rfl] at ex46
        show ez_gw _ _ _ _ _ _ _ _ [some (.ref 71), some (.ref u), some (.int al), some (.int li), some (.ref w), some (.int x46), some (.int s), some (.int k), l8, l9, l10, l11, l12] _ _ _
        refine z_inc rfl (by rw [show (1 : Int32).toInt = 1 from rfl]; omega) (fun x47 ex47 => ?_)
        rw [show (1 : Int32).toInt = 1 from rfl] at ex47
        show ez_gw _ _ _ _ _ _ _ _ [some (.ref 71), some (.ref u), some (.int al), some (.int li), some (.ref w), some (.int x46), some (.int x47), some (.int k), l8, l9, l10, l11, l12] _ _ _
        refine z_go ?_
        exact ih.1 h38 x46 x47 (some (.int k)) (l8) (l9) (l10) (l11) (l12) F41 (by omega) (aR_le A42 (by omega)) ((by rw [show x46.toInt.toNat = (n.toInt + 1).toNat by omega, show x47.toInt = s.toInt + 1 by omega]; exact A43)) ((by rw [show x46.toInt.toNat = (n.toInt.toNat + 1) by omega]; exact A44)) ((by rw [show x46.toInt.toNat = n.toInt.toNat + 1 by omega, show x47.toInt.toNat = s.toInt.toNat + 1 by omega]; exact A45)) (by omega)
      · have c37 : ¬ (k.toInt ≤ 0) := c37
        refine gw_ld rfl rfl ?_
        refine gw_ld rfl rfl ?_
        refine z_gR (q := 110) (zT S2 (by decide) rfl) (zRf S2 (by decide) (by decide) rfl) (by decide) ?_
        refine gw_ld rfl rfl ?_
        refine z_C (m := 1) rfl rfl (fun x48 ex48 => ?_)
        refine z_sub (by omega) (fun x49 ex49 => ?_)
        refine z_ia (n := 288) (zT S2 (by decide) rfl) (zN S2 (by decide) rfl) (by omega) ?_
        generalize ex50 : ez_I h2 110 x49.toInt.toNat = x50
        have rx50 := z_rng x50
        have yx50 := (A_sh x49.toInt.toNat (by omega) (by omega)).1
        rw [ex50] at yx50
        refine z_iaV (n := nu) ((hu _ S2).1) ((hu _ S2).2) (by omega) (zG_a F (by omega) (by omega)) ?_
        generalize ex51 : ez_I h u x50.toInt.toNat = x51
        have rx51 := z_rng x51
        refine gw_ld rfl rfl ?_
        refine gw_ld rfl rfl ?_
        refine z_iaV (n := nu) ((hu _ S2).1) ((hu _ S2).2) (by omega) (zG_a F (by omega) (by omega)) ?_
        generalize ex52 : ez_I h u s.toInt.toNat = x52
        have rx52 := z_rng x52
        refine z_b2 (fun c53 => ?_) (fun c53 => ?_)
        · have c53 : x51.toInt ≤ x52.toInt := c53
          refine gw_skip _ ?_
          refine gw_ld rfl rfl ?_
          refine z_gR (q := 110) (zT S2 (by decide) rfl) (zRf S2 (by decide) (by decide) rfl) (by decide) ?_
          refine gw_ld rfl rfl ?_
          refine gw_ld rfl rfl ?_
          refine z_is (n := 288) (zT S2 (by decide) rfl) (zN S2 (by decide) rfl) (by omega) (fun h54 e55 => ?_)
          have S56 := zSh_set S2 e55
          have F57 := zG_setA F e55 (by decide) (by omega)
          have A58 : aR (ez_I h54 w) (s.toInt.toNat + 1) 0 0 := by rw [zI_fn e55 w (by omega)]; exact A_to
          have A59 : syI (ez_I h54 110) (n.toInt + 1).toNat (s.toInt + 1) := syH_fin A_sh e55 (by omega) rfl (by omega) rfl (by omega)
          have A60 : soS (kyf (ez_I h u) (ez_I h54 110)) (n.toInt.toNat + 1) := soS_fin A_sH e55 (by omega) (by omega) (by omega) (fun q => ⟨_, _, _, (by rw [← ex50]; congr 1; omega), ex51, ex52, by omega, by omega⟩) rfl
          have A61 : cP (ez_I h u) (ez_I h54 110) (n.toInt.toNat + 1) (s.toInt.toNat + 1) := cP_fin A_cH e55 (by omega) (by omega) (by omega) rfl rfl
          refine z_inc rfl (by rw [show (1 : Int32).toInt = 1 from rfl]; omega) (fun x62 ex62 => ?_)
          rw [show (1 : Int32).toInt = 1 from rfl] at ex62
          show ez_gw _ _ _ _ _ _ _ _ [some (.ref 71), some (.ref u), some (.int al), some (.int li), some (.ref w), some (.int x62), some (.int s), some (.int k), l8, l9, l10, l11, l12] _ _ _
          refine z_inc rfl (by rw [show (1 : Int32).toInt = 1 from rfl]; omega) (fun x63 ex63 => ?_)
          rw [show (1 : Int32).toInt = 1 from rfl] at ex63
          show ez_gw _ _ _ _ _ _ _ _ [some (.ref 71), some (.ref u), some (.int al), some (.int li), some (.ref w), some (.int x62), some (.int x63), some (.int k), l8, l9, l10, l11, l12] _ _ _
          refine z_go ?_
          exact ih.1 h54 x62 x63 (some (.int k)) (l8) (l9) (l10) (l11) (l12) F57 (by omega) (aR_le A58 (by omega)) ((by rw [show x62.toInt.toNat = (n.toInt + 1).toNat by omega, show x63.toInt = s.toInt + 1 by omega]; exact A59)) ((by rw [show x62.toInt.toNat = (n.toInt.toNat + 1) by omega]; exact A60)) ((by rw [show x62.toInt.toNat = n.toInt.toNat + 1 by omega, show x63.toInt.toNat = s.toInt.toNat + 1 by omega]; exact A61)) (by omega)
        · have c53 : ¬ (x51.toInt ≤ x52.toInt) := c53
          refine gw_ld rfl rfl ?_
          refine z_gR (q := 110) (zT S2 (by decide) rfl) (zRf S2 (by decide) (by decide) rfl) (by decide) ?_
          refine gw_ld rfl rfl ?_
          refine gw_ld rfl rfl ?_
          refine z_gR (q := 110) (zT S2 (by decide) rfl) (zRf S2 (by decide) (by decide) rfl) (by decide) ?_
          refine gw_ld rfl rfl ?_
          refine z_C (m := 1) rfl rfl (fun x64 ex64 => ?_)
          refine z_sub (by omega) (fun x65 ex65 => ?_)
          refine z_ia (n := 288) (zT S2 (by decide) rfl) (zN S2 (by decide) rfl) (by omega) ?_
          generalize ex66 : ez_I h2 110 x65.toInt.toNat = x66
          have rx66 := z_rng x66
          have yx66 := (A_sh x65.toInt.toNat (by omega) (by omega)).1
          rw [ex66] at yx66
          have w69 : x66 = x50 := ex66.symm.trans ((congrArg (ez_I h2 110) (by omega)).trans ex50)
          refine z_is (n := 288) (zT S2 (by decide) rfl) (zN S2 (by decide) rfl) (by omega) (fun h67 e68 => ?_)
          have S69 := zSh_set S2 e68
          have F70 := zG_setA F e68 (by decide) (by omega)
          have A71 : aR (ez_I h67 w) (s.toInt.toNat + 1) 0 0 := by rw [zI_fn e68 w (by omega)]; exact A_to
          have A72 : syH (ez_I h67 110) n.toInt.toNat (k.toInt.toNat - 1) s.toInt := syH_mv A_sh e68 (by omega) (show ez_I _ 110 (k.toInt.toNat - 1) = _ by rw [← ex66]; congr 1; omega) (by omega) (by omega)
          have A73 : soH (kyf (ez_I h u) (ez_I h67 110)) n.toInt.toNat (k.toInt.toNat - 1) (kyU (ez_I h u) s.toInt.toNat) := soH_mvY A_sH e68 (by omega) (show ez_I _ 110 (k.toInt.toNat - 1) = _ by rw [← ex66]; congr 1; omega) (by omega) (by omega) (show ez_I h u x66.toInt.toNat = x51 by rw [w69]; exact ex51) ex52 (by omega) (by omega) (by omega)
          have A74 : cPH (ez_I h u) (ez_I h67 110) n.toInt.toNat (k.toInt.toNat - 1) s.toInt.toNat := cPH_mv A_cH e68 (by omega) (show ez_I _ 110 (k.toInt.toNat - 1) = _ by rw [← ex66]; congr 1; omega) (by omega) (by omega)
          refine z_inc rfl (by rw [show ((-1) : Int32).toInt = (-1) from rfl]; omega) (fun x75 ex75 => ?_)
          rw [show ((-1) : Int32).toInt = (-1) from rfl] at ex75
          show ez_gw _ _ _ _ _ _ _ _ [some (.ref 71), some (.ref u), some (.int al), some (.int li), some (.ref w), some (.int n), some (.int s), some (.int x75), l8, l9, l10, l11, l12] _ _ _
          refine z_go ?_
          exact ih.2 h67 n s x75 (l8) (l9) (l10) (l11) (l12) F70 (by omega) (aR_le A71 (by omega)) ((by rw [show x75.toInt.toNat = (k.toInt.toNat - 1) by omega]; exact A72)) ((by rw [show x75.toInt.toNat = (k.toInt.toNat - 1) by omega]; exact A73)) ((by rw [show x75.toInt.toNat = (k.toInt.toNat - 1) by omega]; exact A74)) (by omega)
set_option maxRecDepth 4000 in
set_option maxHeartbeats 20000000 in
theorem m_lenF {E : Nat → Nat × (Nat → Int32)} {d : Nat} {Q : ez_Q} {h : ez_H} {u : Nat} {al : Int32} {li : Int32} {w : Nat} (S : zSh h) {nu nw : Nat} {mx : Int} (hu : zA u nu) (hw : zA w nw) (hd : (u < 110 ∨ 114 < u) ∧ u ≠ 71 ∧ u ≠ w ∧ (w < 110 ∨ 114 < w) ∧ w ≠ 71) (hn : 1 ≤ al.toInt ∧ al.toInt ≤ nu ∧ al.toInt ≤ nw ∧ al.toInt ≤ 288 ∧ nu ≤ 1000 ∧ nw ≤ 1000) (hl : 1 ≤ li.toInt ∧ li.toInt ≤ 15) (hU : aR (ez_I h u) al.toInt.toNat 0 mx) (hmx : 0 ≤ mx ∧ mx ≤ 1000000) (hmB : (al.toInt.toNat : Int) * mx ≤ 100000000) (hP : (poC (ez_I h u) al.toInt.toNat : Int) ≤ 2 ^ li.toInt.toNat) (K : ∀ h2, zG (fun _ => False) (fun q => 110 ≤ q ∧ q ≤ 114 ∨ q = w) h h2 → lnP (ez_I h u) (ez_I h2 w) al.toInt.toNat li.toInt.toNat → Q (.inl none) h2) : pw E (d + 1) 36 0 [some (.ref 71), some (.ref u), some (.int al), some (.int li), some (.ref w), none, none, none, none, none, none, none, none] [] h Q := by
  have gal := z_rng al
  have gli := z_rng li
  have F := zG_refl (fun _ => False) (fun q => 110 ≤ q ∧ q ≤ 114 ∨ q = w) h
  apply ez_Wp_in
  show ez_gw _ _ _ _ _ _ (cz_36) _ _ _ _ _
  refine gw_skip _ ?_
  refine z_C (m := 0) rfl rfl (fun x1 ex1 => ?_)
  refine gw_st rfl rfl rfl ?_
  show ez_gw _ _ _ _ _ _ _ _ [some (.ref 71), some (.ref u), some (.int al), some (.int li), some (.ref w), some (.int x1), none, none, none, none, none, none, none] _ _ _
  refine z_C (m := 0) rfl rfl (fun x2 ex2 => ?_)
  refine gw_st rfl rfl rfl ?_
  show ez_gw _ _ _ _ _ _ _ _ [some (.ref 71), some (.ref u), some (.int al), some (.int li), some (.ref w), some (.int x1), some (.int x2), none, none, none, none, none, none] _ _ _
  exact ez_Wp_at ((m_lenF_L0 (u := u) (al := al) (li := li) (w := w) S hu hw hd hn hl hU hmx hmB hP K (((1000 * (1000 - x2.toInt))).toNat + 1)).1 h x1 x2 (none) (none) (none) (none) (none) (none) F (by omega) ((by rw [show x2.toInt.toNat = 0 by omega]; exact aR_0 _ _ _)) (syI_0 (by omega)) ((by rw [show x1.toInt.toNat = 0 by omega]; exact fun i hi => by omega)) (cP_0 (by omega) (by omega)) (by omega)) rfl
