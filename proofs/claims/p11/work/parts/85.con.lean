/-! lengths in the model: rows of holds, their sums -/
def hp (H : Nat → Int32) (a b o : Int) (j : Nat) : Int := if 0 ≤ o then (if (j : Int) = o then 1 else 0) else (H (288 * a.toNat + j)).toInt + (H (288 * b.toNat + j)).toInt
def pN (G G0 H : Nat → Int32) (k : Nat) (a b o : Int) (j : Nat) : Prop := (∀ i, i < 288 * k → G i = G0 i) ∧ ∀ i, i < j → (G (288 * k + i)).toInt = hp H a b o i
theorem pN_0 {G H : Nat → Int32} {k : Nat} {a b o : Int} : pN G G H k a b o 0 := ⟨fun _ _ => rfl, fun i hi => by omega⟩
theorem pN_up {h h2 : ez_H} {G0 H : Nat → Int32} {k j x : Nat} {a b o : Int} {y : Int32} (A : pN (ez_I h 114) G0 H k a b o j) (e : h2 = ez_setI h 114 x y) (hx : x = 288 * k + j) (hy : y.toInt = hp H a b o j) : pN (ez_I h2 114) G0 H k a b o (j + 1) := by
  subst e; subst hx
  refine ⟨fun i hi => ?_, fun i hi => ?_⟩
  · rw [ez_I_set_ne (by omega)]; exact A.1 i hi
  · by_cases q : i = j
    · subst q; rw [ez_I_set_eq]; exact hy
    · rw [ez_I_set_ne (by omega)]; exact A.2 i (by omega)
theorem hp_1 {H : Nat → Int32} {a b o : Int} {j : Nat} {y : Int} (ho : 0 ≤ o) (h : (j : Int) = o ∧ y = 1 ∨ (j : Int) ≠ o ∧ y = 0) : y = hp H a b o j := by
  unfold hp
  simp only [ho, ↓reduceIte]
  rcases h with ⟨h1, h2⟩ | ⟨h1, h2⟩ <;> simp only [h1, h2, ↓reduceIte]
theorem hp_2 {H : Nat → Int32} {a b o : Int} {j ia ib : Nat} {y : Int} {va vb : Int32} (ho : o < 0) (ha : H ia = va) (hb : H ib = vb) (ea : ia = 288 * a.toNat + j) (eb : ib = 288 * b.toNat + j) (h : y = va.toInt + vb.toInt) : y = hp H a b o j := by
  unfold hp
  have : ¬ 0 ≤ o := by omega
  simp only [this, ↓reduceIte]
  subst ea; subst eb
  rw [ha, hb]; exact h
/-- rows of n: no entry below 0, the first k rows' sum at j at most g j -/
def hS (H : Nat → Int32) (j k : Nat) : Int := sm (fun i => (H (288 * i + j)).toInt) k
def hQ (H : Nat → Int32) (n k : Nat) (g : Nat → Int) : Prop := ∀ j, j < n → (∀ i, i < k → 0 ≤ (H (288 * i + j)).toInt) ∧ hS H j k ≤ g j
theorem hQ_0 {H : Nat → Int32} {n : Nat} {g : Nat → Int} (h : ∀ j, j < n → 0 ≤ g j) : hQ H n 0 g := fun j hj => ⟨fun i hi => by omega, h j hj⟩
theorem hQ_g {H : Nat → Int32} {n k : Nat} {g g' : Nat → Int} (A : hQ H n k g) (h : ∀ j, j < n → g j ≤ g' j) : hQ H n k g' := fun j hj => ⟨(A j hj).1, Int.le_trans (A j hj).2 (h j hj)⟩
theorem hS_congr {H H' : Nat → Int32} {j k : Nat} (h : ∀ i, i < k → H' (288 * i + j) = H (288 * i + j)) : hS H' j k = hS H j k := sm_congr (fun i hi => by rw [h i hi])
theorem hQ_congr {H H' : Nat → Int32} {n k : Nat} {g : Nat → Int} (A : hQ H n k g) (h : ∀ i j, i < k → j < n → H' (288 * i + j) = H (288 * i + j)) : hQ H' n k g := fun j hj => ⟨fun i hi => by rw [h i j hi hj]; exact (A j hj).1 i hi, by rw [hS_congr (fun i hi => h i j hi hj)]; exact (A j hj).2⟩
theorem hQ_row {H : Nat → Int32} {n k : Nat} {g v : Nat → Int} (A : hQ H n k g) (hv : ∀ j, j < n → (H (288 * k + j)).toInt = v j ∧ 0 ≤ v j) : hQ H n (k + 1) (fun j => g j + v j) := fun j hj => by
  obtain ⟨a, b⟩ := A j hj
  obtain ⟨c, e⟩ := hv j hj
  refine ⟨fun i hi => ?_, ?_⟩
  · by_cases q : i = k
    · subst q; rw [c]; exact e
    · exact a i (by omega)
  · show hS H j k + (H (288 * k + j)).toInt ≤ g j + v j
    rw [c]; omega
theorem hQ_ent {H : Nat → Int32} {n k : Nat} {c : Int} (A : hQ H n k (fun _ => c)) {i j : Nat} (hi : i < k) (hj : j < n) : 0 ≤ (H (288 * i + j)).toInt ∧ (H (288 * i + j)).toInt ≤ c := by
  obtain ⟨a, b⟩ := A j hj
  refine ⟨a i hi, Int.le_trans ?_ b⟩
  have h1 : hS H j (i + 1) ≤ hS H j k := sm_mono (by omega) (fun q hq => a q hq)
  have h2 : 0 ≤ hS H j i := sm_nonneg (fun q hq => a q (by omega))
  have h3 : hS H j (i + 1) = hS H j i + (H (288 * i + j)).toInt := rfl
  omega
/-- a write behind the first k rows -/
theorem hQ_w {h h2 : ez_H} {c x n k : Nat} {v : Int32} {g : Nat → Int} (A : hQ (ez_I h c) n k g) (e : h2 = ez_setI h c x v) (hx : 288 * k ≤ x) (hn : n ≤ 288) : hQ (ez_I h2 c) n k g := hQ_congr A (fun i j hi hj => zI_ne e (by
  have : 288 * (i + 1) ≤ 288 * k := Nat.mul_le_mul_left 288 hi
  omega))
/-- the part of a row that stands -/
def rwI (H : Nat → Int32) (k : Nat) (v : Nat → Int) (j : Nat) : Prop := ∀ i, i < j → (H (288 * k + i)).toInt = v i
theorem rwI_0 {H : Nat → Int32} {k j : Nat} {v : Nat → Int} (h : j = 0) : rwI H k v j := fun i hi => by omega
theorem rwI_up {h h2 : ez_H} {c k j x : Nat} {y : Int32} {v : Nat → Int} (A : rwI (ez_I h c) k v j) (e : h2 = ez_setI h c x y) (hx : x = 288 * k + j) (hy : y.toInt = v j) : rwI (ez_I h2 c) k v (j + 1) := fun i hi => by
  subst e; subst hx
  by_cases q : i = j
  · subst q; rw [ez_I_set_eq]; exact hy
  · rw [ez_I_set_ne (by omega)]; exact A i (by omega)
def unit1 (k j : Nat) : Int := if j = k then 1 else 0
def lt1 (k : Int) (j : Nat) : Int := if (j : Int) < k then 1 else 0
theorem lt1_up (k j : Nat) : lt1 k j + unit1 k j = lt1 ((k : Int) + 1) j := by
  unfold lt1 unit1
  split <;> split <;> split <;> omega
theorem unit1_nn (k j : Nat) : 0 ≤ unit1 k j := by unfold unit1; split <;> omega
theorem unit1_of {k j : Nat} {y : Int} (h : j = k ∧ y = 1 ∨ j ≠ k ∧ y = 0) : y = unit1 k j := by
  unfold unit1
  rcases h with ⟨h1, h2⟩ | ⟨h1, h2⟩ <;> simp only [h1, h2, ↓reduceIte]
theorem hQ_init {H : Nat → Int32} {n k : Nat} {m : Int} (A : hQ H n k (lt1 k)) (B : rwI H k (unit1 k) n) (hm : m = (k : Int) + 1) : hQ H n (k + 1) (lt1 m) := hQ_g (hQ_row A (fun j hj => ⟨B j hj, unit1_nn k j⟩)) (fun j _ => by rw [hm, ← lt1_up]; exact Int.le_refl _)
theorem hQ_one {H : Nat → Int32} {n k : Nat} {m : Int} (A : hQ H n k (lt1 m)) : hQ H n k (fun _ => 1) := hQ_g A (fun j _ => by unfold lt1; split <;> omega)
/-- a turn: packages out of the list before -/
def tQ (G H : Nat → Int32) (n k : Nat) (s p : Int) : Prop := hQ G n k (fun j => lt1 s j + hS H j p.toNat)
theorem tQ_0 {G H : Nat → Int32} {n k : Nat} {s p : Int} (hk : k = 0) (hs : s = 0) (hp' : p = 0) : tQ G H n k s p := by
  subst hk; subst hs; subst hp'
  exact hQ_0 (fun j _ => by unfold lt1; show 0 ≤ (if (j : Int) < 0 then (1 : Int) else 0) + 0; split <;> omega)
theorem tQ_s {G G' H : Nat → Int32} {n k : Nat} {s s' p a b o : Int} (A : tQ G H n k s p) (B : pN G' G H k a b o n) (hn : n ≤ 288) (hs : 0 ≤ s) (ho : o = s) (h' : s' = s + 1) : tQ G' H n (k + 1) s' p := by
  subst ho; subst h'
  have A' : hQ G' n k (fun j => lt1 o j + hS H j p.toNat) := hQ_congr A (fun i j hi hj => B.1 _ (by
    have : 288 * (i + 1) ≤ 288 * k := Nat.mul_le_mul_left 288 hi
    omega))
  refine hQ_g (hQ_row (v := unit1 o.toNat) A' (fun j hj => ⟨?_, unit1_nn _ j⟩)) (fun j _ => ?_)
  · rw [B.2 j hj]
    unfold hp unit1
    simp only [hs, ↓reduceIte]
    split <;> split <;> omega
  · have := lt1_up o.toNat j
    rw [show ((o.toNat : Nat) : Int) = o by omega] at this
    omega
theorem tQ_p {G G' H : Nat → Int32} {n k : Nat} {s p p' a b o c : Int} {r : Nat} (A : tQ G H n k s p) (B : pN G' G H k a b o n) (R : hQ H n r (fun _ => c)) (hn : n ≤ 288) (hp0 : 0 ≤ p) (hr : p + 1 < r) (ho : o < 0) (ha : a = p) (hb : b = p + 1) (h' : p' = p + 2) : tQ G' H n (k + 1) s p' := by
  subst ha; subst hb; subst h'
  have A' : hQ G' n k (fun j => lt1 s j + hS H j a.toNat) := hQ_congr A (fun i j hi hj => B.1 _ (by
    have : 288 * (i + 1) ≤ 288 * k := Nat.mul_le_mul_left 288 hi
    omega))
  refine hQ_g (hQ_row (v := fun j => (H (288 * a.toNat + j)).toInt + (H (288 * (a + 1).toNat + j)).toInt) A' (fun j hj => ⟨?_, ?_⟩)) (fun j hj => ?_)
  · rw [B.2 j hj]
    unfold hp
    have : ¬ 0 ≤ o := by omega
    simp only [this, ↓reduceIte]
  · have h1 := (R j hj).1 a.toNat (by omega)
    have h2 := (R j hj).1 (a + 1).toNat (by omega)
    show 0 ≤ (H (288 * a.toNat + j)).toInt + (H (288 * (a + 1).toNat + j)).toInt
    omega
  · show lt1 s j + hS H j a.toNat + ((H (288 * a.toNat + j)).toInt + (H (288 * (a + 1).toNat + j)).toInt) ≤ lt1 s j + hS H j (a + 2).toNat
    rw [show (a + 2).toNat = a.toNat + 1 + 1 by omega, show (a + 1).toNat = a.toNat + 1 by omega]
    have e1 : hS H j (a.toNat + 1 + 1) = hS H j a.toNat + (H (288 * a.toNat + j)).toInt + (H (288 * (a.toNat + 1) + j)).toInt := rfl
    rw [e1]
    omega
theorem tQ_end {G H : Nat → Int32} {n k r : Nat} {s p c c' : Int} (A : tQ G H n k s p) (R : hQ H n r (fun _ => c)) (hp0 : p.toNat ≤ r) (hc : c' = c + 1) : hQ G n k (fun _ => c') := hQ_g A (fun j hj => by
  have h1 := (R j hj).2
  have h2 : hS H j p.toNat ≤ hS H j r := sm_mono hp0 (fun q hq => (R j hj).1 q hq)
  have h1' : hS H j r ≤ c := h1
  unfold lt1
  split <;> omega)
/-- rows copied -/
def cpI (H G : Nat → Int32) (n i : Nat) : Prop := ∀ a j, a < i → j < n → H (288 * a + j) = G (288 * a + j)
def cpR (H G : Nat → Int32) (i j : Nat) : Prop := ∀ b, b < j → H (288 * i + b) = G (288 * i + b)
theorem cpI_0 {H G : Nat → Int32} {n i : Nat} (h : i = 0) : cpI H G n i := fun a j ha => by omega
theorem cpR_0 {H G : Nat → Int32} {i j : Nat} (h : j = 0) : cpR H G i j := fun a ha => by omega
theorem cpI_s {H G : Nat → Int32} {n i m : Nat} (A : cpI H G n i) (B : cpR H G i n) (hm : m = i + 1) : cpI H G n m := fun a j ha hj => by
  by_cases q : a = i
  · subst q; exact B j hj
  · exact A a j (by omega) hj
theorem cpI_w {h h2 : ez_H} {n i x : Nat} {y : Int32} (A : cpI (ez_I h 113) (ez_I h 114) n i) (e : h2 = ez_setI h 113 x y) (hx : 288 * i ≤ x) (hn : n ≤ 288) : cpI (ez_I h2 113) (ez_I h2 114) n i := fun a j ha hj => by
  rw [zI_ne e (by have : 288 * (a + 1) ≤ 288 * i := Nat.mul_le_mul_left 288 ha; omega), zI_ne e (by omega)]
  exact A a j ha hj
theorem cpR_w {h h2 : ez_H} {i j x z : Nat} {y : Int32} (A : cpR (ez_I h 113) (ez_I h 114) i j) (e : h2 = ez_setI h 113 x y) (hx : x = 288 * i + j) (ey : ez_I h 114 z = y) (hz : z = 288 * i + j) : cpR (ez_I h2 113) (ez_I h2 114) i (j + 1) := fun b hb => by
  subst hx; subst hz
  rw [zI_ne (q := 114) e (by omega)]
  by_cases q : b = j
  · subst q; rw [zI_eq e]; exact ey.symm
  · rw [zI_ne e (by omega)]; exact A b (by omega)
theorem hQ_cp {H G : Nat → Int32} {n i r : Nat} {g : Nat → Int} (A : hQ G n r g) (B : cpI H G n i) (h : r ≤ i) : hQ H n r g := hQ_congr A (fun a j ha hj => B a j (by omega) hj)
/-- the symbols told apart -/
def syI (f : Nat → Int32) (n : Nat) (s : Int) : Prop := ∀ i, i < n → (0 ≤ (f i).toInt ∧ (f i).toInt < s) ∧ ∀ j, j < n → j ≠ i → (f i).toInt ≠ (f j).toInt
def syH (f : Nat → Int32) (n k : Nat) (s : Int) : Prop := ∀ i, i ≤ n → i ≠ k → (0 ≤ (f i).toInt ∧ (f i).toInt < s) ∧ ∀ j, j ≤ n → j ≠ k → j ≠ i → (f i).toInt ≠ (f j).toInt
theorem syI_0 {f : Nat → Int32} {n : Nat} {s : Int} (h : n = 0) : syI f n s := fun i hi => by omega
theorem syI_le {f : Nat → Int32} {n : Nat} {s s' : Int} (A : syI f n s) (h : s ≤ s') : syI f n s' := fun i hi => ⟨by have := (A i hi).1; omega, (A i hi).2⟩
theorem syH_of {f : Nat → Int32} {n k : Nat} {s : Int} (A : syI f n s) (hk : k = n) : syH f n k s := fun i hi hne => ⟨(A i (by omega)).1, fun j hj hj2 hji => (A i (by omega)).2 j (by omega) hji⟩
theorem syH_mv {h h2 : ez_H} {n k x q : Nat} {s : Int} {y : Int32} (A : syH (ez_I h 110) n k s) (e : h2 = ez_setI h 110 x y) (hx : x = k) (ey : ez_I h 110 q = y) (hq : q + 1 = k) (hk : k ≤ n) : syH (ez_I h2 110) n q s := by
  subst hx
  have f : ∀ i, i ≠ x → ez_I h2 110 i = ez_I h 110 i := fun i hi => zI_ne e (by omega)
  have g : ez_I h2 110 x = ez_I h 110 q := (zI_eq e).trans ey.symm
  intro i hi hne
  by_cases c : i = x
  · subst c
    rw [g]
    refine ⟨(A q (by omega) (by omega)).1, fun j hj hj2 hji => ?_⟩
    rw [f j hji]
    exact (A q (by omega) (by omega)).2 j hj hji hj2
  · rw [f i c]
    refine ⟨(A i hi c).1, fun j hj hj2 hji => ?_⟩
    by_cases c2 : j = x
    · subst c2
      rw [g]
      exact (A i hi c).2 q (by omega) (by omega) (by omega)
    · rw [f j c2]
      exact (A i hi c).2 j hj c2 hji
theorem syH_fin {h h2 : ez_H} {n k x m : Nat} {s s' : Int} {y : Int32} (A : syH (ez_I h 110) n k s) (e : h2 = ez_setI h 110 x y) (hx : x = k) (hy : y.toInt = s) (h0 : 0 ≤ s) (hs : s' = s + 1) (hm : m = n + 1) : syI (ez_I h2 110) m s' := by
  subst hx
  have f : ∀ i, i ≠ x → ez_I h2 110 i = ez_I h 110 i := fun i hi => zI_ne e (by omega)
  have g : ez_I h2 110 x = y := zI_eq e
  intro i hi
  by_cases c : i = x
  · subst c
    rw [g]
    refine ⟨by omega, fun j hj hji => ?_⟩
    rw [f j hji]
    have := (A j (by omega) hji).1
    omega
  · rw [f i c]
    have a := A i (by omega) c
    refine ⟨by have := a.1; omega, fun j hj hji => ?_⟩
    by_cases c2 : j = x
    · subst c2
      rw [g]
      have := a.1
      omega
    · rw [f j c2]
      exact a.2 j (by omega) c2 hji
/-- how many packages there are -/
def eH (n r : Int) (t : Int) : Prop := (2 * n - r) * 2 ^ (t.toNat - 1) ≤ n + 2 ^ (t.toNat - 1) - 1
theorem eH_1 {n r t : Int} (h : r = n) (ht : t = 1) : eH n r t := by
  subst h; subst ht
  unfold eH
  show (2 * r - r) * 1 ≤ r + 1 - 1
  omega
theorem eH_up {n r t r' t' p k : Int} (A : eH n r t) (h1 : 1 ≤ t) (h2 : p ≤ r ∧ r ≤ p + 1) (hk : 2 * k = 2 * n + p) (hr : r' = k) (ht : t' = t + 1) : eH n r' t' := by
  subst hr; subst ht
  unfold eH at A ⊢
  rw [show (t + 1).toNat - 1 = (t.toNat - 1) + 1 by omega, Int.pow_succ]
  have hP : (0 : Int) < 2 ^ (t.toNat - 1) := Int.pow_pos (by decide)
  generalize (2 : Int) ^ (t.toNat - 1) = P at *
  have e1 : (2 * n - r') * (P * 2) = (2 * (2 * n - r')) * P := by
    rw [Int.mul_comm P 2, ← Int.mul_assoc, Int.mul_comm (2 * n - r') 2]
  have e2 : 2 * (2 * n - r') ≤ (2 * n - r) + 1 := by omega
  have e3 : (2 * (2 * n - r')) * P ≤ ((2 * n - r) + 1) * P := Int.mul_le_mul_of_nonneg_right e2 (by omega)
  rw [Int.add_mul, Int.one_mul] at e3
  omega
theorem eH_end {n r t li al : Int} (A : eH n r t) (ht : t = li) (h1 : 1 ≤ li) (hn : n ≤ al) (hal : al ≤ 2 ^ li.toNat) : 2 * n - 2 ≤ r := by
  subst ht
  unfold eH at A
  rw [show t.toNat = (t.toNat - 1) + 1 by omega, Int.pow_succ] at hal
  have hP : (0 : Int) < 2 ^ (t.toNat - 1) := Int.pow_pos (by decide)
  generalize (2 : Int) ^ (t.toNat - 1) = P at *
  by_cases c : 2 * n - r ≤ 2
  · omega
  · have : 3 * P ≤ (2 * n - r) * P := Int.mul_le_mul_of_nonneg_right (by omega) (by omega)
    omega
/-- the lengths added up -/
def fI (W Y H : Nat → Int32) (al n i j : Nat) : Prop := (∀ q, q < n → (W (Y q).toInt.toNat).toInt = hS H q i + (if q < j then (H (288 * i + q)).toInt else 0)) ∧ ∀ s : Nat, s < al → (∀ q, q < n → (Y q).toInt ≠ s) → (W s).toInt = 0
theorem fI_0 {W Y H : Nat → Int32} {al n i j : Nat} {s : Int} (A : aR W al 0 0) (B : syI Y n s) (hs : s ≤ al) (hi : i = 0) (hj : j = 0) : fI W Y H al n i j := by
  subst hi; subst hj
  refine ⟨fun q hq => ?_, fun q hq _ => ?_⟩
  · have b := (B q hq).1
    have := A (Y q).toInt.toNat (by omega)
    show _ = (0 : Int) + _
    have c : ¬ q < 0 := by omega
    simp only [c, ↓reduceIte]
    omega
  · have := A q hq
    omega
theorem fI_nx {W Y H : Nat → Int32} {al n i i' j j' : Nat} (A : fI W Y H al n i j) (hj : n ≤ j) (hi : i' = i + 1) (h' : j' = 0) : fI W Y H al n i' j' := by
  subst hi; subst h'
  refine ⟨fun q hq => ?_, A.2⟩
  rw [A.1 q hq]
  have c : q < j := by omega
  have c2 : ¬ q < 0 := by omega
  simp only [c, c2, ↓reduceIte]
  show _ = hS H q i + (H (288 * i + q)).toInt + 0
  omega
theorem fI_w {h h2 : ez_H} {w al n i j x z : Nat} {c : Int} {v o y d : Int32} {r : Nat} (A : fI (ez_I h w) (ez_I h 110) (ez_I h 113) al n i j) (e : h2 = ez_setI h w x d) (hw : w ≠ 110 ∧ w ≠ 113) (B : syI (ez_I h 110) n c) (hj : j < n) (ev : ez_I h 110 j = v) (hx : x = v.toInt.toNat) (eo : ez_I h w x = o) (ey : ez_I h 113 z = y) (hz : z = 288 * i + j) (R : hQ (ez_I h 113) n r (fun _ => 15)) (hr : i < r) (hd : d = o + y) : fI (ez_I h2 w) (ez_I h2 110) (ez_I h2 113) al n i (j + 1) := by
  rw [zI_fn e 110 (fun q => hw.1 q.symm), zI_fn e 113 (fun q => hw.2 q.symm)]
  subst hz
  have ho : o.toInt = hS (ez_I h 113) j i := by
    have := A.1 j hj
    have c : ¬ j < j := by omega
    simp only [c, ↓reduceIte] at this
    rw [ev, ← hx, eo] at this
    omega
  have hs1 : hS (ez_I h 113) j (i + 1) ≤ 15 := Int.le_trans (sm_mono (by omega) (fun q hq => (R j hj).1 q hq)) (R j hj).2
  have hs0 : 0 ≤ hS (ez_I h 113) j i := sm_nonneg (fun q hq => (R j hj).1 q (by omega))
  have hy0 := (R j hj).1 i hr
  rw [ey] at hy0
  have hse : hS (ez_I h 113) j (i + 1) = hS (ez_I h 113) j i + y.toInt := by
    show hS (ez_I h 113) j i + (ez_I h 113 (288 * i + j)).toInt = _
    rw [ey]
  have hdt : d.toInt = o.toInt + y.toInt := by
    rw [hd]; exact z_toInt_add (by omega)
  refine ⟨fun q hq => ?_, fun s hs hne => ?_⟩
  · by_cases c : q = j
    · subst c
      rw [ev, ← hx, zI_eq e]
      have c2 : q < q + 1 := by omega
      simp only [c2, ↓reduceIte]
      rw [ey]
      omega
    · have b := (B q hq).2 j hj (fun z => c z.symm)
      rw [ev] at b
      have b1 := (B q hq).1
      have b2 := (B j hj).1
      rw [ev] at b2
      rw [zI_ne e (by omega), A.1 q hq]
      by_cases c2 : q < j
      · have c3 : q < j + 1 := by omega
        simp only [c2, c3, ↓reduceIte]
      · have c3 : ¬ q < j + 1 := by omega
        simp only [c2, c3, ↓reduceIte]
  · have b2 := (B j hj).1
    rw [ev] at b2
    have := hne j hj
    rw [ev] at this
    rw [zI_ne e (by omega)]
    exact A.2 s hs hne
/-- the first row holds something -/
def hE (H : Nat → Int32) (n : Nat) : Prop := ∃ j, j < n ∧ 1 ≤ (H j).toInt
/-! PRINTED by wip/p17/con12.py: contracts of the model, smaller methods of packing -/
