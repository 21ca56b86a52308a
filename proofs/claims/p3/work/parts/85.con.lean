/-! lengths in the model: rows of holds, their sums -/
def hp (H : Nat → Int32) (a b o : Int) (j : Nat) : Int := if 0 ≤ o then (if (j : Int) = o then 1 else 0) else (H (288 * a.toNat + j)).toInt + (H (288 * b.toNat + j)).toInt
def pN (G G0 H : Nat → Int32) (k : Nat) (a b o : Int) (j : Nat) : Prop := (∀ i, i < 288 * k → G i = G0 i) ∧ ∀ i, i < j → (G (288 * k + i)).toInt = hp H a b o i
theorem pN_0 {G H : Nat → Int32} {k : Nat} {a b o : Int} : pN G G H k a b o 0 := ⟨fun _ _ => rfl, fun i hi => by omega⟩
theorem pN_up {h h2 : ez_H} {G0 H : Nat → Int32} {k j x : Nat} {a b o : Int} {y : Int32} (A : pN (ez_I h 114) G0 H k a b o j) (e : h2 = ez_setI h 114 x y) (hx : x = 288 * k + j) (hy : y.toInt = hp H a b o j) : pN (ez_I h2 114) G0 H k a b o (j + 1) := by
  subst e; subst hx
  refine ⟨fun i hi => ?_, fun i hi => ?_⟩
  · rw [ez_I_set_ne (by omega)]; exact A.1 i hi
  · by_cases q : i = j
    · subst q; rw [ez_I_set_eq]; exact hy
    · rw [ez_I_set_ne (by omega)]; exact A.2 i (by omega)
theorem hp_1 {H : Nat → Int32} {a b o : Int} {j : Nat} {y : Int} (ho : 0 ≤ o) (h : (j : Int) = o ∧ y = 1 ∨ (j : Int) ≠ o ∧ y = 0) : y = hp H a b o j := by
  unfold hp
  simp only [ho, ↓reduceIte]
  rcases h with ⟨h1, h2⟩ | ⟨h1, h2⟩ <;> simp only [h1, h2, ↓reduceIte]
theorem hp_2 {H : Nat → Int32} {a b o : Int} {j ia ib : Nat} {y : Int} {va vb : Int32} (ho : o < 0) (ha : H ia = va) (hb : H ib = vb) (ea : ia = 288 * a.toNat + j) (eb : ib = 288 * b.toNat + j) (h : y = va.toInt + vb.toInt) : y = hp H a b o j := by
  unfold hp
  have : ¬ 0 ≤ o := by omega
  simp only [this, ↓reduceIte]
  subst ea; subst eb
  rw [ha, hb]; exact h
/-- rows of n: no entry below 0, the first k rows' sum at j at most g j -/
def hS (H : Nat → Int32) (j k : Nat) : Int := sm (fun i => (H (288 * i + j)).toInt) k
def hQ (H : Nat → Int32) (n k : Nat) (g : Nat → Int) : Prop := ∀ j, j < n → (∀ i, i < k → 0 ≤ (H (288 * i + j)).toInt) ∧ hS H j k ≤ g j
theorem hQ_0 {H : Nat → Int32} {n : Nat} {g : Nat → Int} (h : ∀ j, j < n → 0 ≤ g j) : hQ H n 0 g := fun j hj => ⟨fun i hi => by omega, h j hj⟩
theorem hQ_g {H : Nat → Int32} {n k : Nat} {g g' : Nat → Int} (A : hQ H n k g) (h : ∀ j, j < n → g j ≤ g' j) : hQ H n k g' := fun j hj => ⟨(A j hj).1, Int.le_trans (A j hj).2 (h j hj)⟩
theorem hS_congr {H H' : Nat → Int32} {j k : Nat} (h : ∀ i, i < k → H' (288 * i + j) = H (288 * i + j)) : hS H' j k = hS H j k := sm_congr (fun i hi => by rw [h i hi])
theorem hQ_congr {H H' : Nat → Int32} {n k : Nat} {g : Nat → Int} (A : hQ H n k g) (h : ∀ i j, i < k → j < n → H' (288 * i + j) = H (288 * i + j)) : hQ H' n k g := fun j hj => ⟨fun i hi => by rw [h i j hi hj]; exact (A j hj).1 i hi, by rw [hS_congr (fun i hi => h i j hi hj)]; exact (A j hj).2⟩
theorem hQ_row {H : Nat → Int32} {n k : Nat} {g v : Nat → Int} (A : hQ H n k g) (hv : ∀ j, j < n → (H (288 * k + j)).toInt = v j ∧ 0 ≤ v j) : hQ H n (k + 1) (fun j => g j + v j) := fun j hj => by
  obtain ⟨a, b⟩ := A j hj
  obtain ⟨c, e⟩ := hv j hj
  refine ⟨fun i hi => ?_, ?_⟩
  · by_cases q : i = k
    · subst q; rw [c]; exact e
    · exact a i (by omega)
  · show hS H j k + (H (288 * k + j)).toInt ≤ g j + v j
    rw [c]; omega
theorem hQ_ent {H : Nat → Int32} {n k : Nat} {c : Int} (A : hQ H n k (fun _ => c)) {i j : Nat} (hi : i < k) (hj : j < n) : 0 ≤ (H (288 * i + j)).toInt ∧ (H (288 * i + j)).toInt ≤ c := by
  obtain ⟨a, b⟩ := A j hj
  refine ⟨a i hi, Int.le_trans ?_ b⟩
  have h1 : hS H j (i + 1) ≤ hS H j k := sm_mono (by omega) (fun q hq => a q hq)
  have h2 : 0 ≤ hS H j i := sm_nonneg (fun q hq => a q (by omega))
  have h3 : hS H j (i + 1) = hS H j i + (H (288 * i + j)).toInt := rfl
  omega
/-- a write behind the first k rows -/
theorem hQ_w {h h2 : ez_H} {c x n k : Nat} {v : Int32} {g : Nat → Int} (A : hQ (ez_I h c) n k g) (e : h2 = ez_setI h c x v) (hx : 288 * k ≤ x) (hn : n ≤ 288) : hQ (ez_I h2 c) n k g := hQ_congr A (fun i j hi hj => zI_ne e (by
  have : 288 * (i + 1) ≤ 288 * k := Nat.mul_le_mul_left 288 hi
  omega))
/-- the part of a row that stands -/
def rwI (H : Nat → Int32) (k : Nat) (v : Nat → Int) (j : Nat) : Prop := ∀ i, i < j → (H (288 * k + i)).toInt = v i
theorem rwI_0 {H : Nat → Int32} {k j : Nat} {v : Nat → Int} (h : j = 0) : rwI H k v j := fun i hi => by omega
theorem rwI_up {h h2 : ez_H} {c k j x : Nat} {y : Int32} {v : Nat → Int} (A : rwI (ez_I h c) k v j) (e : h2 = ez_setI h c x y) (hx : x = 288 * k + j) (hy : y.toInt = v j) : rwI (ez_I h2 c) k v (j + 1) := fun i hi => by
  subst e; subst hx
  by_cases q : i = j
  · subst q; rw [ez_I_set_eq]; exact hy
  · rw [ez_I_set_ne (by omega)]; exact A i (by omega)
def unit1 (k j : Nat) : Int := if j = k then 1 else 0
def lt1 (k : Int) (j : Nat) : Int := if (j : Int) < k then 1 else 0
theorem lt1_up (k j : Nat) : lt1 k j + unit1 k j = lt1 ((k : Int) + 1) j := by
  unfold lt1 unit1
  split <;> split <;> split <;> omega
theorem unit1_nn (k j : Nat) : 0 ≤ unit1 k j := by unfold unit1; split <;> omega
theorem unit1_of {k j : Nat} {y : Int} (h : j = k ∧ y = 1 ∨ j ≠ k ∧ y = 0) : y = unit1 k j := by
  unfold unit1
  rcases h with ⟨h1, h2⟩ | ⟨h1, h2⟩ <;> simp only [h1, h2, ↓reduceIte]
theorem hQ_init {H : Nat → Int32} {n k : Nat} {m : Int} (A : hQ H n k (lt1 k)) (B : rwI H k (unit1 k) n) (hm : m = (k : Int) + 1) : hQ H n (k + 1) (lt1 m) := hQ_g (hQ_row A (fun j hj => ⟨B j hj, unit1_nn k j⟩)) (fun j _ => by rw [hm, ← lt1_up]; exact Int.le_refl _)
theorem hQ_one {H : Nat → Int32} {n k : Nat} {m : Int} (A : hQ H n k (lt1 m)) : hQ H n k (fun _ => 1) := hQ_g A (fun j _ => by unfold lt1; split <;> omega)
/-- a turn: packages out of the list before -/
def tQ (G H : Nat → Int32) (n k : Nat) (s p : Int) : Prop := hQ G n k (fun j => lt1 s j + hS H j p.toNat)
theorem tQ_0 {G H : Nat → Int32} {n k : Nat} {s p : Int} (hk : k = 0) (hs : s = 0) (hp' : p = 0) : tQ G H n k s p := by
  subst hk; subst hs; subst hp'
  exact hQ_0 (fun j _ => by unfold lt1; show 0 ≤ (if (j : Int) < 0 then (1 : Int) else 0) + 0; split <;> omega)
theorem tQ_s {G G' H : Nat → Int32} {n k : Nat} {s s' p a b o : Int} (A : tQ G H n k s p) (B : pN G' G H k a b o n) (hn : n ≤ 288) (hs : 0 ≤ s) (ho : o = s) (h' : s' = s + 1) : tQ G' H n (k + 1) s' p := by
  subst ho; subst h'
  have A' : hQ G' n k (fun j => lt1 o j + hS H j p.toNat) := hQ_congr A (fun i j hi hj => B.1 _ (by
    have : 288 * (i + 1) ≤ 288 * k := Nat.mul_le_mul_left 288 hi
    omega))
  refine hQ_g (hQ_row (v := unit1 o.toNat) A' (fun j hj => ⟨?_, unit1_nn _ j⟩)) (fun j _ => ?_)
  · rw [B.2 j hj]
    unfold hp unit1
    simp only [hs, ↓reduceIte]
    split <;> split <;> omega
  · have := lt1_up o.toNat j
    rw [show ((o.toNat : Nat) : Int) = o by omega] at this
    omega
theorem tQ_p {G G' H : Nat → Int32} {n k : Nat} {s p p' a b o c : Int} {r : Nat} (A : tQ G H n k s p) (B : pN G' G H k a b o n) (R : hQ H n r (fun _ => c)) (hn : n ≤ 288) (hp0 : 0 ≤ p) (hr : p + 1 < r) (ho : o < 0) (ha : a = p) (hb : b = p + 1) (h' : p' = p + 2) : tQ G' H n (k + 1) s p' := by
  subst ha; subst hb; subst h'
  have A' : hQ G' n k (fun j => lt1 s j + hS H j a.toNat) := hQ_congr A (fun i j hi hj => B.1 _ (by
    have : 288 * (i + 1) ≤ 288 * k := Nat.mul_le_mul_left 288 hi
    omega))
  refine hQ_g (hQ_row (v := fun j => (H (288 * a.toNat + j)).toInt + (H (288 * (a + 1).toNat + j)).toInt) A' (fun j hj => ⟨?_, ?_⟩)) (fun j hj => ?_)
  · rw [B.2 j hj]
    unfold hp
    have : ¬ 0 ≤ o := by omega
    simp only [this, ↓reduceIte]
  · have h1 := (R j hj).1 a.toNat (by omega)
    have h2 := (R j hj).1 (a + 1).toNat (by omega)
    show 0 ≤ (H (288 * a.toNat + j)).toInt + (H (288 * (a + 1).toNat + j)).toInt
    omega
  · show lt1 s j + hS H j a.toNat + ((H (288 * a.toNat + j)).toInt + (H (288 * (a + 1).toNat + j)).toInt) ≤ lt1 s j + hS H j (a + 2).toNat
    rw [show (a + 2).toNat = a.toNat + 1 + 1 by omega, show (a + 1).toNat = a.toNat + 1 by omega]
    have e1 : hS H j (a.toNat + 1 + 1) = hS H j a.toNat + (H (288 * a.toNat + j)).toInt + (H (288 * (a.toNat + 1) + j)).toInt := rfl
    rw [e1]
    omega
theorem tQ_end {G H : Nat → Int32} {n k r : Nat} {s p c c' : Int} (A : tQ G H n k s p) (R : hQ H n r (fun _ => c)) (hp0 : p.toNat ≤ r) (hc : c' = c + 1) : hQ G n k (fun _ => c') := hQ_g A (fun j hj => by
  have h1 := (R j hj).2
  have h2 : hS H j p.toNat ≤ hS H j r := sm_mono hp0 (fun q hq => (R j hj).1 q hq)
  have h1' : hS H j r ≤ c := h1
  unfold lt1
  split <;> omega)
/-- rows copied -/
def cpI (H G : Nat → Int32) (n i : Nat) : Prop := ∀ a j, a < i → j < n → H (288 * a + j) = G (288 * a + j)
def cpR (H G : Nat → Int32) (i j : Nat) : Prop := ∀ b, b < j → H (288 * i + b) = G (288 * i + b)
theorem cpI_0 {H G : Nat → Int32} {n i : Nat} (h : i = 0) : cpI H G n i := fun a j ha => by omega
theorem cpR_0 {H G : Nat → Int32} {i j : Nat} (h : j = 0) : cpR H G i j := fun a ha => by omega
theorem cpI_s {H G : Nat → Int32} {n i m : Nat} (A : cpI H G n i) (B : cpR H G i n) (hm : m = i + 1) : cpI H G n m := fun a j ha hj => by
  by_cases q : a = i
  · subst q; exact B j hj
  · exact A a j (by omega) hj
theorem cpI_w {h h2 : ez_H} {n i x : Nat} {y : Int32} (A : cpI (ez_I h 113) (ez_I h 114) n i) (e : h2 = ez_setI h 113 x y) (hx : 288 * i ≤ x) (hn : n ≤ 288) : cpI (ez_I h2 113) (ez_I h2 114) n i := fun a j ha hj => by
  rw [zI_ne e (by have : 288 * (a + 1) ≤ 288 * i := Nat.mul_le_mul_left 288 ha; omega), zI_ne e (by omega)]
  exact A a j ha hj
theorem cpR_w {h h2 : ez_H} {i j x z : Nat} {y : Int32} (A : cpR (ez_I h 113) (ez_I h 114) i j) (e : h2 = ez_setI h 113 x y) (hx : x = 288 * i + j) (ey : ez_I h 114 z = y) (hz : z = 288 * i + j) : cpR (ez_I h2 113) (ez_I h2 114) i (j + 1) := fun b hb => by
  subst hx; subst hz
  rw [zI_ne (q := 114) e (by omega)]
  by_cases q : b = j
  · subst q; rw [zI_eq e]; exact ey.symm
  · rw [zI_ne e (by omega)]; exact A b (by omega)
theorem hQ_cp {H G : Nat → Int32} {n i r : Nat} {g : Nat → Int} (A : hQ G n r g) (B : cpI H G n i) (h : r ≤ i) : hQ H n r g := hQ_congr A (fun a j ha hj => B a j (by omega) hj)
/-- the symbols told apart -/
def syI (f : Nat → Int32) (n : Nat) (s : Int) : Prop := ∀ i, i < n → (0 ≤ (f i).toInt ∧ (f i).toInt < s) ∧ ∀ j, j < n → j ≠ i → (f i).toInt ≠ (f j).toInt
def syH (f : Nat → Int32) (n k : Nat) (s : Int) : Prop := ∀ i, i ≤ n → i ≠ k → (0 ≤ (f i).toInt ∧ (f i).toInt < s) ∧ ∀ j, j ≤ n → j ≠ k → j ≠ i → (f i).toInt ≠ (f j).toInt
theorem syI_0 {f : Nat → Int32} {n : Nat} {s : Int} (h : n = 0) : syI f n s := fun i hi => by omega
theorem syI_le {f : Nat → Int32} {n : Nat} {s s' : Int} (A : syI f n s) (h : s ≤ s') : syI f n s' := fun i hi => ⟨by have := (A i hi).1; omega, (A i hi).2⟩
theorem syH_of {f : Nat → Int32} {n k : Nat} {s : Int} (A : syI f n s) (hk : k = n) : syH f n k s := fun i hi hne => ⟨(A i (by omega)).1, fun j hj hj2 hji => (A i (by omega)).2 j (by omega) hji⟩
theorem syH_mv {h h2 : ez_H} {n k x q : Nat} {s : Int} {y : Int32} (A : syH (ez_I h 110) n k s) (e : h2 = ez_setI h 110 x y) (hx : x = k) (ey : ez_I h 110 q = y) (hq : q + 1 = k) (hk : k ≤ n) : syH (ez_I h2 110) n q s := by
  subst hx
  have f : ∀ i, i ≠ x → ez_I h2 110 i = ez_I h 110 i := fun i hi => zI_ne e (by omega)
  have g : ez_I h2 110 x = ez_I h 110 q := (zI_eq e).trans ey.symm
  intro i hi hne
  by_cases c : i = x
  · subst c
    rw [g]
    refine ⟨(A q (by omega) (by omega)).1, fun j hj hj2 hji => ?_⟩
    rw [f j hji]
    exact (A q (by omega) (by omega)).2 j hj hji hj2
  · rw [f i c]
    refine ⟨(A i hi c).1, fun j hj hj2 hji => ?_⟩
    by_cases c2 : j = x
    · subst c2
      rw [g]
      exact (A i hi c).2 q (by omega) (by omega) (by omega)
    · rw [f j c2]
      exact (A i hi c).2 j hj c2 hji
theorem syH_fin {h h2 : ez_H} {n k x m : Nat} {s s' : Int} {y : Int32} (A : syH (ez_I h 110) n k s) (e : h2 = ez_setI h 110 x y) (hx : x = k) (hy : y.toInt = s) (h0 : 0 ≤ s) (hs : s' = s + 1) (hm : m = n + 1) : syI (ez_I h2 110) m s' := by
  subst hx
  have f : ∀ i, i ≠ x → ez_I h2 110 i = ez_I h 110 i := fun i hi => zI_ne e (by omega)
  have g : ez_I h2 110 x = y := zI_eq e
  intro i hi
  by_cases c : i = x
  · subst c
    rw [g]
    refine ⟨by omega, fun j hj hji => ?_⟩
    rw [f j hji]
    have := (A j (by omega) hji).1
    omega
  · rw [f i c]
    have a := A i (by omega) c
    refine ⟨by have := a.1; omega, fun j hj hji => ?_⟩
    by_cases c2 : j = x
    · subst c2
      rw [g]
      have := a.1
      omega
    · rw [f j c2]
      exact a.2 j (by omega) c2 hji
/-- how many packages there are -/
def eH (n r : Int) (t : Int) : Prop := (2 * n - r) * 2 ^ (t.toNat - 1) ≤ n + 2 ^ (t.toNat - 1) - 1
theorem eH_1 {n r t : Int} (h : r = n) (ht : t = 1) : eH n r t := by
  subst h; subst ht
  unfold eH
  show (2 * r - r) * 1 ≤ r + 1 - 1
  omega
theorem eH_up {n r t r' t' p k : Int} (A : eH n r t) (h1 : 1 ≤ t) (h2 : p ≤ r ∧ r ≤ p + 1) (hk : 2 * k = 2 * n + p) (hr : r' = k) (ht : t' = t + 1) : eH n r' t' := by
  subst hr; subst ht
  unfold eH at A ⊢
  rw [show (t + 1).toNat - 1 = (t.toNat - 1) + 1 by omega, Int.pow_succ]
  have hP : (0 : Int) < 2 ^ (t.toNat - 1) := Int.pow_pos (by decide)
  generalize (2 : Int) ^ (t.toNat - 1) = P at *
  have e1 : (2 * n - r') * (P * 2) = (2 * (2 * n - r')) * P := by
    rw [Int.mul_comm P 2, ← Int.mul_assoc, Int.mul_comm (2 * n - r') 2]
  have e2 : 2 * (2 * n - r') ≤ (2 * n - r) + 1 := by omega
  have e3 : (2 * (2 * n - r')) * P ≤ ((2 * n - r) + 1) * P := Int.mul_le_mul_of_nonneg_right e2 (by omega)
  rw [Int.add_mul, Int.one_mul] at e3
  omega
theorem eH_end {n r t li al : Int} (A : eH n r t) (ht : t = li) (h1 : 1 ≤ li) (hn : n ≤ al) (hal : al ≤ 2 ^ li.toNat) : 2 * n - 2 ≤ r := by
  subst ht
  unfold eH at A
  rw [show t.toNat = (t.toNat - 1) + 1 by omega, Int.pow_succ] at hal
  have hP : (0 : Int) < 2 ^ (t.toNat - 1) := Int.pow_pos (by decide)
  generalize (2 : Int) ^ (t.toNat - 1) = P at *
  by_cases c : 2 * n - r ≤ 2
  · omega
  · have : 3 * P ≤ (2 * n - r) * P := Int.mul_le_mul_of_nonneg_right (by omega) (by omega)
    omega
/-- the lengths added up -/
def fI (W Y H : Nat → Int32) (al n i j : Nat) : Prop := (∀ q, q < n → (W (Y q).toInt.toNat).toInt = hS H q i + (if q < j then (H (288 * i + q)).toInt else 0)) ∧ ∀ s : Nat, s < al → (∀ q, q < n → (Y q).toInt ≠ s) → (W s).toInt = 0
theorem fI_0 {W Y H : Nat → Int32} {al n i j : Nat} {s : Int} (A : aR W al 0 0) (B : syI Y n s) (hs : s ≤ al) (hi : i = 0) (hj : j = 0) : fI W Y H al n i j := by
  subst hi; subst hj
  refine ⟨fun q hq => ?_, fun q hq _ => ?_⟩
  · have b := (B q hq).1
    have := A (Y q).toInt.toNat (by omega)
    show _ = (0 : Int) + _
    have c : ¬ q < 0 := by omega
    simp only [c, ↓reduceIte]
    omega
  · have := A q hq
    omega
theorem fI_nx {W Y H : Nat → Int32} {al n i i' j j' : Nat} (A : fI W Y H al n i j) (hj : n ≤ j) (hi : i' = i + 1) (h' : j' = 0) : fI W Y H al n i' j' := by
  subst hi; subst h'
  refine ⟨fun q hq => ?_, A.2⟩
  rw [A.1 q hq]
  have c : q < j := by omega
  have c2 : ¬ q < 0 := by omega
  simp only [c, c2, ↓reduceIte]
  show _ = hS H q i + (H (288 * i + q)).toInt + 0
  omega
theorem fI_w {h h2 : ez_H} {w al n i j x z : Nat} {c : Int} {v o y d : Int32} {r : Nat} (A : fI (ez_I h w) (ez_I h 110) (ez_I h 113) al n i j) (e : h2 = ez_setI h w x d) (hw : w ≠ 110 ∧ w ≠ 113) (B : syI (ez_I h 110) n c) (hj : j < n) (ev : ez_I h 110 j = v) (hx : x = v.toInt.toNat) (eo : ez_I h w x = o) (ey : ez_I h 113 z = y) (hz : z = 288 * i + j) (R : hQ (ez_I h 113) n r (fun _ => 15)) (hr : i < r) (hd : d = o + y) : fI (ez_I h2 w) (ez_I h2 110) (ez_I h2 113) al n i (j + 1) := by
  rw [zI_fn e 110 (fun q => hw.1 q.symm), zI_fn e 113 (fun q => hw.2 q.symm)]
  subst hz
  have ho : o.toInt = hS (ez_I h 113) j i := by
    have := A.1 j hj
    have c : ¬ j < j := by omega
    simp only [c, ↓reduceIte] at this
    rw [ev, ← hx, eo] at this
    omega
  have hs1 : hS (ez_I h 113) j (i + 1) ≤ 15 := Int.le_trans (sm_mono (by omega) (fun q hq => (R j hj).1 q hq)) (R j hj).2
  have hs0 : 0 ≤ hS (ez_I h 113) j i := sm_nonneg (fun q hq => (R j hj).1 q (by omega))
  have hy0 := (R j hj).1 i hr
  rw [ey] at hy0
  have hse : hS (ez_I h 113) j (i + 1) = hS (ez_I h 113) j i + y.toInt := by
    show hS (ez_I h 113) j i + (ez_I h 113 (288 * i + j)).toInt = _
    rw [ey]
  have hdt : d.toInt = o.toInt + y.toInt := by
    rw [hd]; exact z_toInt_add (by omega)
  refine ⟨fun q hq => ?_, fun s hs hne => ?_⟩
  · by_cases c : q = j
    · subst c
      rw [ev, ← hx, zI_eq e]
      have c2 : q < q + 1 := by omega
      simp only [c2, ↓reduceIte]
      rw [ey]
      omega
    · have b := (B q hq).2 j hj (fun z => c z.symm)
      rw [ev] at b
      have b1 := (B q hq).1
      have b2 := (B j hj).1
      rw [ev] at b2
      rw [zI_ne e (by omega), A.1 q hq]
      by_cases c2 : q < j
      · have c3 : q < j + 1 := by omega
        simp only [c2, c3, ↓reduceIte]
      · have c3 : ¬ q < j + 1 := by omega
        simp only [c2, c3, ↓reduceIte]
  · have b2 := (B j hj).1
    rw [ev] at b2
    have := hne j hj
    rw [ev] at this
    rw [zI_ne e (by omega)]
    exact A.2 s hs hne
theorem fI_end {W Y H : Nat → Int32} {al n i j r : Nat} {c : Int} (A : fI W Y H al n i j) (R : hQ H n r (fun _ => c)) (hj : j = 0) (hi : i ≤ r) (hc : 0 ≤ c) : aR W al 0 c := fun s hs => by
  subst hj
  by_cases q : ∃ q, q < n ∧ (Y q).toInt = s
  · obtain ⟨q, hq, e⟩ := q
    have a := A.1 q hq
    rw [e] at a
    have c2 : ¬ q < 0 := by omega
    simp only [c2, ↓reduceIte] at a
    rw [show ((s : Nat) : Int).toNat = s by omega] at a
    have h1 : hS H q i ≤ hS H q r := sm_mono hi (fun z hz => (R q hq).1 z hz)
    have h2 : hS H q r ≤ c := (R q hq).2
    have h3 : 0 ≤ hS H q i := sm_nonneg (fun z hz => (R q hq).1 z (by omega))
    omega
  · have := A.2 s hs (fun z hz e => q ⟨z, hz, e⟩)
    omega
/-- the first row holds something -/
def hE (H : Nat → Int32) (n : Nat) : Prop := ∃ j, j < n ∧ 1 ≤ (H j).toInt
theorem hE_w {h h2 : ez_H} {c x n : Nat} {v : Int32} (A : hE (ez_I h c) n) (e : h2 = ez_setI h c x v) (hx : n ≤ x) : hE (ez_I h2 c) n := by
  obtain ⟨j, hj, a⟩ := A
  exact ⟨j, hj, by rw [zI_ne e (by omega)]; exact a⟩
theorem hE_row {H : Nat → Int32} {k n : Nat} (B : rwI H k (unit1 k) n) (hk : k = 0) (hn : 0 < n) : hE H n := by
  subst hk
  refine ⟨0, hn, ?_⟩
  have := B 0 hn
  rw [show 288 * 0 + 0 = 0 from rfl] at this
  rw [this]; decide
theorem hE_0 {G G' H : Nat → Int32} {n k r : Nat} {a b o c : Int} (B : pN G' G H k a b o n) (A : hE H n) (R : hQ H n r (fun _ => c)) (hk : k = 0) (hr : 2 ≤ r) (ho : 0 ≤ o ∧ o = 0 ∨ o < 0 ∧ a = 0 ∧ b = 1) : hE G' n := by
  subst hk
  obtain ⟨j, hj, e⟩ := A
  rcases ho with ⟨ho, ho2⟩ | ⟨ho, ha, hb⟩
  · refine ⟨0, by omega, ?_⟩
    have := B.2 0 (by omega)
    rw [show 288 * 0 + 0 = 0 from rfl] at this
    rw [this]
    unfold hp
    subst ho2
    exact Int.le_of_eq ((if_pos (Int.le_refl 0)).trans rfl).symm
  · refine ⟨j, hj, ?_⟩
    have := B.2 j hj
    rw [show 288 * 0 + j = j by omega] at this
    rw [this]
    unfold hp
    have hn : ¬ 0 ≤ o := by omega
    subst ha; subst hb
    simp only [hn, ↓reduceIte]
    have e1 : 288 * (0 : Int).toNat + j = j := by
      show 288 * 0 + j = j
      omega
    have := (R j hj).1 1 (by omega)
    rw [show 288 * 1 + j = 288 * (1 : Int).toNat + j from rfl] at this
    rw [e1]
    omega
theorem hE_k {G G' H : Nat → Int32} {n k : Nat} {a b o : Int} (B : pN G' G H k a b o n) (A : hE G n) (hk : 1 ≤ k) (hn : n ≤ 288) : hE G' n := by
  obtain ⟨j, hj, e⟩ := A
  exact ⟨j, hj, by rw [B.1 j (by omega)]; exact e⟩
theorem hE_cp {H G : Nat → Int32} {n i : Nat} (A : hE G n) (B : cpI H G n i) (h : 1 ≤ i) : hE H n := by
  obtain ⟨j, hj, e⟩ := A
  have := B 0 j (by omega) hj
  rw [show 288 * 0 + j = j by omega] at this
  exact ⟨j, hj, by rw [this]; exact e⟩
/-- nothing told means nothing weighed -/
theorem fI_non {W Y H : Nat → Int32} {al n i j r : Nat} {c s : Int} (A : fI W Y H al n i j) (R : hQ H n r (fun _ => c)) (E : hE H n) (B : syI Y n s) (hs : s ≤ al) (hj : j = 0) (hi : i ≤ r) (h1 : 1 ≤ i) (Z : ∀ s : Nat, s < al → (W s).toInt = 0) : False := by
  subst hj
  obtain ⟨q, hq, e⟩ := E
  have a := A.1 q hq
  have b := (B q hq).1
  rw [Z _ (by omega)] at a
  have c2 : ¬ q < 0 := by omega
  simp only [c2, ↓reduceIte] at a
  have h2 : hS H q 1 ≤ hS H q i := sm_mono h1 (fun z hz => (R q hq).1 z (by omega))
  have h3 : hS H q 1 = 0 + (H (288 * 0 + q)).toInt := rfl
  rw [show 288 * 0 + q = q by omega] at h3
  omega
def nZ (U : Nat → Int32) (n s : Int) : Prop := n = 0 → ∀ k : Nat, (k : Int) < s → (U k).toInt = 0
theorem nZ_0 {U : Nat → Int32} {n s : Int} (h : s = 0) : nZ U n s := fun _ k hk => by omega
theorem nZ_s {U : Nat → Int32} {n s s' : Int} {v : Int32} {x : Nat} (A : nZ U n s) (e : U x = v) (hx : (x : Int) = s) (hv : v.toInt = 0) (hs : s' = s + 1) : nZ U n s' := fun h k hk => by
  by_cases c : k = x
  · subst c; rw [e]; exact hv
  · exact A h k (by omega)
theorem nZ_n {U : Nat → Int32} {n s : Int} (h : 1 ≤ n) : nZ U n s := fun e => by omega
theorem aR_one {h h2 : ez_H} {w x al : Nat} {y : Int32} (e : h2 = ez_setI h w x y) (hy : y.toInt = 1) (hx : x < al) (Z : ∀ s : Nat, s < al → (ez_I h2 w s).toInt = 0) : False := by
  have := Z x hx
  rw [zI_eq e] at this
  omega
/-! PRINTED by wip/p17/con12.py: contracts of the model, smaller methods of packing -/
set_option maxRecDepth 4000 in
set_option maxHeartbeats 20000000 in
theorem m_lc_L0 {E : Nat → Nat × (Nat → Int32)} {d : Nat} {Q : ez_Q} {h : ez_H} {n : Int32} (S : zSh h) {f : Nat → Int32} (hf : ez_I h 92 = f) (h0 : (f 0).toInt ≤ n.toInt) (K : ∀ x : Int32, (0 ≤ x.toInt ∧ x.toInt ≤ 28 ∧ x.toInt = lcF f n.toInt 28) → Q (.inl (some (.int x))) h) : ∀ N : Nat, (∀ (h2 : ez_H) (k : Int32) , zG (fun _ => False) (fun _ => False) h h2 → (0 ≤ k.toInt ∧ k.toInt ≤ 28 ∧ lcF f n.toInt 28 = lcF f n.toInt k.toInt.toNat) → (k.toInt) < (N : Int) → pw E d 33 3 [some (.ref 71), some (.int n), some (.int k)] [] h2 Q) := by
  intro N
  induction N with
  | zero => exact fun h2 k  F hinv  hm => absurd hm (by have w_k := z_rng k; have gn := z_rng n; omega)
  | succ N ih =>
    refine fun h2 k  F hinv  hm => ?_
    · skip
      have w_k := z_rng k
      have gn := z_rng n
      have S2 := zG_sh F S
      apply ez_Wp_in
      show ez_gw _ _ _ _ _ _ (cz_33) _ _ _ _ _
      refine gw_skip _ ?_
      refine gw_ld rfl rfl ?_
      refine z_gR (q := 92) (zT S2 (by decide) rfl) (zRf S2 (by decide) (by decide) rfl) (by decide) ?_
      refine gw_ld rfl rfl ?_
      refine z_iaV (n := 29) (zT S2 (by decide) rfl) (zN S2 (by decide) rfl) (by omega) (zG_a F (by decide) (fun c => c)) ?_
      generalize ex1 : ez_I h 92 k.toInt.toNat = x1
      have rx1 := z_rng x1
      have yx1 : k.toInt = 0 → x1.toInt ≤ n.toInt := fun q => by rw [← ex1, hf, show k.toInt.toNat = 0 by omega]; exact h0
      refine gw_ld rfl rfl ?_
      refine z_b2 (fun c2 => ?_) (fun c2 => ?_)
      · have c2 : x1.toInt ≤ n.toInt := c2
        refine gw_skip _ ?_
        refine gw_ld rfl rfl ?_
        refine z_ri ?_
        exact zG_Q F (K k (by have := lcF_e (f := f) (n := n.toInt) (k := k.toInt.toNat) (by rw [← hf, ex1]; omega); omega))
      · have c2 : ¬ (x1.toInt ≤ n.toInt) := c2
        refine z_inc rfl (by rw [show ((-1) : Int32).toInt = (-1) from rfl]; omega) (fun x3 ex3 => ?_)
        rw [show ((-1) : Int32).toInt = (-1) from rfl] at ex3
        show ez_gw _ _ _ _ _ _ _ _ [some (.ref 71), some (.int n), some (.int x3)] _ _ _
        refine z_go ?_
        exact ih h2 x3 F (by have := lcF_d (f := f) (n := n.toInt) (k := k.toInt.toNat) (by rw [← hf, ex1]; omega) (by omega); rw [show x3.toInt.toNat = k.toInt.toNat - 1 by omega, ← this]; exact ⟨by omega, by omega, hinv.2.2⟩)  (by omega)
set_option maxRecDepth 4000 in
set_option maxHeartbeats 20000000 in
theorem m_lc {E : Nat → Nat × (Nat → Int32)} {d : Nat} {Q : ez_Q} {h : ez_H} {n : Int32} (S : zSh h) {f : Nat → Int32} (hf : ez_I h 92 = f) (h0 : (f 0).toInt ≤ n.toInt) (K : ∀ x : Int32, (0 ≤ x.toInt ∧ x.toInt ≤ 28 ∧ x.toInt = lcF f n.toInt 28) → Q (.inl (some (.int x))) h) : pw E d 33 0 [some (.ref 71), some (.int n), none] [] h Q := by
  have gn := z_rng n
  have F := zG_refl (fun _ => False) (fun _ => False) h
  apply ez_Wp_in
  show ez_gw _ _ _ _ _ _ (cz_33) _ _ _ _ _
  refine gw_skip _ ?_
  refine z_C (m := 28) rfl rfl (fun x1 ex1 => ?_)
  refine gw_st rfl rfl rfl ?_
  show ez_gw _ _ _ _ _ _ _ _ [some (.ref 71), some (.int n), some (.int x1)] _ _ _
  exact ez_Wp_at ((m_lc_L0 (n := n) S hf h0 K (((x1.toInt)).toNat + 1)) h x1 F (by rw [show x1.toInt.toNat = 28 by omega]; exact ⟨by omega, by omega, rfl⟩)  (by omega)) rfl
set_option maxRecDepth 4000 in
set_option maxHeartbeats 20000000 in
theorem m_bc_L0 {E : Nat → Nat × (Nat → Int32)} {d : Nat} {Q : ez_Q} {h : ez_H} {n : Int32} (S : zSh h) {f : Nat → Int32} (hf : ez_I h 94 = f) (h0 : (f 0).toInt ≤ n.toInt) (K : ∀ x : Int32, (0 ≤ x.toInt ∧ x.toInt ≤ 29 ∧ x.toInt = lcF f n.toInt 29) → Q (.inl (some (.int x))) h) : ∀ N : Nat, (∀ (h2 : ez_H) (k : Int32) , zG (fun _ => False) (fun _ => False) h h2 → (0 ≤ k.toInt ∧ k.toInt ≤ 29 ∧ lcF f n.toInt 29 = lcF f n.toInt k.toInt.toNat) → (k.toInt) < (N : Int) → pw E d 34 3 [some (.ref 71), some (.int n), some (.int k)] [] h2 Q) := by
  intro N
  induction N with
  | zero => exact fun h2 k  F hinv  hm => absurd hm (by have w_k := z_rng k; have gn := z_rng n; omega)
  | succ N ih =>
    refine fun h2 k  F hinv  hm => ?_
    · skip
      have w_k := z_rng k
      have gn := z_rng n
      have S2 := zG_sh F S
      apply ez_Wp_in
      show ez_gw _ _ _ _ _ _ (cz_34) _ _ _ _ _
      refine gw_skip _ ?_
      refine gw_ld rfl rfl ?_
      refine z_gR (q := 94) (zT S2 (by decide) rfl) (zRf S2 (by decide) (by decide) rfl) (by decide) ?_
      refine gw_ld rfl rfl ?_
      refine z_iaV (n := 30) (zT S2 (by decide) rfl) (zN S2 (by decide) rfl) (by omega) (zG_a F (by decide) (fun c => c)) ?_
      generalize ex1 : ez_I h 94 k.toInt.toNat = x1
      have rx1 := z_rng x1
      have yx1 : k.toInt = 0 → x1.toInt ≤ n.toInt := fun q => by rw [← ex1, hf, show k.toInt.toNat = 0 by omega]; exact h0
      refine gw_ld rfl rfl ?_
      refine z_b2 (fun c2 => ?_) (fun c2 => ?_)
      · have c2 : x1.toInt ≤ n.toInt := c2
        refine gw_skip _ ?_
        refine gw_ld rfl rfl ?_
        refine z_ri ?_
        exact zG_Q F (K k (by have := lcF_e (f := f) (n := n.toInt) (k := k.toInt.toNat) (by rw [← hf, ex1]; omega); omega))
      · have c2 : ¬ (x1.toInt ≤ n.toInt) := c2
        refine z_inc rfl (by rw [show ((-1) : Int32).toInt = (-1) from rfl]; omega) (fun x3 ex3 => ?_)
        rw [show ((-1) : Int32).toInt = (-1) from rfl] at ex3
        show ez_gw _ _ _ _ _ _ _ _ [some (.ref 71), some (.int n), some (.int x3)] _ _ _
        refine z_go ?_
        exact ih h2 x3 F (by have := lcF_d (f := f) (n := n.toInt) (k := k.toInt.toNat) (by rw [← hf, ex1]; omega) (by omega); rw [show x3.toInt.toNat = k.toInt.toNat - 1 by omega, ← this]; exact ⟨by omega, by omega, hinv.2.2⟩)  (by omega)
set_option maxRecDepth 4000 in
set_option maxHeartbeats 20000000 in
theorem m_bc {E : Nat → Nat × (Nat → Int32)} {d : Nat} {Q : ez_Q} {h : ez_H} {n : Int32} (S : zSh h) {f : Nat → Int32} (hf : ez_I h 94 = f) (h0 : (f 0).toInt ≤ n.toInt) (K : ∀ x : Int32, (0 ≤ x.toInt ∧ x.toInt ≤ 29 ∧ x.toInt = lcF f n.toInt 29) → Q (.inl (some (.int x))) h) : pw E d 34 0 [some (.ref 71), some (.int n), none] [] h Q := by
  have gn := z_rng n
  have F := zG_refl (fun _ => False) (fun _ => False) h
  apply ez_Wp_in
  show ez_gw _ _ _ _ _ _ (cz_34) _ _ _ _ _
  refine gw_skip _ ?_
  refine z_C (m := 29) rfl rfl (fun x1 ex1 => ?_)
  refine gw_st rfl rfl rfl ?_
  show ez_gw _ _ _ _ _ _ _ _ [some (.ref 71), some (.int n), some (.int x1)] _ _ _
  exact ez_Wp_at ((m_bc_L0 (n := n) S hf h0 K (((x1.toInt)).toNat + 1)) h x1 F (by rw [show x1.toInt.toNat = 29 by omega]; exact ⟨by omega, by omega, rfl⟩)  (by omega)) rfl
set_option maxRecDepth 4000 in
set_option maxHeartbeats 20000000 in
theorem m_wb_L0 {E : Nat → Nat × (Nat → Int32)} {d : Nat} {Q : ez_Q} {h : ez_H} {v : Int32} {n : Int32} (S : zSh h) (hb : 0 ≤ (ez_I h 71 16).toInt ∧ 0 ≤ n.toInt ∧ (ez_I h 71 16).toInt + n.toInt ≤ 64000) (K : ∀ h2, zG (fun k => k = 16) (fun q => q = 75) h h2 → ((ez_I h2 71 16).toInt = (ez_I h 71 16).toInt + n.toInt) → Q (.inl none) h2) : ∀ N : Nat, (∀ (h2 : ez_H) (i : Int32) , zG (fun k => k = 16) (fun q => q = 75) h h2 → (0 ≤ i.toInt ∧ i.toInt ≤ n.toInt ∧ (ez_I h2 71 16).toInt = (ez_I h 71 16).toInt + i.toInt) → (2147483647 - i.toInt) < (N : Int) → pw E d 38 2 [some (.ref 71), some (.int v), some (.int n), some (.int i)] [] h2 Q) := by
  intro N
  induction N with
  | zero => exact fun h2 i  F hinv  hm => absurd hm (by have w_i := z_rng i; have gv := z_rng v; have gn := z_rng n; omega)
  | succ N ih =>
    refine fun h2 i  F hinv  hm => ?_
    · skip
      have w_i := z_rng i
      have gv := z_rng v
      have gn := z_rng n
      have S2 := zG_sh F S
      apply ez_Wp_in
      show ez_gw _ _ _ _ _ _ (cz_38) _ _ _ _ _
      refine gw_skip _ ?_
      have r1 := z_rng (ez_I h2 71 16)
      refine gw_ld rfl rfl ?_
      refine gw_ld rfl rfl ?_
      refine z_b2 (fun c2 => ?_) (fun c2 => ?_)
      · have c2 : n.toInt ≤ i.toInt := c2
        refine gw_skip _ ?_
        refine z_rv ?_
        exact K _ F (by omega)
      · have c2 : ¬ (n.toInt ≤ i.toInt) := c2
        refine gw_ld rfl rfl ?_
        refine z_gI2 (by decide) (zT S2 (by decide) rfl) (rfl) ?_
        refine z_C (m := 8) rfl rfl (fun x3 ex3 => ?_)
        refine z_rmP (c := 8) ex3 (by decide) (by omega) (fun x4 ex4 => ?_)
        refine z_b1 (fun c5 => ?_) (fun c5 => ?_)
        · have c5 : x4.toInt ≠ 0 := c5
          refine gw_skip _ ?_
          refine gw_ld rfl rfl ?_
          refine z_gR (q := 75) (zT S2 (by decide) rfl) (zRf S2 (by decide) (by decide) rfl) (by decide) ?_
          refine gw_ld rfl rfl ?_
          refine z_gI2 (by decide) (zT S2 (by decide) rfl) (rfl) ?_
          refine z_C (m := 8) rfl rfl (fun x6 ex6 => ?_)
          refine z_dvP (c := 8) ex6 (by decide) (by omega) (fun x7 ex7 => ?_)
          refine gw_ld rfl rfl ?_
          refine z_gR (q := 75) (zT S2 (by decide) rfl) (zRf S2 (by decide) (by decide) rfl) (by decide) ?_
          refine gw_ld rfl rfl ?_
          refine z_gI2 (by decide) (zT S2 (by decide) rfl) (rfl) ?_
          refine z_C (m := 8) rfl rfl (fun x8 ex8 => ?_)
          refine z_dvP (c := 8) ex8 (by decide) (by omega) (fun x9 ex9 => ?_)
          refine z_ba (n := 8000) (zT S2 (by decide) rfl) (zN S2 (by decide) rfl) (by omega) ?_
          generalize ex10 : ez_I h2 75 x9.toInt.toNat = x10
          have rx10 := z_rng x10
          refine gw_ld rfl rfl ?_
          refine gw_ld rfl rfl ?_
          refine z_2 rfl (fun x11 ex11 => ?_)
          have rx11 := z_rng x11
          refine z_C (m := 1) rfl rfl (fun x12 ex12 => ?_)
          refine z_and (fun x13 ex13 ux13 wx13 => ?_)
          have rx13 := z_rng x13
          replace ux13 := ux13 (by omega)
          clear wx13
          refine gw_ld rfl rfl ?_
          refine z_gI2 (by decide) (zT S2 (by decide) rfl) (rfl) ?_
          refine z_C (m := 8) rfl rfl (fun x14 ex14 => ?_)
          refine z_rmP (c := 8) ex14 (by decide) (by omega) (fun x15 ex15 => ?_)
          refine z_2 rfl (fun x16 ex16 => ?_)
          have rx16 := z_rng x16
          refine z_2 rfl (fun x17 ex17 => ?_)
          have rx17 := z_rng x17
          refine z_1 rfl (fun x18 ex18 => ?_)
          have rx18 := z_rng x18
          refine z_bs (n := 8000) (zT S2 (by decide) rfl) (zN S2 (by decide) rfl) (by omega) (fun h19 e20 => ?_)
          have S21 := zSh_set S2 e20
          have F22 := zG_setA F e20 (by decide) (by decide)
          have f23 : ez_I h19 71 16 = (ez_I h2 71 16) := (zI_ne e20 (by omega)).trans (rfl)
          refine gw_ld rfl rfl ?_
          refine gw_op rfl ?_
          refine z_gI2 (by decide) (zT S21 (by decide) rfl) (f23) ?_
          refine z_C (m := 1) rfl rfl (fun x24 ex24 => ?_)
          refine z_add (by omega) (fun x25 ex25 => ?_)
          refine z_pI (zT S21 (by decide) rfl) (fun h26 e27 => ?_)
          have S28 := zSh_set S21 e27
          have F29 := zG_setF F22 e27 (by decide)
          have f30 : ez_I h26 71 16 = x25 := zI_eq e27
          refine z_inc rfl (by rw [show (1 : Int32).toInt = 1 from rfl]; omega) (fun x31 ex31 => ?_)
          rw [show (1 : Int32).toInt = 1 from rfl] at ex31
          show ez_gw _ _ _ _ _ _ _ _ [some (.ref 71), some (.int v), some (.int n), some (.int x31)] _ _ _
          refine z_go ?_
          have t32 := congrArg Int32.toInt (f30)
          exact ih h26 x31 F29 (by omega)  (by omega)
        · have c5 : ¬ (x4.toInt ≠ 0) := c5
          refine gw_ld rfl rfl ?_
          refine z_gR (q := 75) (zT S2 (by decide) rfl) (zRf S2 (by decide) (by decide) rfl) (by decide) ?_
          refine gw_ld rfl rfl ?_
          refine z_gI2 (by decide) (zT S2 (by decide) rfl) (rfl) ?_
          refine z_C (m := 8) rfl rfl (fun x33 ex33 => ?_)
          refine z_dvP (c := 8) ex33 (by decide) (by omega) (fun x34 ex34 => ?_)
          refine z_C (m := 0) rfl rfl (fun x35 ex35 => ?_)
          refine z_bs (n := 8000) (zT S2 (by decide) rfl) (zN S2 (by decide) rfl) (by omega) (fun h36 e37 => ?_)
          have S38 := zSh_set S2 e37
          have F39 := zG_setA F e37 (by decide) (by decide)
          have f40 : ez_I h36 71 16 = (ez_I h2 71 16) := (zI_ne e37 (by omega)).trans (rfl)
          refine gw_ld rfl rfl ?_
          refine z_gR (q := 75) (zT S38 (by decide) rfl) (zRf S38 (by decide) (by decide) rfl) (by decide) ?_
          refine gw_ld rfl rfl ?_
          refine z_gI2 (by decide) (zT S38 (by decide) rfl) (f40) ?_
          refine z_C (m := 8) rfl rfl (fun x41 ex41 => ?_)
          refine z_dvP (c := 8) ex41 (by decide) (by omega) (fun x42 ex42 => ?_)
          refine gw_ld rfl rfl ?_
          refine z_gR (q := 75) (zT S38 (by decide) rfl) (zRf S38 (by decide) (by decide) rfl) (by decide) ?_
          refine gw_ld rfl rfl ?_
          refine z_gI2 (by decide) (zT S38 (by decide) rfl) (f40) ?_
          refine z_C (m := 8) rfl rfl (fun x43 ex43 => ?_)
          refine z_dvP (c := 8) ex43 (by decide) (by omega) (fun x44 ex44 => ?_)
          refine z_ba (n := 8000) (zT S38 (by decide) rfl) (zN S38 (by decide) rfl) (by omega) ?_
          generalize ex45 : ez_I h36 75 x44.toInt.toNat = x45
          have rx45 := z_rng x45
          refine gw_ld rfl rfl ?_
          refine gw_ld rfl rfl ?_
          refine z_2 rfl (fun x46 ex46 => ?_)
          have rx46 := z_rng x46
          refine z_C (m := 1) rfl rfl (fun x47 ex47 => ?_)
          refine z_and (fun x48 ex48 ux48 wx48 => ?_)
          have rx48 := z_rng x48
          replace ux48 := ux48 (by omega)
          clear wx48
          refine gw_ld rfl rfl ?_
          refine z_gI2 (by decide) (zT S38 (by decide) rfl) (f40) ?_
          refine z_C (m := 8) rfl rfl (fun x49 ex49 => ?_)
          refine z_rmP (c := 8) ex49 (by decide) (by omega) (fun x50 ex50 => ?_)
          refine z_2 rfl (fun x51 ex51 => ?_)
          have rx51 := z_rng x51
          refine z_2 rfl (fun x52 ex52 => ?_)
          have rx52 := z_rng x52
          refine z_1 rfl (fun x53 ex53 => ?_)
          have rx53 := z_rng x53
          refine z_bs (n := 8000) (zT S38 (by decide) rfl) (zN S38 (by decide) rfl) (by omega) (fun h54 e55 => ?_)
          have S56 := zSh_set S38 e55
          have F57 := zG_setA F39 e55 (by decide) (by decide)
          have f58 : ez_I h54 71 16 = (ez_I h2 71 16) := (zI_ne e55 (by omega)).trans (f40)
          refine gw_ld rfl rfl ?_
          refine gw_op rfl ?_
          refine z_gI2 (by decide) (zT S56 (by decide) rfl) (f58) ?_
          refine z_C (m := 1) rfl rfl (fun x59 ex59 => ?_)
          refine z_add (by omega) (fun x60 ex60 => ?_)
          refine z_pI (zT S56 (by decide) rfl) (fun h61 e62 => ?_)
          have S63 := zSh_set S56 e62
          have F64 := zG_setF F57 e62 (by decide)
          have f65 : ez_I h61 71 16 = x60 := zI_eq e62
          refine z_inc rfl (by rw [show (1 : Int32).toInt = 1 from rfl]; omega) (fun x66 ex66 => ?_)
          rw [show (1 : Int32).toInt = 1 from rfl] at ex66
          show ez_gw _ _ _ _ _ _ _ _ [some (.ref 71), some (.int v), some (.int n), some (.int x66)] _ _ _
          refine z_go ?_
          have t67 := congrArg Int32.toInt (f65)
          exact ih h61 x66 F64 (by omega)  (by omega)
set_option maxRecDepth 4000 in
set_option maxHeartbeats 20000000 in
theorem m_wb {E : Nat → Nat × (Nat → Int32)} {d : Nat} {Q : ez_Q} {h : ez_H} {v : Int32} {n : Int32} (S : zSh h) (hb : 0 ≤ (ez_I h 71 16).toInt ∧ 0 ≤ n.toInt ∧ (ez_I h 71 16).toInt + n.toInt ≤ 64000) (K : ∀ h2, zG (fun k => k = 16) (fun q => q = 75) h h2 → ((ez_I h2 71 16).toInt = (ez_I h 71 16).toInt + n.toInt) → Q (.inl none) h2) : pw E d 38 0 [some (.ref 71), some (.int v), some (.int n), none] [] h Q := by
  have gv := z_rng v
  have gn := z_rng n
  have F := zG_refl (fun k => k = 16) (fun q => q = 75) h
  apply ez_Wp_in
  show ez_gw _ _ _ _ _ _ (cz_38) _ _ _ _ _
  refine gw_skip _ ?_
  have r1 := z_rng (ez_I h 71 16)
  refine z_C (m := 0) rfl rfl (fun x2 ex2 => ?_)
  refine gw_st rfl rfl rfl ?_
  show ez_gw _ _ _ _ _ _ _ _ [some (.ref 71), some (.int v), some (.int n), some (.int x2)] _ _ _
  exact ez_Wp_at ((m_wb_L0 (v := v) (n := n) S hb K (((2147483647 - x2.toInt)).toNat + 1)) h x2 F (by omega)  (by omega)) rfl
set_option maxRecDepth 4000 in
set_option maxHeartbeats 20000000 in
theorem m_codes_L3 {E : Nat → Nat × (Nat → Int32)} {d : Nat} {Q : ez_Q} {h : ez_H} {u : Nat} {n : Int32} {w : Nat} (S : zSh h) {nu nw : Nat} (hu : zA u nu) (hw : zA w nw) (hd : u ≠ 71 ∧ u ≠ 115 ∧ u ≠ 116 ∧ u ≠ w ∧ w ≠ 71 ∧ w ≠ 115 ∧ w ≠ 116) (hn : 0 ≤ n.toInt ∧ n.toInt ≤ nu ∧ n.toInt ≤ nw ∧ nu ≤ 1000 ∧ nw ≤ 1000) (hA : aR (ez_I h u) n.toInt.toNat 0 15) (K : ∀ h2, zG (fun _ => False) (fun q => q = 115 ∨ q = 116 ∨ q = w) h h2 → Q (.inl none) h2) : ∀ N : Nat, (∀ (h2 : ez_H) (c : Int32) (i : Int32) (l6 : Option Value) , zG (fun _ => False) (fun q => q = 115 ∨ q = 116 ∨ q = w) h h2 → (0 ≤ i.toInt) → (1000 * (2147483647 - i.toInt)) < (N : Int) → pw E d 37 108 [some (.ref 71), some (.ref u), some (.int n), some (.ref w), some (.int c), some (.int i), l6] [] h2 Q) ∧ (∀ (h2 : ez_H) (c : Int32) (i : Int32) (j : Int32) , zG (fun _ => False) (fun q => q = 115 ∨ q = 116 ∨ q = w) h h2 → (0 ≤ i.toInt ∧ i.toInt < n.toInt ∧ 0 ≤ j.toInt ∧ j.toInt ≤ 15) → (1000 * (2147483647 - i.toInt) - 500 + (20 - j.toInt)) < (N : Int) → pw E d 37 132 [some (.ref 71), some (.ref u), some (.int n), some (.ref w), some (.int c), some (.int i), some (.int j)] [] h2 Q) := by
  intro N
  induction N with
  | zero => exact ⟨fun h2 c i l6  F hinv  hm => absurd hm (by have w_c := z_rng c; have w_i := z_rng i; have gn := z_rng n; omega), fun h2 c i j  F hinv  hm => absurd hm (by have w_c := z_rng c; have w_i := z_rng i; have w_j := z_rng j; have gn := z_rng n; omega)⟩
  | succ N ih =>
    refine ⟨fun h2 c i l6  F hinv  hm => ?_, fun h2 c i j  F hinv  hm => ?_⟩
    · skip
      have w_c := z_rng c
      have w_i := z_rng i
      have gn := z_rng n
      have S2 := zG_sh F S
      apply ez_Wp_in
      show ez_gw _ _ _ _ _ _ (cz_37) _ _ _ _ _
      refine gw_skip _ ?_
      refine gw_ld rfl rfl ?_
      refine gw_ld rfl rfl ?_
      refine z_b2 (fun c1 => ?_) (fun c1 => ?_)
      · have c1 : n.toInt ≤ i.toInt := c1
        refine gw_skip _ ?_
        refine z_rv ?_
        exact K _ F 
      · have c1 : ¬ (n.toInt ≤ i.toInt) := c1
        refine gw_ld rfl rfl ?_
        refine gw_ld rfl rfl ?_
        refine z_C (m := 0) rfl rfl (fun x2 ex2 => ?_)
        refine z_is (n := nw) ((hw _ S2).1) ((hw _ S2).2) (by omega) (fun h3 e4 => ?_)
        have S5 := zSh_set S2 e4
        have F6 := zG_setA F e4 (by omega) (by omega)
        refine gw_ld rfl rfl ?_
        refine gw_ld rfl rfl ?_
        refine z_iaV (n := nu) ((hu _ S5).1) ((hu _ S5).2) (by omega) (zG_a F6 (by omega) (by omega)) ?_
        generalize ex7 : ez_I h u i.toInt.toNat = x7
        have rx7 := z_rng x7
        have yx7 := hA i.toInt.toNat (by omega)
        rw [ex7] at yx7
        refine z_b1 (fun c8 => ?_) (fun c8 => ?_)
        · have c8 : x7.toInt ≠ 0 := c8
          refine gw_skip _ ?_
          refine z_C (m := 0) rfl rfl (fun x9 ex9 => ?_)
          refine gw_st rfl rfl rfl ?_
          show ez_gw _ _ _ _ _ _ _ _ [some (.ref 71), some (.ref u), some (.int n), some (.ref w), some (.int c), some (.int i), some (.int x9)] _ _ _
          exact ez_Wp_at (ih.2 h3 c i x9 F6 (by omega)  (by omega)) rfl
        · have c8 : ¬ (x7.toInt ≠ 0) := c8
          refine z_go ?_
          refine gw_skip _ ?_
          refine z_inc rfl (by rw [show (1 : Int32).toInt = 1 from rfl]; omega) (fun x10 ex10 => ?_)
          rw [show (1 : Int32).toInt = 1 from rfl] at ex10
          show ez_gw _ _ _ _ _ _ _ _ [some (.ref 71), some (.ref u), some (.int n), some (.ref w), some (.int c), some (.int x10), l6] _ _ _
          refine z_go ?_
          exact ih.1 h3 c x10 (l6) F6 (by omega)  (by omega)
    · skip
      have w_c := z_rng c
      have w_i := z_rng i
      have w_j := z_rng j
      have gn := z_rng n
      have S2 := zG_sh F S
      apply ez_Wp_in
      show ez_gw _ _ _ _ _ _ (cz_37) _ _ _ _ _
      refine gw_skip _ ?_
      refine gw_ld rfl rfl ?_
      refine gw_ld rfl rfl ?_
      refine gw_ld rfl rfl ?_
      refine z_iaV (n := nu) ((hu _ S2).1) ((hu _ S2).2) (by omega) (zG_a F (by omega) (by omega)) ?_
      generalize ex11 : ez_I h u i.toInt.toNat = x11
      have rx11 := z_rng x11
      have yx11 := hA i.toInt.toNat (by omega)
      rw [ex11] at yx11
      refine z_b2 (fun c12 => ?_) (fun c12 => ?_)
      · have c12 : x11.toInt ≤ j.toInt := c12
        refine gw_skip _ ?_
        refine gw_ld rfl rfl ?_
        refine z_gR (q := 116) (zT S2 (by decide) rfl) (zRf S2 (by decide) (by decide) rfl) (by decide) ?_
        refine gw_ld rfl rfl ?_
        refine gw_ld rfl rfl ?_
        refine z_iaV (n := nu) ((hu _ S2).1) ((hu _ S2).2) (by omega) ((zG_a F (by omega) (by omega)).trans ex11) ?_
        refine gw_op rfl ?_
        refine z_ia (n := 17) (zT S2 (by decide) rfl) (zN S2 (by decide) rfl) (by omega) ?_
        generalize ex14 : ez_I h2 116 x11.toInt.toNat = x14
        have rx14 := z_rng x14
        refine z_C (m := 1) rfl rfl (fun x15 ex15 => ?_)
        refine z_addW (fun x16 ex16 => ?_)
        have rx16 := z_rng x16
        refine z_is (n := 17) (zT S2 (by decide) rfl) (zN S2 (by decide) rfl) (by omega) (fun h17 e18 => ?_)
        have S19 := zSh_set S2 e18
        have F20 := zG_setA F e18 (by decide) (by omega)
        refine z_inc rfl (by rw [show (1 : Int32).toInt = 1 from rfl]; omega) (fun x21 ex21 => ?_)
        rw [show (1 : Int32).toInt = 1 from rfl] at ex21
        show ez_gw _ _ _ _ _ _ _ _ [some (.ref 71), some (.ref u), some (.int n), some (.ref w), some (.int c), some (.int x21), some (.int j)] _ _ _
        refine z_go ?_
        exact ih.1 h17 c x21 (some (.int j)) F20 (by omega)  (by omega)
      · have c12 : ¬ (x11.toInt ≤ j.toInt) := c12
        refine gw_ld rfl rfl ?_
        refine gw_ld rfl rfl ?_
        refine gw_op rfl ?_
        refine z_ia (n := nw) ((hw _ S2).1) ((hw _ S2).2) (by omega) ?_
        generalize ex22 : ez_I h2 w i.toInt.toNat = x22
        have rx22 := z_rng x22
        refine gw_ld rfl rfl ?_
        refine z_gR (q := 116) (zT S2 (by decide) rfl) (zRf S2 (by decide) (by decide) rfl) (by decide) ?_
        refine gw_ld rfl rfl ?_
        refine gw_ld rfl rfl ?_
        refine z_iaV (n := nu) ((hu _ S2).1) ((hu _ S2).2) (by omega) ((zG_a F (by omega) (by omega)).trans ex11) ?_
        refine z_ia (n := 17) (zT S2 (by decide) rfl) (zN S2 (by decide) rfl) (by omega) ?_
        generalize ex24 : ez_I h2 116 x11.toInt.toNat = x24
        have rx24 := z_rng x24
        refine gw_ld rfl rfl ?_
        refine z_2 rfl (fun x25 ex25 => ?_)
        have rx25 := z_rng x25
        refine z_C (m := 1) rfl rfl (fun x26 ex26 => ?_)
        refine z_and (fun x27 ex27 ux27 wx27 => ?_)
        have rx27 := z_rng x27
        replace ux27 := ux27 (by omega)
        clear wx27
        refine gw_ld rfl rfl ?_
        refine gw_ld rfl rfl ?_
        refine z_iaV (n := nu) ((hu _ S2).1) ((hu _ S2).2) (by omega) ((zG_a F (by omega) (by omega)).trans ex11) ?_
        refine z_C (m := 1) rfl rfl (fun x29 ex29 => ?_)
        refine z_sub (by omega) (fun x30 ex30 => ?_)
        refine gw_ld rfl rfl ?_
        refine z_sub (by omega) (fun x31 ex31 => ?_)
        refine z_2 rfl (fun x32 ex32 => ?_)
        have rx32 := z_rng x32
        refine z_2 rfl (fun x33 ex33 => ?_)
        have rx33 := z_rng x33
        refine z_is (n := nw) ((hw _ S2).1) ((hw _ S2).2) (by omega) (fun h34 e35 => ?_)
        have S36 := zSh_set S2 e35
        have F37 := zG_setA F e35 (by omega) (by omega)
        refine z_inc rfl (by rw [show (1 : Int32).toInt = 1 from rfl]; omega) (fun x38 ex38 => ?_)
        rw [show (1 : Int32).toInt = 1 from rfl] at ex38
        show ez_gw _ _ _ _ _ _ _ _ [some (.ref 71), some (.ref u), some (.int n), some (.ref w), some (.int c), some (.int i), some (.int x38)] _ _ _
        refine z_go ?_
        exact ih.2 h34 c i x38 F37 (by omega)  (by omega)
set_option maxRecDepth 4000 in
set_option maxHeartbeats 20000000 in
theorem m_codes_L2 {E : Nat → Nat × (Nat → Int32)} {d : Nat} {Q : ez_Q} {h : ez_H} {u : Nat} {n : Int32} {w : Nat} (S : zSh h) {nu nw : Nat} (hu : zA u nu) (hw : zA w nw) (hd : u ≠ 71 ∧ u ≠ 115 ∧ u ≠ 116 ∧ u ≠ w ∧ w ≠ 71 ∧ w ≠ 115 ∧ w ≠ 116) (hn : 0 ≤ n.toInt ∧ n.toInt ≤ nu ∧ n.toInt ≤ nw ∧ nu ≤ 1000 ∧ nw ≤ 1000) (hA : aR (ez_I h u) n.toInt.toNat 0 15) (K : ∀ h2, zG (fun _ => False) (fun q => q = 115 ∨ q = 116 ∨ q = w) h h2 → Q (.inl none) h2) : ∀ N : Nat, (∀ (h2 : ez_H) (c : Int32) (l : Int32) (l6 : Option Value) , zG (fun _ => False) (fun q => q = 115 ∨ q = 116 ∨ q = w) h h2 → (1 ≤ l.toInt) → (2147483647 - l.toInt) < (N : Int) → pw E d 37 69 [some (.ref 71), some (.ref u), some (.int n), some (.ref w), some (.int c), some (.int l), l6] [] h2 Q) := by
  intro N
  induction N with
  | zero => exact fun h2 c l l6  F hinv  hm => absurd hm (by have w_c := z_rng c; have w_l := z_rng l; have gn := z_rng n; omega)
  | succ N ih =>
    refine fun h2 c l l6  F hinv  hm => ?_
    · skip
      have w_c := z_rng c
      have w_l := z_rng l
      have gn := z_rng n
      have S2 := zG_sh F S
      apply ez_Wp_in
      show ez_gw _ _ _ _ _ _ (cz_37) _ _ _ _ _
      refine gw_skip _ ?_
      refine gw_ld rfl rfl ?_
      refine z_C (m := 17) rfl rfl (fun x1 ex1 => ?_)
      refine z_b2 (fun c2 => ?_) (fun c2 => ?_)
      · have c2 : x1.toInt ≤ l.toInt := c2
        refine gw_skip _ ?_
        refine z_C (m := 0) rfl rfl (fun x3 ex3 => ?_)
        refine gw_st rfl rfl rfl ?_
        show ez_gw _ _ _ _ _ _ _ _ [some (.ref 71), some (.ref u), some (.int n), some (.ref w), some (.int c), some (.int x3), l6] _ _ _
        exact ez_Wp_at ((m_codes_L3 (u := u) (n := n) (w := w) S hu hw hd hn hA K (((1000 * (2147483647 - x3.toInt))).toNat + 1)).1 h2 c x3 (l6) F (by omega)  (by omega)) rfl
      · have c2 : ¬ (x1.toInt ≤ l.toInt) := c2
        refine gw_ld rfl rfl ?_
        refine z_gR (q := 116) (zT S2 (by decide) rfl) (zRf S2 (by decide) (by decide) rfl) (by decide) ?_
        refine gw_ld rfl rfl ?_
        refine gw_ld rfl rfl ?_
        refine z_is (n := 17) (zT S2 (by decide) rfl) (zN S2 (by decide) rfl) (by omega) (fun h4 e5 => ?_)
        have S6 := zSh_set S2 e5
        have F7 := zG_setA F e5 (by decide) (by omega)
        refine gw_ld rfl rfl ?_
        refine gw_ld rfl rfl ?_
        refine z_gR (q := 115) (zT S6 (by decide) rfl) (zRf S6 (by decide) (by decide) rfl) (by decide) ?_
        refine gw_ld rfl rfl ?_
        refine z_ia (n := 17) (zT S6 (by decide) rfl) (zN S6 (by decide) rfl) (by omega) ?_
        generalize ex8 : ez_I h4 115 l.toInt.toNat = x8
        have rx8 := z_rng x8
        refine z_addW (fun x9 ex9 => ?_)
        have rx9 := z_rng x9
        refine z_C (m := 1) rfl rfl (fun x10 ex10 => ?_)
        refine z_2 rfl (fun x11 ex11 => ?_)
        have rx11 := z_rng x11
        refine gw_st rfl rfl rfl ?_
        show ez_gw _ _ _ _ _ _ _ _ [some (.ref 71), some (.ref u), some (.int n), some (.ref w), some (.int x11), some (.int l), l6] _ _ _
        refine z_inc rfl (by rw [show (1 : Int32).toInt = 1 from rfl]; omega) (fun x12 ex12 => ?_)
        rw [show (1 : Int32).toInt = 1 from rfl] at ex12
        show ez_gw _ _ _ _ _ _ _ _ [some (.ref 71), some (.ref u), some (.int n), some (.ref w), some (.int x11), some (.int x12), l6] _ _ _
        refine z_go ?_
        exact ih h4 x11 x12 (l6) F7 (by omega)  (by omega)
set_option maxRecDepth 4000 in
set_option maxHeartbeats 20000000 in
theorem m_codes_L1 {E : Nat → Nat × (Nat → Int32)} {d : Nat} {Q : ez_Q} {h : ez_H} {u : Nat} {n : Int32} {w : Nat} (S : zSh h) {nu nw : Nat} (hu : zA u nu) (hw : zA w nw) (hd : u ≠ 71 ∧ u ≠ 115 ∧ u ≠ 116 ∧ u ≠ w ∧ w ≠ 71 ∧ w ≠ 115 ∧ w ≠ 116) (hn : 0 ≤ n.toInt ∧ n.toInt ≤ nu ∧ n.toInt ≤ nw ∧ nu ≤ 1000 ∧ nw ≤ 1000) (hA : aR (ez_I h u) n.toInt.toNat 0 15) (K : ∀ h2, zG (fun _ => False) (fun q => q = 115 ∨ q = 116 ∨ q = w) h h2 → Q (.inl none) h2) : ∀ N : Nat, (∀ (h2 : ez_H) (i : Int32) (l5 : Option Value) (l6 : Option Value) , zG (fun _ => False) (fun q => q = 115 ∨ q = 116 ∨ q = w) h h2 → (0 ≤ i.toInt) → (2147483647 - i.toInt) < (N : Int) → pw E d 37 27 [some (.ref 71), some (.ref u), some (.int n), some (.ref w), some (.int i), l5, l6] [] h2 Q) := by
  intro N
  induction N with
  | zero => exact fun h2 i l5 l6  F hinv  hm => absurd hm (by have w_i := z_rng i; have gn := z_rng n; omega)
  | succ N ih =>
    refine fun h2 i l5 l6  F hinv  hm => ?_
    · skip
      have w_i := z_rng i
      have gn := z_rng n
      have S2 := zG_sh F S
      apply ez_Wp_in
      show ez_gw _ _ _ _ _ _ (cz_37) _ _ _ _ _
      refine gw_skip _ ?_
      refine gw_ld rfl rfl ?_
      refine gw_ld rfl rfl ?_
      refine z_b2 (fun c1 => ?_) (fun c1 => ?_)
      · have c1 : n.toInt ≤ i.toInt := c1
        refine gw_skip _ ?_
        refine z_C (m := 0) rfl rfl (fun x2 ex2 => ?_)
        refine gw_st rfl rfl rfl ?_
        show ez_gw _ _ _ _ _ _ _ _ [some (.ref 71), some (.ref u), some (.int n), some (.ref w), some (.int x2), l5, l6] _ _ _
        refine z_C (m := 1) rfl rfl (fun x3 ex3 => ?_)
        refine gw_st rfl rfl rfl ?_
        show ez_gw _ _ _ _ _ _ _ _ [some (.ref 71), some (.ref u), some (.int n), some (.ref w), some (.int x2), some (.int x3), l6] _ _ _
        exact ez_Wp_at ((m_codes_L2 (u := u) (n := n) (w := w) S hu hw hd hn hA K (((2147483647 - x3.toInt)).toNat + 1)) h2 x2 x3 (l6) F (by omega)  (by omega)) rfl
      · have c1 : ¬ (n.toInt ≤ i.toInt) := c1
        refine gw_ld rfl rfl ?_
        refine z_gR (q := 115) (zT S2 (by decide) rfl) (zRf S2 (by decide) (by decide) rfl) (by decide) ?_
        refine gw_ld rfl rfl ?_
        refine gw_ld rfl rfl ?_
        refine z_iaV (n := nu) ((hu _ S2).1) ((hu _ S2).2) (by omega) (zG_a F (by omega) (by omega)) ?_
        generalize ex4 : ez_I h u i.toInt.toNat = x4
        have rx4 := z_rng x4
        have yx4 := hA i.toInt.toNat (by omega)
        rw [ex4] at yx4
        refine gw_op rfl ?_
        refine z_ia (n := 17) (zT S2 (by decide) rfl) (zN S2 (by decide) rfl) (by omega) ?_
        generalize ex5 : ez_I h2 115 x4.toInt.toNat = x5
        have rx5 := z_rng x5
        refine gw_ld rfl rfl ?_
        refine gw_ld rfl rfl ?_
        refine z_iaV (n := nu) ((hu _ S2).1) ((hu _ S2).2) (by omega) ((zG_a F (by omega) (by omega)).trans ex4) ?_
        refine z_b1 (fun c7 => ?_) (fun c7 => ?_)
        · have c7 : x4.toInt ≤ 0 := c7
          refine gw_skip _ ?_
          refine z_C (m := 0) rfl rfl (fun x8 ex8 => ?_)
          refine z_addW (fun x9 ex9 => ?_)
          have rx9 := z_rng x9
          refine z_is (n := 17) (zT S2 (by decide) rfl) (zN S2 (by decide) rfl) (by omega) (fun h10 e11 => ?_)
          have S12 := zSh_set S2 e11
          have F13 := zG_setA F e11 (by decide) (by omega)
          refine z_inc rfl (by rw [show (1 : Int32).toInt = 1 from rfl]; omega) (fun x14 ex14 => ?_)
          rw [show (1 : Int32).toInt = 1 from rfl] at ex14
          show ez_gw _ _ _ _ _ _ _ _ [some (.ref 71), some (.ref u), some (.int n), some (.ref w), some (.int x14), l5, l6] _ _ _
          refine z_go ?_
          exact ih h10 x14 (l5) (l6) F13 (by omega)  (by omega)
        · have c7 : ¬ (x4.toInt ≤ 0) := c7
          refine z_C (m := 1) rfl rfl (fun x15 ex15 => ?_)
          refine z_go ?_
          refine gw_skip _ ?_
          refine z_addW (fun x16 ex16 => ?_)
          have rx16 := z_rng x16
          refine z_is (n := 17) (zT S2 (by decide) rfl) (zN S2 (by decide) rfl) (by omega) (fun h17 e18 => ?_)
          have S19 := zSh_set S2 e18
          have F20 := zG_setA F e18 (by decide) (by omega)
          refine z_inc rfl (by rw [show (1 : Int32).toInt = 1 from rfl]; omega) (fun x21 ex21 => ?_)
          rw [show (1 : Int32).toInt = 1 from rfl] at ex21
          show ez_gw _ _ _ _ _ _ _ _ [some (.ref 71), some (.ref u), some (.int n), some (.ref w), some (.int x21), l5, l6] _ _ _
          refine z_go ?_
          exact ih h17 x21 (l5) (l6) F20 (by omega)  (by omega)
set_option maxRecDepth 4000 in
set_option maxHeartbeats 20000000 in
theorem m_codes_L0 {E : Nat → Nat × (Nat → Int32)} {d : Nat} {Q : ez_Q} {h : ez_H} {u : Nat} {n : Int32} {w : Nat} (S : zSh h) {nu nw : Nat} (hu : zA u nu) (hw : zA w nw) (hd : u ≠ 71 ∧ u ≠ 115 ∧ u ≠ 116 ∧ u ≠ w ∧ w ≠ 71 ∧ w ≠ 115 ∧ w ≠ 116) (hn : 0 ≤ n.toInt ∧ n.toInt ≤ nu ∧ n.toInt ≤ nw ∧ nu ≤ 1000 ∧ nw ≤ 1000) (hA : aR (ez_I h u) n.toInt.toNat 0 15) (K : ∀ h2, zG (fun _ => False) (fun q => q = 115 ∨ q = 116 ∨ q = w) h h2 → Q (.inl none) h2) : ∀ N : Nat, (∀ (h2 : ez_H) (i : Int32) (l5 : Option Value) (l6 : Option Value) , zG (fun _ => False) (fun q => q = 115 ∨ q = 116 ∨ q = w) h h2 → (0 ≤ i.toInt) → (2147483647 - i.toInt) < (N : Int) → pw E d 37 3 [some (.ref 71), some (.ref u), some (.int n), some (.ref w), some (.int i), l5, l6] [] h2 Q) := by
  intro N
  induction N with
  | zero => exact fun h2 i l5 l6  F hinv  hm => absurd hm (by have w_i := z_rng i; have gn := z_rng n; omega)
  | succ N ih =>
    refine fun h2 i l5 l6  F hinv  hm => ?_
    · skip
      have w_i := z_rng i
      have gn := z_rng n
      have S2 := zG_sh F S
      apply ez_Wp_in
      show ez_gw _ _ _ _ _ _ (cz_37) _ _ _ _ _
      refine gw_skip _ ?_
      refine gw_ld rfl rfl ?_
      refine z_C (m := 17) rfl rfl (fun x1 ex1 => ?_)
      refine z_b2 (fun c2 => ?_) (fun c2 => ?_)
      · have c2 : x1.toInt ≤ i.toInt := c2
        refine gw_skip _ ?_
        refine z_C (m := 0) rfl rfl (fun x3 ex3 => ?_)
        refine gw_st rfl rfl rfl ?_
        show ez_gw _ _ _ _ _ _ _ _ [some (.ref 71), some (.ref u), some (.int n), some (.ref w), some (.int x3), l5, l6] _ _ _
        exact ez_Wp_at ((m_codes_L1 (u := u) (n := n) (w := w) S hu hw hd hn hA K (((2147483647 - x3.toInt)).toNat + 1)) h2 x3 (l5) (l6) F (by omega)  (by omega)) rfl
      · have c2 : ¬ (x1.toInt ≤ i.toInt) := c2
        refine gw_ld rfl rfl ?_
        refine z_gR (q := 115) (zT S2 (by decide) rfl) (zRf S2 (by decide) (by decide) rfl) (by decide) ?_
        refine gw_ld rfl rfl ?_
        refine z_C (m := 0) rfl rfl (fun x4 ex4 => ?_)
        refine z_is (n := 17) (zT S2 (by decide) rfl) (zN S2 (by decide) rfl) (by omega) (fun h5 e6 => ?_)
        have S7 := zSh_set S2 e6
        have F8 := zG_setA F e6 (by decide) (by omega)
        refine z_inc rfl (by rw [show (1 : Int32).toInt = 1 from rfl]; omega) (fun x9 ex9 => ?_)
        rw [show (1 : Int32).toInt = 1 from rfl] at ex9
        show ez_gw _ _ _ _ _ _ _ _ [some (.ref 71), some (.ref u), some (.int n), some (.ref w), some (.int x9), l5, l6] _ _ _
        refine z_go ?_
        exact ih h5 x9 (l5) (l6) F8 (by omega)  (by omega)
set_option maxRecDepth 4000 in
set_option maxHeartbeats 20000000 in
theorem m_codes {E : Nat → Nat × (Nat → Int32)} {d : Nat} {Q : ez_Q} {h : ez_H} {u : Nat} {n : Int32} {w : Nat} (S : zSh h) {nu nw : Nat} (hu : zA u nu) (hw : zA w nw) (hd : u ≠ 71 ∧ u ≠ 115 ∧ u ≠ 116 ∧ u ≠ w ∧ w ≠ 71 ∧ w ≠ 115 ∧ w ≠ 116) (hn : 0 ≤ n.toInt ∧ n.toInt ≤ nu ∧ n.toInt ≤ nw ∧ nu ≤ 1000 ∧ nw ≤ 1000) (hA : aR (ez_I h u) n.toInt.toNat 0 15) (K : ∀ h2, zG (fun _ => False) (fun q => q = 115 ∨ q = 116 ∨ q = w) h h2 → Q (.inl none) h2) : pw E d 37 0 [some (.ref 71), some (.ref u), some (.int n), some (.ref w), none, none, none] [] h Q := by
  have gn := z_rng n
  have F := zG_refl (fun _ => False) (fun q => q = 115 ∨ q = 116 ∨ q = w) h
  apply ez_Wp_in
  show ez_gw _ _ _ _ _ _ (cz_37) _ _ _ _ _
  refine gw_skip _ ?_
  refine z_C (m := 0) rfl rfl (fun x1 ex1 => ?_)
  refine gw_st rfl rfl rfl ?_
  show ez_gw _ _ _ _ _ _ _ _ [some (.ref 71), some (.ref u), some (.int n), some (.ref w), some (.int x1), none, none] _ _ _
  exact ez_Wp_at ((m_codes_L0 (u := u) (n := n) (w := w) S hu hw hd hn hA K (((2147483647 - x1.toInt)).toNat + 1)) h x1 (none) (none) F (by omega)  (by omega)) rfl
set_option maxRecDepth 4000 in
set_option maxHeartbeats 20000000 in
theorem m_pp_L0 {E : Nat → Nat × (Nat → Int32)} {d : Nat} {Q : ez_Q} {h : ez_H} {k : Int32} {n : Int32} {w : Int32} {a : Int32} {b : Int32} {o : Int32} (S : zSh h) (hk : 0 ≤ k.toInt ∧ k.toInt < 600 ∧ 0 ≤ n.toInt ∧ n.toInt ≤ 288 ∧ 0 ≤ a.toInt ∧ a.toInt < 600 ∧ 0 ≤ b.toInt ∧ b.toInt < 600) (hs : o.toInt < 0 → ∀ j, j < n.toInt.toNat → (0 ≤ (ez_I h 113 (288 * a.toInt.toNat + j)).toInt ∧ (ez_I h 113 (288 * a.toInt.toNat + j)).toInt ≤ 1000) ∧ (0 ≤ (ez_I h 113 (288 * b.toInt.toNat + j)).toInt ∧ (ez_I h 113 (288 * b.toInt.toNat + j)).toInt ≤ 1000)) (K : ∀ h2, zG (fun _ => False) (fun q => q = 112 ∨ q = 114) h h2 → pN (ez_I h2 114) (ez_I h 114) (ez_I h 113) k.toInt.toNat a.toInt b.toInt o.toInt n.toInt.toNat → Q (.inl none) h2) : ∀ N : Nat, (∀ (h2 : ez_H) (j : Int32) , zG (fun _ => False) (fun q => q = 112 ∨ q = 114) h h2 → (0 ≤ j.toInt ∧ j.toInt ≤ n.toInt) → pN (ez_I h2 114) (ez_I h 114) (ez_I h 113) k.toInt.toNat a.toInt b.toInt o.toInt j.toInt.toNat → (2147483647 - j.toInt) < (N : Int) → pw E d 35 10 [some (.ref 71), some (.int k), some (.int n), some (.int w), some (.int a), some (.int b), some (.int o), some (.int j)] [] h2 Q) := by
  intro N
  induction N with
  | zero => exact fun h2 j  F hinv A_pn hm => absurd hm (by have w_j := z_rng j; have gk := z_rng k; have gn := z_rng n; have gw := z_rng w; have ga := z_rng a; have gb := z_rng b; have go := z_rng o; omega)
  | succ N ih =>
    refine fun h2 j  F hinv A_pn hm => ?_
    · skip
      have w_j := z_rng j
      have gk := z_rng k
      have gn := z_rng n
      have gw := z_rng w
      have ga := z_rng a
      have gb := z_rng b
      have go := z_rng o
      have S2 := zG_sh F S
      have hs2 : o.toInt < 0 → j.toInt < n.toInt → _ := fun q1 q2 => hs q1 j.toInt.toNat (by omega)
      apply ez_Wp_in
      show ez_gw _ _ _ _ _ _ (cz_35) _ _ _ _ _
      refine gw_skip _ ?_
      refine gw_ld rfl rfl ?_
      refine gw_ld rfl rfl ?_
      refine z_b2 (fun c1 => ?_) (fun c1 => ?_)
      · have c1 : n.toInt ≤ j.toInt := c1
        refine gw_skip _ ?_
        refine z_rv ?_
        exact K _ F (by rw [show n.toInt.toNat = j.toInt.toNat by omega]; exact A_pn)
      · have c1 : ¬ (n.toInt ≤ j.toInt) := c1
        refine gw_ld rfl rfl ?_
        refine z_gR (q := 114) (zT S2 (by decide) rfl) (zRf S2 (by decide) (by decide) rfl) (by decide) ?_
        refine z_C (m := 288) rfl rfl (fun x2 ex2 => ?_)
        refine gw_ld rfl rfl ?_
        refine z_mulL (c := 288) ex2 (by omega) (fun x3 ex3 => ?_)
        refine gw_ld rfl rfl ?_
        refine z_add (by omega) (fun x4 ex4 => ?_)
        refine gw_ld rfl rfl ?_
        refine z_b1 (fun c5 => ?_) (fun c5 => ?_)
        · have c5 : o.toInt < 0 := c5
          refine gw_skip _ ?_
          refine gw_ld rfl rfl ?_
          refine z_gR (q := 113) (zT S2 (by decide) rfl) (zRf S2 (by decide) (by decide) rfl) (by decide) ?_
          refine z_C (m := 288) rfl rfl (fun x6 ex6 => ?_)
          refine gw_ld rfl rfl ?_
          refine z_mulL (c := 288) ex6 (by omega) (fun x7 ex7 => ?_)
          refine gw_ld rfl rfl ?_
          refine z_add (by omega) (fun x8 ex8 => ?_)
          refine z_iaV (n := 172800) (zT S2 (by decide) rfl) (zN S2 (by decide) rfl) (by omega) (zG_a F (by decide) (by decide)) ?_
          generalize ex9 : ez_I h 113 x8.toInt.toNat = x9
          have rx9 := z_rng x9
          have yx9 := (hs2 (by omega) (by omega)).1
          rw [show 288 * a.toInt.toNat + j.toInt.toNat = x8.toInt.toNat by omega, ex9] at yx9
          refine gw_ld rfl rfl ?_
          refine z_gR (q := 113) (zT S2 (by decide) rfl) (zRf S2 (by decide) (by decide) rfl) (by decide) ?_
          refine z_C (m := 288) rfl rfl (fun x10 ex10 => ?_)
          refine gw_ld rfl rfl ?_
          refine z_mulL (c := 288) ex10 (by omega) (fun x11 ex11 => ?_)
          refine gw_ld rfl rfl ?_
          refine z_add (by omega) (fun x12 ex12 => ?_)
          refine z_iaV (n := 172800) (zT S2 (by decide) rfl) (zN S2 (by decide) rfl) (by omega) (zG_a F (by decide) (by decide)) ?_
          generalize ex13 : ez_I h 113 x12.toInt.toNat = x13
          have rx13 := z_rng x13
          have yx13 := (hs2 (by omega) (by omega)).2
          rw [show 288 * b.toInt.toNat + j.toInt.toNat = x12.toInt.toNat by omega, ex13] at yx13
          refine z_add (by omega) (fun x14 ex14 => ?_)
          refine z_is (n := 172800) (zT S2 (by decide) rfl) (zN S2 (by decide) rfl) (by omega) (fun h15 e16 => ?_)
          have S17 := zSh_set S2 e16
          have F18 := zG_setA F e16 (by decide) (by decide)
          have A19 : pN (ez_I h15 114) (ez_I h 114) (ez_I h 113) k.toInt.toNat a.toInt b.toInt o.toInt (j.toInt.toNat + 1) := pN_up A_pn e16 (by omega) (hp_2 (by omega) ex9 ex13 (by omega) (by omega) (by omega))
          refine z_inc rfl (by rw [show (1 : Int32).toInt = 1 from rfl]; omega) (fun x20 ex20 => ?_)
          rw [show (1 : Int32).toInt = 1 from rfl] at ex20
          show ez_gw _ _ _ _ _ _ _ _ [some (.ref 71), some (.int k), some (.int n), some (.int w), some (.int a), some (.int b), some (.int o), some (.int x20)] _ _ _
          refine z_go ?_
          exact ih h15 x20 F18 (by omega) ((by rw [show x20.toInt.toNat = j.toInt.toNat + 1 by omega]; exact A19)) (by omega)
        · have c5 : ¬ (o.toInt < 0) := c5
          refine gw_ld rfl rfl ?_
          refine gw_ld rfl rfl ?_
          refine z_b2 (fun c21 => ?_) (fun c21 => ?_)
          · have c21 : j.toInt ≠ o.toInt := c21
            refine gw_skip _ ?_
            refine z_C (m := 0) rfl rfl (fun x22 ex22 => ?_)
            refine z_go ?_
            refine gw_skip _ ?_
            refine z_is (n := 172800) (zT S2 (by decide) rfl) (zN S2 (by decide) rfl) (by omega) (fun h23 e24 => ?_)
            have S25 := zSh_set S2 e24
            have F26 := zG_setA F e24 (by decide) (by decide)
            have A27 : pN (ez_I h23 114) (ez_I h 114) (ez_I h 113) k.toInt.toNat a.toInt b.toInt o.toInt (j.toInt.toNat + 1) := pN_up A_pn e24 (by omega) (hp_1 (by omega) (by omega))
            refine z_inc rfl (by rw [show (1 : Int32).toInt = 1 from rfl]; omega) (fun x28 ex28 => ?_)
            rw [show (1 : Int32).toInt = 1 from rfl] at ex28
            show ez_gw _ _ _ _ _ _ _ _ [some (.ref 71), some (.int k), some (.int n), some (.int w), some (.int a), some (.int b), some (.int o), some (.int x28)] _ _ _
            refine z_go ?_
            exact ih h23 x28 F26 (by omega) ((by rw [show x28.toInt.toNat = j.toInt.toNat + 1 by omega]; exact A27)) (by omega)
          · have c21 : ¬ (j.toInt ≠ o.toInt) := c21
            refine z_C (m := 1) rfl rfl (fun x29 ex29 => ?_)
            refine z_go ?_
            refine gw_skip _ ?_
            refine z_is (n := 172800) (zT S2 (by decide) rfl) (zN S2 (by decide) rfl) (by omega) (fun h30 e31 => ?_)
            have S32 := zSh_set S2 e31
            have F33 := zG_setA F e31 (by decide) (by decide)
            have A34 : pN (ez_I h30 114) (ez_I h 114) (ez_I h 113) k.toInt.toNat a.toInt b.toInt o.toInt (j.toInt.toNat + 1) := pN_up A_pn e31 (by omega) (hp_1 (by omega) (by omega))
            refine z_inc rfl (by rw [show (1 : Int32).toInt = 1 from rfl]; omega) (fun x35 ex35 => ?_)
            rw [show (1 : Int32).toInt = 1 from rfl] at ex35
            show ez_gw _ _ _ _ _ _ _ _ [some (.ref 71), some (.int k), some (.int n), some (.int w), some (.int a), some (.int b), some (.int o), some (.int x35)] _ _ _
            refine z_go ?_
            exact ih h30 x35 F33 (by omega) ((by rw [show x35.toInt.toNat = j.toInt.toNat + 1 by omega]; exact A34)) (by omega)
set_option maxRecDepth 4000 in
set_option maxHeartbeats 20000000 in
theorem m_pp {E : Nat → Nat × (Nat → Int32)} {d : Nat} {Q : ez_Q} {h : ez_H} {k : Int32} {n : Int32} {w : Int32} {a : Int32} {b : Int32} {o : Int32} (S : zSh h) (hk : 0 ≤ k.toInt ∧ k.toInt < 600 ∧ 0 ≤ n.toInt ∧ n.toInt ≤ 288 ∧ 0 ≤ a.toInt ∧ a.toInt < 600 ∧ 0 ≤ b.toInt ∧ b.toInt < 600) (hs : o.toInt < 0 → ∀ j, j < n.toInt.toNat → (0 ≤ (ez_I h 113 (288 * a.toInt.toNat + j)).toInt ∧ (ez_I h 113 (288 * a.toInt.toNat + j)).toInt ≤ 1000) ∧ (0 ≤ (ez_I h 113 (288 * b.toInt.toNat + j)).toInt ∧ (ez_I h 113 (288 * b.toInt.toNat + j)).toInt ≤ 1000)) (K : ∀ h2, zG (fun _ => False) (fun q => q = 112 ∨ q = 114) h h2 → pN (ez_I h2 114) (ez_I h 114) (ez_I h 113) k.toInt.toNat a.toInt b.toInt o.toInt n.toInt.toNat → Q (.inl none) h2) : pw E d 35 0 [some (.ref 71), some (.int k), some (.int n), some (.int w), some (.int a), some (.int b), some (.int o), none] [] h Q := by
  have gk := z_rng k
  have gn := z_rng n
  have gw := z_rng w
  have ga := z_rng a
  have gb := z_rng b
  have go := z_rng o
  have F := zG_refl (fun _ => False) (fun q => q = 112 ∨ q = 114) h
  apply ez_Wp_in
  show ez_gw _ _ _ _ _ _ (cz_35) _ _ _ _ _
  refine gw_skip _ ?_
  refine gw_ld rfl rfl ?_
  refine z_gR (q := 112) (zT S (by decide) rfl) (zRf S (by decide) (by decide) rfl) (by decide) ?_
  refine gw_ld rfl rfl ?_
  refine gw_ld rfl rfl ?_
  refine z_is (n := 600) (zT S (by decide) rfl) (zN S (by decide) rfl) (by omega) (fun h1 e2 => ?_)
  have S3 := zSh_set S e2
  have F4 := zG_setA F e2 (by decide) (by decide)
  refine z_C (m := 0) rfl rfl (fun x5 ex5 => ?_)
  refine gw_st rfl rfl rfl ?_
  show ez_gw _ _ _ _ _ _ _ _ [some (.ref 71), some (.int k), some (.int n), some (.int w), some (.int a), some (.int b), some (.int o), some (.int x5)] _ _ _
  exact ez_Wp_at ((m_pp_L0 (k := k) (n := n) (w := w) (a := a) (b := b) (o := o) S hk hs K (((2147483647 - x5.toInt)).toNat + 1)) h1 x5 F4 (by omega) ((by rw [show x5.toInt.toNat = 0 by omega, zI_fn e2 114 (by decide)]; exact pN_0)) (by omega)) rfl
