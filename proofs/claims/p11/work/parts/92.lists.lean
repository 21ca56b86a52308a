/-! PACKAGES, abstractly: lists of weights, which of them are single, and how often a symbol is in the first k -/
def sgl (W Lp : Nat → Int) (n r s p : Nat) : Prop := s < n ∧ (r ≤ p + 1 ∨ W s ≤ Lp p + Lp (p + 1))
noncomputable def xs1 (W Lp : Nat → Int) (n r : Nat) : Nat → Nat
  | 0 => 0
  | k + 1 => @ite Nat (sgl W Lp n r (xs1 W Lp n r k) (2 * (k - xs1 W Lp n r k))) (Classical.propDecidable _) (xs1 W Lp n r k + 1) (xs1 W Lp n r k)
theorem xs1_y {W Lp : Nat → Int} {n r k s p : Nat} (hs : s = xs1 W Lp n r k) (hp : p = 2 * (k - s)) (h : sgl W Lp n r s p) : xs1 W Lp n r (k + 1) = s + 1 := by
  subst hs; subst hp
  exact if_pos h
theorem xs1_n {W Lp : Nat → Int} {n r k s p : Nat} (hs : s = xs1 W Lp n r k) (hp : p = 2 * (k - s)) (h : ¬ sgl W Lp n r s p) : xs1 W Lp n r (k + 1) = s := by
  subst hs; subst hp
  exact if_neg h
theorem xs1_le {W Lp : Nat → Int} {n r : Nat} : ∀ k, xs1 W Lp n r k ≤ k ∧ xs1 W Lp n r k ≤ n
  | 0 => ⟨Nat.le_refl _, Nat.zero_le _⟩
  | k + 1 => by
    have ih := xs1_le (W := W) (Lp := Lp) (n := n) (r := r) k
    by_cases c : sgl W Lp n r (xs1 W Lp n r k) (2 * (k - xs1 W Lp n r k))
    · rw [xs1_y rfl rfl c]
      have := c.1
      omega
    · rw [xs1_n rfl rfl c]
      omega
/-- within the list there is always a pair where no symbol is taken -/
theorem xs1_p {W Lp : Nat → Int} {n r : Nat} : ∀ k, k ≤ n + r / 2 → 2 * (k - xs1 W Lp n r k) ≤ r
  | 0, _ => by show 2 * (0 - 0) ≤ r; omega
  | k + 1, h => by
    have ih := xs1_p (W := W) (Lp := Lp) (n := n) (r := r) k (by omega)
    have l := xs1_le (W := W) (Lp := Lp) (n := n) (r := r) k
    by_cases c : sgl W Lp n r (xs1 W Lp n r k) (2 * (k - xs1 W Lp n r k))
    · rw [xs1_y rfl rfl c]
      omega
    · rw [xs1_n rfl rfl c]
      have : ¬ (r ≤ 2 * (k - xs1 W Lp n r k) + 1) := fun q => by
        by_cases e : xs1 W Lp n r k < n
        · exact c ⟨e, .inl q⟩
        · omega
      omega
noncomputable def nxL (W Lp : Nat → Int) (n r k : Nat) : Int := @ite Int (sgl W Lp n r (xs1 W Lp n r k) (2 * (k - xs1 W Lp n r k))) (Classical.propDecidable _) (W (xs1 W Lp n r k)) (Lp (2 * (k - xs1 W Lp n r k)) + Lp (2 * (k - xs1 W Lp n r k) + 1))
theorem nxL_y {W Lp : Nat → Int} {n r k s p : Nat} (hs : s = xs1 W Lp n r k) (hp : p = 2 * (k - s)) (h : sgl W Lp n r s p) : nxL W Lp n r k = W s := by
  subst hs; subst hp
  exact if_pos h
theorem nxL_n {W Lp : Nat → Int} {n r k s p : Nat} (hs : s = xs1 W Lp n r k) (hp : p = 2 * (k - s)) (h : ¬ sgl W Lp n r s p) : nxL W Lp n r k = Lp p + Lp (p + 1) := by
  subst hs; subst hp
  exact if_neg h
def rz (n : Nat) : Nat → Nat
  | 0 => n
  | t + 1 => n + rz n t / 2
noncomputable def LL (W : Nat → Int) (n : Nat) : Nat → Nat → Int
  | 0 => W
  | t + 1 => nxL W (LL W n t) n (rz n t)
noncomputable def cS (W : Nat → Int) (n : Nat) : Nat → Nat → Nat
  | 0 => fun k => k
  | t + 1 => xs1 W (LL W n t) n (rz n t)
noncomputable def FF (W : Nat → Int) (n : Nat) : Nat → Nat → Nat → Int
  | 0 => fun k j => lt1 k j
  | t + 1 => fun k j => lt1 (cS W n (t + 1) k) j + FF W n t (2 * (k - cS W n (t + 1) k)) j
theorem rz_le (n : Nat) : ∀ t, n ≤ rz n t ∧ (1 ≤ n → rz n t + 1 ≤ 2 * n)
  | 0 => ⟨Nat.le_refl _, fun h => by show n + 1 ≤ _; omega⟩
  | t + 1 => by
    have ih := rz_le n t
    refine ⟨?_, fun h => ?_⟩
    · show n ≤ n + _; omega
    · have := ih.2 h
      show n + rz n t / 2 + 1 ≤ _
      omega
/-- the sums of the lists -/
theorem LL_sm {W Lp : Nat → Int} {n r : Nat} : ∀ k, sm (nxL W Lp n r) k = sm W (xs1 W Lp n r k) + sm Lp (2 * (k - xs1 W Lp n r k))
  | 0 => rfl
  | k + 1 => by
    have ih := LL_sm (W := W) (Lp := Lp) (n := n) (r := r) k
    have l := xs1_le (W := W) (Lp := Lp) (n := n) (r := r) k
    show sm (nxL W Lp n r) k + nxL W Lp n r k = _
    by_cases c : sgl W Lp n r (xs1 W Lp n r k) (2 * (k - xs1 W Lp n r k))
    · rw [xs1_y rfl rfl c, nxL_y rfl rfl c, ih, show k + 1 - (xs1 W Lp n r k + 1) = k - xs1 W Lp n r k by omega]
      show _ = sm W (xs1 W Lp n r k) + W (xs1 W Lp n r k) + _
      omega
    · rw [xs1_n rfl rfl c, nxL_n rfl rfl c, ih, show 2 * (k + 1 - xs1 W Lp n r k) = 2 * (k - xs1 W Lp n r k) + 1 + 1 by omega]
      show _ = _ + (sm Lp (2 * (k - xs1 W Lp n r k)) + Lp (2 * (k - xs1 W Lp n r k)) + Lp (2 * (k - xs1 W Lp n r k) + 1))
      omega
theorem LL_nn {W : Nat → Int} {n : Nat} (hW : ∀ j, j < n → 0 ≤ W j) : ∀ t k, k < rz n t → 0 ≤ LL W n t k
  | 0, k, hk => hW k hk
  | t + 1, k, hk => by
    have ih := LL_nn hW t
    have hk : k < n + rz n t / 2 := hk
    have l := xs1_le (W := W) (Lp := LL W n t) (n := n) (r := rz n t) k
    show 0 ≤ nxL W (LL W n t) n (rz n t) k
    by_cases c : sgl W (LL W n t) n (rz n t) (xs1 W (LL W n t) n (rz n t) k) (2 * (k - xs1 W (LL W n t) n (rz n t) k))
    · rw [nxL_y rfl rfl c]
      exact hW _ c.1
    · rw [nxL_n rfl rfl c]
      have p := xs1_p (W := W) (Lp := LL W n t) (n := n) (r := rz n t) (k + 1) (by omega)
      rw [xs1_n rfl rfl c] at p
      have a := ih (2 * (k - xs1 W (LL W n t) n (rz n t) k)) (by omega)
      have b := ih (2 * (k - xs1 W (LL W n t) n (rz n t) k) + 1) (by omega)
      omega
theorem LL_bd {W : Nat → Int} {n : Nat} {B : Int} (hW : ∀ j, j < n → 0 ≤ W j) (hB : sm W n ≤ B) : ∀ (t : Nat) (k : Nat), k ≤ rz n t → sm (LL W n t) k ≤ B * ((t : Int) + 1)
  | 0, k, hk => by
    have : sm W k ≤ sm W n := sm_mono hk hW
    show sm W k ≤ B * (((0 : Nat) : Int) + 1)
    rw [show (((0 : Nat) : Int) + 1) = 1 from rfl, Int.mul_one]
    omega
  | t + 1, k, hk => by
    have hk : k ≤ n + rz n t / 2 := hk
    have l := xs1_le (W := W) (Lp := LL W n t) (n := n) (r := rz n t) k
    have ih := LL_bd hW hB t (2 * (k - xs1 W (LL W n t) n (rz n t) k)) (xs1_p k hk)
    have a : sm W (xs1 W (LL W n t) n (rz n t) k) ≤ sm W n := sm_mono l.2 hW
    show sm (nxL W (LL W n t) n (rz n t)) k ≤ _
    rw [LL_sm]
    have e : B * (((t + 1 : Nat) : Int) + 1) = B * ((t : Int) + 1) + B := by
      rw [show ((t + 1 : Nat) : Int) + 1 = ((t : Int) + 1) + 1 from by omega, Int.mul_add B ((t : Int) + 1) 1, Int.mul_one]
    omega
/-- a pair's weight is small -/
theorem LL_pr {W : Nat → Int} {n : Nat} {B : Int} (hW : ∀ j, j < n → 0 ≤ W j) (hB : sm W n ≤ B) {t p : Nat} (hp : p + 1 < rz n t) : 0 ≤ LL W n t p + LL W n t (p + 1) ∧ LL W n t p + LL W n t (p + 1) ≤ B * ((t : Int) + 1) := by
  have a := LL_nn hW t p (by omega)
  have b := LL_nn hW t (p + 1) hp
  have c := LL_bd hW hB t (p + 1 + 1) (by omega)
  have d : sm (LL W n t) (p + 1 + 1) = sm (LL W n t) p + LL W n t p + LL W n t (p + 1) := rfl
  have e : 0 ≤ sm (LL W n t) p := sm_nonneg (fun k hk => LL_nn hW t k (by omega))
  omega
theorem FF_s {W : Nat → Int} {n t k s p j : Nat} (hs : s = cS W n (t + 1) k) (hp : p = 2 * (k - s)) : FF W n (t + 1) k j = lt1 s j + FF W n t p j := by
  subst hs; subst hp; rfl
theorem FF_y {W : Nat → Int} {n t k s p j : Nat} (hs : s = cS W n (t + 1) k) (hp : p = 2 * (k - s)) (h : sgl W (LL W n t) n (rz n t) s p) (hk : s ≤ k) : FF W n (t + 1) (k + 1) j = FF W n (t + 1) k j + unit1 s j := by
  have e : s + 1 = cS W n (t + 1) (k + 1) := (xs1_y hs hp h).symm
  rw [FF_s e (by omega : p = 2 * (k + 1 - (s + 1))), FF_s hs hp]
  have := lt1_up s j
  rw [show (((s + 1 : Nat)) : Int) = (s : Int) + 1 by omega]
  omega
theorem FF_n {W : Nat → Int} {n t k s p j : Nat} (hs : s = cS W n (t + 1) k) (hp : p = 2 * (k - s)) (h : ¬ sgl W (LL W n t) n (rz n t) s p) (hk : s ≤ k) : FF W n (t + 1) (k + 1) j = FF W n (t + 1) k j - FF W n t p j + FF W n t (p + 2) j := by
  have e : s = cS W n (t + 1) (k + 1) := (xs1_n hs hp h).symm
  rw [FF_s e (by omega : p + 2 = 2 * (k + 1 - s)), FF_s hs hp]
  omega
/-- how often x is among the first n -/
def cnZ (f : Nat → Int) (x : Int) : Nat → Nat
  | 0 => 0
  | n + 1 => cnZ f x n + if f n = x then 1 else 0
theorem cnZ_y {f : Nat → Int} {x : Int} {n : Nat} (h : f n = x) : cnZ f x (n + 1) = cnZ f x n + 1 := by
  show cnZ f x n + (if f n = x then 1 else 0) = _
  simp only [h, ↓reduceIte]
theorem cnZ_n {f : Nat → Int} {x : Int} {n : Nat} (h : ¬ f n = x) : cnZ f x (n + 1) = cnZ f x n := by
  show cnZ f x n + (if f n = x then 1 else 0) = _
  simp only [h, ↓reduceIte]; rfl
theorem cnZ_congr {f g : Nat → Int} {x : Int} : ∀ n, (∀ i, i < n → f i = g i) → cnZ f x n = cnZ g x n
  | 0, _ => rfl
  | n + 1, h => by
    show cnZ f x n + _ = cnZ g x n + _
    rw [cnZ_congr n (fun i hi => h i (by omega)), h n (by omega)]
def hol (f : Nat → Int) (k : Nat) (v : Int) : Nat → Int := fun i => if i = k then v else f i
theorem hol_e {f : Nat → Int} {k : Nat} {v : Int} : hol f k v k = v := if_pos rfl
theorem hol_n {f : Nat → Int} {k i : Nat} {v : Int} (h : i ≠ k) : hol f k v i = f i := if_neg h
/-- one place set: the count with what stood there -/
theorem cnZ_set {f : Nat → Int} {k : Nat} {v x : Int} : ∀ n, k < n → cnZ (hol f k v) x n + (if f k = x then 1 else 0) = cnZ f x n + (if v = x then 1 else 0)
  | 0, h => by omega
  | n + 1, h => by
    by_cases c : k = n
    · subst c
      show cnZ (hol f k v) x k + (if hol f k v k = x then 1 else 0) + _ = cnZ f x k + (if f k = x then 1 else 0) + _
      have e1 : cnZ (hol f k v) x k = cnZ f x k := cnZ_congr k (fun i hi => hol_n (by omega))
      rw [hol_e, e1]
      split <;> split <;> omega
    · have ih := cnZ_set (f := f) (k := k) (v := v) (x := x) n (by omega)
      show cnZ (hol f k v) x n + (if hol f k v n = x then 1 else 0) + _ = cnZ f x n + (if f n = x then 1 else 0) + _
      rw [hol_n (fun e => c e.symm)]
      revert ih
      split <;> split <;> split <;> omega
/-- the hole moves from k to q, where what stood there has come to k -/
theorem cnZ_mv {f f' : Nat → Int} {k q n : Nat} {v x : Int} (hk : k < n) (hq : q < n) (hne : q ≠ k) (h1 : f' k = f q) (h2 : ∀ i, i ≠ k → f' i = f i) : cnZ (hol f' q v) x n = cnZ (hol f k v) x n := by
  have a := cnZ_set (f := f') (k := q) (v := v) (x := x) n hq
  have b := cnZ_set (f := f) (k := k) (v := v) (x := x) n hk
  have c := cnZ_set (f := f) (k := k) (v := f q) (x := x) n hk
  have d : cnZ f' x n = cnZ (hol f k (f q)) x n := cnZ_congr n (fun i _ => by
    by_cases e : i = k
    · subst e; rw [hol_e]; exact h1
    · rw [hol_n e]; exact h2 i e)
  rw [h2 q hne] at a
  omega
theorem so_last {f : Nat → Int} {n : Nat} (hf : ∀ i, i + 1 < n → f i ≤ f (i + 1)) : ∀ d i, i + d < n → f i ≤ f (i + d)
  | 0, i, _ => Int.le_refl _
  | d + 1, i, h => Int.le_trans (so_last hf d i (by omega)) (hf (i + d) (by omega))
theorem cnZ_z {f : Nat → Int} {x : Int} : ∀ n, (∀ i, i < n → f i ≠ x) → cnZ f x n = 0
  | 0, _ => rfl
  | n + 1, h => by
    rw [cnZ_n (h n (by omega))]
    exact cnZ_z n (fun i hi => h i (by omega))
/-- two rising rows with the same members are the same -/
theorem so_eq {f g : Nat → Int} : ∀ n, (∀ i, i + 1 < n → f i ≤ f (i + 1)) → (∀ i, i + 1 < n → g i ≤ g (i + 1)) → (∀ x, cnZ f x n = cnZ g x n) → ∀ i, i < n → f i = g i
  | 0, _, _, _, i, hi => by omega
  | n + 1, hf, hg, hc, i, hi => by
    have key : f n = g n := by
      have up : ∀ a b : Nat → Int, (∀ i, i + 1 < n + 1 → b i ≤ b (i + 1)) → (∀ x, cnZ a x (n + 1) = cnZ b x (n + 1)) → ¬ b n < a n := fun a b hb hab q => by
        have h1 : cnZ a (a n) (n + 1) = cnZ a (a n) n + 1 := cnZ_y rfl
        have h2 : cnZ b (a n) (n + 1) = 0 := cnZ_z (n + 1) (fun i hi => by
          have := so_last hb (n - i) i (by omega)
          rw [show i + (n - i) = n by omega] at this
          omega)
        have := hab (a n)
        omega
      have u1 := up f g hg hc
      have u2 := up g f hf (fun x => (hc x).symm)
      omega
    by_cases e : i = n
    · subst e; exact key
    · refine so_eq n (fun i hi => hf i (by omega)) (fun i hi => hg i (by omega)) (fun x => ?_) i (by omega)
      have h := hc x
      by_cases c : f n = x
      · rw [cnZ_y c, cnZ_y (by omega)] at h
        omega
      · rw [cnZ_n c, cnZ_n (by omega)] at h
        exact h
/-- rising but for a hole at k, with v to come, among 0 .. n -/
def soH (f : Nat → Int) (n k : Nat) (v : Int) : Prop := (∀ i, i + 1 < k → f i ≤ f (i + 1)) ∧ (∀ i, k < i → i < n → f i ≤ f (i + 1)) ∧ (0 < k → k < n → f (k - 1) ≤ f (k + 1)) ∧ ∀ i, k < i → i ≤ n → v ≤ f i
def soS (f : Nat → Int) (n : Nat) : Prop := ∀ i, i + 1 < n → f i ≤ f (i + 1)
theorem soH_0 {f : Nat → Int} {n k : Nat} {v : Int} (A : soS f n) (h : k = n) : soH f n k v := ⟨fun i hi => A i (by omega), fun i h1 h2 => by omega, fun _ h2 => by omega, fun i h1 h2 => by omega⟩
theorem soH_mv {f f' : Nat → Int} {n k q : Nat} {v : Int} (A : soH f n k v) (hq : q + 1 = k) (hk : k ≤ n) (h1 : f' k = f q) (h2 : ∀ i, i ≠ k → f' i = f i) (hv : v ≤ f q) : soH f' n q v := by
  refine ⟨fun i hi => ?_, fun i a b => ?_, fun a b => ?_, fun i a b => ?_⟩
  · rw [h2 i (by omega), h2 (i + 1) (by omega)]
    exact A.1 i (by omega)
  · by_cases c : i = k
    · subst c
      rw [h1, h2 (i + 1) (by omega)]
      have := A.2.2.1 (by omega) b
      rw [show i - 1 = q by omega] at this
      exact this
    · rw [h2 i c, h2 (i + 1) (by omega)]
      exact A.2.1 i (by omega) b
  · rw [hq, h1, h2 (q - 1) (by omega)]
    have := A.1 (q - 1) (by omega)
    rw [show q - 1 + 1 = q by omega] at this
    exact this
  · by_cases c : i = k
    · subst c; rw [h1]; exact hv
    · rw [h2 i c]
      exact A.2.2.2 i (by omega) b
theorem soH_end {f f' : Nat → Int} {n k m : Nat} {v : Int} (A : soH f n k v) (hk : k ≤ n) (h1 : f' k = v) (h2 : ∀ i, i ≠ k → f' i = f i) (hv : 0 < k → f (k - 1) ≤ v) (hm : m = n + 1) : soS f' m := fun i hi => by
  subst hm
  by_cases c : i = k
  · subst c
    rw [h1, h2 (i + 1) (by omega)]
    exact A.2.2.2 (i + 1) (by omega) (by omega)
  · by_cases d : i + 1 = k
    · subst d
      rw [h1, h2 i c]
      have := hv (by omega)
      rw [show i + 1 - 1 = i by omega] at this
      exact this
    · rw [h2 i c, h2 (i + 1) d]
      by_cases e : i < k
      · exact A.1 i (by omega)
      · exact A.2.1 i (by omega) (by omega)
/-! what the lengths are, of weights U of al symbols, within li -/
def kyU (U : Nat → Int32) (s : Nat) : Int := (U s).toInt * 512 + s
def cnU (U : Nat → Int32) (x : Int) : Nat → Nat
  | 0 => 0
  | s + 1 => cnU U x s + if 0 < (U s).toInt ∧ kyU U s = x then 1 else 0
def poC (U : Nat → Int32) : Nat → Nat
  | 0 => 0
  | s + 1 => poC U s + if 0 < (U s).toInt then 1 else 0
def cut1 (n : Nat) (W : Nat → Int) : Nat → Int := fun i => if i < n then W i else 0
theorem cut1_e {n i : Nat} {W : Nat → Int} (h : i < n) : cut1 n W i = W i := if_pos h
noncomputable def lnO (kf : Nat → Int) (n li j : Nat) : Int := if n = 1 then 1 else FF (cut1 n (fun i => kf i / 512)) n (li - 1) (2 * n - 2) j
def lnP (U R : Nat → Int32) (al li : Nat) : Prop := ∃ (n : Nat) (kf : Nat → Int), n = poC U al ∧ soS kf n ∧ (∀ x, cnZ kf x n = cnU U x al) ∧ (∀ j, j < n → (R (kf j % 512).toNat).toInt = lnO kf n li j) ∧ ∀ s : Nat, s < al → (∀ j, j < n → kf j % 512 ≠ s) → (R s).toInt = 0
theorem lnO_congr {kf kf' : Nat → Int} {n li j : Nat} (h : ∀ i, i < n → kf i = kf' i) : lnO kf n li j = lnO kf' n li j := by
  have e : cut1 n (fun i => kf i / 512) = cut1 n (fun i => kf' i / 512) := by
    funext i
    unfold cut1
    by_cases c : i < n
    · simp only [c, ↓reduceIte]; rw [h i c]
    · simp only [c, ↓reduceIte]
  unfold lnO
  rw [e]
/-- they are told by the weights alone -/
theorem lnP_eq {U R R' : Nat → Int32} {al li : Nat} (hal : al ≤ 512) (A : lnP U R al li) (B : lnP U R' al li) : ∀ s, s < al → (R s).toInt = (R' s).toInt := by
  obtain ⟨n, kf, a1, a2, a3, a4, a5⟩ := A
  obtain ⟨n', kf', b1, b2, b3, b4, b5⟩ := B
  have en : n' = n := by rw [a1, b1]
  subst en
  have ek := so_eq n' a2 b2 (fun x => by rw [a3, b3])
  intro s hs
  by_cases c : ∃ j, j < n' ∧ kf j % 512 = s
  · obtain ⟨j, hj, e⟩ := c
    have h1 := a4 j hj
    have h2 := b4 j hj
    rw [← ek j hj, ← lnO_congr ek] at h2
    rw [e] at h1 h2
    rw [show ((s : Nat) : Int).toNat = s by omega] at h1 h2
    omega
  · rw [a5 s hs (fun j hj e => c ⟨j, hj, e⟩), b5 s hs (fun j hj e => c ⟨j, hj, by rw [ek j hj]; exact e⟩)]
