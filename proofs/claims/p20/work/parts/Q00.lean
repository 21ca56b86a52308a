/-! MATCHES, told by the bytes alone -/
/-- how many bytes are the same from q and from p on, at most m -/
noncomputable def lc (T : Nat → Int) (q p : Nat) : Nat → Nat
  | 0 => 0
  | m + 1 => if lc T q p m = m ∧ T (q + m) = T (p + m) then m + 1 else lc T q p m
theorem lc_y {T : Nat → Int} {q p m : Nat} (h : lc T q p m = m) (e : T (q + m) = T (p + m)) : lc T q p (m + 1) = m + 1 := by
  show (if lc T q p m = m ∧ T (q + m) = T (p + m) then m + 1 else lc T q p m) = m + 1
  exact if_pos ⟨h, e⟩
theorem lc_n {T : Nat → Int} {q p m : Nat} (h : ¬ (lc T q p m = m ∧ T (q + m) = T (p + m))) : lc T q p (m + 1) = lc T q p m := by
  show (if lc T q p m = m ∧ T (q + m) = T (p + m) then m + 1 else lc T q p m) = _
  exact if_neg h
theorem lc_le (T : Nat → Int) (q p : Nat) : ∀ m, lc T q p m ≤ m := by
  intro m
  induction m with
  | zero => exact Nat.le_refl 0
  | succ m ih =>
    by_cases c : lc T q p m = m ∧ T (q + m) = T (p + m)
    · rw [lc_y c.1 c.2]; exact Nat.le_refl _
    · rw [lc_n c]; omega
theorem lc_same {T : Nat → Int} {q p : Nat} : ∀ {m j : Nat}, j < lc T q p m → T (q + j) = T (p + j) := by
  intro m
  induction m with
  | zero => intro j hj; exact absurd hj (Nat.not_lt_zero j)
  | succ m ih =>
    intro j hj
    by_cases c : lc T q p m = m ∧ T (q + m) = T (p + m)
    · rw [lc_y c.1 c.2] at hj
      by_cases e : j = m
      · subst e; exact c.2
      · have c1 := c.1
        exact ih (by omega)
    · rw [lc_n c] at hj; exact ih hj
theorem lc_is {T : Nat → Int} {q p : Nat} : ∀ {m s : Nat}, s ≤ m → (∀ j, j < s → T (q + j) = T (p + j)) → (s < m → T (q + s) ≠ T (p + s)) → lc T q p m = s := by
  intro m
  induction m with
  | zero => intro s hs _ _; show 0 = s; omega
  | succ m ih =>
    intro s hs ha hd
    by_cases e : s = m + 1
    · subst e
      have h1 := ih (s := m) (Nat.le_refl m) (fun j hj => ha j (by omega)) (fun c => absurd c (Nat.lt_irrefl m))
      exact lc_y h1 (ha m (by omega))
    · have h1 := ih (s := s) (by omega) ha (fun c => hd (by omega))
      refine (lc_n (fun c => ?_)).trans h1
      have c1 := c.1
      have e2 : s = m := by omega
      subst e2
      exact hd (by omega) c.2
theorem lc_cut {T : Nat → Int} {q p m b : Nat} (h : T (q + b) ≠ T (p + b)) : lc T q p m ≤ b := by
  by_cases c : b < lc T q p m
  · exact absurd (lc_same c) h
  · omega
/-- the best of the distances 1 .. k, begun with length b: a longer one alone takes its place -/
noncomputable def bf (T : Nat → Int) (p m b : Nat) : Nat → Nat × Nat
  | 0 => (b, 0)
  | k + 1 => if (bf T p m b k).1 < lc T (p - (k + 1)) p m then (lc T (p - (k + 1)) p m, k + 1) else bf T p m b k
theorem bf_y {T : Nat → Int} {p m b k : Nat} (h : (bf T p m b k).1 < lc T (p - (k + 1)) p m) : bf T p m b (k + 1) = (lc T (p - (k + 1)) p m, k + 1) := if_pos h
theorem bf_n {T : Nat → Int} {p m b k : Nat} (h : ¬ (bf T p m b k).1 < lc T (p - (k + 1)) p m) : bf T p m b (k + 1) = bf T p m b k := if_neg h
theorem bf_ge (T : Nat → Int) (p m b : Nat) : ∀ k, b ≤ (bf T p m b k).1 := by
  intro k
  induction k with
  | zero => exact Nat.le_refl b
  | succ k ih =>
    by_cases c : (bf T p m b k).1 < lc T (p - (k + 1)) p m
    · rw [bf_y c]; show b ≤ lc T (p - (k + 1)) p m; omega
    · rw [bf_n c]; exact ih
theorem bf_skip {T : Nat → Int} {p m b a : Nat} : ∀ {k : Nat}, a ≤ k → (∀ d, a < d → d ≤ k → lc T (p - d) p m ≤ (bf T p m b a).1) → bf T p m b k = bf T p m b a := by
  intro k
  induction k with
  | zero => intro h _; have e : a = 0 := by omega
            subst e; rfl
  | succ k ih =>
    intro h H
    by_cases e : a = k + 1
    · subst e; rfl
    · have e1 := ih (by omega) (fun d h1 h2 => H d h1 (by omega))
      have h1 := H (k + 1) (by omega) (Nat.le_refl _)
      have e2 : bf T p m b (k + 1) = bf T p m b k := bf_n (by rw [e1]; omega)
      rw [e2, e1]
theorem bf_full {T : Nat → Int} {p m b a k : Nat} (h : m ≤ (bf T p m b a).1) (hk : a ≤ k) : bf T p m b k = bf T p m b a := bf_skip hk (fun d _ _ => by have := lc_le T (p - d) p m; omega)
theorem bf_b {T : Nat → Int} {p m c b : Nat} (hcb : c ≤ b) : ∀ k, (b < (bf T p m c k).1 → bf T p m b k = bf T p m c k) ∧ (¬ b < (bf T p m c k).1 → bf T p m b k = (b, 0)) := by
  intro k
  induction k with
  | zero => exact ⟨fun h => absurd h (by show ¬ b < c; omega), fun _ => rfl⟩
  | succ k ih =>
    by_cases h : b < (bf T p m c k).1
    · have e := ih.1 h
      by_cases q : (bf T p m c k).1 < lc T (p - (k + 1)) p m
      · have e1 : bf T p m c (k + 1) = _ := bf_y q
        have e2 : bf T p m b (k + 1) = _ := bf_y (by rw [e]; exact q)
        rw [e1, e2]
        exact ⟨fun _ => rfl, fun z => absurd (Nat.lt_trans h q) z⟩
      · have e1 : bf T p m c (k + 1) = _ := bf_n q
        have e2 : bf T p m b (k + 1) = _ := bf_n (by rw [e]; exact q)
        rw [e1, e2]
        exact ih
    · have e := ih.2 h
      by_cases q : b < lc T (p - (k + 1)) p m
      · have e1 : bf T p m c (k + 1) = _ := bf_y (by omega)
        have e2 : bf T p m b (k + 1) = _ := bf_y (by rw [e]; exact q)
        rw [e1, e2]
        exact ⟨fun _ => rfl, fun z => absurd q z⟩
      · have e2 : bf T p m b (k + 1) = _ := bf_n (by rw [e]; exact q)
        rw [e2]
        refine ⟨fun z => ?_, fun _ => e⟩
        exfalso
        by_cases r : (bf T p m c k).1 < lc T (p - (k + 1)) p m
        · rw [bf_y r] at z; exact q z
        · rw [bf_n r] at z; exact h z
theorem bf_ok (T : Nat → Int) (p m b : Nat) : ∀ k, bf T p m b k = (b, 0) ∨ (b < (bf T p m b k).1 ∧ (bf T p m b k).1 ≤ m ∧ 1 ≤ (bf T p m b k).2 ∧ (bf T p m b k).2 ≤ k) := by
  intro k
  induction k with
  | zero => exact .inl rfl
  | succ k ih =>
    by_cases q : (bf T p m b k).1 < lc T (p - (k + 1)) p m
    · have e1 : bf T p m b (k + 1) = _ := bf_y q
      have h1 := bf_ge T p m b k
      have h2 := lc_le T (p - (k + 1)) p m
      rw [e1]
      exact .inr ⟨by show b < lc T (p - (k + 1)) p m; omega, h2, by show 1 ≤ k + 1; omega, Nat.le_refl _⟩
    · have e1 : bf T p m b (k + 1) = _ := bf_n q
      rw [e1]
      rcases ih with h | h
      · exact .inl h
      · exact .inr ⟨h.1, h.2.1, h.2.2.1, by omega⟩
/-- f leads each place below N to the nearest place ahead of it that has the same key, to -1 if there is none -/
def chn (f : Nat → Int) (key : Nat → Int) (N : Nat) : Prop := ∀ i : Nat, i < N → -1 ≤ f i ∧ f i < i ∧ (0 ≤ f i → key (f i).toNat = key i) ∧ ∀ r : Nat, f i < r → r < i → key r ≠ key i
def tri (T : Nat → Int) (key : Nat → Int) (p : Nat) : Prop := ∀ r, r < p → T r = T p → T (r + 1) = T (p + 1) → T (r + 2) = T (p + 2) → key r = key p
theorem lc_key {T key : Nat → Int} {r p m : Nat} (hk : tri T key p) (hr : r < p) (hn : key r ≠ key p) : lc T r p m ≤ 2 := by
  by_cases c : 2 < lc T r p m
  · exact absurd (hk r hr (lc_same (j := 0) (m := m) (by omega)) (lc_same (j := 1) (m := m) (by omega)) (lc_same (j := 2) (m := m) (by omega))) hn
  · omega
/-- what a search has found that comes to a candidate -/
noncomputable def sb (T : Nat → Int) (p m b : Nat) (f : Int) : Nat × Nat := bf T p m b (min 4096 ((p : Int) - f - 1).toNat)
theorem sb_0 {T key f : Nat → Int} {p m b N : Nat} (C : chn f key N) (hk : tri T key p) (hp : p < N) (hb : 2 ≤ b) : sb T p m b (f p) = (b, 0) := by
  have hc := C p hp
  refine bf_skip (a := 0) (Nat.zero_le _) (fun d h1 h2 => ?_)
  have : lc T (p - d) p m ≤ 2 := lc_key hk (by omega) (hc.2.2.2 (p - d) (by omega) (by omega))
  show lc T (p - d) p m ≤ b
  omega
theorem sb_s {T key f : Nat → Int} {p m b N q : Nat} (C : chn f key N) (hk : tri T key p) (hq : q < p) (hN : q < N) (hkq : key q = key p) (hd : p - q ≤ 4096) (hb : 2 ≤ b) : sb T p m b (f q) = (if (sb T p m b q).1 < lc T q p m then (lc T q p m, p - q) else sb T p m b q) := by
  have hc := C q hN
  have e1 : sb T p m b (f q) = bf T p m b (p - q) := by
    refine bf_skip (by omega) (fun d h1 h2 => ?_)
    have h3 : lc T (p - d) p m ≤ 2 := lc_key hk (by omega) (by rw [← hkq]; exact hc.2.2.2 (p - d) (by omega) (by omega))
    have := bf_ge T p m b (p - q)
    omega
  have e2 : sb T p m b q = bf T p m b (p - q - 1) := by
    unfold sb
    congr 1
    omega
  have e3 : p - q = (p - q - 1) + 1 := by omega
  have e4 : p - (p - q - 1 + 1) = q := by omega
  rw [e1, e2]
  by_cases c : (bf T p m b (p - q - 1)).1 < lc T q p m
  · rw [if_pos c, e3, bf_y (by rw [e4]; exact c), e4]
  · rw [if_neg c, e3, bf_n (by rw [e4]; exact c)]
    simp only [Nat.add_sub_cancel]
theorem sb_e {T : Nat → Int} {p m b : Nat} {f : Int} (hf : -1 ≤ f ∧ f < p) (h : f < 0 ∨ (p : Int) - f > 4096 ∨ m ≤ (sb T p m b f).1) : sb T p m b f = bf T p m b (min 4096 p) := by
  rcases h with h | h | h
  · unfold sb
    congr 1
    omega
  · unfold sb
    congr 1
    omega
  · exact (bf_full h (by omega)).symm
/-- the match at a place: its length (0: none), how far back -/
noncomputable def mt (T : Nat → Int) (n p : Nat) : Nat × Nat := bf T p (min 258 (n - p)) 2 (min 4096 p)
noncomputable def mL (T : Nat → Int) (n p : Nat) : Nat := if (mt T n p).2 = 0 then 0 else (mt T n p).1
noncomputable def mD (T : Nat → Int) (n p : Nat) : Nat := (mt T n p).2
theorem mL_ok (T : Nat → Int) (n p : Nat) : (mL T n p = 0 ∧ mD T n p = 0) ∨ (3 ≤ mL T n p ∧ mL T n p ≤ 258 ∧ mL T n p ≤ n - p ∧ 1 ≤ mD T n p ∧ mD T n p ≤ 4096 ∧ mD T n p ≤ p) := by
  unfold mL mD mt
  rcases bf_ok T p (min 258 (n - p)) 2 (min 4096 p) with h | h
  · rw [h]; exact .inl ⟨rfl, rfl⟩
  · have : ¬ (bf T p (min 258 (n - p)) 2 (min 4096 p)).2 = 0 := by omega
    rw [if_neg this]
    exact .inr ⟨by omega, by omega, by omega, by omega, by omega, by omega⟩
/-- a search for one longer than b -/
theorem mL_b {T : Nat → Int} {n p b : Nat} {r : Nat × Nat} (hb : 2 ≤ b) (hr : r = bf T p (min 258 (n - p)) b (min 4096 p)) : (r.2 = 0 ∧ mL T n p ≤ b) ∨ (r.2 ≠ 0 ∧ mL T n p = r.1 ∧ mD T n p = r.2 ∧ b < r.1) := by
  have h := bf_b (T := T) (p := p) (m := min 258 (n - p)) hb (min 4096 p)
  have hk := bf_ok T p (min 258 (n - p)) 2 (min 4096 p)
  unfold mL mD mt
  by_cases c : b < (bf T p (min 258 (n - p)) 2 (min 4096 p)).1
  · rw [h.1 c] at hr
    rcases hk with z | z
    · rw [z] at c; exact absurd c (by show ¬ b < 2; omega)
    · rw [hr]
      have n2 : ¬ (bf T p (min 258 (n - p)) 2 (min 4096 p)).2 = 0 := by omega
      rw [if_neg n2]
      exact .inr ⟨n2, rfl, rfl, c⟩
  · rw [h.2 c] at hr
    rw [hr]
    refine .inl ⟨rfl, ?_⟩
    split <;> omega
noncomputable def ptS (T : Nat → Int) (n p : Nat) : Nat := if 0 < mL T n p ∧ mL T n (p + 1) ≤ mL T n p then mL T n p else 1
noncomputable def ptD (T : Nat → Int) (n p : Nat) : Nat := if 0 < mL T n p ∧ mL T n (p + 1) ≤ mL T n p then mD T n p else 0
noncomputable def ptP (T : Nat → Int) (n : Nat) : Nat → Nat
  | 0 => 0
  | k + 1 => ptP T n k + ptS T n (ptP T n k)
theorem ptS_ok {T : Nat → Int} {n p : Nat} (hp : p < n) : (ptS T n p = 1 ∧ ptD T n p = 0) ∨ (3 ≤ ptS T n p ∧ ptS T n p ≤ 258 ∧ ptS T n p ≤ n - p ∧ 1 ≤ ptD T n p ∧ ptD T n p ≤ 4096 ∧ ptD T n p ≤ p) := by
  unfold ptS ptD
  by_cases c : 0 < mL T n p ∧ mL T n (p + 1) ≤ mL T n p
  · rw [if_pos c, if_pos c]
    rcases mL_ok T n p with h | h
    · exact absurd h.1 (by omega)
    · exact .inr h
  · rw [if_neg c, if_neg c]
    exact .inl ⟨rfl, rfl⟩
theorem ptP_s {T : Nat → Int} {n k : Nat} (h : ptP T n k < n) : ptP T n k < ptP T n (k + 1) ∧ ptP T n (k + 1) ≤ n := by
  have := ptS_ok (T := T) h
  show ptP T n k < ptP T n k + ptS T n (ptP T n k) ∧ ptP T n k + ptS T n (ptP T n k) ≤ n
  omega
theorem ptP_k {T : Nat → Int} {n : Nat} : ∀ k, (∀ j, j < k → ptP T n j < n) → k ≤ ptP T n k ∧ (ptP T n k ≤ n) := by
  intro k
  induction k with
  | zero => intro _; exact ⟨Nat.le_refl 0, Nat.zero_le n⟩
  | succ k ih =>
    intro h
    have a := ih (fun j hj => h j (by omega))
    have b := ptP_s (h k (by omega))
    omega
/-! KINDS of lengths and distances; COUNTS of a block's symbols -/
noncomputable def LBf (k : Nat) : Nat := [3, 4, 5, 6, 7, 8, 9, 10, 11, 13, 15, 17, 19, 23, 27, 31, 35, 43, 51, 59, 67, 83, 99, 115, 131, 163, 195, 227, 258].getD k 0
noncomputable def LEf (k : Nat) : Nat := [0, 0, 0, 0, 0, 0, 0, 0, 1, 1, 1, 1, 2, 2, 2, 2, 3, 3, 3, 3, 4, 4, 4, 4, 5, 5, 5, 5, 0].getD k 0
noncomputable def DBf (k : Nat) : Nat := [1, 2, 3, 4, 5, 7, 9, 13, 17, 25, 33, 49, 65, 97, 129, 193, 257, 385, 513, 769, 1025, 1537, 2049, 3073, 4097, 6145, 8193, 12289, 16385, 24577].getD k 0
noncomputable def DEf (k : Nat) : Nat := [0, 0, 0, 0, 1, 1, 2, 2, 3, 3, 4, 4, 5, 5, 6, 6, 7, 7, 8, 8, 9, 9, 10, 10, 11, 11, 12, 12, 13, 13].getD k 0
noncomputable def ORf (k : Nat) : Nat := [16, 17, 18, 0, 8, 7, 9, 6, 10, 5, 11, 4, 12, 3, 13, 2, 14, 1, 15].getD k 0
noncomputable def RBf (k : Nat) : Nat := [3, 3, 11].getD k 0
noncomputable def REf (k : Nat) : Nat := [2, 3, 7].getD k 0
/-- the last of the first K + 1 that is not above v, 0 if none -/
noncomputable def kf (B : Nat → Nat) (v : Nat) : Nat → Nat
  | 0 => 0
  | K + 1 => if B (K + 1) ≤ v then K + 1 else kf B v K
theorem kf_le (B : Nat → Nat) (v : Nat) : ∀ K, kf B v K ≤ K := by
  intro K
  induction K with
  | zero => exact Nat.le_refl 0
  | succ K ih =>
    show (if B (K + 1) ≤ v then K + 1 else kf B v K) ≤ K + 1
    split <;> omega
theorem kf_is {B : Nat → Nat} {v x : Nat} : ∀ K, x ≤ K → (B x ≤ v ∨ x = 0) → (∀ j, x < j → j ≤ K → v < B j) → kf B v K = x := by
  intro K
  induction K with
  | zero => intro h _ _; show 0 = x; omega
  | succ K ih =>
    intro h h1 h2
    show (if B (K + 1) ≤ v then K + 1 else kf B v K) = x
    by_cases e : x = K + 1
    · subst e
      by_cases c : B (K + 1) ≤ v
      · exact if_pos c
      · rcases h1 with h1 | h1
        · exact absurd h1 c
        · omega
    · have := h2 (K + 1) (by omega) (Nat.le_refl _)
      rw [if_neg (by omega)]
      exact ih (by omega) h1 (fun j a b => h2 j a (by omega))
theorem kf_lo {B : Nat → Nat} {v : Nat} (h0 : B 0 ≤ v) : ∀ K, B (kf B v K) ≤ v := by
  intro K
  induction K with
  | zero => exact h0
  | succ K ih =>
    show B (if B (K + 1) ≤ v then K + 1 else kf B v K) ≤ v
    split
    · assumption
    · exact ih
theorem kf_hi {B : Nat → Nat} {v : Nat} : ∀ K j, kf B v K < j → j ≤ K → v < B j := by
  intro K
  induction K with
  | zero => intro j h1 h2; omega
  | succ K ih =>
    intro j h1 h2
    by_cases c : B (K + 1) ≤ v
    · have e : kf B v (K + 1) = K + 1 := if_pos c
      omega
    · have e : kf B v (K + 1) = kf B v K := if_neg c
      by_cases ej : j = K + 1
      · subst ej; omega
      · exact ih j (by omega) (by omega)
noncomputable def kL (v : Nat) : Nat := kf LBf v 28
noncomputable def kD (v : Nat) : Nat := kf DBf v 29
theorem LB_up : ∀ k, k < 28 → LBf (k + 1) ≤ LBf k + 2 ^ LEf k := by decide
theorem DB_up : ∀ k, k < 29 → DBf (k + 1) ≤ DBf k + 2 ^ DEf k := by decide
theorem LE_5 (k : Nat) : LEf k ≤ 5 := by
  by_cases h : k < 29
  · revert k; decide
  · unfold LEf
    rw [List.getD_eq_getElem?_getD, List.getElem?_eq_none (by show 29 ≤ k; omega)]
    decide
theorem DE_13 (k : Nat) : DEf k ≤ 13 := by
  by_cases h : k < 30
  · revert k; decide
  · unfold DEf
    rw [List.getD_eq_getElem?_getD, List.getElem?_eq_none (by show 30 ≤ k; omega)]
    decide
theorem kL_ok {v : Nat} (h : 3 ≤ v ∧ v ≤ 258) : kL v < 29 ∧ LBf (kL v) ≤ v ∧ v - LBf (kL v) < 2 ^ LEf (kL v) := by
  have h1 := kf_le LBf v 28
  have h2 : LBf (kL v) ≤ v := kf_lo (by show 3 ≤ v; exact h.1) 28
  refine ⟨by unfold kL; omega, h2, ?_⟩
  by_cases c : kL v < 28
  · have h3 : v < LBf (kL v + 1) := kf_hi 28 (kL v + 1) (Nat.lt_succ_self _) (by omega)
    have h4 := LB_up (kL v) c
    omega
  · have e : kL v = 28 := by unfold kL at c ⊢; omega
    rw [e]
    have : LBf 28 = 258 := rfl
    have : (2 : Nat) ^ LEf 28 = 1 := rfl
    omega
theorem kD_ok {v : Nat} (h : 1 ≤ v ∧ v ≤ 4096) : kD v < 24 ∧ DBf (kD v) ≤ v ∧ v - DBf (kD v) < 2 ^ DEf (kD v) := by
  have h1 := kf_le DBf v 29
  have h2 : DBf (kD v) ≤ v := kf_lo (by show 1 ≤ v; exact h.1) 29
  have h0 : kD v < 24 := by
    have m : ∀ k, k < 30 → 24 ≤ k → 4097 ≤ DBf k := by decide
    by_cases c : kD v < 24
    · exact c
    · have := m (kD v) (by unfold kD; omega) (by omega)
      omega
  refine ⟨h0, h2, ?_⟩
  have h3 : v < DBf (kD v + 1) := kf_hi 29 (kD v + 1) (Nat.lt_succ_self _) (by omega)
  have h4 := DB_up (kD v) (by omega)
  omega
/-! a block's parts k, k + 1, ..: am: the byte or how many, di: how far back (0: a byte) -/
noncomputable def lSy (am di : Nat → Nat) (k : Nat) : Nat := if di k = 0 then am k else 257 + kL (am k)
noncomputable def cL (am di : Nat → Nat) (a : Nat) : Nat → Nat → Nat
  | 0, s => if s = 256 then 1 else 0
  | j + 1, s => cL am di a j s + if lSy am di (a + j) = s then 1 else 0
noncomputable def cD (di : Nat → Nat) (a : Nat) : Nat → Nat → Nat
  | 0, _ => 0
  | j + 1, s => cD di a j s + if di (a + j) ≠ 0 ∧ kD (di (a + j)) = s then 1 else 0
/-- the extra bits, the bytes -/
noncomputable def xB (am di : Nat → Nat) (a : Nat) : Nat → Nat
  | 0 => 0
  | j + 1 => xB am di a j + if di (a + j) = 0 then 0 else LEf (kL (am (a + j))) + DEf (kD (di (a + j)))
noncomputable def bY (am di : Nat → Nat) (a : Nat) : Nat → Nat
  | 0 => 0
  | j + 1 => bY am di a j + if di (a + j) = 0 then 1 else am (a + j)
theorem cL_le (am di : Nat → Nat) (a : Nat) : ∀ j s, cL am di a j s ≤ j + 1 := by
  intro j
  induction j with
  | zero => intro s; show (if s = 256 then 1 else 0) ≤ 1; split <;> omega
  | succ j ih =>
    intro s
    have := ih s
    show cL am di a j s + (if lSy am di (a + j) = s then 1 else 0) ≤ j + 1 + 1
    split <;> omega
theorem cD_le (di : Nat → Nat) (a : Nat) : ∀ j s, cD di a j s ≤ j := by
  intro j
  induction j with
  | zero => intro s; exact Nat.le_refl 0
  | succ j ih =>
    intro s
    have := ih s
    show cD di a j s + (if di (a + j) ≠ 0 ∧ kD (di (a + j)) = s then 1 else 0) ≤ j + 1
    split <;> omega
theorem cL_256 (am di : Nat → Nat) (a : Nat) : ∀ j, 1 ≤ cL am di a j 256 := by
  intro j
  induction j with
  | zero => exact Nat.le_refl 1
  | succ j ih =>
    show 1 ≤ cL am di a j 256 + (if lSy am di (a + j) = 256 then 1 else 0)
    omega
/-- sums over symbols of what is counted are sums over the parts -/
noncomputable def sN (f : Nat → Nat) : Nat → Nat
  | 0 => 0
  | n + 1 => sN f n + f n
theorem sN_congr {f g : Nat → Nat} : ∀ n, (∀ k, k < n → f k = g k) → sN f n = sN g n := by
  intro n
  induction n with
  | zero => intro _; rfl
  | succ n ih =>
    intro h
    show sN f n + f n = sN g n + g n
    rw [ih (fun k hk => h k (by omega)), h n (by omega)]
theorem sN_up {f g : Nat → Nat} {a d : Nat} : ∀ n, a < n → g a = f a + d → (∀ k, k ≠ a → g k = f k) → sN g n = sN f n + d := by
  intro n
  induction n with
  | zero => intro h; omega
  | succ n ih =>
    intro ha he hn
    show sN g n + g n = sN f n + f n + d
    by_cases e : a = n
    · subst e
      rw [he, sN_congr a (fun k hk => hn k (by omega))]
      omega
    · rw [ih (by omega) he hn, hn n (by omega)]
      omega
theorem sN_one {g : Nat → Nat} {a : Nat} (n : Nat) (ha : a < n) (c : Nat → Nat) (hc : ∀ s, c s = if s = a then 1 else 0) : sN (fun s => c s * g s) n = g a := by
  have h := sN_up (f := fun _ => 0) (g := fun s => c s * g s) (a := a) (d := g a) n ha (by show c a * g a = 0 + g a; rw [hc a, if_pos rfl]; omega) (fun k hk => by show c k * g k = 0; rw [hc k, if_neg hk]; omega)
  have z : ∀ n, sN (fun _ => 0) n = 0 := by
    intro n
    induction n with
    | zero => rfl
    | succ n ih => show sN (fun _ => 0) n + 0 = 0; omega
  rw [h, z]
  omega
theorem cL_sum {am di : Nat → Nat} {a : Nat} (g : Nat → Nat) : ∀ j, (∀ i, i < j → lSy am di (a + i) < 286) → sN (fun s => cL am di a j s * g s) 286 = g 256 + sN (fun i => g (lSy am di (a + i))) j := by
  intro j
  induction j with
  | zero =>
    intro _
    show _ = g 256 + 0
    exact sN_one 286 (by decide) (fun s => cL am di a 0 s) (fun s => rfl)
  | succ j ih =>
    intro h
    have e := ih (fun i hi => h i (by omega))
    have hl := h j (by omega)
    have u := sN_up (f := fun s => cL am di a j s * g s) (g := fun s => cL am di a (j + 1) s * g s) (a := lSy am di (a + j)) (d := g (lSy am di (a + j))) 286 hl (by
      show (cL am di a j _ + (if lSy am di (a + j) = lSy am di (a + j) then 1 else 0)) * g _ = _
      rw [if_pos rfl, Nat.add_mul, Nat.one_mul]) (fun k hk => by
      show (cL am di a j k + (if lSy am di (a + j) = k then 1 else 0)) * g k = _
      rw [if_neg (fun q => hk q.symm), Nat.add_zero])
    rw [u, e]
    show _ = g 256 + (sN (fun i => g (lSy am di (a + i))) j + g (lSy am di (a + j)))
    omega
theorem cD_sum {di : Nat → Nat} {a : Nat} (g : Nat → Nat) : ∀ j, (∀ i, i < j → di (a + i) ≠ 0 → kD (di (a + i)) < 30) → sN (fun s => cD di a j s * g s) 30 = sN (fun i => if di (a + i) = 0 then 0 else g (kD (di (a + i)))) j := by
  intro j
  induction j with
  | zero =>
    intro _
    show _ = 0
    have z : ∀ n, sN (fun s => cD di a 0 s * g s) n = 0 := by
      intro n
      induction n with
      | zero => rfl
      | succ n ih => show sN (fun s => cD di a 0 s * g s) n + 0 * g n = 0; omega
    exact z 30
  | succ j ih =>
    intro h
    have e := ih (fun i hi => h i (by omega))
    show _ = sN (fun i => if di (a + i) = 0 then 0 else g (kD (di (a + i)))) j + (if di (a + j) = 0 then 0 else g (kD (di (a + j))))
    by_cases c : di (a + j) = 0
    · have e5 : sN (fun s => cD di a (j + 1) s * g s) 30 = sN (fun s => cD di a j s * g s) 30 := sN_congr (f := fun s => cD di a (j + 1) s * g s) (g := fun s => cD di a j s * g s) 30 (fun k _ => by
        show (cD di a j k + (if di (a + j) ≠ 0 ∧ kD (di (a + j)) = k then 1 else 0)) * g k = cD di a j k * g k
        rw [if_neg (fun q => q.1 c), Nat.add_zero])
      rw [if_pos c]
      omega
    · have e5 := sN_up (f := fun s => cD di a j s * g s) (g := fun s => cD di a (j + 1) s * g s) (a := kD (di (a + j))) (d := g (kD (di (a + j)))) 30 (h j (by omega) c) (by
        show (cD di a j (kD (di (a + j))) + (if di (a + j) ≠ 0 ∧ kD (di (a + j)) = kD (di (a + j)) then 1 else 0)) * g (kD (di (a + j))) = _
        rw [if_pos ⟨c, rfl⟩, Nat.add_mul, Nat.one_mul]) (fun k hk => by
        show (cD di a j k + (if di (a + j) ≠ 0 ∧ kD (di (a + j)) = k then 1 else 0)) * g k = cD di a j k * g k
        rw [if_neg (fun q => hk q.2.symm), Nat.add_zero])
      rw [if_neg c]
      omega
/-! BITS WRITTEN: a number and how many bits it has -/
noncomputable def wr (s : Nat × Nat) (v c : Nat) : Nat × Nat := (s.1 + v * 2 ^ s.2, s.2 + c)
theorem wr_ok {s : Nat × Nat} {v c : Nat} (h : s.1 < 2 ^ s.2) (hv : v < 2 ^ c) : (wr s v c).1 < 2 ^ (wr s v c).2 := by
  show s.1 + v * 2 ^ s.2 < 2 ^ (s.2 + c)
  rw [Nat.pow_add, Nat.mul_comm (2 ^ s.2)]
  have h1 : (v + 1) * 2 ^ s.2 ≤ 2 ^ c * 2 ^ s.2 := Nat.mul_le_mul_right _ hv
  rw [Nat.add_mul, Nat.one_mul] at h1
  omega
theorem wr_0 (s : Nat × Nat) : wr s 0 0 = s := by
  show (s.1 + 0 * 2 ^ s.2, s.2 + 0) = s
  rw [Nat.zero_mul]
  rfl
theorem p256 (i : Nat) : (256 : Nat) ^ i = 2 ^ (8 * i) := by
  rw [Nat.pow_mul]
theorem p256_pos (i : Nat) : 0 < (256 : Nat) ^ i := Nat.pow_pos (by decide)
/-- bytes that are whole stay -/
theorem wr_lo {V v l i : Nat} (h : 8 * (i + 1) ≤ l) : (V + v * 2 ^ l) / 256 ^ i % 256 = V / 256 ^ i % 256 := by
  have e : v * 2 ^ l = 256 ^ i * (256 * (v * 2 ^ (l - 8 * (i + 1)))) := by
    have e1 : l = 8 * i + (8 + (l - 8 * (i + 1))) := by omega
    have e2 : (2 : Nat) ^ l = 256 ^ i * (256 * 2 ^ (l - 8 * (i + 1))) := by
      rw [p256]
      conv => lhs; rw [e1]
      rw [Nat.pow_add, Nat.pow_add]
    rw [e2, Nat.mul_left_comm, Nat.mul_left_comm v 256]
  rw [e, Nat.add_mul_div_left _ _ (p256_pos i), Nat.add_mul_mod_self_left]
/-- what is above the byte z: the bits that are held -/
theorem wr_hi {V v z b : Nat} : (V + v * 2 ^ (8 * z + b)) / 256 ^ z = V / 256 ^ z + v * 2 ^ b := by
  have e : v * 2 ^ (8 * z + b) = 256 ^ z * (v * 2 ^ b) := by
    rw [Nat.pow_add, p256, Nat.mul_left_comm]
  rw [e, Nat.add_mul_div_left _ _ (p256_pos z)]
theorem wr_next (V z : Nat) : V / 256 ^ (z + 1) = V / 256 ^ z / 256 := by
  rw [Nat.pow_succ, Nat.div_div_eq_div_mul]
theorem wr_held {V z b : Nat} (h : V < 2 ^ (8 * z + b)) : V / 256 ^ z < 2 ^ b := by
  rw [Nat.div_lt_iff_lt_mul (p256_pos z), Nat.mul_comm, p256, ← Nat.pow_add]
  exact h
/-- bit by bit -/
theorem wr_bit {s : Nat × Nat} {v k : Nat} : wr (wr s (v % 2 ^ k) k) (v / 2 ^ k % 2) 1 = wr s (v % 2 ^ (k + 1)) (k + 1) := by
  have e : (v % 2 ^ (k + 1)) = v % 2 ^ k + 2 ^ k * (v / 2 ^ k % 2) := Nat.mod_pow_succ
  have e2 : v / 2 ^ k % 2 * 2 ^ (s.2 + k) = 2 ^ k * (v / 2 ^ k % 2) * 2 ^ s.2 := by
    rw [Nat.pow_add, Nat.mul_comm (2 ^ s.2), ← Nat.mul_assoc, Nat.mul_comm (v / 2 ^ k % 2)]
  have h1 : s.1 + v % 2 ^ k * 2 ^ s.2 + v / 2 ^ k % 2 * 2 ^ (s.2 + k) = s.1 + v % 2 ^ (k + 1) * 2 ^ s.2 := by
    rw [e, e2, Nat.add_mul, Nat.add_assoc]
  show (s.1 + v % 2 ^ k * 2 ^ s.2 + v / 2 ^ k % 2 * 2 ^ (s.2 + k), s.2 + k + 1) = (s.1 + v % 2 ^ (k + 1) * 2 ^ s.2, s.2 + (k + 1))
  rw [h1]
  rfl
/-! CODES by their lengths (RFC 1951) -/
noncomputable def ctN (L : Nat → Nat) (l : Nat) : Nat → Nat
  | 0 => 0
  | n + 1 => ctN L l n + if L n = l then 1 else 0
noncomputable def ncN (L : Nat → Nat) (N : Nat) : Nat → Nat
  | 0 => 0
  | 1 => 0
  | l + 2 => (ncN L N (l + 1) + ctN L (l + 1) N) * 2
/-- a code's number, its bits turned round -/
noncomputable def cwN (L : Nat → Nat) (N k : Nat) : Nat := ncN L N (L k) + ctN L (L k) k
noncomputable def rvN (w : Nat) : Nat → Nat
  | 0 => 0
  | i + 1 => 2 * rvN w i + w / 2 ^ i % 2
noncomputable def cdN (L : Nat → Nat) (N k : Nat) : Nat := rvN (cwN L N k) (L k)
theorem rvN_lt (w : Nat) : ∀ i, rvN w i < 2 ^ i := by
  intro i
  induction i with
  | zero => exact Nat.one_pos
  | succ i ih =>
    show 2 * rvN w i + w / 2 ^ i % 2 < 2 ^ (i + 1)
    rw [Nat.pow_succ]
    have := Nat.mod_lt (w / 2 ^ i) (show 0 < 2 by decide)
    omega
theorem cdN_lt (L : Nat → Nat) (N k : Nat) : cdN L N k < 2 ^ L k := rvN_lt _ _
theorem ctN_le (L : Nat → Nat) (l : Nat) : ∀ n, ctN L l n ≤ n := by
  intro n
  induction n with
  | zero => exact Nat.le_refl 0
  | succ n ih =>
    show ctN L l n + (if L n = l then 1 else 0) ≤ n + 1
    split <;> omega
theorem ctN_congr {L L' : Nat → Nat} {l : Nat} : ∀ n, (∀ k, k < n → L k = L' k) → ctN L l n = ctN L' l n := by
  intro n
  induction n with
  | zero => intro _; rfl
  | succ n ih =>
    intro h
    show ctN L l n + (if L n = l then 1 else 0) = ctN L' l n + (if L' n = l then 1 else 0)
    rw [ih (fun k hk => h k (by omega)), h n (by omega)]
/-- noughts behind the last symbol count for nothing -/
theorem ctN_more {L : Nat → Nat} {l n : Nat} (hl : l ≠ 0) : ∀ m, n ≤ m → (∀ k, n ≤ k → k < m → L k = 0) → ctN L l m = ctN L l n := by
  intro m
  induction m with
  | zero => intro h _; have : n = 0 := by omega
            subst this; rfl
  | succ m ih =>
    intro h h0
    by_cases e : n = m + 1
    · subst e; rfl
    · show ctN L l m + (if L m = l then 1 else 0) = _
      have := h0 m (by omega) (by omega)
      rw [if_neg (by omega), ih (by omega) (fun k a b => h0 k a (by omega))]
      rfl
theorem ncN_congr {L L' : Nat → Nat} {N N' : Nat} (h : ∀ l, l ≠ 0 → ctN L l N = ctN L' l N') : ∀ l, ncN L N l = ncN L' N' l
  | 0 => rfl
  | 1 => rfl
  | l + 2 => by
    show (ncN L N (l + 1) + ctN L (l + 1) N) * 2 = (ncN L' N' (l + 1) + ctN L' (l + 1) N') * 2
    rw [ncN_congr h (l + 1), h (l + 1) (by omega)]
theorem cdN_congr {L L' : Nat → Nat} {N N' k : Nat} (h : ∀ l, l ≠ 0 → ctN L l N = ctN L' l N') (hk : ∀ j, j ≤ k → L j = L' j) : cdN L N k = cdN L' N' k := by
  unfold cdN cwN
  rw [hk k (Nat.le_refl k), ncN_congr h, ctN_congr k (fun j hj => hk j (by omega))]
/-- the model's turning round, bit by bit from the other end -/
theorem rvN_up {w l j : Nat} (h : j < l) : rvN w j * 2 ^ (l - j) + (w / 2 ^ j % 2) * 2 ^ (l - 1 - j) = rvN w (j + 1) * 2 ^ (l - (j + 1)) := by
  have e : l - j = (l - 1 - j) + 1 := by omega
  have e2 : l - (j + 1) = l - 1 - j := by omega
  show _ = (2 * rvN w j + w / 2 ^ j % 2) * 2 ^ (l - (j + 1))
  rw [e, e2, Nat.pow_succ, Nat.add_mul]
  congr 1
  rw [Nat.mul_comm (2 ^ (l - 1 - j)) 2, ← Nat.mul_assoc, Nat.mul_comm (rvN w j) 2]
/-! THE ROW OF LENGTHS, told by 0 .. 18 -/
/-- how many from a on are v, at most m and below N -/
noncomputable def rn (f : Nat → Nat) (N a v : Nat) : Nat → Nat
  | 0 => 0
  | m + 1 => if rn f N a v m = m ∧ a + m < N ∧ f (a + m) = v then m + 1 else rn f N a v m
theorem rn_y {f : Nat → Nat} {N a v m : Nat} (h : rn f N a v m = m ∧ a + m < N ∧ f (a + m) = v) : rn f N a v (m + 1) = m + 1 := if_pos h
theorem rn_n {f : Nat → Nat} {N a v m : Nat} (h : ¬ (rn f N a v m = m ∧ a + m < N ∧ f (a + m) = v)) : rn f N a v (m + 1) = rn f N a v m := if_neg h
theorem rn_le (f : Nat → Nat) (N a v : Nat) : ∀ m, rn f N a v m ≤ m := by
  intro m
  induction m with
  | zero => exact Nat.le_refl 0
  | succ m ih =>
    by_cases c : rn f N a v m = m ∧ a + m < N ∧ f (a + m) = v
    · rw [rn_y c]; exact Nat.le_refl _
    · rw [rn_n c]; omega
theorem rn_is {f : Nat → Nat} {N a v : Nat} : ∀ {m s : Nat}, s ≤ m → (∀ j, j < s → a + j < N ∧ f (a + j) = v) → (s < m → ¬ (a + s < N ∧ f (a + s) = v)) → rn f N a v m = s := by
  intro m
  induction m with
  | zero => intro s hs _ _; show 0 = s; omega
  | succ m ih =>
    intro s hs ha hd
    by_cases e : s = m + 1
    · subst e
      have h1 := ih (s := m) (Nat.le_refl m) (fun j hj => ha j (by omega)) (fun c => absurd c (Nat.lt_irrefl m))
      exact rn_y ⟨h1, ha m (by omega)⟩
    · have h1 := ih (s := s) (by omega) ha (fun c => hd (by omega))
      refine (rn_n (fun c => ?_)).trans h1
      have c1 := c.1
      have e2 : s = m := by omega
      subst e2
      exact hd (by omega) c.2
theorem rn_all {f : Nat → Nat} {N a v : Nat} : ∀ {m j : Nat}, j < rn f N a v m → a + j < N ∧ f (a + j) = v := by
  intro m
  induction m with
  | zero => intro j hj; exact absurd hj (Nat.not_lt_zero j)
  | succ m ih =>
    intro j hj
    by_cases c : rn f N a v m = m ∧ a + m < N ∧ f (a + m) = v
    · rw [rn_y c] at hj
      by_cases e : j = m
      · subst e; exact c.2
      · have c1 := c.1
        exact ih (by omega)
    · rw [rn_n c] at hj; exact ih hj
theorem rn_end {f : Nat → Nat} {N a v : Nat} : ∀ {m : Nat}, rn f N a v m < m → ¬ (a + rn f N a v m < N ∧ f (a + rn f N a v m) = v) := by
  intro m
  induction m with
  | zero => intro h; exact absurd h (Nat.not_lt_zero _)
  | succ m ih =>
    intro h
    by_cases c : rn f N a v m = m ∧ a + m < N ∧ f (a + m) = v
    · rw [rn_y c] at h; exact absurd h (Nat.lt_irrefl _)
    · rw [rn_n c] at h ⊢
      by_cases e : rn f N a v m = m
      · rw [e]; exact fun q => c ⟨e, q⟩
      · have := rn_le f N a v m
        exact ih (by omega)
/-- a longer bound, cut -/
theorem rn_cap {f : Nat → Nat} {N a v m c : Nat} (h : c ≤ m) : rn f N a v c = min c (rn f N a v m) := by
  refine rn_is (Nat.min_le_left _ _) (fun j hj => rn_all (m := m) (by omega)) (fun q => ?_)
  have e : min c (rn f N a v m) = rn f N a v m := by omega
  rw [e]
  exact rn_end (by omega)
/-- what is told at a: the symbol, its extra, how many -/
noncomputable def tk (f : Nat → Nat) (N a : Nat) : Nat × Nat × Nat :=
  if 3 ≤ rn f N a 0 138 then (if rn f N a 0 138 ≤ 10 then (17, rn f N a 0 138 - 3, rn f N a 0 138) else (18, rn f N a 0 138 - 11, rn f N a 0 138))
  else if 0 < a ∧ 3 ≤ rn f N a (f (a - 1)) 6 then (16, rn f N a (f (a - 1)) 6 - 3, rn f N a (f (a - 1)) 6)
  else (f a, 0, 1)
/-- the same by the run n of what stands at a (at most m, m from N on) -/
theorem tk_n {f : Nat → Nat} {N a n m : Nat} (ha : a < N) (hm : N ≤ m ∧ 138 ≤ m) (hn : n = rn f N a (f a) m) : tk f N a = (if f a = 0 ∧ 2 < n then (if 10 < min 138 n then (18, min 138 n - 11, min 138 n) else (17, min 138 n - 3, min 138 n)) else if 0 < a ∧ f (a - 1) = f a ∧ 2 < n then (16, min 6 n - 3, min 6 n) else (f a, 0, 1)) := by
  have h0 : f a ≠ 0 → rn f N a 0 138 = 0 := fun h => rn_is (Nat.zero_le _) (fun j hj => absurd hj (Nat.not_lt_zero j)) (fun _ q => h q.2)
  have h1 : f a = 0 → rn f N a 0 138 = min 138 n := fun h => by rw [hn, h]; exact rn_cap hm.2
  have h2 : f (a - 1) ≠ f a → rn f N a (f (a - 1)) 6 = 0 := fun h => rn_is (Nat.zero_le _) (fun j hj => absurd hj (Nat.not_lt_zero j)) (fun _ q => h q.2.symm)
  have h3 : f (a - 1) = f a → rn f N a (f (a - 1)) 6 = min 6 n := fun h => by rw [hn, h]; exact rn_cap (by omega)
  unfold tk
  by_cases c : f a = 0 ∧ 2 < n
  · rw [if_pos c, h1 c.1, if_pos (by omega)]
    by_cases d : 10 < min 138 n
    · rw [if_pos d, if_neg (by omega)]
    · rw [if_neg d, if_pos (by omega)]
  · rw [if_neg c, if_neg (fun q => by
      by_cases z : f a = 0
      · rw [h1 z] at q; exact c ⟨z, by omega⟩
      · rw [h0 z] at q; omega)]
    by_cases d : 0 < a ∧ f (a - 1) = f a ∧ 2 < n
    · rw [if_pos d, h3 d.2.1, if_pos ⟨d.1, by omega⟩]
    · rw [if_neg d, if_neg (fun q => by
        by_cases z : f (a - 1) = f a
        · rw [h3 z] at q; exact d ⟨q.1, z, by omega⟩
        · rw [h2 z] at q; omega)]
theorem tk_ok {f : Nat → Nat} {N a : Nat} (ha : a < N) (hf : ∀ j, j < N → f j ≤ 15) : (tk f N a).1 ≤ 18 ∧ 1 ≤ (tk f N a).2.2 ∧ a + (tk f N a).2.2 ≤ N ∧ (tk f N a).2.1 < 128 ∧ ((tk f N a).1 < 16 → (tk f N a).2.1 = 0) ∧ ((tk f N a).1 = 16 → (tk f N a).2.1 < 4) ∧ ((tk f N a).1 = 17 → (tk f N a).2.1 < 8) := by
  have hr : ∀ v m, 1 ≤ rn f N a v m → a + rn f N a v m ≤ N := fun v m q => by
    have := (rn_all (f := f) (N := N) (a := a) (v := v) (m := m) (j := rn f N a v m - 1) (by omega)).1
    omega
  have hfa := hf a ha
  have hl := rn_le f N a 0 138
  have hl2 := rn_le f N a (f (a - 1)) 6
  have h1 := hr 0 138
  have h2 := hr (f (a - 1)) 6
  clear hr
  unfold tk
  generalize rn f N a 0 138 = z at *
  generalize rn f N a (f (a - 1)) 6 = y at *
  by_cases c : 3 ≤ z
  · rw [if_pos c]
    by_cases d : z ≤ 10
    · rw [if_pos d]
      show 17 ≤ 18 ∧ 1 ≤ z ∧ a + z ≤ N ∧ z - 3 < 128 ∧ (17 < 16 → z - 3 = 0) ∧ (17 = 16 → z - 3 < 4) ∧ (17 = 17 → z - 3 < 8)
      omega
    · rw [if_neg d]
      show 18 ≤ 18 ∧ 1 ≤ z ∧ a + z ≤ N ∧ z - 11 < 128 ∧ (18 < 16 → z - 11 = 0) ∧ (18 = 16 → z - 11 < 4) ∧ (18 = 17 → z - 11 < 8)
      omega
  · rw [if_neg c]
    by_cases d : 0 < a ∧ 3 ≤ y
    · rw [if_pos d]
      show 16 ≤ 18 ∧ 1 ≤ y ∧ a + y ≤ N ∧ y - 3 < 128 ∧ (16 < 16 → y - 3 = 0) ∧ (16 = 16 → y - 3 < 4) ∧ (16 = 17 → y - 3 < 8)
      omega
    · rw [if_neg d]
      show f a ≤ 18 ∧ 1 ≤ 1 ∧ a + 1 ≤ N ∧ 0 < 128 ∧ (f a < 16 → 0 = 0) ∧ (f a = 16 → 0 < 4) ∧ (f a = 17 → 0 < 8)
      omega
/-- the places told so far -/
noncomputable def tp (f : Nat → Nat) (N : Nat) : Nat → Nat
  | 0 => 0
  | i + 1 => tp f N i + (tk f N (tp f N i)).2.2
noncomputable def tS (f : Nat → Nat) (N i : Nat) : Nat := (tk f N (tp f N i)).1
noncomputable def tX (f : Nat → Nat) (N i : Nat) : Nat := (tk f N (tp f N i)).2.1
noncomputable def tC (f : Nat → Nat) (N : Nat) : Nat → Nat → Nat
  | 0, _ => 0
  | i + 1, s => tC f N i s + if tS f N i = s then 1 else 0
/-! LENGTHS by counts, as numbers -/
theorem FF_rng (W : Nat → Int) (n : Nat) : ∀ t k j, 0 ≤ FF W n t k j ∧ FF W n t k j ≤ (t : Int) + 1 := by
  intro t
  induction t with
  | zero =>
    intro k j
    show 0 ≤ lt1 k j ∧ lt1 k j ≤ ((0 : Nat) : Int) + 1
    unfold lt1
    split <;> omega
  | succ t ih =>
    intro k j
    rw [FF_s rfl rfl]
    have h := ih (2 * (k - cS W n (t + 1) k)) j
    have h2 : 0 ≤ lt1 (cS W n (t + 1) k) j ∧ lt1 (cS W n (t + 1) k) j ≤ 1 := by
      unfold lt1
      split <;> omega
    omega
theorem FF_pos {W : Nat → Int} {n j : Nat} (hn : 2 ≤ n) (hj : j < n) : ∀ t k, 2 * n - 2 ≤ k → 1 ≤ FF W n t k j := by
  intro t
  induction t with
  | zero =>
    intro k hk
    show 1 ≤ lt1 k j
    unfold lt1
    rw [if_pos (by omega)]
    omega
  | succ t ih =>
    intro k hk
    have hs := xs1_le (W := W) (Lp := LL W n t) (n := n) (r := rz n t) k
    have e : cS W n (t + 1) k = xs1 W (LL W n t) n (rz n t) k := rfl
    rw [FF_s rfl rfl]
    have h0 := FF_rng W n t (2 * (k - cS W n (t + 1) k)) j
    by_cases c : cS W n (t + 1) k = n
    · have : lt1 (cS W n (t + 1) k) j = 1 := by
        rw [c]; unfold lt1; rw [if_pos (by omega)]
      omega
    · have h1 := ih (2 * (k - cS W n (t + 1) k)) (by rw [e] at c ⊢; omega)
      have h2 : 0 ≤ lt1 (cS W n (t + 1) k) j := by
        unfold lt1
        split <;> omega
      omega
theorem cnU_p2 {U : Nat → Int32} {x : Int} {s : Nat} (h0 : 0 < (U s).toInt) (hx : kyU U s = x) : ∀ al, s < al → 1 ≤ cnU U x al := by
  intro al
  induction al with
  | zero => intro h; omega
  | succ al ih =>
    intro h
    show 1 ≤ cnU U x al + (if 0 < (U al).toInt ∧ kyU U al = x then 1 else 0)
    by_cases e : s = al
    · subst e; rw [if_pos ⟨h0, hx⟩]; omega
    · have := ih (by omega)
      omega
theorem cnU_e2 {U : Nat → Int32} {x : Int} : ∀ al, 1 ≤ cnU U x al → ∃ s, s < al ∧ 0 < (U s).toInt ∧ kyU U s = x := by
  intro al
  induction al with
  | zero => intro h; exact absurd h (by show ¬ 1 ≤ 0; omega)
  | succ al ih =>
    intro h
    have h2 : 1 ≤ cnU U x al + (if 0 < (U al).toInt ∧ kyU U al = x then 1 else 0) := h
    by_cases c : 0 < (U al).toInt ∧ kyU U al = x
    · exact ⟨al, by omega, c.1, c.2⟩
    · rw [if_neg c] at h2
      obtain ⟨s, a, b⟩ := ih (by omega)
      exact ⟨s, by omega, b⟩
theorem cnZ_p2 {f : Nat → Int} {x : Int} {j : Nat} (hx : f j = x) : ∀ n, j < n → 1 ≤ cnZ f x n := by
  intro n
  induction n with
  | zero => intro h; omega
  | succ n ih =>
    intro h
    by_cases e : j = n
    · subst e; rw [cnZ_y hx]; omega
    · have := ih (by omega)
      by_cases c : f n = x
      · rw [cnZ_y c]; omega
      · rw [cnZ_n c]; exact this
theorem cnZ_e2 {f : Nat → Int} {x : Int} : ∀ n, 1 ≤ cnZ f x n → ∃ j, j < n ∧ f j = x := by
  intro n
  induction n with
  | zero => intro h; exact absurd h (by show ¬ 1 ≤ 0; omega)
  | succ n ih =>
    intro h
    by_cases c : f n = x
    · exact ⟨n, by omega, c⟩
    · rw [cnZ_n c] at h
      obtain ⟨j, a, b⟩ := ih h
      exact ⟨j, by omega, b⟩
theorem lnO_rng {kf : Nat → Int} {n li j : Nat} (hj : j < n) (hl : 1 ≤ li) : 1 ≤ lnO kf n li j ∧ lnO kf n li j ≤ li := by
  unfold lnO
  by_cases c : n = 1
  · rw [if_pos c]; omega
  · rw [if_neg c]
    have a := FF_pos (W := cut1 n (fun i => kf i / 512)) (n := n) (j := j) (by omega) hj (li - 1) (2 * n - 2) (Nat.le_refl _)
    have b := FF_rng (cut1 n (fun i => kf i / 512)) n (li - 1) (2 * n - 2) j
    omega
/-- a length for just those that come, within the limit -/
theorem lnP_rng {U R : Nat → Int32} {al li : Nat} (A : lnP U R al li) (hal : al ≤ 512) (hl : 1 ≤ li) (hU : ∀ s, s < al → 0 ≤ (U s).toInt) : ∀ s, s < al → (0 ≤ (R s).toInt ∧ (R s).toInt ≤ li) ∧ (0 < (U s).toInt → 1 ≤ (R s).toInt) ∧ ((U s).toInt = 0 → (R s).toInt = 0) := by
  obtain ⟨n, kf, a1, a2, a3, a4, a5⟩ := A
  intro s hs
  by_cases c : 0 < (U s).toInt
  · have h1 := cnU_p2 c rfl al hs
    rw [← a3] at h1
    obtain ⟨j, hj, e⟩ := cnZ_e2 n h1
    have e2 : kf j % 512 = s := by
      rw [e]; unfold kyU
      omega
    have h2 := a4 j hj
    rw [e2, show ((s : Nat) : Int).toNat = s by omega] at h2
    have h3 := lnO_rng (kf := kf) hj hl
    rw [h2]
    exact ⟨by omega, fun _ => h3.1, fun q => by omega⟩
  · have hz : (U s).toInt = 0 := by have := hU s hs; omega
    have h0 : (R s).toInt = 0 := a5 s hs (fun j hj e => by
      have h1 := cnZ_p2 (f := kf) (j := j) rfl n hj
      rw [a3] at h1
      obtain ⟨s2, b1, b2, b3⟩ := cnU_e2 al h1
      unfold kyU at b3
      have : s2 = s := by omega
      subst this
      exact c b2)
    rw [h0]
    exact ⟨by omega, fun q => absurd q c, fun _ => rfl⟩
/-- the lengths of counts c -/
noncomputable def LNf (c : Nat → Nat) (al li k : Nat) : Nat := @dite Nat (∃ R : Nat → Int32, lnP (fun i => Int32.ofNat (c i)) R al li) (Classical.propDecidable _) (fun H => if k < al then (Classical.choose H k).toInt.toNat else 0) (fun _ => 0)
theorem LNf_of {U R : Nat → Int32} {c : Nat → Nat} {al li : Nat} (A : lnP U R al li) (hc : ∀ i, i < al → (U i).toInt = (c i : Nat)) (hb : ∀ i, i < al → c i < 2147483648) (hal : al ≤ 512) : ∀ k, k < al → (R k).toInt.toNat = LNf c al li k := by
  have e : ∀ i, i < al → U i = Int32.ofNat (c i) := fun i hi => z_inj (by rw [hc i hi]; exact (z_nI (n := c i) (hb i hi)).symm)
  have A2 : lnP (fun i => Int32.ofNat (c i)) R al li := lnP_U e A
  have H : ∃ R : Nat → Int32, lnP (fun i => Int32.ofNat (c i)) R al li := ⟨R, A2⟩
  intro k hk
  unfold LNf
  rw [dif_pos H, if_pos hk]
  rw [lnP_eq hal A2 (Classical.choose_spec H) k hk]
theorem LNf_out {c : Nat → Nat} {al li k : Nat} (hk : al ≤ k) : LNf c al li k = 0 := by
  unfold LNf
  by_cases H : ∃ R : Nat → Int32, lnP (fun i => Int32.ofNat (c i)) R al li
  · rw [dif_pos H, if_neg (by omega)]
  · rw [dif_neg H]
/-- up to the last above 0, lo at least -/
noncomputable def tdM (f : Nat → Nat) (lo : Nat) : Nat → Nat
  | 0 => lo
  | m + 1 => if f (lo + m) = 0 then tdM f lo m else lo + m + 1
theorem tdM_rng (f : Nat → Nat) (lo : Nat) : ∀ m, lo ≤ tdM f lo m ∧ tdM f lo m ≤ lo + m := by
  intro m
  induction m with
  | zero => exact ⟨Nat.le_refl lo, Nat.le_refl lo⟩
  | succ m ih =>
    show lo ≤ (if f (lo + m) = 0 then tdM f lo m else lo + m + 1) ∧ (if f (lo + m) = 0 then tdM f lo m else lo + m + 1) ≤ lo + (m + 1)
    split <;> omega
theorem tdM_0 {f : Nat → Nat} {lo m : Nat} (h : f (lo + m) = 0) : tdM f lo (m + 1) = tdM f lo m := if_pos h
theorem tdM_1 {f : Nat → Nat} {lo m : Nat} (h : f (lo + m) ≠ 0) : tdM f lo (m + 1) = lo + m + 1 := if_neg h
theorem tdM_congr {f g : Nat → Nat} {lo : Nat} : ∀ m, (∀ k, k < m → f (lo + k) = g (lo + k)) → tdM f lo m = tdM g lo m := by
  intro m
  induction m with
  | zero => intro _; rfl
  | succ m ih =>
    intro h
    show (if f (lo + m) = 0 then tdM f lo m else lo + m + 1) = (if g (lo + m) = 0 then tdM g lo m else lo + m + 1)
    rw [ih (fun k hk => h k (by omega)), h m (by omega)]
/-! FRAMES: fields by cell and place, int arrays, long arrays -/
def zW (F : Nat → Nat → Prop) (A L : Nat → Prop) (h h2 : ez_H) : Prop := ez_n h2 = ez_n h ∧ ez_u h2 = ez_u h ∧ ez_t h2 = ez_t h ∧ ez_l h2 = ez_l h ∧ ez_R h2 = ez_R h ∧ (∀ p, ¬ L p → ez_L h2 p = ez_L h p) ∧ ∀ p k, ¬ A p → ¬ F p k → ez_I h2 p k = ez_I h p k
theorem zW_refl (F : Nat → Nat → Prop) (A L : Nat → Prop) (h : ez_H) : zW F A L h h := ⟨rfl, rfl, rfl, rfl, rfl, fun _ _ => rfl, fun _ _ _ _ => rfl⟩
section ZWS
variable {F F' : Nat → Nat → Prop} {A A' L L' : Nat → Prop} {h h1 h2 : ez_H} {p k : Nat} {v : Int32}
theorem zW_tr (X : zW F A L h h1) (Y : zW F A L h1 h2) : zW F A L h h2 := ⟨Y.1.trans X.1, Y.2.1.trans X.2.1, Y.2.2.1.trans X.2.2.1, Y.2.2.2.1.trans X.2.2.2.1, Y.2.2.2.2.1.trans X.2.2.2.2.1, fun p hp => (Y.2.2.2.2.2.1 p hp).trans (X.2.2.2.2.2.1 p hp), fun p k a b => (Y.2.2.2.2.2.2 p k a b).trans (X.2.2.2.2.2.2 p k a b)⟩
theorem zW_mono (X : zW F A L h h1) (hf : ∀ p k, F p k → F' p k) (ha : ∀ p, A p → A' p) (hl : ∀ p, L p → L' p) : zW F' A' L' h h1 := ⟨X.1, X.2.1, X.2.2.1, X.2.2.2.1, X.2.2.2.2.1, fun p q => X.2.2.2.2.2.1 p (fun c => q (hl p c)), fun p k a b => X.2.2.2.2.2.2 p k (fun c => a (ha p c)) (fun c => b (hf p k c))⟩
theorem zW_sh (X : zW F A L h h1) (S : zSh h) : zSh h1 := fun p hp => by
  rw [X.2.2.1, X.2.2.2.1, X.2.2.2.2.1]
  exact S p hp
theorem zW_f (X : zW F A L h h1) (a : ¬ A p) (b : ¬ F p k) : ez_I h1 p k = ez_I h p k := X.2.2.2.2.2.2 p k a b
theorem zW_fn (X : zW F A L h h1) (p : Nat) (a : ¬ A p) (b : ∀ k, ¬ F p k) : ez_I h1 p = ez_I h p := funext fun k => X.2.2.2.2.2.2 p k a (b k)
theorem zW_setF (X : zW F A L h h1) (e : h2 = ez_setI h1 p k v) (hp : F p k) : zW F A L h h2 := by
  subst e
  exact zW_tr X ⟨rfl, rfl, rfl, rfl, rfl, fun _ _ => rfl, fun q j _ b => ez_I_set_ne (fun c => b (c.1 ▸ c.2 ▸ hp))⟩
theorem zW_setA (X : zW F A L h h1) (e : h2 = ez_setI h1 p k v) (hp : A p) : zW F A L h h2 := by
  subst e
  exact zW_tr X ⟨rfl, rfl, rfl, rfl, rfl, fun _ _ => rfl, fun q j a _ => ez_I_set_ne (fun c => a (c.1 ▸ hp))⟩
theorem zW_row {g : Nat → Int32} (X : zW F A L h h1) (e : h2 = ez_rowI h1 p g) (hp : A p) : zW F A L h h2 := by
  refine zW_tr X ⟨by subst e; rfl, by subst e; rfl, by subst e; rfl, by subst e; rfl, by subst e; rfl, fun _ _ => by subst e; rfl, fun q j a _ => zI_row e (fun c => a (c ▸ hp))⟩
theorem zW_eq (X : zW (fun _ _ => False) (fun _ => False) (fun _ => False) h h2) : h2 = h := by
  have hI : ez_I h2 = ez_I h := by
    funext p k
    exact X.2.2.2.2.2.2 p k id id
  have hL : ez_L h2 = ez_L h := by
    funext p
    exact X.2.2.2.2.2.1 p id
  obtain ⟨a1, a2, a3, a4, a5, a6, a7⟩ := h
  obtain ⟨b1, b2, b3, b4, b5, b6, b7⟩ := h2
  obtain ⟨c1, c2, c3, c4, c5, _, _⟩ := X
  cases c1; cases c2; cases c3; cases c4; cases c5; cases hI; cases hL
  rfl
theorem zW_Q {Q : ez_Q} {o : Option Value ⊕ Nat} (X : zW (fun _ _ => False) (fun _ => False) (fun _ => False) h h2) (q : Q o h) : Q o h2 := by
  rw [zW_eq X]; exact q
theorem zW_ofG {PF PA : Nat → Prop} (X : zG PF PA h h2) : zW (fun q k => q = 71 ∧ PF k) PA (fun _ => False) h h2 := ⟨X.1, X.2.1, X.2.2.1, X.2.2.2.1, X.2.2.2.2.1, fun p _ => by rw [X.2.2.2.2.2.1], fun p k a b => by
  by_cases e : p = 71
  · subst e; exact zG_f X (fun c => b ⟨rfl, c⟩)
  · rw [zG_fn X p e a]⟩
theorem zW_ofK {PA PL : Nat → Prop} (X : zK PA PL h h2) : zW (fun _ _ => False) PA PL h h2 := ⟨X.1, X.2.1, X.2.2.1, X.2.2.2.1, X.2.2.2.2.1, fun p a => zK_fl X p a, fun p k a _ => by rw [zK_fn X p a]⟩
theorem zMw (X : zW F A L h h2) (hM : zMem h) : zMem h2 := by
  unfold zMem
  rw [X.1, X.2.1]
  exact hM
end ZWS
/-- the arrays that stand outside -/
theorem tz_LB {n : Nat} (h : n < 29) : ((tz_ar (1 + 1)).getD n 0).toInt = (LBf n : Nat) := by
  revert n; decide
theorem tz_DB {n : Nat} (h : n < 30) : ((tz_ar (2 + 1)).getD n 0).toInt = (DBf n : Nat) := by
  revert n; decide
theorem tz_LE {n : Nat} (h : n < 29) : ((tz_ar (3 + 1)).getD n 0).toInt = (LEf n : Nat) := by
  revert n; decide
theorem tz_DE {n : Nat} (h : n < 30) : ((tz_ar (4 + 1)).getD n 0).toInt = (DEf n : Nat) := by
  revert n; decide
theorem tz_RB {n : Nat} (h : n < 3) : ((tz_ar (6 + 1)).getD n 0).toInt = (RBf n : Nat) := by
  revert n; decide
theorem tz_OR {n : Nat} (h : n < 19) : ((tz_ar (7 + 1)).getD n 0).toInt = (ORf n : Nat) := by
  revert n; decide
theorem tz_RE {n : Nat} (h : n < 3) : ((tz_ar (8 + 1)).getD n 0).toInt = (REf n : Nat) := by
  revert n; decide
theorem tz_CF {n : Nat} (h : n < 3) : ((tz_ar (9 + 1)).getD n 0).toInt = ([0, 286, 316].getD n 0 : Nat) := by
  revert n; decide
theorem tz_CS {n : Nat} (h : n < 3) : ((tz_ar (10 + 1)).getD n 0).toInt = ([286, 30, 19].getD n 0 : Nat) := by
  revert n; decide
/-! BITS of ints by their numbers -/
theorem n_pow (n : Nat) : (2 : Int) ^ n = ((2 ^ n : Nat) : Int) := by rw [Int.natCast_pow]; rfl
theorem n_shl {x y z : Int32} {n : Nat} (hy : y.toInt = n) (hn : n < 31) (hx : 0 ≤ x.toInt) (hb : x.toInt * 2 ^ n < 2147483648) (hz : z = x <<< (y &&& 31)) : z.toInt = x.toInt * 2 ^ n := by
  have ey : y = Int32.ofNat n := z_inj (by rw [hy]; exact (z_nI (n := n) (by omega)).symm)
  have hu := z_u hx
  have hc : ((ev_u x * 2 ^ n : Nat) : Int) = x.toInt * 2 ^ n := by rw [Int.natCast_mul, hu, n_pow]
  have h1 : ev_u z = ev_u x * 2 ^ n := by
    have e : ∀ m : Nat, m < 32 → (Int32.ofNat m &&& 31) = Int32.ofNat m := by decide
    have e2 : ∀ m : Nat, m < 32 → ((Int32.ofNat m).toBitVec.smod 32).toNat = m := by decide
    have e3 : z.toBitVec = x.toBitVec <<< n := by
      rw [hz, ey, e n (by omega), Int32.toBitVec_shiftLeft]
      show x.toBitVec <<< ((Int32.ofNat n).toBitVec.smod 32).toNat = _
      rw [e2 n (by omega)]
    show z.toBitVec.toNat = _
    rw [e3, BitVec.toNat_shiftLeft, Nat.shiftLeft_eq]
    show ev_u x * 2 ^ n % 2 ^ 32 = _
    exact Nat.mod_eq_of_lt (by omega)
  rw [z_of_u (by omega), h1, hc]
theorem n_or {x y z : Int32} {n : Nat} {a : Int} (hx : x.toInt = a * 2 ^ n) (ha : 0 ≤ a) (hy : 0 ≤ y.toInt ∧ y.toInt < 2 ^ n) (hb : x.toInt + y.toInt < 2147483648) (hz : z = x ||| y) : z.toInt = x.toInt + y.toInt := by
  have hx0 : 0 ≤ x.toInt := by rw [hx]; exact Int.mul_nonneg ha (by rw [n_pow]; exact Int.natCast_nonneg _)
  have h1 := z_u hx0
  have h2 := z_u hy.1
  have h3 : ev_u x = a.toNat <<< n := by
    rw [Nat.shiftLeft_eq]
    have e : ((a.toNat * 2 ^ n : Nat) : Int) = x.toInt := by rw [Int.natCast_mul, Int.toNat_of_nonneg ha, hx, n_pow]
    omega
  have h4 : ev_u y < 2 ^ n := by
    have := hy.2
    rw [n_pow] at this
    omega
  have h5 : ev_u z = ev_u x + ev_u y := by
    rw [hz, ef_or_ok]
    show ev_u x ||| ev_u y = _
    rw [h3, ← Nat.shiftLeft_add_eq_or_of_lt h4]
  rw [z_of_u (by omega), h5]
  omega
theorem n_mask {x y z : Int32} {k : Nat} (hk : k < 31) (hy : y.toInt = 2 ^ k - 1) (hz : z = x &&& y) : z.toInt = x.toInt % 2 ^ k := by
  have hp : 0 < 2 ^ k := Nat.pow_pos (n := k) (show 0 < 2 by decide)
  have hy2 : y.toInt = ((2 ^ k - 1 : Nat) : Int) := by rw [hy, n_pow]; omega
  have h1 := z_u (x := y) (by omega)
  have h2 : ev_u y = 2 ^ k - 1 := by omega
  have h3 : ev_u z = ev_u x % 2 ^ k := by
    rw [hz, ef_and_ok, h2]
    exact Nat.and_two_pow_sub_one_eq_mod _ _
  have h4 : ev_u x % 2 ^ k < 2 ^ k := Nat.mod_lt _ hp
  have h5 : 2 ^ k ≤ 2 ^ 30 := Nat.pow_le_pow_right (by decide) (by omega)
  have h6 := z_of_u (x := z) (by omega)
  rw [h6, h3, Int.natCast_emod, ← n_pow]
  by_cases c : 0 ≤ x.toInt
  · rw [z_u c]
  · have e := z_u' (x := x) (by omega)
    have e2 : (4294967296 : Int) = 2 ^ k * 2 ^ (32 - k) := by
      rw [← Int.pow_add, show k + (32 - k) = 32 by omega]
      rfl
    rw [e, e2, Int.add_mul_emod_self_left]
theorem n_i2b (x : Int32) : (x.toInt8.toInt32).toInt % 256 = x.toInt % 256 := by
  rw [Int8.toInt_toInt32, Int32.toInt_toInt8, Int.bmod_def]
  split <;> omega
theorem n_i2b_rng (x : Int32) : -128 ≤ (x.toInt8.toInt32).toInt ∧ (x.toInt8.toInt32).toInt ≤ 127 := by
  rw [Int8.toInt_toInt32, Int32.toInt_toInt8, Int.bmod_def]
  split <;> omega
theorem n_shr {x y z : Int32} {n : Nat} (hy : y.toInt = n) (hn : n < 32) (hz : z = x >>> (y &&& 31)) : z.toInt = x.toInt / 2 ^ n := by rw [hz]; exact z_shr hy hn
theorem n_ushr {x y z : Int32} {n : Nat} (hy : y.toInt = n) (hn : n < 32) (hx : 0 ≤ x.toInt) (hz : z = (x.toUInt32 >>> (y.toUInt32 &&& Int32.toUInt32 31)).toInt32) : z.toInt = x.toInt / 2 ^ n := by
  have ey : y = Int32.ofNat n := z_inj (by rw [hy]; exact (z_nI (n := n) (by omega)).symm)
  have hu := z_u hx
  have h1 : ev_u z = ev_u x / 2 ^ n := by
    have e2 : ∀ m : Nat, m < 32 → (((Int32.ofNat m).toUInt32 &&& Int32.toUInt32 31).toBitVec % 32#32).toNat = m := by decide
    have e3 : z.toBitVec = x.toBitVec >>> n := by
      rw [hz, ey]
      show x.toBitVec >>> (((Int32.ofNat n).toUInt32 &&& Int32.toUInt32 31).toBitVec % 32#32).toNat = _
      rw [e2 n hn]
    show z.toBitVec.toNat = _
    rw [e3, BitVec.toNat_ushiftRight, Nat.shiftRight_eq_div_pow]
    rfl
  have h2 : ev_u x / 2 ^ n ≤ ev_u x := Nat.div_le_self _ _
  have h3 := (z_rng x).2
  rw [z_of_u (by omega), h1, Int.natCast_ediv, hu, n_pow]
/-! the chains of the two finders -/
noncomputable def tI (f : Nat → Int32) : Nat → Int := fun i => (f i).toInt
def laI (f : Nat → Int32) (key : Nat → Int) (M i : Nat) : Prop := ∀ s : Nat, s < M → -1 ≤ (f s).toInt ∧ (f s).toInt < i ∧ (0 ≤ (f s).toInt → key (f s).toInt.toNat = s) ∧ ∀ r : Nat, (f s).toInt < r → r < i → key r ≠ s
theorem laI_0 {f : Nat → Int32} {key : Nat → Int} {M : Nat} {v : Int32} (A : ∀ k, k < M → f k = v) (hv : v.toInt = -1) : laI f key M 0 := fun s hs => by
  rw [A s hs, hv]
  exact ⟨by omega, by omega, fun q => by omega, fun r _ h2 => by omega⟩
theorem laI_s {h h2 : ez_H} {key : Nat → Int} {c M i x m : Nat} {y : Int32} (A : laI (ez_I h c) key M i) (e : h2 = ez_setI h c x y) (hx : key i = (x : Int)) (hy : y.toInt = i) (hm : m = i + 1) : laI (ez_I h2 c) key M m := fun s hs => by
  subst hm
  by_cases q : s = x
  · subst q
    rw [zI_eq e, hy]
    exact ⟨by omega, by omega, fun _ => by rw [show ((i : Int)).toNat = i by omega]; exact hx, fun r h1 h2 => by omega⟩
  · rw [zI_ne e (fun z => q z.2)]
    obtain ⟨a, b, c1, d⟩ := A s hs
    refine ⟨a, by omega, c1, fun r h1 h2 => ?_⟩
    by_cases z : r = i
    · subst z; rw [hx]; omega
    · exact d r h1 (by omega)
theorem chn_0 (f key : Nat → Int) : chn f key 0 := fun i hi => by omega
theorem chn_s {h h2 : ez_H} {key : Nat → Int} {c g M i x m : Nat} {v : Int32} (A : chn (tI (ez_I h c)) key i) (L : laI (ez_I h g) key M i) (hv : ez_I h g x = v) (hx : key i = (x : Int)) (hM : x < M) (e : h2 = ez_setI h c i v) (hm : m = i + 1) : chn (tI (ez_I h2 c)) key m := fun j hj => by
  subst hm
  by_cases q : j = i
  · subst q
    have l := L x hM
    rw [hv] at l
    have e1 : tI (ez_I h2 c) j = v.toInt := by unfold tI; rw [zI_eq e]
    rw [e1, hx]
    exact l
  · have e1 : tI (ez_I h2 c) j = tI (ez_I h c) j := by unfold tI; rw [zI_ne e (fun z => q z.2)]
    rw [e1]
    exact A j (by omega)
theorem chn_le {f key : Nat → Int} {N M : Nat} (A : chn f key N) (h : M ≤ N) : chn f key M := fun i hi => A i (by omega)
noncomputable def spF (a b c : Int32) : Int32 := ((((a ||| b <<< ((8 : Int32) &&& 31)) ||| c <<< ((16 : Int32) &&& 31)) * (-1640531535)).toUInt32 >>> ((20 : Int32).toUInt32 &&& Int32.toUInt32 31)).toInt32
noncomputable def spK (f : Nat → Int32) (i : Nat) : Int := (spF (f i) (f (i + 1)) (f (i + 2))).toInt
theorem spK_tri (f : Nat → Int32) (p : Nat) : tri (tI f) (spK f) p := fun r _ h0 h1 h2 => by
  unfold spK
  rw [z_inj (x := f r) (y := f p) h0, z_inj (x := f (r + 1)) (y := f (p + 1)) h1, z_inj (x := f (r + 2)) (y := f (p + 2)) h2]
theorem spK_is {f : Nat → Int32} {i a b z1 z2 z3 c8 c16 c20 cm w1 w2 w3 w4 w5 x : Int32} (h0 : 0 ≤ i.toInt) (ea : a.toInt = i.toInt + 1) (eb : b.toInt = i.toInt + 2) (e1 : f i.toInt.toNat = z1) (e2 : f a.toInt.toNat = z2) (e3 : f b.toInt.toNat = z3) (h8 : c8.toInt = 8) (h16 : c16.toInt = 16) (h20 : c20.toInt = 20) (hm : cm.toInt = -1640531535) (g1 : w1 = z2 <<< (c8 &&& 31)) (g2 : w2 = z1 ||| w1) (g3 : w3 = z3 <<< (c16 &&& 31)) (g4 : w4 = w2 ||| w3) (g5 : w5 = w4 * cm) (g6 : x = (w5.toUInt32 >>> (c20.toUInt32 &&& Int32.toUInt32 31)).toInt32) : x.toInt = spK f i.toInt.toNat := by
  have k8 : c8 = 8 := z_inj h8
  have k16 : c16 = 16 := z_inj h16
  have k20 : c20 = 20 := z_inj h20
  have km : cm = -1640531535 := z_inj hm
  rw [show a.toInt.toNat = i.toInt.toNat + 1 by omega] at e2
  rw [show b.toInt.toNat = i.toInt.toNat + 2 by omega] at e3
  subst k8; subst k16; subst k20; subst km; subst e1; subst e2; subst e3; subst g1; subst g2; subst g3; subst g4; subst g5; subst g6
  rfl
/-- what a search tells: x is 0, or a longer match's length, w how far back -/
def srP (T : Nat → Int) (n p b : Nat) (x w : Int) : Prop := ((bf T p (min 258 (n - p)) b (min 4096 p)).2 = 0 ∧ x = 0) ∨ ((bf T p (min 258 (n - p)) b (min 4096 p)).2 ≠ 0 ∧ x = ((bf T p (min 258 (n - p)) b (min 4096 p)).1 : Nat) ∧ w = ((bf T p (min 258 (n - p)) b (min 4096 p)).2 : Nat))
theorem srP_full {T : Nat → Int} {n p b : Nat} {x w : Int} (h : min 258 (n - p) ≤ b) (hx : x = 0) : srP T n p b x w := by
  have e : bf T p (min 258 (n - p)) b (min 4096 p) = (b, 0) := bf_full (a := 0) h (Nat.zero_le _)
  exact .inl ⟨by rw [e], hx⟩
/-- a search at hand: what has been found, at the candidate f -/
def soP (T : Nat → Int) (p m b : Nat) (f bt fd w : Int) : Prop := bt = ((sb T p m b f).1 : Nat) ∧ ((fd = 0 ∧ (sb T p m b f).2 = 0) ∨ (fd = 1 ∧ (sb T p m b f).2 ≠ 0 ∧ w = ((sb T p m b f).2 : Nat)))
theorem soP_0 {T key f : Nat → Int} {p m b N : Nat} {fm bt fd w : Int} (C : chn f key N) (hk : tri T key p) (hp : p < N) (hb : 2 ≤ b) (hf : fm = f p) (h1 : bt = b) (h2 : fd = 0) : soP T p m b fm bt fd w := by
  subst hf
  unfold soP
  rw [sb_0 C hk hp hb]
  exact ⟨h1, .inl ⟨h2, rfl⟩⟩
/-- a candidate that is no longer -/
theorem soP_n {T key f : Nat → Int} {p m b N : Nat} {q fm bt fd w : Int} (A : soP T p m b q bt fd w) (C : chn f key N) (hk : tri T key p) (hq : 0 ≤ q ∧ q < p) (hN : q < N) (hkq : key q.toNat = key p) (hd : (p : Int) - q ≤ 4096) (hb : 2 ≤ b) (hf : fm = f q.toNat) (hl : (lc T q.toNat p m : Int) ≤ bt) : soP T p m b fm bt fd w := by
  subst hf
  have e := sb_s (m := m) C hk (q := q.toNat) (by omega) (by omega) hkq (by omega) hb
  rw [show ((q.toNat : Nat) : Int) = q by omega] at e
  have h1 := A.1
  rw [if_neg (by omega)] at e
  unfold soP
  rw [e]
  exact A
theorem soP_y {T key f : Nat → Int} {p m b N : Nat} {q fm bt fd w bt2 fd2 w2 : Int} (A : soP T p m b q bt fd w) (C : chn f key N) (hk : tri T key p) (hq : 0 ≤ q ∧ q < p) (hN : q < N) (hkq : key q.toNat = key p) (hd : (p : Int) - q ≤ 4096) (hb : 2 ≤ b) (hf : fm = f q.toNat) (hl : bt < (lc T q.toNat p m : Int)) (h2 : bt2 = (lc T q.toNat p m : Int)) (h3 : fd2 = 1) (h4 : w2 = p - q) : soP T p m b fm bt2 fd2 w2 := by
  subst hf
  have e := sb_s (m := m) C hk (q := q.toNat) (by omega) (by omega) hkq (by omega) hb
  rw [show ((q.toNat : Nat) : Int) = q by omega] at e
  have h1 := A.1
  rw [if_pos (by omega)] at e
  unfold soP
  rw [e]
  exact ⟨h2, .inr ⟨h3, by show p - q.toNat ≠ 0; omega, by show w2 = ((p - q.toNat : Nat) : Int); omega⟩⟩
theorem soP_e {T : Nat → Int} {n p m b : Nat} {f bt fd w x : Int} (A : soP T p m b f bt fd w) (hm : m = min 258 (n - p)) (hf : -1 ≤ f ∧ f < p) (h : f < 0 ∨ (p : Int) - f > 4096 ∨ (m : Int) ≤ bt) (hx : (fd = 0 ∧ x = 0) ∨ (fd ≠ 0 ∧ x = bt)) : srP T n p b x w := by
  subst hm
  have h1 := A.1
  have e := sb_e (T := T) (p := p) (m := min 258 (n - p)) (b := b) hf (by omega)
  unfold srP
  rw [← e]
  rcases A.2 with z | z
  · exact .inl ⟨z.2, by omega⟩
  · exact .inr ⟨z.2.1, by omega, z.2.2⟩
theorem soP_2 {T : Nat → Int} {p m b : Nat} {f bt fd w : Int} (A : soP T p m b f bt fd w) (hb : 2 ≤ b) (hm : b ≤ m) : (b : Int) ≤ bt ∧ bt ≤ m ∧ (fd = 0 ∨ fd = 1) := by
  have h1 := A.1
  have h2 := bf_ge T p m b (min 4096 ((p : Int) - f - 1).toNat)
  have h3 := bf_ok T p m b (min 4096 ((p : Int) - f - 1).toNat)
  have e : sb T p m b f = bf T p m b (min 4096 ((p : Int) - f - 1).toNat) := rfl
  rw [e] at h1
  refine ⟨by omega, ?_, ?_⟩
  · rcases h3 with z | z
    · rw [z] at h1
      have : bt = (b : Nat) := h1
      omega
    · omega
  · rcases A.2 with z | z
    · exact .inl z.1
    · exact .inr z.1
theorem lcI_s {f : Nat → Int32} {a b i j x y z w : Int32} (A : ∀ k : Nat, (k : Int) < i.toInt → tI f (a.toInt.toNat + k) = tI f (b.toInt.toNat + k)) (ha : 0 ≤ a.toInt) (hb : 0 ≤ b.toInt) (hi : 0 ≤ i.toInt) (hx : x.toInt = a.toInt + i.toInt) (hy : y.toInt = b.toInt + i.toInt) (ex : f x.toInt.toNat = z) (ey : f y.toInt.toNat = w) (hzw : z.toInt = w.toInt) (hj : j.toInt = i.toInt + 1) : ∀ k : Nat, (k : Int) < j.toInt → tI f (a.toInt.toNat + k) = tI f (b.toInt.toNat + k) := fun k hk => by
  by_cases q : (k : Int) < i.toInt
  · exact A k q
  · have e1 : a.toInt.toNat + k = x.toInt.toNat := by omega
    have e2 : b.toInt.toNat + k = y.toInt.toNat := by omega
    rw [e1, e2]
    show (f x.toInt.toNat).toInt = (f y.toInt.toNat).toInt
    rw [ex, ey]
    exact hzw
theorem lcI_e1 {f : Nat → Int32} {a b i m : Int32} (A : ∀ k : Nat, (k : Int) < i.toInt → tI f (a.toInt.toNat + k) = tI f (b.toInt.toNat + k)) (h : i.toInt = m.toInt) (h0 : 0 ≤ i.toInt) : i.toInt = (lc (tI f) a.toInt.toNat b.toInt.toNat m.toInt.toNat : Nat) := by
  rw [lc_is (s := i.toInt.toNat) (by omega) (fun j hj => A j (by omega)) (fun q => by omega)]
  omega
theorem lcI_e2 {f : Nat → Int32} {a b i m x y z w : Int32} (A : ∀ k : Nat, (k : Int) < i.toInt → tI f (a.toInt.toNat + k) = tI f (b.toInt.toNat + k)) (ha : 0 ≤ a.toInt) (hb : 0 ≤ b.toInt) (hi : 0 ≤ i.toInt) (hm : i.toInt ≤ m.toInt) (hx : x.toInt = a.toInt + i.toInt) (hy : y.toInt = b.toInt + i.toInt) (ex : f x.toInt.toNat = z) (ey : f y.toInt.toNat = w) (hzw : z.toInt ≠ w.toInt) : i.toInt = (lc (tI f) a.toInt.toNat b.toInt.toNat m.toInt.toNat : Nat) := by
  rw [lc_is (s := i.toInt.toNat) (by omega) (fun j hj => A j (by omega)) (fun _ q => hzw (by
    rw [show a.toInt.toNat + i.toInt.toNat = x.toInt.toNat by omega, show b.toInt.toNat + i.toInt.toNat = y.toInt.toNat by omega] at q
    have q2 : (f x.toInt.toNat).toInt = (f y.toInt.toNat).toInt := q
    rw [ex, ey] at q2
    exact q2))]
  omega
theorem lcI_cut {f : Nat → Int32} {a b i x y z w : Int32} {m : Nat} (ha : 0 ≤ a.toInt) (hb : 0 ≤ b.toInt) (hi : 0 ≤ i.toInt) (hx : x.toInt = a.toInt + i.toInt) (hy : y.toInt = b.toInt + i.toInt) (ex : f x.toInt.toNat = z) (ey : f y.toInt.toNat = w) (hzw : z.toInt ≠ w.toInt) : (lc (tI f) a.toInt.toNat b.toInt.toNat m : Int) ≤ i.toInt := by
  have := lc_cut (T := tI f) (q := a.toInt.toNat) (p := b.toInt.toNat) (m := m) (b := i.toInt.toNat) (fun q => hzw (by
    rw [show a.toInt.toNat + i.toInt.toNat = x.toInt.toNat by omega, show b.toInt.toNat + i.toInt.toNat = y.toInt.toNat by omega] at q
    have q2 : (f x.toInt.toNat).toInt = (f y.toInt.toNat).toInt := q
    rw [ex, ey] at q2
    exact q2))
  omega
/-! the parts of a tape -/
noncomputable def aM (T : Nat → Int) (n k : Nat) : Nat := if ptD T n (ptP T n k) = 0 then (T (ptP T n k)).toNat else ptS T n (ptP T n k)
noncomputable def dI (T : Nat → Int) (n k : Nat) : Nat := ptD T n (ptP T n k)
def pqI (f : Nat → Int32) (T : Nat → Int) (n c : Nat) : Prop := ∀ k, k < c → (f k).toInt = (dI T n k : Int) * 512 + aM T n k
def ltP (T : Nat → Int) (n c : Nat) : Prop := ∀ j, j < c → ptP T n j < n
theorem sr_0 {T : Nat → Int} {n p b : Nat} {x w : Int} (A : srP T n p b x w) (hb : b = 2) : x = (mL T n p : Nat) ∧ (0 < x → w = (mD T n p : Nat)) := by
  subst hb
  have h := mL_b (T := T) (n := n) (p := p) (b := 2) (Nat.le_refl 2) rfl
  have hk := mL_ok T n p
  rcases A with a | a
  · rcases h with z | z
    · exact ⟨by omega, fun q => by omega⟩
    · exact absurd a.1 z.1
  · rcases h with z | z
    · exact absurd z.1 a.1
    · exact ⟨by omega, fun _ => by omega⟩
theorem sr_l {T : Nat → Int} {n p b : Nat} {x w l : Int} (A : srP T n p b x w) (hl : l = 0 ∨ 3 ≤ l) (hb : b = max l.toNat 2) : (x = 0 ∧ (mL T n p : Int) ≤ l) ∨ (l < x ∧ x = (mL T n p : Nat) ∧ w = (mD T n p : Nat)) := by
  have h := mL_b (T := T) (n := n) (p := p) (b := b) (by omega) rfl
  have hk := mL_ok T n p
  rcases A with a | a
  · rcases h with z | z
    · exact .inl ⟨a.2, by omega⟩
    · exact absurd a.1 z.1
  · rcases h with z | z
    · exact absurd z.1 a.1
    · exact .inr ⟨by omega, by omega, by omega⟩
theorem ltP_0 (T : Nat → Int) (n : Nat) : ltP T n 0 := fun j hj => by omega
theorem ltP_s {T : Nat → Int} {n c m : Nat} (A : ltP T n c) (h : ptP T n c < n) (hm : m = c + 1) : ltP T n m := fun j hj => by
  subst hm
  by_cases e : j = c
  · subst e; exact h
  · exact A j (by omega)
theorem pqI_0 (f : Nat → Int32) (T : Nat → Int) (n : Nat) : pqI f T n 0 := fun j hj => by omega
/-- the byte is the part -/
theorem pt_lit {T : Nat → Int} {n c p : Nat} {l x : Int} (hp : ptP T n c = p) (hl : l = (mL T n p : Nat)) (h : l = 0 ∨ (l < x ∧ x = (mL T n (p + 1) : Nat))) : ptP T n (c + 1) = p + 1 ∧ dI T n c = 0 ∧ aM T n c = (T p).toNat := by
  subst hp
  have hc : ¬ (0 < mL T n (ptP T n c) ∧ mL T n (ptP T n c + 1) ≤ mL T n (ptP T n c)) := by omega
  have e1 : ptS T n (ptP T n c) = 1 := if_neg hc
  have e2 : ptD T n (ptP T n c) = 0 := if_neg hc
  refine ⟨?_, e2, ?_⟩
  · show ptP T n c + ptS T n (ptP T n c) = _
    rw [e1]
  · unfold aM
    rw [if_pos e2]
theorem pt_mat {T : Nat → Int} {n c p : Nat} {l ds : Int} (hp : ptP T n c = p) (hl : l = (mL T n p : Nat)) (h0 : 0 < l) (hd : ds = (mD T n p : Nat)) (h : (mL T n (p + 1) : Int) ≤ l) : ((ptP T n (c + 1) : Nat) : Int) = p + l ∧ ((dI T n c : Nat) : Int) = ds ∧ ((aM T n c : Nat) : Int) = l ∧ (3 ≤ l ∧ l ≤ 258 ∧ l ≤ n - p ∧ 1 ≤ ds ∧ ds ≤ 4096) := by
  subst hp
  have hc : 0 < mL T n (ptP T n c) ∧ mL T n (ptP T n c + 1) ≤ mL T n (ptP T n c) := by omega
  have e1 : ptS T n (ptP T n c) = mL T n (ptP T n c) := if_pos hc
  have e2 : ptD T n (ptP T n c) = mD T n (ptP T n c) := if_pos hc
  have hk := mL_ok T n (ptP T n c)
  refine ⟨?_, ?_, ?_, by omega⟩
  · show ((ptP T n c + ptS T n (ptP T n c) : Nat) : Int) = _
    rw [e1]; omega
  · unfold dI
    rw [e2]; omega
  · unfold aM
    rw [if_neg (by rw [e2]; omega), e1]; omega
theorem pqI_s {f g : Nat → Int32} {T : Nat → Int} {n c m : Nat} {v a ds : Int} (A : pqI f T n c) (h1 : (g c).toInt = v) (h2 : ∀ k, k ≠ c → g k = f k) (hv : v = ds * 512 + a) (hd : ((dI T n c : Nat) : Int) = ds) (ha : ((aM T n c : Nat) : Int) = a) (hm : m = c + 1) : pqI g T n m := fun k hk => by
  subst hm
  by_cases e : k = c
  · subst e; rw [h1, hv, hd, ha]
  · rw [h2 k e]; exact A k (by omega)
/-! the model's finder -/
noncomputable def tB (f : Nat → Int32) : Nat → Int := fun i => (f i).toInt % 256
noncomputable def pK (f : Nat → Int32) (i : Nat) : Int := tB f i * 256 + tB f (i + 1)
theorem pK_tri (f : Nat → Int32) (p : Nat) : tri (tB f) (pK f) p := fun r _ h0 h1 _ => by
  unfold pK
  rw [h0, h1]
theorem pK_is {f : Nat → Int32} {i b z1 z2 y1 y2 w x c8 : Int32} (h0 : 0 ≤ i.toInt) (eb : b.toInt = i.toInt + 1) (e1 : f i.toInt.toNat = z1) (e2 : f b.toInt.toNat = z2) (h8 : c8.toInt = 8) (g1 : y1.toInt = z1.toInt % 256) (g2 : y2.toInt = z2.toInt % 256) (gw : w = y1 <<< (c8 &&& 31)) (gx : x = w ||| y2) : x.toInt = pK f i.toInt.toNat ∧ 0 ≤ x.toInt ∧ x.toInt ≤ 65535 := by
  have hw : w.toInt = y1.toInt * 2 ^ 8 := n_shl (n := 8) (by omega) (by decide) (by omega) (by omega) gw
  have hx : x.toInt = w.toInt + y2.toInt := n_or (n := 8) (a := y1.toInt) hw (by omega) (by omega) (by omega) gx
  rw [show b.toInt.toNat = i.toInt.toNat + 1 by omega] at e2
  have k1 : tB f i.toInt.toNat = z1.toInt % 256 := by unfold tB; rw [e1]
  have k2 : tB f (i.toInt.toNat + 1) = z2.toInt % 256 := by unfold tB; rw [e2]
  unfold pK
  rw [k1, k2]
  omega
theorem lcT_s {T : Nat → Int} {a b i j x y zv wv : Int} (A : ∀ k : Nat, (k : Int) < i → T (a.toNat + k) = T (b.toNat + k)) (ha : 0 ≤ a) (hb : 0 ≤ b) (hi : 0 ≤ i) (hx : x = a + i) (hy : y = b + i) (ex : T x.toNat = zv) (ey : T y.toNat = wv) (hzw : zv = wv) (hj : j = i + 1) : ∀ k : Nat, (k : Int) < j → T (a.toNat + k) = T (b.toNat + k) := fun k hk => by
  by_cases q : (k : Int) < i
  · exact A k q
  · rw [show a.toNat + k = x.toNat by omega, show b.toNat + k = y.toNat by omega, ex, ey]
    exact hzw
theorem lcT_e1 {T : Nat → Int} {a b i m : Int} (A : ∀ k : Nat, (k : Int) < i → T (a.toNat + k) = T (b.toNat + k)) (h : i = m) (h0 : 0 ≤ i) : i = (lc T a.toNat b.toNat m.toNat : Nat) := by
  rw [lc_is (s := i.toNat) (by omega) (fun j hj => A j (by omega)) (fun q => by omega)]
  omega
theorem lcT_e2 {T : Nat → Int} {a b i m x y zv wv : Int} (A : ∀ k : Nat, (k : Int) < i → T (a.toNat + k) = T (b.toNat + k)) (ha : 0 ≤ a) (hb : 0 ≤ b) (hi : 0 ≤ i) (hm : i ≤ m) (hx : x = a + i) (hy : y = b + i) (ex : T x.toNat = zv) (ey : T y.toNat = wv) (hzw : zv ≠ wv) : i = (lc T a.toNat b.toNat m.toNat : Nat) := by
  rw [lc_is (s := i.toNat) (by omega) (fun j hj => A j (by omega)) (fun _ q => hzw (by
    rw [show a.toNat + i.toNat = x.toNat by omega, show b.toNat + i.toNat = y.toNat by omega, ex, ey] at q
    exact q))]
  omega
def moP (T : Nat → Int) (p m : Nat) (f bt w : Int) : Prop := bt = ((sb T p m 2 f).1 : Nat) ∧ w = ((sb T p m 2 f).2 : Nat)
theorem moP_0 {T key f : Nat → Int} {p m N : Nat} {fm bt w : Int} (C : chn f key N) (hk : tri T key p) (hp : p < N) (hf : fm = f p) (h1 : bt = 2) (h2 : w = 0) : moP T p m fm bt w := by
  subst hf
  unfold moP
  rw [sb_0 C hk hp (Nat.le_refl 2)]
  exact ⟨h1, h2⟩
theorem moP_z {T : Nat → Int} {p m : Nat} {fm bt w : Int} (hm : m < 3) (h1 : bt = 2) (h2 : w = 0) : moP T p m fm bt w := by
  have e : sb T p m 2 fm = (2, 0) := bf_full (a := 0) (by show m ≤ 2; omega) (Nat.zero_le _)
  unfold moP
  rw [e]
  exact ⟨h1, h2⟩
theorem moP_n {T key f : Nat → Int} {p m N : Nat} {q fm bt w : Int} (A : moP T p m q bt w) (C : chn f key N) (hk : tri T key p) (hq : 0 ≤ q ∧ q < p) (hN : q < N) (hkq : key q.toNat = key p) (hd : (p : Int) - q ≤ 4096) (hf : fm = f q.toNat) (hl : (lc T q.toNat p m : Int) ≤ bt) : moP T p m fm bt w := by
  subst hf
  have e := sb_s (m := m) (b := 2) C hk (q := q.toNat) (by omega) (by omega) hkq (by omega) (Nat.le_refl 2)
  rw [show ((q.toNat : Nat) : Int) = q by omega] at e
  have h1 := A.1
  rw [if_neg (by omega)] at e
  unfold moP
  rw [e]
  exact A
theorem moP_y {T key f : Nat → Int} {p m N : Nat} {q fm bt w bt2 w2 : Int} (A : moP T p m q bt w) (C : chn f key N) (hk : tri T key p) (hq : 0 ≤ q ∧ q < p) (hN : q < N) (hkq : key q.toNat = key p) (hd : (p : Int) - q ≤ 4096) (hf : fm = f q.toNat) (hl : bt < (lc T q.toNat p m : Int)) (h2 : bt2 = (lc T q.toNat p m : Int)) (h4 : w2 = p - q) : moP T p m fm bt2 w2 := by
  subst hf
  have e := sb_s (m := m) (b := 2) C hk (q := q.toNat) (by omega) (by omega) hkq (by omega) (Nat.le_refl 2)
  rw [show ((q.toNat : Nat) : Int) = q by omega] at e
  have h1 := A.1
  rw [if_pos (by omega)] at e
  unfold moP
  rw [e]
  exact ⟨h2, by show w2 = ((p - q.toNat : Nat) : Int); omega⟩
theorem moP_e {T : Nat → Int} {n p m : Nat} {f bt w x : Int} (A : moP T p m f bt w) (hm : m = min 258 (n - p)) (hf : -1 ≤ f ∧ f < p) (h : f < 0 ∨ (p : Int) - f > 4096 ∨ (m : Int) ≤ bt) (hx : (w = 0 ∧ x = 0) ∨ (w ≠ 0 ∧ x = bt)) : x = (mL T n p : Nat) ∧ w = (mD T n p : Nat) := by
  subst hm
  have h1 := A.1
  have h2 := A.2
  have e := sb_e (T := T) (p := p) (m := min 258 (n - p)) (b := 2) hf (by omega)
  have e2 : mt T n p = sb T p (min 258 (n - p)) 2 f := e.symm
  unfold mL mD
  rw [e2]
  refine ⟨?_, h2⟩
  rcases hx with z | z
  · rw [if_pos (by omega)]; omega
  · rw [if_neg (by omega)]; omega
theorem moP_2 {T : Nat → Int} {p m : Nat} {f bt w : Int} (A : moP T p m f bt w) : 2 ≤ bt ∧ (bt = 2 ∨ bt ≤ m) ∧ 0 ≤ w ∧ w ≤ 4096 := by
  have h1 := A.1
  have h2 := A.2
  have h3 := bf_ok T p m 2 (min 4096 ((p : Int) - f - 1).toNat)
  have e : sb T p m 2 f = bf T p m 2 (min 4096 ((p : Int) - f - 1).toNat) := rfl
  rw [e] at h1 h2
  rcases h3 with z | z
  · rw [z] at h1 h2
    have h4 : bt = (2 : Nat) := h1
    have h5 : w = (0 : Nat) := h2
    omega
  · omega
/-- the model's parts -/
def pmI (M B Y K : Nat → Int32) (T : Nat → Int) (n c : Nat) : Prop := ∀ k, k < c → (M k).toInt = (ptS T n (ptP T n k) : Nat) ∧ (B k).toInt = (dI T n k : Nat) ∧ (Y k).toInt = T (ptP T n k) ∧ (K k).toInt = ((k / 600 : Nat) : Int)
theorem pmI_0 (M B Y K : Nat → Int32) (T : Nat → Int) (n : Nat) : pmI M B Y K T n 0 := fun j hj => by omega
theorem pmI_s {M B Y K M2 B2 Y2 K2 : Nat → Int32} {T : Nat → Int} {n c m : Nat} {v1 v2 v3 v4 : Int32} (A : pmI M B Y K T n c) (h1 : M2 c = v1) (h2 : B2 c = v2) (h3 : Y2 c = v3) (h4 : K2 c = v4) (f1 : ∀ k, k ≠ c → M2 k = M k) (f2 : ∀ k, k ≠ c → B2 k = B k) (f3 : ∀ k, k ≠ c → Y2 k = Y k) (f4 : ∀ k, k ≠ c → K2 k = K k) (g1 : v1.toInt = (ptS T n (ptP T n c) : Nat)) (g2 : v2.toInt = (dI T n c : Nat)) (g3 : v3.toInt = T (ptP T n c)) (g4 : v4.toInt = ((c / 600 : Nat) : Int)) (hm : m = c + 1) : pmI M2 B2 Y2 K2 T n m := fun k hk => by
  subst hm
  by_cases e : k = c
  · subst e; rw [h1, h2, h3, h4]; exact ⟨g1, g2, g3, g4⟩
  · rw [f1 k e, f2 k e, f3 k e, f4 k e]; exact A k (by omega)
/-- what a place is a part of, as the model asks it -/
theorem pt_mod {T : Nat → Int} {n c p : Nat} {l w l2 : Int} (hp : ptP T n c = p) (hl : l = (mL T n p : Nat)) (hw : w = (mD T n p : Nat)) (hx : (l2 = l ∧ (l ≤ 0 ∨ ((mL T n (p + 1) : Nat) : Int) ≤ l)) ∨ (l2 = 0 ∧ l < ((mL T n (p + 1) : Nat) : Int))) : (0 < l2 → ((ptS T n p : Nat) : Int) = l2 ∧ ((dI T n c : Nat) : Int) = w ∧ ((ptP T n (c + 1) : Nat) : Int) = p + l2) ∧ (l2 ≤ 0 → ((ptS T n p : Nat) : Int) = 1 ∧ ((dI T n c : Nat) : Int) = 0 ∧ ((ptP T n (c + 1) : Nat) : Int) = p + 1) := by
  subst hp
  refine ⟨fun h => ?_, fun h => ?_⟩
  · have hc : 0 < mL T n (ptP T n c) ∧ mL T n (ptP T n c + 1) ≤ mL T n (ptP T n c) := by omega
    have e1 : ptS T n (ptP T n c) = mL T n (ptP T n c) := if_pos hc
    have e2 : ptD T n (ptP T n c) = mD T n (ptP T n c) := if_pos hc
    have e3 : ptP T n (c + 1) = ptP T n c + ptS T n (ptP T n c) := rfl
    unfold dI
    rw [e3, e1, e2]
    omega
  · have hc : ¬ (0 < mL T n (ptP T n c) ∧ mL T n (ptP T n c + 1) ≤ mL T n (ptP T n c)) := by omega
    have e1 : ptS T n (ptP T n c) = 1 := if_neg hc
    have e2 : ptD T n (ptP T n c) = 0 := if_neg hc
    have e3 : ptP T n (c + 1) = ptP T n c + ptS T n (ptP T n c) := rfl
    unfold dI
    rw [e3, e1, e2]
    omega
theorem laI_a {f : Nat → Int32} {key : Nat → Int} {M : Nat} (A : aR f M (-1) (-1)) : laI f key M 0 := fun s hs => by
  have := A s hs
  exact ⟨by omega, by omega, fun q => by omega, fun r _ h2 => by omega⟩
theorem chn_top {h h2 : ez_H} {key : Nat → Int} {c N x : Nat} {v : Int32} (A : chn (tI (ez_I h c)) key N) (e : h2 = ez_setI h c x v) (hx : N ≤ x) : chn (tI (ez_I h2 c)) key N := fun i hi => by
  have e1 : tI (ez_I h2 c) i = tI (ez_I h c) i := by unfold tI; rw [zI_ne e (by omega)]
  rw [e1]
  exact A i hi
/-! the halving search of a kind -/
theorem LB_mono : ∀ j, j < 29 → ∀ i, i ≤ j → LBf i ≤ LBf j := by decide
theorem DB_mono : ∀ j, j < 30 → ∀ i, i ≤ j → DBf i ≤ DBf j := by decide
def kbI (B : Nat → Nat) (K : Nat) (v k st : Int) : Prop := B k.toNat ≤ v.toNat ∧ ∀ j : Nat, k + max 1 (2 * st) ≤ j → j ≤ K → v.toNat < B j
theorem kbI_0 {B : Nat → Nat} {K : Nat} {v k st : Int} (h0 : B 0 ≤ v.toNat) (hk : k = 0) (hs : st = 16) (hK : K < 32) : kbI B K v k st := by
  subst hk; subst hs
  exact ⟨h0, fun j h1 h2 => by omega⟩
theorem kbI_y {B : Nat → Nat} {K : Nat} {v k st k2 st2 : Int} (A : kbI B K v k st) (hs : st = 16 ∨ st = 8 ∨ st = 4 ∨ st = 2 ∨ st = 1) (h : B (k + st).toNat ≤ v.toNat) (h2 : k2 = k + st) (h3 : st2 = st / 2) : kbI B K v k2 st2 := by
  subst h2; subst h3
  exact ⟨h, fun j h1 h4 => A.2 j (by omega) h4⟩
theorem kbI_n {B : Nat → Nat} {K : Nat} {v k st st2 : Int} (A : kbI B K v k st) (hk : 0 ≤ k) (hs : st = 16 ∨ st = 8 ∨ st = 4 ∨ st = 2 ∨ st = 1) (hm : ∀ j, j < K + 1 → ∀ i, i ≤ j → B i ≤ B j) (h : (K : Int) < k + st ∨ v.toNat < B (k + st).toNat) (h3 : st2 = st / 2) : kbI B K v k st2 := by
  subst h3
  refine ⟨A.1, fun j h1 h4 => ?_⟩
  rcases h with h | h
  · omega
  · have := hm j (by omega) (k + st).toNat (by omega)
    omega
theorem kbI_e {B : Nat → Nat} {K : Nat} {v k st : Int} (A : kbI B K v k st) (hs : st ≤ 0) (hk : 0 ≤ k ∧ k ≤ K) : k = (kf B v.toNat K : Nat) := by
  rw [kf_is K (x := k.toNat) (by omega) (.inl A.1) (fun j h1 h2 => A.2 j (by omega) h2)]
  omega
theorem mulB {x y a b c : Int} (hx : 0 ≤ x ∧ x ≤ a) (hy : 0 ≤ y ∧ y ≤ b) (hc : a * b = c) : 0 ≤ x * y ∧ x * y ≤ c := by
  refine ⟨Int.mul_nonneg hx.1 hy.1, ?_⟩
  rw [← hc]
  exact Int.mul_le_mul hx.2 hy.2 hy.1 (by omega)
/-! the counts of a block, in the class's rows -/
def pqG (f : Nat → Int32) (am di : Nat → Nat) (c : Nat) : Prop := ∀ k, k < c → (f k).toInt = (di k : Int) * 512 + am k ∧ ((di k = 0 ∧ am k ≤ 255) ∨ (1 ≤ di k ∧ di k ≤ 4096 ∧ 3 ≤ am k ∧ am k ≤ 258))
def ctI (f : Nat → Int32) (c : Nat → Nat) (n : Nat) : Prop := ∀ s, s < n → (f s).toInt = (c s : Nat)
theorem ctI_c {f : Nat → Int32} {g g2 : Nat → Nat} {n : Nat} (A : ctI f g n) (h : ∀ s, s < n → g s = g2 s) : ctI f g2 n := fun s hs => (A s hs).trans (by rw [h s hs])
theorem cL_y (am di : Nat → Nat) (a j : Nat) : cL am di a (j + 1) (lSy am di (a + j)) = cL am di a j (lSy am di (a + j)) + 1 := by
  show cL am di a j _ + (if lSy am di (a + j) = lSy am di (a + j) then 1 else 0) = _
  rw [if_pos rfl]
theorem cL_n {am di : Nat → Nat} {a j s : Nat} (h : s ≠ lSy am di (a + j)) : cL am di a (j + 1) s = cL am di a j s := by
  show cL am di a j s + (if lSy am di (a + j) = s then 1 else 0) = _
  rw [if_neg (fun q => h q.symm), Nat.add_zero]
theorem cD_y {di : Nat → Nat} {a j : Nat} (h : di (a + j) ≠ 0) : cD di a (j + 1) (kD (di (a + j))) = cD di a j (kD (di (a + j))) + 1 := by
  show cD di a j _ + (if di (a + j) ≠ 0 ∧ kD (di (a + j)) = kD (di (a + j)) then 1 else 0) = _
  rw [if_pos ⟨h, rfl⟩]
theorem cD_n {di : Nat → Nat} {a j s : Nat} (h : s ≠ kD (di (a + j))) : cD di a (j + 1) s = cD di a j s := by
  show cD di a j s + (if di (a + j) ≠ 0 ∧ kD (di (a + j)) = s then 1 else 0) = _
  rw [if_neg (fun q => h q.2.symm), Nat.add_zero]
theorem cD_0 {di : Nat → Nat} {a j s : Nat} (h : di (a + j) = 0) : cD di a (j + 1) s = cD di a j s := by
  show cD di a j s + (if di (a + j) ≠ 0 ∧ kD (di (a + j)) = s then 1 else 0) = _
  rw [if_neg (fun q => q.1 h), Nat.add_zero]
theorem xB_s (am di : Nat → Nat) (a j : Nat) : xB am di a (j + 1) = xB am di a j + (if di (a + j) = 0 then 0 else LEf (kL (am (a + j))) + DEf (kD (di (a + j)))) := rfl
theorem bY_s (am di : Nat → Nat) (a j : Nat) : bY am di a (j + 1) = bY am di a j + (if di (a + j) = 0 then 1 else am (a + j)) := rfl
theorem xB_le (am di : Nat → Nat) (a : Nat) : ∀ j, xB am di a j ≤ 18 * j := by
  intro j
  induction j with
  | zero => exact Nat.le_refl 0
  | succ j ih =>
    rw [xB_s]
    have := LE_5 (kL (am (a + j)))
    have := DE_13 (kD (di (a + j)))
    split <;> omega
theorem bY_le {am di : Nat → Nat} {a : Nat} : ∀ j, (∀ i, i < j → am (a + i) ≤ 258) → bY am di a j ≤ 258 * j := by
  intro j
  induction j with
  | zero => intro _; exact Nat.le_refl 0
  | succ j ih =>
    intro h
    rw [bY_s]
    have := ih (fun i hi => h i (by omega))
    have := h j (by omega)
    split <;> omega
/-! the bits written by the class: a row of bytes, what is held -/
def stC (f : Nat → Int32) (z hd hb : Int) (s : Nat × Nat) : Prop := (0 ≤ z ∧ 0 ≤ hb) ∧ s.2 = 8 * z.toNat + hb.toNat ∧ hd = ((s.1 / 256 ^ z.toNat : Nat) : Int) ∧ s.1 < 2 ^ s.2 ∧ ∀ i : Nat, (i : Int) < z → (f i).toInt = ((s.1 / 256 ^ i % 256 : Nat) : Int)
theorem stC_hd {f : Nat → Int32} {z hd hb : Int} {s : Nat × Nat} (A : stC f z hd hb s) : 0 ≤ hd ∧ hd < 2 ^ hb.toNat := by
  obtain ⟨a, b, c, d, _⟩ := A
  rw [b] at d
  have h := wr_held d
  rw [c, n_pow]
  exact ⟨Int.natCast_nonneg _, Int.ofNat_lt.mpr h⟩
theorem stC_put {f : Nat → Int32} {z hd hb v n hd2 hb2 : Int} {s : Nat × Nat} (A : stC f z hd hb s) (hv : 0 ≤ v ∧ v < 2 ^ n.toNat) (hn : 0 ≤ n) (h1 : hd2 = hd + v * 2 ^ hb.toNat) (h2 : hb2 = hb + n) : stC f z hd2 hb2 (wr s v.toNat n.toNat) := by
  obtain ⟨a, b, c, d, e⟩ := A
  have hv2 : v.toNat < 2 ^ n.toNat := by
    have := hv.2
    rw [n_pow] at this
    omega
  refine ⟨by omega, by show s.2 + n.toNat = _; omega, ?_, wr_ok d hv2, fun i hi => ?_⟩
  · show hd2 = (((s.1 + v.toNat * 2 ^ s.2) / 256 ^ z.toNat : Nat) : Int)
    rw [b, wr_hi, h1, c, n_pow, Int.natCast_add, Int.natCast_mul, Int.toNat_of_nonneg hv.1]
  · show (f i).toInt = (((s.1 + v.toNat * 2 ^ s.2) / 256 ^ i % 256 : Nat) : Int)
    rw [wr_lo (by omega)]
    exact e i hi
theorem stC_out {f g : Nat → Int32} {z hd hb z2 hd2 hb2 : Int} {s : Nat × Nat} (A : stC f z hd hb s) (h8 : 8 ≤ hb) (h1 : (g z.toNat).toInt = hd % 256) (h2 : ∀ k, k ≠ z.toNat → g k = f k) (h3 : z2 = z + 1) (h4 : hd2 = hd / 256) (h5 : hb2 = hb - 8) : stC g z2 hd2 hb2 s := by
  obtain ⟨a, b, c, d, e⟩ := A
  refine ⟨by omega, by omega, ?_, d, fun i hi => ?_⟩
  · rw [h3, show (z + 1).toNat = z.toNat + 1 by omega, wr_next, h4, c]
    omega
  · by_cases q : i = z.toNat
    · subst q
      rw [h1, c]
      omega
    · rw [h2 i q]
      exact e i (by omega)
theorem stC_or {v hb hd w x : Int32} {f : Nat → Int32} {z : Int} {s : Nat × Nat} {n : Int} (A : stC f z hd.toInt hb.toInt s) (h7 : hb.toInt ≤ 7) (hv : 0 ≤ v.toInt ∧ v.toInt < 2 ^ n.toNat) (hn : 0 ≤ n ∧ n ≤ 16) (gw : w = v <<< (hb &&& 31)) (gx : x = hd ||| w) : x.toInt = hd.toInt + v.toInt * 2 ^ hb.toInt.toNat ∧ 0 ≤ x.toInt ∧ x.toInt < 16777216 := by
  have h1 := stC_hd A
  have h0 := A.1
  have p1 : (2 : Int) ^ n.toNat ≤ 2 ^ 16 := z_pow_le (by omega)
  have p2 : (2 : Int) ^ hb.toInt.toNat ≤ 2 ^ 7 := z_pow_le (by omega)
  have p3 := mulB (x := v.toInt) (y := 2 ^ hb.toInt.toNat) (a := 65535) (b := 128) (c := 8388480) ⟨hv.1, by omega⟩ ⟨by omega, by omega⟩ (by decide)
  have hw : w.toInt = v.toInt * 2 ^ hb.toInt.toNat := n_shl (n := hb.toInt.toNat) (by omega) (by omega) hv.1 (by omega) gw
  have hx : x.toInt = w.toInt + hd.toInt := n_or (n := hb.toInt.toNat) (a := v.toInt) hw hv.1 h1 (by omega) (by rw [gx, Int32.or_comm])
  omega
theorem n_neg {x z : Int32} (h : 0 ≤ x.toInt) (hz : z = -x) : z.toInt = -x.toInt := by
  rw [hz, Int32.toInt_neg]
  have := (z_rng x).2
  rw [Int.bmod_eq_of_le] <;> omega
theorem stC_same {f : Nat → Int32} {z hd hb z2 hd2 hb2 : Int} {s : Nat × Nat} (A : stC f z hd hb s) (h1 : z2 = z) (h2 : hd2 = hd) (h3 : hb2 = hb) : stC f z2 hd2 hb2 s := by
  subst h1; subst h2; subst h3; exact A
/-! a code of the class -/
noncomputable def nL (f : Nat → Int32) : Nat → Nat := fun k => (f k).toInt.toNat
/-- how many codes are shorter -/
noncomputable def plN (L : Nat → Nat) (N : Nat) : Nat → Nat
  | 0 => 0
  | 1 => 0
  | l + 2 => plN L N (l + 1) + ctN L (l + 1) N
theorem plN_s {L : Nat → Nat} {N l : Nat} (h : 1 ≤ l) : plN L N (l + 1) = plN L N l + ctN L l N := by
  obtain ⟨m, rfl⟩ : ∃ m, l = m + 1 := ⟨l - 1, by omega⟩
  rfl
theorem ncN_s {L : Nat → Nat} {N l : Nat} (h : 1 ≤ l) : ncN L N (l + 1) = (ncN L N l + ctN L l N) * 2 := by
  obtain ⟨m, rfl⟩ : ∃ m, l = m + 1 := ⟨l - 1, by omega⟩
  rfl
theorem ctI_aR {f : Nat → Int32} {c : Nat → Nat} {n : Nat} {B : Int} (A : ctI f c n) (h : ∀ s, (c s : Int) ≤ B) : aR f n 0 B := fun s hs => by
  have := A s hs
  have := h s
  omega
def upE (f g : Nat → Int32) (x : Nat) : Prop := ∃ o y : Int32, f x = o ∧ y.toInt = o.toInt + 1 ∧ g x = y ∧ ∀ s, s ≠ x → g s = f s
theorem ctI_upE {f g : Nat → Int32} {c c2 : Nat → Nat} {n x : Nat} (A : ctI f c n) (U : upE f g x) (hg : c2 x = c x + 1) (hn : ∀ s, s ≠ x → c2 s = c s) : ctI g c2 n := fun s hs => by
  obtain ⟨o, y, e1, e2, e3, e4⟩ := U
  by_cases q : s = x
  · subst q
    have := A s hs
    rw [e3, e2, ← e1, this, hg]
    omega
  · rw [e4 s q, A s hs, hn s q]
theorem cP_step {f6 g6 f7 g7 : Nat → Int32} {am di : Nat → Nat} {a j : Nat} {av ds : Int32} {x1 b1 x2 b2 : Int} (D : (ds.toInt = 0 ∧ upE f6 g6 av.toInt.toNat ∧ g7 = f7 ∧ x2 = x1 ∧ b2 = b1 + 1) ∨ (ds.toInt ≠ 0 ∧ upE f6 g6 (257 + kL av.toInt.toNat) ∧ upE f7 g7 (kD ds.toInt.toNat) ∧ x2 = x1 + LEf (kL av.toInt.toNat) + DEf (kD ds.toInt.toNat) ∧ b2 = b1 + av.toInt)) (cl : ctI f6 (cL am di a j) 286) (cd : ctI f7 (cD di a j) 30) (hx : x1 = (xB am di a j : Nat)) (hb : b1 = (bY am di a j : Nat)) (ea : av.toInt = (am (a + j) : Nat)) (ed : ds.toInt = (di (a + j) : Nat)) : ctI g6 (cL am di a (j + 1)) 286 ∧ ctI g7 (cD di a (j + 1)) 30 ∧ x2 = (xB am di a (j + 1) : Nat) ∧ b2 = (bY am di a (j + 1) : Nat) := by
  have a1 : av.toInt.toNat = am (a + j) := by omega
  have a2 : ds.toInt.toNat = di (a + j) := by omega
  rw [a1, a2] at D
  rw [xB_s, bY_s]
  rcases D with ⟨h0, h1, h2, h3, h4⟩ | ⟨h0, h1, h2, h3, h4⟩
  · have d0 : di (a + j) = 0 := by omega
    have l0 : lSy am di (a + j) = am (a + j) := if_pos d0
    rw [if_pos d0, if_pos d0, h2]
    exact ⟨ctI_upE cl h1 (by rw [← l0]; exact cL_y am di a j) (fun s hs => cL_n (by rw [l0]; exact hs)), ctI_c cd (fun s _ => (cD_0 d0).symm), by omega, by omega⟩
  · have d0 : di (a + j) ≠ 0 := by omega
    have l0 : lSy am di (a + j) = 257 + kL (am (a + j)) := if_neg d0
    rw [if_neg d0, if_neg d0]
    exact ⟨ctI_upE cl h1 (by rw [← l0]; exact cL_y am di a j) (fun s hs => cL_n (by rw [l0]; exact hs)), ctI_upE cd h2 (cD_y d0) (fun s hs => cD_n hs), by omega, by omega⟩
theorem ctI_0 {h h2 : ez_H} {c x n : Nat} {v y : Int32} {g : Nat → Nat} (A : ∀ k, k < n → ez_I h c k = v) (hv : v.toInt = 0) (e : h2 = ez_setI h c x y) (hy : y.toInt = 1) (hg : ∀ s, g s = if s = x then 1 else 0) : ctI (ez_I h2 c) g n := fun s hs => by
  by_cases q : s = x
  · subst q; rw [zI_eq e, hg, if_pos rfl]; omega
  · rw [zI_ne e (fun z => q z.2), A s hs, hg, if_neg q]; omega
theorem ctI_z {f : Nat → Int32} {n : Nat} {v : Int32} {g : Nat → Nat} (A : ∀ k, k < n → f k = v) (hv : v.toInt = 0) (hg : ∀ s, g s = 0) : ctI f g n := fun s hs => by
  rw [A s hs, hg]; omega
theorem n_not {x y z : Int32} (hy : y.toInt = -1) (hz : z = x ^^^ y) : z.toInt = -x.toInt - 1 := by
  have ey : y = -1 := z_inj hy
  subst ey
  have h1 : ev_u z = 4294967295 - ev_u x := by
    rw [hz, ef_xor_ok]
    show Nat.xor (ev_u x) (ev_u (-1)) = _
    have e : ev_u (-1) = 2 ^ 32 - 1 := by decide
    rw [e]
    have hx := ev_u_lt x
    show ev_u x ^^^ (2 ^ 32 - 1) = _
    have e2 : 2 ^ 32 - 1 - ev_u x = ev_u x ^^^ (2 ^ 32 - 1) := by
      refine Nat.eq_of_testBit_eq (fun i => ?_)
      rw [Nat.testBit_xor, Nat.testBit_two_pow_sub_one]
      have e3 : 2 ^ 32 - 1 - ev_u x = 2 ^ 32 - (ev_u x + 1) := by omega
      rw [e3, Nat.testBit_two_pow_sub_succ (by omega)]
      by_cases c : i < 32
      · rw [decide_eq_true c]; cases (ev_u x).testBit i <;> rfl
      · have hb : (ev_u x).testBit i = false := Nat.testBit_lt_two_pow (Nat.lt_of_lt_of_le (show ev_u x < 2 ^ 32 from hx) (Nat.pow_le_pow_right (n := 2) (by decide) (by omega)))
        rw [decide_eq_false c, hb]; rfl
    omega
  have r := z_rng x
  have rz := z_rng z
  by_cases c : 0 ≤ x.toInt
  · have a := z_u c
    by_cases d : 0 ≤ z.toInt
    · have b := z_u d; omega
    · have b := z_u' (x := z) (by omega); omega
  · have a := z_u' (x := x) (by omega)
    by_cases d : 0 ≤ z.toInt
    · have b := z_u d; omega
    · have b := z_u' (x := z) (by omega); omega
/-! the bits of a block's parts: words wl, wd of lengths ll, ld -/
noncomputable def wpt (am di wl ll wd ld : Nat → Nat) (s : Nat × Nat) (k : Nat) : Nat × Nat := if di k = 0 then wr s (wl (am k)) (ll (am k)) else wr (wr (wr (wr s (wl (257 + kL (am k))) (ll (257 + kL (am k)))) (am k - LBf (kL (am k))) (LEf (kL (am k)))) (wd (kD (di k))) (ld (kD (di k)))) (di k - DBf (kD (di k))) (DEf (kD (di k)))
noncomputable def wps (am di wl ll wd ld : Nat → Nat) (s : Nat × Nat) (a : Nat) : Nat → Nat × Nat
  | 0 => s
  | j + 1 => wpt am di wl ll wd ld (wps am di wl ll wd ld s a j) (a + j)
/-- how many bits a part takes -/
noncomputable def ibN (am di ll ld : Nat → Nat) (k : Nat) : Nat := if di k = 0 then ll (am k) else ll (257 + kL (am k)) + LEf (kL (am k)) + ld (kD (di k)) + DEf (kD (di k))
theorem wpt_2 (am di wl ll wd ld : Nat → Nat) (s : Nat × Nat) (k : Nat) : (wpt am di wl ll wd ld s k).2 = s.2 + ibN am di ll ld k := by
  unfold wpt ibN
  by_cases c : di k = 0
  · rw [if_pos c, if_pos c]; rfl
  · rw [if_neg c, if_neg c]
    show s.2 + ll (257 + kL (am k)) + LEf (kL (am k)) + ld (kD (di k)) + DEf (kD (di k)) = _
    omega
theorem wps_2 (am di wl ll wd ld : Nat → Nat) (s : Nat × Nat) (a : Nat) : ∀ j, (wps am di wl ll wd ld s a j).2 = s.2 + sN (fun i => ibN am di ll ld (a + i)) j := by
  intro j
  induction j with
  | zero => rfl
  | succ j ih =>
    show (wpt am di wl ll wd ld (wps am di wl ll wd ld s a j) (a + j)).2 = s.2 + (sN (fun i => ibN am di ll ld (a + i)) j + ibN am di ll ld (a + j))
    rw [wpt_2, ih]
    omega
theorem sN_mono {f : Nat → Nat} {n : Nat} : ∀ m, n ≤ m → sN f n ≤ sN f m := by
  intro m
  induction m with
  | zero => intro h; have : n = 0 := by omega
            subst this; exact Nat.le_refl _
  | succ m ih =>
    intro h
    by_cases e : n = m + 1
    · subst e; exact Nat.le_refl _
    · have := ih (by omega)
      show _ ≤ sN f m + f m
      omega
theorem sN_add {f g : Nat → Nat} : ∀ n, sN (fun k => f k + g k) n = sN f n + sN g n := by
  intro n
  induction n with
  | zero => rfl
  | succ n ih =>
    show sN (fun k => f k + g k) n + (f n + g n) = sN f n + f n + (sN g n + g n)
    rw [ih]
    omega
/-- the bits of all parts by the counts -/
theorem ib_sum {am di : Nat → Nat} {a j : Nat} (ll ld : Nat → Nat) (h1 : ∀ i, i < j → lSy am di (a + i) < 286) (h2 : ∀ i, i < j → di (a + i) ≠ 0 → kD (di (a + i)) < 30) : sN (fun i => ibN am di ll ld (a + i)) j + ll 256 = sN (fun s => cL am di a j s * ll s) 286 + sN (fun s => cD di a j s * ld s) 30 + xB am di a j := by
  rw [cL_sum ll j h1, cD_sum ld j h2]
  have e : ∀ m, sN (fun i => ibN am di ll ld (a + i)) m = sN (fun i => ll (lSy am di (a + i))) m + sN (fun i => if di (a + i) = 0 then 0 else ld (kD (di (a + i)))) m + xB am di a m := by
    intro m
    induction m with
    | zero => rfl
    | succ m ih =>
      rw [xB_s]
      show sN (fun i => ibN am di ll ld (a + i)) m + ibN am di ll ld (a + m) = sN (fun i => ll (lSy am di (a + i))) m + ll (lSy am di (a + m)) + (sN (fun i => if di (a + i) = 0 then 0 else ld (kD (di (a + i)))) m + (if di (a + m) = 0 then 0 else ld (kD (di (a + m))))) + _
      rw [ih]
      unfold ibN lSy
      by_cases c : di (a + m) = 0
      · rw [if_pos c, if_pos c, if_pos c, if_pos c]; omega
      · rw [if_neg c, if_neg c, if_neg c, if_neg c]; omega
  rw [e j]
  omega
/-! a code settled by its lengths -/
theorem n_bit {a : Int} {i : Nat} (h : 0 ≤ a) : a / 2 ^ i % 2 = ((a.toNat / 2 ^ i % 2 : Nat) : Int) := by
  rw [Int.natCast_emod, Int.natCast_ediv, n_pow, Int.toNat_of_nonneg h]
  rfl
theorem ncN_le (L : Nat → Nat) (N : Nat) : ∀ l, ncN L N (l + 1) + 3 * N ≤ N * 2 ^ (l + 2) := by
  intro l
  induction l with
  | zero =>
    have : N * 2 ^ (0 + 2) = N * 4 := rfl
    show 0 + 3 * N ≤ _
    omega
  | succ l ih =>
    rw [ncN_s (by omega), Nat.pow_succ, ← Nat.mul_assoc]
    have := ctN_le L (l + 1) N
    generalize N * 2 ^ (l + 2) = Z at *
    omega
theorem ncN_b {L : Nat → Nat} {l : Nat} (h : l ≤ 16) : ncN L 288 l ≤ 40000000 := by
  by_cases e : l = 0
  · subst e; show 0 ≤ 40000000; omega
  · have h1 := ncN_le L 288 (l - 1)
    rw [show l - 1 + 1 = l by omega] at h1
    have h2 : (2 : Nat) ^ (l - 1 + 2) ≤ 2 ^ 17 := Nat.pow_le_pow_right (by decide) (by omega)
    omega
/-- all codes of the lengths 1 .. l - 1 -/
theorem plN_sum (L : Nat → Nat) : ∀ N l, plN L (N + 1) l = plN L N l + (if 1 ≤ L N ∧ L N < l then 1 else 0) := by
  intro N l
  induction l with
  | zero => show 0 = 0 + _; rw [if_neg (by omega)]
  | succ l ih =>
    by_cases e : l = 0
    · subst e; show 0 = 0 + _; rw [if_neg (by omega)]
    · rw [plN_s (by omega), plN_s (by omega), ih]
      show _ + (ctN L l N + (if L N = l then 1 else 0)) = _
      by_cases c : L N = l
      · rw [if_pos c, if_neg (by omega), if_pos (by omega)]; omega
      · rw [if_neg c]
        by_cases d : 1 ≤ L N ∧ L N < l
        · rw [if_pos d, if_pos (by omega)]; omega
        · rw [if_neg d, if_neg (by omega)]; omega
theorem plN_le (L : Nat → Nat) (l : Nat) : ∀ N, plN L N l ≤ N := by
  intro N
  induction N with
  | zero =>
    have : ∀ l, plN L 0 l = 0 := by
      intro l
      induction l with
      | zero => rfl
      | succ l ih =>
        by_cases e : l = 0
        · subst e; rfl
        · rw [plN_s (by omega), ih]; rfl
    rw [this]
    exact Nat.le_refl 0
  | succ N ih =>
    rw [plN_sum]
    split <;> omega
theorem plN_mono {L : Nat → Nat} {N a : Nat} (ha : 1 ≤ a) : ∀ b, a < b → plN L N a + ctN L a N ≤ plN L N b := by
  intro b
  induction b with
  | zero => intro h; omega
  | succ b ih =>
    intro h
    by_cases e : a = b
    · subst e; rw [plN_s ha]; exact Nat.le_refl _
    · have := ih (by omega)
      rw [plN_s (by omega)]
      omega
theorem ctN_mono {L : Nat → Nat} {l n : Nat} : ∀ m, n ≤ m → ctN L l n ≤ ctN L l m := by
  intro m
  induction m with
  | zero => intro h; have : n = 0 := by omega
            subst this; exact Nat.le_refl _
  | succ m ih =>
    intro h
    by_cases e : n = m + 1
    · subst e; exact Nat.le_refl _
    · have := ih (by omega)
      show _ ≤ ctN L l m + _
      omega
theorem ctN_y {L : Nat → Nat} {l n : Nat} (h : L n = l) : ctN L l (n + 1) = ctN L l n + 1 := by
  show ctN L l n + (if L n = l then 1 else 0) = _
  rw [if_pos h]
theorem ctN_n {L : Nat → Nat} {l n : Nat} (h : L n ≠ l) : ctN L l (n + 1) = ctN L l n := by
  show ctN L l n + (if L n = l then 1 else 0) = _
  rw [if_neg h]; rfl
/-- the place of a symbol by its code -/
noncomputable def pcN (L : Nat → Nat) (N k : Nat) : Nat := plN L N (L k) + ctN L (L k) k
theorem pcN_lt {L : Nat → Nat} {N k : Nat} (hk : k < N) (h1 : 1 ≤ L k) : pcN L N k < plN L N (L k) + ctN L (L k) N := by
  have h2 := ctN_y (L := L) (l := L k) (n := k) rfl
  have h3 := ctN_mono (L := L) (l := L k) (n := k + 1) N (by omega)
  unfold pcN
  omega
theorem pcN_inj {L : Nat → Nat} {N j k : Nat} (hk : k < N) (hj : j < k) (h1 : 1 ≤ L j) (h2 : 1 ≤ L k) : pcN L N j ≠ pcN L N k := by
  have a := pcN_lt (L := L) (N := N) (k := j) (by omega) h1
  have b := pcN_lt (L := L) (N := N) (k := k) hk h2
  by_cases e : L j = L k
  · have c := ctN_y (L := L) (l := L k) (n := j) e
    have d := ctN_mono (L := L) (l := L k) (n := j + 1) k (by omega)
    unfold pcN
    rw [e]
    omega
  · by_cases q : L j < L k
    · have c := plN_mono (L := L) (N := N) h1 (L k) q
      unfold pcN at a b ⊢
      omega
    · have c := plN_mono (L := L) (N := N) h2 (L j) (by omega)
      unfold pcN at a b ⊢
      omega
theorem pcN_288 {L : Nat → Nat} {N k : Nat} (hk : k < N) (h1 : 1 ≤ L k) : pcN L N k < N := by
  have a := pcN_lt hk h1
  have b := plN_mono (L := L) (N := N) h1 (L k + 1) (by omega)
  have c := plN_le L (L k + 1) N
  omega
/-! in the rows -/
def ctC (g : Nat → Int32) (L : Nat → Nat) (n : Nat) : Prop := (g 0).toInt = 0 ∧ ∀ l, 1 ≤ l → l < 16 → (g l).toInt = (ctN L l n : Nat)
theorem ctC_0 {g : Nat → Int32} {v : Int32} {L : Nat → Nat} (A : ∀ k, k < 16 → g k = v) (hv : v.toInt = 0) : ctC g L 0 := ⟨by rw [A 0 (by decide), hv], fun l _ h2 => by rw [A l h2, hv]; rfl⟩
theorem ctC_y {h h2 : ez_H} {c x n m : Nat} {o y : Int32} {L : Nat → Nat} (A : ctC (ez_I h c) L n) (e : h2 = ez_setI h c x y) (hx : x = L n) (h1 : 1 ≤ L n ∧ L n < 16) (eo : ez_I h c x = o) (hy : y.toInt = o.toInt + 1) (hm : m = n + 1) : ctC (ez_I h2 c) L m := by
  subst hm
  refine ⟨by rw [zI_ne e (by omega)]; exact A.1, fun l a b => ?_⟩
  by_cases q : l = x
  · subst q
    have := A.2 l a b
    rw [eo] at this
    rw [zI_eq e, hy, this, ctN_y hx.symm]
    omega
  · rw [zI_ne e (fun z => q z.2), A.2 l a b, ctN_n (by omega)]
theorem ctC_n {g : Nat → Int32} {n m : Nat} {L : Nat → Nat} (A : ctC g L n) (h0 : L n = 0) (hm : m = n + 1) : ctC g L m := by
  subst hm
  exact ⟨A.1, fun l a b => by rw [A.2 l a b, ctN_n (by omega)]⟩
/-- f l is g l for the lengths 1 .. m - 1 -/
def uT2 (f : Nat → Int32) (g : Nat → Nat) (m : Nat) : Prop := ∀ l, 1 ≤ l → l < m → (f l).toInt = (g l : Nat)
theorem uT2_s {h h2 : ez_H} {c x m k : Nat} {y : Int32} {g : Nat → Nat} (A : uT2 (ez_I h c) g m) (e : h2 = ez_setI h c x y) (hx : x = m) (hy : y.toInt = (g m : Nat)) (hk : k = m + 1) : uT2 (ez_I h2 c) g k := fun l a b => by
  subst hk; subst hx
  by_cases q : l = x
  · subst q; rw [zI_eq e]; exact hy
  · rw [zI_ne e (fun z => q z.2)]; exact A l a (by omega)
theorem uT2_0 (f : Nat → Int32) (g : Nat → Nat) : uT2 f g 1 := fun l a b => by omega
theorem uT2_up {f f2 : Nat → Int32} {g g2 : Nat → Nat} {m x : Nat} {v : Int} (A : uT2 f g m) (h1 : (f2 x).toInt = v) (h2 : ∀ k, k ≠ x → f2 k = f k) (hv : v = (f x).toInt + 1) (hx : 1 ≤ x ∧ x < m) (hg : g2 x = g x + 1) (hn : ∀ l, l ≠ x → g2 l = g l) : uT2 f2 g2 m := fun l a b => by
  by_cases q : l = x
  · subst q
    have := A l a b
    rw [h1, hv, this, hg]
    omega
  · rw [h2 l q, A l a b, hn l q]
theorem uT2_c {f : Nat → Int32} {g g2 : Nat → Nat} {m : Nat} (A : uT2 f g m) (h : ∀ l, 1 ≤ l → g l = g2 l) : uT2 f g2 m := fun l a b => by rw [A l a b, h l a]
/-- the words of the first n symbols -/
def wdI (w : Nat → Int32) (L : Nat → Nat) (N n : Nat) : Prop := ∀ k, k < n → 1 ≤ L k → (w k).toInt = (cdN L N k : Nat)
def itI (t : Nat → Int32) (L : Nat → Nat) (N n : Nat) : Prop := ∀ k, k < n → 1 ≤ L k → (t (pcN L N k)).toInt = (k : Nat)
theorem wdI_s {w w2 : Nat → Int32} {L : Nat → Nat} {N n m : Nat} {v : Int} (A : wdI w L N n) (h1 : (w2 n).toInt = v) (h2 : ∀ k, k ≠ n → w2 k = w k) (hv : v = (cdN L N n : Nat)) (hm : m = n + 1) : wdI w2 L N m := fun k hk h0 => by
  subst hm
  by_cases q : k = n
  · subst q; rw [h1, hv]
  · rw [h2 k q]; exact A k (by omega) h0
theorem itI_s {t t2 : Nat → Int32} {L : Nat → Nat} {N n m x : Nat} {y : Int32} (A : itI t L N n) (h1 : t2 x = y) (h2 : ∀ k, k ≠ x → t2 k = t k) (hx : x = pcN L N n) (hy : y.toInt = n) (hn : n < N) (hl : 1 ≤ L n) (hm : m = n + 1) : itI t2 L N m := fun k hk h0 => by
  subst hm
  by_cases q : k = n
  · subst q; rw [← hx, h1, hy]
  · rw [h2 _ (by rw [hx]; exact pcN_inj hn (by omega) h0 hl)]
    exact A k (by omega) h0
theorem skI {w : Nat → Int32} {L : Nat → Nat} {N n m : Nat} (A : wdI w L N n) (h0 : L n = 0) (hm : m = n + 1) : wdI w L N m := fun k hk h1 => by
  subst hm
  by_cases q : k = n
  · subst q; omega
  · exact A k (by omega) h1
theorem skT {w : Nat → Int32} {L : Nat → Nat} {N n m : Nat} (A : itI w L N n) (h0 : L n = 0) (hm : m = n + 1) : itI w L N m := fun k hk h1 => by
  subst hm
  by_cases q : k = n
  · subst q; omega
  · exact A k (by omega) h1
/-! BITS READ, symbols, parts: told by the tape alone -/
noncomputable def bitT (T : Nat → Int) (j : Nat) : Nat := (T (j / 8)).toNat / 2 ^ (j % 8) % 2
theorem bitT_2 (T : Nat → Int) (j : Nat) : bitT T j < 2 := Nat.mod_lt _ (by decide)
noncomputable def vB (T : Nat → Int) (p : Nat) : Nat → Nat
  | 0 => 0
  | i + 1 => vB T p i + bitT T (p + i) * 2 ^ i
theorem vB_lt (T : Nat → Int) (p : Nat) : ∀ i, vB T p i < 2 ^ i := by
  intro i
  induction i with
  | zero => exact Nat.one_pos
  | succ i ih =>
    show vB T p i + bitT T (p + i) * 2 ^ i < 2 ^ (i + 1)
    rw [Nat.pow_succ]
    have h := bitT_2 T (p + i)
    have : bitT T (p + i) * 2 ^ i ≤ 1 * 2 ^ i := Nat.mul_le_mul_right _ (by omega)
    omega
/-- the bits of a code, the first the highest -/
noncomputable def cdV (T : Nat → Int) (p : Nat) : Nat → Nat
  | 0 => 0
  | l + 1 => 2 * cdV T p l + bitT T (p + l)
theorem cdV_lt (T : Nat → Int) (p : Nat) : ∀ i, cdV T p i < 2 ^ i := by
  intro i
  induction i with
  | zero => exact Nat.one_pos
  | succ i ih =>
    show 2 * cdV T p i + bitT T (p + i) < 2 ^ (i + 1)
    rw [Nat.pow_succ]
    have h := bitT_2 T (p + i)
    omega
/-- a symbol: found with l bits, or l + 1, .. (f tries): its length, which of that length -/
noncomputable def sdF (T : Nat → Int) (n p : Nat) (L : Nat → Nat) (N : Nat) : Nat → Nat → Option (Nat × Nat)
  | 0, _ => none
  | f + 1, l => if 8 * n < p + l then none else if cdV T p l < ncN L N l + ctN L l N then some (l, cdV T p l - ncN L N l) else sdF T n p L N f (l + 1)
theorem sdF_out {T : Nat → Int} {n p : Nat} {L : Nat → Nat} {N f l : Nat} (h : 8 * n < p + l) : sdF T n p L N f l = none := by
  cases f with
  | zero => rfl
  | succ f => exact if_pos h
theorem sdF_y {T : Nat → Int} {n p : Nat} {L : Nat → Nat} {N f l : Nat} (h : p + l ≤ 8 * n) (hc : cdV T p l < ncN L N l + ctN L l N) : sdF T n p L N (f + 1) l = some (l, cdV T p l - ncN L N l) := by
  show (if 8 * n < p + l then none else if cdV T p l < ncN L N l + ctN L l N then some (l, cdV T p l - ncN L N l) else sdF T n p L N f (l + 1)) = _
  rw [if_neg (by omega), if_pos hc]
theorem sdF_n {T : Nat → Int} {n p : Nat} {L : Nat → Nat} {N f l : Nat} (h : p + l ≤ 8 * n) (hc : ¬ cdV T p l < ncN L N l + ctN L l N) : sdF T n p L N (f + 1) l = sdF T n p L N f (l + 1) := by
  show (if 8 * n < p + l then none else if cdV T p l < ncN L N l + ctN L l N then some (l, cdV T p l - ncN L N l) else sdF T n p L N f (l + 1)) = _
  rw [if_neg (by omega), if_neg hc]
/-- once no longer code is left, none is found -/
theorem sdF_none {T : Nat → Int} {n p : Nat} {L : Nat → Nat} {N : Nat} : ∀ f l, (∀ m, l ≤ m → m < l + f → ctN L m N = 0 ∧ ncN L N m ≤ cdV T p m) → sdF T n p L N f l = none := by
  intro f
  induction f with
  | zero => intro l _; rfl
  | succ f ih =>
    intro l h
    have h0 := h l (Nat.le_refl l) (by omega)
    by_cases c : 8 * n < p + l
    · exact sdF_out c
    · rw [sdF_n (by omega) (by omega)]
      exact ih (l + 1) (fun m a b => h m (by omega) (by omega))
/-- not found with l bits: the code is beyond all of them -/
theorem cdV_ge {T : Nat → Int} {p : Nat} {L : Nat → Nat} {N l : Nat} (h : 1 ≤ l) (hc : ¬ cdV T p l < ncN L N l + ctN L l N) : ncN L N (l + 1) ≤ cdV T p (l + 1) := by
  rw [ncN_s h]
  show _ ≤ 2 * cdV T p l + bitT T (p + l)
  omega
/-- the symbol of length l that has i of that length ahead of it -/
noncomputable def syN (L : Nat → Nat) (l i : Nat) : Nat → Nat
  | 0 => 0
  | k + 1 => if L k = l ∧ ctN L l k = i then k else syN L l i k
theorem syN_is {L : Nat → Nat} {l i k : Nat} (h1 : L k = l) (h2 : ctN L l k = i) : ∀ N, k < N → syN L l i N = k := by
  intro N
  induction N with
  | zero => intro h; omega
  | succ N ih =>
    intro h
    show (if L N = l ∧ ctN L l N = i then N else syN L l i N) = k
    by_cases e : k = N
    · subst e; exact if_pos ⟨h1, h2⟩
    · rw [if_neg (fun q => by
        have a := ctN_y (L := L) (l := l) (n := k) h1
        have b := ctN_mono (L := L) (l := l) (n := k + 1) N (by omega)
        omega)]
      exact ih (by omega)
theorem ctN_ex {L : Nat → Nat} {l i : Nat} : ∀ N, i < ctN L l N → ∃ k, k < N ∧ L k = l ∧ ctN L l k = i := by
  intro N
  induction N with
  | zero => intro h; exact absurd h (Nat.not_lt_zero _)
  | succ N ih =>
    intro h
    by_cases c : i < ctN L l N
    · obtain ⟨k, a, b, d⟩ := ih c
      exact ⟨k, by omega, b, d⟩
    · by_cases e : L N = l
      · rw [ctN_y e] at h
        exact ⟨N, by omega, e, by omega⟩
      · rw [ctN_n e] at h
        exact absurd h c
/-- a symbol and the place behind it -/
noncomputable def sdR (T : Nat → Int) (n p : Nat) (L : Nat → Nat) (N : Nat) : Option (Nat × Nat) := match sdF T n p L N 15 1 with
  | none => none
  | some r => some (syN L r.1 r.2 N, p + r.1)
theorem sdF_ok {T : Nat → Int} {n p : Nat} {L : Nat → Nat} {N : Nat} : ∀ f l r, sdF T n p L N f l = some r → l ≤ r.1 ∧ r.1 < l + f ∧ p + r.1 ≤ 8 * n := by
  intro f
  induction f with
  | zero => intro l r h; cases h
  | succ f ih =>
    intro l r h
    by_cases c : 8 * n < p + l
    · rw [sdF_out c] at h; cases h
    · by_cases d : cdV T p l < ncN L N l + ctN L l N
      · rw [sdF_y (by omega) d] at h
        cases h
        exact ⟨Nat.le_refl l, by show l < l + (f + 1); omega, by show p + l ≤ 8 * n; omega⟩
      · rw [sdF_n (by omega) d] at h
        have := ih (l + 1) r h
        omega
theorem sdR_ok {T : Nat → Int} {n p : Nat} {L : Nat → Nat} {N s q : Nat} (h : sdR T n p L N = some (s, q)) : p < q ∧ q ≤ p + 15 ∧ q ≤ 8 * n := by
  unfold sdR at h
  cases e : sdF T n p L N 15 1 with
  | none => rw [e] at h; cases h
  | some r =>
    rw [e] at h
    have := sdF_ok 15 1 r e
    cases h
    omega
theorem sdR_out {T : Nat → Int} {n p : Nat} {L : Nat → Nat} {N : Nat} (h : 8 * n ≤ p) : sdR T n p L N = none := by
  unfold sdR
  rw [sdF_out (by omega)]
noncomputable def putT (o : Nat → Int) (m : Nat) (b : Int) : Nat → Int := fun i => if i = m then b else o i
noncomputable def cpB : Nat → (Nat → Int) → Nat → Nat → Option ((Nat → Int) × Nat)
  | 0, o, m, _ => some (o, m)
  | k + 1, o, m, d => if 6000 ≤ m then none else cpB k (putT o m (o (m - d))) (m + 1) d
/-- one part: none: a fault; true: the block's end -/
noncomputable def stM (T : Nat → Int) (n : Nat) (LD : Nat → Nat) (ND q k : Nat) (o : Nat → Int) (m : Nat) : Option (Nat × (Nat → Int) × Nat) := match sdR T n (q + LEf k) LD ND with
  | none => none
  | some (d, r) => if 29 < d then none
    else if 8 * n < r + DEf d then none
    else if m < DBf d + vB T r (DEf d) then none
    else match cpB (LBf k + vB T q (LEf k)) o m (DBf d + vB T r (DEf d)) with
      | none => none
      | some (o2, m2) => some (r + DEf d, o2, m2)
noncomputable def stP (T : Nat → Int) (n : Nat) (L1 : Nat → Nat) (N1 : Nat) (LD : Nat → Nat) (ND p : Nat) (o : Nat → Int) (m : Nat) : Option (Bool × Nat × (Nat → Int) × Nat) := match sdR T n p L1 N1 with
  | none => none
  | some (s, q) => if s = 256 then some (true, q, o, m)
    else if s < 256 then (if 6000 ≤ m then none else some (false, q, putT o m s, m + 1))
    else if 285 < s then none
    else if 8 * n < q + LEf (s - 257) then none
    else match stM T n LD ND q (s - 257) o m with
      | none => none
      | some r => some (false, r)
theorem stM_ok {T : Nat → Int} {n : Nat} {LD : Nat → Nat} {ND q k : Nat} {o : Nat → Int} {m : Nat} {r : Nat × (Nat → Int) × Nat} (h : stM T n LD ND q k o m = some r) : q < r.1 ∧ r.1 ≤ 8 * n := by
  unfold stM at h
  cases e2 : sdR T n (q + LEf k) LD ND with
  | none => rw [e2] at h; cases h
  | some w =>
    obtain ⟨d, r2⟩ := w
    rw [e2] at h
    have hr := sdR_ok e2
    have h2 : (if 29 < d then none else if 8 * n < r2 + DEf d then none else if m < DBf d + vB T r2 (DEf d) then none else (match cpB (LBf k + vB T q (LEf k)) o m (DBf d + vB T r2 (DEf d)) with
      | none => none
      | some (o2, m2) => some (r2 + DEf d, o2, m2))) = some r := h
    by_cases c1 : 29 < d
    · rw [if_pos c1] at h2; cases h2
    · rw [if_neg c1] at h2
      by_cases c2 : 8 * n < r2 + DEf d
      · rw [if_pos c2] at h2; cases h2
      · rw [if_neg c2] at h2
        by_cases c3 : m < DBf d + vB T r2 (DEf d)
        · rw [if_pos c3] at h2; cases h2
        · rw [if_neg c3] at h2
          cases e3 : cpB (LBf k + vB T q (LEf k)) o m (DBf d + vB T r2 (DEf d)) with
          | none => rw [e3] at h2; cases h2
          | some w2 =>
            rw [e3] at h2
            cases h2
            show q < r2 + DEf d ∧ r2 + DEf d ≤ 8 * n
            omega
theorem stP_ok {T : Nat → Int} {n : Nat} {L1 : Nat → Nat} {N1 : Nat} {LD : Nat → Nat} {ND p : Nat} {o : Nat → Int} {m : Nat} {b : Bool} {r : Nat × (Nat → Int) × Nat} (h : stP T n L1 N1 LD ND p o m = some (b, r)) : p < r.1 ∧ r.1 ≤ 8 * n := by
  unfold stP at h
  cases e2 : sdR T n p L1 N1 with
  | none => rw [e2] at h; cases h
  | some w =>
    obtain ⟨s, q⟩ := w
    rw [e2] at h
    have hq := sdR_ok e2
    have h2 : (if s = 256 then some (true, q, o, m) else if s < 256 then (if 6000 ≤ m then none else some (false, q, putT o m s, m + 1)) else if 285 < s then none else if 8 * n < q + LEf (s - 257) then none else (match stM T n LD ND q (s - 257) o m with
      | none => none
      | some r => some (false, r))) = some (b, r) := h
    by_cases c1 : s = 256
    · rw [if_pos c1] at h2; cases h2; show p < q ∧ q ≤ 8 * n; omega
    · rw [if_neg c1] at h2
      by_cases c2 : s < 256
      · rw [if_pos c2] at h2
        by_cases c3 : 6000 ≤ m
        · rw [if_pos c3] at h2; cases h2
        · rw [if_neg c3] at h2; cases h2; show p < q ∧ q ≤ 8 * n; omega
      · rw [if_neg c2] at h2
        by_cases c3 : 285 < s
        · rw [if_pos c3] at h2; cases h2
        · rw [if_neg c3] at h2
          by_cases c4 : 8 * n < q + LEf (s - 257)
          · rw [if_pos c4] at h2; cases h2
          · rw [if_neg c4] at h2
            cases e3 : stM T n LD ND q (s - 257) o m with
            | none => rw [e3] at h2; cases h2
            | some w2 =>
              rw [e3] at h2
              cases h2
              have := stM_ok e3
              omega
theorem stP_out {T : Nat → Int} {n : Nat} {L1 : Nat → Nat} {N1 : Nat} {LD : Nat → Nat} {ND p : Nat} {o : Nat → Int} {m : Nat} (h : 8 * n ≤ p) : stP T n L1 N1 LD ND p o m = none := by
  unfold stP
  rw [sdR_out h]
/-- the parts of a block: from p on, with m bytes of o put so far -/
noncomputable def upP (T : Nat → Int) (n : Nat) (L1 : Nat → Nat) (N1 : Nat) (LD : Nat → Nat) (ND : Nat) : Nat → Nat → (Nat → Int) → Nat → Option (Nat × (Nat → Int) × Nat)
  | 0, _, _, _ => none
  | F + 1, p, o, m => match stP T n L1 N1 LD ND p o m with
    | none => none
    | some (true, r) => some r
    | some (false, r) => upP T n L1 N1 LD ND F r.1 r.2.1 r.2.2
theorem upP_fuel {T : Nat → Int} {n : Nat} {L1 : Nat → Nat} {N1 : Nat} {LD : Nat → Nat} {ND : Nat} : ∀ F F' p o m, 8 * n ≤ F + p → 8 * n ≤ F' + p → upP T n L1 N1 LD ND F p o m = upP T n L1 N1 LD ND F' p o m := by
  intro F
  induction F with
  | zero =>
    intro F' p o m h h'
    cases F' with
    | zero => rfl
    | succ F' =>
      unfold upP
      rw [stP_out (by omega)]
  | succ F ih =>
    intro F' p o m h h'
    cases F' with
    | zero =>
      unfold upP
      rw [stP_out (by omega)]
    | succ F' =>
      unfold upP
      cases e : stP T n L1 N1 LD ND p o m with
      | none => rfl
      | some r =>
        obtain ⟨b, r⟩ := r
        have hq := stP_ok e
        cases b with
        | true => rfl
        | false => exact ih F' r.1 r.2.1 r.2.2 (by omega) (by omega)
/-! the bits written by the model -/
def mst (f : Nat → Int32) (b : Int) (s : Nat × Nat) : Prop := b = (s.2 : Nat) ∧ s.1 < 2 ^ s.2 ∧ ∀ i : Nat, 8 * i < s.2 → (f i).toInt % 256 = ((s.1 / 256 ^ i % 256 : Nat) : Int)
theorem n_low {v : Int} {k : Nat} (h : k < 16) : v / 2 ^ k % 2 = (((v % 65536).toNat / 2 ^ k % 2 : Nat) : Int) := by
  rw [← n_bit (by omega)]
  have e : v = v % 65536 + 2 ^ k * (2 * (2 ^ (15 - k) * (v / 65536))) := by
    have e1 : (65536 : Int) = 2 ^ k * (2 * 2 ^ (15 - k)) := by
      have e2 : (65536 : Int) = 2 ^ (k + (1 + (15 - k))) := by rw [show k + (1 + (15 - k)) = 16 by omega]; rfl
      rw [e2, Int.pow_add, Int.pow_add]
      rfl
    have e3 := Int.emod_add_mul_ediv v 65536
    have e4 : ∀ q : Int, 2 ^ k * (2 * (2 ^ (15 - k) * q)) = 65536 * q := fun q => by
      rw [e1, Int.mul_assoc, Int.mul_assoc]
    rw [e4]
    omega
  have hp : (2 : Int) ^ k ≠ 0 := by
    rw [n_pow]
    have := Nat.pow_pos (n := k) (show 0 < 2 by decide)
    omega
  conv => lhs; rw [e]
  rw [Int.add_mul_ediv_left _ _ hp, Int.add_mul_emod_self_left]
theorem mst_bit {f g : Nat → Int32} {b bit b2 : Int} {s : Nat × Nat} {i j : Nat} (A : mst f b s) (hb : bit = 0 ∨ bit = 1) (hi : i = s.2 / 8) (hj : j = s.2 % 8) (h1 : (g i).toInt % 256 = (if j = 0 then 0 else (f i).toInt % 256) + bit * 2 ^ j) (h2 : ∀ k, k ≠ i → g k = f k) (hb2 : b2 = b + 1) : mst g b2 (wr s bit.toNat 1) := by
  obtain ⟨a1, a2, a3⟩ := A
  have hs : s.2 = 8 * i + j := by omega
  have hbn : bit.toNat < 2 ^ 1 := by rcases hb with z | z <;> subst z <;> decide
  refine ⟨by show b2 = ((s.2 + 1 : Nat) : Int); omega, wr_ok a2 hbn, fun k hk => ?_⟩
  have hk2 : 8 * k < s.2 + 1 := hk
  show (g k).toInt % 256 = (((s.1 + bit.toNat * 2 ^ s.2) / 256 ^ k % 256 : Nat) : Int)
  by_cases q : k = i
  · subst q
    have hh := wr_held (V := s.1) (z := k) (b := j) (by rw [← hs]; exact a2)
    have hj7 : (2 : Nat) ^ j ≤ 2 ^ 7 := Nat.pow_le_pow_right (by decide) (by omega)
    rw [h1]
    have e : (s.1 + bit.toNat * 2 ^ s.2) / 256 ^ k = s.1 / 256 ^ k + bit.toNat * 2 ^ j := by
      conv => lhs; rw [hs]
      exact wr_hi
    rw [e]
    have e2 : bit * 2 ^ j = ((bit.toNat * 2 ^ j : Nat) : Int) := by
      rw [n_pow, Int.natCast_mul, Int.toNat_of_nonneg (by omega)]
    have e3 : bit.toNat * 2 ^ j ≤ 2 ^ j := by
      rcases hb with z | z <;> subst z
      · rw [show Int.toNat 0 = 0 from rfl, Nat.zero_mul]; exact Nat.zero_le _
      · rw [show Int.toNat 1 = 1 from rfl, Nat.one_mul]; exact Nat.le_refl _
    have a4 := a3 k
    rw [e2]
    clear e e2 a3 h2
    generalize bit.toNat * 2 ^ j = B at *
    generalize s.1 / 256 ^ k = Q at *
    by_cases c : j = 0
    · subst c
      rw [if_pos rfl]
      have : (2 : Nat) ^ 0 = 1 := rfl
      omega
    · rw [if_neg c, a4 (by omega)]
      omega
  · rw [h2 k q, wr_lo (by omega)]
    exact a3 k (by omega)
theorem mst_next {f : Nat → Int32} {b : Int} {s : Nat × Nat} {w k m : Nat} {bit : Int} (A : mst f b (wr (wr s (w % 2 ^ k) k) bit.toNat 1)) (hb : bit = ((w / 2 ^ k % 2 : Nat) : Int)) (hm : m = k + 1) : mst f b (wr s (w % 2 ^ m) m) := by
  subst hm
  rw [← wr_bit]
  rw [show bit.toNat = w / 2 ^ k % 2 by omega] at A
  exact A
theorem mst_0 {f : Nat → Int32} {b : Int} {s : Nat × Nat} {w k : Nat} (A : mst f b s) (hk : k = 0) : mst f b (wr s (w % 2 ^ k) k) := by
  subst hk
  rw [Nat.pow_zero, Nat.mod_one, wr_0]
  exact A
/-- the byte at hand has its low bits alone -/
theorem mst_cur {f : Nat → Int32} {b : Int} {s : Nat × Nat} {i j : Nat} (A : mst f b s) (hi : i = s.2 / 8) (hj : j = s.2 % 8) (h : j ≠ 0) (hr : -128 ≤ (f i).toInt ∧ (f i).toInt ≤ 127) : 0 ≤ (f i).toInt ∧ (f i).toInt < 2 ^ j := by
  obtain ⟨a1, a2, a3⟩ := A
  have hs : s.2 = 8 * i + j := by omega
  have hh := wr_held (V := s.1) (z := i) (b := j) (by rw [← hs]; exact a2)
  have hj7 : (2 : Nat) ^ j ≤ 2 ^ 7 := Nat.pow_le_pow_right (by decide) (by omega)
  have h4 := a3 i (by omega)
  clear a3
  rw [n_pow]
  generalize s.1 / 256 ^ i = Q at *
  omega
/-- z and a bit above it -/
theorem n_setbit {z b sh w x : Int32} {j : Nat} (hz : 0 ≤ z.toInt ∧ z.toInt < 2 ^ j) (hb : b.toInt = 0 ∨ b.toInt = 1) (hs : sh.toInt = j) (hj : j < 8) (gw : w = b <<< (sh &&& 31)) (gx : x = z ||| w) : x.toInt = z.toInt + b.toInt * 2 ^ j ∧ 0 ≤ b.toInt * 2 ^ j ∧ x.toInt ≤ 255 := by
  have p1 : (2 : Int) ^ j ≤ 2 ^ 7 := z_pow_le (by omega)
  have p2 := mulB (x := b.toInt) (y := 2 ^ j) (a := 1) (b := 128) (c := 128) ⟨by omega, by omega⟩ ⟨by omega, by omega⟩ (by decide)
  have hw : w.toInt = b.toInt * 2 ^ j := n_shl (n := j) hs (by omega) (by omega) (by omega) gw
  have hx : x.toInt = w.toInt + z.toInt := n_or (n := j) (a := b.toInt) hw (by omega) hz (by omega) (by rw [gx, Int32.or_comm])
  omega
/-! the row of lengths, in the rows of both -/
theorem rnI_s {f : Nat → Int32} {a n v i j x : Int} {z : Int32} (A : ∀ k : Nat, (k : Int) < i → a.toNat + k < n.toNat ∧ nL f (a.toNat + k) = v.toNat) (ha : 0 ≤ a) (hi : 0 ≤ i) (hx : x = a + i) (hn : x < n) (ez : f x.toNat = z) (hz : z.toInt = v) (hj : j = i + 1) : ∀ k : Nat, (k : Int) < j → a.toNat + k < n.toNat ∧ nL f (a.toNat + k) = v.toNat := fun k hk => by
  by_cases q : (k : Int) < i
  · exact A k q
  · have e : a.toNat + k = x.toNat := by omega
    refine ⟨by omega, ?_⟩
    rw [e]
    show (f x.toNat).toInt.toNat = v.toNat
    rw [ez, hz]
theorem rnI_e {f : Nat → Int32} {a n v i m x : Int} {z : Int32} (A : ∀ k : Nat, (k : Int) < i → a.toNat + k < n.toNat ∧ nL f (a.toNat + k) = v.toNat) (ha : 0 ≤ a) (hi : 0 ≤ i ∧ i ≤ m) (hx : x = a + i) (h : i = m ∨ n ≤ x ∨ (f x.toNat = z ∧ z.toInt ≠ v ∧ 0 ≤ z.toInt ∧ 0 ≤ v)) : i = (rn (nL f) n.toNat a.toNat v.toNat m.toNat : Nat) := by
  rw [rn_is (s := i.toNat) (by omega) (fun j hj => A j (by omega)) (fun hlt q => ?_)]
  · omega
  · have e : a.toNat + i.toNat = x.toNat := by omega
    rcases h with h | h | h
    · omega
    · omega
    · have q2 := q.2
      rw [e] at q2
      have q3 : (f x.toNat).toInt.toNat = v.toNat := q2
      rw [h.1] at q3
      omega
/-- the symbols told so far: rows of symbols, of extras -/
def teI (s x : Nat → Int32) (f : Nat → Nat) (N c : Nat) : Prop := ∀ i, i < c → (s i).toInt = (tS f N i : Nat) ∧ (x i).toInt = (tX f N i : Nat)
theorem teI_0 (s x : Nat → Int32) (f : Nat → Nat) (N : Nat) : teI s x f N 0 := fun i hi => by omega
theorem teI_s {s x s2 x2 : Nat → Int32} {f : Nat → Nat} {N c m : Nat} {a b : Int} (A : teI s x f N c) (h1 : (s2 c).toInt = a) (h2 : (x2 c).toInt = b) (g1 : ∀ k, k ≠ c → s2 k = s k) (g2 : ∀ k, k ≠ c → x2 k = x k) (ha : a = (tS f N c : Nat)) (hb : b = (tX f N c : Nat)) (hm : m = c + 1) : teI s2 x2 f N m := fun i hi => by
  subst hm
  by_cases e : i = c
  · subst e; rw [h1, h2]; exact ⟨ha, hb⟩
  · rw [g1 i e, g2 i e]; exact A i (by omega)
def ltT (f : Nat → Nat) (N c : Nat) : Prop := ∀ j, j < c → tp f N j < N
theorem ltT_0 (f : Nat → Nat) (N : Nat) : ltT f N 0 := fun j hj => by omega
theorem ltT_s {f : Nat → Nat} {N c m : Nat} (A : ltT f N c) (h : tp f N c < N) (hm : m = c + 1) : ltT f N m := fun j hj => by
  subst hm
  by_cases e : j = c
  · subst e; exact h
  · exact A j (by omega)
theorem tp_k {f : Nat → Nat} {N : Nat} (hf : ∀ j, j < N → f j ≤ 15) : ∀ c, ltT f N c → c ≤ tp f N c ∧ tp f N c ≤ N := by
  intro c
  induction c with
  | zero => intro _; exact ⟨Nat.le_refl 0, Nat.zero_le N⟩
  | succ c ih =>
    intro h
    have a := ih (fun j hj => h j (by omega))
    have b := tk_ok (h c (by omega)) hf
    show c + 1 ≤ tp f N c + (tk f N (tp f N c)).2.2 ∧ tp f N c + (tk f N (tp f N c)).2.2 ≤ N
    omega
theorem tC_y (f : Nat → Nat) (N i : Nat) : tC f N (i + 1) (tS f N i) = tC f N i (tS f N i) + 1 := by
  show tC f N i _ + (if tS f N i = tS f N i then 1 else 0) = _
  rw [if_pos rfl]
theorem tC_n {f : Nat → Nat} {N i s : Nat} (h : s ≠ tS f N i) : tC f N (i + 1) s = tC f N i s := by
  show tC f N i s + (if tS f N i = s then 1 else 0) = _
  rw [if_neg (fun q => h q.symm), Nat.add_zero]
theorem tC_le (f : Nat → Nat) (N : Nat) : ∀ i s, tC f N i s ≤ i := by
  intro i
  induction i with
  | zero => intro s; exact Nat.le_refl 0
  | succ i ih =>
    intro s
    have := ih s
    show tC f N i s + (if tS f N i = s then 1 else 0) ≤ i + 1
    split <;> omega
theorem OR_lt (k : Nat) : ORf k < 19 := by
  by_cases h : k < 19
  · revert k; decide
  · unfold ORf
    rw [List.getD_eq_getElem?_getD, List.getElem?_eq_none (by show 19 ≤ k; omega)]
    decide
/-- the extra bits of a symbol of the alphabet -/
noncomputable def rEf (y : Nat) : Nat := if 16 ≤ y ∧ y < 19 then REf (y - 16) else 0
theorem REf_v {y : Nat} (h : 16 ≤ y ∧ y ≤ 18) : rEf y = if y = 16 then 2 else if y = 17 then 3 else 7 := by
  rcases (by omega : y = 16 ∨ y = 17 ∨ y = 18) with q | q | q <;> subst q <;> rfl
theorem p3_eq {a b c a' b' c' : Nat} (h1 : a = a') (h2 : b = b') (h3 : c = c') : (a, b, c) = (a', b', c') := by
  subst h1; subst h2; subst h3; rfl
theorem pw0 (n : Nat) : (0 : Int) < 2 ^ n := by
  rw [n_pow]
  have := Nat.pow_pos (n := n) (show 0 < 2 by decide)
  omega
/-! the bits of a head, of STORED bytes -/
noncomputable def oS (LA : Nat → Nat) (s : Nat × Nat) : Nat → Nat × Nat
  | 0 => s
  | i + 1 => wr (oS LA s i) (LA (ORf i)) 3
noncomputable def sS (wa LA f : Nat → Nat) (N : Nat) (s : Nat × Nat) : Nat → Nat × Nat
  | 0 => s
  | i + 1 => wr (wr (sS wa LA f N s i) (wa (tS f N i)) (LA (tS f N i))) (tX f N i) (rEf (tS f N i))
noncomputable def hdS (nl nd od : Nat) (s : Nat × Nat) : Nat × Nat := wr (wr (wr s (nl - 257) 5) (nd - 1) 5) (od - 4) 4
noncomputable def bS (T : Nat → Int) (p : Nat) (s : Nat × Nat) : Nat → Nat × Nat
  | 0 => s
  | i + 1 => wr (bS T p s i) (T (p + i)).toNat 8
theorem oS_2 (LA : Nat → Nat) (s : Nat × Nat) : ∀ i, (oS LA s i).2 = s.2 + 3 * i := by
  intro i
  induction i with
  | zero => rfl
  | succ i ih =>
    show (oS LA s i).2 + 3 = _
    omega
theorem bS_2 (T : Nat → Int) (p : Nat) (s : Nat × Nat) : ∀ i, (bS T p s i).2 = s.2 + 8 * i := by
  intro i
  induction i with
  | zero => rfl
  | succ i ih =>
    show (bS T p s i).2 + 8 = _
    omega
theorem sS_2 (wa LA f : Nat → Nat) (N : Nat) (s : Nat × Nat) : ∀ i, (sS wa LA f N s i).2 = s.2 + sN (fun k => LA (tS f N k) + rEf (tS f N k)) i := by
  intro i
  induction i with
  | zero => rfl
  | succ i ih =>
    show (sS wa LA f N s i).2 + LA (tS f N i) + rEf (tS f N i) = s.2 + (sN (fun k => LA (tS f N k) + rEf (tS f N k)) i + (LA (tS f N i) + rEf (tS f N i)))
    omega
theorem tC_sum {f : Nat → Nat} {N : Nat} (g : Nat → Nat) : ∀ i, (∀ k, k < i → tS f N k < 19) → sN (fun s => tC f N i s * g s) 19 = sN (fun k => g (tS f N k)) i := by
  intro i
  induction i with
  | zero =>
    intro _
    have z : ∀ n, sN (fun s => tC f N 0 s * g s) n = 0 := by
      intro n
      induction n with
      | zero => rfl
      | succ n ih => show sN (fun s => tC f N 0 s * g s) n + 0 * g n = 0; omega
    exact z 19
  | succ i ih =>
    intro h
    have e := ih (fun k hk => h k (by omega))
    have u := sN_up (f := fun s => tC f N i s * g s) (g := fun s => tC f N (i + 1) s * g s) (a := tS f N i) (d := g (tS f N i)) 19 (h i (by omega)) (by
      show tC f N (i + 1) (tS f N i) * g _ = _
      rw [tC_y, Nat.add_mul, Nat.one_mul]) (fun k hk => by
      show tC f N (i + 1) k * g k = _
      rw [tC_n hk])
    rw [u, e]
    rfl

