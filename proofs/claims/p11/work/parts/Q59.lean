/-! all blocks of the model -/
theorem bn_b {c b k : Nat} (h : bnP c b) (hk : k < b) (hc : c ≤ 6000) : 600 * k ≤ c ∧ 600 * k + blJ c k ≤ c ∧ blJ c k ≤ 600 ∧ k ≤ 9 := by unfold bnP at h; unfold blJ; omega
theorem bn_e {c b k : Nat} (h : bnP c b) (hk : k < b) (he : c ≤ 600 * k + blJ c k) : k + 1 = b := by unfold bnP at h; unfold blJ at he; omega
theorem bn_n {c b k : Nat} (h : bnP c b) (hk : k < b) (he : 600 * k + blJ c k < c) : k + 1 < b ∧ blJ c k = 600 := by unfold bnP at h; unfold blJ at he; unfold blJ; omega
theorem bn_0 (c : Nat) : bnP c (if c = 0 then 1 else (c + 599) / 600) ∧ 0 < (if c = 0 then 1 else (c + 599) / 600) := by
  unfold bnP
  split <;> omega
theorem bl_t {c k : Nat} (h : 600 * k + 600 ≤ c) : blJ c k = 600 := by unfold blJ; omega
theorem bl_e {c k : Nat} (h : c ≤ 600 * k + 600) (h2 : 600 * k ≤ c) : 600 * k + blJ c k = c := by unfold blJ; omega
theorem bY_n {T : Nat → Int} {n c a j : Nat} (hT : ∀ i, i < n → 0 ≤ T i ∧ T i ≤ 255) (h : ltP T n c) (hk : a + j < c) : bY (aM T n) (dI T n) a (j + 1) = bY (aM T n) (dI T n) a j + ptS T n (ptP T n (a + j)) ∧ ptS T n (ptP T n (a + j)) ≤ 258 := by
  have hrg := pk_rng hT h hk
  show bY (aM T n) (dI T n) a j + (if dI T n (a + j) = 0 then 1 else aM T n (a + j)) = _ ∧ _
  rcases hrg with q | q
  · rw [if_pos q.1]; omega
  · rw [if_neg (by omega)]; omega
/-! the tape below its end alone -/
section CGR
variable {T T' : Nat → Int} {n : Nat}
theorem bitT_g (h : ∀ i, i < n → T i = T' i) {j : Nat} (hj : j < 8 * n) : bitT T j = bitT T' j := by
  unfold bitT
  rw [h (j / 8) (by omega)]
theorem vB_g (h : ∀ i, i < n → T i = T' i) {p : Nat} : ∀ k, p + k ≤ 8 * n → vB T p k = vB T' p k := by
  intro k
  induction k with
  | zero => intro _; rfl
  | succ k ih =>
    intro hk
    show vB T p k + bitT T (p + k) * 2 ^ k = vB T' p k + bitT T' (p + k) * 2 ^ k
    rw [ih (by omega), bitT_g h (by omega)]
theorem cdV_g (h : ∀ i, i < n → T i = T' i) {p : Nat} : ∀ k, p + k ≤ 8 * n → cdV T p k = cdV T' p k := by
  intro k
  induction k with
  | zero => intro _; rfl
  | succ k ih =>
    intro hk
    show 2 * cdV T p k + bitT T (p + k) = 2 * cdV T' p k + bitT T' (p + k)
    rw [ih (by omega), bitT_g h (by omega)]
theorem sdF_g (h : ∀ i, i < n → T i = T' i) {p : Nat} {L : Nat → Nat} {N : Nat} : ∀ f l, sdF T n p L N f l = sdF T' n p L N f l := by
  intro f
  induction f with
  | zero => intro l; rfl
  | succ f ih =>
    intro l
    show (if 8 * n < p + l then none else if cdV T p l < ncN L N l + ctN L l N then some (l, cdV T p l - ncN L N l) else sdF T n p L N f (l + 1)) = (if 8 * n < p + l then none else if cdV T' p l < ncN L N l + ctN L l N then some (l, cdV T' p l - ncN L N l) else sdF T' n p L N f (l + 1))
    by_cases c : 8 * n < p + l
    · rw [if_pos c, if_pos c]
    · rw [if_neg c, if_neg c, cdV_g h l (by omega), ih]
theorem sdR_g (h : ∀ i, i < n → T i = T' i) {p : Nat} {L : Nat → Nat} {N : Nat} : sdR T n p L N = sdR T' n p L N := by
  unfold sdR
  rw [sdF_g h]
theorem stM_g (h : ∀ i, i < n → T i = T' i) {LD : Nat → Nat} {ND q k : Nat} {o : Nat → Int} {m : Nat} (hq : q + LEf k ≤ 8 * n) : stM T n LD ND q k o m = stM T' n LD ND q k o m := by
  unfold stM
  rw [sdR_g h]
  cases hs : sdR T' n (q + LEf k) LD ND with
  | none => rfl
  | some w =>
    obtain ⟨d, r⟩ := w
    show (if 29 < d then none else if 8 * n < r + DEf d then none else if m < DBf d + vB T r (DEf d) then none else match cpB (LBf k + vB T q (LEf k)) o m (DBf d + vB T r (DEf d)) with | none => none | some (o2, m2) => some (r + DEf d, o2, m2)) = (if 29 < d then none else if 8 * n < r + DEf d then none else if m < DBf d + vB T' r (DEf d) then none else match cpB (LBf k + vB T' q (LEf k)) o m (DBf d + vB T' r (DEf d)) with | none => none | some (o2, m2) => some (r + DEf d, o2, m2))
    by_cases c : 8 * n < r + DEf d
    · rw [if_pos c, if_pos c]
    · rw [vB_g h _ hq, vB_g h (DEf d) (by omega)]
theorem stP_g (h : ∀ i, i < n → T i = T' i) {L1 : Nat → Nat} {N1 : Nat} {LD : Nat → Nat} {ND p : Nat} {o : Nat → Int} {m : Nat} : stP T n L1 N1 LD ND p o m = stP T' n L1 N1 LD ND p o m := by
  unfold stP
  rw [sdR_g h]
  cases hs : sdR T' n p L1 N1 with
  | none => rfl
  | some w =>
    obtain ⟨s, q⟩ := w
    show (if s = 256 then some (true, q, o, m) else if s < 256 then (if 6000 ≤ m then none else some (false, q, putT o m s, m + 1)) else if 285 < s then none else if 8 * n < q + LEf (s - 257) then none else match stM T n LD ND q (s - 257) o m with | none => none | some r => some (false, r)) = (if s = 256 then some (true, q, o, m) else if s < 256 then (if 6000 ≤ m then none else some (false, q, putT o m s, m + 1)) else if 285 < s then none else if 8 * n < q + LEf (s - 257) then none else match stM T' n LD ND q (s - 257) o m with | none => none | some r => some (false, r))
    by_cases c : 8 * n < q + LEf (s - 257)
    · rw [if_pos c, if_pos c]
    · rw [stM_g h (by omega)]
theorem upP_cg (h : ∀ i, i < n → T i = T' i) {L1 : Nat → Nat} {N1 : Nat} {LD : Nat → Nat} {ND : Nat} : ∀ F p o m, upP T n L1 N1 LD ND F p o m = upP T' n L1 N1 LD ND F p o m := by
  intro F
  induction F with
  | zero => intro p o m; rfl
  | succ F ih =>
    intro p o m
    unfold upP
    rw [stP_g h]
    cases hs : stP T' n L1 N1 LD ND p o m with
    | none => rfl
    | some w =>
      obtain ⟨b, r⟩ := w
      cases b with
      | true => rfl
      | false => exact ih _ _ _
theorem cpS_g (h : ∀ i, i < n → T i = T' i) : ∀ k q o m, cpS T n k q o m = cpS T' n k q o m := by
  intro k
  induction k with
  | zero => intro q o m; rfl
  | succ k ih =>
    intro q o m
    show (if 8 * n < q + 8 then none else if 6000 ≤ m then none else cpS T n k (q + 8) (putT o m (vB T q 8 : Nat)) (m + 1)) = (if 8 * n < q + 8 then none else if 6000 ≤ m then none else cpS T' n k (q + 8) (putT o m (vB T' q 8 : Nat)) (m + 1))
    by_cases c : 8 * n < q + 8
    · rw [if_pos c, if_pos c]
    · rw [vB_g h 8 (by omega), ih]
theorem stS_g (h : ∀ i, i < n → T i = T' i) {p : Nat} {o : Nat → Int} {m : Nat} : stS T n p o m = stS T' n p o m := by
  unfold stS
  by_cases c : 8 * n < (p + 7) / 8 * 8 + 32
  · rw [if_pos c, if_pos c]
  · rw [if_neg c, if_neg c, vB_g h 16 (by omega), vB_g h 16 (by omega), cpS_g h]
theorem alF_g (h : ∀ i, i < n → T i = T' i) {p : Nat} : ∀ i, p + 3 * i ≤ 8 * n → alF T p i = alF T' p i := by
  intro i
  induction i with
  | zero => intro _; rfl
  | succ i ih =>
    intro hi
    funext k
    show (if k = ORf i then vB T (p + 3 * i) 3 else alF T p i k) = (if k = ORf i then vB T' (p + 3 * i) 3 else alF T' p i k)
    rw [vB_g h 3 (by omega), ih (by omega)]
theorem rwS_g (h : ∀ i, i < n → T i = T' i) {L : Nat → Nat} {N z p a : Nat} {r : Nat → Nat} : rwS T n L N z p a r = rwS T' n L N z p a r := by
  cases hs : sdR T' n p L N with
  | none => rw [rwS_0 (T := T') hs, rwS_0 ((sdR_g h).trans hs)]
  | some w =>
    obtain ⟨s, q⟩ := w
    rw [rwS_e (T := T') hs, rwS_e ((sdR_g h).trans hs)]
    by_cases c : 8 * n < q + REf (s - 16)
    · rw [if_pos c, if_pos c]
    · rw [vB_g h (REf (s - 16)) (by omega)]
theorem rwL_g (h : ∀ i, i < n → T i = T' i) {L : Nat → Nat} {N z : Nat} : ∀ F p a r, rwL T n L N z F p a r = rwL T' n L N z F p a r := by
  intro F
  induction F with
  | zero => intro p a r; rfl
  | succ F ih =>
    intro p a r
    unfold rwL
    rw [rwS_g h]
    by_cases c : z ≤ a
    · rw [if_pos c, if_pos c]
    · rw [if_neg c, if_neg c]
      cases hs : rwS T' n L N z p a r with
      | none => rfl
      | some w => exact ih _ _ _
theorem hd2_g (h : ∀ i, i < n → T i = T' i) {q nl nd i : Nat} : hd2 T n q nl nd i = hd2 T' n q nl nd i := by
  unfold hd2
  by_cases c : 8 * n < q + 3 * i
  · rw [if_pos c, if_pos c]
  · rw [if_neg c, if_neg c, alF_g h i (by omega), rwL_g h]
theorem hdU_g (h : ∀ i, i < n → T i = T' i) {p : Nat} : hdU T n p = hdU T' n p := by
  unfold hdU
  by_cases c : 8 * n < p + 14
  · rw [if_pos c, if_pos c]
  · rw [if_neg c, if_neg c, vB_g h 5 (by omega), vB_g h (p := p + 5) 5 (by omega), vB_g h (p := p + 10) 4 (by omega), hd2_g h]
theorem blU_g (h : ∀ i, i < n → T i = T' i) {p : Nat} {o : Nat → Int} {m : Nat} : blU T n p o m = blU T' n p o m := by
  unfold blU
  by_cases c : 8 * n < p + 3
  · rw [if_pos c, if_pos c]
  · rw [if_neg c, if_neg c, vB_g h (p := p + 1) 2 (by omega), stS_g h, upP_cg h, hdU_g h]
    by_cases c0 : vB T' (p + 1) 2 = 0
    · rw [if_pos c0, if_pos c0]
    · rw [if_neg c0, if_neg c0]
      by_cases c1 : vB T' (p + 1) 2 = 1
      · rw [if_pos c1, if_pos c1]
      · rw [if_neg c1, if_neg c1]
        by_cases c2 : vB T' (p + 1) 2 = 2
        · rw [if_pos c2, if_pos c2]
          cases hs : hdU T' n (p + 3) with
          | none => rfl
          | some w =>
            obtain ⟨q, L1, L2⟩ := w
            exact upP_cg h _ _ _ _
        · rw [if_neg c2, if_neg c2]
theorem unL_c (h : ∀ i, i < n → T i = T' i) : ∀ F p o m, unL T n F p o m = unL T' n F p o m := by
  intro F
  induction F with
  | zero => intro p o m; rfl
  | succ F ih =>
    intro p o m
    unfold unL
    rw [blU_g h]
    cases hs : blU T' n p o m with
    | none => rfl
    | some r =>
      have hk := blU_ok hs
      show (if bitT T p = 1 then some r.2 else unL T n F r.1 r.2.1 r.2.2) = (if bitT T' p = 1 then some r.2 else unL T' n F r.1 r.2.1 r.2.2)
      rw [bitT_g h (by omega), ih]
theorem lc_g (h : ∀ i, i < n → T i = T' i) {q p : Nat} (hq : q ≤ p) : ∀ m, p + m ≤ n → lc T q p m = lc T' q p m := by
  intro m
  induction m with
  | zero => intro _; rfl
  | succ m ih =>
    intro hm
    show (if lc T q p m = m ∧ T (q + m) = T (p + m) then m + 1 else lc T q p m) = (if lc T' q p m = m ∧ T' (q + m) = T' (p + m) then m + 1 else lc T' q p m)
    rw [ih (by omega), h (q + m) (by omega), h (p + m) (by omega)]
theorem bf_g {p m b : Nat} (h : ∀ q, q ≤ p → lc T q p m = lc T' q p m) : ∀ k, bf T p m b k = bf T' p m b k := by
  intro k
  induction k with
  | zero => rfl
  | succ k ih =>
    show (if (bf T p m b k).1 < lc T (p - (k + 1)) p m then (lc T (p - (k + 1)) p m, k + 1) else bf T p m b k) = (if (bf T' p m b k).1 < lc T' (p - (k + 1)) p m then (lc T' (p - (k + 1)) p m, k + 1) else bf T' p m b k)
    rw [ih, h (p - (k + 1)) (by omega)]
theorem mt_g (h : ∀ i, i < n → T i = T' i) (p : Nat) : mt T n p = mt T' n p := by
  unfold mt
  refine bf_g (fun q hq => ?_) _
  by_cases c : p ≤ n
  · exact lc_g h hq _ (by omega)
  · rw [show min 258 (n - p) = 0 by omega]
    rfl
theorem ptS_g (h : ∀ i, i < n → T i = T' i) (p : Nat) : ptS T n p = ptS T' n p := by
  unfold ptS mL
  rw [mt_g h, mt_g h]
theorem ptD_g (h : ∀ i, i < n → T i = T' i) (p : Nat) : ptD T n p = ptD T' n p := by
  unfold ptD mL mD
  rw [mt_g h, mt_g h]
theorem ptP_g (h : ∀ i, i < n → T i = T' i) : ∀ k, ptP T n k = ptP T' n k := by
  intro k
  induction k with
  | zero => rfl
  | succ k ih =>
    show ptP T n k + ptS T n (ptP T n k) = ptP T' n k + ptS T' n (ptP T' n k)
    rw [ih, ptS_g h]
theorem ltP_g (h : ∀ i, i < n → T i = T' i) {c : Nat} (A : ltP T n c) : ltP T' n c := fun j hj => by
  rw [← ptP_g h]
  exact A j hj
theorem pmI_g (h : ∀ i, i < n → T i = T' i) {M B Y K : Nat → Int32} {c : Nat} (L : ltP T n c) (A : pmI M B Y K T n c) : pmI M B Y K T' n c := fun k hk => by
  obtain ⟨a1, a2, a3, a4⟩ := A k hk
  have hl := L k hk
  refine ⟨?_, ?_, ?_, a4⟩
  · rw [a1, ptP_g h, ptS_g h]
  · rw [a2]
    show ((ptD T n (ptP T n k) : Nat) : Int) = ((ptD T' n (ptP T' n k) : Nat) : Int)
    rw [ptP_g h, ptD_g h]
  · rw [a3, ← ptP_g h, h _ hl]
/-- how many parts -/
theorem pc_1 {c d : Nat} (h1 : ltP T n c) (h2 : ptP T n c = n) (h3 : ltP T n d) (h4 : ptP T n d = n) : c = d := by
  rcases Nat.lt_trichotomy c d with q | q | q
  · have := h3 c q; omega
  · exact q
  · have := h1 d q; omega
theorem bn_1 {c b d : Nat} (h1 : bnP c b) (h2 : bnP c d) : b = d := by unfold bnP at h1 h2; omega
end CGR
