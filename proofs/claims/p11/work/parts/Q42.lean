/-! a block told by the parts alone -/
def rcN (f : Nat → Nat) (N : Nat) : Nat → Nat
  | 0 => 0
  | i + 1 => if tp f N (rcN f N i) < N then rcN f N i + 1 else rcN f N i
theorem rc_is {f : Nat → Nat} {N c : Nat} (h1 : tp f N c = N) (h2 : ltT f N c) : ∀ m, rcN f N m = min m c := by
  intro m
  induction m with
  | zero => show 0 = _; omega
  | succ m ih =>
    show (if tp f N (rcN f N m) < N then rcN f N m + 1 else rcN f N m) = _
    rw [ih]
    by_cases q : m < c
    · rw [show min m c = m by omega, if_pos (h2 m q)]; omega
    · rw [show min m c = c by omega, if_neg (by omega)]; omega
noncomputable def rowC (L1 L2 : Nat → Nat) : Nat := rcN (rowF L1 L2) (rowM L1 L2) 400
theorem rowC_is {L1 L2 : Nat → Nat} {c : Nat} (h1 : tp (rowF L1 L2) (rowM L1 L2) c = rowM L1 L2) (h2 : ltT (rowF L1 L2) (rowM L1 L2) c) (hc : c ≤ 400) : c = rowC L1 L2 := by
  unfold rowC
  rw [rc_is h1 h2]
  omega
section BK
variable (T : Nat → Int) (n a j : Nat)
noncomputable def bkC : Nat → Nat := cL (aM T n) (dI T n) a j
noncomputable def bkD : Nat → Nat := cD (dI T n) a j
noncomputable def bkL : Nat → Nat := LNf (bkC T n a j) 286 15
noncomputable def bkE : Nat → Nat := LDx (bkD T n a j)
noncomputable def bkR : Nat := rowC (bkL T n a j) (bkE T n a j)
noncomputable def bkA : Nat → Nat := rowA (bkL T n a j) (bkE T n a j) (bkR T n a j)
noncomputable def bkO : Nat := rowO (bkL T n a j) (bkE T n a j) (bkR T n a j)
noncomputable def bkDY : Nat := 3 + hdB (bkL T n a j) (bkE T n a j) (bkR T n a j) + xB (aM T n) (dI T n) a j + sN (fun i => bkD T n a j i * LNf (bkD T n a j) 30 15 i) 30 + sN (fun i => bkC T n a j i * bkL T n a j i) 286
noncomputable def bkFX : Nat := 3 + xB (aM T n) (dI T n) a j + sN (fun i => bkC T n a j i * fxL i) 286 + sN (fun i => bkD T n a j i * fxD i) 30
noncomputable def bkY : Nat := bY (aM T n) (dI T n) a j
noncomputable def bkST (z : Nat) : Nat := 3 + (8 - (z + 3) % 8) % 8 + 32 + 8 * bkY T n a j
noncomputable def bkW (z : Nat) : Nat := if bkST T n a j z ≤ bkFX T n a j ∧ bkST T n a j z ≤ bkDY T n a j then 0 else if bkFX T n a j ≤ bkDY T n a j then 1 else 2
noncomputable def bkB (z : Nat) : Nat := if bkST T n a j z ≤ bkFX T n a j ∧ bkST T n a j z ≤ bkDY T n a j then bkST T n a j z else if bkFX T n a j ≤ bkDY T n a j then bkFX T n a j else bkDY T n a j
noncomputable def bk1 (l : Nat) (s : Nat × Nat) : Nat × Nat := wr (wr s l 1) (bkW T n a j s.2) 2
noncomputable def bkS0 (s1 : Nat × Nat) : Nat × Nat := bS T (ptP T n a) (wr (wr (s1.1, (s1.2 + 7) / 8 * 8) (bkY T n a j) 16) (65535 - bkY T n a j) 16) (bkY T n a j)
noncomputable def bkP (L E : Nat → Nat) (s : Nat × Nat) : Nat × Nat := wr (wps (aM T n) (dI T n) (cdN L 288) L (cdN E 288) E s a j) (cdN L 288 256) (L 256)
noncomputable def bkH (s1 : Nat × Nat) : Nat × Nat := sS (cdN (bkA T n a j) 288) (bkA T n a j) (rowF (bkL T n a j) (bkE T n a j)) (rowM (bkL T n a j) (bkE T n a j)) (oS (bkA T n a j) (hdS (tdM (bkL T n a j) 257 29) (tdM (bkE T n a j) 1 29) (bkO T n a j) s1) (bkO T n a j)) (bkR T n a j)
noncomputable def bkS (l : Nat) (s : Nat × Nat) : Nat × Nat := if bkW T n a j s.2 = 0 then bkS0 T n a j (bk1 T n a j l s) else if bkW T n a j s.2 = 1 then bkP T n a j fxL fxD (bk1 T n a j l s) else bkP T n a j (bkL T n a j) (bkE T n a j) (bkH T n a j (bk1 T n a j l s))
end BK
/-- the parts' words that agree where they are used -/
theorem wps_eq {am di wl wl' ll ll' wd wd' ld ld' : Nat → Nat} {s : Nat × Nat} {a : Nat} : ∀ j, (∀ i, i < j → wl (lSy am di (a + i)) = wl' (lSy am di (a + i)) ∧ ll (lSy am di (a + i)) = ll' (lSy am di (a + i)) ∧ (di (a + i) ≠ 0 → wd (kD (di (a + i))) = wd' (kD (di (a + i))) ∧ ld (kD (di (a + i))) = ld' (kD (di (a + i))))) → wps am di wl ll wd ld s a j = wps am di wl' ll' wd' ld' s a j := by
  intro j
  induction j with
  | zero => intro _; rfl
  | succ j ih =>
    intro h
    have h1 := ih (fun i hi => h i (by omega))
    have h2 := h j (by omega)
    show wpt am di wl ll wd ld (wps am di wl ll wd ld s a j) (a + j) = wpt am di wl' ll' wd' ld' (wps am di wl' ll' wd' ld' s a j) (a + j)
    rw [h1]
    unfold wpt
    unfold lSy at h2
    by_cases c : di (a + j) = 0
    · rw [if_pos c] at h2
      rw [if_pos c, if_pos c, h2.1, h2.2.1]
    · rw [if_neg c] at h2
      rw [if_neg c, if_neg c, h2.1, h2.2.1, (h2.2.2 c).1, (h2.2.2 c).2]
theorem oS_eq {LA LA' : Nat → Nat} {s : Nat × Nat} : ∀ c, (∀ i, i < c → LA (ORf i) = LA' (ORf i)) → oS LA s c = oS LA' s c := by
  intro c
  induction c with
  | zero => intro _; rfl
  | succ c ih =>
    intro h
    show wr (oS LA s c) (LA (ORf c)) 3 = wr (oS LA' s c) (LA' (ORf c)) 3
    rw [ih (fun i hi => h i (by omega)), h c (by omega)]
/-- how many bits -/
theorem bkP_2 {T : Nat → Int} {n c a j : Nat} {L E : Nat → Nat} {s : Nat × Nat} (hT : ∀ i, i < n → 0 ≤ T i ∧ T i ≤ 255) (h : ltP T n c) (hj : a + j ≤ c) : (bkP T n a j L E s).2 = s.2 + (xB (aM T n) (dI T n) a j + sN (fun i => bkC T n a j i * L i) 286 + sN (fun i => bkD T n a j i * E i) 30) := by
  have h1 := ib_sum (am := aM T n) (di := dI T n) (a := a) (j := j) L E (fun i hi => (lSy_lt hT h (k := a + i) (by omega)).1) (fun i hi => (lSy_lt hT h (k := a + i) (by omega)).2)
  have h2 := wps_2 (aM T n) (dI T n) (cdN L 288) L (cdN E 288) E s a j
  show (wps (aM T n) (dI T n) (cdN L 288) L (cdN E 288) E s a j).2 + L 256 = _
  rw [h2]
  unfold bkC bkD
  omega
theorem LD_sum (c : Nat → Nat) : sN (fun i => c i * LDx c i) 30 = sN (fun i => c i * LNf c 30 15 i) 30 := by
  by_cases h : sN c 30 = 0
  · refine sN_congr 30 (fun k hk => ?_)
    show c k * LDx c k = c k * LNf c 30 15 k
    rw [sN_0 30 h k hk, Nat.zero_mul, Nat.zero_mul]
  · refine sN_congr 30 (fun k hk => ?_)
    show c k * LDx c k = c k * LNf c 30 15 k
    unfold LDx
    rw [if_neg h]
theorem rE_sum (t : Nat → Nat) : sN (fun s => t s * rEf s) 19 = t 16 * 2 + t 17 * 3 + t 18 * 7 := by
  have z : ∀ n, n ≤ 16 → sN (fun s => t s * rEf s) n = 0 := by
    intro n
    induction n with
    | zero => intro _; rfl
    | succ n ih =>
      intro h
      show sN (fun s => t s * rEf s) n + t n * rEf n = 0
      rw [ih (by omega), show rEf n = 0 from if_neg (by omega)]
      omega
  show sN (fun s => t s * rEf s) 16 + t 16 * rEf 16 + t 17 * rEf 17 + t 18 * rEf 18 = _
  rw [z 16 (by omega)]
  have e1 : rEf 16 = 2 := rfl
  have e2 : rEf 17 = 3 := rfl
  have e3 : rEf 18 = 7 := rfl
  rw [e1, e2, e3]
  omega
theorem bkH_2 {T : Nat → Int} {n a j : Nat} {s : Nat × Nat} (ht : ∀ i, i < bkR T n a j → tS (rowF (bkL T n a j) (bkE T n a j)) (rowM (bkL T n a j) (bkE T n a j)) i < 19) : (bkH T n a j s).2 = s.2 + hdB (bkL T n a j) (bkE T n a j) (bkR T n a j) := by
  unfold bkH
  rw [sS_2, oS_2]
  have h1 := tC_sum (f := rowF (bkL T n a j) (bkE T n a j)) (N := rowM (bkL T n a j) (bkE T n a j)) (fun s => bkA T n a j s) (bkR T n a j) ht
  have h2 := tC_sum (f := rowF (bkL T n a j) (bkE T n a j)) (N := rowM (bkL T n a j) (bkE T n a j)) rEf (bkR T n a j) ht
  have h3 := rE_sum (tC (rowF (bkL T n a j) (bkE T n a j)) (rowM (bkL T n a j) (bkE T n a j)) (bkR T n a j))
  have h4 := sN_add (f := fun k => bkA T n a j (tS (rowF (bkL T n a j) (bkE T n a j)) (rowM (bkL T n a j) (bkE T n a j)) k)) (g := fun k => rEf (tS (rowF (bkL T n a j) (bkE T n a j)) (rowM (bkL T n a j) (bkE T n a j)) k)) (bkR T n a j)
  show s.2 + 5 + 5 + 4 + 3 * bkO T n a j + _ = _
  rw [h4, ← h1, ← h2, h3]
  unfold hdB bkO
  show _ = s.2 + (14 + 3 * rowO (bkL T n a j) (bkE T n a j) (bkR T n a j) + (tC (rowF (bkL T n a j) (bkE T n a j)) (rowM (bkL T n a j) (bkE T n a j)) (bkR T n a j) 16 * 2 + tC (rowF (bkL T n a j) (bkE T n a j)) (rowM (bkL T n a j) (bkE T n a j)) (bkR T n a j) 17 * 3 + tC (rowF (bkL T n a j) (bkE T n a j)) (rowM (bkL T n a j) (bkE T n a j)) (bkR T n a j) 18 * 7) + sN (fun k => tC (rowF (bkL T n a j) (bkE T n a j)) (rowM (bkL T n a j) (bkE T n a j)) (bkR T n a j) k * bkA T n a j k) 19)
  omega
theorem bkS_2 {T : Nat → Int} {n c a j l : Nat} {s : Nat × Nat} (hT : ∀ i, i < n → 0 ≤ T i ∧ T i ≤ 255) (h : ltP T n c) (hj : a + j ≤ c) (ht : ∀ i, i < bkR T n a j → tS (rowF (bkL T n a j) (bkE T n a j)) (rowM (bkL T n a j) (bkE T n a j)) i < 19) : (bkS T n a j l s).2 = s.2 + bkB T n a j s.2 := by
  have e1 : (bk1 T n a j l s).2 = s.2 + 3 := rfl
  by_cases c0 : bkST T n a j s.2 ≤ bkFX T n a j ∧ bkST T n a j s.2 ≤ bkDY T n a j
  · have w : bkW T n a j s.2 = 0 := if_pos c0
    unfold bkS bkB
    rw [if_pos w, if_pos c0]
    unfold bkS0
    rw [bS_2, wr_2, wr_2, e1]
    unfold bkST
    show (s.2 + 3 + 7) / 8 * 8 + 16 + 16 + 8 * bkY T n a j = _
    omega
  · by_cases c1 : bkFX T n a j ≤ bkDY T n a j
    · have w : bkW T n a j s.2 = 1 := (if_neg c0).trans (if_pos c1)
      unfold bkS bkB
      rw [if_neg (by omega), if_pos w, if_neg c0, if_pos c1, bkP_2 hT h hj, e1]
      unfold bkFX
      omega
    · have w : bkW T n a j s.2 = 2 := (if_neg c0).trans (if_neg c1)
      unfold bkS bkB
      rw [if_neg (by omega), if_neg (by omega), if_neg c0, if_neg c1, bkP_2 hT h hj, bkH_2 ht, e1]
      unfold bkDY
      have := LD_sum (bkD T n a j)
      unfold bkE
      omega
theorem bkB_le {T : Nat → Int} {n a j z : Nat} : bkB T n a j z ≤ 42 + 8 * bkY T n a j := by
  have h : bkST T n a j z ≤ 42 + 8 * bkY T n a j := by unfold bkST; omega
  unfold bkB
  by_cases c0 : bkST T n a j z ≤ bkFX T n a j ∧ bkST T n a j z ≤ bkDY T n a j
  · rw [if_pos c0]; exact h
  · rw [if_neg c0]
    by_cases c1 : bkFX T n a j ≤ bkDY T n a j
    · rw [if_pos c1]; omega
    · rw [if_neg c1]; omega
/-- all blocks: c parts, the first k blocks of b -/
noncomputable def pkS (T : Nat → Int) (n c b : Nat) : Nat → Nat × Nat
  | 0 => (0, 0)
  | k + 1 => bkS T n (600 * k) (min 600 (c - 600 * k)) (if k + 1 = b then 1 else 0) (pkS T n c b k)
/-! the class's block against the block told by the parts -/
theorem cL_pos (am di : Nat → Nat) (a : Nat) : ∀ j i, i < j → 1 ≤ cL am di a j (lSy am di (a + i)) := by
  intro j
  induction j with
  | zero => intro i h; omega
  | succ j ih =>
    intro i h
    show 1 ≤ cL am di a j (lSy am di (a + i)) + if lSy am di (a + j) = lSy am di (a + i) then 1 else 0
    by_cases e : i = j
    · subst e; rw [if_pos rfl]; omega
    · have := ih i (by omega); omega
theorem cD_pos (di : Nat → Nat) (a : Nat) : ∀ j i, i < j → di (a + i) ≠ 0 → 1 ≤ cD di a j (kD (di (a + i))) := by
  intro j
  induction j with
  | zero => intro i h; omega
  | succ j ih =>
    intro i h h0
    show 1 ≤ cD di a j (kD (di (a + i))) + if di (a + j) ≠ 0 ∧ kD (di (a + j)) = kD (di (a + i)) then 1 else 0
    by_cases e : i = j
    · subst e; rw [if_pos ⟨h0, rfl⟩]; omega
    · have := ih i (by omega) h0; omega
theorem row_eq {L1 L2 M1 M2 : Nat → Nat} {c : Nat} (h1 : ∀ k, k < 286 → L1 k = M1 k) (h2 : ∀ k, k < 30 → L2 k = M2 k) (A : ltT (rowF L1 L2) (rowM L1 L2) c) : (tdM L1 257 29 = tdM M1 257 29 ∧ tdM L2 1 29 = tdM M2 1 29 ∧ rowM L1 L2 = rowM M1 M2) ∧ (∀ i, i ≤ c → tp (rowF L1 L2) (rowM L1 L2) i = tp (rowF M1 M2) (rowM M1 M2) i) ∧ ltT (rowF M1 M2) (rowM M1 M2) c ∧ (∀ i, i < c → tS (rowF L1 L2) (rowM L1 L2) i = tS (rowF M1 M2) (rowM M1 M2) i ∧ tX (rowF L1 L2) (rowM L1 L2) i = tX (rowF M1 M2) (rowM M1 M2) i) ∧ tC (rowF L1 L2) (rowM L1 L2) c = tC (rowF M1 M2) (rowM M1 M2) c := by
  have a1 := tdM_rng L1 257 29
  have b1 := tdM_rng L2 1 29
  have e1 : tdM L1 257 29 = tdM M1 257 29 := tdM_congr 29 (fun k hk => h1 _ (by omega))
  have e2 : tdM L2 1 29 = tdM M2 1 29 := tdM_congr 29 (fun k hk => h2 _ (by omega))
  have e3 : rowM L1 L2 = rowM M1 M2 := by unfold rowM; rw [e1, e2]
  have hf : ∀ k, k < rowM L1 L2 → rowF L1 L2 k = rowF M1 M2 k := fun k hk => by
    unfold rowM at hk
    unfold rowF rwF
    rw [← e1]
    by_cases q : k < tdM L1 257 29
    · rw [if_pos q, if_pos q]; exact h1 k (by omega)
    · rw [if_neg q, if_neg q]; exact h2 _ (by omega)
  rw [← e3]
  exact ⟨⟨e1, e2, rfl⟩, tp_congr hf c A, ltT_congr hf A, fun i hi => tSX_congr hf A hi, funext fun s => tC_congr hf A c s (Nat.le_refl c)⟩
theorem row_A {L1 L2 M1 M2 : Nat → Nat} {c : Nat} (h1 : ∀ k, k < 286 → L1 k = M1 k) (h2 : ∀ k, k < 30 → L2 k = M2 k) (A : ltT (rowF L1 L2) (rowM L1 L2) c) : rowA L1 L2 c = rowA M1 M2 c ∧ rowO L1 L2 c = rowO M1 M2 c ∧ hdB L1 L2 c = hdB M1 M2 c := by
  have h := (row_eq h1 h2 A).2.2.2.2
  have ha : rowA L1 L2 c = rowA M1 M2 c := by unfold rowA; rw [h]
  have ho : rowO L1 L2 c = rowO M1 M2 c := by unfold rowO; rw [ha]
  refine ⟨ha, ho, ?_⟩
  unfold hdB
  rw [ho, h, ha]
theorem row_R {L1 L2 M1 M2 : Nat → Nat} {c : Nat} (h1 : ∀ k, k < 286 → L1 k = M1 k) (h2 : ∀ k, k < 30 → L2 k = M2 k) (A : ltT (rowF L1 L2) (rowM L1 L2) c) (B : tp (rowF L1 L2) (rowM L1 L2) c = rowM L1 L2) (hc : c ≤ 400) : c = rowC M1 M2 := by
  have h := row_eq h1 h2 A
  refine rowC_is ?_ h.2.2.1 hc
  rw [← h.2.1 c (Nat.le_refl c), B, h.1.2.2]
theorem sS_eq2 {wa wa' LA LA' f g : Nat → Nat} {N M : Nat} {s : Nat × Nat} : ∀ c, (∀ i, i < c → tS f N i = tS g M i ∧ tX f N i = tX g M i) → (∀ i, i < c → wa (tS g M i) = wa' (tS g M i) ∧ LA (tS g M i) = LA' (tS g M i)) → sS wa LA f N s c = sS wa' LA' g M s c := by
  intro c
  induction c with
  | zero => intro _ _; rfl
  | succ c ih =>
    intro h h2
    show wr (wr (sS wa LA f N s c) (wa (tS f N c)) (LA (tS f N c))) (tX f N c) (rEf (tS f N c)) = wr (wr (sS wa' LA' g M s c) (wa' (tS g M c)) (LA' (tS g M c))) (tX g M c) (rEf (tS g M c))
    rw [ih (fun i hi => h i (by omega)) (fun i hi => h2 i (by omega)), (h c (by omega)).1, (h c (by omega)).2, (h2 c (by omega)).1, (h2 c (by omega)).2]
/-- words -/
theorem wd_hW {f g : Nat → Int32} {N n : Nat} (A : wdI f (nL g) N n) : ∀ k, k < n → 1 ≤ nL g k → 0 ≤ (f k).toInt ∧ (f k).toInt < 2 ^ (g k).toInt.toNat := fun k hk h1 => by
  have h2 := A k hk h1
  have h3 := cdN_lt (nL g) N k
  rw [n_pow, h2]
  have h4 : nL g k = (g k).toInt.toNat := rfl
  rw [← h4]
  omega
theorem wd_nL {f g : Nat → Int32} {L : Nat → Nat} {N M n : Nat} (A : wdI f (nL g) N n) (hn : n ≤ N) (hM : n ≤ M) (h : ∀ k, k < n → nL g k = L k) (hc : ∀ l, l ≠ 0 → ctN (nL g) l N = ctN L l M) : ∀ k, k < n → 1 ≤ L k → nL f k = cdN L M k := fun k hk h1 => by
  have h2 := A k hk (by rw [h k hk]; exact h1)
  show (f k).toInt.toNat = _
  rw [h2, cdN_congr hc (fun j hj => h j (by omega))]
  omega
theorem bkP_cl {T : Nat → Int} {n c a j N M : Nat} {W1 L1 W2 L2 L E : Nat → Nat} {s : Nat × Nat} (hT : ∀ i, i < n → 0 ≤ T i ∧ T i ≤ 255) (h : ltP T n c) (hj : a + j ≤ c) (hL : ∀ k, k < 286 → L1 k = L k) (hW : ∀ k, k < 286 → 1 ≤ L k → W1 k = cdN L 288 k) (hE : ∀ k, k < 30 → L2 k = E k) (hV : ∀ k, k < 30 → 1 ≤ E k → W2 k = cdN E 288 k) (u1 : ∀ i, i < j → 1 ≤ L (lSy (aM T n) (dI T n) (a + i))) (u2 : ∀ i, i < j → dI T n (a + i) ≠ 0 → 1 ≤ E (kD (dI T n (a + i)))) (u3 : 1 ≤ L 256) : wr (wps (aM T n) (dI T n) W1 L1 W2 L2 s a j) (W1 256) (L1 256) = bkP T n a j L E s := by
  unfold bkP
  rw [hW 256 (by decide) u3, hL 256 (by decide), wps_eq j (fun i hi => ?_)]
  have h1 := lSy_lt hT h (k := a + i) (by omega)
  exact ⟨hW _ h1.1 (u1 i hi), hL _ h1.1, fun q => ⟨hV _ (h1.2 q) (u2 i hi q), hE _ (h1.2 q)⟩⟩
theorem fxL_1 (k : Nat) : 1 ≤ fxL k ∧ fxL k ≤ 15 := by
  unfold fxL
  by_cases c1 : k < 144
  · rw [if_pos c1]; decide
  · rw [if_neg c1]
    by_cases c2 : k < 256
    · rw [if_pos c2]; decide
    · rw [if_neg c2]
      by_cases c3 : k < 280
      · rw [if_pos c3]; decide
      · rw [if_neg c3]; decide
theorem fxD_1 {k : Nat} (h : k < 30) : 1 ≤ fxD k := by
  unfold fxD
  rw [if_pos (by omega)]
  decide
theorem bkC_pos {T : Nat → Int} {n a j i : Nat} (h : i < j) : 1 ≤ bkC T n a j (lSy (aM T n) (dI T n) (a + i)) := cL_pos _ _ a j i h
theorem bkD_pos {T : Nat → Int} {n a j i : Nat} (h : i < j) (h0 : dI T n (a + i) ≠ 0) : 1 ≤ bkD T n a j (kD (dI T n (a + i))) := cD_pos _ a j i h h0
theorem bkW_2 (T : Nat → Int) (n a j z : Nat) : bkW T n a j z ≤ 2 := by
  unfold bkW
  split
  · omega
  · split <;> omega
theorem bk_w0 {T : Nat → Int} {n a j l : Nat} {s : Nat × Nat} (h : bkW T n a j s.2 = 0) : bkS T n a j l s = bkS0 T n a j (bk1 T n a j l s) ∧ bkB T n a j s.2 = bkST T n a j s.2 := by
  refine ⟨if_pos h, ?_⟩
  by_cases c0 : bkST T n a j s.2 ≤ bkFX T n a j ∧ bkST T n a j s.2 ≤ bkDY T n a j
  · exact if_pos c0
  · unfold bkW at h
    rw [if_neg c0] at h
    by_cases c1 : bkFX T n a j ≤ bkDY T n a j
    · rw [if_pos c1] at h; omega
    · rw [if_neg c1] at h; omega
theorem bk_w1 {T : Nat → Int} {n a j l : Nat} {s : Nat × Nat} (h : bkW T n a j s.2 = 1) : bkS T n a j l s = bkP T n a j fxL fxD (bk1 T n a j l s) ∧ bkB T n a j s.2 = bkFX T n a j := by
  refine ⟨(if_neg (by omega)).trans (if_pos h), ?_⟩
  by_cases c0 : bkST T n a j s.2 ≤ bkFX T n a j ∧ bkST T n a j s.2 ≤ bkDY T n a j
  · unfold bkW at h
    rw [if_pos c0] at h; omega
  · by_cases c1 : bkFX T n a j ≤ bkDY T n a j
    · exact (if_neg c0).trans (if_pos c1)
    · unfold bkW at h
      rw [if_neg c0, if_neg c1] at h; omega
theorem bk_w2 {T : Nat → Int} {n a j l : Nat} {s : Nat × Nat} (h : bkW T n a j s.2 = 2) : bkS T n a j l s = bkP T n a j (bkL T n a j) (bkE T n a j) (bkH T n a j (bk1 T n a j l s)) ∧ bkB T n a j s.2 = bkDY T n a j := by
  refine ⟨(if_neg (by omega)).trans (if_neg (by omega)), ?_⟩
  by_cases c0 : bkST T n a j s.2 ≤ bkFX T n a j ∧ bkST T n a j s.2 ≤ bkDY T n a j
  · unfold bkW at h
    rw [if_pos c0] at h; omega
  · by_cases c1 : bkFX T n a j ≤ bkDY T n a j
    · unfold bkW at h
      rw [if_neg c0, if_pos c1] at h; omega
    · exact (if_neg c0).trans (if_neg c1)
theorem bk1_2 (T : Nat → Int) (n a j l : Nat) (s : Nat × Nat) : (bk1 T n a j l s).2 = s.2 + 3 := rfl
theorem tSX_ok {f : Nat → Nat} {N c i : Nat} (A : ltT f N c) (hf : ∀ j, j < N → f j ≤ 15) (hi : i < c) : tS f N i ≤ 18 ∧ tX f N i < 2 ^ rEf (tS f N i) := by
  have h := tk_ok (A i hi) hf
  refine ⟨h.1, ?_⟩
  have h2 : (tk f N (tp f N i)).2.1 < 2 ^ rEf (tk f N (tp f N i)).1 := by
    by_cases c1 : (tk f N (tp f N i)).1 < 16
    · have := h.2.2.2.2.1 c1
      rw [this, show rEf (tk f N (tp f N i)).1 = 0 from if_neg (by omega)]
      decide
    · rcases (by omega : (tk f N (tp f N i)).1 = 16 ∨ (tk f N (tp f N i)).1 = 17 ∨ (tk f N (tp f N i)).1 = 18) with q | q | q
      · have := h.2.2.2.2.2.1 q; rw [q]; exact this
      · have := h.2.2.2.2.2.2 q; rw [q]; exact this
      · have := h.2.2.2.1; rw [q]; exact this
  exact h2
theorem tC_pos {f : Nat → Nat} {N : Nat} : ∀ c i, i < c → 1 ≤ tC f N c (tS f N i) := by
  intro c
  induction c with
  | zero => intro i h; omega
  | succ c ih =>
    intro i h
    show 1 ≤ tC f N c (tS f N i) + if tS f N c = tS f N i then 1 else 0
    by_cases e : i = c
    · subst e; rw [if_pos rfl]; omega
    · have := ih i (by omega); omega
theorem row15c {L1 L2 : Nat → Nat} (A : ∀ k, k < 286 → L1 k ≤ 15) (B : ∀ k, k < 30 → L2 k ≤ 15) : ∀ j, j < rowM L1 L2 → rowF L1 L2 j ≤ 15 := fun j hj => by
  have a := tdM_rng L1 257 29
  have b := tdM_rng L2 1 29
  unfold rowM at hj
  unfold rowF rwF
  by_cases q : j < tdM L1 257 29
  · rw [if_pos q]; exact A j (by omega)
  · rw [if_neg q]; exact B _ (by omega)
theorem row_c {L1 L2 : Nat → Nat} {c : Nat} (h1 : ∀ k, k < 286 → L1 k ≤ 15) (h2 : ∀ k, k < 30 → L2 k ≤ 15) (A : ltT (rowF L1 L2) (rowM L1 L2) c) : c ≤ 316 := by
  have a := tdM_rng L1 257 29
  have b := tdM_rng L2 1 29
  have e : rowM L1 L2 = tdM L1 257 29 + tdM L2 1 29 := rfl
  have t := tp_k (row15c h1 h2) c A
  omega
/-- the head's bits -/
theorem bkH_cl {T : Nat → Int} {n a j c : Nat} {L1 L2 : Nat → Nat} {s : Nat × Nat} {r1 r3 r4 r5 r6 : Nat → Int32} (P : plP r1 r3 r4 r5 r6 L1 L2 c) (h1 : ∀ k, k < 286 → L1 k = bkL T n a j k) (h2 : ∀ k, k < 30 → L2 k = bkE T n a j k) (b1 : ∀ k, k < 286 → L1 k ≤ 15) (b2 : ∀ k, k < 30 → L2 k ≤ 15) : c = bkR T n a j ∧ sS (nL r6) (nL r5) (rowF L1 L2) (rowM L1 L2) (oS (nL r5) (hdS (r1 1).toInt.toNat (r1 2).toInt.toNat (r1 7).toInt.toNat s) (r1 7).toInt.toNat) c = bkH T n a j s ∧ (∀ i, i < bkR T n a j → tS (rowF (bkL T n a j) (bkE T n a j)) (rowM (bkL T n a j) (bkE T n a j)) i < 19) := by
  obtain ⟨p1, p2, p5, p7, ptp, plt, pte, pA, pa, pu, pw⟩ := P
  have hc := row_c b1 b2 plt
  have e := row_eq h1 h2 plt
  have eA := row_A h1 h2 plt
  have eR : c = bkR T n a j := row_R h1 h2 plt ptp (by omega)
  have hA : ∀ k, k < 288 → nL r5 k = bkA T n a j k := fun k hk => by
    rw [pA k hk, eA.1, eR]; rfl
  have hW : ∀ k, k < 288 → 1 ≤ bkA T n a j k → nL r6 k = cdN (bkA T n a j) 288 k := wd_nL pw (by decide) (by decide) hA (fun l _ => ctN_congr 288 hA)
  have ht : ∀ i, i < c → tS (rowF (bkL T n a j) (bkE T n a j)) (rowM (bkL T n a j) (bkE T n a j)) i < 19 := fun i hi => by
    rw [← (e.2.2.2.1 i hi).1]
    have := (tSX_ok plt (row15c b1 b2) hi).1
    omega
  refine ⟨eR, ?_, by rw [← eR]; exact ht⟩
  have hu : ∀ i, i < c → 1 ≤ bkA T n a j (tS (rowF (bkL T n a j) (bkE T n a j)) (rowM (bkL T n a j) (bkE T n a j)) i) := fun i hi => by
    have t := ht i hi
    rw [← hA _ (by omega)]
    refine pu _ t ?_
    rw [← (e.2.2.2.1 i hi).1]
    exact tC_pos c i hi
  have eo : (r1 7).toInt.toNat = bkO T n a j := by
    have : rowO L1 L2 c = bkO T n a j := by rw [eA.2.1, eR]; rfl
    omega
  unfold bkH
  rw [show (r1 1).toInt.toNat = tdM (bkL T n a j) 257 29 by rw [← e.1.1]; omega, show (r1 2).toInt.toNat = tdM (bkE T n a j) 1 29 by rw [← e.1.2.1]; omega, eo, oS_eq (LA := nL r5) (LA' := bkA T n a j) _ (fun i hi => hA _ (by have := OR_lt i; omega)), ← eR]
  exact sS_eq2 c e.2.2.2.1 (fun i hi => ⟨hW _ (by have := ht i hi; omega) (hu i hi), hA _ (by have := ht i hi; omega)⟩)

