/-! end(n, times) with n 0 .. 20 and times 1 .. 100, on the new objects: PackDesk's -/
theorem nI_mul (a b : Nat) (h : a * b < 4294967296) (ha : a < 4294967296) (hb : b < 4294967296) : nI a * nI b = nI (a * b) := by
  apply ev_u_inj
  rw [ef_mul_ok, ev_u_nI ha, ev_u_nI hb, ev_u_nI h]
  show a * b % 4294967296 = a * b
  exact Nat.mod_eq_of_lt h
/-- the same cells; the ints of others than these are the same -/
def en_S (h0 h : ez_H) (ps : List Nat) : Prop := ez_n h = ez_n h0 ∧ ez_u h = ez_u h0 ∧ ez_t h = ez_t h0 ∧ ez_l h = ez_l h0 ∧ ez_R h = ez_R h0 ∧ ∀ p, p ∉ ps → ez_I h p = ez_I h0 p
theorem en_refl (h : ez_H) (ps : List Nat) : en_S h h ps := ⟨rfl, rfl, rfl, rfl, rfl, fun _ _ => rfl⟩
theorem en_set {h0 h : ez_H} {ps : List Nat} (H : en_S h0 h ps) {p : Nat} (hp : p ∈ ps) (k : Nat) (v : Int32) : en_S h0 (ez_setI h p k v) ps := ⟨H.1, H.2.1, H.2.2.1, H.2.2.2.1, H.2.2.2.2.1, fun q hq => by
  rw [← H.2.2.2.2.2 q hq]
  show ez_up2 (ez_I h) p k v q = _
  funext j
  unfold ez_up2
  have : ¬ q = p := fun e => hq (e ▸ hp)
  simp only [this, ↓reduceIte]⟩
theorem en_row {h0 h : ez_H} {ps : List Nat} (H : en_S h0 h ps) {p : Nat} (hp : p ∈ ps) (g : Nat → Int32) : en_S h0 (ez_rowI h p g) ps := ⟨H.1, H.2.1, H.2.2.1, H.2.2.2.1, H.2.2.2.2.1, fun q hq => by
  rw [← H.2.2.2.2.2 q hq]
  show ez_row (ez_I h) p g q = _
  unfold ez_row
  have : ¬ q = p := fun e => hq (e ▸ hp)
  simp only [this, ↓reduceIte]⟩
theorem ez_I_set_ne {h : ez_H} {p k q j : Nat} {v : Int32} (hn : ¬ (q = p ∧ j = k)) : ez_I (ez_setI h p k v) q j = ez_I h q j := by
  show ez_up2 (ez_I h) p k v q j = _
  unfold ez_up2
  by_cases hq : q = p
  · have : ¬ j = k := fun e => hn ⟨hq, e⟩
    simp only [hq, this, ↓reduceIte]
  · simp only [hq, ↓reduceIte]
theorem ez_I_set_eq {h : ez_H} {p k : Nat} {v : Int32} : ez_I (ez_setI h p k v) p k = v := by
  show ez_up2 (ez_I h) p k v p k = _
  unfold ez_up2
  simp only [↓reduceIte]
section EN
variable {E : Nat → Nat × (Nat → Int32)} {d : Nat}
/-- what PackDesk's end looks at -/
def en_X (h : ez_H) : Prop := ez_t h 1 = 1 ∧ ez_R h 1 0 = 2 ∧ ez_R h 1 2 = 6 ∧ ez_t h 2 = 12 ∧ ez_R h 2 0 = 3 ∧ ez_t h 3 = 1000 ∧ ez_l h 3 = 6100 ∧ ez_t h 6 = 1000 ∧ ez_l h 6 = 20
theorem en_X_of {h0 h : ez_H} {ps : List Nat} (X : en_X h0) (H : en_S h0 h ps) : en_X h := by
  obtain ⟨-, -, e1, e2, e3, -⟩ := H
  unfold en_X
  rw [e1, e2, e3]
  exact X
/-- Row.add on the tape -/
theorem wp_add {h : ez_H} {s : Nat} {v : Int32} {Q : ez_Q} (X : en_X h) (hs : ez_I h 2 1 = nI s) (hl : s < 6100) (hQ : Q (.inl none) (ez_setI (ez_setI h 3 s v) 2 1 (nI (s + 1)))) : pw E d 130 0 [some (.ref 2), some (.int v)] [] h Q := by
  obtain ⟨x1, x2, x3, x4, x5, x6, x7, x8, x9⟩ := X
  have c0 : (nI s).toNatClampNeg = s := nI_clamp (by omega)
  apply ez_Wp_in
  show ez_gw _ _ _ _ _ _ cz_130 _ _ _ _ _
  refine ⟨x4, fun c => ?_, fun c => ?_⟩
  · exact absurd (show ez_I h 2 1 < 0 from c) (by rw [hs]; exact nI_pos (by omega))
  refine ⟨x4, ⟨x4, by rw [x5]; decide⟩, ?_⟩
  rw [x5]
  refine ⟨.inl x6, fun c => ?_, fun c => ?_⟩
  · exact absurd (show nI (ez_l h 3) ≤ ez_I h 2 1 from c) (by rw [x7, hs]; exact nI_ge (by omega) (by omega))
  refine ⟨⟨x4, by rw [x5]; decide⟩, ?_⟩
  rw [x5]
  refine ⟨x4, ⟨x6, by rw [hs, x7]; exact vp_in_nI hl (by omega)⟩, ?_⟩
  rw [hs, c0]
  refine ⟨x4, x4, trivial, ?_⟩
  have e : ez_I (ez_setI h 3 s v) 2 1 = nI s := by rw [ez_I_set_ne (by omega)]; exact hs
  rw [e, ← nI_succ]
  exact hQ
theorem en_inner {h0 : ez_H} {n times round : Nat} {Q : ez_Q} (X : en_X h0) (hn : n ≤ 20) : ∀ (k i s : Nat) (h : ez_H), i + k = n → s + k ≤ 2000 → en_S h0 h [2, 3, 6] → ez_I h 2 1 = nI s → (∀ h', en_S h0 h' [2, 3, 6] → ez_I h' 2 1 = nI (s + k) → pw E (d + 1) 2 42 [some (.ref 1), some (.int (nI n)), some (.int (nI times)), some (.int (nI round + 1)), some (.int (nI n))] [] h' Q) → pw E (d + 1) 2 50 [some (.ref 1), some (.int (nI n)), some (.int (nI times)), some (.int (nI round)), some (.int (nI i))] [] h Q := by
  intro k
  induction k with
  | zero =>
    intro i s h hi hs hS hz K
    have : i = n := by omega
    subst this
    apply ez_Wp_in
    show ez_gw _ _ _ _ _ _ cz_2 _ _ _ _ _
    refine ⟨fun c => K h hS hz, fun c => absurd (nI_le (Nat.le_refl _) (by omega)) c⟩
  | succ k ih =>
    intro i s h hi hs hS hz K
    have X' := en_X_of X hS
    obtain ⟨x1, x2, x3, x4, x5, x6, x7, x8, x9⟩ := id X'
    have ci : (nI i).toNatClampNeg = i := nI_clamp (by omega)
    apply ez_Wp_in
    show ez_gw _ _ _ _ _ _ cz_2 _ _ _ _ _
    refine ⟨fun c => absurd c (nI_ge (by omega) (by omega)), fun c => ?_⟩
    refine ⟨⟨x1, by rw [x2]; decide⟩, ?_⟩
    rw [x2]
    refine ⟨⟨x1, by rw [x3]; decide⟩, ?_⟩
    rw [x3]
    refine ⟨⟨x8, by rw [x9]; exact vp_in_nI (by omega) (by omega)⟩, ?_⟩
    refine ⟨⟨rfl, rfl, rfl, x4⟩, ?_⟩
    refine wp_add X' hz (by omega) ?_
    show pw E (d + 1) 2 50 [some (.ref 1), some (.int (nI n)), some (.int (nI times)), some (.int (nI round)), some (.int (nI i + 1))] [] _ Q
    rw [← nI_succ]
    refine ih (i + 1) (s + 1) _ (by omega) (by omega) (en_set (en_set hS (by decide) _ _) (by decide) _ _) ez_I_set_eq (fun h' g1 g2 => K h' g1 (by rw [g2]; congr 1; omega))
theorem en_outer {h0 : ez_H} {n times : Nat} {Q : ez_Q} (X : en_X h0) (hn : n ≤ 20) (ht : times ≤ 100) (K : ∀ h' l4, en_S h0 h' [2, 3, 6] → ez_I h' 2 1 = nI (times * n) → ez_gw (ez_Wp E tz_ml tz_hn tz_co) E tz_ml (tz_hn 2) 2 (d + 1) cz_2 83 [some (.ref 1), some (.int (nI n)), some (.int (nI times)), some (.int (nI times)), l4] [] h' Q) : ∀ (k round : Nat) (h : ez_H) (l4 : Option Value), round + k = times → en_S h0 h [2, 3, 6] → ez_I h 2 1 = nI (round * n) → pw E (d + 1) 2 42 [some (.ref 1), some (.int (nI n)), some (.int (nI times)), some (.int (nI round)), l4] [] h Q := by
  intro k
  induction k with
  | zero =>
    intro round h l4 hr hS hz
    have : round = times := by omega
    subst this
    apply ez_Wp_in
    show ez_gw _ _ _ _ _ _ cz_2 _ _ _ _ _
    exact ⟨fun c => K h l4 hS hz, fun c => absurd (nI_le (Nat.le_refl _) (by omega)) c⟩
  | succ k ih =>
    intro round h l4 hr hS hz
    apply ez_Wp_in
    show ez_gw _ _ _ _ _ _ cz_2 _ _ _ _ _
    refine ⟨fun c => absurd c (nI_ge (by omega) (by omega)), fun c => ?_⟩
    have hb : round * n + n ≤ 2000 := by
      have h1 : (round + 1) * n ≤ 100 * n := Nat.mul_le_mul_right n (by omega)
      rw [Nat.add_mul] at h1
      omega
    exact ez_Wp_out (en_inner (E := E) (d := d) (times := times) (round := round) X hn n 0 (round * n) h (by omega) hb hS hz (fun h' g1 g2 => by
      rw [← nI_succ]
      exact ih (round + 1) h' _ (by omega) g1 (by rw [g2, Nat.add_mul, Nat.one_mul])))
theorem wp_end {h : ez_H} {n times : Nat} {Q : ez_Q} (X : en_X h) (hz : ez_I h 2 1 = 0) (hn : n ≤ 20) (ht1 : 1 ≤ times) (ht : times ≤ 100) (hQ : ∀ h', en_S h h' [2, 3, 6] → Q (.inl (some (.int (nI (times * n))))) h') : pw E (d + 1) 2 0 [some (.ref 1), some (.int (nI n)), some (.int (nI times)), none, none] [] h Q := by
  obtain ⟨x1, x2, x3, x4, x5, x6, x7, x8, x9⟩ := id X
  have hm : n * times ≤ 2000 := Nat.mul_le_mul hn ht
  apply ez_Wp_in
  show ez_gw _ _ _ _ _ _ cz_2 _ _ _ _ _
  refine ⟨fun c => absurd c (nI_pos (by omega)), fun c => ?_⟩
  refine ⟨fun c => absurd (show nI 20 < nI n from c) (nI_nlt hn (by omega)), fun c => ?_⟩
  refine ⟨fun c => absurd (show nI times < nI 1 from c) (nI_nlt ht1 (by omega)), fun c => ?_⟩
  refine ⟨fun c => absurd (show nI 100 < nI times from c) (nI_nlt ht (by omega)), fun c => ?_⟩
  refine ⟨⟨x1, by rw [x2]; decide⟩, ?_⟩
  rw [x2]
  refine ⟨x4, ?_⟩
  rw [hz]
  refine ⟨fun c => ?_, fun c => absurd (show (0 : Int32) + nI n * nI times ≤ nI 6000 from (by
    rw [nI_mul n times (by omega) (by omega) (by omega), ← nI_0, nI_add]
    exact nI_le (by omega) (by omega))) c⟩
  have L := ez_Wp_out (en_outer (E := E) (d := d) (Q := Q) (times := times) X hn ht (fun h' l4 g1 g2 => by
    have X' := en_X_of X g1
    obtain ⟨y1, y2, y3, y4, y5, y6, y7, y8, y9⟩ := id X'
    refine ⟨⟨y1, by rw [y3]; decide⟩, ?_⟩
    rw [y3]
    refine ⟨⟨rfl, rfl, rfl, trivial⟩, ?_⟩
    refine wp_fill y8 (by rw [y9]; decide) ?_
    have e2 : ez_I (ez_rowI h' 6 (pf_fill (ez_I h' 6) (ez_l h' 6) 0)) 2 1 = nI (times * n) := by
      rw [← g2]
      show ez_row (ez_I h') 6 (pf_fill (ez_I h' 6) (ez_l h' 6) 0) 2 1 = _
      unfold ez_row
      rw [if_neg (by decide)]
    refine ⟨⟨y1, by show ez_R h' 1 0 ≠ 0; rw [y2]; decide⟩, ?_⟩
    rw [show ez_R (ez_rowI h' 6 (pf_fill (ez_I h' 6) (ez_l h' 6) 0)) 1 0 = 2 from y2]
    refine ⟨y4, trivial, ?_⟩
    rw [e2]
    exact hQ _ (en_row g1 (by decide) _)) times 0 h none (by omega) (en_refl h _) (by rw [hz, Nat.zero_mul]; rfl))
  exact L
end EN
