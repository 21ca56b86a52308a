/-! end(n, times) with n 0 .. 20 and times 1 .. 100, on the new objects: the model's -/
section EM
variable {E : Nat → Nat × (Nat → Int32)} {d : Nat}
def em_X (h : ez_H) : Prop := ez_t h 71 = 2 ∧ ez_R h 71 1 = 72 ∧ ez_R h 71 3 = 74 ∧ ez_t h 72 = 1003 ∧ ez_l h 72 = 6000 ∧ ez_t h 74 = 1003 ∧ ez_l h 74 = 20
theorem em_X_of {h0 h : ez_H} {ps : List Nat} (X : em_X h0) (H : en_S h0 h ps) : em_X h := by
  obtain ⟨-, -, e1, e2, e3, -⟩ := H
  unfold em_X
  rw [e1, e2, e3]
  exact X
theorem em_inner {h0 : ez_H} {n times round s : Nat} {Q : ez_Q} (X : em_X h0) (hn : n ≤ 20) (hs : s + n ≤ 2000) : ∀ (k i : Nat) (h : ez_H), i + k = n → en_S h0 h [71, 72, 74] → ez_I h 71 6 = nI s → (∀ h', en_S h0 h' [71, 72, 74] → ez_I h' 71 6 = nI (s + n) → pw E d 27 44 [some (.ref 71), some (.int (nI n)), some (.int (nI times)), some (.int (nI round + 1)), some (.int (nI n))] [] h' Q) → pw E d 27 52 [some (.ref 71), some (.int (nI n)), some (.int (nI times)), some (.int (nI round)), some (.int (nI i))] [] h Q := by
  intro k
  induction k with
  | zero =>
    intro i h hi hS hz K
    have : i = n := by omega
    subst this
    obtain ⟨x1, x2, x3, x4, x5, x6, x7⟩ := em_X_of X hS
    apply ez_Wp_in
    show ez_gw _ _ _ _ _ _ cz_27 _ _ _ _ _
    refine ⟨fun c => ?_, fun c => absurd (nI_le (Nat.le_refl _) (by omega)) c⟩
    refine ⟨x1, x1, ?_⟩
    rw [hz, nI_add]
    exact K _ (en_set hS (by decide) _ _) ez_I_set_eq
  | succ k ih =>
    intro i h hi hS hz K
    obtain ⟨x1, x2, x3, x4, x5, x6, x7⟩ := em_X_of X hS
    have ci : (nI i).toNatClampNeg = i := nI_clamp (by omega)
    have cs : (nI (s + i)).toNatClampNeg = s + i := nI_clamp (by omega)
    apply ez_Wp_in
    show ez_gw _ _ _ _ _ _ cz_27 _ _ _ _ _
    refine ⟨fun c => absurd c (nI_ge (by omega) (by omega)), fun c => ?_⟩
    refine ⟨⟨x1, by rw [x2]; decide⟩, ?_⟩
    rw [x2]
    refine ⟨x1, ?_⟩
    rw [hz]
    refine ⟨⟨x1, by rw [x3]; decide⟩, ?_⟩
    rw [x3]
    refine ⟨⟨x6, by rw [x7]; exact vp_in_nI (by omega) (by omega)⟩, ?_⟩
    refine ⟨⟨x4, by rw [x5, nI_add]; exact vp_in_nI (by omega) (by omega)⟩, ?_⟩
    show pw E d 27 52 [some (.ref 71), some (.int (nI n)), some (.int (nI times)), some (.int (nI round)), some (.int (nI i + 1))] [] _ Q
    rw [← nI_succ]
    exact ih (i + 1) _ (by omega) (en_set hS (by decide) _ _) (by rw [ez_I_set_ne (by omega)]; exact hz) K
theorem em_outer {h0 : ez_H} {n times : Nat} {Q : ez_Q} (X : em_X h0) (hn : n ≤ 20) (ht : times ≤ 100) (K : ∀ h' l4, en_S h0 h' [71, 72, 74] → ez_I h' 71 6 = nI (times * n) → ez_gw (ez_Wp E tz_ml tz_hn tz_co) E tz_ml (tz_hn 27) 27 d cz_27 100 [some (.ref 71), some (.int (nI n)), some (.int (nI times)), some (.int (nI times)), l4] [] h' Q) : ∀ (k round : Nat) (h : ez_H) (l4 : Option Value), round + k = times → en_S h0 h [71, 72, 74] → ez_I h 71 6 = nI (round * n) → pw E d 27 44 [some (.ref 71), some (.int (nI n)), some (.int (nI times)), some (.int (nI round)), l4] [] h Q := by
  intro k
  induction k with
  | zero =>
    intro round h l4 hr hS hz
    have : round = times := by omega
    subst this
    apply ez_Wp_in
    show ez_gw _ _ _ _ _ _ cz_27 _ _ _ _ _
    exact ⟨fun c => K h l4 hS hz, fun c => absurd (nI_le (Nat.le_refl _) (by omega)) c⟩
  | succ k ih =>
    intro round h l4 hr hS hz
    apply ez_Wp_in
    show ez_gw _ _ _ _ _ _ cz_27 _ _ _ _ _
    refine ⟨fun c => absurd c (nI_ge (by omega) (by omega)), fun c => ?_⟩
    have hb : round * n + n ≤ 2000 := by
      have h1 : (round + 1) * n ≤ 100 * n := Nat.mul_le_mul_right n (by omega)
      rw [Nat.add_mul] at h1
      omega
    exact ez_Wp_out (em_inner (E := E) (d := d) (times := times) (round := round) X hn hb n 0 h (by omega) hS hz (fun h' g1 g2 => by
      rw [← nI_succ]
      exact ih (round + 1) h' _ (by omega) g1 (by rw [g2, Nat.add_mul, Nat.one_mul])))
theorem em_clear {h0 : ez_H} {a1 l4 : Option Value} {z z2 : Int32} {Q : ez_Q} (X : em_X h0) (K : ∀ h', en_S h0 h' [71, 72, 74] → ez_I h' 71 6 = z → Q (.inl (some (.int z))) h') : ∀ (k i : Nat) (h : ez_H), i + k = 20 → en_S h0 h [71, 72, 74] → ez_I h 71 6 = z → pw E d 27 101 [some (.ref 71), a1, some (.int z2), some (.int (nI i)), l4] [] h Q := by
  intro k
  induction k with
  | zero =>
    intro i h hi hS hz
    have : i = 20 := by omega
    subst this
    obtain ⟨x1, x2, x3, x4, x5, x6, x7⟩ := em_X_of X hS
    apply ez_Wp_in
    show ez_gw _ _ _ _ _ _ cz_27 _ _ _ _ _
    refine ⟨fun c => ?_, fun c => absurd (by decide) c⟩
    refine ⟨x1, trivial, ?_⟩
    rw [hz]
    exact K h hS hz
  | succ k ih =>
    intro i h hi hS hz
    obtain ⟨x1, x2, x3, x4, x5, x6, x7⟩ := em_X_of X hS
    apply ez_Wp_in
    show ez_gw _ _ _ _ _ _ cz_27 _ _ _ _ _
    refine ⟨fun c => absurd c (nI_ge (b := 20) (by omega) (by omega)), fun c => ?_⟩
    refine ⟨⟨x1, by rw [x3]; decide⟩, ?_⟩
    rw [x3]
    refine ⟨⟨x6, by rw [x7]; exact vp_in_nI (by omega) (by omega)⟩, ?_⟩
    show pw E d 27 101 [some (.ref 71), a1, some (.int z2), some (.int (nI i + 1)), l4] [] _ Q
    rw [← nI_succ]
    exact ih (i + 1) _ (by omega) (en_set hS (by decide) _ _) (by rw [ez_I_set_ne (by omega)]; exact hz)
theorem wp_mend {h : ez_H} {n times : Nat} {Q : ez_Q} (X : em_X h) (hz : ez_I h 71 6 = 0) (hn : n ≤ 20) (ht1 : 1 ≤ times) (ht : times ≤ 100) (hQ : ∀ h', Q (.inl (some (.int (nI (times * n))))) h') : pw E d 27 0 [some (.ref 71), some (.int (nI n)), some (.int (nI times)), none, none] [] h Q := by
  obtain ⟨x1, x2, x3, x4, x5, x6, x7⟩ := id X
  have hm : n * times ≤ 2000 := Nat.mul_le_mul hn ht
  have hS1 : en_S h (ez_setI h 71 0 0) [71, 72, 74] := en_set (en_refl h _) (by decide) _ _
  have hz1 : ez_I (ez_setI h 71 0 0) 71 6 = 0 := by rw [ez_I_set_ne (by omega)]; exact hz
  apply ez_Wp_in
  show ez_gw _ _ _ _ _ _ cz_27 _ _ _ _ _
  refine ⟨x1, ?_⟩
  refine ⟨fun c => absurd c (nI_pos (by omega)), fun c => ?_⟩
  refine ⟨fun c => absurd (show nI 20 < nI n from c) (nI_nlt hn (by omega)), fun c => ?_⟩
  refine ⟨fun c => absurd (show nI times < nI 1 from c) (nI_nlt ht1 (by omega)), fun c => ?_⟩
  refine ⟨fun c => absurd (show nI 100 < nI times from c) (nI_nlt ht (by omega)), fun c => ?_⟩
  refine ⟨x1, ?_⟩
  rw [hz1]
  refine ⟨fun c => ?_, fun c => absurd (show (0 : Int32) + nI n * nI times ≤ nI 6000 from (by
    rw [nI_mul n times (by omega) (by omega) (by omega), ← nI_0, nI_add]
    exact nI_le (by omega) (by omega))) c⟩
  have L := ez_Wp_out (em_outer (E := E) (d := d) (Q := Q) (times := times) X hn ht (fun h' l4 g1 g2 => by
    have L := ez_Wp_out (em_clear (E := E) (d := d) (Q := Q) (a1 := some (.int (nI n))) (z2 := nI times) (l4 := l4) X (fun h'' _ _ => hQ h'') 20 0 h' (by omega) g1 g2)
    exact L) times 0 (ez_setI h 71 0 0) none (by omega) hS1 (by rw [hz1, Nat.zero_mul]; rfl))
  exact L
end EM
