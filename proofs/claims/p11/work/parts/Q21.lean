/-! whether a code is whole: the class's way and the model's -/
def lfN (L : Nat → Nat) (N : Nat) : Nat → Int
  | 0 => 1
  | l + 1 => 2 * lfN L N l - (ctN L (l + 1) N : Nat)
def wsN (L : Nat → Nat) : Nat → Nat
  | 0 => 0
  | n + 1 => wsN L n + if 1 ≤ L n then 2 ^ (15 - L n) else 0
def wcN (L : Nat → Nat) (N : Nat) : Nat → Nat
  | 0 => 0
  | l + 1 => wcN L N l + ctN L (l + 1) N * 2 ^ (15 - (l + 1))
theorem lf_le (L : Nat → Nat) (N : Nat) : ∀ l, lfN L N l ≤ ((2 ^ l : Nat) : Int) := by
  intro l
  induction l with
  | zero => exact Int.le_refl 1
  | succ l ih =>
    show 2 * lfN L N l - (ctN L (l + 1) N : Nat) ≤ ((2 ^ (l + 1) : Nat) : Int)
    rw [Nat.pow_succ]
    omega
theorem lf_b {L : Nat → Nat} {N l : Nat} (h : l ≤ 15) : lfN L N l ≤ 32768 := by
  have h1 := lf_le L N l
  have h2 : (2 : Nat) ^ l ≤ 2 ^ 15 := Nat.pow_le_pow_right (by decide) h
  have h3 : (2 : Nat) ^ 15 = 32768 := by decide
  omega
theorem lf_s {L : Nat → Nat} {N l : Nat} (h : 1 ≤ l) : lfN L N l = 2 * lfN L N (l - 1) - (ctN L l N : Nat) := by
  obtain ⟨m, rfl⟩ : ∃ m, l = m + 1 := ⟨l - 1, by omega⟩
  rfl
theorem lf_neg {L : Nat → Nat} {N l : Nat} (h : lfN L N l < 0) : ∀ m, l ≤ m → lfN L N m < 0 := by
  intro m
  induction m with
  | zero => intro hm; rw [show l = 0 by omega] at h; exact h
  | succ m ih =>
    intro hm
    by_cases e : l = m + 1
    · rw [e] at h; exact h
    · have := ih (by omega)
      show 2 * lfN L N m - (ctN L (m + 1) N : Nat) < 0
      omega
theorem lf_wc (L : Nat → Nat) (N : Nat) : ∀ l, l ≤ 15 → lfN L N l * ((2 ^ (15 - l) : Nat) : Int) = 32768 - (wcN L N l : Nat) := by
  intro l
  induction l with
  | zero => intro _; rfl
  | succ l ih =>
    intro hl
    have h1 := ih (by omega)
    rw [show 15 - l = (15 - (l + 1)) + 1 by omega, Nat.pow_succ] at h1
    show (2 * lfN L N l - (ctN L (l + 1) N : Nat)) * ((2 ^ (15 - (l + 1)) : Nat) : Int) = 32768 - ((wcN L N l + ctN L (l + 1) N * 2 ^ (15 - (l + 1)) : Nat) : Int)
    rw [Int.sub_mul, Int.natCast_add, Int.natCast_mul (ctN L (l + 1) N)]
    have h2 : 2 * lfN L N l * ((2 ^ (15 - (l + 1)) : Nat) : Int) = lfN L N l * ((2 ^ (15 - (l + 1)) * 2 : Nat) : Int) := by
      rw [Int.natCast_mul, Int.mul_comm 2, Int.mul_assoc, Int.mul_comm (2 : Int)]
      rfl
    rw [h2, h1]
    omega
theorem wc_up (L : Nat → Nat) (n : Nat) : ∀ l, wcN L (n + 1) l = wcN L n l + if 1 ≤ L n ∧ L n ≤ l then 2 ^ (15 - L n) else 0 := by
  intro l
  induction l with
  | zero => rw [if_neg (by omega)]; rfl
  | succ l ih =>
    show wcN L (n + 1) l + ctN L (l + 1) (n + 1) * 2 ^ (15 - (l + 1)) = wcN L n l + ctN L (l + 1) n * 2 ^ (15 - (l + 1)) + _
    rw [ih]
    by_cases e : L n = l + 1
    · rw [ctN_y e, if_neg (by omega), if_pos (by omega), e, Nat.add_mul]
      omega
    · rw [ctN_n e]
      by_cases q : 1 ≤ L n ∧ L n ≤ l
      · rw [if_pos q, if_pos (by omega)]; omega
      · rw [if_neg q, if_neg (by omega)]; omega
theorem wc_0 (L : Nat → Nat) : ∀ l, wcN L 0 l = 0 := by
  intro l
  induction l with
  | zero => rfl
  | succ l ih =>
    show wcN L 0 l + 0 * 2 ^ (15 - (l + 1)) = 0
    rw [ih, Nat.zero_mul]
theorem wc_ws {L : Nat → Nat} : ∀ n, (∀ k, k < n → L k ≤ 15) → wcN L n 15 = wsN L n := by
  intro n
  induction n with
  | zero => intro _; exact wc_0 L 15
  | succ n ih =>
    intro h
    have h1 := h n (by omega)
    rw [wc_up, ih (fun k hk => h k (by omega))]
    show _ = wsN L n + _
    by_cases q : 1 ≤ L n
    · rw [if_pos q, if_pos ⟨q, h1⟩]
    · rw [if_neg q, if_neg (by omega)]
theorem lf_ws {L : Nat → Nat} {n : Nat} (h : ∀ k, k < n → L k ≤ 15) : lfN L n 15 = 32768 - (wsN L n : Nat) := by
  have h1 := lf_wc L n 15 (by omega)
  rw [wc_ws n h] at h1
  rw [← h1]
  show _ = lfN L n 15 * 1
  rw [Int.mul_one]
theorem lf_ret {L : Nat → Nat} {n l : Nat} {c x : Int} (h : ∀ k, k < n → L k ≤ 15) (hc : c = lfN L n (l - 1)) (hl : l ≤ 16) (h2 : l = 16 ∨ c < 0) (hx : x = 1 ∧ c = 0 ∨ x = 0 ∧ c ≠ 0) : x = 1 ∧ wsN L n = 32768 ∨ x = 0 ∧ wsN L n ≠ 32768 := by
  have h1 := lf_ws h
  rcases h2 with h2 | h2
  · rw [h2] at hc
    have h3 : c = lfN L n 15 := hc
    omega
  · have h3 := lf_neg (L := L) (N := n) (l := l - 1) (by omega) 15 (by omega)
    omega
theorem ws_s {L : Nat → Nat} {n m : Nat} {a b c : Int} (ha : a = (wsN L n : Nat)) (hb : 1 ≤ L n → b = ((2 ^ (15 - L n) : Nat) : Int)) (h0 : L n = 0 → b = 0) (hc : c = a + b) (hm : m = n + 1) : c = (wsN L m : Nat) := by
  subst hm
  show _ = ((wsN L n + (if 1 ≤ L n then 2 ^ (15 - L n) else 0) : Nat) : Int)
  by_cases q : 1 ≤ L n
  · rw [if_pos q]; have := hb q; omega
  · rw [if_neg q]; have := h0 (by omega); omega
theorem ws_le {L : Nat → Nat} : ∀ n, wsN L n ≤ n * 32768 := by
  intro n
  induction n with
  | zero => exact Nat.le_refl 0
  | succ n ih =>
    show wsN L n + (if 1 ≤ L n then 2 ^ (15 - L n) else 0) ≤ (n + 1) * 32768
    have h2 : (2 : Nat) ^ (15 - L n) ≤ 2 ^ 15 := Nat.pow_le_pow_right (by decide) (by omega)
    have h3 : (2 : Nat) ^ 15 = 32768 := by decide
    by_cases q : 1 ≤ L n
    · rw [if_pos q]; omega
    · rw [if_neg q]; exact Nat.le_trans ih (Nat.mul_le_mul_right _ (Nat.le_succ n))
theorem pw_div : ∀ l, l ≤ 15 → (32768 : Int) / 2 ^ l = ((2 ^ (15 - l) : Nat) : Int) := by
  intro l hl
  have : ∀ l : Fin 16, (32768 : Int) / 2 ^ l.val = ((2 ^ (15 - l.val) : Nat) : Int) := by decide
  exact this ⟨l, by omega⟩
/-! PRINTED by wip/pack: whether a code is whole: both -/
set_option maxRecDepth 4000 in
set_option maxHeartbeats 2000000 in
theorem c_whole_L0 {E : Nat → Nat × (Nat → Int32)} {d : Nat} {Q : ez_Q} {h : ez_H} {p : Nat} (S : zSh h) (hp : p = 15 ∨ p = 22 ∨ p = 29 ∨ p = 36 ∨ p = 43) (hL : aR (ez_I h (p + 1)) 288 0 15) (hct : ctC (ez_I h (p + 3)) (nL (ez_I h (p + 1))) 288) (K : ∀ x : Int32, (x.toInt = 1 ∧ wsN (nL (ez_I h (p + 1))) 288 = 32768 ∨ x.toInt = 0 ∧ wsN (nL (ez_I h (p + 1))) 288 ≠ 32768) → Q (.inl (some (.int x))) h) : ∀ N : Nat, (∀ (h2 : ez_H) (c : Int32) (l : Int32) , zW (fun _ _ => False) (fun _ => False) (fun _ => False) h h2 → (1 ≤ l.toInt ∧ l.toInt ≤ 16 ∧ c.toInt = lfN (nL (ez_I h (p + 1))) 288 (l.toInt.toNat - 1) ∧ -288 ≤ c.toInt) → (100 - l.toInt) < (N : Int) → pw E d 83 4 [some (.ref p), some (.int c), some (.int l)] [] h2 Q) := by
  intro N
  induction N with
  | zero => exact fun h2 c l  F hinv  hm => absurd hm (by have w_c := z_rng c; have w_l := z_rng l; omega)
  | succ N ih =>
    refine fun h2 c l  F hinv  hm => ?_
    · skip
      have w_c := z_rng c
      have w_l := z_rng l
      have S2 := zW_sh F S
      have hlb := lf_b (L := (nL (ez_I h (p + 1)))) (N := 288) (l := l.toInt.toNat - 1) (by omega)
      have hls := lf_s (L := (nL (ez_I h (p + 1)))) (N := 288) (l := l.toInt.toNat) (by omega)
      have hcl := ctN_le (nL (ez_I h (p + 1))) l.toInt.toNat 288
      apply ez_Wp_in
      show ez_gw _ _ _ _ _ _ (cz_83) _ _ _ _ _
      refine gw_skip _ ?_
      refine gw_ld rfl rfl ?_
      refine z_C (m := 15) rfl rfl (fun x1 ex1 => ?_)
      refine z_b2 (fun c2 => ?_) (fun c2 => ?_)
      · have c2 : x1.toInt < l.toInt := c2
        refine gw_skip _ ?_
        refine gw_ld rfl rfl ?_
        refine z_b1 (fun c3 => ?_) (fun c3 => ?_)
        · have c3 : c.toInt ≠ 0 := c3
          refine gw_skip _ ?_
          refine z_C (m := 0) rfl rfl (fun x4 ex4 => ?_)
          refine z_rz (by omega) ?_
          exact zW_Q F (K _ (lf_ret (l := l.toInt.toNat) (c := c.toInt) (fun k hk => by have := hL k hk; show (ez_I h (p + 1) k).toInt.toNat ≤ 15; omega) (by omega) (by omega) (by omega) (by omega)))
        · have c3 : ¬ (c.toInt ≠ 0) := c3
          refine z_C (m := 1) rfl rfl (fun x5 ex5 => ?_)
          refine z_go ?_
          refine gw_skip _ ?_
          refine z_rz (by omega) ?_
          exact zW_Q F (K _ (lf_ret (l := l.toInt.toNat) (c := c.toInt) (fun k hk => by have := hL k hk; show (ez_I h (p + 1) k).toInt.toNat ≤ 15; omega) (by omega) (by omega) (by omega) (by omega)))
      · have c2 : ¬ (x1.toInt < l.toInt) := c2
        refine gw_ld rfl rfl ?_
        refine z_b1 (fun c6 => ?_) (fun c6 => ?_)
        · have c6 : c.toInt < 0 := c6
          refine gw_skip _ ?_
          refine gw_ld rfl rfl ?_
          refine z_b1 (fun c7 => ?_) (fun c7 => ?_)
          · have c7 : c.toInt ≠ 0 := c7
            refine gw_skip _ ?_
            refine z_C (m := 0) rfl rfl (fun x8 ex8 => ?_)
            refine z_rz (by omega) ?_
            exact zW_Q F (K _ (lf_ret (l := l.toInt.toNat) (c := c.toInt) (fun k hk => by have := hL k hk; show (ez_I h (p + 1) k).toInt.toNat ≤ 15; omega) (by omega) (by omega) (by omega) (by omega)))
          · have c7 : ¬ (c.toInt ≠ 0) := c7
            exfalso; omega
        · have c6 : ¬ (c.toInt < 0) := c6
          refine z_C (m := 2) rfl rfl (fun x9 ex9 => ?_)
          refine gw_ld rfl rfl ?_
          refine z_mulL (c := 2) ex9 (by omega) (fun x10 ex10 => ?_)
          refine gw_ld rfl rfl ?_
          refine z_gR (q := (p + 3)) ((zCode S2 hp).1) ((zCode S2 hp).2.1.2.2.1) (by omega) ?_
          refine gw_ld rfl rfl ?_
          refine z_iaV (n := 16) ((zCode S2 hp).2.2.1.2.2.1) ((zCode S2 hp).2.2.2.2.2.1) (by omega) (zW_f F (fun c => c) (fun c => c)) ?_
          generalize ex11 : ez_I h (p + 3) l.toInt.toNat = x11
          have rx11 := z_rng x11
          have yx11 := hct.2 l.toInt.toNat (by omega) (by omega)
          rw [ex11] at yx11
          refine z_sub (by omega) (fun x12 ex12 => ?_)
          refine gw_st rfl rfl rfl ?_
          show ez_gw _ _ _ _ _ _ _ _ [some (.ref p), some (.int x12), some (.int l)] _ _ _
          refine z_inc rfl (by rw [show (1 : Int32).toInt = 1 from rfl]; omega) (fun x13 ex13 => ?_)
          rw [show (1 : Int32).toInt = 1 from rfl] at ex13
          show ez_gw _ _ _ _ _ _ _ _ [some (.ref p), some (.int x12), some (.int x13)] _ _ _
          refine z_go ?_
          exact ih h2 x12 x13 F (⟨by omega, by omega, by rw [show x13.toInt.toNat - 1 = l.toInt.toNat by omega]; omega, by omega⟩)  (by omega)
set_option maxRecDepth 4000 in
set_option maxHeartbeats 2000000 in
theorem c_whole {E : Nat → Nat × (Nat → Int32)} {d : Nat} {Q : ez_Q} {h : ez_H} {p : Nat} (S : zSh h) (hp : p = 15 ∨ p = 22 ∨ p = 29 ∨ p = 36 ∨ p = 43) (hL : aR (ez_I h (p + 1)) 288 0 15) (hct : ctC (ez_I h (p + 3)) (nL (ez_I h (p + 1))) 288) (K : ∀ x : Int32, (x.toInt = 1 ∧ wsN (nL (ez_I h (p + 1))) 288 = 32768 ∨ x.toInt = 0 ∧ wsN (nL (ez_I h (p + 1))) 288 ≠ 32768) → Q (.inl (some (.int x))) h) : pw E d 83 0 [some (.ref p), none, none] [] h Q := by
  have F := zW_refl (fun _ _ => False) (fun _ => False) (fun _ => False) h
  apply ez_Wp_in
  show ez_gw _ _ _ _ _ _ (cz_83) _ _ _ _ _
  refine gw_skip _ ?_
  refine z_C (m := 1) rfl rfl (fun x1 ex1 => ?_)
  refine gw_st rfl rfl rfl ?_
  show ez_gw _ _ _ _ _ _ _ _ [some (.ref p), some (.int x1), none] _ _ _
  refine z_C (m := 1) rfl rfl (fun x2 ex2 => ?_)
  refine gw_st rfl rfl rfl ?_
  show ez_gw _ _ _ _ _ _ _ _ [some (.ref p), some (.int x1), some (.int x2)] _ _ _
  exact ez_Wp_at ((c_whole_L0 (p := p) S hp hL hct K (((100 - x2.toInt)).toNat + 1)) h x1 x2 F (⟨by omega, by omega, by rw [show x2.toInt.toNat - 1 = 0 by omega]; show _ = (1 : Int); omega, by omega⟩)  (by omega)) rfl
set_option maxRecDepth 4000 in
set_option maxHeartbeats 2000000 in
theorem c_one {E : Nat → Nat × (Nat → Int32)} {d : Nat} {Q : ez_Q} {h : ez_H} {p : Nat} (S : zSh h) (hp : p = 15 ∨ p = 22 ∨ p = 29 ∨ p = 36 ∨ p = 43) (hL : aR (ez_I h (p + 1)) 288 0 15) (hct : ctC (ez_I h (p + 3)) (nL (ez_I h (p + 1))) 288) (K : ∀ x : Int32, (x.toInt = 1 ∧ ((ez_I h p 4).toInt = 0 ∨ (ez_I h p 4).toInt = 1 ∧ ctN (nL (ez_I h (p + 1))) 1 288 = 1) ∨ x.toInt = 0 ∧ (ez_I h p 4).toInt ≠ 0 ∧ ((ez_I h p 4).toInt ≠ 1 ∨ ctN (nL (ez_I h (p + 1))) 1 288 ≠ 1)) → Q (.inl (some (.int x))) h) : pw E d 84 0 [some (.ref p)] [] h Q := by
  have F := zW_refl (fun _ _ => False) (fun _ => False) (fun _ => False) h
  apply ez_Wp_in
  show ez_gw _ _ _ _ _ _ (cz_84) _ _ _ _ _
  refine gw_skip _ ?_
  refine gw_ld rfl rfl ?_
  have r1 := z_rng (ez_I h p 4)
  refine z_gI2 (by decide) ((zCode S hp).1) (zW_f F (fun c => c) (fun c => c)) ?_
  refine z_b1 (fun c2 => ?_) (fun c2 => ?_)
  · have c2 : ((ez_I h p 4)).toInt = 0 := c2
    refine gw_skip _ ?_
    refine z_C (m := 1) rfl rfl (fun x3 ex3 => ?_)
    refine z_go ?_
    refine gw_skip _ ?_
    refine z_rz (by omega) ?_
    have q1 := hct.2 1 (by decide) (by decide)
    exact zW_Q F (K _ (by omega))
  · have c2 : ¬ (((ez_I h p 4)).toInt = 0) := c2
    refine gw_ld rfl rfl ?_
    refine z_gI2 (by decide) ((zCode S hp).1) (zW_f F (fun c => c) (fun c => c)) ?_
    refine z_C (m := 1) rfl rfl (fun x4 ex4 => ?_)
    refine z_b2 (fun c5 => ?_) (fun c5 => ?_)
    · have c5 : ((ez_I h p 4)).toInt ≠ x4.toInt := c5
      refine gw_skip _ ?_
      refine z_C (m := 0) rfl rfl (fun x6 ex6 => ?_)
      refine z_rz (by omega) ?_
      have q1 := hct.2 1 (by decide) (by decide)
      exact zW_Q F (K _ (by omega))
    · have c5 : ¬ (((ez_I h p 4)).toInt ≠ x4.toInt) := c5
      refine gw_ld rfl rfl ?_
      refine z_gR (q := (p + 3)) ((zCode S hp).1) ((zCode S hp).2.1.2.2.1) (by omega) ?_
      refine z_C (m := 1) rfl rfl (fun x7 ex7 => ?_)
      refine z_iaV (n := 16) ((zCode S hp).2.2.1.2.2.1) ((zCode S hp).2.2.2.2.2.1) (by omega) (zW_f F (fun c => c) (fun c => c)) ?_
      generalize ex8 : ez_I h (p + 3) x7.toInt.toNat = x8
      have rx8 := z_rng x8
      have yx8 := hct.2 x7.toInt.toNat (by omega) (by omega)
      rw [ex8, show x7.toInt.toNat = 1 by omega] at yx8
      refine z_C (m := 1) rfl rfl (fun x9 ex9 => ?_)
      refine z_b2 (fun c10 => ?_) (fun c10 => ?_)
      · have c10 : x8.toInt ≠ x9.toInt := c10
        refine gw_skip _ ?_
        refine z_C (m := 0) rfl rfl (fun x11 ex11 => ?_)
        refine z_rz (by omega) ?_
        have q1 := hct.2 1 (by decide) (by decide)
        exact zW_Q F (K _ (by omega))
      · have c10 : ¬ (x8.toInt ≠ x9.toInt) := c10
        refine z_C (m := 1) rfl rfl (fun x12 ex12 => ?_)
        refine z_go ?_
        refine gw_skip _ ?_
        refine z_rz (by omega) ?_
        have q1 := hct.2 1 (by decide) (by decide)
        exact zW_Q F (K _ (by omega))
set_option maxRecDepth 4000 in
set_option maxHeartbeats 2000000 in
theorem d_whole_L0 {E : Nat → Nat × (Nat → Int32)} {d : Nat} {Q : ez_Q} {h : ez_H} {u : Nat} {n : Int32} (S : zSh h) {nu : Nat} (hu : zA u nu) (hn : 0 ≤ n.toInt ∧ n.toInt ≤ nu ∧ nu ≤ 1000) (hL : aR (ez_I h u) n.toInt.toNat 0 15) (K : ∀ x : Int32, (x.toInt = 1 ∧ wsN (nL (ez_I h u)) n.toInt.toNat = 32768 ∨ x.toInt = 0 ∧ wsN (nL (ez_I h u)) n.toInt.toNat ≠ 32768) → Q (.inl (some (.int x))) h) : ∀ N : Nat, (∀ (h2 : ez_H) (a : Int32) (k : Int32) , zW (fun _ _ => False) (fun _ => False) (fun _ => False) h h2 → (0 ≤ k.toInt ∧ k.toInt ≤ n.toInt ∧ a.toInt = (wsN (nL (ez_I h u)) k.toInt.toNat : Nat)) → (2000 - k.toInt) < (N : Int) → pw E d 56 4 [some (.ref u), some (.int n), some (.int a), some (.int k)] [] h2 Q) := by
  intro N
  induction N with
  | zero => exact fun h2 a k  F hinv  hm => absurd hm (by have w_a := z_rng a; have w_k := z_rng k; have gn := z_rng n; omega)
  | succ N ih =>
    refine fun h2 a k  F hinv  hm => ?_
    · skip
      have w_a := z_rng a
      have w_k := z_rng k
      have gn := z_rng n
      have S2 := zW_sh F S
      have hwl := ws_le (L := (nL (ez_I h u))) k.toInt.toNat
      apply ez_Wp_in
      show ez_gw _ _ _ _ _ _ (cz_56) _ _ _ _ _
      refine gw_skip _ ?_
      refine gw_ld rfl rfl ?_
      refine gw_ld rfl rfl ?_
      refine z_b2 (fun c1 => ?_) (fun c1 => ?_)
      · have c1 : n.toInt ≤ k.toInt := c1
        refine gw_skip _ ?_
        refine gw_ld rfl rfl ?_
        refine z_C (m := 32768) rfl rfl (fun x2 ex2 => ?_)
        refine z_b2 (fun c3 => ?_) (fun c3 => ?_)
        · have c3 : a.toInt ≠ x2.toInt := c3
          refine gw_skip _ ?_
          refine z_C (m := 0) rfl rfl (fun x4 ex4 => ?_)
          refine z_rz (by omega) ?_
          exact zW_Q F (K _ (by rw [show n.toInt.toNat = k.toInt.toNat by omega]; omega))
        · have c3 : ¬ (a.toInt ≠ x2.toInt) := c3
          refine z_C (m := 1) rfl rfl (fun x5 ex5 => ?_)
          refine z_go ?_
          refine gw_skip _ ?_
          refine z_rz (by omega) ?_
          exact zW_Q F (K _ (by rw [show n.toInt.toNat = k.toInt.toNat by omega]; omega))
      · have c1 : ¬ (n.toInt ≤ k.toInt) := c1
        refine gw_ld rfl rfl ?_
        refine gw_ld rfl rfl ?_
        refine gw_ld rfl rfl ?_
        refine z_iaV (n := nu) ((hu _ S2).1) ((hu _ S2).2) (by omega) (zW_f F (fun c => c) (fun c => c)) ?_
        generalize ex6 : ez_I h u k.toInt.toNat = x6
        have rx6 := z_rng x6
        have yx6 := hL k.toInt.toNat (by omega)
        rw [ex6] at yx6
        refine z_b1 (fun c7 => ?_) (fun c7 => ?_)
        · have c7 : x6.toInt ≤ 0 := c7
          refine gw_skip _ ?_
          refine z_C (m := 0) rfl rfl (fun x8 ex8 => ?_)
          refine z_add (by omega) (fun x9 ex9 => ?_)
          refine gw_st rfl rfl rfl ?_
          show ez_gw _ _ _ _ _ _ _ _ [some (.ref u), some (.int n), some (.int x9), some (.int k)] _ _ _
          refine z_inc rfl (by rw [show (1 : Int32).toInt = 1 from rfl]; omega) (fun x10 ex10 => ?_)
          rw [show (1 : Int32).toInt = 1 from rfl] at ex10
          show ez_gw _ _ _ _ _ _ _ _ [some (.ref u), some (.int n), some (.int x9), some (.int x10)] _ _ _
          refine z_go ?_
          exact ih h2 x9 x10 F (⟨by omega, by omega, ws_s (n := k.toInt.toNat) (a := a.toInt) (b := x9.toInt - a.toInt) (by omega) (fun q => by rw [show (nL (ez_I h u)) k.toInt.toNat = x6.toInt.toNat from by show (ez_I h u k.toInt.toNat).toInt.toNat = _; rw [ex6]] at q ⊢; omega) (fun q => by rw [show (nL (ez_I h u)) k.toInt.toNat = x6.toInt.toNat from by show (ez_I h u k.toInt.toNat).toInt.toNat = _; rw [ex6]] at q; omega) (by omega) (by omega)⟩)  (by omega)
        · have c7 : ¬ (x6.toInt ≤ 0) := c7
          refine z_C (m := 32768) rfl rfl (fun x11 ex11 => ?_)
          refine gw_ld rfl rfl ?_
          refine gw_ld rfl rfl ?_
          refine z_iaV (n := nu) ((hu _ S2).1) ((hu _ S2).2) (by omega) ((zW_f F (fun c => c) (fun c => c)).trans ex6) ?_
          refine z_2 rfl (fun x13 ex13 => ?_)
          have rx13 := z_rng x13
          have vx13 := n_shr (n := x6.toInt.toNat) (by omega) (by omega) ex13
          have wx13 := pw_div x6.toInt.toNat (by omega)
          have plx13 := Nat.pow_le_pow_right (n := 2) (by decide) (show 15 - x6.toInt.toNat ≤ 15 by omega)
          have pmx13 : (2 : Nat) ^ 15 = 32768 := by decide
          rw [show x11.toInt = 32768 by omega, wx13] at vx13
          refine z_go ?_
          refine gw_skip _ ?_
          refine z_add (by omega) (fun x14 ex14 => ?_)
          refine gw_st rfl rfl rfl ?_
          show ez_gw _ _ _ _ _ _ _ _ [some (.ref u), some (.int n), some (.int x14), some (.int k)] _ _ _
          refine z_inc rfl (by rw [show (1 : Int32).toInt = 1 from rfl]; omega) (fun x15 ex15 => ?_)
          rw [show (1 : Int32).toInt = 1 from rfl] at ex15
          show ez_gw _ _ _ _ _ _ _ _ [some (.ref u), some (.int n), some (.int x14), some (.int x15)] _ _ _
          refine z_go ?_
          exact ih h2 x14 x15 F (⟨by omega, by omega, ws_s (n := k.toInt.toNat) (a := a.toInt) (b := x14.toInt - a.toInt) (by omega) (fun q => by rw [show (nL (ez_I h u)) k.toInt.toNat = x6.toInt.toNat from by show (ez_I h u k.toInt.toNat).toInt.toNat = _; rw [ex6]] at q ⊢; omega) (fun q => by rw [show (nL (ez_I h u)) k.toInt.toNat = x6.toInt.toNat from by show (ez_I h u k.toInt.toNat).toInt.toNat = _; rw [ex6]] at q; omega) (by omega) (by omega)⟩)  (by omega)
set_option maxRecDepth 4000 in
set_option maxHeartbeats 2000000 in
theorem d_whole {E : Nat → Nat × (Nat → Int32)} {d : Nat} {Q : ez_Q} {h : ez_H} {u : Nat} {n : Int32} (S : zSh h) {nu : Nat} (hu : zA u nu) (hn : 0 ≤ n.toInt ∧ n.toInt ≤ nu ∧ nu ≤ 1000) (hL : aR (ez_I h u) n.toInt.toNat 0 15) (K : ∀ x : Int32, (x.toInt = 1 ∧ wsN (nL (ez_I h u)) n.toInt.toNat = 32768 ∨ x.toInt = 0 ∧ wsN (nL (ez_I h u)) n.toInt.toNat ≠ 32768) → Q (.inl (some (.int x))) h) : pw E d 56 0 [some (.ref u), some (.int n), none, none] [] h Q := by
  have gn := z_rng n
  have F := zW_refl (fun _ _ => False) (fun _ => False) (fun _ => False) h
  apply ez_Wp_in
  show ez_gw _ _ _ _ _ _ (cz_56) _ _ _ _ _
  refine gw_skip _ ?_
  refine z_C (m := 0) rfl rfl (fun x1 ex1 => ?_)
  refine gw_st rfl rfl rfl ?_
  show ez_gw _ _ _ _ _ _ _ _ [some (.ref u), some (.int n), some (.int x1), none] _ _ _
  refine z_C (m := 0) rfl rfl (fun x2 ex2 => ?_)
  refine gw_st rfl rfl rfl ?_
  show ez_gw _ _ _ _ _ _ _ _ [some (.ref u), some (.int n), some (.int x1), some (.int x2)] _ _ _
  exact ez_Wp_at ((d_whole_L0 (u := u) (n := n) S hu hn hL K (((2000 - x2.toInt)).toNat + 1)) h x1 x2 F (⟨by omega, by omega, by rw [show x2.toInt.toNat = 0 by omega]; show _ = ((0 : Nat) : Int); omega⟩)  (by omega)) rfl
