/-! the model's codes -/
def ctM (g : Nat → Int32) (L : Nat → Nat) (n : Nat) : Prop := (g 0).toInt = 0 ∧ ∀ l, 1 ≤ l → l < 17 → (g l).toInt = (ctN L l n : Nat)
theorem ctM_a {g : Nat → Int32} {L : Nat → Nat} (A : aR g 17 0 0) : ctM g L 0 := ⟨by have := A 0 (by decide); omega, fun l _ h2 => by have := A l h2; show _ = ((0 : Nat) : Int); omega⟩
theorem ctM_y {h h2 : ez_H} {c x n m : Nat} {o y : Int32} {L : Nat → Nat} (A : ctM (ez_I h c) L n) (e : h2 = ez_setI h c x y) (hx : x = L n) (h1 : 1 ≤ L n ∧ L n < 17) (eo : ez_I h c x = o) (hy : y.toInt = o.toInt + 1) (hm : m = n + 1) : ctM (ez_I h2 c) L m := by
  subst hm
  refine ⟨by rw [zI_ne e (by omega)]; exact A.1, fun l a b => ?_⟩
  by_cases q : l = x
  · subst q
    have := A.2 l a b
    rw [eo] at this
    rw [zI_eq e, hy, this, ctN_y hx.symm]
    omega
  · rw [zI_ne e (fun z => q z.2), A.2 l a b, ctN_n (by omega)]
theorem ctM_w {h h2 : ez_H} {c n m x : Nat} {o y : Int32} {L : Nat → Nat} (A : ctM (ez_I h c) L n) (e : h2 = ez_setI h c x y) (hx : x = 0) (h0 : L n = 0) (eo : ez_I h c x = o) (hy : y.toInt = o.toInt) (hm : m = n + 1) : ctM (ez_I h2 c) L m := by
  subst hm; subst hx
  refine ⟨by rw [zI_eq e, hy, ← eo]; exact A.1, fun l a b => ?_⟩
  rw [zI_ne e (by omega), A.2 l a b, ctN_n (by omega)]
theorem ctM_rng {g : Nat → Int32} {L : Nat → Nat} {n l : Nat} (A : ctM g L n) (h : l < 17) : 0 ≤ (g l).toInt ∧ (g l).toInt ≤ n := by
  by_cases c : l = 0
  · subst c; have := A.1; omega
  · have a := A.2 l (by omega) h
    have b := ctN_le L l n
    omega
theorem ncN_b2 {L : Nat → Nat} {N l : Nat} (hN : N ≤ 288) (h : l ≤ 17) : ncN L N l ≤ 80000000 := by
  by_cases e : l = 0
  · subst e; show 0 ≤ 80000000; omega
  · have h1 := ncN_le L N (l - 1)
    rw [show l - 1 + 1 = l by omega] at h1
    have h2 : (2 : Nat) ^ (l - 1 + 2) ≤ 2 ^ 18 := Nat.pow_le_pow_right (by decide) (by omega)
    have h3 : N * 2 ^ (l - 1 + 2) ≤ 288 * 2 ^ 18 := Nat.mul_le_mul hN h2
    omega
/-- a bit from the other end -/
theorem rv_or {v b sh w x : Int32} {r j l : Nat} (hv : v.toInt = ((r * 2 ^ (l - j) : Nat) : Int)) (hr : r < 2 ^ j) (hj : j < l) (hl : l ≤ 15) (hb : b.toInt = 0 ∨ b.toInt = 1) (hs : sh.toInt = ((l - 1 - j : Nat) : Int)) (gw : w = b <<< (sh &&& 31)) (gx : x = v ||| w) : x.toInt = v.toInt + b.toInt * 2 ^ (l - 1 - j) := by
  have p1 : (2 : Int) ^ (l - 1 - j) ≤ 2 ^ 14 := z_pow_le (by omega)
  have p0 := pw0 (l - 1 - j)
  have p2 := mulB (x := b.toInt) (y := 2 ^ (l - 1 - j)) (a := 1) (b := 16384) (c := 16384) ⟨by omega, by omega⟩ ⟨by omega, by omega⟩ (by decide)
  have hw : w.toInt = b.toInt * 2 ^ (l - 1 - j) := n_shl (n := l - 1 - j) hs (by omega) (by omega) (by omega) gw
  have p3 : b.toInt * 2 ^ (l - 1 - j) ≤ 2 ^ (l - 1 - j) := by
    rcases hb with q | q <;> rw [q]
    · rw [Int.zero_mul]; omega
    · rw [Int.one_mul]; exact Int.le_refl _
  have p4 : (2 : Int) ^ (l - 1 - j) < 2 ^ (l - j) := by
    rw [show l - j = (l - 1 - j) + 1 by omega, Int.pow_succ]
    omega
  have p5 : r * 2 ^ (l - j) ≤ 2 ^ 15 := by
    have a : r * 2 ^ (l - j) ≤ 2 ^ j * 2 ^ (l - j) := Nat.mul_le_mul_right _ (by omega)
    rw [← Nat.pow_add, show j + (l - j) = l by omega] at a
    exact Nat.le_trans a (Nat.pow_le_pow_right (by decide) hl)
  exact (n_or (n := l - j) (a := (r : Int)) (by rw [hv, Int.natCast_mul, n_pow]) (by omega) (by omega) (by omega) gx).trans (by rw [hw])
theorem rv_st {w l j m : Nat} {v b x : Int} (hv : v = ((rvN w j * 2 ^ (l - j) : Nat) : Int)) (hb : b = ((w / 2 ^ j % 2 : Nat) : Int)) (hx : x = v + b * 2 ^ (l - 1 - j)) (hj : j < l) (hm : m = j + 1) : x = ((rvN w m * 2 ^ (l - m) : Nat) : Int) := by
  subst hm
  rw [← rvN_up hj, hx, hv, hb, n_pow, Int.natCast_add, Int.natCast_mul, Int.natCast_mul]
