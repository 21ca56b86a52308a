/-! a code of one bit at most: the class's way and the model's sum of lengths -/
def smN (L : Nat → Nat) : Nat → Nat
  | 0 => 0
  | n + 1 => smN L n + L n
def czN (L : Nat → Nat) : Nat → Nat
  | 0 => 0
  | n + 1 => czN L n + if 1 ≤ L n then 1 else 0
theorem pl_0 (L : Nat → Nat) : ∀ l, plN L 0 l = 0 := by
  intro l
  induction l with
  | zero => rfl
  | succ l ih =>
    by_cases q : l = 0
    · rw [q]; rfl
    · rw [plN_s (by omega), ih]; rfl
theorem pl_up (L : Nat → Nat) (n : Nat) : ∀ l, plN L (n + 1) l = plN L n l + if 1 ≤ L n ∧ L n < l then 1 else 0 := by
  intro l
  induction l with
  | zero => rw [if_neg (by omega)]; rfl
  | succ l ih =>
    by_cases q : l = 0
    · rw [q, if_neg (by omega)]; rfl
    · rw [plN_s (by omega), plN_s (by omega), ih]
      by_cases e : L n = l
      · rw [ctN_y e, if_neg (by omega), if_pos (by omega)]; omega
      · rw [ctN_n e]
        by_cases q2 : 1 ≤ L n ∧ L n < l
        · rw [if_pos q2, if_pos (by omega)]; omega
        · rw [if_neg q2, if_neg (by omega)]; omega
theorem pl_cz {L : Nat → Nat} : ∀ n, (∀ k, k < n → L k ≤ 15) → plN L n 16 = czN L n := by
  intro n
  induction n with
  | zero => intro _; exact pl_0 L 16
  | succ n ih =>
    intro h
    have h1 := h n (by omega)
    rw [pl_up, ih (fun k hk => h k (by omega))]
    show _ = czN L n + _
    by_cases q : 1 ≤ L n
    · rw [if_pos q, if_pos (by omega)]
    · rw [if_neg q, if_neg (by omega)]
theorem sm_all {L : Nat → Nat} : ∀ n, (∀ k, k < n → L k ≤ 15) → czN L n ≤ smN L n ∧ ctN L 1 n ≤ czN L n ∧ 2 * czN L n ≤ smN L n + ctN L 1 n ∧ smN L n + 14 * ctN L 1 n ≤ 15 * czN L n := by
  intro n
  induction n with
  | zero => intro _; exact ⟨Nat.le_refl 0, Nat.le_refl 0, Nat.le_refl 0, Nat.le_refl 0⟩
  | succ n ih =>
    intro h
    have h1 := h n (by omega)
    have h2 := ih (fun k hk => h k (by omega))
    have e1 : smN L (n + 1) = smN L n + L n := rfl
    have e2 : czN L (n + 1) = czN L n + if 1 ≤ L n then 1 else 0 := rfl
    by_cases q : L n = 1
    · rw [ctN_y q]
      rw [if_pos (by omega)] at e2
      omega
    · rw [ctN_n q]
      by_cases q2 : 1 ≤ L n
      · rw [if_pos q2] at e2
        omega
      · rw [if_neg q2] at e2
        omega
theorem one_some {L : Nat → Nat} {n : Nat} (h : ∀ k, k < n → L k ≤ 15) : (plN L n 16 = 0 ∨ plN L n 16 = 1 ∧ ctN L 1 n = 1) ↔ smN L n ≤ 1 := by
  have h1 := sm_all n h
  rw [pl_cz n h]
  omega
