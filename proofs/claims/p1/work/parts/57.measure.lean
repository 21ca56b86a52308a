/-! measure, limit by limit -/
theorem c_16_1 : lw_1 663 (lw_sc (.num 1) ev_top) = true := by decide +kernel
theorem c_16_2 : lw_1 663 (lw_sc (.num 2) ev_top) = true := by decide +kernel
theorem c_16_3 : lw_1 663 (lw_sc (.num 3) ev_top) = true := by decide +kernel
theorem c_16_4 : lw_1 663 (lw_sc (.num 4) ev_top) = true := by decide +kernel
theorem c_16_5 : lw_1 663 (lw_sc (.num 5) ev_top) = true := by decide +kernel
theorem c_16_6 : lw_1 663 (lw_sc (.num 6) ev_top) = true := by decide +kernel
theorem c_16_7 : lw_1 663 (lw_sc (.num 7) ev_top) = true := by decide +kernel
theorem c_16_8 : lw_1 663 (lw_sc (.num 8) ev_top) = true := by decide +kernel
theorem c_16_9 : lw_1 663 (lw_sc (.num 9) ev_top) = true := by decide +kernel
theorem c_16_10 : lw_1 663 (lw_sc (.num 10) ev_top) = true := by decide +kernel
theorem c_16_11 : lw_1 663 (lw_sc (.num 11) ev_top) = true := by decide +kernel
theorem c_16_12 : lw_1 663 (lw_sc (.num 12) ev_top) = true := by decide +kernel
theorem c_16_13 : lw_1 663 (lw_sc (.num 13) ev_top) = true := by decide +kernel
theorem c_16_14 : lw_1 663 (lw_sc (.num 14) ev_top) = true := by decide +kernel
theorem c_16_15 : lw_1 663 (lw_sc (.num 15) ev_top) = true := by decide +kernel
theorem c_16 : ∀ n, 1 ≤ n → n ≤ 15 → lw_1 663 (lw_sc (.num n) ev_top) = true := fun n h1 h2 => by
  match n, h1, h2 with
  | 1, _, _ => exact c_16_1
  | 2, _, _ => exact c_16_2
  | 3, _, _ => exact c_16_3
  | 4, _, _ => exact c_16_4
  | 5, _, _ => exact c_16_5
  | 6, _, _ => exact c_16_6
  | 7, _, _ => exact c_16_7
  | 8, _, _ => exact c_16_8
  | 9, _, _ => exact c_16_9
  | 10, _, _ => exact c_16_10
  | 11, _, _ => exact c_16_11
  | 12, _, _ => exact c_16_12
  | 13, _, _ => exact c_16_13
  | 14, _, _ => exact c_16_14
  | 15, _, _ => exact c_16_15
  | 0, h, _ => exact absurd h (by decide)
  | n + 16, _, h => omega
