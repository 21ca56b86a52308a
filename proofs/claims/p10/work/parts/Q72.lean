/-! the answers of calls that change nothing told -/
theorem an_part {h : ez_H} {k w x y : Int32} (R : RR h) (k1 : (0 ≤ k.toInt ∧ k.toInt < (ez_I h 53 1).toInt) → w.toInt = 0 → x.toInt = (ez_I h 54 k.toInt.toNat).toInt % 512) (k2 : (0 ≤ k.toInt ∧ k.toInt < (ez_I h 53 1).toInt) → w.toInt = 1 → x.toInt = (ez_I h 54 k.toInt.toNat).toInt / 512) (k3 : (0 ≤ k.toInt ∧ k.toInt < (ez_I h 53 1).toInt) → w.toInt = 2 → x.toInt = k.toInt / 600) (k4 : (¬ (0 ≤ k.toInt ∧ k.toInt < (ez_I h 53 1).toInt) ∨ (w.toInt ≠ 0 ∧ w.toInt ≠ 1 ∧ w.toInt ≠ 2)) → x.toInt = -1)
    (j1 : ¬ (0 ≤ k.toInt ∧ k.toInt < (ez_I h 71 14).toInt ∧ 0 ≤ w.toInt ∧ w.toInt ≤ 2) → y.toInt = -1) (j2 : 0 ≤ k.toInt ∧ k.toInt < (ez_I h 71 14).toInt → w.toInt = 0 → (ez_I h 78 k.toInt.toNat).toInt = 0 → y = ez_I h 79 k.toInt.toNat) (j3 : 0 ≤ k.toInt ∧ k.toInt < (ez_I h 71 14).toInt → w.toInt = 0 → (ez_I h 78 k.toInt.toNat).toInt ≠ 0 → y = ez_I h 77 k.toInt.toNat) (j4 : 0 ≤ k.toInt ∧ k.toInt < (ez_I h 71 14).toInt → w.toInt = 1 → w.toInt = 1 → y = ez_I h 78 k.toInt.toNat) (j5 : 0 ≤ k.toInt ∧ k.toInt < (ez_I h 71 14).toInt → w.toInt = 2 → w.toInt = 2 → y = ez_I h 80 k.toInt.toNat) : x.toInt = y.toInt := by
  obtain ⟨T, n, c, p1, p2, p3, hT, hlt, hq, hm⟩ := R.2.2.2.2.2.2.2.1
  rw [p1] at k1 k2 k3 k4
  rw [p2] at j1 j2 j3 j4 j5
  by_cases a : 0 ≤ k.toInt ∧ k.toInt < (c : Int)
  · have hk : k.toInt.toNat < c := by omega
    obtain ⟨q1, q2⟩ := hq _ hk
    obtain ⟨m1, m2, m3, m4⟩ := hm _ hk
    have hr := pk_rng hT hlt hk
    by_cases w0 : w.toInt = 0
    · rw [k1 a w0, q1]
      rcases hr with r | r
      · rw [j2 a w0 (by rw [m2]; omega), m3]; omega
      · rw [j3 a w0 (by rw [m2]; omega), m1]; omega
    · by_cases w1 : w.toInt = 1
      · rw [k2 a w1, q1, j4 a w1 w1, m2]; omega
      · by_cases w2 : w.toInt = 2
        · rw [k3 a w2, j5 a w2 w2, m4]; omega
        · rw [k4 (.inr ⟨w0, w1, w2⟩), j1 (by omega)]
  · rw [k4 (.inl a), j1 (fun q => a ⟨q.1, q.2.1⟩)]
