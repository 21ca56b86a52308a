/-! the answers of calls that change nothing told -/
theorem an_parts {h : ez_H} {x y : Int32} (R : RR h) (k1 : x = ez_I h 53 1) (j1 : y = ez_I h 71 14) : x.toInt = y.toInt := by
  obtain ⟨T, n, c, p1, p2, _⟩ := R.2.2.2.2.2.2.2.1
  rw [k1, j1, p1, p2]
theorem an_blocks {h : ez_H} {x y : Int32} (R : RR h) (k1 : x = ez_I h 55 2) (j1 : y = ez_I h 71 15) : x.toInt = y.toInt := by
  obtain ⟨T, n, c, b, m, p1, p2, _⟩ := R.2.2.2.2.2.2.2.2
  rw [k1, j1, p1, p2]
theorem an_about {h : ez_H} {w x y : Int32} (R : RR h) (k1 : w.toInt = 0 → x = ez_I h 2 1) (k2 : w.toInt = 1 → x = ez_I h 4 1) (k3 : w.toInt ≠ 0 → w.toInt ≠ 1 → x.toInt = -1) (j1 : w.toInt = 0 → y = ez_I h 71 6) (j2 : w.toInt = 1 → y = ez_I h 71 7) (j3 : w.toInt ≠ 0 → w.toInt ≠ 1 → y.toInt = -1) : x.toInt = y.toInt := by
  by_cases a : w.toInt = 0
  · rw [k1 a, j1 a]; exact R.2.2.2.2.1.1
  · by_cases b : w.toInt = 1
    · rw [k2 b, j2 b]; exact R.2.2.2.2.2.1.1
    · rw [k3 a b, j3 a b]
theorem an_output {h : ez_H} {i x y : Int32} (R : RR h) (k1 : (0 ≤ i.toInt ∧ i.toInt < (ez_I h 4 1).toInt) → x = ez_I h 5 i.toInt.toNat) (k2 : ¬ (0 ≤ i.toInt ∧ i.toInt < (ez_I h 4 1).toInt) → x.toInt = -1) (j1 : (0 ≤ i.toInt ∧ i.toInt < (ez_I h 71 7).toInt) → y.toInt = (ez_I h 73 i.toInt.toNat).toInt % 256) (j2 : ¬ (0 ≤ i.toInt ∧ i.toInt < (ez_I h 71 7).toInt) → y.toInt = -1) : x.toInt = y.toInt := by
  obtain ⟨o1, o2, o3, o4⟩ := R.2.2.2.2.2.1
  rw [← o1] at j1 j2
  by_cases a : 0 ≤ i.toInt ∧ i.toInt < (ez_I h 4 1).toInt
  · rw [k1 a, j1 a]; exact o4 _ (by omega)
  · rw [k2 a, j2 a]
theorem an_part {h : ez_H} {k w x y : Int32} (R : RR h) (k1 : (0 ≤ k.toInt ∧ k.toInt < (ez_I h 53 1).toInt) → w.toInt = 0 → x.toInt = (ez_I h 54 k.toInt.toNat).toInt % 512) (k2 : (0 ≤ k.toInt ∧ k.toInt < (ez_I h 53 1).toInt) → w.toInt = 1 → x.toInt = (ez_I h 54 k.toInt.toNat).toInt / 512) (k3 : (0 ≤ k.toInt ∧ k.toInt < (ez_I h 53 1).toInt) → w.toInt = 2 → x.toInt = k.toInt / 600) (k4 : (¬ (0 ≤ k.toInt ∧ k.toInt < (ez_I h 53 1).toInt) ∨ (w.toInt ≠ 0 ∧ w.toInt ≠ 1 ∧ w.toInt ≠ 2)) → x.toInt = -1)
    (j1 : ¬ (0 ≤ k.toInt ∧ k.toInt < (ez_I h 71 14).toInt ∧ 0 ≤ w.toInt ∧ w.toInt ≤ 2) → y.toInt = -1) (j2 : 0 ≤ k.toInt ∧ k.toInt < (ez_I h 71 14).toInt → w.toInt = 0 → (ez_I h 78 k.toInt.toNat).toInt = 0 → y = ez_I h 79 k.toInt.toNat) (j3 : 0 ≤ k.toInt ∧ k.toInt < (ez_I h 71 14).toInt → w.toInt = 0 → (ez_I h 78 k.toInt.toNat).toInt ≠ 0 → y = ez_I h 77 k.toInt.toNat) (j4 : 0 ≤ k.toInt ∧ k.toInt < (ez_I h 71 14).toInt → w.toInt = 1 → w.toInt = 1 → y = ez_I h 78 k.toInt.toNat) (j5 : 0 ≤ k.toInt ∧ k.toInt < (ez_I h 71 14).toInt → w.toInt = 2 → w.toInt = 2 → y = ez_I h 80 k.toInt.toNat) : x.toInt = y.toInt := by
  obtain ⟨T, n, c, p1, p2, p3, hT, hlt, hq, hm⟩ := R.2.2.2.2.2.2.2.1
  rw [p1] at k1 k2 k3 k4
  rw [p2] at j1 j2 j3 j4 j5
  by_cases a : 0 ≤ k.toInt ∧ k.toInt < (c : Int)
  · have hk : k.toInt.toNat < c := by omega
    obtain ⟨q1, q2⟩ := hq _ hk
    obtain ⟨m1, m2, m3, m4⟩ := hm _ hk
    have hr := pk_rng hT hlt hk
    by_cases w0 : w.toInt = 0
    · rw [k1 a w0, q1]
      rcases hr with r | r
      · rw [j2 a w0 (by rw [m2]; omega), m3]; omega
      · rw [j3 a w0 (by rw [m2]; omega), m1]; omega
    · by_cases w1 : w.toInt = 1
      · rw [k2 a w1, q1, j4 a w1 w1, m2]; omega
      · by_cases w2 : w.toInt = 2
        · rw [k3 a w2, j5 a w2 w2, m4]; omega
        · rw [k4 (.inr ⟨w0, w1, w2⟩), j1 (by omega)]
  · rw [k4 (.inl a), j1 (fun q => a ⟨q.1, q.2.1⟩)]
theorem an_block {h : ez_H} {k w x y : Int32} (R : RR h) (k1 : (0 ≤ k.toInt ∧ k.toInt < (ez_I h 55 2).toInt ∧ 0 ≤ w.toInt ∧ w.toInt < 6) → x = ez_I h 56 (6 * k.toInt + w.toInt).toNat) (k2 : ¬ (0 ≤ k.toInt ∧ k.toInt < (ez_I h 55 2).toInt ∧ 0 ≤ w.toInt ∧ w.toInt < 6) → x.toInt = -1)
    (j0 : ¬ (0 ≤ k.toInt ∧ k.toInt < (ez_I h 71 15).toInt ∧ 0 ≤ w.toInt ∧ w.toInt ≤ 5) → y.toInt = -1) (j1 : 0 ≤ k.toInt ∧ k.toInt < (ez_I h 71 15).toInt → w.toInt = 0 → w.toInt = 0 → y = ez_I h 83 k.toInt.toNat) (j2 : 0 ≤ k.toInt ∧ k.toInt < (ez_I h 71 15).toInt → w.toInt = 1 → w.toInt = 1 → y = ez_I h 84 k.toInt.toNat) (j3 : 0 ≤ k.toInt ∧ k.toInt < (ez_I h 71 15).toInt → w.toInt = 2 → w.toInt = 2 → y = ez_I h 85 k.toInt.toNat) (j4 : 0 ≤ k.toInt ∧ k.toInt < (ez_I h 71 15).toInt → w.toInt = 3 → w.toInt = 3 → y = ez_I h 86 k.toInt.toNat) (j5 : 0 ≤ k.toInt ∧ k.toInt < (ez_I h 71 15).toInt → w.toInt = 4 → w.toInt = 4 → y = ez_I h 87 k.toInt.toNat) (j6 : 0 ≤ k.toInt ∧ k.toInt < (ez_I h 71 15).toInt → w.toInt = 5 → w.toInt = 5 → y = ez_I h 88 k.toInt.toNat) : x.toInt = y.toInt := by
  obtain ⟨T, n, c, b, m, p1, p2, p3, hc, hm⟩ := R.2.2.2.2.2.2.2.2
  rw [p1] at k1 k2
  rw [p2] at j0 j1 j2 j3 j4 j5 j6
  by_cases a : 0 ≤ k.toInt ∧ k.toInt < (m : Int) ∧ 0 ≤ w.toInt ∧ w.toInt < 6
  · have hk : k.toInt.toNat < m := by omega
    have a2 : 0 ≤ k.toInt ∧ k.toInt < (m : Int) := ⟨a.1, a.2.1⟩
    obtain ⟨c0, c1, c2, c3, c4, c5, _⟩ := hc _ hk
    obtain ⟨m0, m1, m2, m3, m4, m5, _⟩ := hm _ hk
    rw [k1 a]
    rcases (by omega : w.toInt = 0 ∨ w.toInt = 1 ∨ w.toInt = 2 ∨ w.toInt = 3 ∨ w.toInt = 4 ∨ w.toInt = 5) with q | q | q | q | q | q
    · rw [j1 a2 q q, m0, show (6 * k.toInt + w.toInt).toNat = 6 * k.toInt.toNat by omega, c0]
    · rw [j2 a2 q q, m1, show (6 * k.toInt + w.toInt).toNat = 6 * k.toInt.toNat + 1 by omega, c1]
    · rw [j3 a2 q q, m2, show (6 * k.toInt + w.toInt).toNat = 6 * k.toInt.toNat + 2 by omega, c2]
    · rw [j4 a2 q q, m3, show (6 * k.toInt + w.toInt).toNat = 6 * k.toInt.toNat + 3 by omega, c3]
    · rw [j5 a2 q q, m4, show (6 * k.toInt + w.toInt).toNat = 6 * k.toInt.toNat + 4 by omega, c4]
    · rw [j6 a2 q q, m5, show (6 * k.toInt + w.toInt).toNat = 6 * k.toInt.toNat + 5 by omega, c5]
  · rw [k2 a, j0 (by omega)]
theorem an_code {h : ez_H} {k w s x y : Int32} (R : RR h) (k0 : ¬ (0 ≤ k.toInt ∧ k.toInt < (ez_I h 55 2).toInt ∧ (ez_I h 56 (6 * k.toInt.toNat)).toInt = 2 ∧ 0 ≤ s.toInt ∧ 0 ≤ w.toInt ∧ w.toInt ≤ 2) → x.toInt = -1) (ka0 : 0 ≤ k.toInt ∧ k.toInt < (ez_I h 55 2).toInt ∧ (ez_I h 56 (6 * k.toInt.toNat)).toInt = 2 ∧ 0 ≤ s.toInt → w.toInt = 0 → 286 ≤ s.toInt → x.toInt = -1) (kb0 : 0 ≤ k.toInt ∧ k.toInt < (ez_I h 55 2).toInt ∧ (ez_I h 56 (6 * k.toInt.toNat)).toInt = 2 ∧ 0 ≤ s.toInt → w.toInt = 0 → s.toInt < 286 → x = ez_I h 57 (335 * k.toInt.toNat + 0 + s.toInt.toNat)) (ka1 : 0 ≤ k.toInt ∧ k.toInt < (ez_I h 55 2).toInt ∧ (ez_I h 56 (6 * k.toInt.toNat)).toInt = 2 ∧ 0 ≤ s.toInt → w.toInt = 1 → 30 ≤ s.toInt → x.toInt = -1) (kb1 : 0 ≤ k.toInt ∧ k.toInt < (ez_I h 55 2).toInt ∧ (ez_I h 56 (6 * k.toInt.toNat)).toInt = 2 ∧ 0 ≤ s.toInt → w.toInt = 1 → s.toInt < 30 → x = ez_I h 57 (335 * k.toInt.toNat + 286 + s.toInt.toNat)) (ka2 : 0 ≤ k.toInt ∧ k.toInt < (ez_I h 55 2).toInt ∧ (ez_I h 56 (6 * k.toInt.toNat)).toInt = 2 ∧ 0 ≤ s.toInt → w.toInt = 2 → 19 ≤ s.toInt → x.toInt = -1) (kb2 : 0 ≤ k.toInt ∧ k.toInt < (ez_I h 55 2).toInt ∧ (ez_I h 56 (6 * k.toInt.toNat)).toInt = 2 ∧ 0 ≤ s.toInt → w.toInt = 2 → s.toInt < 19 → x = ez_I h 57 (335 * k.toInt.toNat + 316 + s.toInt.toNat))
    (j0 : ¬ (0 ≤ k.toInt ∧ k.toInt < (ez_I h 71 15).toInt ∧ (ez_I h 83 k.toInt.toNat).toInt = 2 ∧ 0 ≤ s.toInt ∧ 0 ≤ w.toInt ∧ w.toInt ≤ 2) → y.toInt = -1) (ja0 : 0 ≤ k.toInt ∧ k.toInt < (ez_I h 71 15).toInt ∧ (ez_I h 83 k.toInt.toNat).toInt = 2 ∧ 0 ≤ s.toInt → w.toInt = 0 → 286 ≤ s.toInt → y.toInt = -1) (jb0 : 0 ≤ k.toInt ∧ k.toInt < (ez_I h 71 15).toInt ∧ (ez_I h 83 k.toInt.toNat).toInt = 2 ∧ 0 ≤ s.toInt → w.toInt = 0 → s.toInt < 286 → y = ez_I h 89 (288 * k.toInt.toNat + s.toInt.toNat)) (ja1 : 0 ≤ k.toInt ∧ k.toInt < (ez_I h 71 15).toInt ∧ (ez_I h 83 k.toInt.toNat).toInt = 2 ∧ 0 ≤ s.toInt → w.toInt = 1 → 30 ≤ s.toInt → y.toInt = -1) (jb1 : 0 ≤ k.toInt ∧ k.toInt < (ez_I h 71 15).toInt ∧ (ez_I h 83 k.toInt.toNat).toInt = 2 ∧ 0 ≤ s.toInt → w.toInt = 1 → s.toInt < 30 → y = ez_I h 90 (30 * k.toInt.toNat + s.toInt.toNat)) (ja2 : 0 ≤ k.toInt ∧ k.toInt < (ez_I h 71 15).toInt ∧ (ez_I h 83 k.toInt.toNat).toInt = 2 ∧ 0 ≤ s.toInt → w.toInt = 2 → 19 ≤ s.toInt → y.toInt = -1) (jb2 : 0 ≤ k.toInt ∧ k.toInt < (ez_I h 71 15).toInt ∧ (ez_I h 83 k.toInt.toNat).toInt = 2 ∧ 0 ≤ s.toInt → w.toInt = 2 → s.toInt < 19 → y = ez_I h 91 (19 * k.toInt.toNat + s.toInt.toNat)) : x.toInt = y.toInt := by
  obtain ⟨T, n, c, b, m, p1, p2, p3, hc, hm⟩ := R.2.2.2.2.2.2.2.2
  rw [p1] at k0 ka0 kb0 ka1 kb1 ka2 kb2
  rw [p2] at j0 ja0 jb0 ja1 jb1 ja2 jb2
  by_cases a : 0 ≤ k.toInt ∧ k.toInt < (m : Int)
  · have hk : k.toInt.toNat < m := by omega
    obtain ⟨c0, c1, c2, c3, c4, c5, c6⟩ := hc _ hk
    obtain ⟨m0, m1, m2, m3, m4, m5, m6, m7, m8⟩ := hm _ hk
    rw [c0] at k0 ka0 kb0 ka1 kb1 ka2 kb2
    rw [m0] at j0 ja0 jb0 ja1 jb1 ja2 jb2
    generalize hW : bkW T n (600 * k.toInt.toNat) (blJ c k.toInt.toNat) (pkS T n c b k.toInt.toNat).2 = W at *
    by_cases e : (0 ≤ k.toInt ∧ k.toInt < (m : Int) ∧ ((W : Nat) : Int) = 2 ∧ 0 ≤ s.toInt) ∧ 0 ≤ w.toInt ∧ w.toInt ≤ 2
    · obtain ⟨r0, r1, r2⟩ := c6 (by omega)
      have e1 := e.1
      rcases (by omega : w.toInt = 0 ∨ w.toInt = 1 ∨ w.toInt = 2) with q | q | q
      · by_cases z : s.toInt < 286
        · rw [kb0 e1 q z, jb0 e1 q z, show 335 * k.toInt.toNat + 0 + s.toInt.toNat = 335 * k.toInt.toNat + s.toInt.toNat by omega, r0 _ (by omega), m6 _ (by omega)]
        · rw [ka0 e1 q (by omega), ja0 e1 q (by omega)]
      · by_cases z : s.toInt < 30
        · rw [kb1 e1 q z, jb1 e1 q z, r1 _ (by omega), m7 _ (by omega)]
        · rw [ka1 e1 q (by omega), ja1 e1 q (by omega)]
      · by_cases z : s.toInt < 19
        · rw [kb2 e1 q z, jb2 e1 q z, r2 _ (by omega), m8 _ (by omega)]
        · rw [ka2 e1 q (by omega), ja2 e1 q (by omega)]
    · rw [k0 (by omega), j0 (by omega)]
  · rw [k0 (by omega), j0 (by omega)]
