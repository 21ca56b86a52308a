/-! the answers of calls that change nothing told -/
theorem an_blocks {h : ez_H} {x y : Int32} (R : RR h) (k1 : x = ez_I h 55 2) (j1 : y = ez_I h 71 15) : x.toInt = y.toInt := by
  obtain ⟨T, n, c, b, m, p1, p2, _⟩ := R.2.2.2.2.2.2.2.2
  rw [k1, j1, p1, p2]
