/-! the answers of calls that change nothing told -/
theorem an_parts {h : ez_H} {x y : Int32} (R : RR h) (k1 : x = ez_I h 53 1) (j1 : y = ez_I h 71 14) : x.toInt = y.toInt := by
  obtain ⟨T, n, c, p1, p2, _⟩ := R.2.2.2.2.2.2.2.1
  rw [k1, j1, p1, p2]
