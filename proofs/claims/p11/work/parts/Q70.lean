/-! both objects tell the same -/
def zV (PF : Nat → Nat → Prop) (PA : Nat → Prop) (h h2 : ez_H) : Prop := zSh h2 ∧ ∀ p k, ¬ PA p → ¬ PF p k → ez_I h2 p k = ez_I h p k
theorem zV_of {PF : Nat → Nat → Prop} {PA PL : Nat → Prop} {h h2 : ez_H} (S : zSh h) (F : zW PF PA PL h h2) : zV PF PA h h2 := ⟨zW_sh F S, fun p k a b => zW_f F a b⟩
theorem zV_fn {PF : Nat → Nat → Prop} {PA : Nat → Prop} {h h2 : ez_H} (V : zV PF PA h h2) (p : Nat) (a : ¬ PA p) (b : ∀ k, ¬ PF p k) : ez_I h2 p = ez_I h p := funext fun k => V.2 p k a (b k)
theorem zV_f {PF : Nat → Nat → Prop} {PA : Nat → Prop} {h h2 : ez_H} (V : zV PF PA h h2) (p k : Nat) (a : ¬ PA p) (b : ¬ PF p k) : ez_I h2 p k = ez_I h p k := V.2 p k a b
def rTp (x : Int32) (f : Nat → Int32) (y : Int32) (g : Nat → Int32) : Prop := x.toInt = y.toInt ∧ 0 ≤ x.toInt ∧ x.toInt ≤ 6000 ∧ (∀ i : Nat, (i : Int) < x.toInt → (f i).toInt = (g i).toInt % 256) ∧ aR g 6000 (-128) 127
def rOp (x : Int32) (f : Nat → Int32) (y : Int32) (g : Nat → Int32) : Prop := x.toInt = y.toInt ∧ 0 ≤ x.toInt ∧ x.toInt ≤ 6100 ∧ ∀ i : Nat, (i : Int) < x.toInt → (f i).toInt = (g i).toInt % 256
def rYp (f g : Nat → Int32) : Prop := (∀ k, k < 20 → (f k).toInt = (g k).toInt % 256) ∧ aR g 20 (-128) 127
def rPp (x : Int32) (f : Nat → Int32) (y : Int32) (g7 g8 g9 g0 : Nat → Int32) : Prop := ∃ (T : Nat → Int) (n c : Nat), x.toInt = (c : Nat) ∧ y.toInt = (c : Nat) ∧ c ≤ 6000 ∧ (∀ i, i < n → 0 ≤ T i ∧ T i ≤ 255) ∧ ltP T n c ∧ pqG f (aM T n) (dI T n) c ∧ pmI g7 g8 g9 g0 T n c
def rBp (x : Int32) (f g : Nat → Int32) (y : Int32) (a3 a4 a5 a6 a7 a8 a9 a0 a1 : Nat → Int32) : Prop := ∃ (T : Nat → Int) (n c b m : Nat), x.toInt = (m : Nat) ∧ y.toInt = (m : Nat) ∧ m ≤ 10 ∧ (∀ i, i < m → bfC f g T n c b i) ∧ ∀ i, i < m → bfM a3 a4 a5 a6 a7 a8 a9 a0 a1 T n c b i
def rFp (x : Int32) (f16 f17 f18 f19 : Nat → Int32) (y : Int32) (f23 f24 f25 f26 : Nat → Int32) : Prop := (aR f16 288 0 15 ∧ wdI f17 (nL f16) 288 288 ∧ (∀ k, k < 288 → nL f16 k = fxL k) ∧ ctC f18 (nL f16) 288 ∧ x.toInt = (plN (nL f16) 288 16 : Nat) ∧ itI f19 (nL f16) 288 288) ∧ aR f23 288 0 15 ∧ wdI f24 (nL f23) 288 288 ∧ (∀ k, k < 288 → nL f23 k = fxD k) ∧ ctC f25 (nL f23) 288 ∧ y.toInt = (plN (nL f23) 288 16 : Nat) ∧ itI f26 (nL f23) 288 288
def rMp (g75 g92 g93 g94 g95 g96 : Nat → Int32) : Prop := aR g75 8000 (-128) 127 ∧ ctI g92 LBf 29 ∧ ctI g93 LEf 29 ∧ ctI g94 DBf 30 ∧ ctI g95 DEf 30 ∧ ctI g96 ORf 19
def rWp (f g : Nat → Int32) : Prop := aR f 64 0 1000000 ∧ aR g 64 0 1000000
def RR (h : ez_H) : Prop := zSh h ∧ rFp (ez_I h 15 4) (ez_I h 16) (ez_I h 17) (ez_I h 18) (ez_I h 19) (ez_I h 22 4) (ez_I h 23) (ez_I h 24) (ez_I h 25) (ez_I h 26) ∧ rMp (ez_I h 75) (ez_I h 92) (ez_I h 93) (ez_I h 94) (ez_I h 95) (ez_I h 96) ∧ rWp (ez_I h 7) (ez_I h 124) ∧ rTp (ez_I h 2 1) (ez_I h 3) (ez_I h 71 6) (ez_I h 72) ∧ rOp (ez_I h 4 1) (ez_I h 5) (ez_I h 71 7) (ez_I h 73) ∧ rYp (ez_I h 6) (ez_I h 74) ∧ rPp (ez_I h 53 1) (ez_I h 54) (ez_I h 71 14) (ez_I h 77) (ez_I h 78) (ez_I h 79) (ez_I h 80) ∧ rBp (ez_I h 55 2) (ez_I h 56) (ez_I h 57) (ez_I h 71 15) (ez_I h 83) (ez_I h 84) (ez_I h 85) (ez_I h 86) (ez_I h 87) (ez_I h 88) (ez_I h 89) (ez_I h 90) (ez_I h 91)
/-- what the class's calls ask for -/
theorem RR_z {h : ez_H} (R : RR h) : 0 ≤ (ez_I h 2 1).toInt ∧ (ez_I h 2 1).toInt ≤ 6000 := ⟨R.2.2.2.2.1.2.1, R.2.2.2.2.1.2.2.1⟩
theorem RR_o {h : ez_H} (R : RR h) : 0 ≤ (ez_I h 4 1).toInt ∧ (ez_I h 4 1).toInt ≤ 6100 := ⟨R.2.2.2.2.2.1.2.1, R.2.2.2.2.2.1.2.2.1⟩
theorem RR_b {h : ez_H} (R : RR h) : aR (ez_I h 3) (ez_I h 2 1).toInt.toNat 0 255 := fun i hi => by
  have h0 := R.2.2.2.2.1.2.1
  have h1 := R.2.2.2.2.1.2.2.2.1 i (by omega)
  omega
theorem RR_c {h : ez_H} (R : RR h) : 0 ≤ (ez_I h 53 1).toInt ∧ (ez_I h 53 1).toInt ≤ 6000 := by
  obtain ⟨T, n, c, a, _, b, _⟩ := R.2.2.2.2.2.2.2.1
  omega
theorem RR_k {h : ez_H} (R : RR h) : 0 ≤ (ez_I h 55 2).toInt ∧ (ez_I h 55 2).toInt ≤ 10 := by
  obtain ⟨T, n, c, b, m, a, _, d, _⟩ := R.2.2.2.2.2.2.2.2
  omega
/-- what the reference's calls ask for: kept by every call of the class -/
def MM (h : ez_H) : Prop := zSh h ∧ (0 ≤ (ez_I h 71 6).toInt ∧ (ez_I h 71 6).toInt ≤ 6000) ∧ aR (ez_I h 72) 6000 (-128) 127 ∧ (0 ≤ (ez_I h 71 7).toInt ∧ (ez_I h 71 7).toInt ≤ 6200) ∧ aR (ez_I h 74) 20 (-128) 127 ∧ rMp (ez_I h 75) (ez_I h 92) (ez_I h 93) (ez_I h 94) (ez_I h 95) (ez_I h 96) ∧ (0 ≤ (ez_I h 71 14).toInt ∧ (ez_I h 71 14).toInt ≤ 6000) ∧ (0 ≤ (ez_I h 71 15).toInt ∧ (ez_I h 71 15).toInt ≤ 10) ∧ aR (ez_I h 124) 64 0 1000000
theorem MM_R {h : ez_H} (R : RR h) : MM h := by
  obtain ⟨S, _, m, w, t, o, y, p, b⟩ := R
  obtain ⟨T, n, c, _, p2, p3, _⟩ := p
  obtain ⟨T2, n2, c2, d2, m2, _, b2, b3, _⟩ := b
  exact ⟨S, ⟨by have := t.1; have := t.2.1; omega, by have := t.1; have := t.2.2.1; omega⟩, t.2.2.2.2, ⟨by have := o.1; have := o.2.1; omega, by have := o.1; have := o.2.2.1; omega⟩, y.2, m, by omega, by omega, w.2⟩
theorem MM_C {PF : Nat → Nat → Prop} {PA : Nat → Prop} {h h2 : ez_H} (M : MM h) (V : zV PF PA h h2) (a : ∀ q, PA q → q ≤ 70) (b : ∀ q k, PF q k → q ≤ 70) : MM h2 := by
  have e : ∀ q, 71 ≤ q → ez_I h2 q = ez_I h q := fun q hq => zV_fn V q (fun c => by have := a q c; omega) (fun k c => by have := b q k c; omega)
  unfold MM
  rw [e 71 (by decide), e 72 (by decide), e 74 (by decide), e 75 (by decide), e 92 (by decide), e 93 (by decide), e 94 (by decide), e 95 (by decide), e 96 (by decide), e 124 (by decide)]
  exact ⟨V.1, M.2⟩
/-- calls told by both tapes -/
theorem rY_f {f g : Nat → Int32} {a0 a1 a2 a3 a4 : Int32} (c0 : rdC f 0 a0 4) (c1 : rdC f 4 a1 4) (c2 : rdC f 8 a2 4) (c3 : rdC f 12 a3 4) (c4 : rdC f 16 a4 4) (m0 : rdM g 0 a0 4) (m1 : rdM g 4 a1 4) (m2 : rdM g 8 a2 4) (m3 : rdM g 12 a3 4) (m4 : rdM g 16 a4 4) (hg : aR g 20 (-128) 127) : rYp f g := by
  refine ⟨fun k hk => ?_, hg⟩
  have e : ∀ b a, rdC f b a 4 → rdM g b a 4 → b ≤ k → k < b + 4 → (f k).toInt = (g k).toInt % 256 := fun b a x y h1 h2 => by
    have hx := x (k - b) (by omega)
    have hy := y (k - b) (by omega)
    rw [show b + (k - b) = k by omega] at hx hy
    rw [hx, hy]
  rcases (by omega : k < 4 ∨ (4 ≤ k ∧ k < 8) ∨ (8 ≤ k ∧ k < 12) ∨ (12 ≤ k ∧ k < 16) ∨ 16 ≤ k) with q | q | q | q | q
  · exact e 0 a0 c0 m0 (by omega) (by omega)
  · exact e 4 a1 c1 m1 (by omega) (by omega)
  · exact e 8 a2 c2 m2 (by omega) (by omega)
  · exact e 12 a3 c3 m3 (by omega) (by omega)
  · exact e 16 a4 c4 m4 (by omega) (by omega)
theorem rT_cut {x x1 y y1 n a b : Int32} {f g : Nat → Int32} (R : rTp x f y g) (k1 : (0 ≤ n.toInt ∧ n.toInt ≤ x.toInt) ∧ a.toInt = 1 ∧ x1 = n ∨ ¬ (0 ≤ n.toInt ∧ n.toInt ≤ x.toInt) ∧ a.toInt = 0 ∧ x1 = x) (k2 : (0 ≤ n.toInt ∧ n.toInt ≤ y.toInt) ∧ b.toInt = 1 ∧ y1 = n ∨ ¬ (0 ≤ n.toInt ∧ n.toInt ≤ y.toInt) ∧ b.toInt = 0 ∧ y1 = y) : rTp x1 f y1 g ∧ a.toInt = b.toInt := by
  obtain ⟨r1, r2, r3, r4, r5⟩ := R
  rcases k1 with ⟨p1, p2, p3⟩ | ⟨p1, p2, p3⟩
  · rcases k2 with ⟨q1, q2, q3⟩ | ⟨q1, q2, q3⟩
    · rw [p3, q3]; exact ⟨⟨rfl, p1.1, by omega, fun i hi => r4 i (by omega), r5⟩, by omega⟩
    · exfalso; omega
  · rcases k2 with ⟨q1, q2, q3⟩ | ⟨q1, q2, q3⟩
    · exfalso; omega
    · rw [p3, q3]; exact ⟨⟨r1, r2, r3, r4, r5⟩, by omega⟩
theorem rT_flip {x y i b a d : Int32} {f f1 g g1 : Nat → Int32} (R : rTp x f y g) (k1 : (0 ≤ i.toInt ∧ i.toInt < x.toInt ∧ 0 ≤ b.toInt ∧ b.toInt ≤ 7) ∧ a.toInt = 1 ∧ f1 i.toInt.toNat = flF b (f i.toInt.toNat) ∧ (∀ k, k ≠ i.toInt.toNat → f1 k = f k) ∨ ¬ (0 ≤ i.toInt ∧ i.toInt < x.toInt ∧ 0 ≤ b.toInt ∧ b.toInt ≤ 7) ∧ a.toInt = 0 ∧ f1 = f) (k2 : (0 ≤ i.toInt ∧ i.toInt < y.toInt ∧ 0 ≤ b.toInt ∧ b.toInt ≤ 7) ∧ d.toInt = 1 ∧ g1 i.toInt.toNat = (flF b (g i.toInt.toNat)).toInt8.toInt32 ∧ (∀ k, k ≠ i.toInt.toNat → g1 k = g k) ∨ ¬ (0 ≤ i.toInt ∧ i.toInt < y.toInt ∧ 0 ≤ b.toInt ∧ b.toInt ≤ 7) ∧ d.toInt = 0 ∧ g1 = g) : rTp x f1 y g1 ∧ a.toInt = d.toInt := by
  obtain ⟨r1, r2, r3, r4, r5⟩ := R
  rcases k1 with ⟨p1, p2, p3, p4⟩ | ⟨p1, p2, p3⟩
  · rcases k2 with ⟨q1, q2, q3, q4⟩ | ⟨q1, q2, q3⟩
    · refine ⟨⟨r1, r2, r3, fun k hk => ?_, fun k hk => ?_⟩, by omega⟩
      · by_cases e : k = i.toInt.toNat
        · rw [e, p3, q3]
          exact (flF_rel (r4 i.toInt.toNat (by omega)) ⟨p1.2.2.1, p1.2.2.2⟩).1
        · rw [p4 k e, q4 k e]; exact r4 k hk
      · by_cases e : k = i.toInt.toNat
        · rw [e, q3]; exact n_i2b_rng _
        · rw [q4 k e]; exact r5 k hk
    · exfalso; omega
  · rcases k2 with ⟨q1, q2, q3, q4⟩ | ⟨q1, q2, q3⟩
    · exfalso; omega
    · rw [p3, q3]; exact ⟨⟨r1, r2, r3, r4, r5⟩, by omega⟩
theorem rT_end {x x1 y y1 n t a b : Int32} {f f1 g g1 v w v1 w1 : Nat → Int32} (R : rTp x f y g) (Y : rYp v w) (k1 : ((0 ≤ n.toInt ∧ n.toInt ≤ 20 ∧ 1 ≤ t.toInt ∧ t.toInt ≤ 100 ∧ x.toInt + n.toInt * t.toInt ≤ 6000) ∧ a.toInt = x.toInt + n.toInt * t.toInt ∧ x1.toInt = x.toInt + n.toInt * t.toInt ∧ (∀ i : Nat, (i : Int) < x.toInt + n.toInt * t.toInt → f1 i = enT f v x.toInt.toNat n.toInt.toNat i) ∧ (∀ k, k < 20 → (v1 k).toInt = 0)) ∨ (¬ (0 ≤ n.toInt ∧ n.toInt ≤ 20 ∧ 1 ≤ t.toInt ∧ t.toInt ≤ 100 ∧ x.toInt + n.toInt * t.toInt ≤ 6000) ∧ a.toInt = -1 ∧ x1 = x ∧ f1 = f ∧ v1 = v)) (k2 : ((0 ≤ n.toInt ∧ n.toInt ≤ 20 ∧ 1 ≤ t.toInt ∧ t.toInt ≤ 100 ∧ y.toInt + n.toInt * t.toInt ≤ 6000) ∧ b.toInt = y.toInt + n.toInt * t.toInt ∧ y1.toInt = y.toInt + n.toInt * t.toInt ∧ (∀ i : Nat, (i : Int) < y.toInt + n.toInt * t.toInt → g1 i = enM g w y.toInt.toNat n.toInt.toNat i) ∧ aR g1 6000 (-128) 127 ∧ (∀ k, k < 20 → (w1 k).toInt = 0)) ∨ (¬ (0 ≤ n.toInt ∧ n.toInt ≤ 20 ∧ 1 ≤ t.toInt ∧ t.toInt ≤ 100 ∧ y.toInt + n.toInt * t.toInt ≤ 6000) ∧ b.toInt = -1 ∧ y1 = y ∧ g1 = g ∧ w1 = w)) : (rTp x1 f1 y1 g1 ∧ rYp v1 w1) ∧ a.toInt = b.toInt := by
  obtain ⟨r1, r2, r3, r4, r5⟩ := R
  rw [← r1] at k2
  rcases k1 with ⟨p1, p2, p3, p4, p5⟩ | ⟨p1, p2, p3, p4, p5⟩
  · rcases k2 with ⟨q1, q2, q3, q4, q5, q6⟩ | ⟨q1, q2, q3⟩
    · have h0 : 0 ≤ n.toInt * t.toInt := Int.mul_nonneg p1.1 (by omega)
      refine ⟨⟨⟨p3.trans q3.symm, by omega, by omega, fun i hi => ?_, q5⟩, fun k hk => ?_, fun k hk => ?_⟩, p2.trans q2.symm⟩
      · rw [p4 i (by omega), q4 i (by omega)]
        unfold enT enM
        by_cases c : i < x.toInt.toNat
        · rw [if_pos c, if_pos c]; exact r4 i (by omega)
        · rw [if_neg c, if_neg c, n_i2b]
          have hn : 0 < n.toInt.toNat := by
            by_cases z : n.toInt = 0
            · rw [z, Int.zero_mul] at p3; omega
            · omega
          have := Nat.mod_lt (i - x.toInt.toNat) hn
          exact Y.1 _ (by omega)
      · rw [p5 k hk, q6 k hk]; rfl
      · rw [q6 k hk]; omega
    · exact absurd p1 q1
  · rcases k2 with ⟨q1, q2, q3⟩ | ⟨q1, q2, q3, q4, q5⟩
    · exact absurd q1 p1
    · rw [p3, p4, p5, q3, q4, q5]; exact ⟨⟨⟨r1, r2, r3, r4, r5⟩, Y⟩, p2.trans q2.symm⟩
theorem rT_take {x y x1 y1 a b : Int32} {f1 g1 v w : Nat → Int32} (O : rOp x v y w) (h6 : x.toInt ≤ 6000) (p1 : a = x1) (p2 : x1.toInt = x.toInt) (p3 : ∀ k : Nat, (k : Int) < x.toInt → f1 k = v k) (q1 : b = y1) (q2 : y1.toInt = y.toInt) (q3 : ∀ j : Nat, (j : Int) < y.toInt → g1 j = (w j).toInt8.toInt32) (q4 : aR g1 6000 (-128) 127) : rTp x1 f1 y1 g1 ∧ a.toInt = b.toInt := by
  obtain ⟨o1, o2, o3, o4⟩ := O
  refine ⟨⟨by omega, by omega, by omega, fun i hi => ?_, q4⟩, by rw [p1, q1]; omega⟩
  rw [p3 i (by omega), q3 i (by omega), n_i2b]
  exact o4 i (by omega)
theorem un_eq {x y : Int32} {f g : Nat → Int32} (R : rTp x f y g) : unL (tI f) x.toInt.toNat (8 * x.toInt.toNat) 0 (fun _ => 0) 0 = unL (tB g) y.toInt.toNat (8 * y.toInt.toNat) 0 (fun _ => 0) 0 := by
  obtain ⟨r1, r2, r3, r4, r5⟩ := R
  rw [← r1]
  exact unL_c (fun i hi => r4 i (by omega)) _ _ _ _
theorem rO_un {x x1 y y1 z : Int32} {v v1 w w1 : Nat → Int32} {U : Option ((Nat → Int) × Nat)} {d : Int} (O : rOp x v y w) (k1 : (U = none ∧ x1 = x ∧ v1 = v) ∨ ∃ (o2 : Nat → Int) (m2 : Nat), U = some (o2, m2) ∧ x1.toInt = (m2 : Nat) ∧ m2 ≤ 6000 ∧ oR v1 o2 m2) (k2 : (∃ (o2 : Nat → Int) (m2 : Nat), U = some (o2, m2) ∧ d = 0 ∧ z.toInt = (m2 : Nat) ∧ y1.toInt = (m2 : Nat) ∧ m2 ≤ 6000 ∧ oM w1 o2 m2) ∨ (U = none ∧ d = 1 ∧ y1.toInt = y.toInt ∧ w1 = w)) : rOp x1 v1 y1 w1 := by
  obtain ⟨o1, o2, o3, o4⟩ := O
  rcases k1 with ⟨p0, p1, p2⟩ | ⟨a, m, p0, p1, p2, p3⟩
  · rcases k2 with ⟨b, m2, q0, q1⟩ | ⟨q0, q1, q2, q3⟩
    · rw [p0] at q0; cases q0
    · rw [p1, p2, q3]; exact ⟨o1.trans q2.symm, o2, o3, o4⟩
  · rcases k2 with ⟨b, m2, q0, q1, q2, q3, q4, q5⟩ | ⟨q0, q1⟩
    · rw [p0] at q0
      have e := Option.some.inj q0
      have e1 : a = b := congrArg Prod.fst e
      have e2 : m = m2 := congrArg Prod.snd e
      subst e1; subst e2
      exact ⟨p1.trans q3.symm, by omega, by omega, fun i hi => by rw [p3 i (by omega), q5 i (by omega)]⟩
    · rw [p0] at q0; cases q0

