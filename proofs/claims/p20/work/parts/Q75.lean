/-! PRINTED by wip/pack: the law -/
/-! the law's loop -/
noncomputable def lw_Qq : ez_Q := fun o _ => o = .inl (some (.int 1))
theorem lw_cn {h h2 : ez_H} {c : Nat} (hc : ez_n h ≤ 126 + c ∧ ez_u h ≤ 522573 + 6 * c) (A : lC h h2) : ez_n h2 ≤ 126 + (c + 1) ∧ ez_u h2 ≤ 522573 + 6 * (c + 1) := by
  have a := A.1
  have b := A.2
  omega
theorem zMm (h : ez_H) {c : Nat} {i : Int32} (hc : ez_n h ≤ 126 + c ∧ ez_u h ≤ 522573 + 6 * c) (hi : i.toInt = 6 * c ∧ c ≤ 600) : zMem h := by
  unfold zMem
  rw [show ez_MC = 601024 from rfl, show ez_MS = 7293034 from rfl]
  omega
theorem x77_17 : ∀ q : Nat, (q = 6) → q ≤ 70 := fun q hq => by omega
set_option maxRecDepth 4000 in
theorem lw_c0 {L : Nat} {xs : Nat → Int32} (hL : L ≤ 3072) {N : Nat} (ih : ∀ (h : ez_H) (i : Int32) (c : Nat) (l5 l6 : Option Value), RR h → (ez_n h ≤ 126 + c ∧ ez_u h ≤ 522573 + 6 * c) → (i.toInt = 6 * c ∧ c ≤ 600) → 4000 - i.toInt < (N : Int) → pw (tz_E L xs) 10 149 23 [some (.retAddr 0), some (.ref 1), some (.ref 71), some (.ref 126), some (.int i), l5, l6] [] h lw_Qq) (h : ez_H) (i : Int32) (c : Nat) (l5 l6 : Option Value) (R : RR h) (hc : ez_n h ≤ 126 + c ∧ ez_u h ≤ 522573 + 6 * c) (hi : (i.toInt = 6 * c ∧ c ≤ 600) ∧ i.toInt + 6 ≤ L) (hm : 4000 - i.toInt < ((N + 1 : Nat) : Int)) : ez_gw (ez_Wp (tz_E L xs) tz_ml tz_hn tz_co) (tz_E L xs) tz_ml (tz_hn 149) 149 10 (ev_skip 40 cz_149).tail 133 [some (.retAddr 0), some (.ref 1), some (.ref 71), some (.ref 126), some (.int i), l5, l6] [] h lw_Qq := by
  have hE : zE (tz_E L xs) := fun j => rfl
  have gi := z_rng i
  refine gw_skip _ ?_
  refine gw_ld rfl rfl ?_
  refine gw_ld rfl rfl ?_
  refine gw_ld rfl rfl ?_
  refine z_C (m := 1) rfl rfl (fun x1 ex1 => ?_)
  refine z_add (by omega) (fun x2 ex2 => ?_)
  refine z_iaE (n := L) (f := xs) rfl (by omega) ?_
  generalize ex3 : xs _ = x3
  refine gw_ld rfl rfl ?_
  refine gw_ld rfl rfl ?_
  refine z_C (m := 2) rfl rfl (fun x4 ex4 => ?_)
  refine z_add (by omega) (fun x5 ex5 => ?_)
  refine z_iaE (n := L) (f := xs) rfl (by omega) ?_
  generalize ex6 : xs _ = x6
  refine gw_ld rfl rfl ?_
  refine gw_ld rfl rfl ?_
  refine z_C (m := 3) rfl rfl (fun x7 ex7 => ?_)
  refine z_add (by omega) (fun x8 ex8 => ?_)
  refine z_iaE (n := L) (f := xs) rfl (by omega) ?_
  generalize ex9 : xs _ = x9
  refine gw_ld rfl rfl ?_
  refine gw_ld rfl rfl ?_
  refine z_C (m := 4) rfl rfl (fun x10 ex10 => ?_)
  refine z_add (by omega) (fun x11 ex11 => ?_)
  refine z_iaE (n := L) (f := xs) rfl (by omega) ?_
  generalize ex12 : xs _ = x12
  refine gw_ld rfl rfl ?_
  refine gw_ld rfl rfl ?_
  refine z_C (m := 5) rfl rfl (fun x13 ex13 => ?_)
  refine z_add (by omega) (fun x14 ex14 => ?_)
  refine z_iaE (n := L) (f := xs) rfl (by omega) ?_
  generalize ex15 : xs _ = x15
  refine z_cl rfl rfl rfl rfl rfl rfl rfl rfl rfl rfl rfl (zT R.1 (by decide) rfl) ?_
  refine x_feedF R.1 (fun h17 F18 k21 k22 k23 k24 k25 => ?_)
  have V19 := zV_of R.1 F18
  have A20 := lC_W F18
  have M26 := MM_C (MM_R R) V19 x77_17 (fun _ _ c => c.elim)
  refine gw_ld rfl rfl ?_
  refine gw_ld rfl rfl ?_
  refine gw_ld rfl rfl ?_
  refine z_C (m := 1) rfl rfl (fun x27 ex27 => ?_)
  refine z_add (by omega) (fun x28 ex28 => ?_)
  refine z_iaE (n := L) (f := xs) rfl (by omega) ?_
  generalize ex29 : xs _ = x29
  have qx29 : x29 = x3 := ex29.symm.trans ((congrArg xs (by omega)).trans ex3)
  subst qx29
  refine gw_ld rfl rfl ?_
  refine gw_ld rfl rfl ?_
  refine z_C (m := 2) rfl rfl (fun x30 ex30 => ?_)
  refine z_add (by omega) (fun x31 ex31 => ?_)
  refine z_iaE (n := L) (f := xs) rfl (by omega) ?_
  generalize ex32 : xs _ = x32
  have qx32 : x32 = x6 := ex32.symm.trans ((congrArg xs (by omega)).trans ex6)
  subst qx32
  refine gw_ld rfl rfl ?_
  refine gw_ld rfl rfl ?_
  refine z_C (m := 3) rfl rfl (fun x33 ex33 => ?_)
  refine z_add (by omega) (fun x34 ex34 => ?_)
  refine z_iaE (n := L) (f := xs) rfl (by omega) ?_
  generalize ex35 : xs _ = x35
  have qx35 : x35 = x9 := ex35.symm.trans ((congrArg xs (by omega)).trans ex9)
  subst qx35
  refine gw_ld rfl rfl ?_
  refine gw_ld rfl rfl ?_
  refine z_C (m := 4) rfl rfl (fun x36 ex36 => ?_)
  refine z_add (by omega) (fun x37 ex37 => ?_)
  refine z_iaE (n := L) (f := xs) rfl (by omega) ?_
  generalize ex38 : xs _ = x38
  have qx38 : x38 = x12 := ex38.symm.trans ((congrArg xs (by omega)).trans ex12)
  subst qx38
  refine gw_ld rfl rfl ?_
  refine gw_ld rfl rfl ?_
  refine z_C (m := 5) rfl rfl (fun x39 ex39 => ?_)
  refine z_add (by omega) (fun x40 ex40 => ?_)
  refine z_iaE (n := L) (f := xs) rfl (by omega) ?_
  generalize ex41 : xs _ = x41
  have qx41 : x41 = x15 := ex41.symm.trans ((congrArg xs (by omega)).trans ex15)
  subst qx41
  refine z_cl rfl rfl rfl rfl rfl rfl rfl rfl rfl rfl rfl (zT M26.1 (by decide) rfl) ?_
  refine m_feedF M26.1 M26.2.2.2.2.1 (fun h43 F44 j46 j47 j48 j49 j50 j51 => ?_)
  have R45 := st_feed R V19 k21 k22 k23 k24 k25 (zV_of M26.1 F44) j46 j47 j48 j49 j50 j51
  refine z_go ?_
  refine gw_skip _ ?_
  refine z_inc rfl (by rw [show (6 : Int32).toInt = 6 from rfl]; omega) (fun x52 ex52 => ?_)
  rw [show (6 : Int32).toInt = 6 from rfl] at ex52
  show ez_gw _ _ _ _ _ _ _ _ [some (.retAddr 0), some (.ref 1), some (.ref 71), some (.ref 126), some (.int x52), l5, l6] _ _ _
  refine z_go ?_
  exact ih h43 x52 (c + 1) (l5) (l6) R45 (lw_cn hc (lC_t A20 F44)) (by omega) (by omega)
theorem x77_18 : ∀ q : Nat, (q = 3 ∨ q = 6) → q ≤ 70 := fun q hq => by omega
theorem x77_19 : ∀ q k : Nat, (q = 2 ∧ k = 1) → q ≤ 70 := fun q k hq => by omega
set_option maxRecDepth 4000 in
theorem lw_c1 {L : Nat} {xs : Nat → Int32} (hL : L ≤ 3072) {N : Nat} (ih : ∀ (h : ez_H) (i : Int32) (c : Nat) (l5 l6 : Option Value), RR h → (ez_n h ≤ 126 + c ∧ ez_u h ≤ 522573 + 6 * c) → (i.toInt = 6 * c ∧ c ≤ 600) → 4000 - i.toInt < (N : Int) → pw (tz_E L xs) 10 149 23 [some (.retAddr 0), some (.ref 1), some (.ref 71), some (.ref 126), some (.int i), l5, l6] [] h lw_Qq) (h : ez_H) (i : Int32) (c : Nat) (l5 l6 : Option Value) (R : RR h) (hc : ez_n h ≤ 126 + c ∧ ez_u h ≤ 522573 + 6 * c) (hi : (i.toInt = 6 * c ∧ c ≤ 600) ∧ i.toInt + 6 ≤ L) (hm : 4000 - i.toInt < ((N + 1 : Nat) : Int)) : ez_gw (ez_Wp (tz_E L xs) tz_ml tz_hn tz_co) (tz_E L xs) tz_ml (tz_hn 149) 149 10 (ev_skip 40 cz_149).tail 204 [some (.retAddr 0), some (.ref 1), some (.ref 71), some (.ref 126), some (.int i), l5, l6] [] h lw_Qq := by
  have hE : zE (tz_E L xs) := fun j => rfl
  have gi := z_rng i
  refine gw_skip _ ?_
  refine gw_ld rfl rfl ?_
  refine gw_ld rfl rfl ?_
  refine gw_ld rfl rfl ?_
  refine z_C (m := 1) rfl rfl (fun x53 ex53 => ?_)
  refine z_add (by omega) (fun x54 ex54 => ?_)
  refine z_iaE (n := L) (f := xs) rfl (by omega) ?_
  generalize ex55 : xs _ = x55
  refine gw_ld rfl rfl ?_
  refine gw_ld rfl rfl ?_
  refine z_C (m := 2) rfl rfl (fun x56 ex56 => ?_)
  refine z_add (by omega) (fun x57 ex57 => ?_)
  refine z_iaE (n := L) (f := xs) rfl (by omega) ?_
  generalize ex58 : xs _ = x58
  refine z_cl rfl rfl rfl rfl rfl rfl rfl rfl rfl rfl rfl (zT R.1 (by decide) rfl) ?_
  refine x_endF R.1 (RR_z R) (fun h60 x59 F61 k64 => ?_)
  have V62 := zV_of R.1 F61
  have A63 := lC_W F61
  have M65 := MM_C (MM_R R) V62 x77_18 x77_19
  refine gw_op rfl ?_
  refine gw_ld rfl rfl ?_
  refine gw_ld rfl rfl ?_
  refine gw_ld rfl rfl ?_
  refine z_C (m := 1) rfl rfl (fun x66 ex66 => ?_)
  refine z_add (by omega) (fun x67 ex67 => ?_)
  refine z_iaE (n := L) (f := xs) rfl (by omega) ?_
  generalize ex68 : xs _ = x68
  have qx68 : x68 = x55 := ex68.symm.trans ((congrArg xs (by omega)).trans ex55)
  subst qx68
  refine gw_ld rfl rfl ?_
  refine gw_ld rfl rfl ?_
  refine z_C (m := 2) rfl rfl (fun x69 ex69 => ?_)
  refine z_add (by omega) (fun x70 ex70 => ?_)
  refine z_iaE (n := L) (f := xs) rfl (by omega) ?_
  generalize ex71 : xs _ = x71
  have qx71 : x71 = x58 := ex71.symm.trans ((congrArg xs (by omega)).trans ex58)
  subst qx71
  refine z_cl rfl rfl rfl rfl rfl rfl rfl rfl rfl rfl rfl (zT M65.1 (by decide) rfl) ?_
  refine m_endF M65.1 M65.2.1 M65.2.2.1 (fun h73 x72 F74 j76 => ?_)
  have R75 := st_end R V62 k64 (zV_of M65.1 F74) j76
  refine gw_op rfl ?_
  refine z_go ?_
  refine gw_skip _ ?_
  refine z_inc rfl (by rw [show (6 : Int32).toInt = 6 from rfl]; omega) (fun x77 ex77 => ?_)
  rw [show (6 : Int32).toInt = 6 from rfl] at ex77
  show ez_gw _ _ _ _ _ _ _ _ [some (.retAddr 0), some (.ref 1), some (.ref 71), some (.ref 126), some (.int x77), l5, l6] _ _ _
  refine z_go ?_
  exact ih h73 x77 (c + 1) (l5) (l6) R75.1 (lw_cn hc (lC_t A63 F74)) (by omega) (by omega)
set_option maxRecDepth 4000 in
theorem lw_c2 {L : Nat} {xs : Nat → Int32} (hL : L ≤ 3072) {N : Nat} (ih : ∀ (h : ez_H) (i : Int32) (c : Nat) (l5 l6 : Option Value), RR h → (ez_n h ≤ 126 + c ∧ ez_u h ≤ 522573 + 6 * c) → (i.toInt = 6 * c ∧ c ≤ 600) → 4000 - i.toInt < (N : Int) → pw (tz_E L xs) 10 149 23 [some (.retAddr 0), some (.ref 1), some (.ref 71), some (.ref 126), some (.int i), l5, l6] [] h lw_Qq) (h : ez_H) (i : Int32) (c : Nat) (l5 l6 : Option Value) (R : RR h) (hc : ez_n h ≤ 126 + c ∧ ez_u h ≤ 522573 + 6 * c) (hi : (i.toInt = 6 * c ∧ c ≤ 600) ∧ i.toInt + 6 ≤ L) (hm : 4000 - i.toInt < ((N + 1 : Nat) : Int)) : ez_gw (ez_Wp (tz_E L xs) tz_ml tz_hn tz_co) (tz_E L xs) tz_ml (tz_hn 149) 149 10 (ev_skip 40 cz_149).tail 241 [some (.retAddr 0), some (.ref 1), some (.ref 71), some (.ref 126), some (.int i), l5, l6] [] h lw_Qq := by
  have hE : zE (tz_E L xs) := fun j => rfl
  have gi := z_rng i
  refine gw_skip _ ?_
  refine gw_ld rfl rfl ?_
  refine gw_ld rfl rfl ?_
  refine gw_ld rfl rfl ?_
  refine z_C (m := 1) rfl rfl (fun x78 ex78 => ?_)
  refine z_add (by omega) (fun x79 ex79 => ?_)
  refine z_iaE (n := L) (f := xs) rfl (by omega) ?_
  generalize ex80 : xs _ = x80
  refine z_cl rfl rfl rfl rfl rfl rfl rfl rfl rfl rfl rfl (zT R.1 (by decide) rfl) ?_
  refine x_cutF R.1 (fun h82 x81 F83 k86 => ?_)
  have V84 := zV_of R.1 F83
  have A85 := lC_W F83
  have M87 := MM_C (MM_R R) V84 (fun _ c => c.elim) x77_19
  refine gw_op rfl ?_
  refine gw_ld rfl rfl ?_
  refine gw_ld rfl rfl ?_
  refine gw_ld rfl rfl ?_
  refine z_C (m := 1) rfl rfl (fun x88 ex88 => ?_)
  refine z_add (by omega) (fun x89 ex89 => ?_)
  refine z_iaE (n := L) (f := xs) rfl (by omega) ?_
  generalize ex90 : xs _ = x90
  have qx90 : x90 = x80 := ex90.symm.trans ((congrArg xs (by omega)).trans ex80)
  subst qx90
  refine z_cl rfl rfl rfl rfl rfl rfl rfl rfl rfl rfl rfl (zT M87.1 (by decide) rfl) ?_
  refine m_cutF M87.1 (fun h92 x91 F93 j95 => ?_)
  have R94 := st_cut R V84 k86 (zV_of M87.1 F93) j95
  refine gw_op rfl ?_
  refine z_go ?_
  refine gw_skip _ ?_
  refine z_inc rfl (by rw [show (6 : Int32).toInt = 6 from rfl]; omega) (fun x96 ex96 => ?_)
  rw [show (6 : Int32).toInt = 6 from rfl] at ex96
  show ez_gw _ _ _ _ _ _ _ _ [some (.retAddr 0), some (.ref 1), some (.ref 71), some (.ref 126), some (.int x96), l5, l6] _ _ _
  refine z_go ?_
  exact ih h92 x96 (c + 1) (l5) (l6) R94.1 (lw_cn hc (lC_t A85 F93)) (by omega) (by omega)
theorem x77_20 : ∀ q : Nat, (q = 3) → q ≤ 70 := fun q hq => by omega
set_option maxRecDepth 4000 in
theorem lw_c3 {L : Nat} {xs : Nat → Int32} (hL : L ≤ 3072) {N : Nat} (ih : ∀ (h : ez_H) (i : Int32) (c : Nat) (l5 l6 : Option Value), RR h → (ez_n h ≤ 126 + c ∧ ez_u h ≤ 522573 + 6 * c) → (i.toInt = 6 * c ∧ c ≤ 600) → 4000 - i.toInt < (N : Int) → pw (tz_E L xs) 10 149 23 [some (.retAddr 0), some (.ref 1), some (.ref 71), some (.ref 126), some (.int i), l5, l6] [] h lw_Qq) (h : ez_H) (i : Int32) (c : Nat) (l5 l6 : Option Value) (R : RR h) (hc : ez_n h ≤ 126 + c ∧ ez_u h ≤ 522573 + 6 * c) (hi : (i.toInt = 6 * c ∧ c ≤ 600) ∧ i.toInt + 6 ≤ L) (hm : 4000 - i.toInt < ((N + 1 : Nat) : Int)) : ez_gw (ez_Wp (tz_E L xs) tz_ml tz_hn tz_co) (tz_E L xs) tz_ml (tz_hn 149) 149 10 (ev_skip 40 cz_149).tail 266 [some (.retAddr 0), some (.ref 1), some (.ref 71), some (.ref 126), some (.int i), l5, l6] [] h lw_Qq := by
  have hE : zE (tz_E L xs) := fun j => rfl
  have gi := z_rng i
  refine gw_skip _ ?_
  refine gw_ld rfl rfl ?_
  refine gw_ld rfl rfl ?_
  refine gw_ld rfl rfl ?_
  refine z_C (m := 1) rfl rfl (fun x97 ex97 => ?_)
  refine z_add (by omega) (fun x98 ex98 => ?_)
  refine z_iaE (n := L) (f := xs) rfl (by omega) ?_
  generalize ex99 : xs _ = x99
  refine gw_ld rfl rfl ?_
  refine gw_ld rfl rfl ?_
  refine z_C (m := 2) rfl rfl (fun x100 ex100 => ?_)
  refine z_add (by omega) (fun x101 ex101 => ?_)
  refine z_iaE (n := L) (f := xs) rfl (by omega) ?_
  generalize ex102 : xs _ = x102
  refine z_cl rfl rfl rfl rfl rfl rfl rfl rfl rfl rfl rfl (zT R.1 (by decide) rfl) ?_
  refine x_flipF R.1 (RR_z R) (fun h104 x103 F105 k108 => ?_)
  have V106 := zV_of R.1 F105
  have A107 := lC_W F105
  have M109 := MM_C (MM_R R) V106 x77_20 (fun _ _ c => c.elim)
  refine gw_op rfl ?_
  refine gw_ld rfl rfl ?_
  refine gw_ld rfl rfl ?_
  refine gw_ld rfl rfl ?_
  refine z_C (m := 1) rfl rfl (fun x110 ex110 => ?_)
  refine z_add (by omega) (fun x111 ex111 => ?_)
  refine z_iaE (n := L) (f := xs) rfl (by omega) ?_
  generalize ex112 : xs _ = x112
  have qx112 : x112 = x99 := ex112.symm.trans ((congrArg xs (by omega)).trans ex99)
  subst qx112
  refine gw_ld rfl rfl ?_
  refine gw_ld rfl rfl ?_
  refine z_C (m := 2) rfl rfl (fun x113 ex113 => ?_)
  refine z_add (by omega) (fun x114 ex114 => ?_)
  refine z_iaE (n := L) (f := xs) rfl (by omega) ?_
  generalize ex115 : xs _ = x115
  have qx115 : x115 = x102 := ex115.symm.trans ((congrArg xs (by omega)).trans ex102)
  subst qx115
  refine z_cl rfl rfl rfl rfl rfl rfl rfl rfl rfl rfl rfl (zT M109.1 (by decide) rfl) ?_
  refine m_flipF M109.1 M109.2.1 (fun h117 x116 F118 j120 => ?_)
  have R119 := st_flip R V106 k108 (zV_of M109.1 F118) j120
  refine gw_op rfl ?_
  refine z_go ?_
  refine gw_skip _ ?_
  refine z_inc rfl (by rw [show (6 : Int32).toInt = 6 from rfl]; omega) (fun x121 ex121 => ?_)
  rw [show (6 : Int32).toInt = 6 from rfl] at ex121
  show ez_gw _ _ _ _ _ _ _ _ [some (.retAddr 0), some (.ref 1), some (.ref 71), some (.ref 126), some (.int x121), l5, l6] _ _ _
  refine z_go ?_
  exact ih h117 x121 (c + 1) (l5) (l6) R119.1 (lw_cn hc (lC_t A107 F118)) (by omega) (by omega)
set_option maxRecDepth 4000 in
theorem lw_c4 {L : Nat} {xs : Nat → Int32} (hL : L ≤ 3072) {N : Nat} (ih : ∀ (h : ez_H) (i : Int32) (c : Nat) (l5 l6 : Option Value), RR h → (ez_n h ≤ 126 + c ∧ ez_u h ≤ 522573 + 6 * c) → (i.toInt = 6 * c ∧ c ≤ 600) → 4000 - i.toInt < (N : Int) → pw (tz_E L xs) 10 149 23 [some (.retAddr 0), some (.ref 1), some (.ref 71), some (.ref 126), some (.int i), l5, l6] [] h lw_Qq) (h : ez_H) (i : Int32) (c : Nat) (l5 l6 : Option Value) (R : RR h) (hc : ez_n h ≤ 126 + c ∧ ez_u h ≤ 522573 + 6 * c) (hi : (i.toInt = 6 * c ∧ c ≤ 600) ∧ i.toInt + 6 ≤ L) (hm : 4000 - i.toInt < ((N + 1 : Nat) : Int)) : ez_gw (ez_Wp (tz_E L xs) tz_ml tz_hn tz_co) (tz_E L xs) tz_ml (tz_hn 149) 149 10 (ev_skip 40 cz_149).tail 303 [some (.retAddr 0), some (.ref 1), some (.ref 71), some (.ref 126), some (.int i), l5, l6] [] h lw_Qq := by
  have hE : zE (tz_E L xs) := fun j => rfl
  have gi := z_rng i
  refine gw_skip _ ?_
  refine gw_ld rfl rfl ?_
  refine gw_ld rfl rfl ?_
  refine z_cl rfl rfl rfl rfl rfl rfl rfl rfl rfl rfl rfl (trivial) ?_
  refine l_takeR R (zMm h hc hi.1) (fun h123 x122 A124 V125 k126 o127 => ?_)
  have M128 := MM_C (MM_R R) V125 x77_20 x77_19
  refine gw_st rfl rfl rfl ?_
  show ez_gw _ _ _ _ _ _ _ _ [some (.retAddr 0), some (.ref 1), some (.ref 71), some (.ref 126), some (.int i), some (.int x122), l6] _ _ _
  refine gw_ld rfl rfl ?_
  refine z_cl rfl rfl rfl rfl rfl rfl rfl rfl rfl rfl rfl (zT M128.1 (by decide) rfl) ?_
  refine m_takeG M128.1 M128.2.2.2.1 M128.2.2.1 (fun h130 x129 F131 j133 j134 j135 => ?_)
  have R132 := st_take R V125 k126 (zV_of M128.1 F131) j133 j134 j135
  refine gw_st rfl rfl rfl ?_
  show ez_gw _ _ _ _ _ _ _ _ [some (.retAddr 0), some (.ref 1), some (.ref 71), some (.ref 126), some (.int i), some (.int x122), some (.int x129)] _ _ _
  refine z_go ?_
  refine gw_skip _ ?_
  refine z_inc rfl (by rw [show (6 : Int32).toInt = 6 from rfl]; omega) (fun x136 ex136 => ?_)
  rw [show (6 : Int32).toInt = 6 from rfl] at ex136
  show ez_gw _ _ _ _ _ _ _ _ [some (.retAddr 0), some (.ref 1), some (.ref 71), some (.ref 126), some (.int x136), some (.int x122), some (.int x129)] _ _ _
  refine z_go ?_
  exact ih h130 x136 (c + 1) (some (.int x122)) (some (.int x129)) R132 (lw_cn hc (lC_t A124 F131)) (by omega) (by omega)
set_option maxRecDepth 4000 in
theorem lw_c5 {L : Nat} {xs : Nat → Int32} (hL : L ≤ 3072) {N : Nat} (ih : ∀ (h : ez_H) (i : Int32) (c : Nat) (l5 l6 : Option Value), RR h → (ez_n h ≤ 126 + c ∧ ez_u h ≤ 522573 + 6 * c) → (i.toInt = 6 * c ∧ c ≤ 600) → 4000 - i.toInt < (N : Int) → pw (tz_E L xs) 10 149 23 [some (.retAddr 0), some (.ref 1), some (.ref 71), some (.ref 126), some (.int i), l5, l6] [] h lw_Qq) (h : ez_H) (i : Int32) (c : Nat) (l5 l6 : Option Value) (R : RR h) (hc : ez_n h ≤ 126 + c ∧ ez_u h ≤ 522573 + 6 * c) (hi : (i.toInt = 6 * c ∧ c ≤ 600) ∧ i.toInt + 6 ≤ L) (hm : 4000 - i.toInt < ((N + 1 : Nat) : Int)) : ez_gw (ez_Wp (tz_E L xs) tz_ml tz_hn tz_co) (tz_E L xs) tz_ml (tz_hn 149) 149 10 (ev_skip 40 cz_149).tail 319 [some (.retAddr 0), some (.ref 1), some (.ref 71), some (.ref 126), some (.int i), l5, l6] [] h lw_Qq := by
  have hE : zE (tz_E L xs) := fun j => rfl
  have gi := z_rng i
  refine gw_skip _ ?_
  refine gw_ld rfl rfl ?_
  refine z_cl rfl rfl rfl rfl rfl rfl rfl rfl rfl rfl rfl (zT R.1 (by decide) rfl) ?_
  refine x_crcW R.1 hE (RR_z R) (fun x137  => ?_)
  refine gw_op rfl ?_
  refine gw_ld rfl rfl ?_
  refine z_cl rfl rfl rfl rfl rfl rfl rfl rfl rfl rfl rfl (zT (MM_R R).1 (by decide) rfl) ?_
  refine m_crcW (MM_R R).1 (MM_R R).2.1 (fun h139 x138 F140  => ?_)
  have R141 := st_0 R (zV_of (MM_R R).1 F140)
  refine gw_op rfl ?_
  refine z_go ?_
  refine gw_skip _ ?_
  refine z_inc rfl (by rw [show (6 : Int32).toInt = 6 from rfl]; omega) (fun x142 ex142 => ?_)
  rw [show (6 : Int32).toInt = 6 from rfl] at ex142
  show ez_gw _ _ _ _ _ _ _ _ [some (.retAddr 0), some (.ref 1), some (.ref 71), some (.ref 126), some (.int x142), l5, l6] _ _ _
  refine z_go ?_
  exact ih h139 x142 (c + 1) (l5) (l6) R141 (lw_cn hc (lC_W F140)) (by omega) (by omega)
theorem x77_21 : ∀ q : Nat, (q = 54 ∨ q = 59 ∨ q = 60 ∨ q = 51 ∨ q = 66 ∨ q = 67 ∨ q = 10 ∨ q = 13 ∨ 30 ≤ q ∧ q ≤ 35 ∨ 37 ≤ q ∧ q ≤ 42 ∨ 44 ≤ q ∧ q ≤ 49 ∨ q = 56 ∨ q = 57 ∨ 62 ≤ q ∧ q ≤ 65 ∨ q = 5) → q ≤ 70 := fun q hq => by omega
theorem x77_22 : ∀ q k : Nat, (q = 53 ∧ k = 1 ∨ q = 58 ∧ k = 2 ∨ q = 68 ∧ k = 1 ∨ q = 68 ∧ k = 2 ∨ q = 50 ∧ k = 1 ∨ q = 55 ∧ k = 2 ∨ q = 52 ∧ k = 10 ∨ q = 52 ∧ k = 11 ∨ q = 61 ∧ k = 1 ∨ q = 61 ∧ k = 2 ∨ q = 61 ∧ k = 5 ∨ q = 61 ∧ k = 7 ∨ q = 43 ∧ k = 4 ∨ q = 29 ∧ k = 4 ∨ q = 36 ∧ k = 4 ∨ q = 4 ∧ k = 1) → q ≤ 70 := fun q k hq => by omega
theorem x77_23 : ¬ (72 = 54 ∨ 72 = 59 ∨ 72 = 60 ∨ 72 = 51 ∨ 72 = 66 ∨ 72 = 67 ∨ 72 = 10 ∨ 72 = 13 ∨ 30 ≤ 72 ∧ 72 ≤ 35 ∨ 37 ≤ 72 ∧ 72 ≤ 42 ∨ 44 ≤ 72 ∧ 72 ≤ 49 ∨ 72 = 56 ∨ 72 = 57 ∨ 62 ≤ 72 ∧ 72 ≤ 65 ∨ 72 = 5) := by omega
theorem x77_24 : ∀ k : Nat, ¬ (72 = 53 ∧ k = 1 ∨ 72 = 58 ∧ k = 2 ∨ 72 = 68 ∧ k = 1 ∨ 72 = 68 ∧ k = 2 ∨ 72 = 50 ∧ k = 1 ∨ 72 = 55 ∧ k = 2 ∨ 72 = 52 ∧ k = 10 ∨ 72 = 52 ∧ k = 11 ∨ 72 = 61 ∧ k = 1 ∨ 72 = 61 ∧ k = 2 ∨ 72 = 61 ∧ k = 5 ∨ 72 = 61 ∧ k = 7 ∨ 72 = 43 ∧ k = 4 ∨ 72 = 29 ∧ k = 4 ∨ 72 = 36 ∧ k = 4 ∨ 72 = 4 ∧ k = 1) := fun k c => by omega
theorem x77_25 : ¬ (71 = 54 ∨ 71 = 59 ∨ 71 = 60 ∨ 71 = 51 ∨ 71 = 66 ∨ 71 = 67 ∨ 71 = 10 ∨ 71 = 13 ∨ 30 ≤ 71 ∧ 71 ≤ 35 ∨ 37 ≤ 71 ∧ 71 ≤ 42 ∨ 44 ≤ 71 ∧ 71 ≤ 49 ∨ 71 = 56 ∨ 71 = 57 ∨ 62 ≤ 71 ∧ 71 ≤ 65 ∨ 71 = 5) := by omega
theorem x77_26 : ¬ (71 = 53 ∧ 6 = 1 ∨ 71 = 58 ∧ 6 = 2 ∨ 71 = 68 ∧ 6 = 1 ∨ 71 = 68 ∧ 6 = 2 ∨ 71 = 50 ∧ 6 = 1 ∨ 71 = 55 ∧ 6 = 2 ∨ 71 = 52 ∧ 6 = 10 ∨ 71 = 52 ∧ 6 = 11 ∨ 71 = 61 ∧ 6 = 1 ∨ 71 = 61 ∧ 6 = 2 ∨ 71 = 61 ∧ 6 = 5 ∨ 71 = 61 ∧ 6 = 7 ∨ 71 = 43 ∧ 6 = 4 ∨ 71 = 29 ∧ 6 = 4 ∨ 71 = 36 ∧ 6 = 4 ∨ 71 = 4 ∧ 6 = 1) := by omega
set_option maxRecDepth 4000 in
theorem lw_c6 {L : Nat} {xs : Nat → Int32} (hL : L ≤ 3072) {N : Nat} (ih : ∀ (h : ez_H) (i : Int32) (c : Nat) (l5 l6 : Option Value), RR h → (ez_n h ≤ 126 + c ∧ ez_u h ≤ 522573 + 6 * c) → (i.toInt = 6 * c ∧ c ≤ 600) → 4000 - i.toInt < (N : Int) → pw (tz_E L xs) 10 149 23 [some (.retAddr 0), some (.ref 1), some (.ref 71), some (.ref 126), some (.int i), l5, l6] [] h lw_Qq) (h : ez_H) (i : Int32) (c : Nat) (l5 l6 : Option Value) (R : RR h) (hc : ez_n h ≤ 126 + c ∧ ez_u h ≤ 522573 + 6 * c) (hi : (i.toInt = 6 * c ∧ c ≤ 600) ∧ i.toInt + 6 ≤ L) (hm : 4000 - i.toInt < ((N + 1 : Nat) : Int)) : ez_gw (ez_Wp (tz_E L xs) tz_ml tz_hn tz_co) (tz_E L xs) tz_ml (tz_hn 149) 149 10 (ev_skip 40 cz_149).tail 332 [some (.retAddr 0), some (.ref 1), some (.ref 71), some (.ref 126), some (.int i), l5, l6] [] h lw_Qq := by
  have hE : zE (tz_E L xs) := fun j => rfl
  have gi := z_rng i
  refine gw_skip _ ?_
  refine gw_ld rfl rfl ?_
  refine z_cl rfl rfl rfl rfl rfl rfl rfl rfl rfl rfl rfl (zT R.1 (by decide) rfl) ?_
  refine x_packF R.1 hE (RR_z R) (RR_b R) R.2.1.1.1 R.2.1.1.2.1 R.2.1.1.2.2.1 R.2.1.2.1 R.2.1.2.2.1 R.2.1.2.2.2.1 (fun h144 x143 F145 c160 b161 k148 k149 k150 k151 k152 k153 k154 k155 k156 k157 k158 k159 => ?_)
  have V146 := zV_of R.1 F145
  have A147 := lC_W F145
  have M162 := MM_C (MM_R R) V146 x77_21 x77_22
  refine gw_op rfl ?_
  refine gw_ld rfl rfl ?_
  refine z_cl rfl rfl rfl rfl rfl rfl rfl rfl rfl rfl rfl (zT M162.1 (by decide) rfl) ?_
  have eT : ez_I h144 72 = ez_I h 72 := zV_fn V146 72 x77_23 x77_24
  have eN : ez_I h144 71 6 = ez_I h 71 6 := zV_f V146 71 6 x77_25 x77_26
  refine m_packF (T := tI (ez_I h 3)) (n := (ez_I h 2 1).toInt.toNat) M162.1 (by rw [eT]; exact fun i hi => (R.2.2.2.2.1.2.2.2.1 i (by have := RR_z R; omega)).symm) (by rw [eN]; have := RR_z R; have := R.2.2.2.2.1.1; omega) (by have := RR_z R; omega) M162.2.2.1 M162.2.2.2.2.2.1.1 M162.2.2.2.2.2.1.2.1 M162.2.2.2.2.2.1.2.2.1 M162.2.2.2.2.2.1.2.2.2.1 M162.2.2.2.2.2.1.2.2.2.2.1 M162.2.2.2.2.2.1.2.2.2.2.2 (fun h164 x163 F165 c181 b182 j167 j168 j169 j170 j171 j172 j173 j174 j175 j176 j177 j178 j179 j180 => ?_)
  have R166 := st_pack R V146 k148 k149 k150 k151 k152 k153 k154 k155 k156 k157 k158 k159 (zV_of M162.1 F165) j167 j169 j170 j171 j172 j173 j174 j175 j177 j178 j179
  refine gw_op rfl ?_
  refine z_go ?_
  refine gw_skip _ ?_
  refine z_inc rfl (by rw [show (6 : Int32).toInt = 6 from rfl]; omega) (fun x183 ex183 => ?_)
  rw [show (6 : Int32).toInt = 6 from rfl] at ex183
  show ez_gw _ _ _ _ _ _ _ _ [some (.retAddr 0), some (.ref 1), some (.ref 71), some (.ref 126), some (.int x183), l5, l6] _ _ _
  refine z_go ?_
  exact ih h164 x183 (c + 1) (l5) (l6) R166.1 (lw_cn hc (lC_t A147 F165)) (by omega) (by omega)
set_option maxRecDepth 4000 in
theorem lw_c7 {L : Nat} {xs : Nat → Int32} (hL : L ≤ 3072) {N : Nat} (ih : ∀ (h : ez_H) (i : Int32) (c : Nat) (l5 l6 : Option Value), RR h → (ez_n h ≤ 126 + c ∧ ez_u h ≤ 522573 + 6 * c) → (i.toInt = 6 * c ∧ c ≤ 600) → 4000 - i.toInt < (N : Int) → pw (tz_E L xs) 10 149 23 [some (.retAddr 0), some (.ref 1), some (.ref 71), some (.ref 126), some (.int i), l5, l6] [] h lw_Qq) (h : ez_H) (i : Int32) (c : Nat) (l5 l6 : Option Value) (R : RR h) (hc : ez_n h ≤ 126 + c ∧ ez_u h ≤ 522573 + 6 * c) (hi : (i.toInt = 6 * c ∧ c ≤ 600) ∧ i.toInt + 6 ≤ L) (hm : 4000 - i.toInt < ((N + 1 : Nat) : Int)) : ez_gw (ez_Wp (tz_E L xs) tz_ml tz_hn tz_co) (tz_E L xs) tz_ml (tz_hn 149) 149 10 (ev_skip 40 cz_149).tail 345 [some (.retAddr 0), some (.ref 1), some (.ref 71), some (.ref 126), some (.int i), l5, l6] [] h lw_Qq := by
  have hE : zE (tz_E L xs) := fun j => rfl
  have gi := z_rng i
  refine gw_skip _ ?_
  refine gw_ld rfl rfl ?_
  refine z_cl rfl rfl rfl rfl rfl rfl rfl rfl rfl rfl rfl (zT R.1 (by decide) rfl) ?_
  refine x_partsF R.1 (fun x184 k185 => ?_)
  refine gw_op rfl ?_
  refine gw_ld rfl rfl ?_
  refine z_cl rfl rfl rfl rfl rfl rfl rfl rfl rfl rfl rfl (zT (MM_R R).1 (by decide) rfl) ?_
  refine m_partsF (MM_R R).1 (fun h187 x186 F188 j190 => ?_)
  have R189 := st_0 R (zV_of (MM_R R).1 F188)
  refine gw_op rfl ?_
  refine z_go ?_
  refine gw_skip _ ?_
  refine z_inc rfl (by rw [show (6 : Int32).toInt = 6 from rfl]; omega) (fun x191 ex191 => ?_)
  rw [show (6 : Int32).toInt = 6 from rfl] at ex191
  show ez_gw _ _ _ _ _ _ _ _ [some (.retAddr 0), some (.ref 1), some (.ref 71), some (.ref 126), some (.int x191), l5, l6] _ _ _
  refine z_go ?_
  exact ih h187 x191 (c + 1) (l5) (l6) R189 (lw_cn hc (lC_W F188)) (by omega) (by omega)
set_option maxRecDepth 4000 in
theorem lw_c8 {L : Nat} {xs : Nat → Int32} (hL : L ≤ 3072) {N : Nat} (ih : ∀ (h : ez_H) (i : Int32) (c : Nat) (l5 l6 : Option Value), RR h → (ez_n h ≤ 126 + c ∧ ez_u h ≤ 522573 + 6 * c) → (i.toInt = 6 * c ∧ c ≤ 600) → 4000 - i.toInt < (N : Int) → pw (tz_E L xs) 10 149 23 [some (.retAddr 0), some (.ref 1), some (.ref 71), some (.ref 126), some (.int i), l5, l6] [] h lw_Qq) (h : ez_H) (i : Int32) (c : Nat) (l5 l6 : Option Value) (R : RR h) (hc : ez_n h ≤ 126 + c ∧ ez_u h ≤ 522573 + 6 * c) (hi : (i.toInt = 6 * c ∧ c ≤ 600) ∧ i.toInt + 6 ≤ L) (hm : 4000 - i.toInt < ((N + 1 : Nat) : Int)) : ez_gw (ez_Wp (tz_E L xs) tz_ml tz_hn tz_co) (tz_E L xs) tz_ml (tz_hn 149) 149 10 (ev_skip 40 cz_149).tail 358 [some (.retAddr 0), some (.ref 1), some (.ref 71), some (.ref 126), some (.int i), l5, l6] [] h lw_Qq := by
  have hE : zE (tz_E L xs) := fun j => rfl
  have gi := z_rng i
  refine gw_skip _ ?_
  refine gw_ld rfl rfl ?_
  refine gw_ld rfl rfl ?_
  refine gw_ld rfl rfl ?_
  refine z_C (m := 1) rfl rfl (fun x192 ex192 => ?_)
  refine z_add (by omega) (fun x193 ex193 => ?_)
  refine z_iaE (n := L) (f := xs) rfl (by omega) ?_
  generalize ex194 : xs _ = x194
  refine gw_ld rfl rfl ?_
  refine gw_ld rfl rfl ?_
  refine z_C (m := 2) rfl rfl (fun x195 ex195 => ?_)
  refine z_add (by omega) (fun x196 ex196 => ?_)
  refine z_iaE (n := L) (f := xs) rfl (by omega) ?_
  generalize ex197 : xs _ = x197
  refine z_cl rfl rfl rfl rfl rfl rfl rfl rfl rfl rfl rfl (zT R.1 (by decide) rfl) ?_
  refine x_partF R.1 (RR_c R) (fun x198 k199 k200 k201 k202 => ?_)
  refine gw_op rfl ?_
  refine gw_ld rfl rfl ?_
  refine gw_ld rfl rfl ?_
  refine gw_ld rfl rfl ?_
  refine z_C (m := 1) rfl rfl (fun x203 ex203 => ?_)
  refine z_add (by omega) (fun x204 ex204 => ?_)
  refine z_iaE (n := L) (f := xs) rfl (by omega) ?_
  generalize ex205 : xs _ = x205
  have qx205 : x205 = x194 := ex205.symm.trans ((congrArg xs (by omega)).trans ex194)
  subst qx205
  refine gw_ld rfl rfl ?_
  refine gw_ld rfl rfl ?_
  refine z_C (m := 2) rfl rfl (fun x206 ex206 => ?_)
  refine z_add (by omega) (fun x207 ex207 => ?_)
  refine z_iaE (n := L) (f := xs) rfl (by omega) ?_
  generalize ex208 : xs _ = x208
  have qx208 : x208 = x197 := ex208.symm.trans ((congrArg xs (by omega)).trans ex197)
  subst qx208
  refine z_cl rfl rfl rfl rfl rfl rfl rfl rfl rfl rfl rfl (zT (MM_R R).1 (by decide) rfl) ?_
  refine d_part (MM_R R).1 (MM_R R).2.2.2.2.2.2.1 (fun h210 x209 F211 j213 j214 j215 j216 j217 => ?_)
  have R212 := st_0 R (zV_of (MM_R R).1 F211)
  refine gw_op rfl ?_
  refine z_go ?_
  refine gw_skip _ ?_
  refine z_inc rfl (by rw [show (6 : Int32).toInt = 6 from rfl]; omega) (fun x218 ex218 => ?_)
  rw [show (6 : Int32).toInt = 6 from rfl] at ex218
  show ez_gw _ _ _ _ _ _ _ _ [some (.retAddr 0), some (.ref 1), some (.ref 71), some (.ref 126), some (.int x218), l5, l6] _ _ _
  refine z_go ?_
  exact ih h210 x218 (c + 1) (l5) (l6) R212 (lw_cn hc (lC_W F211)) (by omega) (by omega)
set_option maxRecDepth 4000 in
theorem lw_c9 {L : Nat} {xs : Nat → Int32} (hL : L ≤ 3072) {N : Nat} (ih : ∀ (h : ez_H) (i : Int32) (c : Nat) (l5 l6 : Option Value), RR h → (ez_n h ≤ 126 + c ∧ ez_u h ≤ 522573 + 6 * c) → (i.toInt = 6 * c ∧ c ≤ 600) → 4000 - i.toInt < (N : Int) → pw (tz_E L xs) 10 149 23 [some (.retAddr 0), some (.ref 1), some (.ref 71), some (.ref 126), some (.int i), l5, l6] [] h lw_Qq) (h : ez_H) (i : Int32) (c : Nat) (l5 l6 : Option Value) (R : RR h) (hc : ez_n h ≤ 126 + c ∧ ez_u h ≤ 522573 + 6 * c) (hi : (i.toInt = 6 * c ∧ c ≤ 600) ∧ i.toInt + 6 ≤ L) (hm : 4000 - i.toInt < ((N + 1 : Nat) : Int)) : ez_gw (ez_Wp (tz_E L xs) tz_ml tz_hn tz_co) (tz_E L xs) tz_ml (tz_hn 149) 149 10 (ev_skip 40 cz_149).tail 395 [some (.retAddr 0), some (.ref 1), some (.ref 71), some (.ref 126), some (.int i), l5, l6] [] h lw_Qq := by
  have hE : zE (tz_E L xs) := fun j => rfl
  have gi := z_rng i
  refine gw_skip _ ?_
  refine gw_ld rfl rfl ?_
  refine z_cl rfl rfl rfl rfl rfl rfl rfl rfl rfl rfl rfl (zT R.1 (by decide) rfl) ?_
  refine x_blocksF R.1 (fun x219 k220 => ?_)
  refine gw_op rfl ?_
  refine gw_ld rfl rfl ?_
  refine z_cl rfl rfl rfl rfl rfl rfl rfl rfl rfl rfl rfl (zT (MM_R R).1 (by decide) rfl) ?_
  refine m_blocksF (MM_R R).1 (fun h222 x221 F223 j225 => ?_)
  have R224 := st_0 R (zV_of (MM_R R).1 F223)
  refine gw_op rfl ?_
  refine z_go ?_
  refine gw_skip _ ?_
  refine z_inc rfl (by rw [show (6 : Int32).toInt = 6 from rfl]; omega) (fun x226 ex226 => ?_)
  rw [show (6 : Int32).toInt = 6 from rfl] at ex226
  show ez_gw _ _ _ _ _ _ _ _ [some (.retAddr 0), some (.ref 1), some (.ref 71), some (.ref 126), some (.int x226), l5, l6] _ _ _
  refine z_go ?_
  exact ih h222 x226 (c + 1) (l5) (l6) R224 (lw_cn hc (lC_W F223)) (by omega) (by omega)
set_option maxRecDepth 4000 in
theorem lw_c10 {L : Nat} {xs : Nat → Int32} (hL : L ≤ 3072) {N : Nat} (ih : ∀ (h : ez_H) (i : Int32) (c : Nat) (l5 l6 : Option Value), RR h → (ez_n h ≤ 126 + c ∧ ez_u h ≤ 522573 + 6 * c) → (i.toInt = 6 * c ∧ c ≤ 600) → 4000 - i.toInt < (N : Int) → pw (tz_E L xs) 10 149 23 [some (.retAddr 0), some (.ref 1), some (.ref 71), some (.ref 126), some (.int i), l5, l6] [] h lw_Qq) (h : ez_H) (i : Int32) (c : Nat) (l5 l6 : Option Value) (R : RR h) (hc : ez_n h ≤ 126 + c ∧ ez_u h ≤ 522573 + 6 * c) (hi : (i.toInt = 6 * c ∧ c ≤ 600) ∧ i.toInt + 6 ≤ L) (hm : 4000 - i.toInt < ((N + 1 : Nat) : Int)) : ez_gw (ez_Wp (tz_E L xs) tz_ml tz_hn tz_co) (tz_E L xs) tz_ml (tz_hn 149) 149 10 (ev_skip 40 cz_149).tail 408 [some (.retAddr 0), some (.ref 1), some (.ref 71), some (.ref 126), some (.int i), l5, l6] [] h lw_Qq := by
  have hE : zE (tz_E L xs) := fun j => rfl
  have gi := z_rng i
  refine gw_skip _ ?_
  refine gw_ld rfl rfl ?_
  refine gw_ld rfl rfl ?_
  refine gw_ld rfl rfl ?_
  refine z_C (m := 1) rfl rfl (fun x227 ex227 => ?_)
  refine z_add (by omega) (fun x228 ex228 => ?_)
  refine z_iaE (n := L) (f := xs) rfl (by omega) ?_
  generalize ex229 : xs _ = x229
  refine gw_ld rfl rfl ?_
  refine gw_ld rfl rfl ?_
  refine z_C (m := 2) rfl rfl (fun x230 ex230 => ?_)
  refine z_add (by omega) (fun x231 ex231 => ?_)
  refine z_iaE (n := L) (f := xs) rfl (by omega) ?_
  generalize ex232 : xs _ = x232
  refine z_cl rfl rfl rfl rfl rfl rfl rfl rfl rfl rfl rfl (zT R.1 (by decide) rfl) ?_
  refine x_blockF R.1 (RR_k R) (fun x233 k234 k235 => ?_)
  refine gw_op rfl ?_
  refine gw_ld rfl rfl ?_
  refine gw_ld rfl rfl ?_
  refine gw_ld rfl rfl ?_
  refine z_C (m := 1) rfl rfl (fun x236 ex236 => ?_)
  refine z_add (by omega) (fun x237 ex237 => ?_)
  refine z_iaE (n := L) (f := xs) rfl (by omega) ?_
  generalize ex238 : xs _ = x238
  have qx238 : x238 = x229 := ex238.symm.trans ((congrArg xs (by omega)).trans ex229)
  subst qx238
  refine gw_ld rfl rfl ?_
  refine gw_ld rfl rfl ?_
  refine z_C (m := 2) rfl rfl (fun x239 ex239 => ?_)
  refine z_add (by omega) (fun x240 ex240 => ?_)
  refine z_iaE (n := L) (f := xs) rfl (by omega) ?_
  generalize ex241 : xs _ = x241
  have qx241 : x241 = x232 := ex241.symm.trans ((congrArg xs (by omega)).trans ex232)
  subst qx241
  refine z_cl rfl rfl rfl rfl rfl rfl rfl rfl rfl rfl rfl (zT (MM_R R).1 (by decide) rfl) ?_
  refine d_block (MM_R R).1 (MM_R R).2.2.2.2.2.2.2.1 (fun h243 x242 F244 j246 j247 j248 j249 j250 j251 j252 => ?_)
  have R245 := st_0 R (zV_of (MM_R R).1 F244)
  refine gw_op rfl ?_
  refine z_go ?_
  refine gw_skip _ ?_
  refine z_inc rfl (by rw [show (6 : Int32).toInt = 6 from rfl]; omega) (fun x253 ex253 => ?_)
  rw [show (6 : Int32).toInt = 6 from rfl] at ex253
  show ez_gw _ _ _ _ _ _ _ _ [some (.retAddr 0), some (.ref 1), some (.ref 71), some (.ref 126), some (.int x253), l5, l6] _ _ _
  refine z_go ?_
  exact ih h243 x253 (c + 1) (l5) (l6) R245 (lw_cn hc (lC_W F244)) (by omega) (by omega)
set_option maxRecDepth 4000 in
theorem lw_c11 {L : Nat} {xs : Nat → Int32} (hL : L ≤ 3072) {N : Nat} (ih : ∀ (h : ez_H) (i : Int32) (c : Nat) (l5 l6 : Option Value), RR h → (ez_n h ≤ 126 + c ∧ ez_u h ≤ 522573 + 6 * c) → (i.toInt = 6 * c ∧ c ≤ 600) → 4000 - i.toInt < (N : Int) → pw (tz_E L xs) 10 149 23 [some (.retAddr 0), some (.ref 1), some (.ref 71), some (.ref 126), some (.int i), l5, l6] [] h lw_Qq) (h : ez_H) (i : Int32) (c : Nat) (l5 l6 : Option Value) (R : RR h) (hc : ez_n h ≤ 126 + c ∧ ez_u h ≤ 522573 + 6 * c) (hi : (i.toInt = 6 * c ∧ c ≤ 600) ∧ i.toInt + 6 ≤ L) (hm : 4000 - i.toInt < ((N + 1 : Nat) : Int)) : ez_gw (ez_Wp (tz_E L xs) tz_ml tz_hn tz_co) (tz_E L xs) tz_ml (tz_hn 149) 149 10 (ev_skip 40 cz_149).tail 445 [some (.retAddr 0), some (.ref 1), some (.ref 71), some (.ref 126), some (.int i), l5, l6] [] h lw_Qq := by
  have hE : zE (tz_E L xs) := fun j => rfl
  have gi := z_rng i
  refine gw_skip _ ?_
  refine gw_ld rfl rfl ?_
  refine gw_ld rfl rfl ?_
  refine gw_ld rfl rfl ?_
  refine z_C (m := 1) rfl rfl (fun x254 ex254 => ?_)
  refine z_add (by omega) (fun x255 ex255 => ?_)
  refine z_iaE (n := L) (f := xs) rfl (by omega) ?_
  generalize ex256 : xs _ = x256
  refine gw_ld rfl rfl ?_
  refine gw_ld rfl rfl ?_
  refine z_C (m := 2) rfl rfl (fun x257 ex257 => ?_)
  refine z_add (by omega) (fun x258 ex258 => ?_)
  refine z_iaE (n := L) (f := xs) rfl (by omega) ?_
  generalize ex259 : xs _ = x259
  refine gw_ld rfl rfl ?_
  refine gw_ld rfl rfl ?_
  refine z_C (m := 3) rfl rfl (fun x260 ex260 => ?_)
  refine z_add (by omega) (fun x261 ex261 => ?_)
  refine z_iaE (n := L) (f := xs) rfl (by omega) ?_
  generalize ex262 : xs _ = x262
  refine z_cl rfl rfl rfl rfl rfl rfl rfl rfl rfl rfl rfl (zT R.1 (by decide) rfl) ?_
  refine x_codeF R.1 hE (RR_k R) (fun x263 k264 k265 k266 k267 k268 k269 k270 => ?_)
  refine gw_op rfl ?_
  refine gw_ld rfl rfl ?_
  refine gw_ld rfl rfl ?_
  refine gw_ld rfl rfl ?_
  refine z_C (m := 1) rfl rfl (fun x271 ex271 => ?_)
  refine z_add (by omega) (fun x272 ex272 => ?_)
  refine z_iaE (n := L) (f := xs) rfl (by omega) ?_
  generalize ex273 : xs _ = x273
  have qx273 : x273 = x256 := ex273.symm.trans ((congrArg xs (by omega)).trans ex256)
  subst qx273
  refine gw_ld rfl rfl ?_
  refine gw_ld rfl rfl ?_
  refine z_C (m := 2) rfl rfl (fun x274 ex274 => ?_)
  refine z_add (by omega) (fun x275 ex275 => ?_)
  refine z_iaE (n := L) (f := xs) rfl (by omega) ?_
  generalize ex276 : xs _ = x276
  have qx276 : x276 = x259 := ex276.symm.trans ((congrArg xs (by omega)).trans ex259)
  subst qx276
  refine gw_ld rfl rfl ?_
  refine gw_ld rfl rfl ?_
  refine z_C (m := 3) rfl rfl (fun x277 ex277 => ?_)
  refine z_add (by omega) (fun x278 ex278 => ?_)
  refine z_iaE (n := L) (f := xs) rfl (by omega) ?_
  generalize ex279 : xs _ = x279
  have qx279 : x279 = x262 := ex279.symm.trans ((congrArg xs (by omega)).trans ex262)
  subst qx279
  refine z_cl rfl rfl rfl rfl rfl rfl rfl rfl rfl rfl rfl (zT (MM_R R).1 (by decide) rfl) ?_
  refine d_code (MM_R R).1 (MM_R R).2.2.2.2.2.2.2.1 (fun h281 x280 F282 j284 j285 j286 j287 j288 j289 j290 => ?_)
  have R283 := st_0 R (zV_of (MM_R R).1 F282)
  refine gw_op rfl ?_
  refine z_go ?_
  refine gw_skip _ ?_
  refine z_inc rfl (by rw [show (6 : Int32).toInt = 6 from rfl]; omega) (fun x291 ex291 => ?_)
  rw [show (6 : Int32).toInt = 6 from rfl] at ex291
  show ez_gw _ _ _ _ _ _ _ _ [some (.retAddr 0), some (.ref 1), some (.ref 71), some (.ref 126), some (.int x291), l5, l6] _ _ _
  refine z_go ?_
  exact ih h281 x291 (c + 1) (l5) (l6) R283 (lw_cn hc (lC_W F282)) (by omega) (by omega)
theorem x77_27 : ∀ q : Nat, (30 ≤ q ∧ q ≤ 35 ∨ 37 ≤ q ∧ q ≤ 42 ∨ 44 ≤ q ∧ q ≤ 49 ∨ q = 70 ∨ q = 51 ∨ q = 5) → q ≤ 70 := fun q hq => by omega
theorem x77_28 : ∀ q k : Nat, (q = 69 ∧ k = 2 ∨ q = 69 ∧ k = 3 ∨ q = 69 ∧ k = 6 ∨ q = 29 ∧ k = 4 ∨ q = 36 ∧ k = 4 ∨ q = 43 ∧ k = 4 ∨ q = 50 ∧ k = 1 ∨ q = 69 ∧ k = 1 ∨ q = 4 ∧ k = 1) → q ≤ 70 := fun q k hq => by omega
set_option maxRecDepth 4000 in
theorem lw_c12 {L : Nat} {xs : Nat → Int32} (hL : L ≤ 3072) {N : Nat} (ih : ∀ (h : ez_H) (i : Int32) (c : Nat) (l5 l6 : Option Value), RR h → (ez_n h ≤ 126 + c ∧ ez_u h ≤ 522573 + 6 * c) → (i.toInt = 6 * c ∧ c ≤ 600) → 4000 - i.toInt < (N : Int) → pw (tz_E L xs) 10 149 23 [some (.retAddr 0), some (.ref 1), some (.ref 71), some (.ref 126), some (.int i), l5, l6] [] h lw_Qq) (h : ez_H) (i : Int32) (c : Nat) (l5 l6 : Option Value) (R : RR h) (hc : ez_n h ≤ 126 + c ∧ ez_u h ≤ 522573 + 6 * c) (hi : (i.toInt = 6 * c ∧ c ≤ 600) ∧ i.toInt + 6 ≤ L) (hm : 4000 - i.toInt < ((N + 1 : Nat) : Int)) : ez_gw (ez_Wp (tz_E L xs) tz_ml tz_hn tz_co) (tz_E L xs) tz_ml (tz_hn 149) 149 10 (ev_skip 40 cz_149).tail 494 [some (.retAddr 0), some (.ref 1), some (.ref 71), some (.ref 126), some (.int i), l5, l6] [] h lw_Qq := by
  have hE : zE (tz_E L xs) := fun j => rfl
  have gi := z_rng i
  refine gw_skip _ ?_
  refine gw_ld rfl rfl ?_
  refine gw_ld rfl rfl ?_
  refine z_cl rfl rfl rfl rfl rfl rfl rfl rfl rfl rfl rfl (trivial) ?_
  refine l_unpackR R hE (zMm h hc hi.1) (fun h293 x292 A294 V295 k296 o297 => ?_)
  have M298 := MM_C (MM_R R) V295 x77_27 x77_28
  refine gw_st rfl rfl rfl ?_
  show ez_gw _ _ _ _ _ _ _ _ [some (.retAddr 0), some (.ref 1), some (.ref 71), some (.ref 126), some (.int i), some (.int x292), l6] _ _ _
  refine gw_ld rfl rfl ?_
  refine z_cl rfl rfl rfl rfl rfl rfl rfl rfl rfl rfl rfl (zT M298.1 (by decide) rfl) ?_
  refine d_unpackF M298.1 M298.2.1 M298.2.2.2.2.2.1.2.1 M298.2.2.2.2.2.1.2.2.1 M298.2.2.2.2.2.1.2.2.2.1 M298.2.2.2.2.2.1.2.2.2.2.1 M298.2.2.2.2.2.1.2.2.2.2.2 (fun h300 x299 F301 j303 => ?_)
  have R302 := st_unpack R V295 k296 (zV_of M298.1 F301) j303
  refine gw_st rfl rfl rfl ?_
  show ez_gw _ _ _ _ _ _ _ _ [some (.retAddr 0), some (.ref 1), some (.ref 71), some (.ref 126), some (.int i), some (.int x292), some (.int x299)] _ _ _
  refine z_go ?_
  refine gw_skip _ ?_
  refine z_inc rfl (by rw [show (6 : Int32).toInt = 6 from rfl]; omega) (fun x304 ex304 => ?_)
  rw [show (6 : Int32).toInt = 6 from rfl] at ex304
  show ez_gw _ _ _ _ _ _ _ _ [some (.retAddr 0), some (.ref 1), some (.ref 71), some (.ref 126), some (.int x304), some (.int x292), some (.int x299)] _ _ _
  refine z_go ?_
  exact ih h300 x304 (c + 1) (some (.int x292)) (some (.int x299)) R302 (lw_cn hc (lC_t A294 F301)) (by omega) (by omega)
set_option maxRecDepth 4000 in
theorem lw_c13 {L : Nat} {xs : Nat → Int32} (hL : L ≤ 3072) {N : Nat} (ih : ∀ (h : ez_H) (i : Int32) (c : Nat) (l5 l6 : Option Value), RR h → (ez_n h ≤ 126 + c ∧ ez_u h ≤ 522573 + 6 * c) → (i.toInt = 6 * c ∧ c ≤ 600) → 4000 - i.toInt < (N : Int) → pw (tz_E L xs) 10 149 23 [some (.retAddr 0), some (.ref 1), some (.ref 71), some (.ref 126), some (.int i), l5, l6] [] h lw_Qq) (h : ez_H) (i : Int32) (c : Nat) (l5 l6 : Option Value) (R : RR h) (hc : ez_n h ≤ 126 + c ∧ ez_u h ≤ 522573 + 6 * c) (hi : (i.toInt = 6 * c ∧ c ≤ 600) ∧ i.toInt + 6 ≤ L) (hm : 4000 - i.toInt < ((N + 1 : Nat) : Int)) : ez_gw (ez_Wp (tz_E L xs) tz_ml tz_hn tz_co) (tz_E L xs) tz_ml (tz_hn 149) 149 10 (ev_skip 40 cz_149).tail 510 [some (.retAddr 0), some (.ref 1), some (.ref 71), some (.ref 126), some (.int i), l5, l6] [] h lw_Qq := by
  have hE : zE (tz_E L xs) := fun j => rfl
  have gi := z_rng i
  refine gw_skip _ ?_
  refine gw_ld rfl rfl ?_
  refine gw_ld rfl rfl ?_
  refine gw_ld rfl rfl ?_
  refine z_C (m := 1) rfl rfl (fun x305 ex305 => ?_)
  refine z_add (by omega) (fun x306 ex306 => ?_)
  refine z_iaE (n := L) (f := xs) rfl (by omega) ?_
  generalize ex307 : xs _ = x307
  refine z_cl rfl rfl rfl rfl rfl rfl rfl rfl rfl rfl rfl (zT R.1 (by decide) rfl) ?_
  refine x_faultW R.1 (fun x308  => ?_)
  refine gw_op rfl ?_
  refine gw_ld rfl rfl ?_
  refine gw_ld rfl rfl ?_
  refine gw_ld rfl rfl ?_
  refine z_C (m := 1) rfl rfl (fun x309 ex309 => ?_)
  refine z_add (by omega) (fun x310 ex310 => ?_)
  refine z_iaE (n := L) (f := xs) rfl (by omega) ?_
  generalize ex311 : xs _ = x311
  have qx311 : x311 = x307 := ex311.symm.trans ((congrArg xs (by omega)).trans ex307)
  subst qx311
  refine z_cl rfl rfl rfl rfl rfl rfl rfl rfl rfl rfl rfl (zT (MM_R R).1 (by decide) rfl) ?_
  refine m_faultW (MM_R R).1 (fun h313 x312 F314  => ?_)
  have R315 := st_0 R (zV_of (MM_R R).1 F314)
  refine gw_op rfl ?_
  refine z_go ?_
  refine gw_skip _ ?_
  refine z_inc rfl (by rw [show (6 : Int32).toInt = 6 from rfl]; omega) (fun x316 ex316 => ?_)
  rw [show (6 : Int32).toInt = 6 from rfl] at ex316
  show ez_gw _ _ _ _ _ _ _ _ [some (.retAddr 0), some (.ref 1), some (.ref 71), some (.ref 126), some (.int x316), l5, l6] _ _ _
  refine z_go ?_
  exact ih h313 x316 (c + 1) (l5) (l6) R315 (lw_cn hc (lC_W F314)) (by omega) (by omega)
set_option maxRecDepth 4000 in
theorem lw_c14 {L : Nat} {xs : Nat → Int32} (hL : L ≤ 3072) {N : Nat} (ih : ∀ (h : ez_H) (i : Int32) (c : Nat) (l5 l6 : Option Value), RR h → (ez_n h ≤ 126 + c ∧ ez_u h ≤ 522573 + 6 * c) → (i.toInt = 6 * c ∧ c ≤ 600) → 4000 - i.toInt < (N : Int) → pw (tz_E L xs) 10 149 23 [some (.retAddr 0), some (.ref 1), some (.ref 71), some (.ref 126), some (.int i), l5, l6] [] h lw_Qq) (h : ez_H) (i : Int32) (c : Nat) (l5 l6 : Option Value) (R : RR h) (hc : ez_n h ≤ 126 + c ∧ ez_u h ≤ 522573 + 6 * c) (hi : (i.toInt = 6 * c ∧ c ≤ 600) ∧ i.toInt + 6 ≤ L) (hm : 4000 - i.toInt < ((N + 1 : Nat) : Int)) : ez_gw (ez_Wp (tz_E L xs) tz_ml tz_hn tz_co) (tz_E L xs) tz_ml (tz_hn 149) 149 10 (ev_skip 40 cz_149).tail 535 [some (.retAddr 0), some (.ref 1), some (.ref 71), some (.ref 126), some (.int i), l5, l6] [] h lw_Qq := by
  have hE : zE (tz_E L xs) := fun j => rfl
  have gi := z_rng i
  refine gw_skip _ ?_
  refine gw_ld rfl rfl ?_
  refine gw_ld rfl rfl ?_
  refine gw_ld rfl rfl ?_
  refine z_C (m := 1) rfl rfl (fun x317 ex317 => ?_)
  refine z_add (by omega) (fun x318 ex318 => ?_)
  refine z_iaE (n := L) (f := xs) rfl (by omega) ?_
  generalize ex319 : xs _ = x319
  refine z_cl rfl rfl rfl rfl rfl rfl rfl rfl rfl rfl rfl (zT R.1 (by decide) rfl) ?_
  refine x_outF R.1 (RR_o R) (fun x320 k321 k322 => ?_)
  refine gw_op rfl ?_
  refine gw_ld rfl rfl ?_
  refine gw_ld rfl rfl ?_
  refine gw_ld rfl rfl ?_
  refine z_C (m := 1) rfl rfl (fun x323 ex323 => ?_)
  refine z_add (by omega) (fun x324 ex324 => ?_)
  refine z_iaE (n := L) (f := xs) rfl (by omega) ?_
  generalize ex325 : xs _ = x325
  have qx325 : x325 = x319 := ex325.symm.trans ((congrArg xs (by omega)).trans ex319)
  subst qx325
  refine z_cl rfl rfl rfl rfl rfl rfl rfl rfl rfl rfl rfl (zT (MM_R R).1 (by decide) rfl) ?_
  refine m_outF (MM_R R).1 (MM_R R).2.2.2.1 (fun h327 x326 F328 j330 j331 => ?_)
  have R329 := st_0 R (zV_of (MM_R R).1 F328)
  refine gw_op rfl ?_
  refine z_go ?_
  refine gw_skip _ ?_
  refine z_inc rfl (by rw [show (6 : Int32).toInt = 6 from rfl]; omega) (fun x332 ex332 => ?_)
  rw [show (6 : Int32).toInt = 6 from rfl] at ex332
  show ez_gw _ _ _ _ _ _ _ _ [some (.retAddr 0), some (.ref 1), some (.ref 71), some (.ref 126), some (.int x332), l5, l6] _ _ _
  refine z_go ?_
  exact ih h327 x332 (c + 1) (l5) (l6) R329 (lw_cn hc (lC_W F328)) (by omega) (by omega)
theorem x77_29 : ∀ q : Nat, (q = 7 ∨ q = 8 ∨ q = 10 ∨ q = 13) → q ≤ 70 := fun q hq => by omega
theorem x77_30 : ∀ q k : Nat, (q = 71 ∧ k = 0) → (q = 71 ∧ k = 0) := fun q k hk => hk
theorem x77_31 : ∀ q : Nat, (q = 124) → (110 ≤ q ∧ q ≤ 114 ∨ q = 124 ∨ q = 125) := fun q hk => .inr (.inl hk)
set_option maxRecDepth 4000 in
theorem lw_c15 {L : Nat} {xs : Nat → Int32} (hL : L ≤ 3072) {N : Nat} (ih : ∀ (h : ez_H) (i : Int32) (c : Nat) (l5 l6 : Option Value), RR h → (ez_n h ≤ 126 + c ∧ ez_u h ≤ 522573 + 6 * c) → (i.toInt = 6 * c ∧ c ≤ 600) → 4000 - i.toInt < (N : Int) → pw (tz_E L xs) 10 149 23 [some (.retAddr 0), some (.ref 1), some (.ref 71), some (.ref 126), some (.int i), l5, l6] [] h lw_Qq) (h : ez_H) (i : Int32) (c : Nat) (l5 l6 : Option Value) (R : RR h) (hc : ez_n h ≤ 126 + c ∧ ez_u h ≤ 522573 + 6 * c) (hi : (i.toInt = 6 * c ∧ c ≤ 600) ∧ i.toInt + 6 ≤ L) (hm : 4000 - i.toInt < ((N + 1 : Nat) : Int)) : ez_gw (ez_Wp (tz_E L xs) tz_ml tz_hn tz_co) (tz_E L xs) tz_ml (tz_hn 149) 149 10 (ev_skip 40 cz_149).tail 560 [some (.retAddr 0), some (.ref 1), some (.ref 71), some (.ref 126), some (.int i), l5, l6] [] h lw_Qq := by
  have hE : zE (tz_E L xs) := fun j => rfl
  have gi := z_rng i
  refine gw_skip _ ?_
  refine gw_ld rfl rfl ?_
  refine gw_ld rfl rfl ?_
  refine gw_ld rfl rfl ?_
  refine z_C (m := 1) rfl rfl (fun x333 ex333 => ?_)
  refine z_add (by omega) (fun x334 ex334 => ?_)
  refine z_iaE (n := L) (f := xs) rfl (by omega) ?_
  generalize ex335 : xs _ = x335
  refine gw_ld rfl rfl ?_
  refine gw_ld rfl rfl ?_
  refine z_C (m := 2) rfl rfl (fun x336 ex336 => ?_)
  refine z_add (by omega) (fun x337 ex337 => ?_)
  refine z_iaE (n := L) (f := xs) rfl (by omega) ?_
  generalize ex338 : xs _ = x338
  refine z_cl rfl rfl rfl rfl rfl rfl rfl rfl rfl rfl rfl (trivial) ?_
  refine l_weighR R (zMm h hc hi.1) (fun h340 x339 A341 V342 k343  => ?_)
  have M345 := MM_C (MM_R R) V342 x77_29 (fun _ _ c => c.elim)
  refine gw_st rfl rfl rfl ?_
  show ez_gw _ _ _ _ _ _ _ _ [some (.retAddr 0), some (.ref 1), some (.ref 71), some (.ref 126), some (.int i), some (.int x339), l6] _ _ _
  refine gw_ld rfl rfl ?_
  refine gw_ld rfl rfl ?_
  refine gw_ld rfl rfl ?_
  refine z_C (m := 1) rfl rfl (fun x346 ex346 => ?_)
  refine z_add (by omega) (fun x347 ex347 => ?_)
  refine z_iaE (n := L) (f := xs) rfl (by omega) ?_
  generalize ex348 : xs _ = x348
  have qx348 : x348 = x335 := ex348.symm.trans ((congrArg xs (by omega)).trans ex335)
  subst qx348
  refine gw_ld rfl rfl ?_
  refine gw_ld rfl rfl ?_
  refine z_C (m := 2) rfl rfl (fun x349 ex349 => ?_)
  refine z_add (by omega) (fun x350 ex350 => ?_)
  refine z_iaE (n := L) (f := xs) rfl (by omega) ?_
  generalize ex351 : xs _ = x351
  have qx351 : x351 = x338 := ex351.symm.trans ((congrArg xs (by omega)).trans ex338)
  subst qx351
  refine z_cl rfl rfl rfl rfl rfl rfl rfl rfl rfl rfl rfl (zT M345.1 (by decide) rfl) ?_
  refine m_weighF M345.1 (fun h353 F354 j356 j357 j358 => ?_)
  have F354W := zW_ofG F354
  have R355 := st_w R V342 k343 (zV_m (zV_of M345.1 F354W) x77_30 x77_31) (m_wR M345.2.2.2.2.2.2.2.2 j357 j358)
  refine z_go ?_
  refine gw_skip _ ?_
  refine z_inc rfl (by rw [show (6 : Int32).toInt = 6 from rfl]; omega) (fun x359 ex359 => ?_)
  rw [show (6 : Int32).toInt = 6 from rfl] at ex359
  show ez_gw _ _ _ _ _ _ _ _ [some (.retAddr 0), some (.ref 1), some (.ref 71), some (.ref 126), some (.int x359), some (.int x339), l6] _ _ _
  refine z_go ?_
  exact ih h353 x359 (c + 1) (some (.int x339)) (l6) R355 (lw_cn hc (lC_t A341 F354W)) (by omega) (by omega)
theorem x77_32 : ∀ q : Nat, (110 ≤ q ∧ q ≤ 114 ∨ q = 125) → (110 ≤ q ∧ q ≤ 114 ∨ q = 124 ∨ q = 125) := fun q hk => hk.elim (fun g => .inl g) (fun g => .inr (.inr g))
set_option maxRecDepth 4000 in
theorem lw_c16 {L : Nat} {xs : Nat → Int32} (hL : L ≤ 3072) {N : Nat} (ih : ∀ (h : ez_H) (i : Int32) (c : Nat) (l5 l6 : Option Value), RR h → (ez_n h ≤ 126 + c ∧ ez_u h ≤ 522573 + 6 * c) → (i.toInt = 6 * c ∧ c ≤ 600) → 4000 - i.toInt < (N : Int) → pw (tz_E L xs) 10 149 23 [some (.retAddr 0), some (.ref 1), some (.ref 71), some (.ref 126), some (.int i), l5, l6] [] h lw_Qq) (h : ez_H) (i : Int32) (c : Nat) (l5 l6 : Option Value) (R : RR h) (hc : ez_n h ≤ 126 + c ∧ ez_u h ≤ 522573 + 6 * c) (hi : (i.toInt = 6 * c ∧ c ≤ 600) ∧ i.toInt + 6 ≤ L) (hm : 4000 - i.toInt < ((N + 1 : Nat) : Int)) : ez_gw (ez_Wp (tz_E L xs) tz_ml tz_hn tz_co) (tz_E L xs) tz_ml (tz_hn 149) 149 10 (ev_skip 40 cz_149).tail 597 [some (.retAddr 0), some (.ref 1), some (.ref 71), some (.ref 126), some (.int i), l5, l6] [] h lw_Qq := by
  have hE : zE (tz_E L xs) := fun j => rfl
  have gi := z_rng i
  refine gw_skip _ ?_
  refine gw_ld rfl rfl ?_
  refine gw_ld rfl rfl ?_
  refine gw_ld rfl rfl ?_
  refine z_C (m := 1) rfl rfl (fun x360 ex360 => ?_)
  refine z_add (by omega) (fun x361 ex361 => ?_)
  refine z_iaE (n := L) (f := xs) rfl (by omega) ?_
  generalize ex362 : xs _ = x362
  refine gw_ld rfl rfl ?_
  refine z_cl rfl rfl rfl rfl rfl rfl rfl rfl rfl rfl rfl (trivial) ?_
  refine l_measureR R hE (zMm h hc hi.1) (fun h364 x363 A365 V366 k367  => ?_)
  have M369 := MM_C (MM_R R) V366 x77_29 (fun _ _ c => c.elim)
  refine gw_st rfl rfl rfl ?_
  show ez_gw _ _ _ _ _ _ _ _ [some (.retAddr 0), some (.ref 1), some (.ref 71), some (.ref 126), some (.int i), some (.int x363), l6] _ _ _
  refine gw_ld rfl rfl ?_
  refine gw_ld rfl rfl ?_
  refine gw_ld rfl rfl ?_
  refine z_C (m := 1) rfl rfl (fun x370 ex370 => ?_)
  refine z_add (by omega) (fun x371 ex371 => ?_)
  refine z_iaE (n := L) (f := xs) rfl (by omega) ?_
  generalize ex372 : xs _ = x372
  have qx372 : x372 = x362 := ex372.symm.trans ((congrArg xs (by omega)).trans ex362)
  subst qx372
  refine z_cl rfl rfl rfl rfl rfl rfl rfl rfl rfl rfl rfl (zT M369.1 (by decide) rfl) ?_
  refine m_measF M369.1 M369.2.2.2.2.2.2.2.2 (fun h374 x373 F375 j377 j378 j379 => ?_)
  have F375W := zW_ofG F375
  have eF375 : ez_I h374 124 = ez_I h364 124 := zW_fn F375W 124 (by omega) (fun k c => by omega)
  have R376 := st_w R V366 k367 (zV_m (zV_of M369.1 F375W) x77_30 x77_32) (by rw [eF375]; exact M369.2.2.2.2.2.2.2.2)
  refine gw_st rfl rfl rfl ?_
  show ez_gw _ _ _ _ _ _ _ _ [some (.retAddr 0), some (.ref 1), some (.ref 71), some (.ref 126), some (.int i), some (.int x363), some (.int x373)] _ _ _
  refine z_go ?_
  refine gw_skip _ ?_
  refine z_inc rfl (by rw [show (6 : Int32).toInt = 6 from rfl]; omega) (fun x380 ex380 => ?_)
  rw [show (6 : Int32).toInt = 6 from rfl] at ex380
  show ez_gw _ _ _ _ _ _ _ _ [some (.retAddr 0), some (.ref 1), some (.ref 71), some (.ref 126), some (.int x380), some (.int x363), some (.int x373)] _ _ _
  refine z_go ?_
  exact ih h374 x380 (c + 1) (some (.int x363)) (some (.int x373)) R376 (lw_cn hc (lC_t A365 F375W)) (by omega) (by omega)
set_option maxRecDepth 4000 in
theorem lw_c17 {L : Nat} {xs : Nat → Int32} (hL : L ≤ 3072) {N : Nat} (ih : ∀ (h : ez_H) (i : Int32) (c : Nat) (l5 l6 : Option Value), RR h → (ez_n h ≤ 126 + c ∧ ez_u h ≤ 522573 + 6 * c) → (i.toInt = 6 * c ∧ c ≤ 600) → 4000 - i.toInt < (N : Int) → pw (tz_E L xs) 10 149 23 [some (.retAddr 0), some (.ref 1), some (.ref 71), some (.ref 126), some (.int i), l5, l6] [] h lw_Qq) (h : ez_H) (i : Int32) (c : Nat) (l5 l6 : Option Value) (R : RR h) (hc : ez_n h ≤ 126 + c ∧ ez_u h ≤ 522573 + 6 * c) (hi : (i.toInt = 6 * c ∧ c ≤ 600) ∧ i.toInt + 6 ≤ L) (hm : 4000 - i.toInt < ((N + 1 : Nat) : Int)) : ez_gw (ez_Wp (tz_E L xs) tz_ml tz_hn tz_co) (tz_E L xs) tz_ml (tz_hn 149) 149 10 (ev_skip 40 cz_149).tail 625 [some (.retAddr 0), some (.ref 1), some (.ref 71), some (.ref 126), some (.int i), l5, l6] [] h lw_Qq := by
  have hE : zE (tz_E L xs) := fun j => rfl
  have gi := z_rng i
  refine gw_skip _ ?_
  refine gw_ld rfl rfl ?_
  refine gw_ld rfl rfl ?_
  refine gw_ld rfl rfl ?_
  refine z_C (m := 1) rfl rfl (fun x381 ex381 => ?_)
  refine z_add (by omega) (fun x382 ex382 => ?_)
  refine z_iaE (n := L) (f := xs) rfl (by omega) ?_
  generalize ex383 : xs _ = x383
  refine z_cl rfl rfl rfl rfl rfl rfl rfl rfl rfl rfl rfl (zT R.1 (by decide) rfl) ?_
  refine x_lengthW R.1 (fun x384  => ?_)
  refine gw_op rfl ?_
  refine gw_ld rfl rfl ?_
  refine gw_ld rfl rfl ?_
  refine gw_ld rfl rfl ?_
  refine z_C (m := 1) rfl rfl (fun x385 ex385 => ?_)
  refine z_add (by omega) (fun x386 ex386 => ?_)
  refine z_iaE (n := L) (f := xs) rfl (by omega) ?_
  generalize ex387 : xs _ = x387
  have qx387 : x387 = x383 := ex387.symm.trans ((congrArg xs (by omega)).trans ex383)
  subst qx387
  refine z_cl rfl rfl rfl rfl rfl rfl rfl rfl rfl rfl rfl (zT (MM_R R).1 (by decide) rfl) ?_
  refine m_lengthW (MM_R R).1 (fun h389 x388 F390  => ?_)
  have R391 := st_0 R (zV_of (MM_R R).1 F390)
  refine gw_op rfl ?_
  refine z_go ?_
  refine gw_skip _ ?_
  refine z_inc rfl (by rw [show (6 : Int32).toInt = 6 from rfl]; omega) (fun x392 ex392 => ?_)
  rw [show (6 : Int32).toInt = 6 from rfl] at ex392
  show ez_gw _ _ _ _ _ _ _ _ [some (.retAddr 0), some (.ref 1), some (.ref 71), some (.ref 126), some (.int x392), l5, l6] _ _ _
  refine z_go ?_
  exact ih h389 x392 (c + 1) (l5) (l6) R391 (lw_cn hc (lC_W F390)) (by omega) (by omega)
set_option maxRecDepth 4000 in
theorem lw_c18 {L : Nat} {xs : Nat → Int32} (hL : L ≤ 3072) {N : Nat} (ih : ∀ (h : ez_H) (i : Int32) (c : Nat) (l5 l6 : Option Value), RR h → (ez_n h ≤ 126 + c ∧ ez_u h ≤ 522573 + 6 * c) → (i.toInt = 6 * c ∧ c ≤ 600) → 4000 - i.toInt < (N : Int) → pw (tz_E L xs) 10 149 23 [some (.retAddr 0), some (.ref 1), some (.ref 71), some (.ref 126), some (.int i), l5, l6] [] h lw_Qq) (h : ez_H) (i : Int32) (c : Nat) (l5 l6 : Option Value) (R : RR h) (hc : ez_n h ≤ 126 + c ∧ ez_u h ≤ 522573 + 6 * c) (hi : (i.toInt = 6 * c ∧ c ≤ 600) ∧ i.toInt + 6 ≤ L) (hm : 4000 - i.toInt < ((N + 1 : Nat) : Int)) : ez_gw (ez_Wp (tz_E L xs) tz_ml tz_hn tz_co) (tz_E L xs) tz_ml (tz_hn 149) 149 10 (ev_skip 40 cz_149).tail 650 [some (.retAddr 0), some (.ref 1), some (.ref 71), some (.ref 126), some (.int i), l5, l6] [] h lw_Qq := by
  have hE : zE (tz_E L xs) := fun j => rfl
  have gi := z_rng i
  refine gw_skip _ ?_
  refine gw_ld rfl rfl ?_
  refine gw_ld rfl rfl ?_
  refine gw_ld rfl rfl ?_
  refine z_C (m := 1) rfl rfl (fun x393 ex393 => ?_)
  refine z_add (by omega) (fun x394 ex394 => ?_)
  refine z_iaE (n := L) (f := xs) rfl (by omega) ?_
  generalize ex395 : xs _ = x395
  refine z_cl rfl rfl rfl rfl rfl rfl rfl rfl rfl rfl rfl (zT R.1 (by decide) rfl) ?_
  refine x_aboutF R.1 (fun x396 k397 k398 k399 => ?_)
  refine gw_ld rfl rfl ?_
  refine gw_ld rfl rfl ?_
  refine gw_ld rfl rfl ?_
  refine z_C (m := 1) rfl rfl (fun x400 ex400 => ?_)
  refine z_add (by omega) (fun x401 ex401 => ?_)
  refine z_iaE (n := L) (f := xs) rfl (by omega) ?_
  generalize ex402 : xs _ = x402
  have qx402 : x402 = x395 := ex402.symm.trans ((congrArg xs (by omega)).trans ex395)
  subst qx402
  refine z_cl rfl rfl rfl rfl rfl rfl rfl rfl rfl rfl rfl (zT (MM_R R).1 (by decide) rfl) ?_
  refine m_aboutF (MM_R R).1 (fun h404 x403 F405 j407 j408 j409 => ?_)
  have R406 := st_0 R (zV_of (MM_R R).1 F405)
  refine z_b2 (fun c410 => ?_) (fun c410 => ?_)
  · have c410 : x396.toInt = x403.toInt := c410
    refine gw_skip _ ?_
    refine z_inc rfl (by rw [show (6 : Int32).toInt = 6 from rfl]; omega) (fun x411 ex411 => ?_)
    rw [show (6 : Int32).toInt = 6 from rfl] at ex411
    show ez_gw _ _ _ _ _ _ _ _ [some (.retAddr 0), some (.ref 1), some (.ref 71), some (.ref 126), some (.int x411), l5, l6] _ _ _
    refine z_go ?_
    exact ih h404 x411 (c + 1) (l5) (l6) R406 (lw_cn hc (lC_W F405)) (by omega) (by omega)
  · have c410 : ¬ (x396.toInt = x403.toInt) := c410
    exact absurd (an_about R k397 k398 k399 j407 j408 j409) c410
set_option maxRecDepth 4000 in
theorem lw_cD {L : Nat} {xs : Nat → Int32} (hL : L ≤ 3072) {N : Nat} (ih : ∀ (h : ez_H) (i : Int32) (c : Nat) (l5 l6 : Option Value), RR h → (ez_n h ≤ 126 + c ∧ ez_u h ≤ 522573 + 6 * c) → (i.toInt = 6 * c ∧ c ≤ 600) → 4000 - i.toInt < (N : Int) → pw (tz_E L xs) 10 149 23 [some (.retAddr 0), some (.ref 1), some (.ref 71), some (.ref 126), some (.int i), l5, l6] [] h lw_Qq) (h : ez_H) (i : Int32) (c : Nat) (l5 l6 : Option Value) (R : RR h) (hc : ez_n h ≤ 126 + c ∧ ez_u h ≤ 522573 + 6 * c) (hi : (i.toInt = 6 * c ∧ c ≤ 600) ∧ i.toInt + 6 ≤ L) (hm : 4000 - i.toInt < ((N + 1 : Nat) : Int)) : ez_gw (ez_Wp (tz_E L xs) tz_ml tz_hn tz_co) (tz_E L xs) tz_ml (tz_hn 149) 149 10 (ev_skip 40 cz_149).tail 675 [some (.retAddr 0), some (.ref 1), some (.ref 71), some (.ref 126), some (.int i), l5, l6] [] h lw_Qq := by
  have hE : zE (tz_E L xs) := fun j => rfl
  have gi := z_rng i
  refine gw_skip _ ?_
  refine z_inc rfl (by rw [show (6 : Int32).toInt = 6 from rfl]; omega) (fun x412 ex412 => ?_)
  rw [show (6 : Int32).toInt = 6 from rfl] at ex412
  show ez_gw _ _ _ _ _ _ _ _ [some (.retAddr 0), some (.ref 1), some (.ref 71), some (.ref 126), some (.int x412), l5, l6] _ _ _
  refine z_go ?_
  exact ih h x412 (c + 1) (l5) (l6) R (lw_cn hc ⟨Nat.le_succ _, Nat.le_add_right _ _⟩) (by omega) (by omega)
set_option maxRecDepth 8000 in
theorem lw_loop {L : Nat} {xs : Nat → Int32} (hL : L ≤ 3072) : ∀ N : Nat, ∀ (h : ez_H) (i : Int32) (c : Nat) (l5 l6 : Option Value), RR h → (ez_n h ≤ 126 + c ∧ ez_u h ≤ 522573 + 6 * c) → (i.toInt = 6 * c ∧ c ≤ 600) → 4000 - i.toInt < (N : Int) → pw (tz_E L xs) 10 149 23 [some (.retAddr 0), some (.ref 1), some (.ref 71), some (.ref 126), some (.int i), l5, l6] [] h lw_Qq := by
  intro N
  induction N with
  | zero => exact fun h i c l5 l6 R hc hi hm => absurd hm (by omega)
  | succ N ih =>
    intro h i c l5 l6 R hc hi hm
    apply ez_Wp_in
    show ez_gw _ _ _ _ _ _ (cz_149) _ _ _ _ _
    refine gw_skip _ ?_
    have gi := z_rng i
    refine gw_ld rfl rfl ?_
    refine gw_ld rfl rfl ?_
    refine z_alE (n := L) rfl (by omega) (fun x1 ex1 => ?_)
    refine z_C (m := 6) rfl rfl (fun x2 ex2 => ?_)
    refine z_sub (by omega) (fun x3 ex3 => ?_)
    refine z_b2 (fun c4 => ?_) (fun c4 => ?_)
    · refine gw_skip _ ?_
      refine z_C (m := 1) rfl rfl (fun x5 ex5 => ?_)
      refine z_rz (by omega) ?_
      exact congrArg (fun q => Sum.inl (some (Value.int q))) (z_inj ex5)
    · have c4 : ¬ (x3.toInt < i.toInt) := c4
      have hi2 : (i.toInt = 6 * c ∧ c ≤ 600) ∧ i.toInt + 6 ≤ L := ⟨hi, by omega⟩
      refine gw_ld rfl rfl ?_
      refine gw_ld rfl rfl ?_
      refine z_iaE (n := L) (f := xs) rfl (by omega) ?_
      refine z_C (m := 31) rfl rfl (fun x6 ex6 => ?_)
      refine z_and (fun x7 ex7 ux7 wx7 => ?_)
      refine gw_jp rfl rfl rfl rfl rfl rfl rfl ?_
      refine ⟨fun _ => lw_c0 hL ih h i c l5 l6 R hc hi2 hm, fun _ => ?_⟩
      refine ⟨fun _ => lw_c1 hL ih h i c l5 l6 R hc hi2 hm, fun _ => ?_⟩
      refine ⟨fun _ => lw_c2 hL ih h i c l5 l6 R hc hi2 hm, fun _ => ?_⟩
      refine ⟨fun _ => lw_c3 hL ih h i c l5 l6 R hc hi2 hm, fun _ => ?_⟩
      refine ⟨fun _ => lw_c4 hL ih h i c l5 l6 R hc hi2 hm, fun _ => ?_⟩
      refine ⟨fun _ => lw_c5 hL ih h i c l5 l6 R hc hi2 hm, fun _ => ?_⟩
      refine ⟨fun _ => lw_c6 hL ih h i c l5 l6 R hc hi2 hm, fun _ => ?_⟩
      refine ⟨fun _ => lw_c7 hL ih h i c l5 l6 R hc hi2 hm, fun _ => ?_⟩
      refine ⟨fun _ => lw_c8 hL ih h i c l5 l6 R hc hi2 hm, fun _ => ?_⟩
      refine ⟨fun _ => lw_c9 hL ih h i c l5 l6 R hc hi2 hm, fun _ => ?_⟩
      refine ⟨fun _ => lw_c10 hL ih h i c l5 l6 R hc hi2 hm, fun _ => ?_⟩
      refine ⟨fun _ => lw_c11 hL ih h i c l5 l6 R hc hi2 hm, fun _ => ?_⟩
      refine ⟨fun _ => lw_c12 hL ih h i c l5 l6 R hc hi2 hm, fun _ => ?_⟩
      refine ⟨fun _ => lw_c13 hL ih h i c l5 l6 R hc hi2 hm, fun _ => ?_⟩
      refine ⟨fun _ => lw_c14 hL ih h i c l5 l6 R hc hi2 hm, fun _ => ?_⟩
      refine ⟨fun _ => lw_c15 hL ih h i c l5 l6 R hc hi2 hm, fun _ => ?_⟩
      refine ⟨fun _ => lw_c16 hL ih h i c l5 l6 R hc hi2 hm, fun _ => ?_⟩
      refine ⟨fun _ => lw_c17 hL ih h i c l5 l6 R hc hi2 hm, fun _ => ?_⟩
      refine ⟨fun _ => lw_c18 hL ih h i c l5 l6 R hc hi2 hm, fun _ => ?_⟩
      exact lw_cD hL ih h i c l5 l6 R hc hi2 hm
theorem lw_law {L : Nat} {xs : Nat → Int32} (hL : L ≤ 3072) : tz_Law L xs := by
  refine lw_upto (fun h hr => ?_)
  have e1 := hr.1
  have e2 := hr.2.1
  have K := lw_loop (xs := xs) hL 5000 h 0 0 none none (g3_RR hr) ⟨by rw [e1]; exact Nat.le_refl _, by rw [e2]; exact Nat.le_refl _⟩ ⟨rfl, by omega⟩ (by decide)
  exact ez_Wp_out K
