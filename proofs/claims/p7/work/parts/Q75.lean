/-! PRINTED by wip/pack: the law -/
/-! the law's loop -/
noncomputable def lw_Qq : ez_Q := fun o _ => o = .inl (some (.int 1))
theorem lw_cn {h h2 : ez_H} {c : Nat} (hc : ez_n h ≤ 126 + c ∧ ez_u h ≤ 522573 + 6 * c) (A : lC h h2) : ez_n h2 ≤ 126 + (c + 1) ∧ ez_u h2 ≤ 522573 + 6 * (c + 1) := by
  have a := A.1
  have b := A.2
  omega
theorem zMm (h : ez_H) {c : Nat} {i : Int32} (hc : ez_n h ≤ 126 + c ∧ ez_u h ≤ 522573 + 6 * c) (hi : i.toInt = 6 * c ∧ c ≤ 600) : zMem h := by
  unfold zMem
  rw [show ez_MC = 601024 from rfl, show ez_MS = 7293034 from rfl]
  omega
theorem x77_17 : ∀ q : Nat, (q = 6) → q ≤ 70 := fun q hq => by omega
set_option maxRecDepth 4000 in
theorem lw_c0 {L : Nat} {xs : Nat → Int32} (hL : L ≤ 3072) {N : Nat} (ih : ∀ (h : ez_H) (i : Int32) (c : Nat) (l5 l6 : Option Value), RR h → (ez_n h ≤ 126 + c ∧ ez_u h ≤ 522573 + 6 * c) → (i.toInt = 6 * c ∧ c ≤ 600) → 4000 - i.toInt < (N : Int) → pw (tz_E L xs) 10 149 23 [some (.retAddr 0), some (.ref 1), some (.ref 71), some (.ref 126), some (.int i), l5, l6] [] h lw_Qq) (h : ez_H) (i : Int32) (c : Nat) (l5 l6 : Option Value) (R : RR h) (hc : ez_n h ≤ 126 + c ∧ ez_u h ≤ 522573 + 6 * c) (hi : (i.toInt = 6 * c ∧ c ≤ 600) ∧ i.toInt + 6 ≤ L) (hm : 4000 - i.toInt < ((N + 1 : Nat) : Int)) : ez_gw (ez_Wp (tz_E L xs) tz_ml tz_hn tz_co) (tz_E L xs) tz_ml (tz_hn 149) 149 10 (ev_skip 40 cz_149).tail 133 [some (.retAddr 0), some (.ref 1), some (.ref 71), some (.ref 126), some (.int i), l5, l6] [] h lw_Qq := by
  have hE : zE (tz_E L xs) := fun j => rfl
  have gi := z_rng i
  refine gw_skip _ ?_
  refine gw_ld rfl rfl ?_
  refine gw_ld rfl rfl ?_
  refine gw_ld rfl rfl ?_
  refine z_C (m := 1) rfl rfl (fun x1 ex1 => ?_)
  refine z_add (by omega) (fun x2 ex2 => ?_)
  refine z_iaE (n := L) (f := xs) rfl (by omega) ?_
  generalize ex3 : xs _ = x3
  refine gw_ld rfl rfl ?_
  refine gw_ld rfl rfl ?_
  refine z_C (m := 2) rfl rfl (fun x4 ex4 => ?_)
  refine z_add (by omega) (fun x5 ex5 => ?_)
  refine z_iaE (n := L) (f := xs) rfl (by omega) ?_
  generalize ex6 : xs _ = x6
  refine gw_ld rfl rfl ?_
  refine gw_ld rfl rfl ?_
  refine z_C (m := 3) rfl rfl (fun x7 ex7 => ?_)
  refine z_add (by omega) (fun x8 ex8 => ?_)
  refine z_iaE (n := L) (f := xs) rfl (by omega) ?_
  generalize ex9 : xs _ = x9
  refine gw_ld rfl rfl ?_
  refine gw_ld rfl rfl ?_
  refine z_C (m := 4) rfl rfl (fun x10 ex10 => ?_)
  refine z_add (by omega) (fun x11 ex11 => ?_)
  refine z_iaE (n := L) (f := xs) rfl (by omega) ?_
  generalize ex12 : xs _ = x12
  refine gw_ld rfl rfl ?_
  refine gw_ld rfl rfl ?_
  refine z_C (m := 5) rfl rfl (fun x13 ex13 => ?_)
  refine z_add (by omega) (fun x14 ex14 => ?_)
  refine z_iaE (n := L) (f := xs) rfl (by omega) ?_
  generalize ex15 : xs _ = x15
  refine z_cl rfl rfl rfl rfl rfl rfl rfl rfl rfl rfl rfl (zT R.1 (by decide) rfl) ?_
  refine x_feedF R.1 (fun h17 F18 k21 k22 k23 k24 k25 => ?_)
  have V19 := zV_of R.1 F18
  have A20 := lC_W F18
  have M26 := MM_C (MM_R R) V19 x77_17 (fun _ _ c => c.elim)
  refine gw_ld rfl rfl ?_
  refine gw_ld rfl rfl ?_
  refine gw_ld rfl rfl ?_
  refine z_C (m := 1) rfl rfl (fun x27 ex27 => ?_)
  refine z_add (by omega) (fun x28 ex28 => ?_)
  refine z_iaE (n := L) (f := xs) rfl (by omega) ?_
  generalize ex29 : xs _ = x29
  have qx29 : x29 = x3 := ex29.symm.trans ((congrArg xs (by omega)).trans ex3)
  subst qx29
  refine gw_ld rfl rfl ?_
  refine gw_ld rfl rfl ?_
  refine z_C (m := 2) rfl rfl (fun x30 ex30 => ?_)
  refine z_add (by omega) (fun x31 ex31 => ?_)
  refine z_iaE (n := L) (f := xs) rfl (by omega) ?_
  generalize ex32 : xs _ = x32
  have qx32 : x32 = x6 := ex32.symm.trans ((congrArg xs (by omega)).trans ex6)
  subst qx32
  refine gw_ld rfl rfl ?_
  refine gw_ld rfl rfl ?_
  refine z_C (m := 3) rfl rfl (fun x33 ex33 => ?_)
  refine z_add (by omega) (fun x34 ex34 => ?_)
  refine z_iaE (n := L) (f := xs) rfl (by omega) ?_
  generalize ex35 : xs _ = x35
  have qx35 : x35 = x9 := ex35.symm.trans ((congrArg xs (by omega)).trans ex9)
  subst qx35
  refine gw_ld rfl rfl ?_
  refine gw_ld rfl rfl ?_
  refine z_C (m := 4) rfl rfl (fun x36 ex36 => ?_)
  refine z_add (by omega) (fun x37 ex37 => ?_)
  refine z_iaE (n := L) (f := xs) rfl (by omega) ?_
  generalize ex38 : xs _ = x38
  have qx38 : x38 = x12 := ex38.symm.trans ((congrArg xs (by omega)).trans ex12)
  subst qx38
  refine gw_ld rfl rfl ?_
  refine gw_ld rfl rfl ?_
  refine z_C (m := 5) rfl rfl (fun x39 ex39 => ?_)
  refine z_add (by omega) (fun x40 ex40 => ?_)
  refine z_iaE (n := L) (f := xs) rfl (by omega) ?_
  generalize ex41 : xs _ = x41
  have qx41 : x41 = x15 := ex41.symm.trans ((congrArg xs (by omega)).trans ex15)
  subst qx41
  refine z_cl rfl rfl rfl rfl rfl rfl rfl rfl rfl rfl rfl (zT M26.1 (by decide) rfl) ?_
  refine m_feedF M26.1 M26.2.2.2.2.1 (fun h43 F44 j46 j47 j48 j49 j50 j51 => ?_)
  have R45 := st_feed R V19 k21 k22 k23 k24 k25 (zV_of M26.1 F44) j46 j47 j48 j49 j50 j51
  refine z_go ?_
  refine gw_skip _ ?_
  refine z_inc rfl (by rw [show (6 : Int32).toInt = 6 from rfl]; omega) (fun x52 ex52 => ?_)
  rw [show (6 : Int32).toInt = 6 from rfl] at ex52
  show ez_gw _ _ _ _ _ _ _ _ [some (.retAddr 0), some (.ref 1), some (.ref 71), some (.ref 126), some (.int x52), l5, l6] _ _ _
  refine z_go ?_
  exact ih h43 x52 (c + 1) (l5) (l6) R45 (lw_cn hc (lC_t A20 F44)) (by omega) (by omega)
theorem x77_18 : ∀ q : Nat, (q = 3 ∨ q = 6) → q ≤ 70 := fun q hq => by omega
theorem x77_19 : ∀ q k : Nat, (q = 2 ∧ k = 1) → q ≤ 70 := fun q k hq => by omega
set_option maxRecDepth 4000 in
theorem lw_c1 {L : Nat} {xs : Nat → Int32} (hL : L ≤ 3072) {N : Nat} (ih : ∀ (h : ez_H) (i : Int32) (c : Nat) (l5 l6 : Option Value), RR h → (ez_n h ≤ 126 + c ∧ ez_u h ≤ 522573 + 6 * c) → (i.toInt = 6 * c ∧ c ≤ 600) → 4000 - i.toInt < (N : Int) → pw (tz_E L xs) 10 149 23 [some (.retAddr 0), some (.ref 1), some (.ref 71), some (.ref 126), some (.int i), l5, l6] [] h lw_Qq) (h : ez_H) (i : Int32) (c : Nat) (l5 l6 : Option Value) (R : RR h) (hc : ez_n h ≤ 126 + c ∧ ez_u h ≤ 522573 + 6 * c) (hi : (i.toInt = 6 * c ∧ c ≤ 600) ∧ i.toInt + 6 ≤ L) (hm : 4000 - i.toInt < ((N + 1 : Nat) : Int)) : ez_gw (ez_Wp (tz_E L xs) tz_ml tz_hn tz_co) (tz_E L xs) tz_ml (tz_hn 149) 149 10 (ev_skip 40 cz_149).tail 204 [some (.retAddr 0), some (.ref 1), some (.ref 71), some (.ref 126), some (.int i), l5, l6] [] h lw_Qq := by
  have hE : zE (tz_E L xs) := fun j => rfl
  have gi := z_rng i
  refine gw_skip _ ?_
  refine gw_ld rfl rfl ?_
  refine gw_ld rfl rfl ?_
  refine gw_ld rfl rfl ?_
  refine z_C (m := 1) rfl rfl (fun x53 ex53 => ?_)
  refine z_add (by omega) (fun x54 ex54 => ?_)
  refine z_iaE (n := L) (f := xs) rfl (by omega) ?_
  generalize ex55 : xs _ = x55
  refine gw_ld rfl rfl ?_
  refine gw_ld rfl rfl ?_
  refine z_C (m := 2) rfl rfl (fun x56 ex56 => ?_)
  refine z_add (by omega) (fun x57 ex57 => ?_)
  refine z_iaE (n := L) (f := xs) rfl (by omega) ?_
  generalize ex58 : xs _ = x58
  refine z_cl rfl rfl rfl rfl rfl rfl rfl rfl rfl rfl rfl (zT R.1 (by decide) rfl) ?_
  refine x_endF R.1 (RR_z R) (fun h60 x59 F61 k64 => ?_)
  have V62 := zV_of R.1 F61
  have A63 := lC_W F61
  have M65 := MM_C (MM_R R) V62 x77_18 x77_19
  refine gw_op rfl ?_
  refine gw_ld rfl rfl ?_
  refine gw_ld rfl rfl ?_
  refine gw_ld rfl rfl ?_
  refine z_C (m := 1) rfl rfl (fun x66 ex66 => ?_)
  refine z_add (by omega) (fun x67 ex67 => ?_)
  refine z_iaE (n := L) (f := xs) rfl (by omega) ?_
  generalize ex68 : xs _ = x68
  have qx68 : x68 = x55 := ex68.symm.trans ((congrArg xs (by omega)).trans ex55)
  subst qx68
  refine gw_ld rfl rfl ?_
  refine gw_ld rfl rfl ?_
  refine z_C (m := 2) rfl rfl (fun x69 ex69 => ?_)
  refine z_add (by omega) (fun x70 ex70 => ?_)
  refine z_iaE (n := L) (f := xs) rfl (by omega) ?_
  generalize ex71 : xs _ = x71
  have qx71 : x71 = x58 := ex71.symm.trans ((congrArg xs (by omega)).trans ex58)
  subst qx71
  refine z_cl rfl rfl rfl rfl rfl rfl rfl rfl rfl rfl rfl (zT M65.1 (by decide) rfl) ?_
  refine m_endF M65.1 M65.2.1 M65.2.2.1 (fun h73 x72 F74 j76 => ?_)
  have R75 := st_end R V62 k64 (zV_of M65.1 F74) j76
  refine gw_op rfl ?_
  refine z_go ?_
  refine gw_skip _ ?_
  refine z_inc rfl (by rw [show (6 : Int32).toInt = 6 from rfl]; omega) (fun x77 ex77 => ?_)
  rw [show (6 : Int32).toInt = 6 from rfl] at ex77
  show ez_gw _ _ _ _ _ _ _ _ [some (.retAddr 0), some (.ref 1), some (.ref 71), some (.ref 126), some (.int x77), l5, l6] _ _ _
  refine z_go ?_
  exact ih h73 x77 (c + 1) (l5) (l6) R75.1 (lw_cn hc (lC_t A63 F74)) (by omega) (by omega)
set_option maxRecDepth 4000 in
theorem lw_c2 {L : Nat} {xs : Nat → Int32} (hL : L ≤ 3072) {N : Nat} (ih : ∀ (h : ez_H) (i : Int32) (c : Nat) (l5 l6 : Option Value), RR h → (ez_n h ≤ 126 + c ∧ ez_u h ≤ 522573 + 6 * c) → (i.toInt = 6 * c ∧ c ≤ 600) → 4000 - i.toInt < (N : Int) → pw (tz_E L xs) 10 149 23 [some (.retAddr 0), some (.ref 1), some (.ref 71), some (.ref 126), some (.int i), l5, l6] [] h lw_Qq) (h : ez_H) (i : Int32) (c : Nat) (l5 l6 : Option Value) (R : RR h) (hc : ez_n h ≤ 126 + c ∧ ez_u h ≤ 522573 + 6 * c) (hi : (i.toInt = 6 * c ∧ c ≤ 600) ∧ i.toInt + 6 ≤ L) (hm : 4000 - i.toInt < ((N + 1 : Nat) : Int)) : ez_gw (ez_Wp (tz_E L xs) tz_ml tz_hn tz_co) (tz_E L xs) tz_ml (tz_hn 149) 149 10 (ev_skip 40 cz_149).tail 241 [some (.retAddr 0), some (.ref 1), some (.ref 71), some (.ref 126), some (.int i), l5, l6] [] h lw_Qq := by
  have hE : zE (tz_E L xs) := fun j => rfl
  have gi := z_rng i
  refine gw_skip _ ?_
  refine gw_ld rfl rfl ?_
  refine gw_ld rfl rfl ?_
  refine gw_ld rfl rfl ?_
  refine z_C (m := 1) rfl rfl (fun x78 ex78 => ?_)
  refine z_add (by omega) (fun x79 ex79 => ?_)
  refine z_iaE (n := L) (f := xs) rfl (by omega) ?_
  generalize ex80 : xs _ = x80
  refine z_cl rfl rfl rfl rfl rfl rfl rfl rfl rfl rfl rfl (zT R.1 (by decide) rfl) ?_
  refine x_cutF R.1 (fun h82 x81 F83 k86 => ?_)
  have V84 := zV_of R.1 F83
  have A85 := lC_W F83
  have M87 := MM_C (MM_R R) V84 (fun _ c => c.elim) x77_19
  refine gw_op rfl ?_
  refine gw_ld rfl rfl ?_
  refine gw_ld rfl rfl ?_
  refine gw_ld rfl rfl ?_
  refine z_C (m := 1) rfl rfl (fun x88 ex88 => ?_)
  refine z_add (by omega) (fun x89 ex89 => ?_)
  refine z_iaE (n := L) (f := xs) rfl (by omega) ?_
  generalize ex90 : xs _ = x90
  have qx90 : x90 = x80 := ex90.symm.trans ((congrArg xs (by omega)).trans ex80)
  subst qx90
  refine z_cl rfl rfl rfl rfl rfl rfl rfl rfl rfl rfl rfl (zT M87.1 (by decide) rfl) ?_
  refine m_cutF M87.1 (fun h92 x91 F93 j95 => ?_)
  have R94 := st_cut R V84 k86 (zV_of M87.1 F93) j95
  refine gw_op rfl ?_
  refine z_go ?_
  refine gw_skip _ ?_
  refine z_inc rfl (by rw [show (6 : Int32).toInt = 6 from rfl]; omega) (fun x96 ex96 => ?_)
  rw [show (6 : Int32).toInt = 6 from rfl] at ex96
  show ez_gw _ _ _ _ _ _ _ _ [some (.retAddr 0), some (.ref 1), some (.ref 71), some (.ref 126), some (.int x96), l5, l6] _ _ _
  refine z_go ?_
  exact ih h92 x96 (c + 1) (l5) (l6) R94.1 (lw_cn hc (lC_t A85 F93)) (by omega) (by omega)
theorem x77_20 : ∀ q : Nat, (q = 3) → q ≤ 70 := fun q hq => by omega
set_option maxRecDepth 4000 in
theorem lw_c3 {L : Nat} {xs : Nat → Int32} (hL : L ≤ 3072) {N : Nat} (ih : ∀ (h : ez_H) (i : Int32) (c : Nat) (l5 l6 : Option Value), RR h → (ez_n h ≤ 126 + c ∧ ez_u h ≤ 522573 + 6 * c) → (i.toInt = 6 * c ∧ c ≤ 600) → 4000 - i.toInt < (N : Int) → pw (tz_E L xs) 10 149 23 [some (.retAddr 0), some (.ref 1), some (.ref 71), some (.ref 126), some (.int i), l5, l6] [] h lw_Qq) (h : ez_H) (i : Int32) (c : Nat) (l5 l6 : Option Value) (R : RR h) (hc : ez_n h ≤ 126 + c ∧ ez_u h ≤ 522573 + 6 * c) (hi : (i.toInt = 6 * c ∧ c ≤ 600) ∧ i.toInt + 6 ≤ L) (hm : 4000 - i.toInt < ((N + 1 : Nat) : Int)) : ez_gw (ez_Wp (tz_E L xs) tz_ml tz_hn tz_co) (tz_E L xs) tz_ml (tz_hn 149) 149 10 (ev_skip 40 cz_149).tail 266 [some (.retAddr 0), some (.ref 1), some (.ref 71), some (.ref 126), some (.int i), l5, l6] [] h lw_Qq := by
  have hE : zE (tz_E L xs) := fun j => rfl
  have gi := z_rng i
  refine gw_skip _ ?_
  refine gw_ld rfl rfl ?_
  refine gw_ld rfl rfl ?_
  refine gw_ld rfl rfl ?_
  refine z_C (m := 1) rfl rfl (fun x97 ex97 => ?_)
  refine z_add (by omega) (fun x98 ex98 => ?_)
  refine z_iaE (n := L) (f := xs) rfl (by omega) ?_
  generalize ex99 : xs _ = x99
  refine gw_ld rfl rfl ?_
  refine gw_ld rfl rfl ?_
  refine z_C (m := 2) rfl rfl (fun x100 ex100 => ?_)
  refine z_add (by omega) (fun x101 ex101 => ?_)
  refine z_iaE (n := L) (f := xs) rfl (by omega) ?_
  generalize ex102 : xs _ = x102
  refine z_cl rfl rfl rfl rfl rfl rfl rfl rfl rfl rfl rfl (zT R.1 (by decide) rfl) ?_
  refine x_flipF R.1 (RR_z R) (fun h104 x103 F105 k108 => ?_)
  have V106 := zV_of R.1 F105
  have A107 := lC_W F105
  have M109 := MM_C (MM_R R) V106 x77_20 (fun _ _ c => c.elim)
  refine gw_op rfl ?_
  refine gw_ld rfl rfl ?_
  refine gw_ld rfl rfl ?_
  refine gw_ld rfl rfl ?_
  refine z_C (m := 1) rfl rfl (fun x110 ex110 => ?_)
  refine z_add (by omega) (fun x111 ex111 => ?_)
  refine z_iaE (n := L) (f := xs) rfl (by omega) ?_
  generalize ex112 : xs _ = x112
  have qx112 : x112 = x99 := ex112.symm.trans ((congrArg xs (by omega)).trans ex99)
  subst qx112
  refine gw_ld rfl rfl ?_
  refine gw_ld rfl rfl ?_
  refine z_C (m := 2) rfl rfl (fun x113 ex113 => ?_)
  refine z_add (by omega) (fun x114 ex114 => ?_)
  refine z_iaE (n := L) (f := xs) rfl (by omega) ?_
  generalize ex115 : xs _ = x115
  have qx115 : x115 = x102 := ex115.symm.trans ((congrArg xs (by omega)).trans ex102)
  subst qx115
  refine z_cl rfl rfl rfl rfl rfl rfl rfl rfl rfl rfl rfl (zT M109.1 (by decide) rfl) ?_
  refine m_flipF M109.1 M109.2.1 (fun h117 x116 F118 j120 => ?_)
  have R119 := st_flip R V106 k108 (zV_of M109.1 F118) j120
  refine gw_op rfl ?_
  refine z_go ?_
  refine gw_skip _ ?_
  refine z_inc rfl (by rw [show (6 : Int32).toInt = 6 from rfl]; omega) (fun x121 ex121 => ?_)
  rw [show (6 : Int32).toInt = 6 from rfl] at ex121
  show ez_gw _ _ _ _ _ _ _ _ [some (.retAddr 0), some (.ref 1), some (.ref 71), some (.ref 126), some (.int x121), l5, l6] _ _ _
  refine z_go ?_
  exact ih h117 x121 (c + 1) (l5) (l6) R119.1 (lw_cn hc (lC_t A107 F118)) (by omega) (by omega)
set_option maxRecDepth 4000 in
theorem lw_c4 {L : Nat} {xs : Nat → Int32} (hL : L ≤ 3072) {N : Nat} (ih : ∀ (h : ez_H) (i : Int32) (c : Nat) (l5 l6 : Option Value), RR h → (ez_n h ≤ 126 + c ∧ ez_u h ≤ 522573 + 6 * c) → (i.toInt = 6 * c ∧ c ≤ 600) → 4000 - i.toInt < (N : Int) → pw (tz_E L xs) 10 149 23 [some (.retAddr 0), some (.ref 1), some (.ref 71), some (.ref 126), some (.int i), l5, l6] [] h lw_Qq) (h : ez_H) (i : Int32) (c : Nat) (l5 l6 : Option Value) (R : RR h) (hc : ez_n h ≤ 126 + c ∧ ez_u h ≤ 522573 + 6 * c) (hi : (i.toInt = 6 * c ∧ c ≤ 600) ∧ i.toInt + 6 ≤ L) (hm : 4000 - i.toInt < ((N + 1 : Nat) : Int)) : ez_gw (ez_Wp (tz_E L xs) tz_ml tz_hn tz_co) (tz_E L xs) tz_ml (tz_hn 149) 149 10 (ev_skip 40 cz_149).tail 303 [some (.retAddr 0), some (.ref 1), some (.ref 71), some (.ref 126), some (.int i), l5, l6] [] h lw_Qq := by
  have hE : zE (tz_E L xs) := fun j => rfl
  have gi := z_rng i
  refine gw_skip _ ?_
  refine gw_ld rfl rfl ?_
  refine gw_ld rfl rfl ?_
  refine z_cl rfl rfl rfl rfl rfl rfl rfl rfl rfl rfl rfl (trivial) ?_
  refine l_takeR R (zMm h hc hi.1) (fun h123 x122 A124 V125 k126 o127 => ?_)
  have M128 := MM_C (MM_R R) V125 x77_20 x77_19
  refine gw_st rfl rfl rfl ?_
  show ez_gw _ _ _ _ _ _ _ _ [some (.retAddr 0), some (.ref 1), some (.ref 71), some (.ref 126), some (.int i), some (.int x122), l6] _ _ _
  refine gw_ld rfl rfl ?_
  refine z_cl rfl rfl rfl rfl rfl rfl rfl rfl rfl rfl rfl (zT M128.1 (by decide) rfl) ?_
  refine m_takeG M128.1 M128.2.2.2.1 M128.2.2.1 (fun h130 x129 F131 j133 j134 j135 => ?_)
  have R132 := st_take R V125 k126 (zV_of M128.1 F131) j133 j134 j135
  refine gw_st rfl rfl rfl ?_
  show ez_gw _ _ _ _ _ _ _ _ [some (.retAddr 0), some (.ref 1), some (.ref 71), some (.ref 126), some (.int i), some (.int x122), some (.int x129)] _ _ _
  refine z_go ?_
  refine gw_skip _ ?_
  refine z_inc rfl (by rw [show (6 : Int32).toInt = 6 from rfl]; omega) (fun x136 ex136 => ?_)
  rw [show (6 : Int32).toInt = 6 from rfl] at ex136
  show ez_gw _ _ _ _ _ _ _ _ [some (.retAddr 0), some (.ref 1), some (.ref 71), some (.ref 126), some (.int x136), some (.int x122), some (.int x129)] _ _ _
  refine z_go ?_
  exact ih h130 x136 (c + 1) (some (.int x122)) (some (.int x129)) R132 (lw_cn hc (lC_t A124 F131)) (by omega) (by omega)
set_option maxRecDepth 4000 in
theorem lw_c5 {L : Nat} {xs : Nat → Int32} (hL : L ≤ 3072) {N : Nat} (ih : ∀ (h : ez_H) (i : Int32) (c : Nat) (l5 l6 : Option Value), RR h → (ez_n h ≤ 126 + c ∧ ez_u h ≤ 522573 + 6 * c) → (i.toInt = 6 * c ∧ c ≤ 600) → 4000 - i.toInt < (N : Int) → pw (tz_E L xs) 10 149 23 [some (.retAddr 0), some (.ref 1), some (.ref 71), some (.ref 126), some (.int i), l5, l6] [] h lw_Qq) (h : ez_H) (i : Int32) (c : Nat) (l5 l6 : Option Value) (R : RR h) (hc : ez_n h ≤ 126 + c ∧ ez_u h ≤ 522573 + 6 * c) (hi : (i.toInt = 6 * c ∧ c ≤ 600) ∧ i.toInt + 6 ≤ L) (hm : 4000 - i.toInt < ((N + 1 : Nat) : Int)) : ez_gw (ez_Wp (tz_E L xs) tz_ml tz_hn tz_co) (tz_E L xs) tz_ml (tz_hn 149) 149 10 (ev_skip 40 cz_149).tail 319 [some (.retAddr 0), some (.ref 1), some (.ref 71), some (.ref 126), some (.int i), l5, l6] [] h lw_Qq := by
  have hE : zE (tz_E L xs) := fun j => rfl
  have gi := z_rng i
  refine gw_skip _ ?_
  refine gw_ld rfl rfl ?_
  refine z_cl rfl rfl rfl rfl rfl rfl rfl rfl rfl rfl rfl (zT R.1 (by decide) rfl) ?_
  refine x_crcF R.1 hE (RR_z R) (fun x137 k138 => ?_)
  refine gw_ld rfl rfl ?_
  refine z_cl rfl rfl rfl rfl rfl rfl rfl rfl rfl rfl rfl (zT (MM_R R).1 (by decide) rfl) ?_
  refine m_crcF (MM_R R).1 (MM_R R).2.1 (fun h140 x139 F141 j143 => ?_)
  have R142 := st_0 R (zV_of (MM_R R).1 F141)
  refine z_b2 (fun c144 => ?_) (fun c144 => ?_)
  · have c144 : x137.toInt = x139.toInt := c144
    refine gw_skip _ ?_
    refine z_inc rfl (by rw [show (6 : Int32).toInt = 6 from rfl]; omega) (fun x145 ex145 => ?_)
    rw [show (6 : Int32).toInt = 6 from rfl] at ex145
    show ez_gw _ _ _ _ _ _ _ _ [some (.retAddr 0), some (.ref 1), some (.ref 71), some (.ref 126), some (.int x145), l5, l6] _ _ _
    refine z_go ?_
    exact ih h140 x145 (c + 1) (l5) (l6) R142 (lw_cn hc (lC_W F141)) (by omega) (by omega)
  · have c144 : ¬ (x137.toInt = x139.toInt) := c144
    exact absurd (an_crc R k138 j143) c144
theorem x77_21 : ∀ q : Nat, (q = 54 ∨ q = 59 ∨ q = 60 ∨ q = 51 ∨ q = 66 ∨ q = 67 ∨ q = 10 ∨ q = 13 ∨ 30 ≤ q ∧ q ≤ 35 ∨ 37 ≤ q ∧ q ≤ 42 ∨ 44 ≤ q ∧ q ≤ 49 ∨ q = 56 ∨ q = 57 ∨ 62 ≤ q ∧ q ≤ 65 ∨ q = 5) → q ≤ 70 := fun q hq => by omega
theorem x77_22 : ∀ q k : Nat, (q = 53 ∧ k = 1 ∨ q = 58 ∧ k = 2 ∨ q = 68 ∧ k = 1 ∨ q = 68 ∧ k = 2 ∨ q = 50 ∧ k = 1 ∨ q = 55 ∧ k = 2 ∨ q = 52 ∧ k = 10 ∨ q = 52 ∧ k = 11 ∨ q = 61 ∧ k = 1 ∨ q = 61 ∧ k = 2 ∨ q = 61 ∧ k = 5 ∨ q = 61 ∧ k = 7 ∨ q = 43 ∧ k = 4 ∨ q = 29 ∧ k = 4 ∨ q = 36 ∧ k = 4 ∨ q = 4 ∧ k = 1) → q ≤ 70 := fun q k hq => by omega
theorem x77_23 : ¬ (72 = 54 ∨ 72 = 59 ∨ 72 = 60 ∨ 72 = 51 ∨ 72 = 66 ∨ 72 = 67 ∨ 72 = 10 ∨ 72 = 13 ∨ 30 ≤ 72 ∧ 72 ≤ 35 ∨ 37 ≤ 72 ∧ 72 ≤ 42 ∨ 44 ≤ 72 ∧ 72 ≤ 49 ∨ 72 = 56 ∨ 72 = 57 ∨ 62 ≤ 72 ∧ 72 ≤ 65 ∨ 72 = 5) := by omega
theorem x77_24 : ∀ k : Nat, ¬ (72 = 53 ∧ k = 1 ∨ 72 = 58 ∧ k = 2 ∨ 72 = 68 ∧ k = 1 ∨ 72 = 68 ∧ k = 2 ∨ 72 = 50 ∧ k = 1 ∨ 72 = 55 ∧ k = 2 ∨ 72 = 52 ∧ k = 10 ∨ 72 = 52 ∧ k = 11 ∨ 72 = 61 ∧ k = 1 ∨ 72 = 61 ∧ k = 2 ∨ 72 = 61 ∧ k = 5 ∨ 72 = 61 ∧ k = 7 ∨ 72 = 43 ∧ k = 4 ∨ 72 = 29 ∧ k = 4 ∨ 72 = 36 ∧ k = 4 ∨ 72 = 4 ∧ k = 1) := fun k c => by omega
theorem x77_25 : ¬ (71 = 54 ∨ 71 = 59 ∨ 71 = 60 ∨ 71 = 51 ∨ 71 = 66 ∨ 71 = 67 ∨ 71 = 10 ∨ 71 = 13 ∨ 30 ≤ 71 ∧ 71 ≤ 35 ∨ 37 ≤ 71 ∧ 71 ≤ 42 ∨ 44 ≤ 71 ∧ 71 ≤ 49 ∨ 71 = 56 ∨ 71 = 57 ∨ 62 ≤ 71 ∧ 71 ≤ 65 ∨ 71 = 5) := by omega
theorem x77_26 : ¬ (71 = 53 ∧ 6 = 1 ∨ 71 = 58 ∧ 6 = 2 ∨ 71 = 68 ∧ 6 = 1 ∨ 71 = 68 ∧ 6 = 2 ∨ 71 = 50 ∧ 6 = 1 ∨ 71 = 55 ∧ 6 = 2 ∨ 71 = 52 ∧ 6 = 10 ∨ 71 = 52 ∧ 6 = 11 ∨ 71 = 61 ∧ 6 = 1 ∨ 71 = 61 ∧ 6 = 2 ∨ 71 = 61 ∧ 6 = 5 ∨ 71 = 61 ∧ 6 = 7 ∨ 71 = 43 ∧ 6 = 4 ∨ 71 = 29 ∧ 6 = 4 ∨ 71 = 36 ∧ 6 = 4 ∨ 71 = 4 ∧ 6 = 1) := by omega
set_option maxRecDepth 4000 in
theorem lw_c6 {L : Nat} {xs : Nat → Int32} (hL : L ≤ 3072) {N : Nat} (ih : ∀ (h : ez_H) (i : Int32) (c : Nat) (l5 l6 : Option Value), RR h → (ez_n h ≤ 126 + c ∧ ez_u h ≤ 522573 + 6 * c) → (i.toInt = 6 * c ∧ c ≤ 600) → 4000 - i.toInt < (N : Int) → pw (tz_E L xs) 10 149 23 [some (.retAddr 0), some (.ref 1), some (.ref 71), some (.ref 126), some (.int i), l5, l6] [] h lw_Qq) (h : ez_H) (i : Int32) (c : Nat) (l5 l6 : Option Value) (R : RR h) (hc : ez_n h ≤ 126 + c ∧ ez_u h ≤ 522573 + 6 * c) (hi : (i.toInt = 6 * c ∧ c ≤ 600) ∧ i.toInt + 6 ≤ L) (hm : 4000 - i.toInt < ((N + 1 : Nat) : Int)) : ez_gw (ez_Wp (tz_E L xs) tz_ml tz_hn tz_co) (tz_E L xs) tz_ml (tz_hn 149) 149 10 (ev_skip 40 cz_149).tail 332 [some (.retAddr 0), some (.ref 1), some (.ref 71), some (.ref 126), some (.int i), l5, l6] [] h lw_Qq := by
  have hE : zE (tz_E L xs) := fun j => rfl
  have gi := z_rng i
  refine gw_skip _ ?_
  refine gw_ld rfl rfl ?_
  refine z_cl rfl rfl rfl rfl rfl rfl rfl rfl rfl rfl rfl (zT R.1 (by decide) rfl) ?_
  refine x_packF R.1 hE (RR_z R) (RR_b R) R.2.1.1.1 R.2.1.1.2.1 R.2.1.1.2.2.1 R.2.1.2.1 R.2.1.2.2.1 R.2.1.2.2.2.1 (fun h147 x146 F148 c163 b164 k151 k152 k153 k154 k155 k156 k157 k158 k159 k160 k161 k162 => ?_)
  have V149 := zV_of R.1 F148
  have A150 := lC_W F148
  have M165 := MM_C (MM_R R) V149 x77_21 x77_22
  refine gw_op rfl ?_
  refine gw_ld rfl rfl ?_
  refine z_cl rfl rfl rfl rfl rfl rfl rfl rfl rfl rfl rfl (zT M165.1 (by decide) rfl) ?_
  have eT : ez_I h147 72 = ez_I h 72 := zV_fn V149 72 x77_23 x77_24
  have eN : ez_I h147 71 6 = ez_I h 71 6 := zV_f V149 71 6 x77_25 x77_26
  refine m_packF (T := tI (ez_I h 3)) (n := (ez_I h 2 1).toInt.toNat) M165.1 (by rw [eT]; exact fun i hi => (R.2.2.2.2.1.2.2.2.1 i (by have := RR_z R; omega)).symm) (by rw [eN]; have := RR_z R; have := R.2.2.2.2.1.1; omega) (by have := RR_z R; omega) M165.2.2.1 M165.2.2.2.2.2.1.1 M165.2.2.2.2.2.1.2.1 M165.2.2.2.2.2.1.2.2.1 M165.2.2.2.2.2.1.2.2.2.1 M165.2.2.2.2.2.1.2.2.2.2.1 M165.2.2.2.2.2.1.2.2.2.2.2 (fun h167 x166 F168 c184 b185 j170 j171 j172 j173 j174 j175 j176 j177 j178 j179 j180 j181 j182 j183 => ?_)
  have R169 := st_pack R V149 k151 k152 k153 k154 k155 k156 k157 k158 k159 k160 k161 k162 (zV_of M165.1 F168) j170 j172 j173 j174 j175 j176 j177 j178 j180 j181 j182
  refine gw_op rfl ?_
  refine z_go ?_
  refine gw_skip _ ?_
  refine z_inc rfl (by rw [show (6 : Int32).toInt = 6 from rfl]; omega) (fun x186 ex186 => ?_)
  rw [show (6 : Int32).toInt = 6 from rfl] at ex186
  show ez_gw _ _ _ _ _ _ _ _ [some (.retAddr 0), some (.ref 1), some (.ref 71), some (.ref 126), some (.int x186), l5, l6] _ _ _
  refine z_go ?_
  exact ih h167 x186 (c + 1) (l5) (l6) R169.1 (lw_cn hc (lC_t A150 F168)) (by omega) (by omega)
set_option maxRecDepth 4000 in
theorem lw_c7 {L : Nat} {xs : Nat → Int32} (hL : L ≤ 3072) {N : Nat} (ih : ∀ (h : ez_H) (i : Int32) (c : Nat) (l5 l6 : Option Value), RR h → (ez_n h ≤ 126 + c ∧ ez_u h ≤ 522573 + 6 * c) → (i.toInt = 6 * c ∧ c ≤ 600) → 4000 - i.toInt < (N : Int) → pw (tz_E L xs) 10 149 23 [some (.retAddr 0), some (.ref 1), some (.ref 71), some (.ref 126), some (.int i), l5, l6] [] h lw_Qq) (h : ez_H) (i : Int32) (c : Nat) (l5 l6 : Option Value) (R : RR h) (hc : ez_n h ≤ 126 + c ∧ ez_u h ≤ 522573 + 6 * c) (hi : (i.toInt = 6 * c ∧ c ≤ 600) ∧ i.toInt + 6 ≤ L) (hm : 4000 - i.toInt < ((N + 1 : Nat) : Int)) : ez_gw (ez_Wp (tz_E L xs) tz_ml tz_hn tz_co) (tz_E L xs) tz_ml (tz_hn 149) 149 10 (ev_skip 40 cz_149).tail 345 [some (.retAddr 0), some (.ref 1), some (.ref 71), some (.ref 126), some (.int i), l5, l6] [] h lw_Qq := by
  have hE : zE (tz_E L xs) := fun j => rfl
  have gi := z_rng i
  refine gw_skip _ ?_
  refine gw_ld rfl rfl ?_
  refine z_cl rfl rfl rfl rfl rfl rfl rfl rfl rfl rfl rfl (zT R.1 (by decide) rfl) ?_
  refine x_partsF R.1 (fun x187 k188 => ?_)
  refine gw_op rfl ?_
  refine gw_ld rfl rfl ?_
  refine z_cl rfl rfl rfl rfl rfl rfl rfl rfl rfl rfl rfl (zT (MM_R R).1 (by decide) rfl) ?_
  refine m_partsF (MM_R R).1 (fun h190 x189 F191 j193 => ?_)
  have R192 := st_0 R (zV_of (MM_R R).1 F191)
  refine gw_op rfl ?_
  refine z_go ?_
  refine gw_skip _ ?_
  refine z_inc rfl (by rw [show (6 : Int32).toInt = 6 from rfl]; omega) (fun x194 ex194 => ?_)
  rw [show (6 : Int32).toInt = 6 from rfl] at ex194
  show ez_gw _ _ _ _ _ _ _ _ [some (.retAddr 0), some (.ref 1), some (.ref 71), some (.ref 126), some (.int x194), l5, l6] _ _ _
  refine z_go ?_
  exact ih h190 x194 (c + 1) (l5) (l6) R192 (lw_cn hc (lC_W F191)) (by omega) (by omega)
set_option maxRecDepth 4000 in
theorem lw_c8 {L : Nat} {xs : Nat → Int32} (hL : L ≤ 3072) {N : Nat} (ih : ∀ (h : ez_H) (i : Int32) (c : Nat) (l5 l6 : Option Value), RR h → (ez_n h ≤ 126 + c ∧ ez_u h ≤ 522573 + 6 * c) → (i.toInt = 6 * c ∧ c ≤ 600) → 4000 - i.toInt < (N : Int) → pw (tz_E L xs) 10 149 23 [some (.retAddr 0), some (.ref 1), some (.ref 71), some (.ref 126), some (.int i), l5, l6] [] h lw_Qq) (h : ez_H) (i : Int32) (c : Nat) (l5 l6 : Option Value) (R : RR h) (hc : ez_n h ≤ 126 + c ∧ ez_u h ≤ 522573 + 6 * c) (hi : (i.toInt = 6 * c ∧ c ≤ 600) ∧ i.toInt + 6 ≤ L) (hm : 4000 - i.toInt < ((N + 1 : Nat) : Int)) : ez_gw (ez_Wp (tz_E L xs) tz_ml tz_hn tz_co) (tz_E L xs) tz_ml (tz_hn 149) 149 10 (ev_skip 40 cz_149).tail 358 [some (.retAddr 0), some (.ref 1), some (.ref 71), some (.ref 126), some (.int i), l5, l6] [] h lw_Qq := by
  have hE : zE (tz_E L xs) := fun j => rfl
  have gi := z_rng i
  refine gw_skip _ ?_
  refine gw_ld rfl rfl ?_
  refine gw_ld rfl rfl ?_
  refine gw_ld rfl rfl ?_
  refine z_C (m := 1) rfl rfl (fun x195 ex195 => ?_)
  refine z_add (by omega) (fun x196 ex196 => ?_)
  refine z_iaE (n := L) (f := xs) rfl (by omega) ?_
  generalize ex197 : xs _ = x197
  refine gw_ld rfl rfl ?_
  refine gw_ld rfl rfl ?_
  refine z_C (m := 2) rfl rfl (fun x198 ex198 => ?_)
  refine z_add (by omega) (fun x199 ex199 => ?_)
  refine z_iaE (n := L) (f := xs) rfl (by omega) ?_
  generalize ex200 : xs _ = x200
  refine z_cl rfl rfl rfl rfl rfl rfl rfl rfl rfl rfl rfl (zT R.1 (by decide) rfl) ?_
  refine x_partF R.1 (RR_c R) (fun x201 k202 k203 k204 k205 => ?_)
  refine gw_op rfl ?_
  refine gw_ld rfl rfl ?_
  refine gw_ld rfl rfl ?_
  refine gw_ld rfl rfl ?_
  refine z_C (m := 1) rfl rfl (fun x206 ex206 => ?_)
  refine z_add (by omega) (fun x207 ex207 => ?_)
  refine z_iaE (n := L) (f := xs) rfl (by omega) ?_
  generalize ex208 : xs _ = x208
  have qx208 : x208 = x197 := ex208.symm.trans ((congrArg xs (by omega)).trans ex197)
  subst qx208
  refine gw_ld rfl rfl ?_
  refine gw_ld rfl rfl ?_
  refine z_C (m := 2) rfl rfl (fun x209 ex209 => ?_)
  refine z_add (by omega) (fun x210 ex210 => ?_)
  refine z_iaE (n := L) (f := xs) rfl (by omega) ?_
  generalize ex211 : xs _ = x211
  have qx211 : x211 = x200 := ex211.symm.trans ((congrArg xs (by omega)).trans ex200)
  subst qx211
  refine z_cl rfl rfl rfl rfl rfl rfl rfl rfl rfl rfl rfl (zT (MM_R R).1 (by decide) rfl) ?_
  refine d_part (MM_R R).1 (MM_R R).2.2.2.2.2.2.1 (fun h213 x212 F214 j216 j217 j218 j219 j220 => ?_)
  have R215 := st_0 R (zV_of (MM_R R).1 F214)
  refine gw_op rfl ?_
  refine z_go ?_
  refine gw_skip _ ?_
  refine z_inc rfl (by rw [show (6 : Int32).toInt = 6 from rfl]; omega) (fun x221 ex221 => ?_)
  rw [show (6 : Int32).toInt = 6 from rfl] at ex221
  show ez_gw _ _ _ _ _ _ _ _ [some (.retAddr 0), some (.ref 1), some (.ref 71), some (.ref 126), some (.int x221), l5, l6] _ _ _
  refine z_go ?_
  exact ih h213 x221 (c + 1) (l5) (l6) R215 (lw_cn hc (lC_W F214)) (by omega) (by omega)
set_option maxRecDepth 4000 in
theorem lw_c9 {L : Nat} {xs : Nat → Int32} (hL : L ≤ 3072) {N : Nat} (ih : ∀ (h : ez_H) (i : Int32) (c : Nat) (l5 l6 : Option Value), RR h → (ez_n h ≤ 126 + c ∧ ez_u h ≤ 522573 + 6 * c) → (i.toInt = 6 * c ∧ c ≤ 600) → 4000 - i.toInt < (N : Int) → pw (tz_E L xs) 10 149 23 [some (.retAddr 0), some (.ref 1), some (.ref 71), some (.ref 126), some (.int i), l5, l6] [] h lw_Qq) (h : ez_H) (i : Int32) (c : Nat) (l5 l6 : Option Value) (R : RR h) (hc : ez_n h ≤ 126 + c ∧ ez_u h ≤ 522573 + 6 * c) (hi : (i.toInt = 6 * c ∧ c ≤ 600) ∧ i.toInt + 6 ≤ L) (hm : 4000 - i.toInt < ((N + 1 : Nat) : Int)) : ez_gw (ez_Wp (tz_E L xs) tz_ml tz_hn tz_co) (tz_E L xs) tz_ml (tz_hn 149) 149 10 (ev_skip 40 cz_149).tail 395 [some (.retAddr 0), some (.ref 1), some (.ref 71), some (.ref 126), some (.int i), l5, l6] [] h lw_Qq := by
  have hE : zE (tz_E L xs) := fun j => rfl
  have gi := z_rng i
  refine gw_skip _ ?_
  refine gw_ld rfl rfl ?_
  refine z_cl rfl rfl rfl rfl rfl rfl rfl rfl rfl rfl rfl (zT R.1 (by decide) rfl) ?_
  refine x_blocksF R.1 (fun x222 k223 => ?_)
  refine gw_op rfl ?_
  refine gw_ld rfl rfl ?_
  refine z_cl rfl rfl rfl rfl rfl rfl rfl rfl rfl rfl rfl (zT (MM_R R).1 (by decide) rfl) ?_
  refine m_blocksF (MM_R R).1 (fun h225 x224 F226 j228 => ?_)
  have R227 := st_0 R (zV_of (MM_R R).1 F226)
  refine gw_op rfl ?_
  refine z_go ?_
  refine gw_skip _ ?_
  refine z_inc rfl (by rw [show (6 : Int32).toInt = 6 from rfl]; omega) (fun x229 ex229 => ?_)
  rw [show (6 : Int32).toInt = 6 from rfl] at ex229
  show ez_gw _ _ _ _ _ _ _ _ [some (.retAddr 0), some (.ref 1), some (.ref 71), some (.ref 126), some (.int x229), l5, l6] _ _ _
  refine z_go ?_
  exact ih h225 x229 (c + 1) (l5) (l6) R227 (lw_cn hc (lC_W F226)) (by omega) (by omega)
set_option maxRecDepth 4000 in
theorem lw_c10 {L : Nat} {xs : Nat → Int32} (hL : L ≤ 3072) {N : Nat} (ih : ∀ (h : ez_H) (i : Int32) (c : Nat) (l5 l6 : Option Value), RR h → (ez_n h ≤ 126 + c ∧ ez_u h ≤ 522573 + 6 * c) → (i.toInt = 6 * c ∧ c ≤ 600) → 4000 - i.toInt < (N : Int) → pw (tz_E L xs) 10 149 23 [some (.retAddr 0), some (.ref 1), some (.ref 71), some (.ref 126), some (.int i), l5, l6] [] h lw_Qq) (h : ez_H) (i : Int32) (c : Nat) (l5 l6 : Option Value) (R : RR h) (hc : ez_n h ≤ 126 + c ∧ ez_u h ≤ 522573 + 6 * c) (hi : (i.toInt = 6 * c ∧ c ≤ 600) ∧ i.toInt + 6 ≤ L) (hm : 4000 - i.toInt < ((N + 1 : Nat) : Int)) : ez_gw (ez_Wp (tz_E L xs) tz_ml tz_hn tz_co) (tz_E L xs) tz_ml (tz_hn 149) 149 10 (ev_skip 40 cz_149).tail 408 [some (.retAddr 0), some (.ref 1), some (.ref 71), some (.ref 126), some (.int i), l5, l6] [] h lw_Qq := by
  have hE : zE (tz_E L xs) := fun j => rfl
  have gi := z_rng i
  refine gw_skip _ ?_
  refine gw_ld rfl rfl ?_
  refine gw_ld rfl rfl ?_
  refine gw_ld rfl rfl ?_
  refine z_C (m := 1) rfl rfl (fun x230 ex230 => ?_)
  refine z_add (by omega) (fun x231 ex231 => ?_)
  refine z_iaE (n := L) (f := xs) rfl (by omega) ?_
  generalize ex232 : xs _ = x232
  refine gw_ld rfl rfl ?_
  refine gw_ld rfl rfl ?_
  refine z_C (m := 2) rfl rfl (fun x233 ex233 => ?_)
  refine z_add (by omega) (fun x234 ex234 => ?_)
  refine z_iaE (n := L) (f := xs) rfl (by omega) ?_
  generalize ex235 : xs _ = x235
  refine z_cl rfl rfl rfl rfl rfl rfl rfl rfl rfl rfl rfl (zT R.1 (by decide) rfl) ?_
  refine x_blockF R.1 (RR_k R) (fun x236 k237 k238 => ?_)
  refine gw_op rfl ?_
  refine gw_ld rfl rfl ?_
  refine gw_ld rfl rfl ?_
  refine gw_ld rfl rfl ?_
  refine z_C (m := 1) rfl rfl (fun x239 ex239 => ?_)
  refine z_add (by omega) (fun x240 ex240 => ?_)
  refine z_iaE (n := L) (f := xs) rfl (by omega) ?_
  generalize ex241 : xs _ = x241
  have qx241 : x241 = x232 := ex241.symm.trans ((congrArg xs (by omega)).trans ex232)
  subst qx241
  refine gw_ld rfl rfl ?_
  refine gw_ld rfl rfl ?_
  refine z_C (m := 2) rfl rfl (fun x242 ex242 => ?_)
  refine z_add (by omega) (fun x243 ex243 => ?_)
  refine z_iaE (n := L) (f := xs) rfl (by omega) ?_
  generalize ex244 : xs _ = x244
  have qx244 : x244 = x235 := ex244.symm.trans ((congrArg xs (by omega)).trans ex235)
  subst qx244
  refine z_cl rfl rfl rfl rfl rfl rfl rfl rfl rfl rfl rfl (zT (MM_R R).1 (by decide) rfl) ?_
  refine d_block (MM_R R).1 (MM_R R).2.2.2.2.2.2.2.1 (fun h246 x245 F247 j249 j250 j251 j252 j253 j254 j255 => ?_)
  have R248 := st_0 R (zV_of (MM_R R).1 F247)
  refine gw_op rfl ?_
  refine z_go ?_
  refine gw_skip _ ?_
  refine z_inc rfl (by rw [show (6 : Int32).toInt = 6 from rfl]; omega) (fun x256 ex256 => ?_)
  rw [show (6 : Int32).toInt = 6 from rfl] at ex256
  show ez_gw _ _ _ _ _ _ _ _ [some (.retAddr 0), some (.ref 1), some (.ref 71), some (.ref 126), some (.int x256), l5, l6] _ _ _
  refine z_go ?_
  exact ih h246 x256 (c + 1) (l5) (l6) R248 (lw_cn hc (lC_W F247)) (by omega) (by omega)
set_option maxRecDepth 4000 in
theorem lw_c11 {L : Nat} {xs : Nat → Int32} (hL : L ≤ 3072) {N : Nat} (ih : ∀ (h : ez_H) (i : Int32) (c : Nat) (l5 l6 : Option Value), RR h → (ez_n h ≤ 126 + c ∧ ez_u h ≤ 522573 + 6 * c) → (i.toInt = 6 * c ∧ c ≤ 600) → 4000 - i.toInt < (N : Int) → pw (tz_E L xs) 10 149 23 [some (.retAddr 0), some (.ref 1), some (.ref 71), some (.ref 126), some (.int i), l5, l6] [] h lw_Qq) (h : ez_H) (i : Int32) (c : Nat) (l5 l6 : Option Value) (R : RR h) (hc : ez_n h ≤ 126 + c ∧ ez_u h ≤ 522573 + 6 * c) (hi : (i.toInt = 6 * c ∧ c ≤ 600) ∧ i.toInt + 6 ≤ L) (hm : 4000 - i.toInt < ((N + 1 : Nat) : Int)) : ez_gw (ez_Wp (tz_E L xs) tz_ml tz_hn tz_co) (tz_E L xs) tz_ml (tz_hn 149) 149 10 (ev_skip 40 cz_149).tail 445 [some (.retAddr 0), some (.ref 1), some (.ref 71), some (.ref 126), some (.int i), l5, l6] [] h lw_Qq := by
  have hE : zE (tz_E L xs) := fun j => rfl
  have gi := z_rng i
  refine gw_skip _ ?_
  refine gw_ld rfl rfl ?_
  refine gw_ld rfl rfl ?_
  refine gw_ld rfl rfl ?_
  refine z_C (m := 1) rfl rfl (fun x257 ex257 => ?_)
  refine z_add (by omega) (fun x258 ex258 => ?_)
  refine z_iaE (n := L) (f := xs) rfl (by omega) ?_
  generalize ex259 : xs _ = x259
  refine gw_ld rfl rfl ?_
  refine gw_ld rfl rfl ?_
  refine z_C (m := 2) rfl rfl (fun x260 ex260 => ?_)
  refine z_add (by omega) (fun x261 ex261 => ?_)
  refine z_iaE (n := L) (f := xs) rfl (by omega) ?_
  generalize ex262 : xs _ = x262
  refine gw_ld rfl rfl ?_
  refine gw_ld rfl rfl ?_
  refine z_C (m := 3) rfl rfl (fun x263 ex263 => ?_)
  refine z_add (by omega) (fun x264 ex264 => ?_)
  refine z_iaE (n := L) (f := xs) rfl (by omega) ?_
  generalize ex265 : xs _ = x265
  refine z_cl rfl rfl rfl rfl rfl rfl rfl rfl rfl rfl rfl (zT R.1 (by decide) rfl) ?_
  refine x_codeF R.1 hE (RR_k R) (fun x266 k267 k268 k269 k270 k271 k272 k273 => ?_)
  refine gw_op rfl ?_
  refine gw_ld rfl rfl ?_
  refine gw_ld rfl rfl ?_
  refine gw_ld rfl rfl ?_
  refine z_C (m := 1) rfl rfl (fun x274 ex274 => ?_)
  refine z_add (by omega) (fun x275 ex275 => ?_)
  refine z_iaE (n := L) (f := xs) rfl (by omega) ?_
  generalize ex276 : xs _ = x276
  have qx276 : x276 = x259 := ex276.symm.trans ((congrArg xs (by omega)).trans ex259)
  subst qx276
  refine gw_ld rfl rfl ?_
  refine gw_ld rfl rfl ?_
  refine z_C (m := 2) rfl rfl (fun x277 ex277 => ?_)
  refine z_add (by omega) (fun x278 ex278 => ?_)
  refine z_iaE (n := L) (f := xs) rfl (by omega) ?_
  generalize ex279 : xs _ = x279
  have qx279 : x279 = x262 := ex279.symm.trans ((congrArg xs (by omega)).trans ex262)
  subst qx279
  refine gw_ld rfl rfl ?_
  refine gw_ld rfl rfl ?_
  refine z_C (m := 3) rfl rfl (fun x280 ex280 => ?_)
  refine z_add (by omega) (fun x281 ex281 => ?_)
  refine z_iaE (n := L) (f := xs) rfl (by omega) ?_
  generalize ex282 : xs _ = x282
  have qx282 : x282 = x265 := ex282.symm.trans ((congrArg xs (by omega)).trans ex265)
  subst qx282
  refine z_cl rfl rfl rfl rfl rfl rfl rfl rfl rfl rfl rfl (zT (MM_R R).1 (by decide) rfl) ?_
  refine d_code (MM_R R).1 (MM_R R).2.2.2.2.2.2.2.1 (fun h284 x283 F285 j287 j288 j289 j290 j291 j292 j293 => ?_)
  have R286 := st_0 R (zV_of (MM_R R).1 F285)
  refine gw_op rfl ?_
  refine z_go ?_
  refine gw_skip _ ?_
  refine z_inc rfl (by rw [show (6 : Int32).toInt = 6 from rfl]; omega) (fun x294 ex294 => ?_)
  rw [show (6 : Int32).toInt = 6 from rfl] at ex294
  show ez_gw _ _ _ _ _ _ _ _ [some (.retAddr 0), some (.ref 1), some (.ref 71), some (.ref 126), some (.int x294), l5, l6] _ _ _
  refine z_go ?_
  exact ih h284 x294 (c + 1) (l5) (l6) R286 (lw_cn hc (lC_W F285)) (by omega) (by omega)
theorem x77_27 : ∀ q : Nat, (30 ≤ q ∧ q ≤ 35 ∨ 37 ≤ q ∧ q ≤ 42 ∨ 44 ≤ q ∧ q ≤ 49 ∨ q = 70 ∨ q = 51 ∨ q = 5) → q ≤ 70 := fun q hq => by omega
theorem x77_28 : ∀ q k : Nat, (q = 69 ∧ k = 2 ∨ q = 69 ∧ k = 3 ∨ q = 69 ∧ k = 6 ∨ q = 29 ∧ k = 4 ∨ q = 36 ∧ k = 4 ∨ q = 43 ∧ k = 4 ∨ q = 50 ∧ k = 1 ∨ q = 69 ∧ k = 1 ∨ q = 4 ∧ k = 1) → q ≤ 70 := fun q k hq => by omega
set_option maxRecDepth 4000 in
theorem lw_c12 {L : Nat} {xs : Nat → Int32} (hL : L ≤ 3072) {N : Nat} (ih : ∀ (h : ez_H) (i : Int32) (c : Nat) (l5 l6 : Option Value), RR h → (ez_n h ≤ 126 + c ∧ ez_u h ≤ 522573 + 6 * c) → (i.toInt = 6 * c ∧ c ≤ 600) → 4000 - i.toInt < (N : Int) → pw (tz_E L xs) 10 149 23 [some (.retAddr 0), some (.ref 1), some (.ref 71), some (.ref 126), some (.int i), l5, l6] [] h lw_Qq) (h : ez_H) (i : Int32) (c : Nat) (l5 l6 : Option Value) (R : RR h) (hc : ez_n h ≤ 126 + c ∧ ez_u h ≤ 522573 + 6 * c) (hi : (i.toInt = 6 * c ∧ c ≤ 600) ∧ i.toInt + 6 ≤ L) (hm : 4000 - i.toInt < ((N + 1 : Nat) : Int)) : ez_gw (ez_Wp (tz_E L xs) tz_ml tz_hn tz_co) (tz_E L xs) tz_ml (tz_hn 149) 149 10 (ev_skip 40 cz_149).tail 494 [some (.retAddr 0), some (.ref 1), some (.ref 71), some (.ref 126), some (.int i), l5, l6] [] h lw_Qq := by
  have hE : zE (tz_E L xs) := fun j => rfl
  have gi := z_rng i
  refine gw_skip _ ?_
  refine gw_ld rfl rfl ?_
  refine gw_ld rfl rfl ?_
  refine z_cl rfl rfl rfl rfl rfl rfl rfl rfl rfl rfl rfl (trivial) ?_
  refine l_unpackR R hE (zMm h hc hi.1) (fun h296 x295 A297 V298 k299 o300 => ?_)
  have M301 := MM_C (MM_R R) V298 x77_27 x77_28
  refine gw_st rfl rfl rfl ?_
  show ez_gw _ _ _ _ _ _ _ _ [some (.retAddr 0), some (.ref 1), some (.ref 71), some (.ref 126), some (.int i), some (.int x295), l6] _ _ _
  refine gw_ld rfl rfl ?_
  refine z_cl rfl rfl rfl rfl rfl rfl rfl rfl rfl rfl rfl (zT M301.1 (by decide) rfl) ?_
  refine d_unpackF M301.1 M301.2.1 M301.2.2.2.2.2.1.2.1 M301.2.2.2.2.2.1.2.2.1 M301.2.2.2.2.2.1.2.2.2.1 M301.2.2.2.2.2.1.2.2.2.2.1 M301.2.2.2.2.2.1.2.2.2.2.2 (fun h303 x302 F304 j306 => ?_)
  have R305 := st_unpack R V298 k299 (zV_of M301.1 F304) j306
  refine gw_st rfl rfl rfl ?_
  show ez_gw _ _ _ _ _ _ _ _ [some (.retAddr 0), some (.ref 1), some (.ref 71), some (.ref 126), some (.int i), some (.int x295), some (.int x302)] _ _ _
  refine z_go ?_
  refine gw_skip _ ?_
  refine z_inc rfl (by rw [show (6 : Int32).toInt = 6 from rfl]; omega) (fun x307 ex307 => ?_)
  rw [show (6 : Int32).toInt = 6 from rfl] at ex307
  show ez_gw _ _ _ _ _ _ _ _ [some (.retAddr 0), some (.ref 1), some (.ref 71), some (.ref 126), some (.int x307), some (.int x295), some (.int x302)] _ _ _
  refine z_go ?_
  exact ih h303 x307 (c + 1) (some (.int x295)) (some (.int x302)) R305 (lw_cn hc (lC_t A297 F304)) (by omega) (by omega)
set_option maxRecDepth 4000 in
theorem lw_c13 {L : Nat} {xs : Nat → Int32} (hL : L ≤ 3072) {N : Nat} (ih : ∀ (h : ez_H) (i : Int32) (c : Nat) (l5 l6 : Option Value), RR h → (ez_n h ≤ 126 + c ∧ ez_u h ≤ 522573 + 6 * c) → (i.toInt = 6 * c ∧ c ≤ 600) → 4000 - i.toInt < (N : Int) → pw (tz_E L xs) 10 149 23 [some (.retAddr 0), some (.ref 1), some (.ref 71), some (.ref 126), some (.int i), l5, l6] [] h lw_Qq) (h : ez_H) (i : Int32) (c : Nat) (l5 l6 : Option Value) (R : RR h) (hc : ez_n h ≤ 126 + c ∧ ez_u h ≤ 522573 + 6 * c) (hi : (i.toInt = 6 * c ∧ c ≤ 600) ∧ i.toInt + 6 ≤ L) (hm : 4000 - i.toInt < ((N + 1 : Nat) : Int)) : ez_gw (ez_Wp (tz_E L xs) tz_ml tz_hn tz_co) (tz_E L xs) tz_ml (tz_hn 149) 149 10 (ev_skip 40 cz_149).tail 510 [some (.retAddr 0), some (.ref 1), some (.ref 71), some (.ref 126), some (.int i), l5, l6] [] h lw_Qq := by
  have hE : zE (tz_E L xs) := fun j => rfl
  have gi := z_rng i
  refine gw_skip _ ?_
  refine gw_ld rfl rfl ?_
  refine gw_ld rfl rfl ?_
  refine gw_ld rfl rfl ?_
  refine z_C (m := 1) rfl rfl (fun x308 ex308 => ?_)
  refine z_add (by omega) (fun x309 ex309 => ?_)
  refine z_iaE (n := L) (f := xs) rfl (by omega) ?_
  generalize ex310 : xs _ = x310
  refine z_cl rfl rfl rfl rfl rfl rfl rfl rfl rfl rfl rfl (zT R.1 (by decide) rfl) ?_
  refine x_faultW R.1 (fun x311  => ?_)
  refine gw_op rfl ?_
  refine gw_ld rfl rfl ?_
  refine gw_ld rfl rfl ?_
  refine gw_ld rfl rfl ?_
  refine z_C (m := 1) rfl rfl (fun x312 ex312 => ?_)
  refine z_add (by omega) (fun x313 ex313 => ?_)
  refine z_iaE (n := L) (f := xs) rfl (by omega) ?_
  generalize ex314 : xs _ = x314
  have qx314 : x314 = x310 := ex314.symm.trans ((congrArg xs (by omega)).trans ex310)
  subst qx314
  refine z_cl rfl rfl rfl rfl rfl rfl rfl rfl rfl rfl rfl (zT (MM_R R).1 (by decide) rfl) ?_
  refine m_faultW (MM_R R).1 (fun h316 x315 F317  => ?_)
  have R318 := st_0 R (zV_of (MM_R R).1 F317)
  refine gw_op rfl ?_
  refine z_go ?_
  refine gw_skip _ ?_
  refine z_inc rfl (by rw [show (6 : Int32).toInt = 6 from rfl]; omega) (fun x319 ex319 => ?_)
  rw [show (6 : Int32).toInt = 6 from rfl] at ex319
  show ez_gw _ _ _ _ _ _ _ _ [some (.retAddr 0), some (.ref 1), some (.ref 71), some (.ref 126), some (.int x319), l5, l6] _ _ _
  refine z_go ?_
  exact ih h316 x319 (c + 1) (l5) (l6) R318 (lw_cn hc (lC_W F317)) (by omega) (by omega)
set_option maxRecDepth 4000 in
theorem lw_c14 {L : Nat} {xs : Nat → Int32} (hL : L ≤ 3072) {N : Nat} (ih : ∀ (h : ez_H) (i : Int32) (c : Nat) (l5 l6 : Option Value), RR h → (ez_n h ≤ 126 + c ∧ ez_u h ≤ 522573 + 6 * c) → (i.toInt = 6 * c ∧ c ≤ 600) → 4000 - i.toInt < (N : Int) → pw (tz_E L xs) 10 149 23 [some (.retAddr 0), some (.ref 1), some (.ref 71), some (.ref 126), some (.int i), l5, l6] [] h lw_Qq) (h : ez_H) (i : Int32) (c : Nat) (l5 l6 : Option Value) (R : RR h) (hc : ez_n h ≤ 126 + c ∧ ez_u h ≤ 522573 + 6 * c) (hi : (i.toInt = 6 * c ∧ c ≤ 600) ∧ i.toInt + 6 ≤ L) (hm : 4000 - i.toInt < ((N + 1 : Nat) : Int)) : ez_gw (ez_Wp (tz_E L xs) tz_ml tz_hn tz_co) (tz_E L xs) tz_ml (tz_hn 149) 149 10 (ev_skip 40 cz_149).tail 535 [some (.retAddr 0), some (.ref 1), some (.ref 71), some (.ref 126), some (.int i), l5, l6] [] h lw_Qq := by
  have hE : zE (tz_E L xs) := fun j => rfl
  have gi := z_rng i
  refine gw_skip _ ?_
  refine gw_ld rfl rfl ?_
  refine gw_ld rfl rfl ?_
  refine gw_ld rfl rfl ?_
  refine z_C (m := 1) rfl rfl (fun x320 ex320 => ?_)
  refine z_add (by omega) (fun x321 ex321 => ?_)
  refine z_iaE (n := L) (f := xs) rfl (by omega) ?_
  generalize ex322 : xs _ = x322
  refine z_cl rfl rfl rfl rfl rfl rfl rfl rfl rfl rfl rfl (zT R.1 (by decide) rfl) ?_
  refine x_outF R.1 (RR_o R) (fun x323 k324 k325 => ?_)
  refine gw_op rfl ?_
  refine gw_ld rfl rfl ?_
  refine gw_ld rfl rfl ?_
  refine gw_ld rfl rfl ?_
  refine z_C (m := 1) rfl rfl (fun x326 ex326 => ?_)
  refine z_add (by omega) (fun x327 ex327 => ?_)
  refine z_iaE (n := L) (f := xs) rfl (by omega) ?_
  generalize ex328 : xs _ = x328
  have qx328 : x328 = x322 := ex328.symm.trans ((congrArg xs (by omega)).trans ex322)
  subst qx328
  refine z_cl rfl rfl rfl rfl rfl rfl rfl rfl rfl rfl rfl (zT (MM_R R).1 (by decide) rfl) ?_
  refine m_outF (MM_R R).1 (MM_R R).2.2.2.1 (fun h330 x329 F331 j333 j334 => ?_)
  have R332 := st_0 R (zV_of (MM_R R).1 F331)
  refine gw_op rfl ?_
  refine z_go ?_
  refine gw_skip _ ?_
  refine z_inc rfl (by rw [show (6 : Int32).toInt = 6 from rfl]; omega) (fun x335 ex335 => ?_)
  rw [show (6 : Int32).toInt = 6 from rfl] at ex335
  show ez_gw _ _ _ _ _ _ _ _ [some (.retAddr 0), some (.ref 1), some (.ref 71), some (.ref 126), some (.int x335), l5, l6] _ _ _
  refine z_go ?_
  exact ih h330 x335 (c + 1) (l5) (l6) R332 (lw_cn hc (lC_W F331)) (by omega) (by omega)
theorem x77_29 : ∀ q : Nat, (q = 7 ∨ q = 8 ∨ q = 10 ∨ q = 13) → q ≤ 70 := fun q hq => by omega
theorem x77_30 : ∀ q k : Nat, (q = 71 ∧ k = 0) → (q = 71 ∧ k = 0) := fun q k hk => hk
theorem x77_31 : ∀ q : Nat, (q = 124) → (110 ≤ q ∧ q ≤ 114 ∨ q = 124 ∨ q = 125) := fun q hk => .inr (.inl hk)
set_option maxRecDepth 4000 in
theorem lw_c15 {L : Nat} {xs : Nat → Int32} (hL : L ≤ 3072) {N : Nat} (ih : ∀ (h : ez_H) (i : Int32) (c : Nat) (l5 l6 : Option Value), RR h → (ez_n h ≤ 126 + c ∧ ez_u h ≤ 522573 + 6 * c) → (i.toInt = 6 * c ∧ c ≤ 600) → 4000 - i.toInt < (N : Int) → pw (tz_E L xs) 10 149 23 [some (.retAddr 0), some (.ref 1), some (.ref 71), some (.ref 126), some (.int i), l5, l6] [] h lw_Qq) (h : ez_H) (i : Int32) (c : Nat) (l5 l6 : Option Value) (R : RR h) (hc : ez_n h ≤ 126 + c ∧ ez_u h ≤ 522573 + 6 * c) (hi : (i.toInt = 6 * c ∧ c ≤ 600) ∧ i.toInt + 6 ≤ L) (hm : 4000 - i.toInt < ((N + 1 : Nat) : Int)) : ez_gw (ez_Wp (tz_E L xs) tz_ml tz_hn tz_co) (tz_E L xs) tz_ml (tz_hn 149) 149 10 (ev_skip 40 cz_149).tail 560 [some (.retAddr 0), some (.ref 1), some (.ref 71), some (.ref 126), some (.int i), l5, l6] [] h lw_Qq := by
  have hE : zE (tz_E L xs) := fun j => rfl
  have gi := z_rng i
  refine gw_skip _ ?_
  refine gw_ld rfl rfl ?_
  refine gw_ld rfl rfl ?_
  refine gw_ld rfl rfl ?_
  refine z_C (m := 1) rfl rfl (fun x336 ex336 => ?_)
  refine z_add (by omega) (fun x337 ex337 => ?_)
  refine z_iaE (n := L) (f := xs) rfl (by omega) ?_
  generalize ex338 : xs _ = x338
  refine gw_ld rfl rfl ?_
  refine gw_ld rfl rfl ?_
  refine z_C (m := 2) rfl rfl (fun x339 ex339 => ?_)
  refine z_add (by omega) (fun x340 ex340 => ?_)
  refine z_iaE (n := L) (f := xs) rfl (by omega) ?_
  generalize ex341 : xs _ = x341
  refine z_cl rfl rfl rfl rfl rfl rfl rfl rfl rfl rfl rfl (trivial) ?_
  refine l_weighR R (zMm h hc hi.1) (fun h343 x342 A344 V345 k346  => ?_)
  have M348 := MM_C (MM_R R) V345 x77_29 (fun _ _ c => c.elim)
  refine gw_st rfl rfl rfl ?_
  show ez_gw _ _ _ _ _ _ _ _ [some (.retAddr 0), some (.ref 1), some (.ref 71), some (.ref 126), some (.int i), some (.int x342), l6] _ _ _
  refine gw_ld rfl rfl ?_
  refine gw_ld rfl rfl ?_
  refine gw_ld rfl rfl ?_
  refine z_C (m := 1) rfl rfl (fun x349 ex349 => ?_)
  refine z_add (by omega) (fun x350 ex350 => ?_)
  refine z_iaE (n := L) (f := xs) rfl (by omega) ?_
  generalize ex351 : xs _ = x351
  have qx351 : x351 = x338 := ex351.symm.trans ((congrArg xs (by omega)).trans ex338)
  subst qx351
  refine gw_ld rfl rfl ?_
  refine gw_ld rfl rfl ?_
  refine z_C (m := 2) rfl rfl (fun x352 ex352 => ?_)
  refine z_add (by omega) (fun x353 ex353 => ?_)
  refine z_iaE (n := L) (f := xs) rfl (by omega) ?_
  generalize ex354 : xs _ = x354
  have qx354 : x354 = x341 := ex354.symm.trans ((congrArg xs (by omega)).trans ex341)
  subst qx354
  refine z_cl rfl rfl rfl rfl rfl rfl rfl rfl rfl rfl rfl (zT M348.1 (by decide) rfl) ?_
  refine m_weighF M348.1 (fun h356 F357 j359 j360 j361 => ?_)
  have F357W := zW_ofG F357
  have R358 := st_w R V345 k346 (zV_m (zV_of M348.1 F357W) x77_30 x77_31) (m_wR M348.2.2.2.2.2.2.2.2 j360 j361)
  refine z_go ?_
  refine gw_skip _ ?_
  refine z_inc rfl (by rw [show (6 : Int32).toInt = 6 from rfl]; omega) (fun x362 ex362 => ?_)
  rw [show (6 : Int32).toInt = 6 from rfl] at ex362
  show ez_gw _ _ _ _ _ _ _ _ [some (.retAddr 0), some (.ref 1), some (.ref 71), some (.ref 126), some (.int x362), some (.int x342), l6] _ _ _
  refine z_go ?_
  exact ih h356 x362 (c + 1) (some (.int x342)) (l6) R358 (lw_cn hc (lC_t A344 F357W)) (by omega) (by omega)
theorem x77_32 : ∀ q : Nat, (110 ≤ q ∧ q ≤ 114 ∨ q = 125) → (110 ≤ q ∧ q ≤ 114 ∨ q = 124 ∨ q = 125) := fun q hk => hk.elim (fun g => .inl g) (fun g => .inr (.inr g))
set_option maxRecDepth 4000 in
theorem lw_c16 {L : Nat} {xs : Nat → Int32} (hL : L ≤ 3072) {N : Nat} (ih : ∀ (h : ez_H) (i : Int32) (c : Nat) (l5 l6 : Option Value), RR h → (ez_n h ≤ 126 + c ∧ ez_u h ≤ 522573 + 6 * c) → (i.toInt = 6 * c ∧ c ≤ 600) → 4000 - i.toInt < (N : Int) → pw (tz_E L xs) 10 149 23 [some (.retAddr 0), some (.ref 1), some (.ref 71), some (.ref 126), some (.int i), l5, l6] [] h lw_Qq) (h : ez_H) (i : Int32) (c : Nat) (l5 l6 : Option Value) (R : RR h) (hc : ez_n h ≤ 126 + c ∧ ez_u h ≤ 522573 + 6 * c) (hi : (i.toInt = 6 * c ∧ c ≤ 600) ∧ i.toInt + 6 ≤ L) (hm : 4000 - i.toInt < ((N + 1 : Nat) : Int)) : ez_gw (ez_Wp (tz_E L xs) tz_ml tz_hn tz_co) (tz_E L xs) tz_ml (tz_hn 149) 149 10 (ev_skip 40 cz_149).tail 597 [some (.retAddr 0), some (.ref 1), some (.ref 71), some (.ref 126), some (.int i), l5, l6] [] h lw_Qq := by
  have hE : zE (tz_E L xs) := fun j => rfl
  have gi := z_rng i
  refine gw_skip _ ?_
  refine gw_ld rfl rfl ?_
  refine gw_ld rfl rfl ?_
  refine gw_ld rfl rfl ?_
  refine z_C (m := 1) rfl rfl (fun x363 ex363 => ?_)
  refine z_add (by omega) (fun x364 ex364 => ?_)
  refine z_iaE (n := L) (f := xs) rfl (by omega) ?_
  generalize ex365 : xs _ = x365
  refine gw_ld rfl rfl ?_
  refine z_cl rfl rfl rfl rfl rfl rfl rfl rfl rfl rfl rfl (trivial) ?_
  refine l_measureR R hE (zMm h hc hi.1) (fun h367 x366 A368 V369 k370  => ?_)
  have M372 := MM_C (MM_R R) V369 x77_29 (fun _ _ c => c.elim)
  refine gw_st rfl rfl rfl ?_
  show ez_gw _ _ _ _ _ _ _ _ [some (.retAddr 0), some (.ref 1), some (.ref 71), some (.ref 126), some (.int i), some (.int x366), l6] _ _ _
  refine gw_ld rfl rfl ?_
  refine gw_ld rfl rfl ?_
  refine gw_ld rfl rfl ?_
  refine z_C (m := 1) rfl rfl (fun x373 ex373 => ?_)
  refine z_add (by omega) (fun x374 ex374 => ?_)
  refine z_iaE (n := L) (f := xs) rfl (by omega) ?_
  generalize ex375 : xs _ = x375
  have qx375 : x375 = x365 := ex375.symm.trans ((congrArg xs (by omega)).trans ex365)
  subst qx375
  refine z_cl rfl rfl rfl rfl rfl rfl rfl rfl rfl rfl rfl (zT M372.1 (by decide) rfl) ?_
  refine m_measF M372.1 M372.2.2.2.2.2.2.2.2 (fun h377 x376 F378 j380 j381 j382 => ?_)
  have F378W := zW_ofG F378
  have eF378 : ez_I h377 124 = ez_I h367 124 := zW_fn F378W 124 (by omega) (fun k c => by omega)
  have R379 := st_w R V369 k370 (zV_m (zV_of M372.1 F378W) x77_30 x77_32) (by rw [eF378]; exact M372.2.2.2.2.2.2.2.2)
  refine gw_st rfl rfl rfl ?_
  show ez_gw _ _ _ _ _ _ _ _ [some (.retAddr 0), some (.ref 1), some (.ref 71), some (.ref 126), some (.int i), some (.int x366), some (.int x376)] _ _ _
  refine z_go ?_
  refine gw_skip _ ?_
  refine z_inc rfl (by rw [show (6 : Int32).toInt = 6 from rfl]; omega) (fun x383 ex383 => ?_)
  rw [show (6 : Int32).toInt = 6 from rfl] at ex383
  show ez_gw _ _ _ _ _ _ _ _ [some (.retAddr 0), some (.ref 1), some (.ref 71), some (.ref 126), some (.int x383), some (.int x366), some (.int x376)] _ _ _
  refine z_go ?_
  exact ih h377 x383 (c + 1) (some (.int x366)) (some (.int x376)) R379 (lw_cn hc (lC_t A368 F378W)) (by omega) (by omega)
set_option maxRecDepth 4000 in
theorem lw_c17 {L : Nat} {xs : Nat → Int32} (hL : L ≤ 3072) {N : Nat} (ih : ∀ (h : ez_H) (i : Int32) (c : Nat) (l5 l6 : Option Value), RR h → (ez_n h ≤ 126 + c ∧ ez_u h ≤ 522573 + 6 * c) → (i.toInt = 6 * c ∧ c ≤ 600) → 4000 - i.toInt < (N : Int) → pw (tz_E L xs) 10 149 23 [some (.retAddr 0), some (.ref 1), some (.ref 71), some (.ref 126), some (.int i), l5, l6] [] h lw_Qq) (h : ez_H) (i : Int32) (c : Nat) (l5 l6 : Option Value) (R : RR h) (hc : ez_n h ≤ 126 + c ∧ ez_u h ≤ 522573 + 6 * c) (hi : (i.toInt = 6 * c ∧ c ≤ 600) ∧ i.toInt + 6 ≤ L) (hm : 4000 - i.toInt < ((N + 1 : Nat) : Int)) : ez_gw (ez_Wp (tz_E L xs) tz_ml tz_hn tz_co) (tz_E L xs) tz_ml (tz_hn 149) 149 10 (ev_skip 40 cz_149).tail 625 [some (.retAddr 0), some (.ref 1), some (.ref 71), some (.ref 126), some (.int i), l5, l6] [] h lw_Qq := by
  have hE : zE (tz_E L xs) := fun j => rfl
  have gi := z_rng i
  refine gw_skip _ ?_
  refine gw_ld rfl rfl ?_
  refine gw_ld rfl rfl ?_
  refine gw_ld rfl rfl ?_
  refine z_C (m := 1) rfl rfl (fun x384 ex384 => ?_)
  refine z_add (by omega) (fun x385 ex385 => ?_)
  refine z_iaE (n := L) (f := xs) rfl (by omega) ?_
  generalize ex386 : xs _ = x386
  refine z_cl rfl rfl rfl rfl rfl rfl rfl rfl rfl rfl rfl (zT R.1 (by decide) rfl) ?_
  refine x_lengthW R.1 (fun x387  => ?_)
  refine gw_op rfl ?_
  refine gw_ld rfl rfl ?_
  refine gw_ld rfl rfl ?_
  refine gw_ld rfl rfl ?_
  refine z_C (m := 1) rfl rfl (fun x388 ex388 => ?_)
  refine z_add (by omega) (fun x389 ex389 => ?_)
  refine z_iaE (n := L) (f := xs) rfl (by omega) ?_
  generalize ex390 : xs _ = x390
  have qx390 : x390 = x386 := ex390.symm.trans ((congrArg xs (by omega)).trans ex386)
  subst qx390
  refine z_cl rfl rfl rfl rfl rfl rfl rfl rfl rfl rfl rfl (zT (MM_R R).1 (by decide) rfl) ?_
  refine m_lengthW (MM_R R).1 (fun h392 x391 F393  => ?_)
  have R394 := st_0 R (zV_of (MM_R R).1 F393)
  refine gw_op rfl ?_
  refine z_go ?_
  refine gw_skip _ ?_
  refine z_inc rfl (by rw [show (6 : Int32).toInt = 6 from rfl]; omega) (fun x395 ex395 => ?_)
  rw [show (6 : Int32).toInt = 6 from rfl] at ex395
  show ez_gw _ _ _ _ _ _ _ _ [some (.retAddr 0), some (.ref 1), some (.ref 71), some (.ref 126), some (.int x395), l5, l6] _ _ _
  refine z_go ?_
  exact ih h392 x395 (c + 1) (l5) (l6) R394 (lw_cn hc (lC_W F393)) (by omega) (by omega)
set_option maxRecDepth 4000 in
theorem lw_c18 {L : Nat} {xs : Nat → Int32} (hL : L ≤ 3072) {N : Nat} (ih : ∀ (h : ez_H) (i : Int32) (c : Nat) (l5 l6 : Option Value), RR h → (ez_n h ≤ 126 + c ∧ ez_u h ≤ 522573 + 6 * c) → (i.toInt = 6 * c ∧ c ≤ 600) → 4000 - i.toInt < (N : Int) → pw (tz_E L xs) 10 149 23 [some (.retAddr 0), some (.ref 1), some (.ref 71), some (.ref 126), some (.int i), l5, l6] [] h lw_Qq) (h : ez_H) (i : Int32) (c : Nat) (l5 l6 : Option Value) (R : RR h) (hc : ez_n h ≤ 126 + c ∧ ez_u h ≤ 522573 + 6 * c) (hi : (i.toInt = 6 * c ∧ c ≤ 600) ∧ i.toInt + 6 ≤ L) (hm : 4000 - i.toInt < ((N + 1 : Nat) : Int)) : ez_gw (ez_Wp (tz_E L xs) tz_ml tz_hn tz_co) (tz_E L xs) tz_ml (tz_hn 149) 149 10 (ev_skip 40 cz_149).tail 650 [some (.retAddr 0), some (.ref 1), some (.ref 71), some (.ref 126), some (.int i), l5, l6] [] h lw_Qq := by
  have hE : zE (tz_E L xs) := fun j => rfl
  have gi := z_rng i
  refine gw_skip _ ?_
  refine gw_ld rfl rfl ?_
  refine gw_ld rfl rfl ?_
  refine gw_ld rfl rfl ?_
  refine z_C (m := 1) rfl rfl (fun x396 ex396 => ?_)
  refine z_add (by omega) (fun x397 ex397 => ?_)
  refine z_iaE (n := L) (f := xs) rfl (by omega) ?_
  generalize ex398 : xs _ = x398
  refine z_cl rfl rfl rfl rfl rfl rfl rfl rfl rfl rfl rfl (zT R.1 (by decide) rfl) ?_
  refine x_aboutF R.1 (fun x399 k400 k401 k402 => ?_)
  refine gw_op rfl ?_
  refine gw_ld rfl rfl ?_
  refine gw_ld rfl rfl ?_
  refine gw_ld rfl rfl ?_
  refine z_C (m := 1) rfl rfl (fun x403 ex403 => ?_)
  refine z_add (by omega) (fun x404 ex404 => ?_)
  refine z_iaE (n := L) (f := xs) rfl (by omega) ?_
  generalize ex405 : xs _ = x405
  have qx405 : x405 = x398 := ex405.symm.trans ((congrArg xs (by omega)).trans ex398)
  subst qx405
  refine z_cl rfl rfl rfl rfl rfl rfl rfl rfl rfl rfl rfl (zT (MM_R R).1 (by decide) rfl) ?_
  refine m_aboutF (MM_R R).1 (fun h407 x406 F408 j410 j411 j412 => ?_)
  have R409 := st_0 R (zV_of (MM_R R).1 F408)
  refine gw_op rfl ?_
  refine z_go ?_
  refine gw_skip _ ?_
  refine z_inc rfl (by rw [show (6 : Int32).toInt = 6 from rfl]; omega) (fun x413 ex413 => ?_)
  rw [show (6 : Int32).toInt = 6 from rfl] at ex413
  show ez_gw _ _ _ _ _ _ _ _ [some (.retAddr 0), some (.ref 1), some (.ref 71), some (.ref 126), some (.int x413), l5, l6] _ _ _
  refine z_go ?_
  exact ih h407 x413 (c + 1) (l5) (l6) R409 (lw_cn hc (lC_W F408)) (by omega) (by omega)
set_option maxRecDepth 4000 in
theorem lw_cD {L : Nat} {xs : Nat → Int32} (hL : L ≤ 3072) {N : Nat} (ih : ∀ (h : ez_H) (i : Int32) (c : Nat) (l5 l6 : Option Value), RR h → (ez_n h ≤ 126 + c ∧ ez_u h ≤ 522573 + 6 * c) → (i.toInt = 6 * c ∧ c ≤ 600) → 4000 - i.toInt < (N : Int) → pw (tz_E L xs) 10 149 23 [some (.retAddr 0), some (.ref 1), some (.ref 71), some (.ref 126), some (.int i), l5, l6] [] h lw_Qq) (h : ez_H) (i : Int32) (c : Nat) (l5 l6 : Option Value) (R : RR h) (hc : ez_n h ≤ 126 + c ∧ ez_u h ≤ 522573 + 6 * c) (hi : (i.toInt = 6 * c ∧ c ≤ 600) ∧ i.toInt + 6 ≤ L) (hm : 4000 - i.toInt < ((N + 1 : Nat) : Int)) : ez_gw (ez_Wp (tz_E L xs) tz_ml tz_hn tz_co) (tz_E L xs) tz_ml (tz_hn 149) 149 10 (ev_skip 40 cz_149).tail 675 [some (.retAddr 0), some (.ref 1), some (.ref 71), some (.ref 126), some (.int i), l5, l6] [] h lw_Qq := by
  have hE : zE (tz_E L xs) := fun j => rfl
  have gi := z_rng i
  refine gw_skip _ ?_
  refine z_inc rfl (by rw [show (6 : Int32).toInt = 6 from rfl]; omega) (fun x414 ex414 => ?_)
  rw [show (6 : Int32).toInt = 6 from rfl] at ex414
  show ez_gw _ _ _ _ _ _ _ _ [some (.retAddr 0), some (.ref 1), some (.ref 71), some (.ref 126), some (.int x414), l5, l6] _ _ _
  refine z_go ?_
  exact ih h x414 (c + 1) (l5) (l6) R (lw_cn hc ⟨Nat.le_succ _, Nat.le_add_right _ _⟩) (by omega) (by omega)
set_option maxRecDepth 8000 in
theorem lw_loop {L : Nat} {xs : Nat → Int32} (hL : L ≤ 3072) : ∀ N : Nat, ∀ (h : ez_H) (i : Int32) (c : Nat) (l5 l6 : Option Value), RR h → (ez_n h ≤ 126 + c ∧ ez_u h ≤ 522573 + 6 * c) → (i.toInt = 6 * c ∧ c ≤ 600) → 4000 - i.toInt < (N : Int) → pw (tz_E L xs) 10 149 23 [some (.retAddr 0), some (.ref 1), some (.ref 71), some (.ref 126), some (.int i), l5, l6] [] h lw_Qq := by
  intro N
  induction N with
  | zero => exact fun h i c l5 l6 R hc hi hm => absurd hm (by omega)
  | succ N ih =>
    intro h i c l5 l6 R hc hi hm
    apply ez_Wp_in
    show ez_gw _ _ _ _ _ _ (cz_149) _ _ _ _ _
    refine gw_skip _ ?_
    have gi := z_rng i
    refine gw_ld rfl rfl ?_
    refine gw_ld rfl rfl ?_
    refine z_alE (n := L) rfl (by omega) (fun x1 ex1 => ?_)
    refine z_C (m := 6) rfl rfl (fun x2 ex2 => ?_)
    refine z_sub (by omega) (fun x3 ex3 => ?_)
    refine z_b2 (fun c4 => ?_) (fun c4 => ?_)
    · refine gw_skip _ ?_
      refine z_C (m := 1) rfl rfl (fun x5 ex5 => ?_)
      refine z_rz (by omega) ?_
      exact congrArg (fun q => Sum.inl (some (Value.int q))) (z_inj ex5)
    · have c4 : ¬ (x3.toInt < i.toInt) := c4
      have hi2 : (i.toInt = 6 * c ∧ c ≤ 600) ∧ i.toInt + 6 ≤ L := ⟨hi, by omega⟩
      refine gw_ld rfl rfl ?_
      refine gw_ld rfl rfl ?_
      refine z_iaE (n := L) (f := xs) rfl (by omega) ?_
      refine z_C (m := 31) rfl rfl (fun x6 ex6 => ?_)
      refine z_and (fun x7 ex7 ux7 wx7 => ?_)
      refine gw_jp rfl rfl rfl rfl rfl rfl rfl ?_
      refine ⟨fun _ => lw_c0 hL ih h i c l5 l6 R hc hi2 hm, fun _ => ?_⟩
      refine ⟨fun _ => lw_c1 hL ih h i c l5 l6 R hc hi2 hm, fun _ => ?_⟩
      refine ⟨fun _ => lw_c2 hL ih h i c l5 l6 R hc hi2 hm, fun _ => ?_⟩
      refine ⟨fun _ => lw_c3 hL ih h i c l5 l6 R hc hi2 hm, fun _ => ?_⟩
      refine ⟨fun _ => lw_c4 hL ih h i c l5 l6 R hc hi2 hm, fun _ => ?_⟩
      refine ⟨fun _ => lw_c5 hL ih h i c l5 l6 R hc hi2 hm, fun _ => ?_⟩
      refine ⟨fun _ => lw_c6 hL ih h i c l5 l6 R hc hi2 hm, fun _ => ?_⟩
      refine ⟨fun _ => lw_c7 hL ih h i c l5 l6 R hc hi2 hm, fun _ => ?_⟩
      refine ⟨fun _ => lw_c8 hL ih h i c l5 l6 R hc hi2 hm, fun _ => ?_⟩
      refine ⟨fun _ => lw_c9 hL ih h i c l5 l6 R hc hi2 hm, fun _ => ?_⟩
      refine ⟨fun _ => lw_c10 hL ih h i c l5 l6 R hc hi2 hm, fun _ => ?_⟩
      refine ⟨fun _ => lw_c11 hL ih h i c l5 l6 R hc hi2 hm, fun _ => ?_⟩
      refine ⟨fun _ => lw_c12 hL ih h i c l5 l6 R hc hi2 hm, fun _ => ?_⟩
      refine ⟨fun _ => lw_c13 hL ih h i c l5 l6 R hc hi2 hm, fun _ => ?_⟩
      refine ⟨fun _ => lw_c14 hL ih h i c l5 l6 R hc hi2 hm, fun _ => ?_⟩
      refine ⟨fun _ => lw_c15 hL ih h i c l5 l6 R hc hi2 hm, fun _ => ?_⟩
      refine ⟨fun _ => lw_c16 hL ih h i c l5 l6 R hc hi2 hm, fun _ => ?_⟩
      refine ⟨fun _ => lw_c17 hL ih h i c l5 l6 R hc hi2 hm, fun _ => ?_⟩
      refine ⟨fun _ => lw_c18 hL ih h i c l5 l6 R hc hi2 hm, fun _ => ?_⟩
      exact lw_cD hL ih h i c l5 l6 R hc hi2 hm
theorem lw_law {L : Nat} {xs : Nat → Int32} (hL : L ≤ 3072) : tz_Law L xs := by
  refine lw_upto (fun h hr => ?_)
  have e1 := hr.1
  have e2 := hr.2.1
  have K := lw_loop (xs := xs) hL 5000 h 0 0 none none (g3_RR hr) ⟨by rw [e1]; exact Nat.le_refl _, by rw [e2]; exact Nat.le_refl _⟩ ⟨rfl, by omega⟩ (by decide)
  exact ez_Wp_out K
