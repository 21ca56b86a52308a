section
noncomputable def R_law : String := "PackDeskLaw"
def lw_P (b : Addr) (xs : List Int32) (args : Array Value) (s : State) : Prop := args = #[.ref b] ∧ s.IntsAt b xs ∧ xs.length ≤ 3072 ∧ (Jvm.Cond.and given_1 narrow_1).before args s = true
def lw_Q (_ : Array Value) (s : State) (o : Outcome) (t : State) : Prop := o = .returned (some (.int 1)) ∧ Framed s o t [] 601024 7293034
def lw_Z (below : List Frame) (a : Array Value) (s : State) : State → Prop := fun t => ∃ o, t.status = .running ∧ Ended t below o ∧ lw_Q a s o t
/-- the static arrays, by number -/
noncomputable def tz_arL : List (List Int32) := [[], [0, 498536548, 997073096, 651767980, 1994146192, 1802195444, 1303535960, 1342533948, (-306674912), (-267414716), (-690576408), (-882789492), (-1687895376), (-2032938284), (-1609899400), (-1111625188)],
  [3, 4, 5, 6, 7, 8, 9, 10, 11, 13, 15, 17, 19, 23, 27, 31, 35, 43, 51, 59, 67, 83, 99, 115, 131, 163, 195, 227, 258],
  [1, 2, 3, 4, 5, 7, 9, 13, 17, 25, 33, 49, 65, 97, 129, 193, 257, 385, 513, 769, 1025, 1537, 2049, 3073, 4097, 6145, 8193, 12289, 16385, 24577],
  [0, 0, 0, 0, 0, 0, 0, 0, 1, 1, 1, 1, 2, 2, 2, 2, 3, 3, 3, 3, 4, 4, 4, 4, 5, 5, 5, 5, 0],
  [0, 0, 0, 0, 1, 1, 2, 2, 3, 3, 4, 4, 5, 5, 6, 6, 7, 7, 8, 8, 9, 9, 10, 10, 11, 11, 12, 12, 13, 13],
  [132, 57, 23, 10, 4, 1],
  [3, 3, 11],
  [16, 17, 18, 0, 8, 7, 9, 6, 10, 5, 11, 4, 12, 3, 13, 2, 14, 1, 15],
  [2, 3, 7],
  [0, 286, 316],
  [286, 30, 19]]
noncomputable def tz_ar (j : Nat) : List Int32 := tz_arL.getD j (tz_arL.getD 1 [])
noncomputable def tz_E (L : Nat) (xs : Nat → Int32) (j : Nat) : Nat × (Nat → Int32) := match j with
  | 0 => (L, xs)
  | j + 1 => ((tz_ar (j + 1)).length, fun i => (tz_ar (j + 1)).getD i 0)
abbrev tz_nw : List Cond := flatC (Jvm.Cond.and given_1 narrow_1)
/-- a number that tells most of them apart: looked at first -/
noncomputable def ez_ke (w : Cond) : Nat := match w with
  | .eq (.elem _ (.int j)) (.int v) => 3 + 4 * (j.toBitVec.toNat * 4294967296 + v.toBitVec.toNat)
  | .eq (.length _) _ => 2
  | .arrayOf _ _ => 1
  | _ => 0
noncomputable def ez_ine (tb : List Cond) (w : Cond) : Bool := tb.any (fun v => Nat.beq (ez_ke v) (ez_ke w) && decide (v = w))
theorem ez_ine_ok {tb : List Cond} {w : Cond} (h : ez_ine tb w = true) : w ∈ tb := by
  obtain ⟨v, hv, e⟩ := List.any_eq_true.mp h
  rw [Bool.and_eq_true] at e
  rw [← of_decide_eq_true e.2]
  exact hv
set_option maxRecDepth 100000 in
theorem tz_el_1 : (List.range (tz_ar 1).length).all (fun j => ez_ine tz_nw (Cond.eq (.elem (.static "PackDesk" "CRC_HALVES" "[I") (.int (Int32.ofNat j))) (.int ((tz_ar 1).getD j 0)))) = true := by decide +kernel
set_option maxRecDepth 100000 in
theorem tz_el_2 : (List.range (tz_ar 2).length).all (fun j => ez_ine tz_nw (Cond.eq (.elem (.static "PackDesk" "LENGTH_BASE" "[I") (.int (Int32.ofNat j))) (.int ((tz_ar 2).getD j 0)))) = true := by decide +kernel
set_option maxRecDepth 100000 in
theorem tz_el_3 : (List.range (tz_ar 3).length).all (fun j => ez_ine tz_nw (Cond.eq (.elem (.static "PackDesk" "DISTANCE_BASE" "[I") (.int (Int32.ofNat j))) (.int ((tz_ar 3).getD j 0)))) = true := by decide +kernel
set_option maxRecDepth 100000 in
theorem tz_el_4 : (List.range (tz_ar 4).length).all (fun j => ez_ine tz_nw (Cond.eq (.elem (.static "PackDesk" "LENGTH_EXTRA" "[I") (.int (Int32.ofNat j))) (.int ((tz_ar 4).getD j 0)))) = true := by decide +kernel
set_option maxRecDepth 100000 in
theorem tz_el_5 : (List.range (tz_ar 5).length).all (fun j => ez_ine tz_nw (Cond.eq (.elem (.static "PackDesk" "DISTANCE_EXTRA" "[I") (.int (Int32.ofNat j))) (.int ((tz_ar 5).getD j 0)))) = true := by decide +kernel
set_option maxRecDepth 100000 in
theorem tz_el_6 : (List.range (tz_ar 6).length).all (fun j => ez_ine tz_nw (Cond.eq (.elem (.static "PackDesk$LengthMaker" "GAPS" "[I") (.int (Int32.ofNat j))) (.int ((tz_ar 6).getD j 0)))) = true := by decide +kernel
set_option maxRecDepth 100000 in
theorem tz_el_7 : (List.range (tz_ar 7).length).all (fun j => ez_ine tz_nw (Cond.eq (.elem (.static "PackDesk" "REPEAT_BASE" "[I") (.int (Int32.ofNat j))) (.int ((tz_ar 7).getD j 0)))) = true := by decide +kernel
set_option maxRecDepth 100000 in
theorem tz_el_8 : (List.range (tz_ar 8).length).all (fun j => ez_ine tz_nw (Cond.eq (.elem (.static "PackDesk" "ALPHABET_ORDER" "[I") (.int (Int32.ofNat j))) (.int ((tz_ar 8).getD j 0)))) = true := by decide +kernel
set_option maxRecDepth 100000 in
theorem tz_el_9 : (List.range (tz_ar 9).length).all (fun j => ez_ine tz_nw (Cond.eq (.elem (.static "PackDesk" "REPEAT_EXTRA" "[I") (.int (Int32.ofNat j))) (.int ((tz_ar 9).getD j 0)))) = true := by decide +kernel
set_option maxRecDepth 100000 in
theorem tz_el_10 : (List.range (tz_ar 10).length).all (fun j => ez_ine tz_nw (Cond.eq (.elem (.static "PackDesk$BlockBook" "CODE_FROM" "[I") (.int (Int32.ofNat j))) (.int ((tz_ar 10).getD j 0)))) = true := by decide +kernel
set_option maxRecDepth 100000 in
theorem tz_el_11 : (List.range (tz_ar 11).length).all (fun j => ez_ine tz_nw (Cond.eq (.elem (.static "PackDesk$BlockBook" "CODE_SYMBOLS" "[I") (.int (Int32.ofNat j))) (.int ((tz_ar 11).getD j 0)))) = true := by decide +kernel
theorem ez_static {args : Array Value} {s : State} {C n d : String} {l : List Int32} {A : Nat → Prop} (hlen0 : l.length < 2 ^ 31) (hl : (Cond.laysStatic C n d).before args s = true) (hini : (Cond.initialized C).before args s = true) (harr : (Cond.arrayOf (.static C n d) .int).before args s = true) (hlen : (Cond.eq (.length (.static C n d)) (.int (Int32.ofNat l.length))).before args s = true) (hel : ∀ j, j < l.length → (Cond.eq (.elem (.static C n d) (.int (Int32.ofNat j))) (.int (l.getD j 0))).before args s = true) (hA : ∀ a : Nat, a < s.heap.size → ¬ A a) :
    ∃ t : Nat, va_Z C n d (.ref t) A s s.heap ∧ va_T .int t l.length (fun i => .int (l.getD i 0)) A s s.heap := by
  obtain ⟨t, ht, hT⟩ := va_Tof (N := l.length) (f := fun i => .int (l.getD i 0)) hlen0 harr (va_eqt hlen) (fun j hj => va_eqt (hel j hj)) hA
  exact ⟨t, va_Zof hl hini ht hA, hT⟩
set_option maxRecDepth 100000 in
theorem tz_st_1 {args : Array Value} {s : State} {A : Nat → Prop} (hts : ∀ w ∈ lw_tbl, w.before args s = true) (hn : ∀ w ∈ tz_nw, w.before args s = true) (hA : ∀ a : Nat, a < s.heap.size → ¬ A a) : ∃ t : Nat, va_Z (tz_sta 1).1 (tz_sta 1).2.1 (tz_sta 1).2.2 (.ref t) A s s.heap ∧ va_T .int t (tz_ar 1).length (fun i => .int ((tz_ar 1).getD i 0)) A s s.heap :=
  ez_static (C := "PackDesk") (n := "CRC_HALVES") (d := "[I") (l := tz_ar 1) (by decide +kernel) (hts _ (List.mem_of_getElem? (i := 457) (by decide +kernel))) (hts _ (List.mem_of_getElem? (i := 55) (by decide +kernel))) (hn _ (ez_ine_ok (by decide +kernel))) (hn _ (ez_ine_ok (by decide +kernel))) (fun j hj => hn _ (ez_ine_ok (List.all_eq_true.mp tz_el_1 j (List.mem_range.mpr hj)))) hA
set_option maxRecDepth 100000 in
theorem tz_st_2 {args : Array Value} {s : State} {A : Nat → Prop} (hts : ∀ w ∈ lw_tbl, w.before args s = true) (hn : ∀ w ∈ tz_nw, w.before args s = true) (hA : ∀ a : Nat, a < s.heap.size → ¬ A a) : ∃ t : Nat, va_Z (tz_sta 2).1 (tz_sta 2).2.1 (tz_sta 2).2.2 (.ref t) A s s.heap ∧ va_T .int t (tz_ar 2).length (fun i => .int ((tz_ar 2).getD i 0)) A s s.heap :=
  ez_static (C := "PackDesk") (n := "LENGTH_BASE") (d := "[I") (l := tz_ar 2) (by decide +kernel) (hts _ (List.mem_of_getElem? (i := 529) (by decide +kernel))) (hts _ (List.mem_of_getElem? (i := 55) (by decide +kernel))) (hn _ (ez_ine_ok (by decide +kernel))) (hn _ (ez_ine_ok (by decide +kernel))) (fun j hj => hn _ (ez_ine_ok (List.all_eq_true.mp tz_el_2 j (List.mem_range.mpr hj)))) hA
set_option maxRecDepth 100000 in
theorem tz_st_3 {args : Array Value} {s : State} {A : Nat → Prop} (hts : ∀ w ∈ lw_tbl, w.before args s = true) (hn : ∀ w ∈ tz_nw, w.before args s = true) (hA : ∀ a : Nat, a < s.heap.size → ¬ A a) : ∃ t : Nat, va_Z (tz_sta 3).1 (tz_sta 3).2.1 (tz_sta 3).2.2 (.ref t) A s s.heap ∧ va_T .int t (tz_ar 3).length (fun i => .int ((tz_ar 3).getD i 0)) A s s.heap :=
  ez_static (C := "PackDesk") (n := "DISTANCE_BASE") (d := "[I") (l := tz_ar 3) (by decide +kernel) (hts _ (List.mem_of_getElem? (i := 534) (by decide +kernel))) (hts _ (List.mem_of_getElem? (i := 55) (by decide +kernel))) (hn _ (ez_ine_ok (by decide +kernel))) (hn _ (ez_ine_ok (by decide +kernel))) (fun j hj => hn _ (ez_ine_ok (List.all_eq_true.mp tz_el_3 j (List.mem_range.mpr hj)))) hA
set_option maxRecDepth 100000 in
theorem tz_st_4 {args : Array Value} {s : State} {A : Nat → Prop} (hts : ∀ w ∈ lw_tbl, w.before args s = true) (hn : ∀ w ∈ tz_nw, w.before args s = true) (hA : ∀ a : Nat, a < s.heap.size → ¬ A a) : ∃ t : Nat, va_Z (tz_sta 4).1 (tz_sta 4).2.1 (tz_sta 4).2.2 (.ref t) A s s.heap ∧ va_T .int t (tz_ar 4).length (fun i => .int ((tz_ar 4).getD i 0)) A s s.heap :=
  ez_static (C := "PackDesk") (n := "LENGTH_EXTRA") (d := "[I") (l := tz_ar 4) (by decide +kernel) (hts _ (List.mem_of_getElem? (i := 536) (by decide +kernel))) (hts _ (List.mem_of_getElem? (i := 55) (by decide +kernel))) (hn _ (ez_ine_ok (by decide +kernel))) (hn _ (ez_ine_ok (by decide +kernel))) (fun j hj => hn _ (ez_ine_ok (List.all_eq_true.mp tz_el_4 j (List.mem_range.mpr hj)))) hA
set_option maxRecDepth 100000 in
theorem tz_st_5 {args : Array Value} {s : State} {A : Nat → Prop} (hts : ∀ w ∈ lw_tbl, w.before args s = true) (hn : ∀ w ∈ tz_nw, w.before args s = true) (hA : ∀ a : Nat, a < s.heap.size → ¬ A a) : ∃ t : Nat, va_Z (tz_sta 5).1 (tz_sta 5).2.1 (tz_sta 5).2.2 (.ref t) A s s.heap ∧ va_T .int t (tz_ar 5).length (fun i => .int ((tz_ar 5).getD i 0)) A s s.heap :=
  ez_static (C := "PackDesk") (n := "DISTANCE_EXTRA") (d := "[I") (l := tz_ar 5) (by decide +kernel) (hts _ (List.mem_of_getElem? (i := 538) (by decide +kernel))) (hts _ (List.mem_of_getElem? (i := 55) (by decide +kernel))) (hn _ (ez_ine_ok (by decide +kernel))) (hn _ (ez_ine_ok (by decide +kernel))) (fun j hj => hn _ (ez_ine_ok (List.all_eq_true.mp tz_el_5 j (List.mem_range.mpr hj)))) hA
set_option maxRecDepth 100000 in
theorem tz_st_6 {args : Array Value} {s : State} {A : Nat → Prop} (hts : ∀ w ∈ lw_tbl, w.before args s = true) (hn : ∀ w ∈ tz_nw, w.before args s = true) (hA : ∀ a : Nat, a < s.heap.size → ¬ A a) : ∃ t : Nat, va_Z (tz_sta 6).1 (tz_sta 6).2.1 (tz_sta 6).2.2 (.ref t) A s s.heap ∧ va_T .int t (tz_ar 6).length (fun i => .int ((tz_ar 6).getD i 0)) A s s.heap :=
  ez_static (C := "PackDesk$LengthMaker") (n := "GAPS") (d := "[I") (l := tz_ar 6) (by decide +kernel) (hts _ (List.mem_of_getElem? (i := 562) (by decide +kernel))) (hts _ (List.mem_of_getElem? (i := 57) (by decide +kernel))) (hn _ (ez_ine_ok (by decide +kernel))) (hn _ (ez_ine_ok (by decide +kernel))) (fun j hj => hn _ (ez_ine_ok (List.all_eq_true.mp tz_el_6 j (List.mem_range.mpr hj)))) hA
set_option maxRecDepth 100000 in
theorem tz_st_7 {args : Array Value} {s : State} {A : Nat → Prop} (hts : ∀ w ∈ lw_tbl, w.before args s = true) (hn : ∀ w ∈ tz_nw, w.before args s = true) (hA : ∀ a : Nat, a < s.heap.size → ¬ A a) : ∃ t : Nat, va_Z (tz_sta 7).1 (tz_sta 7).2.1 (tz_sta 7).2.2 (.ref t) A s s.heap ∧ va_T .int t (tz_ar 7).length (fun i => .int ((tz_ar 7).getD i 0)) A s s.heap :=
  ez_static (C := "PackDesk") (n := "REPEAT_BASE") (d := "[I") (l := tz_ar 7) (by decide +kernel) (hts _ (List.mem_of_getElem? (i := 611) (by decide +kernel))) (hts _ (List.mem_of_getElem? (i := 55) (by decide +kernel))) (hn _ (ez_ine_ok (by decide +kernel))) (hn _ (ez_ine_ok (by decide +kernel))) (fun j hj => hn _ (ez_ine_ok (List.all_eq_true.mp tz_el_7 j (List.mem_range.mpr hj)))) hA
set_option maxRecDepth 100000 in
theorem tz_st_8 {args : Array Value} {s : State} {A : Nat → Prop} (hts : ∀ w ∈ lw_tbl, w.before args s = true) (hn : ∀ w ∈ tz_nw, w.before args s = true) (hA : ∀ a : Nat, a < s.heap.size → ¬ A a) : ∃ t : Nat, va_Z (tz_sta 8).1 (tz_sta 8).2.1 (tz_sta 8).2.2 (.ref t) A s s.heap ∧ va_T .int t (tz_ar 8).length (fun i => .int ((tz_ar 8).getD i 0)) A s s.heap :=
  ez_static (C := "PackDesk") (n := "ALPHABET_ORDER") (d := "[I") (l := tz_ar 8) (by decide +kernel) (hts _ (List.mem_of_getElem? (i := 622) (by decide +kernel))) (hts _ (List.mem_of_getElem? (i := 55) (by decide +kernel))) (hn _ (ez_ine_ok (by decide +kernel))) (hn _ (ez_ine_ok (by decide +kernel))) (fun j hj => hn _ (ez_ine_ok (List.all_eq_true.mp tz_el_8 j (List.mem_range.mpr hj)))) hA
set_option maxRecDepth 100000 in
theorem tz_st_9 {args : Array Value} {s : State} {A : Nat → Prop} (hts : ∀ w ∈ lw_tbl, w.before args s = true) (hn : ∀ w ∈ tz_nw, w.before args s = true) (hA : ∀ a : Nat, a < s.heap.size → ¬ A a) : ∃ t : Nat, va_Z (tz_sta 9).1 (tz_sta 9).2.1 (tz_sta 9).2.2 (.ref t) A s s.heap ∧ va_T .int t (tz_ar 9).length (fun i => .int ((tz_ar 9).getD i 0)) A s s.heap :=
  ez_static (C := "PackDesk") (n := "REPEAT_EXTRA") (d := "[I") (l := tz_ar 9) (by decide +kernel) (hts _ (List.mem_of_getElem? (i := 631) (by decide +kernel))) (hts _ (List.mem_of_getElem? (i := 55) (by decide +kernel))) (hn _ (ez_ine_ok (by decide +kernel))) (hn _ (ez_ine_ok (by decide +kernel))) (fun j hj => hn _ (ez_ine_ok (List.all_eq_true.mp tz_el_9 j (List.mem_range.mpr hj)))) hA
set_option maxRecDepth 100000 in
theorem tz_st_10 {args : Array Value} {s : State} {A : Nat → Prop} (hts : ∀ w ∈ lw_tbl, w.before args s = true) (hn : ∀ w ∈ tz_nw, w.before args s = true) (hA : ∀ a : Nat, a < s.heap.size → ¬ A a) : ∃ t : Nat, va_Z (tz_sta 10).1 (tz_sta 10).2.1 (tz_sta 10).2.2 (.ref t) A s s.heap ∧ va_T .int t (tz_ar 10).length (fun i => .int ((tz_ar 10).getD i 0)) A s s.heap :=
  ez_static (C := "PackDesk$BlockBook") (n := "CODE_FROM") (d := "[I") (l := tz_ar 10) (by decide +kernel) (hts _ (List.mem_of_getElem? (i := 719) (by decide +kernel))) (hts _ (List.mem_of_getElem? (i := 63) (by decide +kernel))) (hn _ (ez_ine_ok (by decide +kernel))) (hn _ (ez_ine_ok (by decide +kernel))) (fun j hj => hn _ (ez_ine_ok (List.all_eq_true.mp tz_el_10 j (List.mem_range.mpr hj)))) hA
set_option maxRecDepth 100000 in
theorem tz_st_11 {args : Array Value} {s : State} {A : Nat → Prop} (hts : ∀ w ∈ lw_tbl, w.before args s = true) (hn : ∀ w ∈ tz_nw, w.before args s = true) (hA : ∀ a : Nat, a < s.heap.size → ¬ A a) : ∃ t : Nat, va_Z (tz_sta 11).1 (tz_sta 11).2.1 (tz_sta 11).2.2 (.ref t) A s s.heap ∧ va_T .int t (tz_ar 11).length (fun i => .int ((tz_ar 11).getD i 0)) A s s.heap :=
  ez_static (C := "PackDesk$BlockBook") (n := "CODE_SYMBOLS") (d := "[I") (l := tz_ar 11) (by decide +kernel) (hts _ (List.mem_of_getElem? (i := 721) (by decide +kernel))) (hts _ (List.mem_of_getElem? (i := 63) (by decide +kernel))) (hn _ (ez_ine_ok (by decide +kernel))) (hn _ (ez_ine_ok (by decide +kernel))) (fun j hj => hn _ (ez_ine_ok (List.all_eq_true.mp tz_el_11 j (List.mem_range.mpr hj)))) hA
/-- the arrays outside, and the script among them -/
theorem tz_outer {args : Array Value} {s : State} {A : Nat → Prop} {b L : Nat} {xs : Nat → Int32} (hts : ∀ w ∈ lw_tbl, w.before args s = true) (hn : ∀ w ∈ tz_nw, w.before args s = true) (hX : va_X b L xs s s.heap) (hA : ∀ a : Nat, a < s.heap.size → ¬ A a) : ∃ ea : Nat → Nat, ea 0 = b ∧ (∀ j, va_T .int (ea j) (tz_E L xs j).1 (fun i => .int ((tz_E L xs j).2 i)) A s s.heap) ∧ ∀ j, 0 < j → va_Z (tz_sta j).1 (tz_sta j).2.1 (tz_sta j).2.2 (.ref (ea j)) A s s.heap := by
  obtain ⟨t1, z1, w1⟩ := tz_st_1 hts hn hA
  obtain ⟨t2, z2, w2⟩ := tz_st_2 hts hn hA
  obtain ⟨t3, z3, w3⟩ := tz_st_3 hts hn hA
  obtain ⟨t4, z4, w4⟩ := tz_st_4 hts hn hA
  obtain ⟨t5, z5, w5⟩ := tz_st_5 hts hn hA
  obtain ⟨t6, z6, w6⟩ := tz_st_6 hts hn hA
  obtain ⟨t7, z7, w7⟩ := tz_st_7 hts hn hA
  obtain ⟨t8, z8, w8⟩ := tz_st_8 hts hn hA
  obtain ⟨t9, z9, w9⟩ := tz_st_9 hts hn hA
  obtain ⟨t10, z10, w10⟩ := tz_st_10 hts hn hA
  obtain ⟨t11, z11, w11⟩ := tz_st_11 hts hn hA
  refine ⟨fun j => match j with
    | 0 => b
    | 1 => t1
    | 2 => t2
    | 3 => t3
    | 4 => t4
    | 5 => t5
    | 6 => t6
    | 7 => t7
    | 8 => t8
    | 9 => t9
    | 10 => t10
    | 11 => t11
    | _ => t1, rfl, fun j => ?_, fun j hj => ?_⟩
  · match j with
    | 0 =>
      obtain ⟨scr, h1, h2, h3, h4, h5⟩ := hX
      exact ⟨scr, h1, h2, h3, by rw [h4]; exact Nat.le_refl _, by rw [h4]; rfl, h5, hA b (Array.getElem?_eq_some_iff.mp h1).1⟩
    | 1 => exact w1
    | 2 => exact w2
    | 3 => exact w3
    | 4 => exact w4
    | 5 => exact w5
    | 6 => exact w6
    | 7 => exact w7
    | 8 => exact w8
    | 9 => exact w9
    | 10 => exact w10
    | 11 => exact w11
    | _ + 12 => exact w1
  · match j with
    | 0 => exact absurd hj (by omega)
    | 1 => exact z1
    | 2 => exact z2
    | 3 => exact z3
    | 4 => exact z4
    | 5 => exact z5
    | 6 => exact z6
    | 7 => exact z7
    | 8 => exact z8
    | 9 => exact z9
    | 10 => exact z10
    | 11 => exact z11
    | _ + 12 => exact z1
end
section
/-! THE LAW'S START: the pure machine's walk of the law gives the claim -/
noncomputable def ez_h0 : ez_H := (0, 0, fun _ => 0, fun _ => 0, fun _ _ => 0, fun _ _ => 0, fun _ _ => 0)
theorem ez_exact {args : Array Value} {s : State} {t : Term} {C : String} (h : (Cond.exactly t C).before args s = true) : ∃ a : Nat, t.eval args s none [] s = some (.ref a) := by
  cases hv : t.eval args s none [] s with
  | none => simp [Cond.before, Cond.holds, Cond.value, hv] at h
  | some w =>
    cases w with
    | ref a => exact ⟨a, rfl⟩
    | null => cases hc : s.vm.findClass C <;> simp [Cond.before, Cond.holds, Cond.value, hv, hc] at h
    | _ => simp [Cond.before, Cond.holds, Cond.value, hv] at h
/-- a class by its number, for all numbers -/
theorem tz_known {args : Array Value} {s : State} (hts : ∀ w ∈ tz_tbl, w.before args s = true) (hinst : ∀ a, 0 < a → a ≤ 13 → (Cond.instantiable (tz_cn a) (tz_nf a)).before args s = true) : ∃ (dC : Nat → ClassId) (dI : Nat → Nat → Nat), ∀ (k : Nat) (q : vw_C), tz_cl[k]? = some q → u_Kn s q.1 q.2.1 q.2.2 (dC k) (dI k) := by
  have key : ∀ k : Nat, ∃ (cC : ClassId) (iS : Nat → Nat), ∀ q : vw_C, tz_cl[k]? = some q → u_Kn s q.1 q.2.1 q.2.2 cC iS := by
    intro k
    cases hq : tz_cl[k]? with
    | none => exact ⟨0, fun _ => 0, fun q h => by cases h⟩
    | some q =>
      have hk : k < 13 := (List.getElem?_eq_some_iff.mp hq).1
      obtain ⟨-, -, h3, h4, -, -⟩ := tz_cls (k + 1) (by omega) (by omega)
      obtain ⟨cC, iS, h⟩ := u_known hts h4 (hinst (k + 1) (by omega) (by omega))
      refine ⟨cC, iS, fun q' h' => ?_⟩
      cases h'
      rw [Nat.add_sub_cancel, hq] at h3
      cases h3
      exact h
  exact ⟨fun k => Classical.choose (key k), fun k => Classical.choose (Classical.choose_spec (key k)), fun k => Classical.choose_spec (Classical.choose_spec (key k))⟩
theorem ez_arr {s : State} {cA : ClassId} {kA : Class} {comp : ClassId} {t : FieldType} (h2 : s.vm.classes[cA]? = some kA) (h3 : kA.kind = .array comp t) : ArrOfT s cA t := fun n z => ⟨fun k h => (by cases h), kA, h2, comp, h3⟩
/-- what holds at the law's entry -/
def tz_At (p : Program) (s : State) (m : MethodId) (meth : Method) (c : Code) (b L : Nat) (xs : Nat → Int32) : Prop :=
  p.tables.exec = Jvm.exec ∧ c.code = code ∧ meth.sig.returnType = ret ∧ c.maxLocals = 7 ∧ s.vm.findClass "PackDeskLaw" = some m.cls ∧ (∀ w ∈ lw_tbl, w.before #[Value.ref b] s = true) ∧ va_X b L xs s s.heap ∧ b < s.heap.size ∧ meth.locks = false ∧ (Jvm.Cond.and given_1 narrow_1).before #[Value.ref b] s = true ∧ meth.name = "law" ∧ c.exceptionTable.toList = []
/-- the law in the pure machine answers 1 -/
def tz_Law (L : Nat) (xs : Nat → Int32) : Prop := ez_Wp (tz_E L xs) tz_ml tz_hn tz_co 10 149 0 (ez_args 7 [.retAddr 0]) [] ez_h0 (fun o _ => o = .inl (some (.int 1)))
theorem tz_strs {args : Array Value} {s : State} (hts : ∀ w ∈ lw_tbl, w.before args s = true) (hn : ∀ w ∈ tz_nw, w.before args s = true) : ∀ w ∈ tz_str, ∃ q : Nat, vk_R w.1 w.2.1 w.2.2 q s := by
  intro w hw
  have h1 : Cond.stringRef w.1 w.2.1 w.2.2 ∈ lw_tbl ∧ Cond.exactly (.string w.1 w.2.1) "java/lang/String" ∈ tz_nw := by
    have : tz_str.all (fun w => decide (Cond.stringRef w.1 w.2.1 w.2.2 ∈ lw_tbl ∧ Cond.exactly (.string w.1 w.2.1) "java/lang/String" ∈ tz_nw)) = true := by decide +kernel
    exact of_decide_eq_true (List.all_eq_true.mp this w hw)
  obtain ⟨q, hq⟩ := ez_exact (hn _ h1.2)
  exact ⟨q, vk_R.of (hts _ h1.1) hq⟩
set_option maxRecDepth 100000 in
set_option maxHeartbeats 4000000 in
theorem tz_start {p : Program} {e : Env} {s : State} {m : MethodId} {below : List Frame} {meth : Method} {c : Code} (l : Launch) (hl : l.stackTraces = false) {b L : Nat} {xs : Nat → Int32} (hL : ∀ mi, ez_okL tz_cl tz_nf tz_ty tz_ex tz_sta tz_nm tz_by tz_ml tz_re tz_hh tz_tbl tz_str mi (tz_co mi)) (hH : ∀ mi, ez_okH tz_ex tz_nm tz_by tz_ml tz_hh tz_tbl tz_hn mi) (C0 : tz_At p s m meth c b L xs) (HW : tz_Law L xs) : W p l e room_1 s m #[Value.ref b] below meth c s.heap [] 0 0 (lw_Z below #[Value.ref b] s) (entryFrame m ([Value.ref b] : List Value).toArray 7) := by
  obtain ⟨hx, hb, hr, hml, hown, hts, hX, hbl, hlocks, hgv, hname, hexc⟩ := C0
  have hn := flat_of_before _ hgv
  obtain ⟨B, hB⟩ : ∃ B, s.heap.size = B + 1 := ⟨s.heap.size - 1, by omega⟩
  have hA : ∀ a : Nat, a < s.heap.size → ¬ ez_A B a := fun a h1 h2 => by
    have : B < a := h2
    omega
  obtain ⟨ea, he0, hT, hZ⟩ := tz_outer (A := ez_A B) hts hn hX hA
  have hts' : ∀ w ∈ tz_tbl, w.before #[Value.ref b] s = true := fun w hw => by
    rcases List.mem_append.mp hw with z | z
    · exact hts w (List.mem_filter.mp z).1
    · have : tz_exw.all (fun w => decide (w ∈ tz_nw)) = true := by decide +kernel
      exact hn w (of_decide_eq_true (List.all_eq_true.mp this w z))
  have hinst : ∀ a, 0 < a → a ≤ 13 → (Cond.instantiable (tz_cn a) (tz_nf a)).before #[Value.ref b] s = true := fun a h1 h2 => by
    have : (List.range 14).all (fun a => decide (a = 0 ∨ Cond.instantiable (tz_cn a) (tz_nf a) ∈ lw_tbl)) = true := by decide +kernel
    rcases of_decide_eq_true (List.all_eq_true.mp this a (List.mem_range.mpr (by omega))) with z | z
    · omega
    · exact hts _ z
  obtain ⟨dC, dI, hKc⟩ := tz_known hts' hinst
  obtain ⟨cI, kI, oI, i1, i2, i3⟩ := Cond.arrayClass_spec (type := .int) (hts _ (by decide +kernel))
  obtain ⟨cJ, kJ, oJ, j1, j2, j3⟩ := Cond.arrayClass_spec (type := .long) (hts _ (by decide +kernel))
  obtain ⟨cB, kB, oB, b1, b2, b3⟩ := Cond.arrayClass_spec (type := .byte) (hts _ (by decide +kernel))
  obtain ⟨dA, d1, d2, d3⟩ : ∃ dA : Nat → ClassId, dA 1000 = cI ∧ dA 1002 = cJ ∧ dA 1003 = cB := ⟨fun t => if t = 1000 then cI else if t = 1002 then cJ else cB, rfl, rfl, rfl⟩
  have hK : va_K (dC, dI) tz_cl (ez_tys dA) s := by
    refine ⟨hKc, fun k q hk => ?_⟩
    match k, hk with
    | 0, hk => cases hk; rw [d1]; exact ⟨ez_arr i2 i3, i1⟩
    | 1, hk => cases hk; rw [d2]; exact ⟨ez_arr j2 j3, j1⟩
    | 2, hk => cases hk; rw [d3]; exact ⟨ez_arr b2 b3, b1⟩
    | k + 3, hk => cases hk
  have hTh : ez_Th B s := ⟨va_Zqof (hts _ (by decide +kernel)) (hts _ (by decide +kernel)) (hn _ (by decide +kernel)) hA, va_Zqof (hts _ (by decide +kernel)) (hts _ (by decide +kernel)) (hn _ (by decide +kernel)) hA, ez_Ls.of (hts _ (by decide +kernel)) hA, ez_Ls.of (hts _ (by decide +kernel)) hA⟩
  have hsur : ez_Sur (dC, dI) tz_cl dA B ea (tz_E L xs) tz_sta tz_str s := ⟨hK, hT, hZ, hTh, tz_strs hts hn⟩
  have hR : ez_Rel (dC, dI) tz_cl tz_nf tz_ty dA B ez_h0 s.heap := ⟨by rw [hB]; rfl, [], fun q hq => absurd rfl hq, fun k q hk => by simp [va_pl] at hk, ⟨fun i j x y hi => by simp [va_pl] at hi, fun k q hk => by simp [va_pl] at hk⟩⟩
  have hcx : ez_Ctx tz_nm tz_by tz_ml tz_re tz_hh tz_tbl 149 p s m #[Value.ref b] meth c := ⟨hx, hb, hr, hml, hown, hts', hlocks, hname, by rw [hexc]; rfl⟩
  have K := HW (ez_Snd l (dC, dI) tz_cl tz_nf tz_ty dA B ea tz_ex (tz_E L xs) tz_sta tz_nm tz_by tz_ml tz_re tz_hh tz_tbl tz_str) (ez_Snd_mono _ _ _ _ _ _ _ _ _ _ _ _ _ _ _ _ _ _) (ez_sound hl tz_good hH hL) p e room_1 s m #[Value.ref b] below meth c s.heap [] 0 0 _ 0 0 hcx hsur hR va_S.rf (by rw [hB]) rfl rfl (Nat.zero_le _) (Nat.zero_le _) (Nat.le_refl _) (Nat.le_refl _) (Nat.le_refl _) (by decide) (ez_lv_entry (B := B) (ea := ea) (vs := [.retAddr 0]) (n := 7) (by decide))
  have e1 : ([.retAddr 0] : List Value).map (ez_tr B ea) = [.ref b] := by
    show [Value.ref (ea 0)] = _
    rw [he0]
  rw [e1] at K
  rw [lg_entry_eq]
  refine ez_W_mono ?_ K
  rintro t ⟨o, h1, h2, r, h', hQ, hout, -, hW, ⟨-, -, c3, c4⟩, -, -, L', hsame, hLA⟩
  subst hQ
  have ho : o = .returned (some (.int 1)) := hout
  subst ho
  refine ⟨_, h1, h2, rfl, ⟨_, rfl⟩, hW, ?_⟩
  exact hsame.weaken (fun y hy hlt => by
    have h3 : B < y.base := hLA y hy
    have h4 : y.base < B + 1 := by rw [← hB]; exact hlt
    exact absurd h4 (Nat.not_lt.mpr h3)) c3 c4
end
section
noncomputable def ez_chb : List ez_C → Bool
  | [] => true
  | q :: cs => (match cs with
    | [] => true
    | q' :: _ => ez_isSw q.2.1 || ez_isThr q.2.1 || decide (q'.1 = q.1 + ez_ln q.2.1)) && ez_chb cs
theorem tz_okb {tb : List Cond} {n : Nat} : ∀ cs : List ez_C, cs.all (tz_o1 tb n) = true → ez_chb cs = true → ez_okLb tz_nf tz_ty tz_sta tz_nm tz_by tz_ml tz_re tz_hh tb 13 149 tz_ct tz_cn "PackDesk" tz_thr n cs = true
  | [], _, _ => rfl
  | q :: cs, h1, h2 => by
    rw [List.all_cons, Bool.and_eq_true] at h1
    unfold ez_chb at h2
    rw [Bool.and_eq_true] at h2
    unfold ez_okLb
    rw [Bool.and_eq_true, Bool.and_eq_true]
    exact ⟨⟨h1.1, h2.1⟩, tz_okb cs h1.2 h2.2⟩
abbrev tz_OK (n : Nat) (cs : List ez_C) : Prop := ez_okL tz_cl tz_nf tz_ty tz_ex tz_sta tz_nm tz_by tz_ml tz_re tz_hh tz_tbl tz_str n cs
theorem tz_okl {tb : List Cond} (hs : ∀ w ∈ tb, w ∈ tz_tbl) {n : Nat} {cs : List ez_C} (h1 : cs.all (tz_o1 tb n) = true) (h2 : ez_chb cs = true) : tz_OK n cs := ez_okLb_ok _ _ _ _ _ _ _ _ _ _ _ _ _ _ _ _ _ _ _ hs tz_gen tz_cls tz_wc tz_thr_ok cs (tz_okb cs h1 h2)
theorem tz_okl_0 : tz_OK 0 cz_0 := tz_okl tz_sub_0 tz_al_0 (by decide +kernel)
theorem tz_okl_1 : tz_OK 1 cz_1 := tz_okl tz_sub_0 tz_al_1 (by decide +kernel)
theorem tz_okl_2 : tz_OK 2 cz_2 := tz_okl tz_sub_0 tz_al_2 (by decide +kernel)
theorem tz_okl_3 : tz_OK 3 cz_3 := tz_okl tz_sub_0 tz_al_3 (by decide +kernel)
theorem tz_okl_4 : tz_OK 4 cz_4 := tz_okl tz_sub_0 tz_al_4 (by decide +kernel)
theorem tz_okl_5 : tz_OK 5 cz_5 := tz_okl tz_sub_0 tz_al_5 (by decide +kernel)
theorem tz_okl_6 : tz_OK 6 cz_6 := tz_okl tz_sub_0 tz_al_6 (by decide +kernel)
theorem tz_okl_7 : tz_OK 7 cz_7 := tz_okl tz_sub_0 tz_al_7 (by decide +kernel)
theorem tz_okl_8 : tz_OK 8 cz_8 := tz_okl tz_sub_0 tz_al_8 (by decide +kernel)
theorem tz_okl_9 : tz_OK 9 cz_9 := tz_okl tz_sub_0 tz_al_9 (by decide +kernel)
theorem tz_okl_10 : tz_OK 10 cz_10 := tz_okl tz_sub_0 tz_al_10 (by decide +kernel)
theorem tz_okl_11 : tz_OK 11 cz_11 := tz_okl tz_sub_0 tz_al_11 (by decide +kernel)
theorem tz_okl_12 : tz_OK 12 cz_12 := tz_okl tz_sub_0 tz_al_12 (by decide +kernel)
theorem tz_okl_13 : tz_OK 13 cz_13 := tz_okl tz_sub_0 tz_al_13 (by decide +kernel)
theorem tz_okl_14 : tz_OK 14 cz_14 := tz_okl tz_sub_0 tz_al_14 (by decide +kernel)
theorem tz_okl_15 : tz_OK 15 cz_15 := tz_okl tz_sub_0 tz_al_15 (by decide +kernel)
theorem tz_okl_16 : tz_OK 16 cz_16 := tz_okl tz_sub_0 tz_al_16 (by decide +kernel)
theorem tz_okl_17 : tz_OK 17 cz_17 := tz_okl tz_sub_0 tz_al_17 (by decide +kernel)
theorem tz_okl_18 : tz_OK 18 cz_18 := tz_okl tz_sub_0 tz_al_18 (by decide +kernel)
theorem tz_okl_19 : tz_OK 19 cz_19 := tz_okl tz_sub_0 tz_al_19 (by decide +kernel)
theorem tz_okl_20 : tz_OK 20 cz_20 := tz_okl tz_sub_0 tz_al_20 (by decide +kernel)
theorem tz_okl_21 : tz_OK 21 cz_21 := tz_okl tz_sub_0 tz_al_21 (by decide +kernel)
theorem tz_okl_22 : tz_OK 22 cz_22 := tz_okl tz_sub_0 tz_al_22 (by decide +kernel)
theorem tz_okl_23 : tz_OK 23 cz_23 := tz_okl tz_sub_0 tz_al_23 (by decide +kernel)
theorem tz_okl_24 : tz_OK 24 cz_24 := tz_okl tz_sub_1 tz_al_24 (by decide +kernel)
theorem tz_okl_25 : tz_OK 25 cz_25 := tz_okl tz_sub_1 tz_al_25 (by decide +kernel)
theorem tz_okl_26 : tz_OK 26 cz_26 := tz_okl tz_sub_1 tz_al_26 (by decide +kernel)
theorem tz_okl_27 : tz_OK 27 cz_27 := tz_okl tz_sub_1 tz_al_27 (by decide +kernel)
theorem tz_okl_28 : tz_OK 28 cz_28 := tz_okl tz_sub_1 tz_al_28 (by decide +kernel)
theorem tz_okl_29 : tz_OK 29 cz_29 := tz_okl tz_sub_1 tz_al_29 (by decide +kernel)
theorem tz_okl_30 : tz_OK 30 cz_30 := tz_okl tz_sub_1 tz_al_30 (by decide +kernel)
theorem tz_okl_31 : tz_OK 31 cz_31 := tz_okl tz_sub_1 tz_al_31 (by decide +kernel)
theorem tz_okl_32 : tz_OK 32 cz_32 := tz_okl tz_sub_1 tz_al_32 (by decide +kernel)
theorem tz_okl_33 : tz_OK 33 cz_33 := tz_okl tz_sub_1 tz_al_33 (by decide +kernel)
theorem tz_okl_34 : tz_OK 34 cz_34 := tz_okl tz_sub_1 tz_al_34 (by decide +kernel)
theorem tz_okl_35 : tz_OK 35 cz_35 := tz_okl tz_sub_1 tz_al_35 (by decide +kernel)
theorem tz_okl_36 : tz_OK 36 cz_36 := tz_okl tz_sub_1 tz_al_36 (by decide +kernel)
theorem tz_okl_37 : tz_OK 37 cz_37 := tz_okl tz_sub_1 tz_al_37 (by decide +kernel)
theorem tz_okl_38 : tz_OK 38 cz_38 := tz_okl tz_sub_1 tz_al_38 (by decide +kernel)
theorem tz_okl_39 : tz_OK 39 cz_39 := tz_okl tz_sub_1 tz_al_39 (by decide +kernel)
theorem tz_okl_40 : tz_OK 40 cz_40 := tz_okl tz_sub_1 tz_al_40 (by decide +kernel)
theorem tz_okl_41 : tz_OK 41 cz_41 := tz_okl tz_sub_1 tz_al_41 (by decide +kernel)
theorem tz_okl_42 : tz_OK 42 cz_42 := tz_okl tz_sub_1 tz_al_42 (by decide +kernel)
theorem tz_okl_43 : tz_OK 43 cz_43 := tz_okl tz_sub_1 tz_al_43 (by decide +kernel)
theorem tz_okl_44 : tz_OK 44 cz_44 := tz_okl tz_sub_1 tz_al_44 (by decide +kernel)
theorem tz_okl_45 : tz_OK 45 cz_45 := tz_okl tz_sub_1 tz_al_45 (by decide +kernel)
theorem tz_okl_46 : tz_OK 46 cz_46 := tz_okl tz_sub_1 tz_al_46 (by decide +kernel)
theorem tz_okl_47 : tz_OK 47 cz_47 := tz_okl tz_sub_1 tz_al_47 (by decide +kernel)
theorem tz_okl_48 : tz_OK 48 cz_48 := tz_okl tz_sub_1 tz_al_48 (by decide +kernel)
theorem tz_okl_49 : tz_OK 49 cz_49 := tz_okl tz_sub_1 tz_al_49 (by decide +kernel)
theorem tz_okl_50 : tz_OK 50 cz_50 := tz_okl tz_sub_1 tz_al_50 (by decide +kernel)
theorem tz_okl_51 : tz_OK 51 cz_51 := tz_okl tz_sub_1 tz_al_51 (by decide +kernel)
theorem tz_okl_52 : tz_OK 52 cz_52 := tz_okl tz_sub_1 tz_al_52 (by decide +kernel)
theorem tz_okl_53 : tz_OK 53 cz_53 := tz_okl tz_sub_1 tz_al_53 (by decide +kernel)
theorem tz_okl_54 : tz_OK 54 cz_54 := tz_okl tz_sub_1 tz_al_54 (by decide +kernel)
theorem tz_okl_55 : tz_OK 55 cz_55 := tz_okl tz_sub_1 tz_al_55 (by decide +kernel)
theorem tz_okl_56 : tz_OK 56 cz_56 := tz_okl tz_sub_1 tz_al_56 (by decide +kernel)
theorem tz_okl_57 : tz_OK 57 cz_57 := tz_okl tz_sub_1 tz_al_57 (by decide +kernel)
theorem tz_okl_58 : tz_OK 58 cz_58 := tz_okl tz_sub_1 tz_al_58 (by decide +kernel)
theorem tz_okl_59 : tz_OK 59 cz_59 := tz_okl tz_sub_1 tz_al_59 (by decide +kernel)
theorem tz_okl_60 : tz_OK 60 cz_60 := tz_okl tz_sub_1 tz_al_60 (by decide +kernel)
theorem tz_okl_61 : tz_OK 61 cz_61 := tz_okl tz_sub_1 tz_al_61 (by decide +kernel)
theorem tz_okl_62 : tz_OK 62 cz_62 := tz_okl tz_sub_1 tz_al_62 (by decide +kernel)
theorem tz_okl_63 : tz_OK 63 cz_63 := tz_okl tz_sub_1 tz_al_63 (by decide +kernel)
theorem tz_okl_64 : tz_OK 64 cz_64 := tz_okl tz_sub_1 tz_al_64 (by decide +kernel)
theorem tz_okl_65 : tz_OK 65 cz_65 := tz_okl tz_sub_1 tz_al_65 (by decide +kernel)
theorem tz_okl_66 : tz_OK 66 cz_66 := tz_okl tz_sub_1 tz_al_66 (by decide +kernel)
theorem tz_okl_67 : tz_OK 67 cz_67 := tz_okl tz_sub_2 tz_al_67 (by decide +kernel)
theorem tz_okl_68 : tz_OK 68 cz_68 := tz_okl tz_sub_2 tz_al_68 (by decide +kernel)
theorem tz_okl_69 : tz_OK 69 cz_69 := tz_okl tz_sub_2 tz_al_69 (by decide +kernel)
theorem tz_okl_70 : tz_OK 70 cz_70 := tz_okl tz_sub_2 tz_al_70 (by decide +kernel)
theorem tz_okl_71 : tz_OK 71 cz_71 := tz_okl tz_sub_2 tz_al_71 (by decide +kernel)
theorem tz_okl_72 : tz_OK 72 cz_72 := tz_okl tz_sub_2 tz_al_72 (by decide +kernel)
theorem tz_okl_73 : tz_OK 73 cz_73 := tz_okl tz_sub_3 tz_al_73 (by decide +kernel)
theorem tz_okl_74 : tz_OK 74 cz_74 := tz_okl tz_sub_3 tz_al_74 (by decide +kernel)
theorem tz_okl_75 : tz_OK 75 cz_75 := tz_okl tz_sub_3 tz_al_75 (by decide +kernel)
theorem tz_okl_76 : tz_OK 76 cz_76 := tz_okl tz_sub_3 tz_al_76 (by decide +kernel)
theorem tz_okl_77 : tz_OK 77 cz_77 := tz_okl tz_sub_3 tz_al_77 (by decide +kernel)
theorem tz_okl_78 : tz_OK 78 cz_78 := tz_okl tz_sub_3 tz_al_78 (by decide +kernel)
theorem tz_okl_79 : tz_OK 79 cz_79 := tz_okl tz_sub_3 tz_al_79 (by decide +kernel)
theorem tz_okl_80 : tz_OK 80 cz_80 := tz_okl tz_sub_4 tz_al_80 (by decide +kernel)
theorem tz_okl_81 : tz_OK 81 cz_81 := tz_okl tz_sub_4 tz_al_81 (by decide +kernel)
theorem tz_okl_82 : tz_OK 82 cz_82 := tz_okl tz_sub_4 tz_al_82 (by decide +kernel)
theorem tz_okl_83 : tz_OK 83 cz_83 := tz_okl tz_sub_4 tz_al_83 (by decide +kernel)
theorem tz_okl_84 : tz_OK 84 cz_84 := tz_okl tz_sub_4 tz_al_84 (by decide +kernel)
theorem tz_okl_85 : tz_OK 85 cz_85 := tz_okl tz_sub_4 tz_al_85 (by decide +kernel)
theorem tz_okl_86 : tz_OK 86 cz_86 := tz_okl tz_sub_4 tz_al_86 (by decide +kernel)
theorem tz_okl_87 : tz_OK 87 cz_87 := tz_okl tz_sub_4 tz_al_87 (by decide +kernel)
theorem tz_okl_88 : tz_OK 88 cz_88 := tz_okl tz_sub_5 tz_al_88 (by decide +kernel)
theorem tz_okl_89 : tz_OK 89 cz_89 := tz_okl tz_sub_5 tz_al_89 (by decide +kernel)
theorem tz_okl_90 : tz_OK 90 cz_90 := tz_okl tz_sub_5 tz_al_90 (by decide +kernel)
theorem tz_okl_91 : tz_OK 91 cz_91 := tz_okl tz_sub_5 tz_al_91 (by decide +kernel)
theorem tz_okl_92 : tz_OK 92 cz_92 := tz_okl tz_sub_5 tz_al_92 (by decide +kernel)
theorem tz_okl_93 : tz_OK 93 cz_93 := tz_okl tz_sub_5 tz_al_93 (by decide +kernel)
theorem tz_okl_94 : tz_OK 94 cz_94 := tz_okl tz_sub_5 tz_al_94 (by decide +kernel)
theorem tz_okl_95 : tz_OK 95 cz_95 := tz_okl tz_sub_5 tz_al_95 (by decide +kernel)
theorem tz_okl_96 : tz_OK 96 cz_96 := tz_okl tz_sub_5 tz_al_96 (by decide +kernel)
theorem tz_okl_97 : tz_OK 97 cz_97 := tz_okl tz_sub_5 tz_al_97 (by decide +kernel)
theorem tz_okl_98 : tz_OK 98 cz_98 := tz_okl tz_sub_5 tz_al_98 (by decide +kernel)
theorem tz_okl_99 : tz_OK 99 cz_99 := tz_okl tz_sub_6 tz_al_99 (by decide +kernel)
theorem tz_okl_100 : tz_OK 100 cz_100 := tz_okl tz_sub_7 tz_al_100 (by decide +kernel)
theorem tz_okl_101 : tz_OK 101 cz_101 := tz_okl tz_sub_7 tz_al_101 (by decide +kernel)
theorem tz_okl_102 : tz_OK 102 cz_102 := tz_okl tz_sub_7 tz_al_102 (by decide +kernel)
theorem tz_okl_103 : tz_OK 103 cz_103 := tz_okl tz_sub_7 tz_al_103 (by decide +kernel)
theorem tz_okl_104 : tz_OK 104 cz_104 := tz_okl tz_sub_7 tz_al_104 (by decide +kernel)
theorem tz_okl_105 : tz_OK 105 cz_105 := tz_okl tz_sub_7 tz_al_105 (by decide +kernel)
theorem tz_okl_106 : tz_OK 106 cz_106 := tz_okl tz_sub_7 tz_al_106 (by decide +kernel)
theorem tz_okl_107 : tz_OK 107 cz_107 := tz_okl tz_sub_7 tz_al_107 (by decide +kernel)
theorem tz_okl_108 : tz_OK 108 cz_108 := tz_okl tz_sub_8 tz_al_108 (by decide +kernel)
theorem tz_okl_109 : tz_OK 109 cz_109 := tz_okl tz_sub_8 tz_al_109 (by decide +kernel)
theorem tz_okl_110 : tz_OK 110 cz_110 := tz_okl tz_sub_8 tz_al_110 (by decide +kernel)
theorem tz_okl_111 : tz_OK 111 cz_111 := tz_okl tz_sub_8 tz_al_111 (by decide +kernel)
theorem tz_okl_112 : tz_OK 112 cz_112 := tz_okl tz_sub_8 tz_al_112 (by decide +kernel)
theorem tz_okl_113 : tz_OK 113 cz_113 := tz_okl tz_sub_9 tz_al_113 (by decide +kernel)
theorem tz_okl_114 : tz_OK 114 cz_114 := tz_okl tz_sub_9 tz_al_114 (by decide +kernel)
theorem tz_okl_115 : tz_OK 115 cz_115 := tz_okl tz_sub_9 tz_al_115 (by decide +kernel)
theorem tz_okl_116 : tz_OK 116 cz_116 := tz_okl tz_sub_9 tz_al_116 (by decide +kernel)
theorem tz_okl_117 : tz_OK 117 cz_117 := tz_okl tz_sub_9 tz_al_117 (by decide +kernel)
theorem tz_okl_118 : tz_OK 118 cz_118 := tz_okl tz_sub_9 tz_al_118 (by decide +kernel)
theorem tz_okl_119 : tz_OK 119 cz_119 := tz_okl tz_sub_9 tz_al_119 (by decide +kernel)
theorem tz_okl_120 : tz_OK 120 cz_120 := tz_okl tz_sub_9 tz_al_120 (by decide +kernel)
theorem tz_okl_121 : tz_OK 121 cz_121 := tz_okl tz_sub_9 tz_al_121 (by decide +kernel)
theorem tz_okl_122 : tz_OK 122 cz_122 := tz_okl tz_sub_10 tz_al_122 (by decide +kernel)
theorem tz_okl_123 : tz_OK 123 cz_123 := tz_okl tz_sub_10 tz_al_123 (by decide +kernel)
theorem tz_okl_124 : tz_OK 124 cz_124 := tz_okl tz_sub_10 tz_al_124 (by decide +kernel)
theorem tz_okl_125 : tz_OK 125 cz_125 := tz_okl tz_sub_10 tz_al_125 (by decide +kernel)
theorem tz_okl_126 : tz_OK 126 cz_126 := tz_okl tz_sub_10 tz_al_126 (by decide +kernel)
theorem tz_okl_127 : tz_OK 127 cz_127 := tz_okl tz_sub_11 tz_al_127 (by decide +kernel)
theorem tz_okl_128 : tz_OK 128 cz_128 := tz_okl tz_sub_11 tz_al_128 (by decide +kernel)
theorem tz_okl_129 : tz_OK 129 cz_129 := tz_okl tz_sub_11 tz_al_129 (by decide +kernel)
theorem tz_okl_130 : tz_OK 130 cz_130 := tz_okl tz_sub_11 tz_al_130 (by decide +kernel)
theorem tz_okl_131 : tz_OK 131 cz_131 := tz_okl tz_sub_12 tz_al_131 (by decide +kernel)
theorem tz_okl_132 : tz_OK 132 cz_132 := tz_okl tz_sub_12 tz_al_132 (by decide +kernel)
theorem tz_okl_133 : tz_OK 133 cz_133 := tz_okl tz_sub_12 tz_al_133 (by decide +kernel)
theorem tz_okl_134 : tz_OK 134 cz_134 := tz_okl tz_sub_12 tz_al_134 (by decide +kernel)
theorem tz_okl_135 : tz_OK 135 cz_135 := tz_okl tz_sub_12 tz_al_135 (by decide +kernel)
theorem tz_okl_136 : tz_OK 136 cz_136 := tz_okl tz_sub_12 tz_al_136 (by decide +kernel)
theorem tz_okl_137 : tz_OK 137 cz_137 := tz_okl tz_sub_12 tz_al_137 (by decide +kernel)
theorem tz_okl_138 : tz_OK 138 cz_138 := tz_okl tz_sub_12 tz_al_138 (by decide +kernel)
theorem tz_okl_139 : tz_OK 139 cz_139 := tz_okl tz_sub_12 tz_al_139 (by decide +kernel)
theorem tz_okl_140 : tz_OK 140 cz_140 := tz_okl tz_sub_12 tz_al_140 (by decide +kernel)
theorem tz_okl_141 : tz_OK 141 cz_141 := tz_okl tz_sub_12 tz_al_141 (by decide +kernel)
theorem tz_okl_142 : tz_OK 142 cz_142 := tz_okl tz_sub_12 tz_al_142 (by decide +kernel)
theorem tz_okl_143 : tz_OK 143 cz_143 := tz_okl tz_sub_12 tz_al_143 (by decide +kernel)
theorem tz_okl_144 : tz_OK 144 cz_144 := tz_okl tz_sub_13 tz_al_144 (by decide +kernel)
theorem tz_okl_145 : tz_OK 145 cz_145 := tz_okl tz_sub_13 tz_al_145 (by decide +kernel)
theorem tz_okl_146 : tz_OK 146 cz_146 := tz_okl tz_sub_13 tz_al_146 (by decide +kernel)
theorem tz_okl_147 : tz_OK 147 cz_147 := tz_okl tz_sub_13 tz_al_147 (by decide +kernel)
theorem tz_okl_148 : tz_OK 148 cz_148 := tz_okl tz_sub_14 tz_al_148 (by decide +kernel)
theorem tz_okl_149 : tz_OK 149 cz_149 := tz_okl tz_sub_13 tz_al_149 (by decide +kernel)
theorem tz_OKs : ∀ n, tz_OK n (tz_co n)
  | 0 => tz_okl_0
  | 1 => tz_okl_1
  | 2 => tz_okl_2
  | 3 => tz_okl_3
  | 4 => tz_okl_4
  | 5 => tz_okl_5
  | 6 => tz_okl_6
  | 7 => tz_okl_7
  | 8 => tz_okl_8
  | 9 => tz_okl_9
  | 10 => tz_okl_10
  | 11 => tz_okl_11
  | 12 => tz_okl_12
  | 13 => tz_okl_13
  | 14 => tz_okl_14
  | 15 => tz_okl_15
  | 16 => tz_okl_16
  | 17 => tz_okl_17
  | 18 => tz_okl_18
  | 19 => tz_okl_19
  | 20 => tz_okl_20
  | 21 => tz_okl_21
  | 22 => tz_okl_22
  | 23 => tz_okl_23
  | 24 => tz_okl_24
  | 25 => tz_okl_25
  | 26 => tz_okl_26
  | 27 => tz_okl_27
  | 28 => tz_okl_28
  | 29 => tz_okl_29
  | 30 => tz_okl_30
  | 31 => tz_okl_31
  | 32 => tz_okl_32
  | 33 => tz_okl_33
  | 34 => tz_okl_34
  | 35 => tz_okl_35
  | 36 => tz_okl_36
  | 37 => tz_okl_37
  | 38 => tz_okl_38
  | 39 => tz_okl_39
  | 40 => tz_okl_40
  | 41 => tz_okl_41
  | 42 => tz_okl_42
  | 43 => tz_okl_43
  | 44 => tz_okl_44
  | 45 => tz_okl_45
  | 46 => tz_okl_46
  | 47 => tz_okl_47
  | 48 => tz_okl_48
  | 49 => tz_okl_49
  | 50 => tz_okl_50
  | 51 => tz_okl_51
  | 52 => tz_okl_52
  | 53 => tz_okl_53
  | 54 => tz_okl_54
  | 55 => tz_okl_55
  | 56 => tz_okl_56
  | 57 => tz_okl_57
  | 58 => tz_okl_58
  | 59 => tz_okl_59
  | 60 => tz_okl_60
  | 61 => tz_okl_61
  | 62 => tz_okl_62
  | 63 => tz_okl_63
  | 64 => tz_okl_64
  | 65 => tz_okl_65
  | 66 => tz_okl_66
  | 67 => tz_okl_67
  | 68 => tz_okl_68
  | 69 => tz_okl_69
  | 70 => tz_okl_70
  | 71 => tz_okl_71
  | 72 => tz_okl_72
  | 73 => tz_okl_73
  | 74 => tz_okl_74
  | 75 => tz_okl_75
  | 76 => tz_okl_76
  | 77 => tz_okl_77
  | 78 => tz_okl_78
  | 79 => tz_okl_79
  | 80 => tz_okl_80
  | 81 => tz_okl_81
  | 82 => tz_okl_82
  | 83 => tz_okl_83
  | 84 => tz_okl_84
  | 85 => tz_okl_85
  | 86 => tz_okl_86
  | 87 => tz_okl_87
  | 88 => tz_okl_88
  | 89 => tz_okl_89
  | 90 => tz_okl_90
  | 91 => tz_okl_91
  | 92 => tz_okl_92
  | 93 => tz_okl_93
  | 94 => tz_okl_94
  | 95 => tz_okl_95
  | 96 => tz_okl_96
  | 97 => tz_okl_97
  | 98 => tz_okl_98
  | 99 => tz_okl_99
  | 100 => tz_okl_100
  | 101 => tz_okl_101
  | 102 => tz_okl_102
  | 103 => tz_okl_103
  | 104 => tz_okl_104
  | 105 => tz_okl_105
  | 106 => tz_okl_106
  | 107 => tz_okl_107
  | 108 => tz_okl_108
  | 109 => tz_okl_109
  | 110 => tz_okl_110
  | 111 => tz_okl_111
  | 112 => tz_okl_112
  | 113 => tz_okl_113
  | 114 => tz_okl_114
  | 115 => tz_okl_115
  | 116 => tz_okl_116
  | 117 => tz_okl_117
  | 118 => tz_okl_118
  | 119 => tz_okl_119
  | 120 => tz_okl_120
  | 121 => tz_okl_121
  | 122 => tz_okl_122
  | 123 => tz_okl_123
  | 124 => tz_okl_124
  | 125 => tz_okl_125
  | 126 => tz_okl_126
  | 127 => tz_okl_127
  | 128 => tz_okl_128
  | 129 => tz_okl_129
  | 130 => tz_okl_130
  | 131 => tz_okl_131
  | 132 => tz_okl_132
  | 133 => tz_okl_133
  | 134 => tz_okl_134
  | 135 => tz_okl_135
  | 136 => tz_okl_136
  | 137 => tz_okl_137
  | 138 => tz_okl_138
  | 139 => tz_okl_139
  | 140 => tz_okl_140
  | 141 => tz_okl_141
  | 142 => tz_okl_142
  | 143 => tz_okl_143
  | 144 => tz_okl_144
  | 145 => tz_okl_145
  | 146 => tz_okl_146
  | 147 => tz_okl_147
  | 148 => tz_okl_148
  | 149 => tz_okl_149
  | n + 150 => by
    have : tz_co (n + 150) = [] := by
      unfold tz_co
      rw [List.getD_eq_getElem?_getD, List.getElem?_eq_none (by show 150 ≤ n + 150; omega)]
      rfl
    rw [this]
    trivial
theorem ez_lookup_mem {α β : Type} [BEq α] [LawfulBEq α] {k : α} {v : β} : ∀ l : List (α × β), l.lookup k = some v → (k, v) ∈ l
  | [], h => by cases h
  | (a, b) :: r, h => by
    rw [List.lookup_cons] at h
    cases hq : k == a with
    | true =>
      rw [hq] at h
      cases h
      have := eq_of_beq hq
      subst this
      exact List.mem_cons_self
    | false =>
      rw [hq] at h
      exact List.mem_cons_of_mem _ (ez_lookup_mem r h)
theorem tz_okHs : ∀ mi, ez_okH tz_ex tz_nm tz_by tz_ml tz_hh tz_tbl tz_hn mi := by
  intro mi pc x
  refine ⟨fun h => ?_, fun t j h => ?_⟩
  · unfold tz_hn at h
    split at h
    · assumption
    · cases h
  · unfold tz_hn at h
    split at h
    · cases h
    · have hm : ((mi, pc, x), (t + 1, j)) ∈ tz_hnL := by
        cases hq : tz_hnL.lookup (mi, pc, x) with
        | none => rw [hq] at h; cases h
        | some v => rw [hq] at h; cases h; exact ez_lookup_mem _ hq
      simp only [tz_hnL, List.mem_cons, List.not_mem_nil, or_false, Prod.mk.injEq] at hm
      rcases hm with ⟨⟨rfl, rfl, rfl⟩, ht, rfl⟩ | ⟨⟨rfl, rfl, rfl⟩, ht, rfl⟩ | ⟨⟨rfl, rfl, rfl⟩, ht, rfl⟩ | ⟨⟨rfl, rfl, rfl⟩, ht, rfl⟩ | ⟨⟨rfl, rfl, rfl⟩, ht, rfl⟩ | ⟨⟨rfl, rfl, rfl⟩, ht, rfl⟩
      · exact ⟨[], 0, 8, 11, 13, [], by decide, by decide, by decide, tz_in (by decide +kernel) rfl, tz_in (by decide +kernel) rfl, fun y hy => absurd hy List.not_mem_nil, Or.inl ⟨2, by decide +kernel, rfl, by omega⟩, by decide⟩
      · exact ⟨[], 0, 8, 11, 18, [], by decide, by decide, by decide, tz_in (by decide +kernel) rfl, tz_in (by decide +kernel) rfl, fun y hy => absurd hy List.not_mem_nil, Or.inl ⟨2, by decide +kernel, rfl, by omega⟩, by decide⟩
      · exact ⟨[(0, 6, 9, 24)], 0, 6, 12, 18, [], by decide, by decide, by decide, tz_in (by decide +kernel) rfl, tz_in (by decide +kernel) rfl, by
          intro y hy
          cases List.mem_singleton.mp hy
          exact ⟨by decide, by decide, "java/lang/IndexOutOfBoundsException", tz_in (by decide +kernel) rfl, List.mem_append_right _ (by decide +kernel)⟩, Or.inl ⟨3, by decide +kernel, rfl, by omega⟩, by decide⟩
      · exact ⟨[], 0, 6, 9, 24, [(0, 6, 12, 18)], by decide, by decide, by decide, tz_in (by decide +kernel) rfl, tz_in (by decide +kernel) rfl, fun y hy => absurd hy List.not_mem_nil, Or.inl ⟨3, by decide +kernel, rfl, by omega⟩, by decide⟩
      · exact ⟨[(0, 9, 12, 18)], 0, 9, 15, 13, [], by decide, by decide, by decide, tz_in (by decide +kernel) rfl, tz_in (by decide +kernel) rfl, by
          intro y hy
          cases List.mem_singleton.mp hy
          exact ⟨by decide, by decide, "java/lang/IllegalArgumentException", tz_in (by decide +kernel) rfl, List.mem_append_right _ (by decide +kernel)⟩, Or.inl ⟨3, by decide +kernel, rfl, by omega⟩, by decide⟩
      · exact ⟨[], 0, 9, 12, 18, [(0, 9, 15, 13)], by decide, by decide, by decide, tz_in (by decide +kernel) rfl, tz_in (by decide +kernel) rfl, fun y hy => absurd hy List.not_mem_nil, Or.inl ⟨3, by decide +kernel, rfl, by omega⟩, by decide⟩
end
section
set_option maxHeartbeats 4000000 in
theorem lw_walk (l : Launch) (hl : l.stackTraces = false) (HW : ∀ (L : Nat) (xs : Nat → Int32), L ≤ 3072 → tz_Law L xs) (b : Addr) (xs : List Int32) : MetFree l x (headSpec (Jvm.Cond.code x code maxLocals ret :: tables_1) room_1) (lw_P b xs) (fun _ _ _ _ _ => True) lw_Q := by
  refine MetFree.of_bodyS (code := code) (maxLocals := maxLocals) (ret := ret) (by decide) ?_ ?_
  · intro args s m h hn
    obtain ⟨meth, c, h1, h2, h3, h4, h5, h6, -, -⟩ := Cond.code_spec hn (atoms_spec (ws := Jvm.Cond.code x code maxLocals ret :: tables_1) h _ List.mem_cons_self)
    exact ⟨meth, c, h1, h2, h3, h4, h5, h6⟩
  · intro p e s m args below meth c s₁ B hml0 hP _
    obtain ⟨rfl, hx, hbd, hgv⟩ := hP
    obtain ⟨scr, harrAt, hlist, hof, hsmall⟩ := hx
    obtain ⟨hcb, hkn, -, -⟩ := State.arrayAt?_spec harrAt
    have hown : s.vm.findClass "PackDeskLaw" = some m.cls := findClass_of_methodNamed B.named
    have hts0 : ∀ c ∈ (Jvm.Cond.code x code maxLocals ret :: tables_1), c.before #[Value.ref b] s = true := atoms_spec (ws := Jvm.Cond.code x code maxLocals ret :: tables_1) B.pre
    have hts : ∀ w ∈ lw_tbl, w.before #[Value.ref b] s = true := k2_hts_sels lw_privs (fun w hw => hts0 w (List.mem_cons_of_mem _ hw)) lw_privs_ok
    have hml : c.maxLocals = 7 := B.maxLocals_eq (hts0 _ List.mem_cons_self)
    have hexc : c.exceptionTable.toList = [] := by
      obtain ⟨meth', c', h1, h2, -, -, -, -, h7, -⟩ := Cond.code_spec B.named (hts0 _ List.mem_cons_self)
      cases B.method.symm.trans h1
      cases (Stand.of_body B).code.symm.trans h2
      simpa [Array.isEmpty] using h7
    have X₀ : Stand p l e room_1 s m #[Value.ref b] below meth c s₁ [] 0 0 := Stand.of_body B
    have hh0 : s₁.heap = s.heap := by rw [B.state]; rfl
    have hsz : scr.slots.size = xs.length := by rw [← Array.length_toList, hlist, List.length_map]
    have hval : ∀ j : Nat, j < xs.length → scr.slots[j]? = some (.int (xs.getD j 0)) := fun j hj => by
      rw [← Array.getElem?_toList, hlist]
      simp [hj]
    have hbl : b < s.heap.size := (Array.getElem?_eq_some_iff.mp hcb).1
    have hX : va_X b xs.length (fun j => xs.getD j 0) s s.heap := ⟨scr, hcb, hof, hkn, hsz, hval⟩
    have K : W p l e room_1 s m #[Value.ref b] below meth c s₁.heap [] 0 0 (lw_Z below #[Value.ref b] s) (entryFrame m ([Value.ref b] : List Value).toArray 7) := by
      rw [hh0]
      exact tz_start l hl tz_OKs tz_okHs ⟨B.exec, B.bytes, B.returns, hml, hown, hts, hX, hbl, B.notSynchronized, hgv, (name_of_methodNamed B.named B.method).1, hexc⟩ (HW _ _ hbd)
    obtain ⟨t, a1, o, b1, b2, b3⟩ := K s₁ rfl X₀
    exact ⟨t, o, a1, b1, b2, b3⟩
theorem lw_pre_spec {args : Array Value} {s : State} (h : (Jvm.Cond.and given_1 narrow_1).before args s = true) (hr : rest_1_c.before args s = true) : ∃ (b : Addr) (xs : List Int32), lw_P b xs args s := by
  have hs := flat_of_before _ h
  have hq := flat_of_before _ hr
  have hc : (Cond.count 1).before args s = true := hs _ (by decide +kernel)
  have harr : (Cond.arrayOf (.arg 0) .int).before args s = true := hs _ (by decide +kernel)
  have hle : (Cond.le (.length (.arg 0)) (.int 3072)).before args s = true := hs _ (by decide +kernel)
  have hlen : (Cond.isInt (.length (.arg 0))).before args s = true := hq _ (by decide +kernel)
  have hall : (Cond.all (.arg 0) (.isInt (.elem (.arg 0) (.index 0)))).before args s = true := hq _ (by decide +kernel)
  obtain ⟨b, xs, hb, hx⟩ := State.ints_of_pre rfl harr hlen hall
  have hsm : xs.length < 2 ^ 31 := hx.choose_spec.2.2.2
  have hev : (Term.length (.arg 0)).eval args s none [] s = some (.int xs.length.toInt32) := hx.length_eval hb
  have hv := Cond.le_ints hev (show (Term.int 3072).eval args s none [] s = some (.int 3072) from rfl)
  have hd : xs.length.toInt32 ≤ 3072 := by
    simpa [Cond.before, Cond.holds, hv] using hle
  have hN : xs.length ≤ 3072 := (Int32.ofNat_le_ofNat hsm (by decide)).mp (show Int32.ofNat xs.length ≤ Int32.ofNat 3072 from hd)
  exact ⟨b, xs, Cond.one_arg hc (show args[0]? = some (.ref b) from hb), hx, hN, h⟩
theorem lw_comes (l : Launch) (hl : l.stackTraces = false) (HW : ∀ (L : Nat) (xs : Nat → Int32), L ≤ 3072 → tz_Law L xs) : Comes l x (Jvm.Cond.code x code maxLocals ret :: tables_1) room_1 (fun tb e args s => Calls_1 tb e args s ∧ rest_1 tb e args s ∧ Pre_1 tb e args s)
    (fun _ _ args s o t => lw_Q args s o t) := by
  intro p e ha hc hk s m args below hf hfit hheap happ hpre
  obtain ⟨b, xs, hP⟩ := lw_pre_spec hpre.2.2 hpre.2.1
  obtain ⟨k, o, h1, h2, h3, hQ⟩ := lw_walk l hl HW b xs p e ha hc hk s m args below hf ((Spec.applies_iff_loose hf).mp happ).1 hP trivial
  exact ⟨k, o, h1, h2, h3, hQ⟩
theorem lw_frame {s t : State} {o : Outcome} {args : Array Value} (h : Framed s o t [] 601024 7293034) :
    Framed s o t (fieldLocs frame_1_writes args s ++ arrayLocs frame_1_arrays args s ++ staticLocs frame_1_statics s) 601024 7293034 := h
theorem lw_limb (HW : ∀ (L : Nat) (xs : Nat → Int32), L ≤ 3072 → tz_Law L xs) (L : Cond) (hL : ∀ (args : Array Value) (s t : State), L.after args s (.returned (some (.int 1))) t = true) :
    ArmFor flags0 classFile x code maxLocals ret World_1 tables_1 room_1 Calls_1 rest_1 Pre_1
      (fun tb e a s o t => postC L tb e a s o t ∧ Framed s o t (fieldLocs frame_1_writes a s ++ arrayLocs frame_1_arrays a s ++ staticLocs frame_1_statics s) 601024 7293034) := by
  intro l hfl _ _ p e ha hc hk s m args below hf hfit hheap happ hpre
  obtain ⟨k, o, h1, h2, h3, rfl, hF⟩ := lw_comes l (by rw [Launch.stackTraces, hfl]; decide +kernel) HW p e ha hc hk s m args below hf hfit hheap happ hpre
  exact ⟨k, _, h1, h2, h3, hL args s _, lw_frame hF⟩
theorem tz_claim (HW : ∀ (L : Nat) (xs : Nat → Int32), L ≤ 3072 → tz_Law L xs) : Claimed_1_1 ∧ Claimed_1_2 := ⟨lw_limb HW limb_1_1 (fun args s t => by simp [limb_1_1, Cond.after, Cond.holds, Cond.value]), lw_limb HW limb_1_2 (fun args s t => Cond.after_iff.mpr (by
  first | (rw [show limb_1_2 = Cond.eq .result (.int 1) from rfl, Cond.eq_ints (x := 1) (y := 1) rfl rfl]; simp; done) | (simp [limb_1_2, Cond.value, Term.eval]; done)))⟩

end
section
/-! PRINTED: the cells behind both constructors: 1 PackDesk; 2 Row 1.tape; 3 int[] 2.bytes; 4 Row 1.output; 5 int[] 4.bytes; 6 int[] 1.ready; 7 int[] 1.weights; 8 int[] 1.scaleLengths; 9 LengthMaker 1.maker; 10 int[] 9.keys; 11 long[] 9.sums; 12 long[] 9.pairs; 13 int[] 9.alone; 14 CodeSet 52.codes; 15 Code 14.fixedLiterals; 16 int[] 15.lengths; 17 int[] 15.words; 18 int[] 15.counts; 19 int[] 15.inTurn; 20 int[] 15.nextWords; 21 int[] 15.nextPlaces; 22 Code 14.fixedDistances; 23 int[] 22.lengths; 24 int[] 22.words; 25 int[] 22.counts; 26 int[] 22.inTurn; 27 int[] 22.nextWords; 28 int[] 22.nextPlaces; 29 Code 14.literals; 30 int[] 29.lengths; 31 int[] 29.words; 32 int[] 29.counts; 33 int[] 29.inTurn; 34 int[] 29.nextWords; 35 int[] 29.nextPlaces; 36 Code 14.distances; 37 int[] 36.lengths; 38 int[] 36.words; 39 int[] 36.counts; 40 int[] 36.inTurn; 41 int[] 36.nextWords; 42 int[] 36.nextPlaces; 43 Code 14.alphabet; 44 int[] 43.lengths; 45 int[] 43.words; 46 int[] 43.counts; 47 int[] 43.inTurn; 48 int[] 43.nextWords; 49 int[] 43.nextPlaces; 50 Row 52.made; 51 int[] 50.bytes; 52 Packer 1.packer; 53 PartList 52.partList; 54 int[] 53.entries; 55 BlockBook 52.book; 56 int[] 55.facts; 57 int[] 55.codeLengths; 58 Matcher 52.matcher; 59 int[] 58.latest; 60 int[] 58.earlier; 61 CodeHead 52.head; 62 int[] 61.row; 63 int[] 61.symbols; 64 int[] 61.extras; 65 int[] 61.comings; 66 int[] 52.literalComings; 67 int[] 52.distanceComings; 68 BitWriter 52.writer; 69 Unpacker 1.unpacker; 70 int[] 69.row; 71 PackDeskModel; 72 byte[] 71.tape; 73 byte[] 71.output; 74 byte[] 71.ready; 75 byte[] 71.packed; 76 byte[] 71.got; 77 int[] 71.partMany; 78 int[] 71.partBack; 79 int[] 71.partByte; 80 int[] 71.partBlock; 81 int[] 71.previous; 82 int[] 71.lastPair; 83 int[] 71.blockWay; 84 int[] 71.blockParts; 85 int[] 71.blockBytes; 86 int[] 71.blockBits; 87 int[] 71.blockFixed; 88 int[] 71.blockDynamic; 89 int[] 71.keptLit; 90 int[] 71.keptBack; 91 int[] 71.keptRow; 92 int[] 71.lengthBase; 93 int[] 71.lengthExtra; 94 int[] 71.backBase; 95 int[] 71.backExtra; 96 int[] 71.orderOf; 97 int[] 71.often; 98 int[] 71.backOften; 99 int[] 71.rowOften; 100 int[] 71.litLength; 101 int[] 71.backLength; 102 int[] 71.rowLength; 103 int[] 71.litCode; 104 int[] 71.backCodes; 105 int[] 71.rowCode; 106 int[] 71.fixLength; 107 int[] 71.fixCode; 108 int[] 71.fixBack; 109 int[] 71.fixBackCode; 110 int[] 71.symbol; 111 int[] 71.weight; 112 int[] 71.weightNew; 113 int[] 71.holds; 114 int[] 71.holdsNew; 115 int[] 71.lengthMany; 116 int[] 71.nextCode; 117 int[] 71.rowTold; 118 int[] 71.rowRest; 119 int[] 71.rowOf; 120 int[] 71.takenLit; 121 int[] 71.takenBack; 122 int[] 71.takenRow; 123 int[] 71.taken; 124 int[] 71.weights; 125 int[] 71.scale; 126 out -/
noncomputable def ly_TL : List Nat := [0, 1, 12, 1000, 12, 1000, 1000, 1000, 1000, 8, 1000, 1002, 1002, 1000, 7, 5, 1000, 1000, 1000, 1000, 1000, 1000, 5, 1000, 1000, 1000, 1000, 1000, 1000, 5, 1000, 1000, 1000, 1000, 1000, 1000, 5, 1000, 1000, 1000, 1000, 1000, 1000, 5, 1000, 1000, 1000, 1000, 1000, 1000, 12, 1000, 10, 11, 1000, 4, 1000, 1000, 9, 1000, 1000, 6, 1000, 1000, 1000, 1000, 1000, 1000, 3, 13, 1000, 2, 1003, 1003, 1003, 1003, 1003, 1000, 1000, 1000, 1000, 1000, 1000, 1000, 1000, 1000, 1000, 1000, 1000, 1000, 1000, 1000, 1000, 1000, 1000, 1000, 1000, 1000, 1000, 1000, 1000, 1000, 1000, 1000, 1000, 1000, 1000, 1000, 1000, 1000, 1000, 1000, 1000, 1000, 1000, 1000, 1000, 1000, 1000, 1000, 1000, 1000, 1000, 1000, 1000, 1000, 1002]
noncomputable def ly_T (p : Nat) : Nat := ly_TL.getD p 0
noncomputable def ly_NL : List Nat := [0, 0, 0, 6100, 0, 6100, 20, 64, 64, 0, 288, 576, 288, 576, 0, 0, 288, 288, 16, 288, 16, 16, 0, 288, 288, 16, 288, 16, 16, 0, 288, 288, 16, 288, 16, 16, 0, 288, 288, 16, 288, 16, 16, 0, 288, 288, 16, 288, 16, 16, 0, 6100, 0, 0, 6000, 0, 60, 3350, 0, 4096, 6000, 0, 316, 316, 316, 19, 286, 30, 0, 0, 316, 0, 6000, 6200, 20, 8000, 6000, 6000, 6000, 6000, 6000, 6000, 65536, 12, 12, 12, 12, 12, 12, 3456, 360, 228, 29, 29, 30, 30, 19, 288, 30, 19, 288, 30, 19, 288, 30, 19, 288, 288, 30, 30, 288, 600, 600, 172800, 172800, 17, 17, 330, 330, 330, 288, 32, 19, 330, 64, 64, 1]
noncomputable def ly_N (p : Nat) : Nat := ly_NL.getD p 0
noncomputable def ly_RL : List (List Nat) := [[], [2, 4, 6, 7, 8, 9, 52, 69], [3], [], [5], [], [], [], [], [10, 11, 12, 13], [], [], [], [], [15, 22, 29, 36, 43], [16, 17, 18, 19, 0, 20, 21], [], [], [], [], [], [], [23, 24, 25, 26, 0, 27, 28], [], [], [], [], [], [], [30, 31, 32, 33, 0, 34, 35], [], [], [], [], [], [], [37, 38, 39, 40, 0, 41, 42], [], [], [], [], [], [], [44, 45, 46, 47, 0, 48, 49], [], [], [], [], [], [], [51], [], [50, 53, 55, 14, 9, 68, 58, 61, 66, 67], [54], [], [56, 57], [], [], [59, 60], [], [], [62, 0, 0, 63, 64, 0, 65], [], [], [], [], [], [], [50], [50, 0, 0, 0, 14, 70], [], [0, 72, 73, 74, 75, 76, 0, 0, 77, 78, 79, 80, 81, 82, 0, 0, 0, 0, 0, 83, 84, 85, 86, 87, 88, 89, 90, 91, 92, 93, 94, 95, 96, 97, 98, 99, 100, 101, 102, 103, 104, 105, 106, 107, 108, 109, 110, 111, 112, 113, 114, 115, 116, 117, 118, 119, 0, 0, 0, 0, 0, 0, 0, 0, 120, 121, 122, 123, 124, 125], [], [], [], [], [], [], [], [], [], [], [], [], [], [], [], [], [], [], [], [], [], [], [], [], [], [], [], [], [], [], [], [], [], [], [], [], [], [], [], [], [], [], [], [], [], [], [], [], [], [], [], [], [], [], []]
noncomputable def ly_R (p k : Nat) : Nat := (ly_RL.getD p []).getD k 0
/-- the heap: n cells made, u slots used, the ints and longs -/
noncomputable def ly (n u : Nat) (I : Nat → Nat → Int32) (J : Nat → Nat → Int64) : ez_H := (n, u, ly_T, ly_N, I, J, ly_R)
end
section
/-! PURE WALKS -/
section PW
variable {E : Nat → Nat × (Nat → Int32)} {d : Nat}
abbrev pw (E : Nat → Nat × (Nat → Int32)) : ez_X := ez_Wp E tz_ml tz_hn tz_co
/-- Arrays.fill: every place -/
noncomputable def pf_fill (f : Nat → Int32) (n : Nat) (v : Int32) : Nat → Int32 := fun j => if j < n then v else f j
theorem pf_fill_step {h : ez_H} {p i : Nat} {v : Int32} : ez_setI (ez_rowI h p (pf_fill (ez_I h p) i v)) p i v = ez_rowI h p (pf_fill (ez_I h p) (i + 1) v) := by
  unfold ez_setI ez_rowI
  simp only [ez_n, ez_u, ez_t, ez_l, ez_I, ez_L, ez_R]
  congr 5
  funext q j
  unfold ez_up2 ez_row pf_fill
  by_cases hq : q = p
  · subst hq
    by_cases hj : j = i
    · subst hj; simp
    · have : (j < i + 1) = (j < i) := by simp; omega
      simp [hj, this]
  · simp [hq]
theorem wp_fill_loop {h : ez_H} {p : Nat} {v : Int32} {Q : ez_Q} (ht : ez_t h p = 1000) (hl : ez_l h p ≤ 200000) (hQ : Q (.inl none) (ez_rowI h p (pf_fill (ez_I h p) (ez_l h p) v))) :
    ∀ (n i : Nat), i + n = ez_l h p → pw E d 148 5 [some (.ref p), some (.int v), some (.int (nI i)), some (.int (nI (ez_l h p)))] [] (ez_rowI h p (pf_fill (ez_I h p) i v)) Q := by
  intro n
  induction n with
  | zero =>
    intro i hi
    have : i = ez_l h p := by omega
    subst this
    apply ez_Wp_in
    show ez_gw _ _ _ _ _ _ cz_148 _ _ _ _ _
    refine ⟨fun c => ?_, fun c => ?_⟩
    · exact ⟨trivial, hQ⟩
    · exact absurd (nI_le (Nat.le_refl _) (by omega)) c
  | succ n ih =>
    intro i hi
    apply ez_Wp_in
    show ez_gw _ _ _ _ _ _ cz_148 _ _ _ _ _
    refine ⟨fun c => ?_, fun c => ?_⟩
    · exact absurd c (nI_ge (by omega) (by omega))
    · refine ⟨⟨ht, vp_in_nI (by show i < ez_l h p; omega) (by show ez_l h p < 2147483648; omega)⟩, ?_⟩
      have e1 : (nI i).toNatClampNeg = i := nI_clamp (by omega)
      have := ih (i + 1) (by omega)
      rw [← pf_fill_step, nI_succ] at this
      show pw E d 148 5 [some (.ref p), some (.int v), some (.int (nI i + 1)), some (.int (nI (ez_l h p)))] [] (ez_setI (ez_rowI h p (pf_fill (ez_I h p) i v)) p (nI i).toNatClampNeg v) Q
      rw [e1]
      exact this
end PW
end
section
/-! the model's findParts on an empty tape -/
section FP
variable {E : Nat → Nat × (Nat → Int32)} {d : Nat}
theorem wp_fp_loop {h : ez_H} {p q : Nat} {Q : ez_Q} (ht : ez_t h p = 2) (hq : ez_R h p 13 = q) (hq0 : q ≠ 0) (tq : ez_t h q = 1000) (lq : ez_l h q = 65536) (h6 : ez_I h p 6 = 0) (hpq : p ≠ q) (hQ : Q (.inl none) (ez_setI (ez_rowI h q (pf_fill (ez_I h q) 65536 (-1))) p 14 0)) :
    ∀ (n i : Nat), i + n = 65536 → pw E d 32 2 [some (.ref p), some (.int (nI i)), none, none] [] (ez_rowI h q (pf_fill (ez_I h q) i (-1))) Q := by
  intro n
  induction n with
  | zero =>
    intro i hi
    have : i = 65536 := by omega
    subst this
    have e6 : ez_I (ez_rowI h q (pf_fill (ez_I h q) 65536 (-1))) p 6 = 0 := by
      show ez_row (ez_I h) q (pf_fill (ez_I h q) 65536 (-1)) p 6 = 0
      unfold ez_row
      simp only [hpq, ↓reduceIte]
      exact h6
    apply ez_Wp_in
    show ez_gw _ _ _ _ _ _ cz_32 _ _ _ _ _
    refine ⟨fun c => ?_, fun c => ?_⟩
    · refine ⟨ht, fun c => ?_, fun c => ?_⟩
      · refine ⟨ht, fun c => ?_, fun c => ?_⟩
        · refine ⟨ht, ht, fun c => ⟨trivial, hQ⟩, fun c => ?_⟩
          exact absurd (show (0 : Int32) ≥ ez_I (ez_setI (ez_rowI h q (pf_fill (ez_I h q) 65536 (-1))) p 14 0) p 6 by
            show ez_up2 (ez_I (ez_rowI h q (pf_fill (ez_I h q) 65536 (-1)))) p 14 0 p 6 ≤ 0
            unfold ez_up2
            simp only [↓reduceIte]
            rw [if_neg (by decide), e6]
            decide) c
        · exact absurd (show ez_I (ez_rowI h q (pf_fill (ez_I h q) 65536 (-1))) p 6 ≤ 0 by rw [e6]; decide) c
      · exact absurd (show (0 : Int32) + 1 ≥ ez_I (ez_rowI h q (pf_fill (ez_I h q) 65536 (-1))) p 6 by rw [e6]; decide) c
    · exact absurd (by decide) c
  | succ n ih =>
    intro i hi
    apply ez_Wp_in
    show ez_gw _ _ _ _ _ _ cz_32 _ _ _ _ _
    refine ⟨fun c => ?_, fun c => ?_⟩
    · exact absurd c (nI_ge (b := 65536) (by omega) (by omega))
    · refine ⟨⟨ht, by show ez_R h p 13 ≠ 0; rw [hq]; exact hq0⟩, ?_⟩
      rw [show ez_R (ez_rowI h q (pf_fill (ez_I h q) i (-1))) p 13 = q from hq]
      refine ⟨⟨tq, vp_in_nI (by show i < ez_l h q; omega) (by show ez_l h q < 2147483648; omega)⟩, ?_⟩
      have e1 : (nI i).toNatClampNeg = i := nI_clamp (by omega)
      have := ih (i + 1) (by omega)
      rw [← pf_fill_step, nI_succ] at this
      show pw E d 32 2 [some (.ref p), some (.int (nI i + 1)), none, none] [] (ez_setI (ez_rowI h q (pf_fill (ez_I h q) i (-1))) q (nI i).toNatClampNeg (-1)) Q
      rw [e1]
      exact this
theorem pf_fill_0 {h : ez_H} {p : Nat} {v : Int32} : ez_rowI h p (pf_fill (ez_I h p) 0 v) = h := by
  obtain ⟨a1, a2, a3, a4, a5, a6, a7⟩ := h
  unfold ez_rowI ez_row pf_fill
  simp only [ez_n, ez_u, ez_t, ez_l, ez_I, ez_L, ez_R, Nat.not_lt_zero, ↓reduceIte]
  congr 5
  funext q
  by_cases hq : q = p <;> simp [hq]
end FP
end
section
/-! AN EVALUATOR OF THE PURE MACHINE, for runs of which all but some ints is known. A value: num n: the int of these 32 bits; add (num a) (num b): an int between (told from the least int on); var p: an own cell; mul (num j) _: an outer array; mul (var n) _: the long of these 64 bits. A heap is a tree by the bits of the cell's number, a cell mul (add tag length) (add ints (add longs references)), each a tree by the bits of the place; a leaf stands for all below it. All is told on by continuations, so that the kernel holds no work put off. -/
abbrev ev_X : Type := Nat.Internal.SOM.Expr
abbrev ev_S : Type := Nat × Nat × ev_X
abbrev ev_R : Type := Option ((Option ev_X ⊕ Nat) × ev_S)
noncomputable def ev_u (x : Int32) : Nat := x.toBitVec.toNat
noncomputable def ev_w (x : Int64) : Nat := x.toBitVec.toNat
noncomputable def ev_i (n : Nat) : Int32 := Int32.ofBitVec (BitVec.ofNat 32 n)
noncomputable def ev_j (n : Nat) : Int64 := Int64.ofBitVec (BitVec.ofNat 64 n)
noncomputable def ev_n (x : ev_X) : Nat := match x with
  | .num n => n
  | _ => 0
/-- told from the least int on -/
noncomputable def ev_e (n : Nat) : Nat := Nat.mod (Nat.add n 2147483648) 4294967296
noncomputable def ev_lo (x : ev_X) : Nat := match x with
  | .num n => ev_e n
  | .add a _ => ev_n a
  | _ => 0
noncomputable def ev_hi (x : ev_X) : Nat := match x with
  | .num n => ev_e n
  | .add _ b => ev_n b
  | _ => 4294967295
noncomputable def ev_top : ev_X := .add (.num 0) (.num 4294967295)
/-- a number is worked out before it goes on -/
noncomputable def ev_f {α : Type} (n : Nat) (c : Nat → α) : α := match n with
  | Nat.zero => c Nat.zero
  | Nat.succ m => c (Nat.succ m)
/-- a tree's leaf at a place -/
noncomputable def ev_g (t : ev_X) : Nat → Nat := Nat.Internal.SOM.Expr.rec (motive := fun _ => Nat → Nat) (fun v _ => v) (fun _ _ => 0) (fun _ _ il ir k => cond (Nat.beq (Nat.mod k 2) 0) (il (Nat.div k 2)) (ir (Nat.div k 2))) (fun _ _ _ _ _ => 0) t
/-- a cell by its number -/
noncomputable def ev_gc (t : ev_X) : Nat → ev_X := Nat.Internal.SOM.Expr.rec (motive := fun _ => Nat → ev_X) (fun _ _ => .num 0) (fun _ _ => .num 0) (fun _ _ il ir k => cond (Nat.beq (Nat.mod k 2) 0) (il (Nat.div k 2)) (ir (Nat.div k 2))) (fun a b _ _ _ => .mul a b) t
/-- a tree with another leaf at a place -/
noncomputable def ev_s {α : Type} (D : Nat) : ev_X → Nat → ev_X → (ev_X → α) → α := Nat.rec (motive := fun _ => ev_X → Nat → ev_X → (ev_X → α) → α) (fun _ _ v c => c v) (fun _ ih t k v c => match t with
  | .add l r => cond (Nat.beq (Nat.mod k 2) 0) (ih l (Nat.div k 2) v (fun l' => c (.add l' r))) (ih r (Nat.div k 2) v (fun r' => c (.add l r')))
  | w => cond (Nat.beq (Nat.mod k 2) 0) (ih w (Nat.div k 2) v (fun l' => c (.add l' w))) (ih w (Nat.div k 2) v (fun r' => c (.add w r')))) D
/-- how deep a cell's trees are -/
noncomputable def ev_dp (tag len : Nat) : Nat := cond (Nat.blt tag 1000) 7 (Nat.succ (Nat.log2 len))
/-- a cell is opened: tag, length, ints, longs, references -/
noncomputable def ev_op1 {α : Type} (w : ev_X) (c : Nat → Nat → ev_X → ev_X → ev_X → Option α) : Option α := match w with
  | .mul (.add (.num tag) (.num len)) (.add ai (.add al ar)) => c tag len ai al ar
  | _ => none
noncomputable def ev_cl (S : ev_S) (p : Nat) (c : Nat → Nat → ev_X → ev_X → ev_X → ev_R) : ev_R := cond (Nat.blt p 128) (ev_op1 (ev_gc S.2.2 p) c) none
noncomputable def ev_pc (S : ev_S) (p tag len : Nat) (ai al ar : ev_X) (c : ev_S → ev_R) : ev_R := ev_s 7 S.2.2 p (.mul (.add (.num tag) (.num len)) (.add ai (.add al ar))) (fun t => c (S.1, S.2.1, t))
/-- an int of the heap: unknown from 2^32 on -/
noncomputable def ev_hv {α : Type} (n : Nat) (c : ev_X → α) : α := cond (Nat.blt n 4294967296) (c (.num n)) (c ev_top)
/-- ints by their bits -/
noncomputable def ev_b1 (g : Int32 → Int32) (st : List ev_X) (c : List ev_X → ev_R) : ev_R := match st with
  | .num n :: r => ev_f (ev_u (g (ev_i n))) (fun q => c (.num q :: r))
  | .add _ _ :: r => c (ev_top :: r)
  | _ => none
noncomputable def ev_b2 (f : Nat → Nat → Nat) (st : List ev_X) (c : List ev_X → ev_R) : ev_R := match st with
  | .num m :: .num n :: r => ev_f (f n m) (fun q => c (.num q :: r))
  | .add _ _ :: .num _ :: r => c (ev_top :: r)
  | .num _ :: .add _ _ :: r => c (ev_top :: r)
  | .add _ _ :: .add _ _ :: r => c (ev_top :: r)
  | _ => none
noncomputable def ev_l2 (g : Int64 → Int64 → Int64) (st : List ev_X) (c : List ev_X → ev_R) : ev_R := match st with
  | .mul (.var m) _ :: .mul (.var n) _ :: r => ev_f (ev_w (g (ev_j n) (ev_j m))) (fun q => c (.mul (.var q) (.num 0) :: r))
  | _ => none
noncomputable def ev_isI (y : ev_X) (c : ev_R) : ev_R := match y with
  | .num _ => c
  | .add _ _ => c
  | _ => none
/-- a local -/
noncomputable def ev_nth (ls : List (Option ev_X)) : Nat → Option ev_X := List.rec (motive := fun _ => Nat → Option ev_X) (fun _ => none) (fun a _ ih k => match k with
  | Nat.zero => a
  | Nat.succ k => ih k) ls
noncomputable def ev_ldI (x : Option ev_X) (st : List ev_X) (c : List ev_X → ev_R) : ev_R := match x with
  | some (.num n) => c (.num n :: st)
  | some (.add a b) => c (.add a b :: st)
  | _ => none
noncomputable def ev_ldL (x : Option ev_X) (st : List ev_X) (c : List ev_X → ev_R) : ev_R := match x with
  | some (.mul (.var n) e) => c (.mul (.var n) e :: st)
  | _ => none
noncomputable def ev_ldA (x : Option ev_X) (st : List ev_X) (c : List ev_X → ev_R) : ev_R := match x with
  | some (.var p) => c (.var p :: st)
  | some (.mul (.num j) e) => c (.mul (.num j) e :: st)
  | _ => none
/-- a local is set -/
noncomputable def ev_lset (ls : List (Option ev_X)) : Nat → Option ev_X → (List (Option ev_X) → ev_R) → ev_R := List.rec (motive := fun _ => Nat → Option ev_X → (List (Option ev_X) → ev_R) → ev_R) (fun _ _ c => c []) (fun a r ih k v c => match k with
  | Nat.zero => c (v :: r)
  | Nat.succ k => ih k v (fun r' => c (a :: r'))) ls
noncomputable def ev_cut (ls : List (Option ev_X)) (k : Nat) (c : List (Option ev_X) → ev_R) : ev_R := match k with
  | Nat.zero => c ls
  | Nat.succ j => match ev_nth ls j with
    | some (.mul (.var _) _) => ev_lset ls j none c
    | _ => c ls
noncomputable def ev_ss (ls : List (Option ev_X)) (k : Nat) (v : ev_X) (c : List (Option ev_X) → ev_R) : ev_R := ev_cut ls k (fun l => ev_lset l k (some v) c)
noncomputable def ev_stI (k : Nat) (ls : List (Option ev_X)) (st : List ev_X) (c : List (Option ev_X) → List ev_X → ev_R) : ev_R := match st with
  | .num n :: r => ev_ss ls k (.num n) (fun l => c l r)
  | .add a b :: r => ev_ss ls k (.add a b) (fun l => c l r)
  | _ => none
noncomputable def ev_stL (k : Nat) (ls : List (Option ev_X)) (st : List ev_X) (c : List (Option ev_X) → List ev_X → ev_R) : ev_R := match st with
  | .mul (.var n) e :: r => ev_ss ls k (.mul (.var n) e) (fun l => ev_lset l (Nat.succ k) none (fun l => c l r))
  | _ => none
noncomputable def ev_stA (k : Nat) (ls : List (Option ev_X)) (st : List ev_X) (c : List (Option ev_X) → List ev_X → ev_R) : ev_R := match st with
  | .var p :: r => ev_ss ls k (.var p) (fun l => c l r)
  | .mul (.num j) e :: r => ev_ss ls k (.mul (.num j) e) (fun l => c l r)
  | _ => none
/-- what a branch asks: if it is known -/
noncomputable def ev_lt (x y : ev_X) (t f : ev_R) : ev_R := cond (Nat.blt (ev_hi x) (ev_lo y)) t (cond (Nat.ble (ev_hi y) (ev_lo x)) f none)
noncomputable def ev_eq (x y : ev_X) (t f : ev_R) : ev_R := cond (Nat.blt (ev_hi x) (ev_lo y)) f (cond (Nat.blt (ev_hi y) (ev_lo x)) f (cond (and (Nat.ble (ev_hi x) (ev_lo y)) (Nat.ble (ev_hi y) (ev_lo x))) t none))
noncomputable def ev_cmp (o : ClassFile.Cond) (x y : ev_X) (t f : ev_R) : ev_R := match o with
  | .eq => ev_eq x y t f
  | .ne => ev_eq x y f t
  | .lt => ev_lt x y t f
  | .ge => ev_lt x y f t
  | .gt => ev_lt y x t f
  | .le => ev_lt y x f t
/-- an object of a class, a field of it; an array of a kind, a place of it: its length and trees -/
noncomputable def ev_ob (S : ev_S) (p a b : Nat) (c : Nat → ev_X → ev_X → ev_X → ev_R) : ev_R := ev_cl S p (fun tag len ai al ar => cond (and (Nat.beq tag a) (and (Nat.blt a 1000) (Nat.blt b 128))) (c len ai al ar) none)
noncomputable def ev_ra (S : ev_S) (p a n : Nat) (c : Nat → ev_X → ev_X → ev_X → ev_R) : ev_R := ev_cl S p (fun tag len ai al ar => cond (and (Nat.beq tag a) (and (Nat.blt n len) (Nat.ble len 200000))) (c len ai al ar) none)
noncomputable def ev_gf (a b k : Nat) (st : List ev_X) (S : ev_S) (c : List ev_X → ev_S → ev_R) : ev_R := match st with
  | .var p :: r => ev_ob S p a b (fun _ ai al ar => match k with
    | 0 => ev_f (ev_g ai b) (fun n => ev_hv n (fun x => c (x :: r) S))
    | 1 => ev_f (ev_g ai b) (fun n => ev_hv n (fun x => c (x :: r) S))
    | 2 => ev_f (ev_g al b) (fun n => c (.mul (.var n) (.num 0) :: r) S)
    | 3 => ev_f (ev_g ar b) (fun n => cond (Nat.beq n 0) none (c (.var n :: r) S))
    | j + 4 => ev_f (ev_g ar b) (fun n => cond (Nat.beq n (Nat.succ j)) (c (.var n :: r) S) none))
  | _ => none
noncomputable def ev_pf0 (a b : Nat) (st : List ev_X) (S : ev_S) (c : List ev_X → ev_S → ev_R) : ev_R := match st with
  | .num x :: .var p :: r => ev_ob S p a b (fun len ai al ar => ev_s 7 ai b (.num x) (fun ai => ev_pc S p a len ai al ar (fun S => c r S)))
  | .add _ _ :: .var p :: r => ev_ob S p a b (fun len ai al ar => ev_s 7 ai b (.num 4294967296) (fun ai => ev_pc S p a len ai al ar (fun S => c r S)))
  | _ => none
noncomputable def ev_pf1 (a b : Nat) (st : List ev_X) (S : ev_S) (c : List ev_X → ev_S → ev_R) : ev_R := match st with
  | .num x :: .var p :: r => cond (Nat.ble x 1) (ev_ob S p a b (fun len ai al ar => ev_s 7 ai b (.num x) (fun ai => ev_pc S p a len ai al ar (fun S => c r S)))) none
  | _ => none
noncomputable def ev_pf3 (a b : Nat) (st : List ev_X) (S : ev_S) (c : List ev_X → ev_S → ev_R) : ev_R := match st with
  | .var q :: .var p :: r => cond (Nat.blt 0 q) (ev_ob S p a b (fun len ai al ar => ev_s 7 ar b (.num q) (fun ar => ev_pc S p a len ai al ar (fun S => c r S)))) none
  | _ => none
noncomputable def ev_pf (a b k : Nat) (st : List ev_X) (S : ev_S) (c : List ev_X → ev_S → ev_R) : ev_R := match k with
  | 0 => ev_pf0 a b st S c
  | 1 => ev_pf1 a b st S c
  | 2 => none
  | _ + 3 => ev_pf3 a b st S c
noncomputable def ev_sc (sc : List ev_X) (n : Nat) (c : ev_X → ev_R) : ev_R := match sc.getD n (.var 0) with
  | .num x => c (.num x)
  | .add x y => c (.add x y)
  | _ => none
noncomputable def ev_ia (sc : List ev_X) (ar : Nat → List Int32) (st : List ev_X) (S : ev_S) (c : List ev_X → ev_S → ev_R) : ev_R := match st with
  | .num n :: .var p :: r => ev_ra S p 1000 n (fun _ ai _ _ => ev_f (ev_g ai n) (fun n => ev_hv n (fun x => c (x :: r) S)))
  | .num n :: .mul (.num j) _ :: r => (match j with
    | Nat.zero => cond (and (Nat.blt n sc.length) (Nat.ble sc.length 200000)) (ev_sc sc n (fun x => c (x :: r) S)) none
    | Nat.succ j => cond (and (Nat.blt n (ar (Nat.succ j)).length) (Nat.ble (ar (Nat.succ j)).length 200000)) (ev_f (ev_u ((ar (Nat.succ j)).getD n 0)) (fun x => c (.num x :: r) S)) none)
  | _ => none
noncomputable def ev_ba (st : List ev_X) (S : ev_S) (c : List ev_X → ev_S → ev_R) : ev_R := match st with
  | .num n :: .var p :: r => ev_ra S p 1003 n (fun _ ai _ _ => ev_f (ev_g ai n) (fun n => ev_hv n (fun x => c (x :: r) S)))
  | _ => none
noncomputable def ev_la (st : List ev_X) (S : ev_S) (c : List ev_X → ev_S → ev_R) : ev_R := match st with
  | .num n :: .var p :: r => ev_ra S p 1002 n (fun _ _ al _ => ev_f (ev_g al n) (fun x => c (.mul (.var x) (.num 0) :: r) S))
  | _ => none
noncomputable def ev_is (st : List ev_X) (S : ev_S) (c : List ev_X → ev_S → ev_R) : ev_R := match st with
  | .num y :: .num n :: .var p :: r => ev_ra S p 1000 n (fun len ai al ar => ev_s (ev_dp 1000 len) ai n (.num y) (fun ai => ev_pc S p 1000 len ai al ar (fun S => c r S)))
  | .add _ _ :: .num n :: .var p :: r => ev_ra S p 1000 n (fun len ai al ar => ev_s (ev_dp 1000 len) ai n (.num 4294967296) (fun ai => ev_pc S p 1000 len ai al ar (fun S => c r S)))
  | _ => none
noncomputable def ev_bs (st : List ev_X) (S : ev_S) (c : List ev_X → ev_S → ev_R) : ev_R := match st with
  | .num y :: .num n :: .var p :: r => ev_ra S p 1003 n (fun len ai al ar => ev_f (ev_u (ev_i y).toInt8.toInt32) (fun y => ev_s (ev_dp 1003 len) ai n (.num y) (fun ai => ev_pc S p 1003 len ai al ar (fun S => c r S))))
  | .add _ _ :: .num n :: .var p :: r => ev_ra S p 1003 n (fun len ai al ar => ev_s (ev_dp 1003 len) ai n (.num 4294967296) (fun ai => ev_pc S p 1003 len ai al ar (fun S => c r S)))
  | _ => none
noncomputable def ev_lt2 (st : List ev_X) (S : ev_S) (c : List ev_X → ev_S → ev_R) : ev_R := match st with
  | .mul (.var y) _ :: .num n :: .var p :: r => ev_ra S p 1002 n (fun len ai al ar => ev_s (ev_dp 1002 len) al n (.num y) (fun al => ev_pc S p 1002 len ai al ar (fun S => c r S)))
  | _ => none
noncomputable def ev_al (sc : List ev_X) (ar : Nat → List Int32) (st : List ev_X) (S : ev_S) (c : List ev_X → ev_S → ev_R) : ev_R := match st with
  | .var p :: r => ev_cl S p (fun tag len _ _ _ => cond (and (or (Nat.beq tag 1000) (or (Nat.beq tag 1002) (Nat.beq tag 1003))) (Nat.ble len 200000)) (c (.num len :: r) S) none)
  | .mul (.num j) _ :: r => (match j with
    | Nat.zero => cond (and (Nat.blt 0 sc.length) (Nat.ble sc.length 200000)) (ev_f sc.length (fun n => c (.num n :: r) S)) none
    | Nat.succ j => cond (Nat.ble (ar (Nat.succ j)).length 200000) (ev_f (ar (Nat.succ j)).length (fun n => c (.num n :: r) S)) none)
  | _ => none
noncomputable def ev_dv (st : List ev_X) (S : ev_S) (c : List ev_X → ev_S → ev_R) : ev_R := match st with
  | .num m :: .num n :: r => cond (Nat.beq m 0) none (ev_f (ev_u (ev_i n / ev_i m)) (fun q => c (.num q :: r) S))
  | _ => none
noncomputable def ev_rm (st : List ev_X) (S : ev_S) (c : List ev_X → ev_S → ev_R) : ev_R := match st with
  | .num m :: .num n :: r => cond (Nat.beq m 0) none (ev_f (ev_u (ev_i n - ev_i n / ev_i m * ev_i m)) (fun q => c (.num q :: r) S))
  | _ => none
/-- a new cell -/
noncomputable def ev_nw (tag len sl : Nat) (S : ev_S) (c : Nat → ev_S → ev_R) : ev_R := cond (and (Nat.ble (Nat.add S.1 2) 128) (Nat.ble (Nat.add S.2.1 sl) ez_MS)) (ev_f (Nat.succ S.1) (fun p => ev_f (Nat.add S.2.1 sl) (fun u => ev_s 7 S.2.2 p (.mul (.add (.num tag) (.num len)) (.add (.num 0) (.add (.num 0) (.num 0)))) (fun t => c p (p, u, t))))) none
noncomputable def ev_na (a : Nat) (st : List ev_X) (S : ev_S) (c : List ev_X → ev_S → ev_R) : ev_R := match st with
  | .num n :: r => cond (Nat.ble n 200000) (ev_nw a n n S (fun p S => c (.var p :: r) S)) none
  | _ => none
/-- the stack below a call weighs little -/
noncomputable def ev_ct (x : ev_X) : Nat := match x with
  | .mul (.var _) _ => 2
  | _ => 1
noncomputable def ev_few (st : List ev_X) : Bool := Nat.ble ((st.map ev_ct).sum) 8
noncomputable def ev_in (st : List ev_X) (S : ev_S) (c : List ev_X → ev_S → ev_R) : ev_R := match st with
  | .var _ :: r => cond (ev_few r) (c r S) none
  | _ => none
noncomputable def ev_max (st : List ev_X) (S : ev_S) (c : List ev_X → ev_S → ev_R) : ev_R := match st with
  | .num m :: .num n :: r => cond (ev_few r) (cond (Nat.blt (ev_e n) (ev_e m)) (c (.num m :: r) S) (c (.num n :: r) S)) none
  | _ => none
noncomputable def ev_min (st : List ev_X) (S : ev_S) (c : List ev_X → ev_S → ev_R) : ev_R := match st with
  | .num m :: .num n :: r => cond (ev_few r) (cond (Nat.blt (ev_e m) (ev_e n)) (c (.num m :: r) S) (c (.num n :: r) S)) none
  | _ => none
/-- ints are copied -/
noncomputable def ev_cp (D : Nat) (src : ev_X) (sp dp n : Nat) : ev_X → (ev_X → ev_R) → ev_R := Nat.rec (motive := fun _ => ev_X → (ev_X → ev_R) → ev_R) (fun t c => c t) (fun i ih t c => ev_f (ev_g src (Nat.add sp i)) (fun v => ev_s D t (Nat.add dp i) (.num v) (fun t => ih t c))) n
noncomputable def ev_ac (st : List ev_X) (S : ev_S) (c : List ev_X → ev_S → ev_R) : ev_R := match st with
  | .num n :: .num dp :: .var q :: .num sp :: .var p :: r => cond (ev_few r) (ev_cl S p (fun tag len ai _ _ => cond (and (Nat.beq tag 1000) (and (Nat.ble (Nat.add sp n) len) (Nat.ble len 200000))) (ev_cl S q (fun tag' len' ai' al' ar' => cond (and (Nat.beq tag' 1000) (and (Nat.ble (Nat.add dp n) len') (Nat.ble len' 200000))) (ev_cp (ev_dp 1000 len') ai sp dp n ai' (fun ai' => ev_pc S q 1000 len' ai' al' ar' (fun S => c r S))) none)) none)) none
  | _ => none
/-- what an instruction is to the evaluator: the script, what goes on behind it, a jump, a call; locals, stack, heap -/
abbrev ev_L : Type := List (Option ev_X)
abbrev ev_N : Type := ev_L → List ev_X → ev_S → ev_R
abbrev ev_F : Type := List ev_X → ev_N → (Nat → ev_N) → (Nat → Nat → Nat → Nat → ev_N) → ev_N
noncomputable def eh_C (n : Nat) : ev_F := fun _ nx _ _ ls st S => nx ls (.num n :: st) S
noncomputable def eh_J (n : Nat) : ev_F := fun _ nx _ _ ls st S => nx ls (.mul (.var n) (.num 0) :: st) S
noncomputable def eh_1 (g : Int32 → Int32) : ev_F := fun _ nx _ _ ls st S => ev_b1 g st (fun st => nx ls st S)
noncomputable def eh_2 (f : Nat → Nat → Nat) : ev_F := fun _ nx _ _ ls st S => ev_b2 f st (fun st => nx ls st S)
noncomputable def eh_l2 (g : Int64 → Int64 → Int64) : ev_F := fun _ nx _ _ ls st S => ev_l2 g st (fun st => nx ls st S)
noncomputable def ef_add (n m : Nat) : Nat := Nat.mod (Nat.add n m) 4294967296
noncomputable def ef_sub (n m : Nat) : Nat := Nat.mod (Nat.add n (Nat.sub 4294967296 m)) 4294967296
noncomputable def ef_mul (n m : Nat) : Nat := Nat.mod (Nat.mul n m) 4294967296
noncomputable def ef_and (n m : Nat) : Nat := Nat.land n m
noncomputable def ef_or (n m : Nat) : Nat := Nat.lor n m
noncomputable def ef_xor (n m : Nat) : Nat := Nat.xor n m
noncomputable def ef_shl (n m : Nat) : Nat := ev_u (ev_i n <<< (ev_i m &&& 31))
noncomputable def ef_shr (n m : Nat) : Nat := ev_u (ev_i n >>> (ev_i m &&& 31))
noncomputable def ef_ushr (n m : Nat) : Nat := ev_u (((ev_i n).toUInt32 >>> ((ev_i m).toUInt32 &&& Int32.toUInt32 31)).toInt32)
noncomputable def ef_i2b (x : Int32) : Int32 := x.toInt8.toInt32
noncomputable def ef_neg (x : Int32) : Int32 := -x
noncomputable def ef_ladd (x y : Int64) : Int64 := x + y
noncomputable def ef_lsub (x y : Int64) : Int64 := x - y
noncomputable def ef_lmul (x y : Int64) : Int64 := x * y
noncomputable def eh_i2l : ev_F := fun _ nx _ _ ls st S => match st with
  | .num n :: r => ev_f (ev_w (ev_i n).toInt64) (fun q => nx ls (.mul (.var q) (.num 0) :: r) S)
  | _ => none
noncomputable def eh_l2i : ev_F := fun _ nx _ _ ls st S => match st with
  | .mul (.var n) _ :: r => ev_f (ev_u (ev_j n).toInt32) (fun q => nx ls (.num q :: r) S)
  | _ => none
noncomputable def eh_lcmp : ev_F := fun _ nx _ _ ls st S => match st with
  | .mul (.var m) _ :: .mul (.var n) _ :: r => ev_f (ev_u (lg_cmp (ev_j n) (ev_j m))) (fun q => nx ls (.num q :: r) S)
  | _ => none
noncomputable def eh_dup : ev_F := fun _ nx _ _ ls st S => match st with
  | .num n :: r => nx ls (.num n :: .num n :: r) S
  | .add a b :: r => nx ls (.add a b :: .add a b :: r) S
  | .var p :: r => nx ls (.var p :: .var p :: r) S
  | _ => none
noncomputable def eh_dup2 : ev_F := fun _ nx _ _ ls st S => match st with
  | y :: .var p :: r => ev_isI y (nx ls (y :: .var p :: y :: .var p :: r) S)
  | y :: .num n :: r => ev_isI y (nx ls (y :: .num n :: y :: .num n :: r) S)
  | _ => none
noncomputable def eh_dupx : ev_F := fun _ nx _ _ ls st S => match st with
  | y :: .var p :: r => ev_isI y (nx ls (y :: .var p :: y :: r) S)
  | y :: .num n :: r => ev_isI y (nx ls (y :: .num n :: y :: r) S)
  | _ => none
noncomputable def eh_pop : ev_F := fun _ nx _ _ ls st S => match st with
  | .num _ :: r => nx ls r S
  | .add _ _ :: r => nx ls r S
  | .var _ :: r => nx ls r S
  | _ => none
noncomputable def eh_li (k : Nat) : ev_F := fun _ nx _ _ ls st S => ev_ldI (ev_nth ls k) st (fun st => nx ls st S)
noncomputable def eh_ll (k : Nat) : ev_F := fun _ nx _ _ ls st S => ev_ldL (ev_nth ls k) st (fun st => nx ls st S)
noncomputable def eh_la (k : Nat) : ev_F := fun _ nx _ _ ls st S => ev_ldA (ev_nth ls k) st (fun st => nx ls st S)
noncomputable def eh_si (k : Nat) : ev_F := fun _ nx _ _ ls st S => ev_stI k ls st (fun ls st => nx ls st S)
noncomputable def eh_sl (k : Nat) : ev_F := fun _ nx _ _ ls st S => ev_stL k ls st (fun ls st => nx ls st S)
noncomputable def eh_sa (k : Nat) : ev_F := fun _ nx _ _ ls st S => ev_stA k ls st (fun ls st => nx ls st S)
noncomputable def eh_inc (k n : Nat) : ev_F := fun _ nx _ _ ls st S => match ev_nth ls k with
  | some (.num m) => ev_f (ef_add m n) (fun q => ev_ss ls k (.num q) (fun ls => nx ls st S))
  | some (.add _ _) => ev_ss ls k ev_top (fun ls => nx ls st S)
  | _ => none
noncomputable def eh_b1 (o : ClassFile.Cond) (t : Nat) : ev_F := fun _ nx to _ ls st S => match st with
  | x :: r => ev_isI x (ev_cmp o x (.num 0) (to t ls r S) (nx ls r S))
  | _ => none
noncomputable def eh_b2 (o : ClassFile.Cond) (t : Nat) : ev_F := fun _ nx to _ ls st S => match st with
  | y :: x :: r => ev_isI x (ev_isI y (ev_cmp o x y (to t ls r S) (nx ls r S)))
  | _ => none
noncomputable def eh_go (t : Nat) : ev_F := fun _ _ to _ ls st S => to t ls st S
/-- a switch: its cases, then the rest -/
noncomputable def ev_sw (df : Nat) (x : ev_X) (K : Nat → ev_R) (l : List (Nat × Nat)) : ev_R := List.rec (motive := fun _ => ev_R) (K df) (fun q _ ih => ev_eq x (.num q.1) (K q.2) ih) l
noncomputable def eh_sw (df : Nat) (l : List (Nat × Nat)) : ev_F := fun _ _ to _ ls st S => match st with
  | x :: r => ev_isI x (ev_sw df x (fun t => to t ls r S) l)
  | _ => none
noncomputable def eh_gI (a b : Nat) : ev_F := fun _ nx _ _ ls st S => match st with
  | .var p :: r => ev_ob S p a b (fun _ ai _ _ => ev_f (ev_g ai b) (fun n => ev_hv n (fun x => nx ls (x :: r) S)))
  | _ => none
noncomputable def eh_gL (a b : Nat) : ev_F := fun _ nx _ _ ls st S => match st with
  | .var p :: r => ev_ob S p a b (fun _ _ al _ => ev_f (ev_g al b) (fun n => nx ls (.mul (.var n) (.num 0) :: r) S))
  | _ => none
noncomputable def eh_gR (a b : Nat) : ev_F := fun _ nx _ _ ls st S => match st with
  | .var p :: r => ev_ob S p a b (fun _ _ _ ar => ev_f (ev_g ar b) (fun n => cond (Nat.beq n 0) none (nx ls (.var n :: r) S)))
  | _ => none
noncomputable def eh_gK (a b j : Nat) : ev_F := fun _ nx _ _ ls st S => match st with
  | .var p :: r => ev_ob S p a b (fun _ _ _ ar => ev_f (ev_g ar b) (fun n => cond (Nat.beq n (Nat.succ j)) (nx ls (.var n :: r) S) none))
  | _ => none
noncomputable def eh_pI (a b : Nat) : ev_F := fun _ nx _ _ ls st S => ev_pf0 a b st S (fun st S => nx ls st S)
noncomputable def eh_pZ (a b : Nat) : ev_F := fun _ nx _ _ ls st S => ev_pf1 a b st S (fun st S => nx ls st S)
noncomputable def eh_pR (a b : Nat) : ev_F := fun _ nx _ _ ls st S => ev_pf3 a b st S (fun st S => nx ls st S)
noncomputable def eh_gs (a : Nat) : ev_F := fun _ nx _ _ ls st S => nx ls (.mul (.num a) (.num 0) :: st) S
noncomputable def eh_ia : ev_F := fun sc nx _ _ ls st S => ev_ia sc tz_ar st S (fun st S => nx ls st S)
noncomputable def eh_ba : ev_F := fun _ nx _ _ ls st S => ev_ba st S (fun st S => nx ls st S)
noncomputable def eh_ja : ev_F := fun _ nx _ _ ls st S => ev_la st S (fun st S => nx ls st S)
noncomputable def eh_is : ev_F := fun _ nx _ _ ls st S => ev_is st S (fun st S => nx ls st S)
noncomputable def eh_bs : ev_F := fun _ nx _ _ ls st S => ev_bs st S (fun st S => nx ls st S)
noncomputable def eh_js : ev_F := fun _ nx _ _ ls st S => ev_lt2 st S (fun st S => nx ls st S)
noncomputable def eh_al : ev_F := fun sc nx _ _ ls st S => ev_al sc tz_ar st S (fun st S => nx ls st S)
noncomputable def eh_dv : ev_F := fun _ nx _ _ ls st S => ev_dv st S (fun st S => nx ls st S)
noncomputable def eh_rm : ev_F := fun _ nx _ _ ls st S => ev_rm st S (fun st S => nx ls st S)
noncomputable def eh_na (a : Nat) : ev_F := fun _ nx _ _ ls st S => ev_na a st S (fun st S => nx ls st S)
noncomputable def eh_nw (a b : Nat) : ev_F := fun _ nx _ _ ls st S => ev_nw a 0 b S (fun p S => nx ls (.var p :: st) S)
noncomputable def eh_oi : ev_F := fun _ nx _ _ ls st S => ev_in st S (fun st S => nx ls st S)
noncomputable def eh_max : ev_F := fun _ nx _ _ ls st S => ev_max st S (fun st S => nx ls st S)
noncomputable def eh_min : ev_F := fun _ nx _ _ ls st S => ev_min st S (fun st S => nx ls st S)
noncomputable def eh_ac : ev_F := fun _ nx _ _ ls st S => ev_ac st S (fun st S => nx ls st S)
noncomputable def eh_cl (pc a b k : Nat) : ev_F := fun _ _ _ cal ls st S => cal pc a b k ls st S
noncomputable def eh_ri : ev_F := fun _ _ _ _ _ st S => match st with
  | .num n :: [] => some (.inl (some (.num n)), S)
  | .add x y :: [] => some (.inl (some (.add x y)), S)
  | _ => none
noncomputable def eh_rz : ev_F := fun _ _ _ _ _ st S => match st with
  | .num n :: [] => cond (Nat.ble n 1) (some (.inl (some (.num n)), S)) none
  | _ => none
noncomputable def eh_rl : ev_F := fun _ _ _ _ _ st S => match st with
  | .mul (.var n) e :: [] => some (.inl (some (.mul (.var n) e)), S)
  | _ => none
noncomputable def eh_rv : ev_F := fun _ _ _ _ _ st S => match st with
  | [] => some (.inl none, S)
  | _ => none
noncomputable def eh_th (a : Nat) : ev_F := fun _ _ _ _ _ st S => match st with
  | [] => cond (and (Nat.ble (Nat.succ S.1) ez_MC) (Nat.ble (Nat.add S.2.1 6) ez_MS)) (ev_f (Nat.succ S.1) (fun n => ev_f (Nat.add S.2.1 6) (fun u => some (.inr a, (n, u, S.2.2))))) none
  | _ => none
noncomputable def eh_no : ev_F := fun _ _ _ _ _ _ _ => none
abbrev ev_K : Type := Nat × ev_F
abbrev ev_U : Type := List (Nat × List ev_K)
/-- where a jump goes -/
noncomputable def ev_lk (t : Nat) (fu : ev_U) : List ev_K := List.rec (motive := fun _ => List ev_K) [] (fun e _ ih => cond (Nat.beq e.1 t) e.2 ih) fu
/-- depth, method, its places, the rest of its code; the script, locals, stack, heap -/
abbrev ev_G : Type := Nat → Nat → ev_U → List ev_K → List ev_X → ev_N
noncomputable def ev_to (ih : ev_G) (d mi : Nat) (fu : ev_U) (sc : List ev_X) (t : Nat) : ev_N := fun ls st S => ih d mi fu (ev_lk t fu) sc ls st S
noncomputable def ev_lay : List ev_X → List (Option ev_X)
  | [] => []
  | .mul (.var n) e :: r => some (.mul (.var n) e) :: none :: ev_lay r
  | v :: r => some v :: ev_lay r
/-- a list is worked out before it goes on -/
noncomputable def ev_fl {α β : Type} (l : List α) : (List α → β) → β := List.rec (motive := fun _ => (List α → β) → β) (fun c => c []) (fun x _ ih c => ih (fun r => c (x :: r))) l
noncomputable def ev_rcv (S : ev_S) (k : Nat) (vs : List ev_X) : Bool := match k with
  | 0 => true
  | k + 1 => match vs with
    | .var p :: _ => (match ev_cl S p (fun tag _ _ _ _ => cond (Nat.beq tag (Nat.succ k)) (some (.inr 0, S)) none) with
      | some _ => true
      | none => false)
    | _ => false
/-- Arrays.fill -/
noncomputable def ev_fi (as : List ev_X) (S : ev_S) (c : ev_S → ev_R) : ev_R := match as with
  | .var p :: .num v :: [] => ev_cl S p (fun tag len _ al ar => cond (and (Nat.beq tag 1000) (Nat.ble len 200000)) (ev_pc S p 1000 len (.num v) al ar c) none)
  | _ => none
/-- findParts on an empty tape -/
noncomputable def ev_fp (as : List ev_X) (S : ev_S) (c : ev_S → ev_R) : ev_R := match as with
  | .var p :: [] => ev_ob S p 2 6 (fun len ai al ar => cond (Nat.beq (ev_g ai 6) 0) (ev_f (ev_g ar 13) (fun q => cond (and (Nat.blt 0 q) (Bool.not (Nat.beq p q))) (ev_cl S q (fun tag len' _ al' ar' => cond (and (Nat.beq tag 1000) (Nat.beq len' 65536)) (ev_pc S q 1000 len' (.num 4294967295) al' ar' (fun S => ev_s 7 ai 14 (.num 0) (fun ai => ev_pc S p 2 len ai al ar c))) none)) none)) none)
  | _ => none
/-- calls whose outcome is known: depth, method, arguments, heap; what goes on behind it; what else -/
abbrev ev_M : Type := Nat → Nat → List ev_X → ev_S → (ev_S → ev_R) → ev_R → ev_R
noncomputable def ev_M0 : ev_M := fun _ _ _ _ _ e => e
section EVR
variable (CO : Nat → ev_U × List ev_K) (M : ev_M)
noncomputable def ev_bk (ih : ev_G) (d mi : Nat) (fu : ev_U) (cs : List ev_K) (sc : List ev_X) (pc : Nat) (ls : ev_L) (st : List ev_X) (r : ev_R) : ev_R := match r with
  | none => none
  | some (.inl none, S) => ih d mi fu cs sc ls st S
  | some (.inl (some w), S) => ih d mi fu cs sc ls (w :: st) S
  | some (.inr x, S) => match tz_hn mi pc x with
    | none => some (.inr x, S)
    | some (t, j) => (match t with
      | 0 => none
      | t' + 1 => cond (Nat.blt pc (Nat.succ t')) (ev_cut ls j (fun l => ev_lset l j none (fun l => ih d mi fu (ev_lk (Nat.succ t') fu) sc l [] S))) none)
noncomputable def ev_iv (ih : ev_G) (d' d mi : Nat) (fu : ev_U) (cs : List ev_K) (sc : List ev_X) (pc a b k : Nat) (ls : ev_L) (as st : List ev_X) (S : ev_S) : ev_R :=
  cond (and (ev_few st) (and (Nat.ble (ev_lay as).length (tz_ml a)) (and (Nat.beq as.length b) (ev_rcv S k as)))) (cond (Nat.beq a 148) (ev_fi as S (fun S => ih d mi fu cs sc ls st S)) (cond (Nat.beq a 32) (ev_fp as S (fun S => ih d mi fu cs sc ls st S)) (M d' a as S (fun S => ih d mi fu cs sc ls st S) (ev_fl (ev_lay as ++ List.replicate (tz_ml a - (ev_lay as).length) none) (fun l => match CO a with
    | (fu', co') => ev_bk ih d mi fu cs sc pc ls st (ih d' a fu' co' sc l [] S)))))) none
noncomputable def ev_call (ih : ev_G) (d mi : Nat) (fu : ev_U) (cs : List ev_K) (sc : List ev_X) (pc a b k : Nat) : ev_N := fun ls st S => match d with
  | 0 => none
  | d' + 1 => ev_fl (st.take b).reverse (fun as => ev_fl (st.drop b) (fun st => ev_iv CO M ih d' (Nat.succ d') mi fu cs sc pc a b k ls as st S))
noncomputable def ev_body (ih : ev_G) : ev_G := fun d mi fu cs sc ls st S => match cs with
  | [] => none
  | (_, F) :: cs => F sc (ih d mi fu cs sc) (ev_to ih d mi fu sc) (ev_call CO M ih d mi fu cs sc) ls st S
noncomputable def ev_run (n : Nat) : ev_G := Nat.rec (motive := fun _ => ev_G) (fun _ _ _ _ _ _ _ _ => none) (fun _ ih => ev_body CO M ih) n
end EVR
/-- an instruction's meaning to the evaluator -/
noncomputable def ev_tr (q : ez_C) : ev_K := match q with
  | (pc, i, a, b, k, v) => (pc, match i with
    | .iconst _ => eh_C (ev_u v)
    | .bipush _ => eh_C (ev_u v)
    | .sipush _ => eh_C (ev_u v)
    | .ldc _ => eh_C (ev_u v)
    | .ldc_w _ => eh_C (ev_u v)
    | .ldc2_w _ => eh_J (ev_w v.toInt64)
    | .lconst _ => eh_J (ev_w v.toInt64)
    | .i2b => eh_1 ef_i2b
    | .iadd => eh_2 ef_add
    | .isub => eh_2 ef_sub
    | .imul => eh_2 ef_mul
    | .iand => eh_2 ef_and
    | .ior => eh_2 ef_or
    | .ixor => eh_2 ef_xor
    | .ishl => eh_2 ef_shl
    | .ishr => eh_2 ef_shr
    | .iushr => eh_2 ef_ushr
    | .ineg => eh_1 ef_neg
    | .i2l => eh_i2l
    | .l2i => eh_l2i
    | .ladd => eh_l2 ef_ladd
    | .lsub => eh_l2 ef_lsub
    | .lmul => eh_l2 ef_lmul
    | .lcmp => eh_lcmp
    | .dup => eh_dup
    | .dup2 => eh_dup2
    | .dup_x1 => eh_dupx
    | .pop => eh_pop
    | .iload k => eh_li k
    | .iload_n k => eh_li k.val
    | .lload k => eh_ll k
    | .lload_n k => eh_ll k.val
    | .aload k => eh_la k
    | .aload_n k => eh_la k.val
    | .istore k => eh_si k
    | .istore_n k => eh_si k.val
    | .lstore k => eh_sl k
    | .lstore_n k => eh_sl k.val
    | .astore k => eh_sa k
    | .astore_n k => eh_sa k.val
    | .iinc k _ => eh_inc k (ev_u v)
    | .ifCond o _ => eh_b1 o a
    | .if_icmp o _ => eh_b2 o a
    | .goto _ => eh_go a
    | .tableswitch df lo _ os => eh_sw ((pc : Int) + df).toNat ((ez_tab lo os.toList).map (fun q => (ev_u (Int32.ofInt q.1), ((pc : Int) + q.2).toNat)))
    | .lookupswitch df ps => eh_sw ((pc : Int) + df).toNat (ps.toList.map (fun q => (ev_u (Int32.ofInt q.1), ((pc : Int) + q.2).toNat)))
    | .getfield _ => (match k with
      | 0 => eh_gI a b
      | 1 => eh_gI a b
      | 2 => eh_gL a b
      | 3 => eh_gR a b
      | j + 4 => eh_gK a b j)
    | .putfield _ => (match k with
      | 0 => eh_pI a b
      | 1 => eh_pZ a b
      | 2 => eh_no
      | _ + 3 => eh_pR a b)
    | .getstatic _ => eh_gs a
    | .iaload => eh_ia
    | .baload => eh_ba
    | .laload => eh_ja
    | .iastore => eh_is
    | .bastore => eh_bs
    | .lastore => eh_js
    | .arraylength => eh_al
    | .idiv => eh_dv
    | .irem => eh_rm
    | .newarray _ => eh_na a
    | .new _ => eh_nw a b
    | .invokespecial _ => (match k with
      | 0 => eh_oi
      | k + 1 => eh_cl pc a b (k + 1))
    | .invokestatic _ => (match k with
      | 0 => eh_cl pc a b 0
      | 1 => eh_max
      | 2 => eh_min
      | _ + 3 => eh_ac)
    | .invokevirtual _ => eh_cl pc a b k
    | .ireturn => (match a with
      | 0 => eh_ri
      | _ + 1 => eh_rz)
    | .lreturn => eh_rl
    | .return_ => eh_rv
    | .athrow => eh_th a
    | _ => eh_no)
end
section
/-! PRINTED by wip/tools/mkkz.py: the program as the evaluator has it: kz_m_t: the code of method m from place t on; ku_m: where its jumps go. -/
noncomputable def kz_0_0 : List ev_K := (0, eh_la 0) :: (1, eh_oi) :: (4, eh_la 0) :: (5, eh_nw 12 2) :: (8, eh_dup) :: (9, eh_cl 9 127 1 12) :: (12, eh_pR 1 0) :: (15, eh_la 0) :: (16, eh_nw 12 2) :: (19, eh_dup) :: (20, eh_cl 20 127 1 12) :: (23, eh_pR 1 1) :: (26, eh_la 0) :: (27, eh_C 20) :: (29, eh_na 1000) :: (31, eh_pR 1 2) :: (34, eh_la 0) :: (35, eh_C 64) :: (37, eh_na 1000) :: (39, eh_pR 1 3) :: (42, eh_la 0) :: (43, eh_C 64) :: (45, eh_na 1000) :: (47, eh_pR 1 4) :: (50, eh_nw 8 4) :: (53, eh_dup) :: (54, eh_cl 54 100 1 8) :: (57, eh_sa 1) :: (58, eh_nw 7 5) :: (61, eh_dup) :: (62, eh_cl 62 99 1 7) :: (65, eh_sa 2) :: (66, eh_nw 12 2) :: (69, eh_dup) :: (70, eh_cl 70 127 1 12) :: (73, eh_sa 3) :: (74, eh_la 0) :: (75, eh_la 1) :: (76, eh_pR 1 5) :: (79, eh_la 0) :: (80, eh_nw 10 12) :: (83, eh_dup) :: (84, eh_la 2) :: (85, eh_la 3) :: (86, eh_la 1) :: (87, eh_cl 87 113 4 10) :: (90, eh_pR 1 6) :: (93, eh_la 0) :: (94, eh_nw 13 7) :: (97, eh_dup) :: (98, eh_la 2) :: (99, eh_la 3) :: (100, eh_cl 100 131 3 13) :: (103, eh_pR 1 7) :: (106, eh_rv) :: []
noncomputable def ku_0 : ev_U := []
noncomputable def kz_1_0 : List ev_K := cz_1.map ev_tr
noncomputable def ku_1 : ev_U := []
noncomputable def kz_2_0 : List ev_K := cz_2.map ev_tr
noncomputable def ku_2 : ev_U := []
noncomputable def kz_3_0 : List ev_K := cz_3.map ev_tr
noncomputable def ku_3 : ev_U := []
noncomputable def kz_4_0 : List ev_K := cz_4.map ev_tr
noncomputable def ku_4 : ev_U := []
noncomputable def kz_5_0 : List ev_K := cz_5.map ev_tr
noncomputable def ku_5 : ev_U := []
noncomputable def kz_6_0 : List ev_K := cz_6.map ev_tr
noncomputable def ku_6 : ev_U := []
noncomputable def kz_7_0 : List ev_K := cz_7.map ev_tr
noncomputable def ku_7 : ev_U := []
noncomputable def kz_8_0 : List ev_K := cz_8.map ev_tr
noncomputable def ku_8 : ev_U := []
noncomputable def kz_9_0 : List ev_K := cz_9.map ev_tr
noncomputable def ku_9 : ev_U := []
noncomputable def kz_10_0 : List ev_K := cz_10.map ev_tr
noncomputable def ku_10 : ev_U := []
noncomputable def kz_11_0 : List ev_K := cz_11.map ev_tr
noncomputable def ku_11 : ev_U := []
noncomputable def kz_12_0 : List ev_K := cz_12.map ev_tr
noncomputable def ku_12 : ev_U := []
noncomputable def kz_13_0 : List ev_K := cz_13.map ev_tr
noncomputable def ku_13 : ev_U := []
noncomputable def kz_14_0 : List ev_K := cz_14.map ev_tr
noncomputable def ku_14 : ev_U := []
noncomputable def kz_15_0 : List ev_K := cz_15.map ev_tr
noncomputable def ku_15 : ev_U := []
noncomputable def kz_16_0 : List ev_K := cz_16.map ev_tr
noncomputable def ku_16 : ev_U := []
noncomputable def kz_17_0 : List ev_K := cz_17.map ev_tr
noncomputable def ku_17 : ev_U := []
noncomputable def kz_18_0 : List ev_K := cz_18.map ev_tr
noncomputable def ku_18 : ev_U := []
noncomputable def kz_19_0 : List ev_K := cz_19.map ev_tr
noncomputable def ku_19 : ev_U := []
noncomputable def kz_20_0 : List ev_K := cz_20.map ev_tr
noncomputable def ku_20 : ev_U := []
noncomputable def kz_21_0 : List ev_K := cz_21.map ev_tr
noncomputable def ku_21 : ev_U := []
noncomputable def kz_22_0 : List ev_K := cz_22.map ev_tr
noncomputable def ku_22 : ev_U := []
noncomputable def kz_23_0 : List ev_K := cz_23.map ev_tr
noncomputable def ku_23 : ev_U := []
noncomputable def kz_24_1119 : List ev_K := (1119, eh_na 1000) :: (1121, eh_pR 2 50) :: (1124, eh_la 0) :: (1125, eh_C 17) :: (1127, eh_na 1000) :: (1129, eh_pR 2 51) :: (1132, eh_la 0) :: (1133, eh_C 17) :: (1135, eh_na 1000) :: (1137, eh_pR 2 52) :: (1140, eh_la 0) :: (1141, eh_C 330) :: (1144, eh_na 1000) :: (1146, eh_pR 2 53) :: (1149, eh_la 0) :: (1150, eh_C 330) :: (1153, eh_na 1000) :: (1155, eh_pR 2 54) :: (1158, eh_la 0) :: (1159, eh_C 330) :: (1162, eh_na 1000) :: (1164, eh_pR 2 55) :: (1167, eh_la 0) :: (1168, eh_C 4294967295) :: (1169, eh_pI 2 63) :: (1172, eh_la 0) :: (1173, eh_C 288) :: (1176, eh_na 1000) :: (1178, eh_pR 2 64) :: (1181, eh_la 0) :: (1182, eh_C 32) :: (1184, eh_na 1000) :: (1186, eh_pR 2 65) :: (1189, eh_la 0) :: (1190, eh_C 19) :: (1192, eh_na 1000) :: (1194, eh_pR 2 66) :: (1197, eh_la 0) :: (1198, eh_C 330) :: (1201, eh_na 1000) :: (1203, eh_pR 2 67) :: (1206, eh_la 0) :: (1207, eh_C 64) :: (1209, eh_na 1000) :: (1211, eh_pR 2 68) :: (1214, eh_la 0) :: (1215, eh_C 64) :: (1217, eh_na 1000) :: (1219, eh_pR 2 69) :: (1222, eh_rv) :: []
noncomputable def kz_24_992 : List ev_K := (992, eh_na 1000) :: (994, eh_pR 2 35) :: (997, eh_la 0) :: (998, eh_C 288) :: (1001, eh_na 1000) :: (1003, eh_pR 2 36) :: (1006, eh_la 0) :: (1007, eh_C 30) :: (1009, eh_na 1000) :: (1011, eh_pR 2 37) :: (1014, eh_la 0) :: (1015, eh_C 19) :: (1017, eh_na 1000) :: (1019, eh_pR 2 38) :: (1022, eh_la 0) :: (1023, eh_C 288) :: (1026, eh_na 1000) :: (1028, eh_pR 2 39) :: (1031, eh_la 0) :: (1032, eh_C 30) :: (1034, eh_na 1000) :: (1036, eh_pR 2 40) :: (1039, eh_la 0) :: (1040, eh_C 19) :: (1042, eh_na 1000) :: (1044, eh_pR 2 41) :: (1047, eh_la 0) :: (1048, eh_C 288) :: (1051, eh_na 1000) :: (1053, eh_pR 2 42) :: (1056, eh_la 0) :: (1057, eh_C 288) :: (1060, eh_na 1000) :: (1062, eh_pR 2 43) :: (1065, eh_la 0) :: (1066, eh_C 30) :: (1068, eh_na 1000) :: (1070, eh_pR 2 44) :: (1073, eh_la 0) :: (1074, eh_C 30) :: (1076, eh_na 1000) :: (1078, eh_pR 2 45) :: (1081, eh_la 0) :: (1082, eh_C 288) :: (1085, eh_na 1000) :: (1087, eh_pR 2 46) :: (1090, eh_la 0) :: (1091, eh_C 600) :: (1094, eh_na 1000) :: (1096, eh_pR 2 47) :: (1099, eh_la 0) :: (1100, eh_C 600) :: (1103, eh_na 1000) :: (1105, eh_pR 2 48) :: (1108, eh_la 0) :: (1109, eh_C 172800) :: (1111, eh_na 1000) :: (1113, eh_pR 2 49) :: (1116, eh_la 0) :: (1117, eh_C 172800) :: kz_24_1119
noncomputable def kz_24_901 : List ev_K := (901, eh_is) :: (902, eh_dup) :: (903, eh_C 7) :: (905, eh_C 6) :: (907, eh_is) :: (908, eh_dup) :: (909, eh_C 8) :: (911, eh_C 10) :: (913, eh_is) :: (914, eh_dup) :: (915, eh_C 9) :: (917, eh_C 5) :: (918, eh_is) :: (919, eh_dup) :: (920, eh_C 10) :: (922, eh_C 11) :: (924, eh_is) :: (925, eh_dup) :: (926, eh_C 11) :: (928, eh_C 4) :: (929, eh_is) :: (930, eh_dup) :: (931, eh_C 12) :: (933, eh_C 12) :: (935, eh_is) :: (936, eh_dup) :: (937, eh_C 13) :: (939, eh_C 3) :: (940, eh_is) :: (941, eh_dup) :: (942, eh_C 14) :: (944, eh_C 13) :: (946, eh_is) :: (947, eh_dup) :: (948, eh_C 15) :: (950, eh_C 2) :: (951, eh_is) :: (952, eh_dup) :: (953, eh_C 16) :: (955, eh_C 14) :: (957, eh_is) :: (958, eh_dup) :: (959, eh_C 17) :: (961, eh_C 1) :: (962, eh_is) :: (963, eh_dup) :: (964, eh_C 18) :: (966, eh_C 15) :: (968, eh_is) :: (969, eh_pR 2 32) :: (972, eh_la 0) :: (973, eh_C 288) :: (976, eh_na 1000) :: (978, eh_pR 2 33) :: (981, eh_la 0) :: (982, eh_C 30) :: (984, eh_na 1000) :: (986, eh_pR 2 34) :: (989, eh_la 0) :: (990, eh_C 19) :: kz_24_992
noncomputable def kz_24_816 : List ev_K := (816, eh_is) :: (817, eh_dup) :: (818, eh_C 23) :: (820, eh_C 10) :: (822, eh_is) :: (823, eh_dup) :: (824, eh_C 24) :: (826, eh_C 11) :: (828, eh_is) :: (829, eh_dup) :: (830, eh_C 25) :: (832, eh_C 11) :: (834, eh_is) :: (835, eh_dup) :: (836, eh_C 26) :: (838, eh_C 12) :: (840, eh_is) :: (841, eh_dup) :: (842, eh_C 27) :: (844, eh_C 12) :: (846, eh_is) :: (847, eh_dup) :: (848, eh_C 28) :: (850, eh_C 13) :: (852, eh_is) :: (853, eh_dup) :: (854, eh_C 29) :: (856, eh_C 13) :: (858, eh_is) :: (859, eh_pR 2 31) :: (862, eh_la 0) :: (863, eh_C 19) :: (865, eh_na 1000) :: (867, eh_dup) :: (868, eh_C 0) :: (869, eh_C 16) :: (871, eh_is) :: (872, eh_dup) :: (873, eh_C 1) :: (874, eh_C 17) :: (876, eh_is) :: (877, eh_dup) :: (878, eh_C 2) :: (879, eh_C 18) :: (881, eh_is) :: (882, eh_dup) :: (883, eh_C 3) :: (884, eh_C 0) :: (885, eh_is) :: (886, eh_dup) :: (887, eh_C 4) :: (888, eh_C 8) :: (890, eh_is) :: (891, eh_dup) :: (892, eh_C 5) :: (893, eh_C 7) :: (895, eh_is) :: (896, eh_dup) :: (897, eh_C 6) :: (899, eh_C 9) :: kz_24_901
noncomputable def kz_24_732 : List ev_K := (732, eh_is) :: (733, eh_dup) :: (734, eh_C 8) :: (736, eh_C 3) :: (737, eh_is) :: (738, eh_dup) :: (739, eh_C 9) :: (741, eh_C 3) :: (742, eh_is) :: (743, eh_dup) :: (744, eh_C 10) :: (746, eh_C 4) :: (747, eh_is) :: (748, eh_dup) :: (749, eh_C 11) :: (751, eh_C 4) :: (752, eh_is) :: (753, eh_dup) :: (754, eh_C 12) :: (756, eh_C 5) :: (757, eh_is) :: (758, eh_dup) :: (759, eh_C 13) :: (761, eh_C 5) :: (762, eh_is) :: (763, eh_dup) :: (764, eh_C 14) :: (766, eh_C 6) :: (768, eh_is) :: (769, eh_dup) :: (770, eh_C 15) :: (772, eh_C 6) :: (774, eh_is) :: (775, eh_dup) :: (776, eh_C 16) :: (778, eh_C 7) :: (780, eh_is) :: (781, eh_dup) :: (782, eh_C 17) :: (784, eh_C 7) :: (786, eh_is) :: (787, eh_dup) :: (788, eh_C 18) :: (790, eh_C 8) :: (792, eh_is) :: (793, eh_dup) :: (794, eh_C 19) :: (796, eh_C 8) :: (798, eh_is) :: (799, eh_dup) :: (800, eh_C 20) :: (802, eh_C 9) :: (804, eh_is) :: (805, eh_dup) :: (806, eh_C 21) :: (808, eh_C 9) :: (810, eh_is) :: (811, eh_dup) :: (812, eh_C 22) :: (814, eh_C 10) :: kz_24_816
noncomputable def kz_24_648 : List ev_K := (648, eh_is) :: (649, eh_dup) :: (650, eh_C 24) :: (652, eh_C 4097) :: (655, eh_is) :: (656, eh_dup) :: (657, eh_C 25) :: (659, eh_C 6145) :: (662, eh_is) :: (663, eh_dup) :: (664, eh_C 26) :: (666, eh_C 8193) :: (669, eh_is) :: (670, eh_dup) :: (671, eh_C 27) :: (673, eh_C 12289) :: (676, eh_is) :: (677, eh_dup) :: (678, eh_C 28) :: (680, eh_C 16385) :: (683, eh_is) :: (684, eh_dup) :: (685, eh_C 29) :: (687, eh_C 24577) :: (690, eh_is) :: (691, eh_pR 2 30) :: (694, eh_la 0) :: (695, eh_C 30) :: (697, eh_na 1000) :: (699, eh_dup) :: (700, eh_C 0) :: (701, eh_C 0) :: (702, eh_is) :: (703, eh_dup) :: (704, eh_C 1) :: (705, eh_C 0) :: (706, eh_is) :: (707, eh_dup) :: (708, eh_C 2) :: (709, eh_C 0) :: (710, eh_is) :: (711, eh_dup) :: (712, eh_C 3) :: (713, eh_C 0) :: (714, eh_is) :: (715, eh_dup) :: (716, eh_C 4) :: (717, eh_C 1) :: (718, eh_is) :: (719, eh_dup) :: (720, eh_C 5) :: (721, eh_C 1) :: (722, eh_is) :: (723, eh_dup) :: (724, eh_C 6) :: (726, eh_C 2) :: (727, eh_is) :: (728, eh_dup) :: (729, eh_C 7) :: (731, eh_C 2) :: kz_24_732
noncomputable def kz_24_548 : List ev_K := (548, eh_is) :: (549, eh_dup) :: (550, eh_C 9) :: (552, eh_C 25) :: (554, eh_is) :: (555, eh_dup) :: (556, eh_C 10) :: (558, eh_C 33) :: (560, eh_is) :: (561, eh_dup) :: (562, eh_C 11) :: (564, eh_C 49) :: (566, eh_is) :: (567, eh_dup) :: (568, eh_C 12) :: (570, eh_C 65) :: (572, eh_is) :: (573, eh_dup) :: (574, eh_C 13) :: (576, eh_C 97) :: (578, eh_is) :: (579, eh_dup) :: (580, eh_C 14) :: (582, eh_C 129) :: (585, eh_is) :: (586, eh_dup) :: (587, eh_C 15) :: (589, eh_C 193) :: (592, eh_is) :: (593, eh_dup) :: (594, eh_C 16) :: (596, eh_C 257) :: (599, eh_is) :: (600, eh_dup) :: (601, eh_C 17) :: (603, eh_C 385) :: (606, eh_is) :: (607, eh_dup) :: (608, eh_C 18) :: (610, eh_C 513) :: (613, eh_is) :: (614, eh_dup) :: (615, eh_C 19) :: (617, eh_C 769) :: (620, eh_is) :: (621, eh_dup) :: (622, eh_C 20) :: (624, eh_C 1025) :: (627, eh_is) :: (628, eh_dup) :: (629, eh_C 21) :: (631, eh_C 1537) :: (634, eh_is) :: (635, eh_dup) :: (636, eh_C 22) :: (638, eh_C 2049) :: (641, eh_is) :: (642, eh_dup) :: (643, eh_C 23) :: (645, eh_C 3073) :: kz_24_648
noncomputable def kz_24_472 : List ev_K := (472, eh_is) :: (473, eh_dup) :: (474, eh_C 24) :: (476, eh_C 5) :: (477, eh_is) :: (478, eh_dup) :: (479, eh_C 25) :: (481, eh_C 5) :: (482, eh_is) :: (483, eh_dup) :: (484, eh_C 26) :: (486, eh_C 5) :: (487, eh_is) :: (488, eh_dup) :: (489, eh_C 27) :: (491, eh_C 5) :: (492, eh_is) :: (493, eh_dup) :: (494, eh_C 28) :: (496, eh_C 0) :: (497, eh_is) :: (498, eh_pR 2 29) :: (501, eh_la 0) :: (502, eh_C 30) :: (504, eh_na 1000) :: (506, eh_dup) :: (507, eh_C 0) :: (508, eh_C 1) :: (509, eh_is) :: (510, eh_dup) :: (511, eh_C 1) :: (512, eh_C 2) :: (513, eh_is) :: (514, eh_dup) :: (515, eh_C 2) :: (516, eh_C 3) :: (517, eh_is) :: (518, eh_dup) :: (519, eh_C 3) :: (520, eh_C 4) :: (521, eh_is) :: (522, eh_dup) :: (523, eh_C 4) :: (524, eh_C 5) :: (525, eh_is) :: (526, eh_dup) :: (527, eh_C 5) :: (528, eh_C 7) :: (530, eh_is) :: (531, eh_dup) :: (532, eh_C 6) :: (534, eh_C 9) :: (536, eh_is) :: (537, eh_dup) :: (538, eh_C 7) :: (540, eh_C 13) :: (542, eh_is) :: (543, eh_dup) :: (544, eh_C 8) :: (546, eh_C 17) :: kz_24_548
noncomputable def kz_24_397 : List ev_K := (397, eh_is) :: (398, eh_dup) :: (399, eh_C 9) :: (401, eh_C 1) :: (402, eh_is) :: (403, eh_dup) :: (404, eh_C 10) :: (406, eh_C 1) :: (407, eh_is) :: (408, eh_dup) :: (409, eh_C 11) :: (411, eh_C 1) :: (412, eh_is) :: (413, eh_dup) :: (414, eh_C 12) :: (416, eh_C 2) :: (417, eh_is) :: (418, eh_dup) :: (419, eh_C 13) :: (421, eh_C 2) :: (422, eh_is) :: (423, eh_dup) :: (424, eh_C 14) :: (426, eh_C 2) :: (427, eh_is) :: (428, eh_dup) :: (429, eh_C 15) :: (431, eh_C 2) :: (432, eh_is) :: (433, eh_dup) :: (434, eh_C 16) :: (436, eh_C 3) :: (437, eh_is) :: (438, eh_dup) :: (439, eh_C 17) :: (441, eh_C 3) :: (442, eh_is) :: (443, eh_dup) :: (444, eh_C 18) :: (446, eh_C 3) :: (447, eh_is) :: (448, eh_dup) :: (449, eh_C 19) :: (451, eh_C 3) :: (452, eh_is) :: (453, eh_dup) :: (454, eh_C 20) :: (456, eh_C 4) :: (457, eh_is) :: (458, eh_dup) :: (459, eh_C 21) :: (461, eh_C 4) :: (462, eh_is) :: (463, eh_dup) :: (464, eh_C 22) :: (466, eh_C 4) :: (467, eh_is) :: (468, eh_dup) :: (469, eh_C 23) :: (471, eh_C 4) :: kz_24_472
noncomputable def kz_24_315 : List ev_K := (315, eh_is) :: (316, eh_dup) :: (317, eh_C 24) :: (319, eh_C 131) :: (322, eh_is) :: (323, eh_dup) :: (324, eh_C 25) :: (326, eh_C 163) :: (329, eh_is) :: (330, eh_dup) :: (331, eh_C 26) :: (333, eh_C 195) :: (336, eh_is) :: (337, eh_dup) :: (338, eh_C 27) :: (340, eh_C 227) :: (343, eh_is) :: (344, eh_dup) :: (345, eh_C 28) :: (347, eh_C 258) :: (350, eh_is) :: (351, eh_pR 2 28) :: (354, eh_la 0) :: (355, eh_C 29) :: (357, eh_na 1000) :: (359, eh_dup) :: (360, eh_C 0) :: (361, eh_C 0) :: (362, eh_is) :: (363, eh_dup) :: (364, eh_C 1) :: (365, eh_C 0) :: (366, eh_is) :: (367, eh_dup) :: (368, eh_C 2) :: (369, eh_C 0) :: (370, eh_is) :: (371, eh_dup) :: (372, eh_C 3) :: (373, eh_C 0) :: (374, eh_is) :: (375, eh_dup) :: (376, eh_C 4) :: (377, eh_C 0) :: (378, eh_is) :: (379, eh_dup) :: (380, eh_C 5) :: (381, eh_C 0) :: (382, eh_is) :: (383, eh_dup) :: (384, eh_C 6) :: (386, eh_C 0) :: (387, eh_is) :: (388, eh_dup) :: (389, eh_C 7) :: (391, eh_C 0) :: (392, eh_is) :: (393, eh_dup) :: (394, eh_C 8) :: (396, eh_C 1) :: kz_24_397
noncomputable def kz_24_225 : List ev_K := (225, eh_is) :: (226, eh_dup) :: (227, eh_C 9) :: (229, eh_C 13) :: (231, eh_is) :: (232, eh_dup) :: (233, eh_C 10) :: (235, eh_C 15) :: (237, eh_is) :: (238, eh_dup) :: (239, eh_C 11) :: (241, eh_C 17) :: (243, eh_is) :: (244, eh_dup) :: (245, eh_C 12) :: (247, eh_C 19) :: (249, eh_is) :: (250, eh_dup) :: (251, eh_C 13) :: (253, eh_C 23) :: (255, eh_is) :: (256, eh_dup) :: (257, eh_C 14) :: (259, eh_C 27) :: (261, eh_is) :: (262, eh_dup) :: (263, eh_C 15) :: (265, eh_C 31) :: (267, eh_is) :: (268, eh_dup) :: (269, eh_C 16) :: (271, eh_C 35) :: (273, eh_is) :: (274, eh_dup) :: (275, eh_C 17) :: (277, eh_C 43) :: (279, eh_is) :: (280, eh_dup) :: (281, eh_C 18) :: (283, eh_C 51) :: (285, eh_is) :: (286, eh_dup) :: (287, eh_C 19) :: (289, eh_C 59) :: (291, eh_is) :: (292, eh_dup) :: (293, eh_C 20) :: (295, eh_C 67) :: (297, eh_is) :: (298, eh_dup) :: (299, eh_C 21) :: (301, eh_C 83) :: (303, eh_is) :: (304, eh_dup) :: (305, eh_C 22) :: (307, eh_C 99) :: (309, eh_is) :: (310, eh_dup) :: (311, eh_C 23) :: (313, eh_C 115) :: kz_24_315
noncomputable def kz_24_128 : List ev_K := (128, eh_na 1000) :: (130, eh_pR 2 22) :: (133, eh_la 0) :: (134, eh_C 12) :: (136, eh_na 1000) :: (138, eh_pR 2 23) :: (141, eh_la 0) :: (142, eh_C 12) :: (144, eh_na 1000) :: (146, eh_pR 2 24) :: (149, eh_la 0) :: (150, eh_C 3456) :: (153, eh_na 1000) :: (155, eh_pR 2 25) :: (158, eh_la 0) :: (159, eh_C 360) :: (162, eh_na 1000) :: (164, eh_pR 2 26) :: (167, eh_la 0) :: (168, eh_C 228) :: (171, eh_na 1000) :: (173, eh_pR 2 27) :: (176, eh_la 0) :: (177, eh_C 29) :: (179, eh_na 1000) :: (181, eh_dup) :: (182, eh_C 0) :: (183, eh_C 3) :: (184, eh_is) :: (185, eh_dup) :: (186, eh_C 1) :: (187, eh_C 4) :: (188, eh_is) :: (189, eh_dup) :: (190, eh_C 2) :: (191, eh_C 5) :: (192, eh_is) :: (193, eh_dup) :: (194, eh_C 3) :: (195, eh_C 6) :: (197, eh_is) :: (198, eh_dup) :: (199, eh_C 4) :: (200, eh_C 7) :: (202, eh_is) :: (203, eh_dup) :: (204, eh_C 5) :: (205, eh_C 8) :: (207, eh_is) :: (208, eh_dup) :: (209, eh_C 6) :: (211, eh_C 9) :: (213, eh_is) :: (214, eh_dup) :: (215, eh_C 7) :: (217, eh_C 10) :: (219, eh_is) :: (220, eh_dup) :: (221, eh_C 8) :: (223, eh_C 11) :: kz_24_225
noncomputable def kz_24_0 : List ev_K := (0, eh_la 0) :: (1, eh_oi) :: (4, eh_la 0) :: (5, eh_C 6000) :: (8, eh_na 1003) :: (10, eh_pR 2 1) :: (13, eh_la 0) :: (14, eh_C 6200) :: (17, eh_na 1003) :: (19, eh_pR 2 2) :: (22, eh_la 0) :: (23, eh_C 20) :: (25, eh_na 1003) :: (27, eh_pR 2 3) :: (30, eh_la 0) :: (31, eh_C 8000) :: (34, eh_na 1003) :: (36, eh_pR 2 4) :: (39, eh_la 0) :: (40, eh_C 6000) :: (43, eh_na 1003) :: (45, eh_pR 2 5) :: (48, eh_la 0) :: (49, eh_C 6000) :: (52, eh_na 1000) :: (54, eh_pR 2 8) :: (57, eh_la 0) :: (58, eh_C 6000) :: (61, eh_na 1000) :: (63, eh_pR 2 9) :: (66, eh_la 0) :: (67, eh_C 6000) :: (70, eh_na 1000) :: (72, eh_pR 2 10) :: (75, eh_la 0) :: (76, eh_C 6000) :: (79, eh_na 1000) :: (81, eh_pR 2 11) :: (84, eh_la 0) :: (85, eh_C 6000) :: (88, eh_na 1000) :: (90, eh_pR 2 12) :: (93, eh_la 0) :: (94, eh_C 65536) :: (96, eh_na 1000) :: (98, eh_pR 2 13) :: (101, eh_la 0) :: (102, eh_C 12) :: (104, eh_na 1000) :: (106, eh_pR 2 19) :: (109, eh_la 0) :: (110, eh_C 12) :: (112, eh_na 1000) :: (114, eh_pR 2 20) :: (117, eh_la 0) :: (118, eh_C 12) :: (120, eh_na 1000) :: (122, eh_pR 2 21) :: (125, eh_la 0) :: (126, eh_C 12) :: kz_24_128
noncomputable def ku_24 : ev_U := []
noncomputable def kz_25_0 : List ev_K := cz_25.map ev_tr
noncomputable def ku_25 : ev_U := []
noncomputable def kz_26_0 : List ev_K := cz_26.map ev_tr
noncomputable def ku_26 : ev_U := []
noncomputable def kz_27_0 : List ev_K := cz_27.map ev_tr
noncomputable def ku_27 : ev_U := []
noncomputable def kz_28_0 : List ev_K := cz_28.map ev_tr
noncomputable def ku_28 : ev_U := []
noncomputable def kz_29_0 : List ev_K := cz_29.map ev_tr
noncomputable def ku_29 : ev_U := []
noncomputable def kz_30_0 : List ev_K := cz_30.map ev_tr
noncomputable def ku_30 : ev_U := []
noncomputable def kz_31_0 : List ev_K := cz_31.map ev_tr
noncomputable def ku_31 : ev_U := []
noncomputable def kz_32_0 : List ev_K := cz_32.map ev_tr
noncomputable def ku_32 : ev_U := []
noncomputable def kz_33_0 : List ev_K := cz_33.map ev_tr
noncomputable def ku_33 : ev_U := []
noncomputable def kz_34_0 : List ev_K := cz_34.map ev_tr
noncomputable def ku_34 : ev_U := []
noncomputable def kz_35_0 : List ev_K := cz_35.map ev_tr
noncomputable def ku_35 : ev_U := []
noncomputable def kz_36_0 : List ev_K := cz_36.map ev_tr
noncomputable def ku_36 : ev_U := []
noncomputable def kz_37_0 : List ev_K := cz_37.map ev_tr
noncomputable def ku_37 : ev_U := []
noncomputable def kz_38_0 : List ev_K := cz_38.map ev_tr
noncomputable def ku_38 : ev_U := []
noncomputable def kz_39_0 : List ev_K := cz_39.map ev_tr
noncomputable def ku_39 : ev_U := []
noncomputable def kz_40_0 : List ev_K := cz_40.map ev_tr
noncomputable def ku_40 : ev_U := []
noncomputable def kz_41_0 : List ev_K := cz_41.map ev_tr
noncomputable def ku_41 : ev_U := []
noncomputable def kz_42_0 : List ev_K := cz_42.map ev_tr
noncomputable def ku_42 : ev_U := []
noncomputable def kz_43_0 : List ev_K := cz_43.map ev_tr
noncomputable def ku_43 : ev_U := []
noncomputable def kz_44_0 : List ev_K := cz_44.map ev_tr
noncomputable def ku_44 : ev_U := []
noncomputable def kz_45_0 : List ev_K := cz_45.map ev_tr
noncomputable def ku_45 : ev_U := []
noncomputable def kz_46_0 : List ev_K := cz_46.map ev_tr
noncomputable def ku_46 : ev_U := []
noncomputable def kz_47_0 : List ev_K := cz_47.map ev_tr
noncomputable def ku_47 : ev_U := []
noncomputable def kz_48_0 : List ev_K := cz_48.map ev_tr
noncomputable def ku_48 : ev_U := []
noncomputable def kz_49_0 : List ev_K := cz_49.map ev_tr
noncomputable def ku_49 : ev_U := []
noncomputable def kz_50_0 : List ev_K := cz_50.map ev_tr
noncomputable def ku_50 : ev_U := []
noncomputable def kz_51_0 : List ev_K := cz_51.map ev_tr
noncomputable def ku_51 : ev_U := []
noncomputable def kz_52_0 : List ev_K := cz_52.map ev_tr
noncomputable def ku_52 : ev_U := []
noncomputable def kz_53_0 : List ev_K := cz_53.map ev_tr
noncomputable def ku_53 : ev_U := []
noncomputable def kz_54_0 : List ev_K := cz_54.map ev_tr
noncomputable def ku_54 : ev_U := []
noncomputable def kz_55_0 : List ev_K := cz_55.map ev_tr
noncomputable def ku_55 : ev_U := []
noncomputable def kz_56_0 : List ev_K := cz_56.map ev_tr
noncomputable def ku_56 : ev_U := []
noncomputable def kz_57_0 : List ev_K := cz_57.map ev_tr
noncomputable def ku_57 : ev_U := []
noncomputable def kz_58_0 : List ev_K := cz_58.map ev_tr
noncomputable def ku_58 : ev_U := []
noncomputable def kz_59_0 : List ev_K := cz_59.map ev_tr
noncomputable def ku_59 : ev_U := []
noncomputable def kz_60_0 : List ev_K := cz_60.map ev_tr
noncomputable def ku_60 : ev_U := []
noncomputable def kz_61_0 : List ev_K := cz_61.map ev_tr
noncomputable def ku_61 : ev_U := []
noncomputable def kz_62_0 : List ev_K := cz_62.map ev_tr
noncomputable def ku_62 : ev_U := []
noncomputable def kz_63_0 : List ev_K := cz_63.map ev_tr
noncomputable def ku_63 : ev_U := []
noncomputable def kz_64_0 : List ev_K := cz_64.map ev_tr
noncomputable def ku_64 : ev_U := []
noncomputable def kz_65_0 : List ev_K := cz_65.map ev_tr
noncomputable def ku_65 : ev_U := []
noncomputable def kz_66_0 : List ev_K := cz_66.map ev_tr
noncomputable def ku_66 : ev_U := []
noncomputable def kz_67_0 : List ev_K := (0, eh_la 0) :: (1, eh_oi) :: (4, eh_la 0) :: (5, eh_la 1) :: (6, eh_pR 3 0) :: (9, eh_rv) :: []
noncomputable def ku_67 : ev_U := []
noncomputable def kz_68_0 : List ev_K := cz_68.map ev_tr
noncomputable def ku_68 : ev_U := []
noncomputable def kz_69_0 : List ev_K := cz_69.map ev_tr
noncomputable def ku_69 : ev_U := []
noncomputable def kz_70_0 : List ev_K := cz_70.map ev_tr
noncomputable def ku_70 : ev_U := []
noncomputable def kz_71_0 : List ev_K := cz_71.map ev_tr
noncomputable def ku_71 : ev_U := []
noncomputable def kz_72_0 : List ev_K := cz_72.map ev_tr
noncomputable def ku_72 : ev_U := []
noncomputable def kz_73_0 : List ev_K := (0, eh_la 0) :: (1, eh_oi) :: (4, eh_la 0) :: (5, eh_C 60) :: (7, eh_na 1000) :: (9, eh_pR 4 0) :: (12, eh_la 0) :: (13, eh_C 3350) :: (16, eh_na 1000) :: (18, eh_pR 4 1) :: (21, eh_rv) :: []
noncomputable def ku_73 : ev_U := []
noncomputable def kz_74_0 : List ev_K := cz_74.map ev_tr
noncomputable def ku_74 : ev_U := []
noncomputable def kz_75_0 : List ev_K := cz_75.map ev_tr
noncomputable def ku_75 : ev_U := []
noncomputable def kz_76_0 : List ev_K := cz_76.map ev_tr
noncomputable def ku_76 : ev_U := []
noncomputable def kz_77_0 : List ev_K := cz_77.map ev_tr
noncomputable def ku_77 : ev_U := []
noncomputable def kz_78_0 : List ev_K := cz_78.map ev_tr
noncomputable def ku_78 : ev_U := []
noncomputable def kz_79_0 : List ev_K := cz_79.map ev_tr
noncomputable def ku_79 : ev_U := []
noncomputable def kz_80_0 : List ev_K := (0, eh_la 0) :: (1, eh_oi) :: (4, eh_la 0) :: (5, eh_C 288) :: (8, eh_na 1000) :: (10, eh_pR 5 0) :: (13, eh_la 0) :: (14, eh_C 288) :: (17, eh_na 1000) :: (19, eh_pR 5 1) :: (22, eh_la 0) :: (23, eh_C 16) :: (25, eh_na 1000) :: (27, eh_pR 5 2) :: (30, eh_la 0) :: (31, eh_C 288) :: (34, eh_na 1000) :: (36, eh_pR 5 3) :: (39, eh_la 0) :: (40, eh_C 16) :: (42, eh_na 1000) :: (44, eh_pR 5 5) :: (47, eh_la 0) :: (48, eh_C 16) :: (50, eh_na 1000) :: (52, eh_pR 5 6) :: (55, eh_rv) :: []
noncomputable def ku_80 : ev_U := []
noncomputable def kz_81_0 : List ev_K := cz_81.map ev_tr
noncomputable def ku_81 : ev_U := []
noncomputable def kz_82_143 : List ev_K := (143, eh_rv) :: []
noncomputable def kz_82_137 : List ev_K := (137, eh_inc 3 1) :: (140, eh_go 109) :: kz_82_143
noncomputable def kz_82_109 : List ev_K := (109, eh_li 3) :: (110, eh_la 0) :: (111, eh_gR 5 0) :: (114, eh_al) :: (115, eh_b2 .ge 143) :: (118, eh_la 0) :: (119, eh_li 3) :: (120, eh_cl 120 85 2 5) :: (123, eh_b1 .eq 137) :: (126, eh_la 0) :: (127, eh_li 3) :: (128, eh_la 0) :: (129, eh_gR 5 0) :: (132, eh_li 3) :: (133, eh_ia) :: (134, eh_cl 134 86 3 5) :: kz_82_137
noncomputable def kz_82_102 : List ev_K := (102, eh_la 0) :: (103, eh_li 2) :: (104, eh_pI 5 4) :: (107, eh_C 0) :: (108, eh_si 3) :: kz_82_109
noncomputable def kz_82_54 : List ev_K := (54, eh_li 3) :: (55, eh_C 15) :: (57, eh_b2 .gt 102) :: (60, eh_li 1) :: (61, eh_la 0) :: (62, eh_gR 5 2) :: (65, eh_li 3) :: (66, eh_C 1) :: (67, eh_2 ef_sub) :: (68, eh_ia) :: (69, eh_2 ef_add) :: (70, eh_C 1) :: (71, eh_2 ef_shl) :: (72, eh_si 1) :: (73, eh_la 0) :: (74, eh_gR 5 5) :: (77, eh_li 3) :: (78, eh_li 1) :: (79, eh_is) :: (80, eh_la 0) :: (81, eh_gR 5 6) :: (84, eh_li 3) :: (85, eh_li 2) :: (86, eh_is) :: (87, eh_li 2) :: (88, eh_la 0) :: (89, eh_gR 5 2) :: (92, eh_li 3) :: (93, eh_ia) :: (94, eh_2 ef_add) :: (95, eh_si 2) :: (96, eh_inc 3 1) :: (99, eh_go 54) :: kz_82_102
noncomputable def kz_82_48 : List ev_K := (48, eh_C 0) :: (49, eh_si 1) :: (50, eh_C 0) :: (51, eh_si 2) :: (52, eh_C 1) :: (53, eh_si 3) :: kz_82_54
noncomputable def kz_82_42 : List ev_K := (42, eh_inc 1 1) :: (45, eh_go 10) :: kz_82_48
noncomputable def kz_82_10 : List ev_K := (10, eh_li 1) :: (11, eh_la 0) :: (12, eh_gR 5 0) :: (15, eh_al) :: (16, eh_b2 .ge 48) :: (19, eh_la 0) :: (20, eh_li 1) :: (21, eh_cl 21 85 2 5) :: (24, eh_b1 .eq 42) :: (27, eh_la 0) :: (28, eh_gR 5 2) :: (31, eh_la 0) :: (32, eh_gR 5 0) :: (35, eh_li 1) :: (36, eh_ia) :: (37, eh_dup2) :: (38, eh_ia) :: (39, eh_C 1) :: (40, eh_2 ef_add) :: (41, eh_is) :: kz_82_42
noncomputable def kz_82_0 : List ev_K := (0, eh_la 0) :: (1, eh_gR 5 2) :: (4, eh_C 0) :: (5, eh_cl 5 148 2 0) :: (8, eh_C 0) :: (9, eh_si 1) :: kz_82_10
noncomputable def ku_82 : ev_U := [(10, kz_82_10), (42, kz_82_42), (48, kz_82_48), (54, kz_82_54), (102, kz_82_102), (109, kz_82_109), (137, kz_82_137), (143, kz_82_143)]
noncomputable def kz_83_0 : List ev_K := cz_83.map ev_tr
noncomputable def ku_83 : ev_U := []
noncomputable def kz_84_0 : List ev_K := cz_84.map ev_tr
noncomputable def ku_84 : ev_U := []
noncomputable def kz_85_25 : List ev_K := (25, eh_rz) :: []
noncomputable def kz_85_24 : List ev_K := (24, eh_C 0) :: kz_85_25
noncomputable def kz_85_0 : List ev_K := (0, eh_la 0) :: (1, eh_gR 5 0) :: (4, eh_li 1) :: (5, eh_ia) :: (6, eh_b1 .le 24) :: (9, eh_la 0) :: (10, eh_gR 5 0) :: (13, eh_li 1) :: (14, eh_ia) :: (15, eh_C 15) :: (17, eh_b2 .gt 24) :: (20, eh_C 1) :: (21, eh_go 25) :: kz_85_24
noncomputable def ku_85 : ev_U := [(24, kz_85_24), (25, kz_85_25)]
noncomputable def kz_86_63 : List ev_K := (63, eh_rv) :: []
noncomputable def kz_86_0 : List ev_K := (0, eh_la 0) :: (1, eh_gR 5 6) :: (4, eh_li 2) :: (5, eh_ia) :: (6, eh_si 3) :: (7, eh_la 0) :: (8, eh_gR 5 1) :: (11, eh_li 1) :: (12, eh_la 0) :: (13, eh_gR 5 5) :: (16, eh_li 2) :: (17, eh_ia) :: (18, eh_li 2) :: (19, eh_cl 19 87 2 0) :: (22, eh_is) :: (23, eh_la 0) :: (24, eh_gR 5 5) :: (27, eh_li 2) :: (28, eh_dup2) :: (29, eh_ia) :: (30, eh_C 1) :: (31, eh_2 ef_add) :: (32, eh_is) :: (33, eh_li 3) :: (34, eh_b1 .lt 63) :: (37, eh_li 3) :: (38, eh_la 0) :: (39, eh_gR 5 3) :: (42, eh_al) :: (43, eh_b2 .ge 63) :: (46, eh_la 0) :: (47, eh_gR 5 3) :: (50, eh_li 3) :: (51, eh_li 1) :: (52, eh_is) :: (53, eh_la 0) :: (54, eh_gR 5 6) :: (57, eh_li 2) :: (58, eh_dup2) :: (59, eh_ia) :: (60, eh_C 1) :: (61, eh_2 ef_add) :: (62, eh_is) :: kz_86_63
noncomputable def ku_86 : ev_U := [(63, kz_86_63)]
noncomputable def kz_87_25 : List ev_K := (25, eh_li 2) :: (26, eh_ri) :: []
noncomputable def kz_87_4 : List ev_K := (4, eh_li 3) :: (5, eh_li 1) :: (6, eh_b2 .ge 25) :: (9, eh_li 2) :: (10, eh_C 1) :: (11, eh_2 ef_shl) :: (12, eh_li 0) :: (13, eh_li 3) :: (14, eh_2 ef_shr) :: (15, eh_C 1) :: (16, eh_2 ef_and) :: (17, eh_2 ef_or) :: (18, eh_si 2) :: (19, eh_inc 3 1) :: (22, eh_go 4) :: kz_87_25
noncomputable def kz_87_0 : List ev_K := (0, eh_C 0) :: (1, eh_si 2) :: (2, eh_C 0) :: (3, eh_si 3) :: kz_87_4
noncomputable def ku_87 : ev_U := [(4, kz_87_4), (25, kz_87_25)]
noncomputable def kz_88_0 : List ev_K := (0, eh_la 0) :: (1, eh_oi) :: (4, eh_la 0) :: (5, eh_C 316) :: (8, eh_na 1000) :: (10, eh_pR 6 0) :: (13, eh_la 0) :: (14, eh_C 316) :: (17, eh_na 1000) :: (19, eh_pR 6 3) :: (22, eh_la 0) :: (23, eh_C 316) :: (26, eh_na 1000) :: (28, eh_pR 6 4) :: (31, eh_la 0) :: (32, eh_C 19) :: (34, eh_na 1000) :: (36, eh_pR 6 6) :: (39, eh_rv) :: []
noncomputable def ku_88 : ev_U := []
noncomputable def kz_89_0 : List ev_K := cz_89.map ev_tr
noncomputable def ku_89 : ev_U := []
noncomputable def kz_90_0 : List ev_K := cz_90.map ev_tr
noncomputable def ku_90 : ev_U := []
noncomputable def kz_91_0 : List ev_K := cz_91.map ev_tr
noncomputable def ku_91 : ev_U := []
noncomputable def kz_92_0 : List ev_K := cz_92.map ev_tr
noncomputable def ku_92 : ev_U := []
noncomputable def kz_93_0 : List ev_K := cz_93.map ev_tr
noncomputable def ku_93 : ev_U := []
noncomputable def kz_94_0 : List ev_K := cz_94.map ev_tr
noncomputable def ku_94 : ev_U := []
noncomputable def kz_95_0 : List ev_K := cz_95.map ev_tr
noncomputable def ku_95 : ev_U := []
noncomputable def kz_96_0 : List ev_K := cz_96.map ev_tr
noncomputable def ku_96 : ev_U := []
noncomputable def kz_97_0 : List ev_K := cz_97.map ev_tr
noncomputable def ku_97 : ev_U := []
noncomputable def kz_98_0 : List ev_K := cz_98.map ev_tr
noncomputable def ku_98 : ev_U := []
noncomputable def kz_99_158 : List ev_K := (158, eh_la 0) :: (159, eh_gR 7 1) :: (162, eh_cl 162 82 1 5) :: (165, eh_rv) :: []
noncomputable def kz_99_136 : List ev_K := (136, eh_li 1) :: (137, eh_C 32) :: (139, eh_b2 .ge 158) :: (142, eh_la 0) :: (143, eh_gR 7 1) :: (146, eh_gR 5 0) :: (149, eh_li 1) :: (150, eh_C 5) :: (151, eh_is) :: (152, eh_inc 1 1) :: (155, eh_go 136) :: kz_99_158
noncomputable def kz_99_127 : List ev_K := (127, eh_la 0) :: (128, eh_gR 7 0) :: (131, eh_cl 131 82 1 5) :: (134, eh_C 0) :: (135, eh_si 1) :: kz_99_136
noncomputable def kz_99_103 : List ev_K := (103, eh_li 1) :: (104, eh_C 280) :: (107, eh_b2 .ge 127) :: (110, eh_la 0) :: (111, eh_gR 7 0) :: (114, eh_gR 5 0) :: (117, eh_li 1) :: (118, eh_C 7) :: (120, eh_is) :: (121, eh_inc 1 1) :: (124, eh_go 103) :: kz_99_127
noncomputable def kz_99_99 : List ev_K := (99, eh_C 256) :: (102, eh_si 1) :: kz_99_103
noncomputable def kz_99_75 : List ev_K := (75, eh_li 1) :: (76, eh_C 256) :: (79, eh_b2 .ge 99) :: (82, eh_la 0) :: (83, eh_gR 7 0) :: (86, eh_gR 5 0) :: (89, eh_li 1) :: (90, eh_C 9) :: (92, eh_is) :: (93, eh_inc 1 1) :: (96, eh_go 75) :: kz_99_99
noncomputable def kz_99_0 : List ev_K := (0, eh_la 0) :: (1, eh_oi) :: (4, eh_la 0) :: (5, eh_nw 5 7) :: (8, eh_dup) :: (9, eh_cl 9 80 1 5) :: (12, eh_pR 7 0) :: (15, eh_la 0) :: (16, eh_nw 5 7) :: (19, eh_dup) :: (20, eh_cl 20 80 1 5) :: (23, eh_pR 7 1) :: (26, eh_la 0) :: (27, eh_nw 5 7) :: (30, eh_dup) :: (31, eh_cl 31 80 1 5) :: (34, eh_pR 7 2) :: (37, eh_la 0) :: (38, eh_nw 5 7) :: (41, eh_dup) :: (42, eh_cl 42 80 1 5) :: (45, eh_pR 7 3) :: (48, eh_la 0) :: (49, eh_nw 5 7) :: (52, eh_dup) :: (53, eh_cl 53 80 1 5) :: (56, eh_pR 7 4) :: (59, eh_la 0) :: (60, eh_gR 7 0) :: (63, eh_gR 5 0) :: (66, eh_C 8) :: (68, eh_cl 68 148 2 0) :: (71, eh_C 144) :: (74, eh_si 1) :: kz_99_75
noncomputable def ku_99 : ev_U := [(75, kz_99_75), (99, kz_99_99), (103, kz_99_103), (127, kz_99_127), (136, kz_99_136), (158, kz_99_158)]
noncomputable def kz_100_0 : List ev_K := (0, eh_la 0) :: (1, eh_oi) :: (4, eh_la 0) :: (5, eh_C 288) :: (8, eh_na 1000) :: (10, eh_pR 8 0) :: (13, eh_la 0) :: (14, eh_C 576) :: (17, eh_na 1002) :: (19, eh_pR 8 1) :: (22, eh_la 0) :: (23, eh_C 288) :: (26, eh_na 1002) :: (28, eh_pR 8 2) :: (31, eh_la 0) :: (32, eh_C 576) :: (35, eh_na 1000) :: (37, eh_pR 8 3) :: (40, eh_rv) :: []
noncomputable def ku_100 : ev_U := []
noncomputable def kz_101_0 : List ev_K := cz_101.map ev_tr
noncomputable def ku_101 : ev_U := []
noncomputable def kz_102_0 : List ev_K := cz_102.map ev_tr
noncomputable def ku_102 : ev_U := []
noncomputable def kz_103_0 : List ev_K := cz_103.map ev_tr
noncomputable def ku_103 : ev_U := []
noncomputable def kz_104_0 : List ev_K := cz_104.map ev_tr
noncomputable def ku_104 : ev_U := []
noncomputable def kz_105_0 : List ev_K := cz_105.map ev_tr
noncomputable def ku_105 : ev_U := []
noncomputable def kz_106_0 : List ev_K := cz_106.map ev_tr
noncomputable def ku_106 : ev_U := []
noncomputable def kz_107_0 : List ev_K := cz_107.map ev_tr
noncomputable def ku_107 : ev_U := []
noncomputable def kz_108_0 : List ev_K := (0, eh_la 0) :: (1, eh_oi) :: (4, eh_la 0) :: (5, eh_C 4096) :: (8, eh_na 1000) :: (10, eh_pR 9 0) :: (13, eh_la 0) :: (14, eh_C 6000) :: (17, eh_na 1000) :: (19, eh_pR 9 1) :: (22, eh_rv) :: []
noncomputable def ku_108 : ev_U := []
noncomputable def kz_109_0 : List ev_K := cz_109.map ev_tr
noncomputable def ku_109 : ev_U := []
noncomputable def kz_110_0 : List ev_K := cz_110.map ev_tr
noncomputable def ku_110 : ev_U := []
noncomputable def kz_111_0 : List ev_K := cz_111.map ev_tr
noncomputable def ku_111 : ev_U := []
noncomputable def kz_112_0 : List ev_K := cz_112.map ev_tr
noncomputable def ku_112 : ev_U := []
noncomputable def kz_113_0 : List ev_K := (0, eh_la 0) :: (1, eh_oi) :: (4, eh_la 0) :: (5, eh_nw 11 2) :: (8, eh_dup) :: (9, eh_cl 9 122 1 11) :: (12, eh_pR 10 1) :: (15, eh_la 0) :: (16, eh_nw 4 3) :: (19, eh_dup) :: (20, eh_cl 20 73 1 4) :: (23, eh_pR 10 2) :: (26, eh_la 0) :: (27, eh_nw 9 3) :: (30, eh_dup) :: (31, eh_cl 31 108 1 9) :: (34, eh_pR 10 6) :: (37, eh_la 0) :: (38, eh_nw 6 8) :: (41, eh_dup) :: (42, eh_cl 42 88 1 6) :: (45, eh_pR 10 7) :: (48, eh_la 0) :: (49, eh_C 286) :: (52, eh_na 1000) :: (54, eh_pR 10 8) :: (57, eh_la 0) :: (58, eh_C 30) :: (60, eh_na 1000) :: (62, eh_pR 10 9) :: (65, eh_la 0) :: (66, eh_la 1) :: (67, eh_pR 10 3) :: (70, eh_la 0) :: (71, eh_la 2) :: (72, eh_pR 10 0) :: (75, eh_la 0) :: (76, eh_la 3) :: (77, eh_pR 10 4) :: (80, eh_la 0) :: (81, eh_nw 3 3) :: (84, eh_dup) :: (85, eh_la 2) :: (86, eh_cl 86 67 2 3) :: (89, eh_pR 10 5) :: (92, eh_rv) :: []
noncomputable def ku_113 : ev_U := []
noncomputable def kz_114_0 : List ev_K := cz_114.map ev_tr
noncomputable def ku_114 : ev_U := []
noncomputable def kz_115_0 : List ev_K := cz_115.map ev_tr
noncomputable def ku_115 : ev_U := []
noncomputable def kz_116_0 : List ev_K := cz_116.map ev_tr
noncomputable def ku_116 : ev_U := []
noncomputable def kz_117_0 : List ev_K := cz_117.map ev_tr
noncomputable def ku_117 : ev_U := []
noncomputable def kz_118_0 : List ev_K := cz_118.map ev_tr
noncomputable def ku_118 : ev_U := []
noncomputable def kz_119_0 : List ev_K := cz_119.map ev_tr
noncomputable def ku_119 : ev_U := []
noncomputable def kz_120_0 : List ev_K := cz_120.map ev_tr
noncomputable def ku_120 : ev_U := []
noncomputable def kz_121_0 : List ev_K := cz_121.map ev_tr
noncomputable def ku_121 : ev_U := []
noncomputable def kz_122_0 : List ev_K := (0, eh_la 0) :: (1, eh_oi) :: (4, eh_la 0) :: (5, eh_C 6000) :: (8, eh_na 1000) :: (10, eh_pR 11 0) :: (13, eh_rv) :: []
noncomputable def ku_122 : ev_U := []
noncomputable def kz_123_0 : List ev_K := cz_123.map ev_tr
noncomputable def ku_123 : ev_U := []
noncomputable def kz_124_0 : List ev_K := cz_124.map ev_tr
noncomputable def ku_124 : ev_U := []
noncomputable def kz_125_0 : List ev_K := cz_125.map ev_tr
noncomputable def ku_125 : ev_U := []
noncomputable def kz_126_0 : List ev_K := cz_126.map ev_tr
noncomputable def ku_126 : ev_U := []
noncomputable def kz_127_0 : List ev_K := (0, eh_la 0) :: (1, eh_oi) :: (4, eh_la 0) :: (5, eh_C 6100) :: (8, eh_na 1000) :: (10, eh_pR 12 0) :: (13, eh_rv) :: []
noncomputable def ku_127 : ev_U := []
noncomputable def kz_128_0 : List ev_K := cz_128.map ev_tr
noncomputable def ku_128 : ev_U := []
noncomputable def kz_129_0 : List ev_K := cz_129.map ev_tr
noncomputable def ku_129 : ev_U := []
noncomputable def kz_130_0 : List ev_K := cz_130.map ev_tr
noncomputable def ku_130 : ev_U := []
noncomputable def kz_131_0 : List ev_K := (0, eh_la 0) :: (1, eh_oi) :: (4, eh_la 0) :: (5, eh_C 4294967295) :: (6, eh_pI 13 3) :: (9, eh_la 0) :: (10, eh_C 316) :: (13, eh_na 1000) :: (15, eh_pR 13 5) :: (18, eh_la 0) :: (19, eh_la 1) :: (20, eh_pR 13 4) :: (23, eh_la 0) :: (24, eh_la 2) :: (25, eh_pR 13 0) :: (28, eh_rv) :: []
noncomputable def ku_131 : ev_U := []
noncomputable def kz_132_0 : List ev_K := cz_132.map ev_tr
noncomputable def ku_132 : ev_U := []
noncomputable def kz_133_0 : List ev_K := cz_133.map ev_tr
noncomputable def ku_133 : ev_U := []
noncomputable def kz_134_0 : List ev_K := cz_134.map ev_tr
noncomputable def ku_134 : ev_U := []
noncomputable def kz_135_0 : List ev_K := cz_135.map ev_tr
noncomputable def ku_135 : ev_U := []
noncomputable def kz_136_0 : List ev_K := cz_136.map ev_tr
noncomputable def ku_136 : ev_U := []
noncomputable def kz_137_0 : List ev_K := cz_137.map ev_tr
noncomputable def ku_137 : ev_U := []
noncomputable def kz_138_0 : List ev_K := cz_138.map ev_tr
noncomputable def ku_138 : ev_U := []
noncomputable def kz_139_0 : List ev_K := cz_139.map ev_tr
noncomputable def ku_139 : ev_U := []
noncomputable def kz_140_0 : List ev_K := cz_140.map ev_tr
noncomputable def ku_140 : ev_U := []
noncomputable def kz_141_0 : List ev_K := cz_141.map ev_tr
noncomputable def ku_141 : ev_U := []
noncomputable def kz_142_0 : List ev_K := cz_142.map ev_tr
noncomputable def ku_142 : ev_U := []
noncomputable def kz_143_0 : List ev_K := cz_143.map ev_tr
noncomputable def ku_143 : ev_U := []
noncomputable def kz_144_0 : List ev_K := cz_144.map ev_tr
noncomputable def ku_144 : ev_U := []
noncomputable def kz_145_0 : List ev_K := cz_145.map ev_tr
noncomputable def ku_145 : ev_U := []
noncomputable def kz_146_0 : List ev_K := cz_146.map ev_tr
noncomputable def ku_146 : ev_U := []
noncomputable def kz_147_0 : List ev_K := cz_147.map ev_tr
noncomputable def ku_147 : ev_U := []
noncomputable def kz_148_20 : List ev_K := (20, eh_rv) :: []
noncomputable def kz_148_5 : List ev_K := (5, eh_li 2) :: (6, eh_li 3) :: (7, eh_b2 .ge 20) :: (10, eh_la 0) :: (11, eh_li 2) :: (12, eh_li 1) :: (13, eh_is) :: (14, eh_inc 2 1) :: (17, eh_go 5) :: kz_148_20
noncomputable def kz_148_0 : List ev_K := (0, eh_C 0) :: (1, eh_si 2) :: (2, eh_la 0) :: (3, eh_al) :: (4, eh_si 3) :: kz_148_5
noncomputable def ku_148 : ev_U := [(5, kz_148_5), (20, kz_148_20)]
noncomputable def kz_149_0 : List ev_K := cz_149.map ev_tr
noncomputable def ku_149 : ev_U := []
noncomputable def kz (n : Nat) : ev_U × List ev_K := cond (Nat.blt n 150) (cond (Nat.blt n 75) (cond (Nat.blt n 37) (cond (Nat.blt n 18) (cond (Nat.blt n 9) (cond (Nat.blt n 4) (cond (Nat.blt n 2) (cond (Nat.blt n 1) ((ku_0, kz_0_0)) ((ku_1, kz_1_0))) (cond (Nat.blt n 3) ((ku_2, kz_2_0)) ((ku_3, kz_3_0)))) (cond (Nat.blt n 6) (cond (Nat.blt n 5) ((ku_4, kz_4_0)) ((ku_5, kz_5_0))) (cond (Nat.blt n 7) ((ku_6, kz_6_0)) (cond (Nat.blt n 8) ((ku_7, kz_7_0)) ((ku_8, kz_8_0)))))) (cond (Nat.blt n 13) (cond (Nat.blt n 11) (cond (Nat.blt n 10) ((ku_9, kz_9_0)) ((ku_10, kz_10_0))) (cond (Nat.blt n 12) ((ku_11, kz_11_0)) ((ku_12, kz_12_0)))) (cond (Nat.blt n 15) (cond (Nat.blt n 14) ((ku_13, kz_13_0)) ((ku_14, kz_14_0))) (cond (Nat.blt n 16) ((ku_15, kz_15_0)) (cond (Nat.blt n 17) ((ku_16, kz_16_0)) ((ku_17, kz_17_0))))))) (cond (Nat.blt n 27) (cond (Nat.blt n 22) (cond (Nat.blt n 20) (cond (Nat.blt n 19) ((ku_18, kz_18_0)) ((ku_19, kz_19_0))) (cond (Nat.blt n 21) ((ku_20, kz_20_0)) ((ku_21, kz_21_0)))) (cond (Nat.blt n 24) (cond (Nat.blt n 23) ((ku_22, kz_22_0)) ((ku_23, kz_23_0))) (cond (Nat.blt n 25) ((ku_24, kz_24_0)) (cond (Nat.blt n 26) ((ku_25, kz_25_0)) ((ku_26, kz_26_0)))))) (cond (Nat.blt n 32) (cond (Nat.blt n 29) (cond (Nat.blt n 28) ((ku_27, kz_27_0)) ((ku_28, kz_28_0))) (cond (Nat.blt n 30) ((ku_29, kz_29_0)) (cond (Nat.blt n 31) ((ku_30, kz_30_0)) ((ku_31, kz_31_0))))) (cond (Nat.blt n 34) (cond (Nat.blt n 33) ((ku_32, kz_32_0)) ((ku_33, kz_33_0))) (cond (Nat.blt n 35) ((ku_34, kz_34_0)) (cond (Nat.blt n 36) ((ku_35, kz_35_0)) ((ku_36, kz_36_0)))))))) (cond (Nat.blt n 56) (cond (Nat.blt n 46) (cond (Nat.blt n 41) (cond (Nat.blt n 39) (cond (Nat.blt n 38) ((ku_37, kz_37_0)) ((ku_38, kz_38_0))) (cond (Nat.blt n 40) ((ku_39, kz_39_0)) ((ku_40, kz_40_0)))) (cond (Nat.blt n 43) (cond (Nat.blt n 42) ((ku_41, kz_41_0)) ((ku_42, kz_42_0))) (cond (Nat.blt n 44) ((ku_43, kz_43_0)) (cond (Nat.blt n 45) ((ku_44, kz_44_0)) ((ku_45, kz_45_0)))))) (cond (Nat.blt n 51) (cond (Nat.blt n 48) (cond (Nat.blt n 47) ((ku_46, kz_46_0)) ((ku_47, kz_47_0))) (cond (Nat.blt n 49) ((ku_48, kz_48_0)) (cond (Nat.blt n 50) ((ku_49, kz_49_0)) ((ku_50, kz_50_0))))) (cond (Nat.blt n 53) (cond (Nat.blt n 52) ((ku_51, kz_51_0)) ((ku_52, kz_52_0))) (cond (Nat.blt n 54) ((ku_53, kz_53_0)) (cond (Nat.blt n 55) ((ku_54, kz_54_0)) ((ku_55, kz_55_0))))))) (cond (Nat.blt n 65) (cond (Nat.blt n 60) (cond (Nat.blt n 58) (cond (Nat.blt n 57) ((ku_56, kz_56_0)) ((ku_57, kz_57_0))) (cond (Nat.blt n 59) ((ku_58, kz_58_0)) ((ku_59, kz_59_0)))) (cond (Nat.blt n 62) (cond (Nat.blt n 61) ((ku_60, kz_60_0)) ((ku_61, kz_61_0))) (cond (Nat.blt n 63) ((ku_62, kz_62_0)) (cond (Nat.blt n 64) ((ku_63, kz_63_0)) ((ku_64, kz_64_0)))))) (cond (Nat.blt n 70) (cond (Nat.blt n 67) (cond (Nat.blt n 66) ((ku_65, kz_65_0)) ((ku_66, kz_66_0))) (cond (Nat.blt n 68) ((ku_67, kz_67_0)) (cond (Nat.blt n 69) ((ku_68, kz_68_0)) ((ku_69, kz_69_0))))) (cond (Nat.blt n 72) (cond (Nat.blt n 71) ((ku_70, kz_70_0)) ((ku_71, kz_71_0))) (cond (Nat.blt n 73) ((ku_72, kz_72_0)) (cond (Nat.blt n 74) ((ku_73, kz_73_0)) ((ku_74, kz_74_0))))))))) (cond (Nat.blt n 112) (cond (Nat.blt n 93) (cond (Nat.blt n 84) (cond (Nat.blt n 79) (cond (Nat.blt n 77) (cond (Nat.blt n 76) ((ku_75, kz_75_0)) ((ku_76, kz_76_0))) (cond (Nat.blt n 78) ((ku_77, kz_77_0)) ((ku_78, kz_78_0)))) (cond (Nat.blt n 81) (cond (Nat.blt n 80) ((ku_79, kz_79_0)) ((ku_80, kz_80_0))) (cond (Nat.blt n 82) ((ku_81, kz_81_0)) (cond (Nat.blt n 83) ((ku_82, kz_82_0)) ((ku_83, kz_83_0)))))) (cond (Nat.blt n 88) (cond (Nat.blt n 86) (cond (Nat.blt n 85) ((ku_84, kz_84_0)) ((ku_85, kz_85_0))) (cond (Nat.blt n 87) ((ku_86, kz_86_0)) ((ku_87, kz_87_0)))) (cond (Nat.blt n 90) (cond (Nat.blt n 89) ((ku_88, kz_88_0)) ((ku_89, kz_89_0))) (cond (Nat.blt n 91) ((ku_90, kz_90_0)) (cond (Nat.blt n 92) ((ku_91, kz_91_0)) ((ku_92, kz_92_0))))))) (cond (Nat.blt n 102) (cond (Nat.blt n 97) (cond (Nat.blt n 95) (cond (Nat.blt n 94) ((ku_93, kz_93_0)) ((ku_94, kz_94_0))) (cond (Nat.blt n 96) ((ku_95, kz_95_0)) ((ku_96, kz_96_0)))) (cond (Nat.blt n 99) (cond (Nat.blt n 98) ((ku_97, kz_97_0)) ((ku_98, kz_98_0))) (cond (Nat.blt n 100) ((ku_99, kz_99_0)) (cond (Nat.blt n 101) ((ku_100, kz_100_0)) ((ku_101, kz_101_0)))))) (cond (Nat.blt n 107) (cond (Nat.blt n 104) (cond (Nat.blt n 103) ((ku_102, kz_102_0)) ((ku_103, kz_103_0))) (cond (Nat.blt n 105) ((ku_104, kz_104_0)) (cond (Nat.blt n 106) ((ku_105, kz_105_0)) ((ku_106, kz_106_0))))) (cond (Nat.blt n 109) (cond (Nat.blt n 108) ((ku_107, kz_107_0)) ((ku_108, kz_108_0))) (cond (Nat.blt n 110) ((ku_109, kz_109_0)) (cond (Nat.blt n 111) ((ku_110, kz_110_0)) ((ku_111, kz_111_0)))))))) (cond (Nat.blt n 131) (cond (Nat.blt n 121) (cond (Nat.blt n 116) (cond (Nat.blt n 114) (cond (Nat.blt n 113) ((ku_112, kz_112_0)) ((ku_113, kz_113_0))) (cond (Nat.blt n 115) ((ku_114, kz_114_0)) ((ku_115, kz_115_0)))) (cond (Nat.blt n 118) (cond (Nat.blt n 117) ((ku_116, kz_116_0)) ((ku_117, kz_117_0))) (cond (Nat.blt n 119) ((ku_118, kz_118_0)) (cond (Nat.blt n 120) ((ku_119, kz_119_0)) ((ku_120, kz_120_0)))))) (cond (Nat.blt n 126) (cond (Nat.blt n 123) (cond (Nat.blt n 122) ((ku_121, kz_121_0)) ((ku_122, kz_122_0))) (cond (Nat.blt n 124) ((ku_123, kz_123_0)) (cond (Nat.blt n 125) ((ku_124, kz_124_0)) ((ku_125, kz_125_0))))) (cond (Nat.blt n 128) (cond (Nat.blt n 127) ((ku_126, kz_126_0)) ((ku_127, kz_127_0))) (cond (Nat.blt n 129) ((ku_128, kz_128_0)) (cond (Nat.blt n 130) ((ku_129, kz_129_0)) ((ku_130, kz_130_0))))))) (cond (Nat.blt n 140) (cond (Nat.blt n 135) (cond (Nat.blt n 133) (cond (Nat.blt n 132) ((ku_131, kz_131_0)) ((ku_132, kz_132_0))) (cond (Nat.blt n 134) ((ku_133, kz_133_0)) ((ku_134, kz_134_0)))) (cond (Nat.blt n 137) (cond (Nat.blt n 136) ((ku_135, kz_135_0)) ((ku_136, kz_136_0))) (cond (Nat.blt n 138) ((ku_137, kz_137_0)) (cond (Nat.blt n 139) ((ku_138, kz_138_0)) ((ku_139, kz_139_0)))))) (cond (Nat.blt n 145) (cond (Nat.blt n 142) (cond (Nat.blt n 141) ((ku_140, kz_140_0)) ((ku_141, kz_141_0))) (cond (Nat.blt n 143) ((ku_142, kz_142_0)) (cond (Nat.blt n 144) ((ku_143, kz_143_0)) ((ku_144, kz_144_0))))) (cond (Nat.blt n 147) (cond (Nat.blt n 146) ((ku_145, kz_145_0)) ((ku_146, kz_146_0))) (cond (Nat.blt n 148) ((ku_147, kz_147_0)) (cond (Nat.blt n 149) ((ku_148, kz_148_0)) ((ku_149, kz_149_0)))))))))) ([], [])
end
section
/-! THE EVALUATOR IS RIGHT. First: its numbers. -/
theorem ev_u_lt (x : Int32) : ev_u x < 4294967296 := x.toBitVec.isLt
theorem ev_u_inj {x y : Int32} (h : ev_u x = ev_u y) : x = y := Int32.toBitVec.inj (BitVec.eq_of_toNat_eq h)
theorem ev_w_inj {x y : Int64} (h : ev_w x = ev_w y) : x = y := Int64.toBitVec.inj (BitVec.eq_of_toNat_eq h)
theorem ev_i_u (x : Int32) : ev_i (ev_u x) = x := by
  apply ev_u_inj
  show (BitVec.ofNat 32 x.toBitVec.toNat).toNat = x.toBitVec.toNat
  rw [BitVec.ofNat_toNat]; simp
theorem ev_j_w (x : Int64) : ev_j (ev_w x) = x := by
  apply ev_w_inj
  show (BitVec.ofNat 64 x.toBitVec.toNat).toNat = x.toBitVec.toNat
  rw [BitVec.ofNat_toNat]; simp
theorem ef_add_ok (x y : Int32) : ev_u (x + y) = ef_add (ev_u x) (ev_u y) := by
  show (x + y).toBitVec.toNat = _
  rw [Int32.toBitVec_add, BitVec.toNat_add]; rfl
theorem ef_sub_ok (x y : Int32) : ev_u (x - y) = ef_sub (ev_u x) (ev_u y) := by
  show (x - y).toBitVec.toNat = _
  rw [Int32.toBitVec_sub, BitVec.toNat_sub]
  show (2 ^ 32 - y.toBitVec.toNat + x.toBitVec.toNat) % 2 ^ 32 = (x.toBitVec.toNat + (4294967296 - y.toBitVec.toNat)) % 4294967296
  rw [Nat.add_comm]
theorem ef_mul_ok (x y : Int32) : ev_u (x * y) = ef_mul (ev_u x) (ev_u y) := by
  show (x * y).toBitVec.toNat = _
  rw [Int32.toBitVec_mul, BitVec.toNat_mul]; rfl
theorem ef_and_ok (x y : Int32) : ev_u (x &&& y) = ef_and (ev_u x) (ev_u y) := by
  show (x &&& y).toBitVec.toNat = _
  rw [Int32.toBitVec_and, BitVec.toNat_and]; rfl
theorem ef_or_ok (x y : Int32) : ev_u (x ||| y) = ef_or (ev_u x) (ev_u y) := by
  show (x ||| y).toBitVec.toNat = _
  rw [Int32.toBitVec_or, BitVec.toNat_or]; rfl
theorem ef_xor_ok (x y : Int32) : ev_u (x ^^^ y) = ef_xor (ev_u x) (ev_u y) := by
  show (x ^^^ y).toBitVec.toNat = _
  rw [Int32.toBitVec_xor, BitVec.toNat_xor]; rfl
theorem ef_shl_ok (x y : Int32) : ev_u (x <<< (y &&& 31)) = ef_shl (ev_u x) (ev_u y) := by
  unfold ef_shl; rw [ev_i_u, ev_i_u]
theorem ef_shr_ok (x y : Int32) : ev_u (x >>> (y &&& 31)) = ef_shr (ev_u x) (ev_u y) := by
  unfold ef_shr; rw [ev_i_u, ev_i_u]
theorem ef_ushr_ok (x y : Int32) : ev_u ((x.toUInt32 >>> (y.toUInt32 &&& Int32.toUInt32 31)).toInt32) = ef_ushr (ev_u x) (ev_u y) := by
  unfold ef_ushr; rw [ev_i_u, ev_i_u]
theorem ev_e_toInt (x : Int32) : (ev_e (ev_u x) : Int) = x.toInt + 2147483648 := by
  have h1 := ev_u_lt x
  have h2 : x.toInt = if 2 * ev_u x < 4294967296 then (ev_u x : Int) else (ev_u x : Int) - 4294967296 := by
    show x.toBitVec.toInt = _
    rw [BitVec.toInt_eq_toNat_cond]; rfl
  have h3 : ev_e (ev_u x) = (ev_u x + 2147483648) % 4294967296 := rfl
  rw [h2, h3]
  split <;> omega
theorem ev_lt_iff (x y : Int32) : x < y ↔ ev_e (ev_u x) < ev_e (ev_u y) := by
  rw [Int32.lt_iff_toInt_lt]
  have h1 := ev_e_toInt x
  have h2 := ev_e_toInt y
  omega
theorem ev_le_iff (x y : Int32) : x ≤ y ↔ ev_e (ev_u x) ≤ ev_e (ev_u y) := by
  rw [Int32.le_iff_toInt_le]
  have h1 := ev_e_toInt x
  have h2 := ev_e_toInt y
  omega
theorem ev_eq_iff (x y : Int32) : x = y ↔ ev_e (ev_u x) = ev_e (ev_u y) := by
  constructor
  · rintro rfl; rfl
  · intro h
    have h1 := ev_e_toInt x
    have h2 := ev_e_toInt y
    exact Int32.toInt_inj.mp (by omega)
theorem ev_nI {x : Int32} {n : Nat} (h : ev_u x = n) (hn : n < 2147483648) : x = nI n := by
  apply ev_u_inj
  rw [h]
  show n = (Int32.ofNat n).toBitVec.toNat
  rw [Int32.toBitVec_ofNat']
  simp only [BitVec.toNat_ofNat]
  omega
theorem ev_u_nI {n : Nat} (hn : n < 4294967296) : ev_u (nI n) = n := by
  show (Int32.ofNat n).toBitVec.toNat = n
  rw [Int32.toBitVec_ofNat']
  simp only [BitVec.toNat_ofNat]
  omega
theorem ev_f_eq {α : Type} (n : Nat) (c : Nat → α) : ev_f n c = c n := by cases n <;> rfl
theorem ev_cond {α : Type} {b : Bool} {x : Option α} {r : α} (h : cond b x none = some r) : b = true ∧ x = some r := by
  cases b with
  | true => exact ⟨rfl, h⟩
  | false => cases h
theorem ev_cond' {α : Type} {b : Bool} {x : Option α} {r : α} (h : cond b none x = some r) : b = false ∧ x = some r := by
  cases b with
  | false => exact ⟨rfl, h⟩
  | true => cases h
theorem ev_and {a b : Bool} (h : and a b = true) : a = true ∧ b = true := by
  cases a <;> cases b <;> simp_all
/-! trees -/
noncomputable def ev_ps (D : Nat) (t : ev_X) (k : Nat) (v : ev_X) : ev_X := match D with
  | 0 => v
  | D + 1 => match t with
    | .add l r => if k % 2 = 0 then .add (ev_ps D l (k / 2) v) r else .add l (ev_ps D r (k / 2) v)
    | w => if k % 2 = 0 then .add (ev_ps D w (k / 2) v) w else .add w (ev_ps D w (k / 2) v)
theorem ev_beq (k n : Nat) : Nat.beq k n = decide (k = n) := by
  cases h : Nat.beq k n with
  | true => simp [Nat.eq_of_beq_eq_true h]
  | false => simp [Nat.ne_of_beq_eq_false h]
theorem ev_condm {α : Type} (k : Nat) (x y : α) : cond (Nat.beq (Nat.mod k 2) 0) x y = if k % 2 = 0 then x else y := by
  rw [ev_beq]
  show cond (decide (k % 2 = 0)) x y = _
  by_cases h : k % 2 = 0 <;> simp [h]
theorem ev_s_eq {α : Type} : ∀ (D : Nat) (t : ev_X) (k : Nat) (v : ev_X) (c : ev_X → α), ev_s D t k v c = c (ev_ps D t k v)
  | 0, _, _, _, _ => rfl
  | D + 1, t, k, v, c => by
    have ih := @ev_s_eq α D
    have key : ∀ l r : ev_X, cond (Nat.beq (Nat.mod k 2) 0) (ev_s D l (k / 2) v (fun l' => c (.add l' r))) (ev_s D r (k / 2) v (fun r' => c (.add l r'))) = c (if k % 2 = 0 then .add (ev_ps D l (k / 2) v) r else .add l (ev_ps D r (k / 2) v)) := by
      intro l r
      rw [ev_condm, ih, ih]
      by_cases h : k % 2 = 0 <;> simp only [h, ↓reduceIte]
    cases t with
    | add l r => exact key l r
    | num n => exact key (.num n) (.num n)
    | var n => exact key (.var n) (.var n)
    | mul a b => exact key (.mul a b) (.mul a b)
/-- what a tree reads -/
def ev_Rd {α : Type} (R : ev_X → Nat → α) : Prop := (∀ l r k, R (.add l r) k = if k % 2 = 0 then R l (k / 2) else R r (k / 2)) ∧ (∀ n j k, R (.num n) j = R (.num n) k) ∧ (∀ n j k, R (.var n) j = R (.var n) k) ∧ (∀ a b j k, R (.mul a b) j = R (.mul a b) k)
theorem ev_Rd_g : ev_Rd ev_g := ⟨fun l r k => ev_condm k _ _, fun _ _ _ => rfl, fun _ _ _ => rfl, fun _ _ _ _ => rfl⟩
theorem ev_Rd_gc : ev_Rd ev_gc := ⟨fun l r k => ev_condm k _ _, fun _ _ _ => rfl, fun _ _ _ => rfl, fun _ _ _ _ => rfl⟩
theorem ev_ps_get {α : Type} {R : ev_X → Nat → α} (hR : ev_Rd R) {v : ev_X} (hv : ∀ j k, R v j = R v k) : ∀ (D : Nat) (t : ev_X) (k j : Nat), k < 2 ^ D → j < 2 ^ D → R (ev_ps D t k v) j = if j = k then R v 0 else R t j
  | 0, t, k, j, hk, hj => by
    have : j = k := by omega
    simp only [this, ↓reduceIte]; exact hv _ _
  | D + 1, t, k, j, hk, hj => by
    have ih := ev_ps_get hR hv D
    have h1 : k / 2 < 2 ^ D := by rw [Nat.pow_succ] at hk; omega
    have h2 : j / 2 < 2 ^ D := by rw [Nat.pow_succ] at hj; omega
    have key : ∀ l r : ev_X, (∀ k, (if k % 2 = 0 then R l (k / 2) else R r (k / 2)) = R t k) → R (if k % 2 = 0 then .add (ev_ps D l (k / 2) v) r else .add l (ev_ps D r (k / 2) v)) j = if j = k then R v 0 else R t j := by
      intro l r hw
      have hwj := hw j
      by_cases hk2 : k % 2 = 0
      · simp only [hk2, ↓reduceIte]
        rw [hR.1]
        by_cases hj2 : j % 2 = 0
        · simp only [hj2, ↓reduceIte] at hwj ⊢
          rw [ih l _ _ h1 h2, hwj]
          have : (j / 2 = k / 2) = (j = k) := by simp; omega
          simp only [this]
        · simp only [hj2, ↓reduceIte] at hwj ⊢
          have : ¬ j = k := by omega
          simp only [this, ↓reduceIte, hwj]
      · simp only [hk2, ↓reduceIte]
        rw [hR.1]
        by_cases hj2 : j % 2 = 0
        · simp only [hj2, ↓reduceIte] at hwj ⊢
          have : ¬ j = k := by omega
          simp only [this, ↓reduceIte, hwj]
        · simp only [hj2, ↓reduceIte] at hwj ⊢
          rw [ih r _ _ h1 h2, hwj]
          have : (j / 2 = k / 2) = (j = k) := by simp; omega
          simp only [this]
    cases t with
    | add l r => exact key l r (fun k => (hR.1 l r k).symm)
    | num n => exact key (.num n) (.num n) (fun k => by split <;> exact hR.2.1 _ _ _)
    | var n => exact key (.var n) (.var n) (fun k => by split <;> exact hR.2.2.1 _ _ _)
    | mul a b => exact key (.mul a b) (.mul a b) (fun k => by split <;> exact hR.2.2.2 _ _ _ _)

/-! what the evaluator's values, locals, stacks and heaps stand for -/
def ev_v (x : ev_X) (v : Value) : Prop := match x with
  | .num n => ∃ y, v = .int y ∧ ev_u y = n
  | .add a b => ∃ y, v = .int y ∧ ev_n a ≤ ev_e (ev_u y) ∧ ev_e (ev_u y) ≤ ev_n b
  | .var p => v = .ref p
  | .mul (.num j) _ => v = .retAddr j
  | .mul (.var n) _ => ∃ y, v = .long y ∧ ev_w y = n
  | _ => False
def ev_gs : List ev_X → List Value → Prop
  | [], [] => True
  | x :: r, v :: r' => ev_v x v ∧ ev_gs r r'
  | _, _ => False
def ev_lv (x : Option ev_X) (v : Option Value) : Prop := match x with
  | none => True
  | some x => ∃ w, v = some w ∧ ev_v x w
def ev_gl : ev_L → List (Option Value) → Prop
  | [], [] => True
  | x :: r, v :: r' => ev_lv x v ∧ ev_gl r r'
  | _, _ => False
def ev_gi (n : Nat) (x : Int32) : Prop := n < 4294967296 → ev_u x = n
/-- how many places a cell has -/
noncomputable def ev_sz (tag len : Nat) : Nat := cond (Nat.blt tag 1000) 128 len
theorem ev_szl {tag len k : Nat} (h : k < ev_sz tag len) : k < 2 ^ ev_dp tag len := by
  unfold ev_sz at h
  unfold ev_dp
  cases hb : Nat.blt tag 1000 with
  | true => rw [hb] at h; exact h
  | false => rw [hb] at h; exact Nat.lt_trans h Nat.lt_log2_self
def ev_ce (tag len : Nat) (ai al ar : ev_X) (h : ez_H) (p : Nat) : Prop := ez_t h p = tag ∧ ez_l h p = len ∧ ∀ k, k < ev_sz tag len → ev_gi (ev_g ai k) (ez_I h p k) ∧ ev_w (ez_L h p k) = ev_g al k ∧ ez_R h p k = ev_g ar k
def ev_cel (w : ev_X) (h : ez_H) (p : Nat) : Prop := match w with
  | .mul (.add (.num tag) (.num len)) (.add ai (.add al ar)) => ev_ce tag len ai al ar h p
  | _ => True
def ev_rel (S : ev_S) (h : ez_H) : Prop := ez_n h = S.1 ∧ ez_u h = S.2.1 ∧ ∀ p, p < 128 → ev_cel (ev_gc S.2.2 p) h p
def ev_go (o : Option ev_X ⊕ Nat) (o' : ez_O) : Prop := match o, o' with
  | .inl none, .inl none => True
  | .inl (some x), .inl (some v) => ev_v x v
  | .inr a, .inr b => a = b
  | _, _ => False
def ev_scr (sc : List ev_X) (E : Nat → Nat × (Nat → Int32)) : Prop := (0 < sc.length → (E 0).1 = sc.length) ∧ (∀ n, n < sc.length → ev_v (sc.getD n (.var 0)) (.int ((E 0).2 n))) ∧ ∀ j, E (j + 1) = ((tz_ar (j + 1)).length, fun i => (tz_ar (j + 1)).getD i 0)
theorem ev_gs_cons {x : ev_X} {r : List ev_X} {st : List Value} (h : ev_gs (x :: r) st) : ∃ v r', st = v :: r' ∧ ev_v x v ∧ ev_gs r r' := by
  cases st with
  | nil => exact absurd h id
  | cons v r' => exact ⟨v, r', rfl, h.1, h.2⟩
theorem ev_gs_nil {st : List Value} (h : ev_gs [] st) : st = [] := by
  cases st with
  | nil => rfl
  | cons v r' => exact absurd h id
theorem ev_gi_hv {n : Nat} {x : Int32} (h : ev_gi n x) {c : ev_X → ev_R} {r : (Option ev_X ⊕ Nat) × ev_S} (H : ev_hv n c = some r) : ∃ y : ev_X, c y = some r ∧ ev_v y (.int x) := by
  unfold ev_hv at H
  cases hb : Nat.blt n 4294967296 with
  | true =>
    rw [hb] at H
    exact ⟨_, H, x, rfl, h (Nat.blt_eq.mp hb)⟩
  | false =>
    rw [hb] at H
    refine ⟨_, H, x, rfl, Nat.zero_le _, ?_⟩
    show (ev_u x + 2147483648) % 4294967296 ≤ 4294967295
    omega
theorem ev_top_v (x : Int32) : ev_v ev_top (.int x) := ⟨x, rfl, Nat.zero_le _, by
  show (ev_u x + 2147483648) % 4294967296 ≤ 4294967295
  omega⟩
/-! locals -/
theorem ev_gl_nth : ∀ {ls : ev_L} {ls' : List (Option Value)} (k : Nat), ev_gl ls ls' → ev_lv (ev_nth ls k) (ls'.getD k none)
  | [], [], k, _ => trivial
  | x :: r, v :: r', 0, h => h.1
  | x :: r, v :: r', k + 1, h => by
    have := ev_gl_nth (ls := r) (ls' := r') k h.2
    show ev_lv (ev_nth r k) _
    simpa using this
  | [], _ :: _, _, h => absurd h id
  | _ :: _, [], _, h => absurd h id
noncomputable def ev_pl : ev_L → Nat → Option ev_X → ev_L
  | [], _, _ => []
  | a :: r, 0, v => v :: r
  | a :: r, k + 1, v => a :: ev_pl r k v
theorem ev_lset_eq : ∀ (ls : ev_L) (k : Nat) (v : Option ev_X) (c : ev_L → ev_R), ev_lset ls k v c = c (ev_pl ls k v)
  | [], _, _, _ => rfl
  | a :: r, 0, v, c => rfl
  | a :: r, k + 1, v, c => ev_lset_eq r k v (fun r' => c (a :: r'))
theorem ev_gl_set : ∀ {ls : ev_L} {ls' : List (Option Value)} (k : Nat) {x : Option ev_X} {v : Option Value}, ev_gl ls ls' → ev_lv x v → ev_gl (ev_pl ls k x) (ls'.set k v)
  | [], [], k, _, _, _, _ => trivial
  | x :: r, v :: r', 0, _, _, h, hx => ⟨hx, h.2⟩
  | x :: r, v :: r', k + 1, _, _, h, hx => ⟨h.1, ev_gl_set k h.2 hx⟩
  | [], _ :: _, _, _, _, h, _ => absurd h id
  | _ :: _, [], _, _, _, h, _ => absurd h id
theorem ev_gl_none : ∀ {ls : ev_L} {ls' : List (Option Value)} (k : Nat), ev_nth ls k = none → ev_gl ls ls' → ev_gl ls (ls'.set k none)
  | [], [], k, _, _ => trivial
  | x :: r, v :: r', 0, h1, h => ⟨by have h1 : x = none := h1; rw [h1]; trivial, h.2⟩
  | x :: r, v :: r', k + 1, h1, h => ⟨h.1, ev_gl_none k h1 h.2⟩
  | [], _ :: _, _, _, h => absurd h id
  | _ :: _, [], _, _, h => absurd h id
theorem ev_cut_ok {ls : ev_L} {ls' : List (Option Value)} {k : Nat} {c : ev_L → ev_R} {r : (Option ev_X ⊕ Nat) × ev_S} (H : ev_cut ls k c = some r) (hl : ev_gl ls ls') : ∃ l, c l = some r ∧ ev_gl l (ez_cut ls' k) := by
  cases k with
  | zero => exact ⟨ls, H, hl⟩
  | succ j =>
    have hn := ev_gl_nth j hl
    unfold ev_cut at H
    unfold ez_cut
    dsimp only at H ⊢
    cases hj : ev_nth ls j with
    | none =>
      rw [hj] at H
      refine ⟨ls, H, ?_⟩
      split
      · exact ev_gl_none j hj hl
      · exact ev_gl_none j hj hl
      · exact hl
    | some x =>
      rw [hj] at H hn
      obtain ⟨w, hw, hx⟩ := hn
      simp only [hw]
      cases x with
      | num n => obtain ⟨y, rfl, -⟩ := hx; exact ⟨ls, H, hl⟩
      | add a b => obtain ⟨y, rfl, -⟩ := hx; exact ⟨ls, H, hl⟩
      | var p => cases hx; exact ⟨ls, H, hl⟩
      | mul a b =>
        cases a with
        | num j' => cases hx; exact ⟨ls, H, hl⟩
        | var n =>
          obtain ⟨y, rfl, -⟩ := hx
          have H : ev_lset ls j none c = some r := H
          rw [ev_lset_eq] at H
          exact ⟨_, H, ev_gl_set j hl trivial⟩
        | add _ _ => exact absurd hx id
        | mul _ _ => exact absurd hx id
theorem ev_ss_ok {ls : ev_L} {ls' : List (Option Value)} {k : Nat} {x : ev_X} {v : Value} {c : ev_L → ev_R} {r : (Option ev_X ⊕ Nat) × ev_S} (H : ev_ss ls k x c = some r) (hl : ev_gl ls ls') (hx : ev_v x v) : ∃ l, c l = some r ∧ ev_gl l ((ez_cut ls' k).set k (some v)) := by
  unfold ev_ss at H
  obtain ⟨l, H, h1⟩ := ev_cut_ok H hl
  rw [ev_lset_eq] at H
  exact ⟨_, H, ev_gl_set k h1 ⟨v, rfl, hx⟩⟩
/-! cells -/
theorem ev_cl_ok {S : ev_S} {p : Nat} {c : Nat → Nat → ev_X → ev_X → ev_X → ev_R} {r : (Option ev_X ⊕ Nat) × ev_S} {h : ez_H} (H : ev_cl S p c = some r) (hr : ev_rel S h) : ∃ tag len ai al ar, p < 128 ∧ c tag len ai al ar = some r ∧ ev_ce tag len ai al ar h p := by
  unfold ev_cl at H
  obtain ⟨h1, H⟩ := ev_cond H
  have hp : p < 128 := Nat.blt_eq.mp h1
  have hc := hr.2.2 p hp
  unfold ev_op1 at H
  split at H
  · rename_i tag len ai al ar hw
    rw [hw] at hc
    exact ⟨tag, len, ai, al, ar, hp, H, hc⟩
  · cases H
theorem ev_pc_ok {S : ev_S} {p tag len : Nat} {ai al ar : ev_X} {c : ev_S → ev_R} {h h' : ez_H} (hr : ev_rel S h) (hp : p < 128) (hn : ez_n h' = ez_n h) (hu : ez_u h' = ez_u h) (ho : ∀ q, q ≠ p → ez_t h' q = ez_t h q ∧ ez_l h' q = ez_l h q ∧ ez_I h' q = ez_I h q ∧ ez_L h' q = ez_L h q ∧ ez_R h' q = ez_R h q) (hc : ev_ce tag len ai al ar h' p) : ∃ S', ev_pc S p tag len ai al ar c = c S' ∧ ev_rel S' h' := by
  refine ⟨_, ev_s_eq 7 _ _ _ _, by rw [hn]; exact hr.1, by rw [hu]; exact hr.2.1, fun q hq => ?_⟩
  show ev_cel (ev_gc (ev_ps 7 S.2.2 p _) q) h' q
  rw [ev_ps_get ev_Rd_gc (fun _ _ => rfl) 7 _ _ _ hp hq]
  by_cases hqp : q = p
  · subst hqp
    simp only [↓reduceIte]
    exact hc
  · simp only [hqp, ↓reduceIte]
    obtain ⟨a1, a2, a3, a4, a5⟩ := ho q hqp
    have := hr.2.2 q hq
    unfold ev_cel at this ⊢
    split
    · rename_i hw
      rw [hw] at this
      unfold ev_ce at this ⊢
      rw [a1, a2, a3, a4, a5]
      exact this
    · trivial
/-- an int, a long, a reference of a cell is set -/
theorem ev_setI_ok {S : ev_S} {p tag len k n : Nat} {ai al ar : ev_X} {c : ev_S → ev_R} {h : ez_H} {x : Int32} {r : (Option ev_X ⊕ Nat) × ev_S} (hr : ev_rel S h) (hp : p < 128) (hc : ev_ce tag len ai al ar h p) (hk : k < ev_sz tag len) (hx : ev_gi n x) (H : ev_s (ev_dp tag len) ai k (.num n) (fun ai => ev_pc S p tag len ai al ar c) = some r) : ∃ S', c S' = some r ∧ ev_rel S' (ez_setI h p k x) := by
  rw [ev_s_eq] at H
  obtain ⟨S', e, hS⟩ := ev_pc_ok (S := S) (c := c) (tag := tag) (len := len) (ai := ev_ps (ev_dp tag len) ai k (.num n)) (al := al) (ar := ar) (h' := ez_setI h p k x) hr hp rfl rfl (fun q hq => ⟨rfl, rfl, by
    funext j
    show ez_up2 (ez_I h) p k x q j = _
    unfold ez_up2
    simp only [hq, ↓reduceIte], rfl, rfl⟩) ⟨hc.1, hc.2.1, fun j hj => by
    obtain ⟨b1, b2, b3⟩ := hc.2.2 j hj
    refine ⟨?_, b2, b3⟩
    rw [ev_ps_get ev_Rd_g (fun _ _ => rfl) _ _ _ _ (ev_szl hk) (ev_szl hj)]
    show ev_gi _ (ez_up2 (ez_I h) p k x p j)
    unfold ez_up2
    by_cases hjk : j = k
    · simp only [hjk, ↓reduceIte]; exact hx
    · simp only [hjk, ↓reduceIte]; exact b1⟩
  rw [e] at H; exact ⟨S', H, hS⟩
theorem ev_setL_ok {S : ev_S} {p tag len k n : Nat} {ai al ar : ev_X} {c : ev_S → ev_R} {h : ez_H} {x : Int64} {r : (Option ev_X ⊕ Nat) × ev_S} (hr : ev_rel S h) (hp : p < 128) (hc : ev_ce tag len ai al ar h p) (hk : k < ev_sz tag len) (hx : ev_w x = n) (H : ev_s (ev_dp tag len) al k (.num n) (fun al => ev_pc S p tag len ai al ar c) = some r) : ∃ S', c S' = some r ∧ ev_rel S' (ez_setL h p k x) := by
  rw [ev_s_eq] at H
  obtain ⟨S', e, hS⟩ := ev_pc_ok (S := S) (c := c) (tag := tag) (len := len) (ai := ai) (al := ev_ps (ev_dp tag len) al k (.num n)) (ar := ar) (h' := ez_setL h p k x) hr hp rfl rfl (fun q hq => ⟨rfl, rfl, rfl, by
    funext j
    show ez_up2 (ez_L h) p k x q j = _
    unfold ez_up2
    simp only [hq, ↓reduceIte], rfl⟩) ⟨hc.1, hc.2.1, fun j hj => by
    obtain ⟨b1, b2, b3⟩ := hc.2.2 j hj
    refine ⟨b1, ?_, b3⟩
    rw [ev_ps_get ev_Rd_g (fun _ _ => rfl) _ _ _ _ (ev_szl hk) (ev_szl hj)]
    show ev_w (ez_up2 (ez_L h) p k x p j) = _
    unfold ez_up2
    by_cases hjk : j = k
    · simp only [hjk, ↓reduceIte]; exact hx
    · simp only [hjk, ↓reduceIte]; exact b2⟩
  rw [e] at H; exact ⟨S', H, hS⟩
theorem ev_setR_ok {S : ev_S} {p tag len k n : Nat} {ai al ar : ev_X} {c : ev_S → ev_R} {h : ez_H} {r : (Option ev_X ⊕ Nat) × ev_S} (hr : ev_rel S h) (hp : p < 128) (hc : ev_ce tag len ai al ar h p) (hk : k < ev_sz tag len) (H : ev_s (ev_dp tag len) ar k (.num n) (fun ar => ev_pc S p tag len ai al ar c) = some r) : ∃ S', c S' = some r ∧ ev_rel S' (ez_setR h p k n) := by
  rw [ev_s_eq] at H
  obtain ⟨S', e, hS⟩ := ev_pc_ok (S := S) (c := c) (tag := tag) (len := len) (ai := ai) (al := al) (ar := ev_ps (ev_dp tag len) ar k (.num n)) (h' := ez_setR h p k n) hr hp rfl rfl (fun q hq => ⟨rfl, rfl, rfl, rfl, by
    funext j
    show ez_up2 (ez_R h) p k n q j = _
    unfold ez_up2
    simp only [hq, ↓reduceIte]⟩) ⟨hc.1, hc.2.1, fun j hj => by
    obtain ⟨b1, b2, b3⟩ := hc.2.2 j hj
    refine ⟨b1, b2, ?_⟩
    rw [ev_ps_get ev_Rd_g (fun _ _ => rfl) _ _ _ _ (ev_szl hk) (ev_szl hj)]
    show ez_up2 (ez_R h) p k n p j = _
    unfold ez_up2
    by_cases hjk : j = k
    · simp only [hjk, ↓reduceIte]; rfl
    · simp only [hjk, ↓reduceIte]; exact b3⟩
  rw [e] at H; exact ⟨S', H, hS⟩
/-- a new cell -/
theorem ev_nw_ok {tag len sl : Nat} {S : ev_S} {c : Nat → ev_S → ev_R} {h : ez_H} {r : (Option ev_X ⊕ Nat) × ev_S} (hr : ev_rel S h) (H : ev_nw tag len sl S c = some r) : (ez_n h + 1 ≤ ez_MC ∧ ez_u h + sl ≤ ez_MS) ∧ ∃ S', c (ez_n h + 1) S' = some r ∧ ev_rel S' (ez_new h tag len sl) := by
  unfold ev_nw at H
  obtain ⟨hb, H⟩ := ev_cond H
  obtain ⟨h1, h2⟩ := ev_and hb
  have h1 : S.1 + 2 ≤ 128 := Nat.ble_eq.mp h1
  have h2 : S.2.1 + sl ≤ ez_MS := Nat.ble_eq.mp h2
  rw [ev_f_eq, ev_f_eq, ev_s_eq] at H
  refine ⟨⟨by rw [hr.1]; unfold ez_MC; omega, by rw [hr.2.1]; exact h2⟩, ?_⟩
  rw [hr.1]
  refine ⟨_, H, ?_, ?_, fun q hq => ?_⟩
  · show ez_n h + 1 = Nat.succ S.1; rw [hr.1]
  · show ez_u h + sl = Nat.add S.2.1 sl; rw [hr.2.1]; rfl
  · show ev_cel (ev_gc (ev_ps 7 S.2.2 (Nat.succ S.1) _) q) _ q
    rw [ev_ps_get ev_Rd_gc (fun _ _ => rfl) 7 _ _ _ (by show S.1 + 1 < 128; omega) hq]
    have e1 : ez_n h + 1 = Nat.succ S.1 := by rw [hr.1]
    by_cases hqp : q = Nat.succ S.1
    · simp only [hqp, ↓reduceIte]
      show ev_ce tag len (.num 0) (.num 0) (.num 0) _ _
      have e2 : ∀ {α : Type} (f : Nat → α) (v : α), ez_up f (ez_n h + 1) v (Nat.succ S.1) = v := fun f v => by unfold ez_up; simp only [e1, ↓reduceIte]
      have e3 : ∀ {α : Type} (f : Nat → Nat → α) (g : Nat → α), ez_row f (ez_n h + 1) g (Nat.succ S.1) = g := fun f v => by unfold ez_row; simp only [e1, ↓reduceIte]
      refine ⟨e2 _ _, e2 _ _, fun k _ => ⟨fun _ => ?_, ?_, ?_⟩⟩
      · show ev_u (ez_row (ez_I h) (ez_n h + 1) (fun _ => 0) (Nat.succ S.1) k) = 0
        rw [e3]; rfl
      · show ev_w (ez_row (ez_L h) (ez_n h + 1) (fun _ => 0) (Nat.succ S.1) k) = 0
        rw [e3]; rfl
      · show ez_row (ez_R h) (ez_n h + 1) (fun _ => 0) (Nat.succ S.1) k = 0
        rw [e3]
    · simp only [hqp, ↓reduceIte]
      have := hr.2.2 q hq
      have e2 : ∀ {α : Type} (f : Nat → α) (v : α), ez_up f (ez_n h + 1) v q = f q := fun f v => by unfold ez_up; simp only [e1, hqp, ↓reduceIte]
      have e3 : ∀ {α : Type} (f : Nat → Nat → α) (g : Nat → α), ez_row f (ez_n h + 1) g q = f q := fun f v => by unfold ez_row; simp only [e1, hqp, ↓reduceIte]
      have a1 : ez_t (ez_new h tag len sl) q = ez_t h q := e2 _ _
      have a2 : ez_l (ez_new h tag len sl) q = ez_l h q := e2 _ _
      have a3 : ez_I (ez_new h tag len sl) q = ez_I h q := e3 _ _
      have a4 : ez_L (ez_new h tag len sl) q = ez_L h q := e3 _ _
      have a5 : ez_R (ez_new h tag len sl) q = ez_R h q := e3 _ _
      unfold ev_cel at this ⊢
      split
      · rename_i hw
        rw [hw] at this
        unfold ev_ce at this ⊢
        rw [a1, a2, a3, a4, a5]
        exact this
      · trivial
theorem ev_dp_arr {tag len n : Nat} (ht : 1000 ≤ tag) (hn : n < len) : n < ev_sz tag len := by
  unfold ev_sz
  have : Nat.blt tag 1000 = false := by
    cases hb : Nat.blt tag 1000 with
    | false => rfl
    | true => have := Nat.blt_eq.mp hb; omega
  rw [this]; exact hn
theorem ev_sz_obj {tag len b : Nat} (ht : tag < 1000) (hb : b < 128) : b < ev_sz tag len := by
  unfold ev_sz
  rw [Nat.blt_eq.mpr ht]; exact hb
theorem ev_dp_obj {tag len : Nat} (ht : tag < 1000) : ev_dp tag len = 7 := by
  unfold ev_dp
  rw [Nat.blt_eq.mpr ht]; rfl
end
section
/-! an instruction of the pure machine by its kind -/
section GW
variable {X : ez_X} {E : Nat → Nat × (Nat → Int32)} {ml : Nat → Nat} {hn : Nat → Nat → Option (Nat × Nat)} {mi d pc a b k : Nat} {i : ClassFile.Instr} {v : Int32} {cs : List ez_C} {ls : List (Option Value)} {st : List Value} {h : ez_H} {Q : ez_Q}
/-- a jump; a call -/
def ev_Jp (X : ez_X) (E : Nat → Nat × (Nat → Int32)) (ml : Nat → Nat) (hn : Nat → Nat → Option (Nat × Nat)) (mi d : Nat) (cs : List ez_C) (pc t : Nat) (ls : List (Option Value)) (st : List Value) (h : ez_H) (Q : ez_Q) : Prop := match Nat.blt pc t with
  | true => ez_gw X E ml hn mi d cs (t + 1) ls st h Q
  | false => X d mi t ls st h Q
def ev_Cp (X : ez_X) (E : Nat → Nat × (Nat → Int32)) (ml : Nat → Nat) (hn : Nat → Nat → Option (Nat × Nat)) (mi d : Nat) (cs : List ez_C) (pc a b k : Nat) (ls : List (Option Value)) (st : List Value) (h : ez_H) (Q : ez_Q) : Prop := match d with
  | 0 => False
  | d' + 1 => (ez_few (st.drop b) = true ∧ Nat.ble (ez_lay (st.take b).reverse).length (ml a) = true ∧ Nat.beq (st.take b).reverse.length b = true ∧ ez_rcv h k (st.take b).reverse) ∧ X d' a 0 (ez_args (ml a) (st.take b).reverse) [] h (fun o h' => match o with
    | .inl none => ez_gw X E ml hn mi (d' + 1) cs 0 ls (st.drop b) h' Q
    | .inl (some w) => ez_gw X E ml hn mi (d' + 1) cs 0 ls (w :: st.drop b) h' Q
    | .inr x => match hn pc x with
      | none => Q (.inr x) h'
      | some (t, j) => (match t with
        | 0 => False
        | t' + 1 => ez_gw X E ml hn mi (d' + 1) cs (t' + 2) ((ez_cut ls j).set j none) [] h' Q))
theorem gw_op {st2 : List Value} (h1 : ez_op i v st = some st2) (H : ez_gw X E ml hn mi d cs 0 ls st2 h Q) : ez_gw X E ml hn mi d ((pc, i, a, b, k, v) :: cs) 0 ls st h Q := by
  unfold ez_gw; simp only [show ez_past 0 pc = false from rfl, h1]; exact H
theorem gw_ld {st2 : List Value} (h0 : ez_op i v st = none) (h1 : ez_ld i ls st = some st2) (H : ez_gw X E ml hn mi d cs 0 ls st2 h Q) : ez_gw X E ml hn mi d ((pc, i, a, b, k, v) :: cs) 0 ls st h Q := by
  unfold ez_gw; simp only [show ez_past 0 pc = false from rfl, h0, h1]; exact H
theorem gw_st {ls2 : List (Option Value)} {st2 : List Value} (h0 : ez_op i v st = none) (h1 : ez_ld i ls st = none) (h2 : ez_st i v ls st = some (ls2, st2)) (H : ez_gw X E ml hn mi d cs 0 ls2 st2 h Q) : ez_gw X E ml hn mi d ((pc, i, a, b, k, v) :: cs) 0 ls st h Q := by
  unfold ez_gw; simp only [show ez_past 0 pc = false from rfl, h0, h1, h2]; exact H
theorem gw_br {c : Prop} {st2 : List Value} (h0 : ez_op i v st = none) (h1 : ez_ld i ls st = none) (h2 : ez_st i v ls st = none) (h3 : ez_br i st = some (c, st2)) (Ht : c → ev_Jp X E ml hn mi d cs pc a ls st2 h Q) (Hf : ¬ c → ez_gw X E ml hn mi d cs 0 ls st2 h Q) : ez_gw X E ml hn mi d ((pc, i, a, b, k, v) :: cs) 0 ls st h Q := by
  unfold ez_gw; simp only [show ez_past 0 pc = false from rfl, h0, h1, h2, h3]; exact ⟨Ht, Hf⟩
theorem gw_sm {c : Prop} {st2 : List Value} {h2' : ez_H} (h0 : ez_op i v st = none) (h1 : ez_ld i ls st = none) (h2 : ez_st i v ls st = none) (h3 : ez_br i st = none) (h4 : ez_sm E i a b k ls st h = some (c, st2, h2')) (hc : c) (H : ez_gw X E ml hn mi d cs 0 ls st2 h2' Q) : ez_gw X E ml hn mi d ((pc, i, a, b, k, v) :: cs) 0 ls st h Q := by
  unfold ez_gw; simp only [show ez_past 0 pc = false from rfl, h0, h1, h2, h3, h4]; exact ⟨hc, H⟩
theorem gw_rt {c : Prop} {r : Option Value} (h0 : ez_op i v st = none) (h1 : ez_ld i ls st = none) (h2 : ez_st i v ls st = none) (h3 : ez_br i st = none) (h4 : ez_sm E i a b k ls st h = none) (h5 : ez_rt i a st = some (c, r)) (hc : c) (H : Q (.inl r) h) : ez_gw X E ml hn mi d ((pc, i, a, b, k, v) :: cs) 0 ls st h Q := by
  unfold ez_gw; simp only [show ez_past 0 pc = false from rfl, h0, h1, h2, h3, h4, h5]; exact ⟨hc, H⟩
theorem gw_jp {J : (Nat → Prop) → Prop} {st2 : List Value} (h0 : ez_op i v st = none) (h1 : ez_ld i ls st = none) (h2 : ez_st i v ls st = none) (h3 : ez_br i st = none) (h4 : ez_sm E i a b k ls st h = none) (h5 : ez_rt i a st = none) (h6 : ez_jp i pc a st = (some J, st2)) (H : J (fun t => ev_Jp X E ml hn mi d cs pc t ls st2 h Q)) : ez_gw X E ml hn mi d ((pc, i, a, b, k, v) :: cs) 0 ls st h Q := by
  unfold ez_gw; simp only [show ez_past 0 pc = false from rfl, h0, h1, h2, h3, h4, h5, h6]; exact H
theorem gw_cl {st2 : List Value} (h0 : ez_op i v st = none) (h1 : ez_ld i ls st = none) (h2 : ez_st i v ls st = none) (h3 : ez_br i st = none) (h4 : ez_sm E i a b k ls st h = none) (h5 : ez_rt i a st = none) (h6 : ez_jp i pc a st = (none, st2)) (h7 : ez_cl i k = true) (H : ev_Cp X E ml hn mi d cs pc a b k ls st h Q) : ez_gw X E ml hn mi d ((pc, i, a, b, k, v) :: cs) 0 ls st h Q := by
  unfold ez_gw; simp only [show ez_past 0 pc = false from rfl, h0, h1, h2, h3, h4, h5, h6, h7]; unfold ev_Cp at H; cases d <;> exact H
end GW
/-- a continuation is right -/
def ev_NX (P : List (Option Value) → List Value → ez_H → ez_Q → Prop) (nx : ev_N) : Prop := ∀ (ls : ev_L) (st : List ev_X) (S : ev_S) (r : (Option ev_X ⊕ Nat) × ev_S) (ls' : List (Option Value)) (st' : List Value) (h : ez_H) (Q : ez_Q), nx ls st S = some r → ev_gl ls ls' → ev_gs st st' → ev_rel S h → (∀ o h', ev_go r.1 o → ev_rel r.2 h' → Q o h') → P ls' st' h Q
/-- what an instruction is to the evaluator is right -/
def ev_OK (e : ez_C) (F : ev_F) : Prop := ∀ (X : ez_X) (E : Nat → Nat × (Nat → Int32)) (ml : Nat → Nat) (hn : Nat → Nat → Option (Nat × Nat)) (mi d : Nat) (cs : List ez_C) (sc : List ev_X) (nx : ev_N) (to : Nat → ev_N) (cal : Nat → Nat → Nat → Nat → ev_N), ev_scr sc E → ev_NX (fun ls st h Q => ez_gw X E ml hn mi d cs 0 ls st h Q) nx → (∀ t, ev_NX (ev_Jp X E ml hn mi d cs e.1 t) (to t)) → (∀ a b k, ev_NX (ev_Cp X E ml hn mi d cs e.1 a b k) (cal e.1 a b k)) → ev_NX (fun ls st h Q => ez_gw X E ml hn mi d (e :: cs) 0 ls st h Q) (F sc nx to cal)
section OKS
variable {pc a b k : Nat} {i : ClassFile.Instr} {v : Int32}
theorem ok_no : ev_OK (pc, i, a, b, k, v) eh_no := fun X E ml hn mi d cs sc nx to cal hsc hnx hto hcal ls st S r ls' st' h Q H hl hs hr hQ => by cases H
theorem ok_C (hi : ∀ st, ez_op i v st = some (.int v :: st)) : ev_OK (pc, i, a, b, k, v) (eh_C (ev_u v)) := fun X E ml hn mi d cs sc nx to cal hsc hnx hto hcal ls st S r ls' st' h Q H hl hs hr hQ =>
  gw_op (hi _) (hnx ls _ S r ls' _ h Q H hl ⟨⟨_, rfl, rfl⟩, hs⟩ hr hQ)
theorem ok_J (hi : ∀ st, ez_op i v st = some (.long v.toInt64 :: st)) : ev_OK (pc, i, a, b, k, v) (eh_J (ev_w v.toInt64)) := fun X E ml hn mi d cs sc nx to cal hsc hnx hto hcal ls st S r ls' st' h Q H hl hs hr hQ =>
  gw_op (hi _) (hnx ls _ S r ls' _ h Q H hl ⟨⟨_, rfl, rfl⟩, hs⟩ hr hQ)
theorem ok_1 {g : Int32 → Int32} (hi : ∀ x r, ez_op i v (.int x :: r) = some (.int (g x) :: r)) : ev_OK (pc, i, a, b, k, v) (eh_1 g) := fun X E ml hn mi d cs sc nx to cal hsc hnx hto hcal ls st S r ls' st' h Q H hl hs hr hQ => by
  unfold eh_1 ev_b1 at H
  split at H
  · obtain ⟨w, r', rfl, ⟨y, rfl, rfl⟩, hs1⟩ := ev_gs_cons hs
    rw [ev_f_eq, ev_i_u] at H
    exact gw_op (hi _ _) (hnx _ _ _ _ _ _ _ _ H hl ⟨⟨_, rfl, rfl⟩, hs1⟩ hr hQ)
  · obtain ⟨w, r', rfl, ⟨y, rfl, -⟩, hs1⟩ := ev_gs_cons hs
    exact gw_op (hi _ _) (hnx _ _ _ _ _ _ _ _ H hl ⟨ev_top_v _, hs1⟩ hr hQ)
  · cases H
theorem ok_2 {f : Nat → Nat → Nat} {g : Int32 → Int32 → Int32} (hi : ∀ x y r, ez_op i v (.int y :: .int x :: r) = some (.int (g x y) :: r)) (hf : ∀ x y, ev_u (g x y) = f (ev_u x) (ev_u y)) : ev_OK (pc, i, a, b, k, v) (eh_2 f) := fun X E ml hn mi d cs sc nx to cal hsc hnx hto hcal ls st S r ls' st' h Q H hl hs hr hQ => by
  unfold eh_2 ev_b2 at H
  split at H
  · obtain ⟨w, r', rfl, ⟨y, rfl, rfl⟩, hs1⟩ := ev_gs_cons hs
    obtain ⟨w, r', rfl, ⟨x, rfl, rfl⟩, hs2⟩ := ev_gs_cons hs1
    rw [ev_f_eq, ← hf] at H
    exact gw_op (hi _ _ _) (hnx _ _ _ _ _ _ _ _ H hl ⟨⟨_, rfl, rfl⟩, hs2⟩ hr hQ)
  · obtain ⟨w, r', rfl, ⟨y, rfl, -⟩, hs1⟩ := ev_gs_cons hs
    obtain ⟨w, r', rfl, ⟨x, rfl, -⟩, hs2⟩ := ev_gs_cons hs1
    exact gw_op (hi _ _ _) (hnx _ _ _ _ _ _ _ _ H hl ⟨ev_top_v _, hs2⟩ hr hQ)
  · obtain ⟨w, r', rfl, ⟨y, rfl, -⟩, hs1⟩ := ev_gs_cons hs
    obtain ⟨w, r', rfl, ⟨x, rfl, -⟩, hs2⟩ := ev_gs_cons hs1
    exact gw_op (hi _ _ _) (hnx _ _ _ _ _ _ _ _ H hl ⟨ev_top_v _, hs2⟩ hr hQ)
  · obtain ⟨w, r', rfl, ⟨y, rfl, -⟩, hs1⟩ := ev_gs_cons hs
    obtain ⟨w, r', rfl, ⟨x, rfl, -⟩, hs2⟩ := ev_gs_cons hs1
    exact gw_op (hi _ _ _) (hnx _ _ _ _ _ _ _ _ H hl ⟨ev_top_v _, hs2⟩ hr hQ)
  · cases H
theorem ok_l2 {g : Int64 → Int64 → Int64} (hi : ∀ x y r, ez_op i v (.long y :: .long x :: r) = some (.long (g x y) :: r)) : ev_OK (pc, i, a, b, k, v) (eh_l2 g) := fun X E ml hn mi d cs sc nx to cal hsc hnx hto hcal ls st S r ls' st' h Q H hl hs hr hQ => by
  unfold eh_l2 ev_l2 at H
  split at H
  · obtain ⟨w, r', rfl, ⟨y, rfl, rfl⟩, hs1⟩ := ev_gs_cons hs
    obtain ⟨w, r', rfl, ⟨x, rfl, rfl⟩, hs2⟩ := ev_gs_cons hs1
    rw [ev_f_eq, ev_j_w, ev_j_w] at H
    exact gw_op (hi _ _ _) (hnx _ _ _ _ _ _ _ _ H hl ⟨⟨_, rfl, rfl⟩, hs2⟩ hr hQ)
  · cases H
theorem ok_i2l : ev_OK (pc, .i2l, a, b, k, v) eh_i2l := fun X E ml hn mi d cs sc nx to cal hsc hnx hto hcal ls st S r ls' st' h Q H hl hs hr hQ => by
  unfold eh_i2l at H
  split at H
  · obtain ⟨w, r', rfl, ⟨y, rfl, rfl⟩, hs1⟩ := ev_gs_cons hs
    rw [ev_f_eq, ev_i_u] at H
    exact gw_op rfl (hnx _ _ _ _ _ _ _ _ H hl ⟨⟨_, rfl, rfl⟩, hs1⟩ hr hQ)
  · cases H
theorem ok_l2i : ev_OK (pc, .l2i, a, b, k, v) eh_l2i := fun X E ml hn mi d cs sc nx to cal hsc hnx hto hcal ls st S r ls' st' h Q H hl hs hr hQ => by
  unfold eh_l2i at H
  split at H
  · obtain ⟨w, r', rfl, ⟨y, rfl, rfl⟩, hs1⟩ := ev_gs_cons hs
    rw [ev_f_eq, ev_j_w] at H
    exact gw_op rfl (hnx _ _ _ _ _ _ _ _ H hl ⟨⟨_, rfl, rfl⟩, hs1⟩ hr hQ)
  · cases H
theorem ok_lcmp : ev_OK (pc, .lcmp, a, b, k, v) eh_lcmp := fun X E ml hn mi d cs sc nx to cal hsc hnx hto hcal ls st S r ls' st' h Q H hl hs hr hQ => by
  unfold eh_lcmp at H
  split at H
  · obtain ⟨w, r', rfl, ⟨y, rfl, rfl⟩, hs1⟩ := ev_gs_cons hs
    obtain ⟨w, r', rfl, ⟨x, rfl, rfl⟩, hs2⟩ := ev_gs_cons hs1
    rw [ev_f_eq, ev_j_w, ev_j_w] at H
    exact gw_op rfl (hnx _ _ _ _ _ _ _ _ H hl ⟨⟨_, rfl, rfl⟩, hs2⟩ hr hQ)
  · cases H
theorem ok_dup : ev_OK (pc, .dup, a, b, k, v) eh_dup := fun X E ml hn mi d cs sc nx to cal hsc hnx hto hcal ls st S r ls' st' h Q H hl hs hr hQ => by
  unfold eh_dup at H
  split at H
  · obtain ⟨w, r', rfl, hx, hs1⟩ := ev_gs_cons hs
    obtain ⟨y, rfl, -⟩ := id hx
    exact gw_op rfl (hnx _ _ _ _ _ _ _ _ H hl ⟨hx, hx, hs1⟩ hr hQ)
  · obtain ⟨w, r', rfl, hx, hs1⟩ := ev_gs_cons hs
    obtain ⟨y, rfl, -⟩ := id hx
    exact gw_op rfl (hnx _ _ _ _ _ _ _ _ H hl ⟨hx, hx, hs1⟩ hr hQ)
  · obtain ⟨w, r', rfl, hx, hs1⟩ := ev_gs_cons hs
    have e : w = .ref _ := hx
    subst e
    exact gw_op rfl (hnx _ _ _ _ _ _ _ _ H hl ⟨hx, hx, hs1⟩ hr hQ)
  · cases H
theorem ev_isI_ok {y : ev_X} {c : ev_R} {r : (Option ev_X ⊕ Nat) × ev_S} {w : Value} (H : ev_isI y c = some r) (hy : ev_v y w) : c = some r ∧ ∃ x : Int32, w = .int x ∧ ev_lo y ≤ ev_e (ev_u x) ∧ ev_e (ev_u x) ≤ ev_hi y := by
  cases y with
  | num n => obtain ⟨x, rfl, rfl⟩ := hy; exact ⟨H, x, rfl, Nat.le_refl _, Nat.le_refl _⟩
  | add a b => obtain ⟨x, rfl, h1, h2⟩ := hy; exact ⟨H, x, rfl, h1, h2⟩
  | var p => cases H
  | mul a b => cases H
theorem ok_dup2 : ev_OK (pc, .dup2, a, b, k, v) eh_dup2 := fun X E ml hn mi d cs sc nx to cal hsc hnx hto hcal ls st S r ls' st' h Q H hl hs hr hQ => by
  unfold eh_dup2 at H
  split at H
  · obtain ⟨w, r', rfl, hx, hs1⟩ := ev_gs_cons hs
    obtain ⟨w', r', rfl, hx', hs2⟩ := ev_gs_cons hs1
    obtain ⟨H, x, rfl, -⟩ := ev_isI_ok H hx
    have e : w' = .ref _ := hx'
    subst e
    exact gw_op rfl (hnx _ _ _ _ _ _ _ _ H hl ⟨hx, hx', hx, hx', hs2⟩ hr hQ)
  · obtain ⟨w, r', rfl, hx, hs1⟩ := ev_gs_cons hs
    obtain ⟨w', r', rfl, hx', hs2⟩ := ev_gs_cons hs1
    obtain ⟨H, x, rfl, -⟩ := ev_isI_ok H hx
    obtain ⟨y, rfl, -⟩ := id hx'
    exact gw_op rfl (hnx _ _ _ _ _ _ _ _ H hl ⟨hx, hx', hx, hx', hs2⟩ hr hQ)
  · cases H
theorem ok_dupx : ev_OK (pc, .dup_x1, a, b, k, v) eh_dupx := fun X E ml hn mi d cs sc nx to cal hsc hnx hto hcal ls st S r ls' st' h Q H hl hs hr hQ => by
  unfold eh_dupx at H
  split at H
  · obtain ⟨w, r', rfl, hx, hs1⟩ := ev_gs_cons hs
    obtain ⟨w', r', rfl, hx', hs2⟩ := ev_gs_cons hs1
    obtain ⟨H, x, rfl, -⟩ := ev_isI_ok H hx
    have e : w' = .ref _ := hx'
    subst e
    exact gw_op rfl (hnx _ _ _ _ _ _ _ _ H hl ⟨hx, hx', hx, hs2⟩ hr hQ)
  · obtain ⟨w, r', rfl, hx, hs1⟩ := ev_gs_cons hs
    obtain ⟨w', r', rfl, hx', hs2⟩ := ev_gs_cons hs1
    obtain ⟨H, x, rfl, -⟩ := ev_isI_ok H hx
    obtain ⟨y, rfl, -⟩ := id hx'
    exact gw_op rfl (hnx _ _ _ _ _ _ _ _ H hl ⟨hx, hx', hx, hs2⟩ hr hQ)
  · cases H
theorem ok_pop : ev_OK (pc, .pop, a, b, k, v) eh_pop := fun X E ml hn mi d cs sc nx to cal hsc hnx hto hcal ls st S r ls' st' h Q H hl hs hr hQ => by
  unfold eh_pop at H
  split at H
  · obtain ⟨w, r', rfl, ⟨y, rfl, -⟩, hs1⟩ := ev_gs_cons hs
    exact gw_op rfl (hnx _ _ _ _ _ _ _ _ H hl hs1 hr hQ)
  · obtain ⟨w, r', rfl, ⟨y, rfl, -⟩, hs1⟩ := ev_gs_cons hs
    exact gw_op rfl (hnx _ _ _ _ _ _ _ _ H hl hs1 hr hQ)
  · obtain ⟨w, r', rfl, hx, hs1⟩ := ev_gs_cons hs
    have e : w = .ref _ := hx
    subst e
    exact gw_op rfl (hnx _ _ _ _ _ _ _ _ H hl hs1 hr hQ)
  · cases H
theorem ok_li {q : Nat} (h0 : ∀ st, ez_op i v st = none) (hi : ∀ ls st x, ls.getD q none = some (.int x) → ez_ld i ls st = some (.int x :: st)) : ev_OK (pc, i, a, b, k, v) (eh_li q) := fun X E ml hn mi d cs sc nx to cal hsc hnx hto hcal ls st S r ls' st' h Q H hl hs hr hQ => by
  have hq := ev_gl_nth q hl
  unfold eh_li ev_ldI at H
  split at H
  · rename_i e
    rw [e] at hq
    obtain ⟨w, hw, hx⟩ := hq
    obtain ⟨y, rfl, -⟩ := id hx
    exact gw_ld (h0 _) (hi _ _ _ hw) (hnx _ _ _ _ _ _ _ _ H hl ⟨hx, hs⟩ hr hQ)
  · rename_i e
    rw [e] at hq
    obtain ⟨w, hw, hx⟩ := hq
    obtain ⟨y, rfl, -⟩ := id hx
    exact gw_ld (h0 _) (hi _ _ _ hw) (hnx _ _ _ _ _ _ _ _ H hl ⟨hx, hs⟩ hr hQ)
  · cases H
theorem ok_ll {q : Nat} (h0 : ∀ st, ez_op i v st = none) (hi : ∀ ls st x, ls.getD q none = some (.long x) → ez_ld i ls st = some (.long x :: st)) : ev_OK (pc, i, a, b, k, v) (eh_ll q) := fun X E ml hn mi d cs sc nx to cal hsc hnx hto hcal ls st S r ls' st' h Q H hl hs hr hQ => by
  have hq := ev_gl_nth q hl
  unfold eh_ll ev_ldL at H
  split at H
  · rename_i e
    rw [e] at hq
    obtain ⟨w, hw, hx⟩ := hq
    obtain ⟨y, rfl, -⟩ := id hx
    exact gw_ld (h0 _) (hi _ _ _ hw) (hnx _ _ _ _ _ _ _ _ H hl ⟨hx, hs⟩ hr hQ)
  · cases H
theorem ok_la {q : Nat} (h0 : ∀ st, ez_op i v st = none) (hi : ∀ ls st p, ls.getD q none = some (.ref p) → ez_ld i ls st = some (.ref p :: st)) (hi' : ∀ ls st p, ls.getD q none = some (.retAddr p) → ez_ld i ls st = some (.retAddr p :: st)) : ev_OK (pc, i, a, b, k, v) (eh_la q) := fun X E ml hn mi d cs sc nx to cal hsc hnx hto hcal ls st S r ls' st' h Q H hl hs hr hQ => by
  have hq := ev_gl_nth q hl
  unfold eh_la ev_ldA at H
  split at H
  · rename_i e
    rw [e] at hq
    obtain ⟨w, hw, hx⟩ := hq
    have e : w = .ref _ := hx
    subst e
    exact gw_ld (h0 _) (hi _ _ _ hw) (hnx _ _ _ _ _ _ _ _ H hl ⟨hx, hs⟩ hr hQ)
  · rename_i e
    rw [e] at hq
    obtain ⟨w, hw, hx⟩ := hq
    have e : w = .retAddr _ := hx
    subst e
    exact gw_ld (h0 _) (hi' _ _ _ hw) (hnx _ _ _ _ _ _ _ _ H hl ⟨hx, hs⟩ hr hQ)
  · cases H
theorem ok_si {q : Nat} (h0 : ∀ st, ez_op i v st = none) (h1 : ∀ ls st, ez_ld i ls st = none) (hi : ∀ ls x r, ez_st i v ls (.int x :: r) = some ((ez_cut ls q).set q (some (.int x)), r)) : ev_OK (pc, i, a, b, k, v) (eh_si q) := fun X E ml hn mi d cs sc nx to cal hsc hnx hto hcal ls st S r ls' st' h Q H hl hs hr hQ => by
  unfold eh_si ev_stI at H
  split at H
  · obtain ⟨w, r', rfl, hx, hs1⟩ := ev_gs_cons hs
    obtain ⟨y, rfl, -⟩ := id hx
    obtain ⟨l, H, h2⟩ := ev_ss_ok H hl hx
    exact gw_st (h0 _) (h1 _ _) (hi _ _ _) (hnx _ _ _ _ _ _ _ _ H h2 hs1 hr hQ)
  · obtain ⟨w, r', rfl, hx, hs1⟩ := ev_gs_cons hs
    obtain ⟨y, rfl, -⟩ := id hx
    obtain ⟨l, H, h2⟩ := ev_ss_ok H hl hx
    exact gw_st (h0 _) (h1 _ _) (hi _ _ _) (hnx _ _ _ _ _ _ _ _ H h2 hs1 hr hQ)
  · cases H
theorem ok_sl {q : Nat} (h0 : ∀ st, ez_op i v st = none) (h1 : ∀ ls st, ez_ld i ls st = none) (hi : ∀ ls x r, ez_st i v ls (.long x :: r) = some (((ez_cut ls q).set q (some (.long x))).set (q + 1) none, r)) : ev_OK (pc, i, a, b, k, v) (eh_sl q) := fun X E ml hn mi d cs sc nx to cal hsc hnx hto hcal ls st S r ls' st' h Q H hl hs hr hQ => by
  unfold eh_sl ev_stL at H
  split at H
  · obtain ⟨w, r', rfl, hx, hs1⟩ := ev_gs_cons hs
    obtain ⟨y, rfl, -⟩ := id hx
    obtain ⟨l, H, h2⟩ := ev_ss_ok H hl hx
    rw [ev_lset_eq] at H
    exact gw_st (h0 _) (h1 _ _) (hi _ _ _) (hnx _ _ _ _ _ _ _ _ H (ev_gl_set (q + 1) h2 trivial) hs1 hr hQ)
  · cases H
theorem ok_sa {q : Nat} (h0 : ∀ st, ez_op i v st = none) (h1 : ∀ ls st, ez_ld i ls st = none) (hi : ∀ ls x r, ez_st i v ls (.ref x :: r) = some ((ez_cut ls q).set q (some (.ref x)), r)) (hi' : ∀ ls x r, ez_st i v ls (.retAddr x :: r) = some ((ez_cut ls q).set q (some (.retAddr x)), r)) : ev_OK (pc, i, a, b, k, v) (eh_sa q) := fun X E ml hn mi d cs sc nx to cal hsc hnx hto hcal ls st S r ls' st' h Q H hl hs hr hQ => by
  unfold eh_sa ev_stA at H
  split at H
  · obtain ⟨w, r', rfl, hx, hs1⟩ := ev_gs_cons hs
    have e : w = .ref _ := hx
    subst e
    obtain ⟨l, H, h2⟩ := ev_ss_ok H hl hx
    exact gw_st (h0 _) (h1 _ _) (hi _ _ _) (hnx _ _ _ _ _ _ _ _ H h2 hs1 hr hQ)
  · obtain ⟨w, r', rfl, hx, hs1⟩ := ev_gs_cons hs
    have e : w = .retAddr _ := hx
    subst e
    obtain ⟨l, H, h2⟩ := ev_ss_ok H hl hx
    exact gw_st (h0 _) (h1 _ _) (hi' _ _ _) (hnx _ _ _ _ _ _ _ _ H h2 hs1 hr hQ)
  · cases H
theorem ok_inc {q : Nat} {z : Int} : ev_OK (pc, .iinc q z, a, b, k, v) (eh_inc q (ev_u v)) := fun X E ml hn mi d cs sc nx to cal hsc hnx hto hcal ls st S r ls' st' h Q H hl hs hr hQ => by
  have hq := ev_gl_nth q hl
  unfold eh_inc at H
  have hi : ∀ x, ls'.getD q none = some (.int x) → ez_st (.iinc q z) v ls' st' = some ((ez_cut ls' q).set q (some (.int (x + v))), st') := fun x e => by
    unfold ez_st; simp only [e]
  split at H
  · rename_i e
    rw [e] at hq
    obtain ⟨w, hw, hx⟩ := hq
    obtain ⟨y, rfl, rfl⟩ := id hx
    rw [ev_f_eq, ← ef_add_ok] at H
    obtain ⟨l, H, h2⟩ := ev_ss_ok (v := .int (y + v)) H hl ⟨_, rfl, rfl⟩
    exact gw_st rfl rfl (hi _ hw) (hnx _ _ _ _ _ _ _ _ H h2 hs hr hQ)
  · rename_i e
    rw [e] at hq
    obtain ⟨w, hw, hx⟩ := hq
    obtain ⟨y, rfl, -⟩ := id hx
    obtain ⟨l, H, h2⟩ := ev_ss_ok (v := .int (y + v)) H hl (ev_top_v _)
    exact gw_st rfl rfl (hi _ hw) (hnx _ _ _ _ _ _ _ _ H h2 hs hr hQ)
  · cases H
/-! branches -/
theorem ev_lt_ok {x y : ev_X} {t f : ev_R} {r : (Option ev_X ⊕ Nat) × ev_S} {p q : Int32} (H : ev_lt x y t f = some r) (hp : ev_lo x ≤ ev_e (ev_u p) ∧ ev_e (ev_u p) ≤ ev_hi x) (hq : ev_lo y ≤ ev_e (ev_u q) ∧ ev_e (ev_u q) ≤ ev_hi y) : (p < q ∧ t = some r) ∨ (q ≤ p ∧ f = some r) := by
  unfold ev_lt at H
  cases h1 : Nat.blt (ev_hi x) (ev_lo y) with
  | true =>
    rw [h1] at H
    have := Nat.blt_eq.mp h1
    exact .inl ⟨(ev_lt_iff _ _).mpr (by omega), H⟩
  | false =>
    rw [h1] at H
    obtain ⟨h2, H⟩ := ev_cond H
    have := Nat.ble_eq.mp h2
    exact .inr ⟨(ev_le_iff _ _).mpr (by omega), H⟩
theorem ev_eq_ok {x y : ev_X} {t f : ev_R} {r : (Option ev_X ⊕ Nat) × ev_S} {p q : Int32} (H : ev_eq x y t f = some r) (hp : ev_lo x ≤ ev_e (ev_u p) ∧ ev_e (ev_u p) ≤ ev_hi x) (hq : ev_lo y ≤ ev_e (ev_u q) ∧ ev_e (ev_u q) ≤ ev_hi y) : (p = q ∧ t = some r) ∨ (p ≠ q ∧ f = some r) := by
  unfold ev_eq at H
  cases h1 : Nat.blt (ev_hi x) (ev_lo y) with
  | true =>
    rw [h1] at H
    have := Nat.blt_eq.mp h1
    exact .inr ⟨fun e => by have := (ev_eq_iff _ _).mp e; omega, H⟩
  | false =>
    rw [h1] at H
    cases h2 : Nat.blt (ev_hi y) (ev_lo x) with
    | true =>
      rw [h2] at H
      have := Nat.blt_eq.mp h2
      exact .inr ⟨fun e => by have := (ev_eq_iff _ _).mp e; omega, H⟩
    | false =>
      rw [h2] at H
      obtain ⟨h3, H⟩ := ev_cond H
      obtain ⟨h3, h4⟩ := ev_and h3
      have := Nat.ble_eq.mp h3
      have := Nat.ble_eq.mp h4
      exact .inl ⟨(ev_eq_iff _ _).mpr (by omega), H⟩
theorem ev_nlt {p q : Int32} (h : q ≤ p) : ¬ p < q := fun h' => by
  have := (ev_lt_iff _ _).mp h'
  have := (ev_le_iff _ _).mp h
  omega
theorem ev_nle {p q : Int32} (h : q < p) : ¬ p ≤ q := fun h' => by
  have := (ev_le_iff _ _).mp h'
  have := (ev_lt_iff _ _).mp h
  omega
/-- what is asked of two ints -/
def ev_ask (o : ClassFile.Cond) (x y : Int32) : Prop := match o with
  | .eq => x = y
  | .ne => x ≠ y
  | .lt => x < y
  | .ge => y ≤ x
  | .gt => y < x
  | .le => x ≤ y
theorem ev_cmp_ok {o : ClassFile.Cond} {x y : ev_X} {t f : ev_R} {r : (Option ev_X ⊕ Nat) × ev_S} {p q : Int32} (H : ev_cmp o x y t f = some r) (hp : ev_lo x ≤ ev_e (ev_u p) ∧ ev_e (ev_u p) ≤ ev_hi x) (hq : ev_lo y ≤ ev_e (ev_u q) ∧ ev_e (ev_u q) ≤ ev_hi y) : (ev_ask o p q ∧ t = some r) ∨ (¬ ev_ask o p q ∧ f = some r) := by
  cases o with
  | eq => exact ev_eq_ok H hp hq
  | ne => rcases ev_eq_ok H hp hq with ⟨h1, h2⟩ | ⟨h1, h2⟩
          · exact .inr ⟨fun h => h h1, h2⟩
          · exact .inl ⟨h1, h2⟩
  | lt => rcases ev_lt_ok H hp hq with ⟨h1, h2⟩ | ⟨h1, h2⟩
          · exact .inl ⟨h1, h2⟩
          · exact .inr ⟨ev_nlt h1, h2⟩
  | ge => rcases ev_lt_ok H hp hq with ⟨h1, h2⟩ | ⟨h1, h2⟩
          · exact .inr ⟨ev_nle h1, h2⟩
          · exact .inl ⟨h1, h2⟩
  | gt => rcases ev_lt_ok H hq hp with ⟨h1, h2⟩ | ⟨h1, h2⟩
          · exact .inl ⟨h1, h2⟩
          · exact .inr ⟨ev_nlt h1, h2⟩
  | le => rcases ev_lt_ok H hq hp with ⟨h1, h2⟩ | ⟨h1, h2⟩
          · exact .inr ⟨ev_nle h1, h2⟩
          · exact .inl ⟨h1, h2⟩
theorem ok_b1 {o : ClassFile.Cond} {z : Int} : ev_OK (pc, .ifCond o z, a, b, k, v) (eh_b1 o a) := fun X E ml hn mi d cs sc nx to cal hsc hnx hto hcal ls st S r ls' st' h Q H hl hs hr hQ => by
  unfold eh_b1 at H
  split at H
  · obtain ⟨w, r', rfl, hx, hs1⟩ := ev_gs_cons hs
    obtain ⟨H, x, rfl, hx1⟩ := ev_isI_ok H hx
    have e : ez_br (.ifCond o z) (.int x :: r') = some (ev_ask o x 0, r') := by
      unfold ez_br ev_ask; cases o <;> rfl
    rcases ev_cmp_ok (q := 0) H hx1 ⟨Nat.le_refl _, Nat.le_refl _⟩ with ⟨h1, H⟩ | ⟨h1, H⟩
    · exact gw_br rfl rfl rfl e (fun _ => hto _ _ _ _ _ _ _ _ _ H hl hs1 hr hQ) (fun c => absurd h1 c)
    · exact gw_br rfl rfl rfl e (fun c => absurd c h1) (fun _ => hnx _ _ _ _ _ _ _ _ H hl hs1 hr hQ)
  · cases H
theorem ok_b2 {o : ClassFile.Cond} {z : Int} : ev_OK (pc, .if_icmp o z, a, b, k, v) (eh_b2 o a) := fun X E ml hn mi d cs sc nx to cal hsc hnx hto hcal ls st S r ls' st' h Q H hl hs hr hQ => by
  unfold eh_b2 at H
  split at H
  · obtain ⟨w, r', rfl, hy, hs1⟩ := ev_gs_cons hs
    obtain ⟨w', r', rfl, hx, hs2⟩ := ev_gs_cons hs1
    obtain ⟨H, x, rfl, hx1⟩ := ev_isI_ok H hx
    obtain ⟨H, y, rfl, hy1⟩ := ev_isI_ok H hy
    have e : ez_br (.if_icmp o z) (.int y :: .int x :: r') = some (ev_ask o x y, r') := by
      unfold ez_br ev_ask; cases o <;> rfl
    rcases ev_cmp_ok H hx1 hy1 with ⟨h1, H⟩ | ⟨h1, H⟩
    · exact gw_br rfl rfl rfl e (fun _ => hto _ _ _ _ _ _ _ _ _ H hl hs2 hr hQ) (fun c => absurd h1 c)
    · exact gw_br rfl rfl rfl e (fun c => absurd c h1) (fun _ => hnx _ _ _ _ _ _ _ _ H hl hs2 hr hQ)
  · cases H
theorem ok_go {z : Int} : ev_OK (pc, .goto z, a, b, k, v) (eh_go a) := fun X E ml hn mi d cs sc nx to cal hsc hnx hto hcal ls st S r ls' st' h Q H hl hs hr hQ =>
  gw_jp rfl rfl rfl rfl rfl rfl rfl (hto _ _ _ _ _ _ _ _ _ H hl hs hr hQ)
theorem ev_sw_ok {df : Int} {x : ev_X} {K : Nat → ev_R} {r : (Option ev_X ⊕ Nat) × ev_S} {p : Int32} {K' : Nat → Prop} (hp : ev_lo x ≤ ev_e (ev_u p) ∧ ev_e (ev_u p) ≤ ev_hi x) (hK : ∀ t, K t = some r → K' t) : ∀ l : List (Int × Int), ev_sw ((pc : Int) + df).toNat x K (l.map (fun q => (ev_u (Int32.ofInt q.1), ((pc : Int) + q.2).toNat))) = some r → ez_sw pc df p K' l := by
  intro l
  induction l with
  | nil => intro H; exact hK _ H
  | cons q l ih =>
    intro H
    obtain ⟨q1, q2⟩ := q
    have H : ev_eq x (.num (ev_u (Int32.ofInt q1))) (K ((pc : Int) + q2).toNat) (ev_sw ((pc : Int) + df).toNat x K (l.map (fun q => (ev_u (Int32.ofInt q.1), ((pc : Int) + q.2).toNat)))) = some r := H
    rcases ev_eq_ok (q := Int32.ofInt q1) H hp ⟨Nat.le_refl _, Nat.le_refl _⟩ with ⟨h1, H⟩ | ⟨h1, H⟩
    · exact ⟨fun _ => hK _ H, fun c => absurd h1 c⟩
    · exact ⟨fun c => absurd c h1, fun _ => ih H⟩
theorem ok_sw {df : Int} {l : List (Int × Int)} (h0 : ∀ st, ez_op i v st = none) (h1 : ∀ ls st, ez_ld i ls st = none) (h2 : ∀ ls st, ez_st i v ls st = none) (h3 : ∀ st, ez_br i st = none) (h4 : ∀ E ls st h, ez_sm E i a b k ls st h = none) (h5 : ∀ st, ez_rt i a st = none) (h6 : ∀ x r, ez_jp i pc a (.int x :: r) = (some (fun K => ez_sw pc df x K l), r)) : ev_OK (pc, i, a, b, k, v) (eh_sw ((pc : Int) + df).toNat (l.map (fun q => (ev_u (Int32.ofInt q.1), ((pc : Int) + q.2).toNat)))) := fun X E ml hn mi d cs sc nx to cal hsc hnx hto hcal ls st S r ls' st' h Q H hl hs hr hQ => by
  unfold eh_sw at H
  split at H
  · obtain ⟨w, r', rfl, hx, hs1⟩ := ev_gs_cons hs
    obtain ⟨H, x, rfl, hx1⟩ := ev_isI_ok H hx
    exact gw_jp (h0 _) (h1 _ _) (h2 _ _) (h3 _) (h4 _ _ _ _) (h5 _) (h6 _ _) (ev_sw_ok hx1 (fun t H => hto t _ _ _ _ _ _ _ _ H hl hs1 hr hQ) l H)
  · cases H
end OKS
end
section
/-! instructions that look at cells -/
theorem ev_ob_ok {S : ev_S} {p a b : Nat} {c : Nat → ev_X → ev_X → ev_X → ev_R} {r : (Option ev_X ⊕ Nat) × ev_S} {h : ez_H} (H : ev_ob S p a b c = some r) (hr : ev_rel S h) : ∃ len ai al ar, p < 128 ∧ c len ai al ar = some r ∧ ev_ce a len ai al ar h p ∧ ev_dp a len = 7 ∧ b < ev_sz a len := by
  unfold ev_ob at H
  obtain ⟨tag, len, ai, al, ar, hp, H, hc⟩ := ev_cl_ok H hr
  obtain ⟨h1, H2⟩ := ev_cond H
  obtain ⟨h1, h2⟩ := ev_and h1
  obtain ⟨h2, h3⟩ := ev_and h2
  have e := Nat.eq_of_beq_eq_true h1
  subst e
  have e7 := ev_dp_obj (len := len) (Nat.blt_eq.mp h2)
  exact ⟨len, ai, al, ar, hp, H2, hc, e7, ev_sz_obj (Nat.blt_eq.mp h2) (Nat.blt_eq.mp h3)⟩
theorem ev_ra_ok {S : ev_S} {p a n : Nat} {c : Nat → ev_X → ev_X → ev_X → ev_R} {r : (Option ev_X ⊕ Nat) × ev_S} {h : ez_H} (H : ev_ra S p a n c = some r) (ha : 1000 ≤ a) (hr : ev_rel S h) : ∃ len ai al ar, p < 128 ∧ c len ai al ar = some r ∧ ev_ce a len ai al ar h p ∧ n < len ∧ len ≤ 200000 ∧ n < ev_sz a len := by
  unfold ev_ra at H
  obtain ⟨tag, len, ai, al, ar, hp, H, hc⟩ := ev_cl_ok H hr
  obtain ⟨h1, H2⟩ := ev_cond H
  obtain ⟨h1, h2⟩ := ev_and h1
  obtain ⟨h2, h3⟩ := ev_and h2
  have e := Nat.eq_of_beq_eq_true h1
  subst e
  have hn := Nat.blt_eq.mp h2
  exact ⟨len, ai, al, ar, hp, H2, hc, hn, Nat.ble_eq.mp h3, ev_dp_arr ha hn⟩
theorem ev_ix {x : Int32} {n len : Nat} (h : ev_u x = n) (h1 : n < len) (h2 : len ≤ 200000) : vp_in x len ∧ x.toNatClampNeg = n := by
  have e := ev_nI h (by omega)
  rw [e]
  exact ⟨vp_in_nI h1 (by omega), nI_clamp (by omega)⟩
section OKC
variable {pc a b k : Nat} {i : ClassFile.Instr} {v : Int32}
theorem ok_gI {q : Nat} (hk : k = 0 ∨ k = 1) : ev_OK (pc, .getfield q, a, b, k, v) (eh_gI a b) := fun X E ml hn mi d cs sc nx to cal hsc hnx hto hcal ls st S r ls' st' h Q H hl hs hr hQ => by
  unfold eh_gI at H
  split at H
  · obtain ⟨w, r', rfl, hx, hs1⟩ := ev_gs_cons hs
    have e : w = .ref _ := hx
    subst e
    obtain ⟨len, ai, al, ar, hp, H, hc, -, hb⟩ := ev_ob_ok H hr
    rw [ev_f_eq] at H
    obtain ⟨y, H, hy⟩ := ev_gi_hv (hc.2.2 b hb).1 H
    rcases hk with rfl | rfl
    · exact gw_sm rfl rfl rfl rfl rfl hc.1 (hnx _ _ _ _ _ _ _ _ H hl ⟨hy, hs1⟩ hr hQ)
    · exact gw_sm rfl rfl rfl rfl rfl hc.1 (hnx _ _ _ _ _ _ _ _ H hl ⟨hy, hs1⟩ hr hQ)
  · cases H
theorem ok_gL {q : Nat} : ev_OK (pc, .getfield q, a, b, 2, v) (eh_gL a b) := fun X E ml hn mi d cs sc nx to cal hsc hnx hto hcal ls st S r ls' st' h Q H hl hs hr hQ => by
  unfold eh_gL at H
  split at H
  · obtain ⟨w, r', rfl, hx, hs1⟩ := ev_gs_cons hs
    have e : w = .ref _ := hx
    subst e
    obtain ⟨len, ai, al, ar, hp, H, hc, -, hb⟩ := ev_ob_ok H hr
    rw [ev_f_eq] at H
    exact gw_sm rfl rfl rfl rfl rfl hc.1 (hnx _ _ _ _ _ _ _ _ H hl ⟨⟨_, rfl, (hc.2.2 b hb).2.1⟩, hs1⟩ hr hQ)
  · cases H
theorem ok_gR {q : Nat} : ev_OK (pc, .getfield q, a, b, 3, v) (eh_gR a b) := fun X E ml hn mi d cs sc nx to cal hsc hnx hto hcal ls st S r ls' st' h Q H hl hs hr hQ => by
  unfold eh_gR at H
  split at H
  · obtain ⟨w, r', rfl, hx, hs1⟩ := ev_gs_cons hs
    have e : w = .ref _ := hx
    subst e
    obtain ⟨len, ai, al, ar, hp, H, hc, -, hb⟩ := ev_ob_ok H hr
    rw [ev_f_eq] at H
    obtain ⟨h1, H⟩ := ev_cond' H
    have e := (hc.2.2 b hb).2.2
    exact gw_sm rfl rfl rfl rfl rfl ⟨hc.1, by rw [e]; exact Nat.ne_of_beq_eq_false h1⟩ (hnx _ _ _ _ _ _ _ _ H hl ⟨by rw [e]; rfl, hs1⟩ hr hQ)
  · cases H
theorem ok_gK {q j : Nat} : ev_OK (pc, .getfield q, a, b, j + 4, v) (eh_gK a b j) := fun X E ml hn mi d cs sc nx to cal hsc hnx hto hcal ls st S r ls' st' h Q H hl hs hr hQ => by
  unfold eh_gK at H
  split at H
  · obtain ⟨w, r', rfl, hx, hs1⟩ := ev_gs_cons hs
    have e : w = .ref _ := hx
    subst e
    obtain ⟨len, ai, al, ar, hp, H, hc, -, hb⟩ := ev_ob_ok H hr
    rw [ev_f_eq] at H
    obtain ⟨h1, H⟩ := ev_cond H
    have e := (hc.2.2 b hb).2.2
    have e2 := Nat.eq_of_beq_eq_true h1
    exact gw_sm rfl rfl rfl rfl rfl ⟨hc.1, by rw [e, e2]⟩ (hnx _ _ _ _ _ _ _ _ H hl ⟨by rw [e2]; rfl, hs1⟩ hr hQ)
  · cases H
theorem ok_pI {q : Nat} : ev_OK (pc, .putfield q, a, b, 0, v) (eh_pI a b) := fun X E ml hn mi d cs sc nx to cal hsc hnx hto hcal ls st S r ls' st' h Q H hl hs hr hQ => by
  unfold eh_pI ev_pf0 at H
  split at H
  · obtain ⟨w, r', rfl, ⟨y, rfl, rfl⟩, hs1⟩ := ev_gs_cons hs
    obtain ⟨w, r', rfl, hx, hs2⟩ := ev_gs_cons hs1
    have e : w = .ref _ := hx
    subst e
    obtain ⟨len, ai, al, ar, hp, H, hc, e7, hb⟩ := ev_ob_ok H hr
    rw [← e7] at H
    obtain ⟨S', H, hS⟩ := ev_setI_ok (x := y) hr hp hc hb (fun _ => rfl) H
    exact gw_sm rfl rfl rfl rfl rfl hc.1 (hnx _ _ _ _ _ _ _ _ H hl hs2 hS hQ)
  · obtain ⟨w, r', rfl, ⟨y, rfl, -⟩, hs1⟩ := ev_gs_cons hs
    obtain ⟨w, r', rfl, hx, hs2⟩ := ev_gs_cons hs1
    have e : w = .ref _ := hx
    subst e
    obtain ⟨len, ai, al, ar, hp, H, hc, e7, hb⟩ := ev_ob_ok H hr
    rw [← e7] at H
    obtain ⟨S', H, hS⟩ := ev_setI_ok (x := y) hr hp hc hb (fun c => absurd c (Nat.lt_irrefl _)) H
    exact gw_sm rfl rfl rfl rfl rfl hc.1 (hnx _ _ _ _ _ _ _ _ H hl hs2 hS hQ)
  · cases H
theorem ev_u_01 {y : Int32} (h : Nat.ble (ev_u y) 1 = true) : y = 0 ∨ y = 1 := by
  have h1 := Nat.ble_eq.mp h
  rcases Nat.lt_or_ge (ev_u y) 1 with h2 | h2
  · exact .inl (ev_u_inj (by show ev_u y = 0; omega))
  · exact .inr (ev_u_inj (by show ev_u y = 1; omega))
theorem ok_pZ {q : Nat} : ev_OK (pc, .putfield q, a, b, 1, v) (eh_pZ a b) := fun X E ml hn mi d cs sc nx to cal hsc hnx hto hcal ls st S r ls' st' h Q H hl hs hr hQ => by
  unfold eh_pZ ev_pf1 at H
  split at H
  · obtain ⟨w, r', rfl, ⟨y, rfl, rfl⟩, hs1⟩ := ev_gs_cons hs
    obtain ⟨w, r', rfl, hx, hs2⟩ := ev_gs_cons hs1
    have e : w = .ref _ := hx
    subst e
    obtain ⟨h1, H⟩ := ev_cond H
    obtain ⟨len, ai, al, ar, hp, H, hc, e7, hb⟩ := ev_ob_ok H hr
    rw [← e7] at H
    obtain ⟨S', H, hS⟩ := ev_setI_ok (x := y) hr hp hc hb (fun _ => rfl) H
    exact gw_sm rfl rfl rfl rfl rfl ⟨hc.1, ev_u_01 h1⟩ (hnx _ _ _ _ _ _ _ _ H hl hs2 hS hQ)
  · cases H
theorem ok_pR {q j : Nat} : ev_OK (pc, .putfield q, a, b, j + 3, v) (eh_pR a b) := fun X E ml hn mi d cs sc nx to cal hsc hnx hto hcal ls st S r ls' st' h Q H hl hs hr hQ => by
  unfold eh_pR ev_pf3 at H
  split at H
  · obtain ⟨w, r', rfl, hx, hs1⟩ := ev_gs_cons hs
    have e : w = .ref _ := hx
    subst e
    obtain ⟨w, r', rfl, hx', hs2⟩ := ev_gs_cons hs1
    have e : w = .ref _ := hx'
    subst e
    obtain ⟨h1, H⟩ := ev_cond H
    obtain ⟨len, ai, al, ar, hp, H, hc, e7, hb⟩ := ev_ob_ok H hr
    rw [← e7] at H
    obtain ⟨S', H, hS⟩ := ev_setR_ok hr hp hc hb H
    exact gw_sm rfl rfl rfl rfl rfl ⟨hc.1, Nat.ne_of_gt (Nat.blt_eq.mp h1)⟩ (hnx _ _ _ _ _ _ _ _ H hl hs2 hS hQ)
  · cases H
theorem ok_gs {q : Nat} : ev_OK (pc, .getstatic q, a, b, k, v) (eh_gs a) := fun X E ml hn mi d cs sc nx to cal hsc hnx hto hcal ls st S r ls' st' h Q H hl hs hr hQ =>
  gw_sm rfl rfl rfl rfl rfl trivial (hnx _ _ _ _ _ _ _ _ H hl ⟨rfl, hs⟩ hr hQ)
theorem ok_ia : ev_OK (pc, .iaload, a, b, k, v) eh_ia := fun X E ml hn mi d cs sc nx to cal hsc hnx hto hcal ls st S r ls' st' h Q H hl hs hr hQ => by
  unfold eh_ia ev_ia at H
  split at H
  · obtain ⟨w, r', rfl, ⟨y, rfl, hy⟩, hs1⟩ := ev_gs_cons hs
    obtain ⟨w, r', rfl, hx, hs2⟩ := ev_gs_cons hs1
    have e : w = .ref _ := hx
    subst e
    obtain ⟨len, ai, al, ar, hp, H, hc, h1, h2, h3⟩ := ev_ra_ok H (by decide) hr
    obtain ⟨i1, i2⟩ := ev_ix hy h1 h2
    rw [ev_f_eq] at H
    obtain ⟨y, H, hy⟩ := ev_gi_hv (hc.2.2 _ h3).1 H
    exact gw_sm rfl rfl rfl rfl rfl ⟨hc.1, by rw [hc.2.1]; exact i1⟩ (hnx _ _ _ _ _ _ _ _ H hl ⟨by rw [i2]; exact hy, hs2⟩ hr hQ)
  · obtain ⟨w, r', rfl, ⟨y, rfl, hy⟩, hs1⟩ := ev_gs_cons hs
    obtain ⟨w, r', rfl, hx, hs2⟩ := ev_gs_cons hs1
    have e : w = .retAddr _ := hx
    subst e
    obtain ⟨s1, s2, s3⟩ := hsc
    split at H
    · obtain ⟨hb, H⟩ := ev_cond H
      obtain ⟨h1, h2⟩ := ev_and hb
      have h1 := Nat.blt_eq.mp h1
      obtain ⟨i1, i2⟩ := ev_ix hy h1 (Nat.ble_eq.mp h2)
      have hv := s2 _ h1
      unfold ev_sc at H
      split at H
      · rename_i e
        rw [e] at hv
        exact gw_sm rfl rfl rfl rfl rfl (by rw [s1 (by omega)]; exact i1) (hnx _ _ _ _ _ _ _ _ H hl ⟨by rw [i2]; exact hv, hs2⟩ hr hQ)
      · rename_i e
        rw [e] at hv
        exact gw_sm rfl rfl rfl rfl rfl (by rw [s1 (by omega)]; exact i1) (hnx _ _ _ _ _ _ _ _ H hl ⟨by rw [i2]; exact hv, hs2⟩ hr hQ)
      · cases H
    · rename_i j
      obtain ⟨hb, H⟩ := ev_cond H
      obtain ⟨h1, h2⟩ := ev_and hb
      have h1 := Nat.blt_eq.mp h1
      obtain ⟨i1, i2⟩ := ev_ix hy h1 (Nat.ble_eq.mp h2)
      rw [ev_f_eq] at H
      exact gw_sm rfl rfl rfl rfl rfl (by rw [show E (Nat.succ j) = _ from s3 j]; exact i1) (hnx _ _ _ _ _ _ _ _ H hl ⟨⟨_, rfl, by rw [i2, show E (Nat.succ j) = _ from s3 j]⟩, hs2⟩ hr hQ)
  · cases H
theorem ok_ba : ev_OK (pc, .baload, a, b, k, v) eh_ba := fun X E ml hn mi d cs sc nx to cal hsc hnx hto hcal ls st S r ls' st' h Q H hl hs hr hQ => by
  unfold eh_ba ev_ba at H
  split at H
  · obtain ⟨w, r', rfl, ⟨y, rfl, hy⟩, hs1⟩ := ev_gs_cons hs
    obtain ⟨w, r', rfl, hx, hs2⟩ := ev_gs_cons hs1
    have e : w = .ref _ := hx
    subst e
    obtain ⟨len, ai, al, ar, hp, H, hc, h1, h2, h3⟩ := ev_ra_ok H (by decide) hr
    obtain ⟨i1, i2⟩ := ev_ix hy h1 h2
    rw [ev_f_eq] at H
    obtain ⟨y, H, hy⟩ := ev_gi_hv (hc.2.2 _ h3).1 H
    exact gw_sm rfl rfl rfl rfl rfl ⟨hc.1, by rw [hc.2.1]; exact i1⟩ (hnx _ _ _ _ _ _ _ _ H hl ⟨by rw [i2]; exact hy, hs2⟩ hr hQ)
  · cases H
theorem ok_ja : ev_OK (pc, .laload, a, b, k, v) eh_ja := fun X E ml hn mi d cs sc nx to cal hsc hnx hto hcal ls st S r ls' st' h Q H hl hs hr hQ => by
  unfold eh_ja ev_la at H
  split at H
  · obtain ⟨w, r', rfl, ⟨y, rfl, hy⟩, hs1⟩ := ev_gs_cons hs
    obtain ⟨w, r', rfl, hx, hs2⟩ := ev_gs_cons hs1
    have e : w = .ref _ := hx
    subst e
    obtain ⟨len, ai, al, ar, hp, H, hc, h1, h2, h3⟩ := ev_ra_ok H (by decide) hr
    obtain ⟨i1, i2⟩ := ev_ix hy h1 h2
    rw [ev_f_eq] at H
    exact gw_sm rfl rfl rfl rfl rfl ⟨hc.1, by rw [hc.2.1]; exact i1⟩ (hnx _ _ _ _ _ _ _ _ H hl ⟨⟨_, rfl, by rw [i2]; exact (hc.2.2 _ h3).2.1⟩, hs2⟩ hr hQ)
  · cases H
theorem ok_is : ev_OK (pc, .iastore, a, b, k, v) eh_is := fun X E ml hn mi d cs sc nx to cal hsc hnx hto hcal ls st S r ls' st' h Q H hl hs hr hQ => by
  unfold eh_is ev_is at H
  split at H
  · obtain ⟨w, r', rfl, ⟨z, rfl, rfl⟩, hs1⟩ := ev_gs_cons hs
    obtain ⟨w, r', rfl, ⟨y, rfl, hy⟩, hs2⟩ := ev_gs_cons hs1
    obtain ⟨w, r', rfl, hx, hs3⟩ := ev_gs_cons hs2
    have e : w = .ref _ := hx
    subst e
    obtain ⟨len, ai, al, ar, hp, H, hc, h1, h2, h3⟩ := ev_ra_ok H (by decide) hr
    obtain ⟨i1, i2⟩ := ev_ix hy h1 h2
    obtain ⟨S', H, hS⟩ := ev_setI_ok (x := z) hr hp hc h3 (fun _ => rfl) H
    exact gw_sm rfl rfl rfl rfl rfl ⟨hc.1, by rw [hc.2.1]; exact i1⟩ (hnx _ _ _ _ _ _ _ _ H hl hs3 (by rw [i2]; exact hS) hQ)
  · obtain ⟨w, r', rfl, ⟨z, rfl, -⟩, hs1⟩ := ev_gs_cons hs
    obtain ⟨w, r', rfl, ⟨y, rfl, hy⟩, hs2⟩ := ev_gs_cons hs1
    obtain ⟨w, r', rfl, hx, hs3⟩ := ev_gs_cons hs2
    have e : w = .ref _ := hx
    subst e
    obtain ⟨len, ai, al, ar, hp, H, hc, h1, h2, h3⟩ := ev_ra_ok H (by decide) hr
    obtain ⟨i1, i2⟩ := ev_ix hy h1 h2
    obtain ⟨S', H, hS⟩ := ev_setI_ok (x := z) hr hp hc h3 (fun c => absurd c (Nat.lt_irrefl _)) H
    exact gw_sm rfl rfl rfl rfl rfl ⟨hc.1, by rw [hc.2.1]; exact i1⟩ (hnx _ _ _ _ _ _ _ _ H hl hs3 (by rw [i2]; exact hS) hQ)
  · cases H
theorem ok_bs : ev_OK (pc, .bastore, a, b, k, v) eh_bs := fun X E ml hn mi d cs sc nx to cal hsc hnx hto hcal ls st S r ls' st' h Q H hl hs hr hQ => by
  unfold eh_bs ev_bs at H
  split at H
  · obtain ⟨w, r', rfl, ⟨z, rfl, rfl⟩, hs1⟩ := ev_gs_cons hs
    obtain ⟨w, r', rfl, ⟨y, rfl, hy⟩, hs2⟩ := ev_gs_cons hs1
    obtain ⟨w, r', rfl, hx, hs3⟩ := ev_gs_cons hs2
    have e : w = .ref _ := hx
    subst e
    obtain ⟨len, ai, al, ar, hp, H, hc, h1, h2, h3⟩ := ev_ra_ok H (by decide) hr
    obtain ⟨i1, i2⟩ := ev_ix hy h1 h2
    rw [ev_f_eq, ev_i_u] at H
    obtain ⟨S', H, hS⟩ := ev_setI_ok (x := z.toInt8.toInt32) hr hp hc h3 (fun _ => rfl) H
    exact gw_sm rfl rfl rfl rfl rfl ⟨hc.1, by rw [hc.2.1]; exact i1⟩ (hnx _ _ _ _ _ _ _ _ H hl hs3 (by rw [i2]; exact hS) hQ)
  · obtain ⟨w, r', rfl, ⟨z, rfl, -⟩, hs1⟩ := ev_gs_cons hs
    obtain ⟨w, r', rfl, ⟨y, rfl, hy⟩, hs2⟩ := ev_gs_cons hs1
    obtain ⟨w, r', rfl, hx, hs3⟩ := ev_gs_cons hs2
    have e : w = .ref _ := hx
    subst e
    obtain ⟨len, ai, al, ar, hp, H, hc, h1, h2, h3⟩ := ev_ra_ok H (by decide) hr
    obtain ⟨i1, i2⟩ := ev_ix hy h1 h2
    obtain ⟨S', H, hS⟩ := ev_setI_ok (x := z.toInt8.toInt32) hr hp hc h3 (fun c => absurd c (Nat.lt_irrefl _)) H
    exact gw_sm rfl rfl rfl rfl rfl ⟨hc.1, by rw [hc.2.1]; exact i1⟩ (hnx _ _ _ _ _ _ _ _ H hl hs3 (by rw [i2]; exact hS) hQ)
  · cases H
theorem ok_js : ev_OK (pc, .lastore, a, b, k, v) eh_js := fun X E ml hn mi d cs sc nx to cal hsc hnx hto hcal ls st S r ls' st' h Q H hl hs hr hQ => by
  unfold eh_js ev_lt2 at H
  split at H
  · obtain ⟨w, r', rfl, ⟨z, rfl, rfl⟩, hs1⟩ := ev_gs_cons hs
    obtain ⟨w, r', rfl, ⟨y, rfl, hy⟩, hs2⟩ := ev_gs_cons hs1
    obtain ⟨w, r', rfl, hx, hs3⟩ := ev_gs_cons hs2
    have e : w = .ref _ := hx
    subst e
    obtain ⟨len, ai, al, ar, hp, H, hc, h1, h2, h3⟩ := ev_ra_ok H (by decide) hr
    obtain ⟨i1, i2⟩ := ev_ix hy h1 h2
    obtain ⟨S', H, hS⟩ := ev_setL_ok (x := z) hr hp hc h3 rfl H
    exact gw_sm rfl rfl rfl rfl rfl ⟨hc.1, by rw [hc.2.1]; exact i1⟩ (hnx _ _ _ _ _ _ _ _ H hl hs3 (by rw [i2]; exact hS) hQ)
  · cases H
theorem ok_al : ev_OK (pc, .arraylength, a, b, k, v) eh_al := fun X E ml hn mi d cs sc nx to cal hsc hnx hto hcal ls st S r ls' st' h Q H hl hs hr hQ => by
  unfold eh_al ev_al at H
  split at H
  · obtain ⟨w, r', rfl, hx, hs1⟩ := ev_gs_cons hs
    have e : w = .ref _ := hx
    subst e
    obtain ⟨tag, len, ai, al, ar, hp, H, hc⟩ := ev_cl_ok H hr
    obtain ⟨hb, H⟩ := ev_cond H
    obtain ⟨h1, h2⟩ := ev_and hb
    have ht : tag = 1000 ∨ tag = 1002 ∨ tag = 1003 := by
      simp only [Bool.or_eq_true] at h1
      rcases h1 with h1 | h1 | h1
      · exact .inl (Nat.eq_of_beq_eq_true h1)
      · exact .inr (.inl (Nat.eq_of_beq_eq_true h1))
      · exact .inr (.inr (Nat.eq_of_beq_eq_true h1))
    have h2 := Nat.ble_eq.mp h2
    exact gw_sm rfl rfl rfl rfl rfl (by rw [hc.1]; exact ht) (hnx _ _ _ _ _ _ _ _ H hl ⟨⟨_, rfl, by rw [hc.2.1]; exact ev_u_nI (by omega)⟩, hs1⟩ hr hQ)
  · obtain ⟨w, r', rfl, hx, hs1⟩ := ev_gs_cons hs
    have e : w = .retAddr _ := hx
    subst e
    obtain ⟨s1, s2, s3⟩ := hsc
    split at H
    · obtain ⟨hb, H⟩ := ev_cond H
      obtain ⟨hb, h2⟩ := ev_and hb
      have hb := Nat.blt_eq.mp hb
      have h2 := Nat.ble_eq.mp h2
      rw [ev_f_eq] at H
      exact gw_sm rfl rfl rfl rfl rfl trivial (hnx _ _ _ _ _ _ _ _ H hl ⟨⟨_, rfl, by rw [s1 hb]; exact ev_u_nI (by omega)⟩, hs1⟩ hr hQ)
    · rename_i j
      obtain ⟨hb, H⟩ := ev_cond H
      have h2 := Nat.ble_eq.mp hb
      rw [ev_f_eq] at H
      exact gw_sm rfl rfl rfl rfl rfl trivial (hnx _ _ _ _ _ _ _ _ H hl ⟨⟨_, rfl, by rw [show E (Nat.succ j) = _ from s3 j]; exact ev_u_nI (Nat.lt_of_le_of_lt h2 (by decide))⟩, hs1⟩ hr hQ)
  · cases H
theorem ev_u_ne {y : Int32} (h : Nat.beq (ev_u y) 0 = false) : ¬ y = 0 := fun e => by
  have := Nat.ne_of_beq_eq_false h
  rw [e] at this
  exact this rfl
theorem ok_dv : ev_OK (pc, .idiv, a, b, k, v) eh_dv := fun X E ml hn mi d cs sc nx to cal hsc hnx hto hcal ls st S r ls' st' h Q H hl hs hr hQ => by
  unfold eh_dv ev_dv at H
  split at H
  · obtain ⟨w, r', rfl, ⟨y, rfl, rfl⟩, hs1⟩ := ev_gs_cons hs
    obtain ⟨w, r', rfl, ⟨x, rfl, rfl⟩, hs2⟩ := ev_gs_cons hs1
    obtain ⟨h1, H⟩ := ev_cond' H
    rw [ev_f_eq, ev_i_u, ev_i_u] at H
    exact gw_sm rfl rfl rfl rfl rfl (ev_u_ne h1) (hnx _ _ _ _ _ _ _ _ H hl ⟨⟨_, rfl, rfl⟩, hs2⟩ hr hQ)
  · cases H
theorem ok_rm : ev_OK (pc, .irem, a, b, k, v) eh_rm := fun X E ml hn mi d cs sc nx to cal hsc hnx hto hcal ls st S r ls' st' h Q H hl hs hr hQ => by
  unfold eh_rm ev_rm at H
  split at H
  · obtain ⟨w, r', rfl, ⟨y, rfl, rfl⟩, hs1⟩ := ev_gs_cons hs
    obtain ⟨w, r', rfl, ⟨x, rfl, rfl⟩, hs2⟩ := ev_gs_cons hs1
    obtain ⟨h1, H⟩ := ev_cond' H
    rw [ev_f_eq, ev_i_u, ev_i_u] at H
    exact gw_sm rfl rfl rfl rfl rfl (ev_u_ne h1) (hnx _ _ _ _ _ _ _ _ H hl ⟨⟨_, rfl, rfl⟩, hs2⟩ hr hQ)
  · cases H
theorem ok_na {q : ArrayType} : ev_OK (pc, .newarray q, a, b, k, v) (eh_na a) := fun X E ml hn mi d cs sc nx to cal hsc hnx hto hcal ls st S r ls' st' h Q H hl hs hr hQ => by
  unfold eh_na ev_na at H
  split at H
  · obtain ⟨w, r', rfl, ⟨y, rfl, hy⟩, hs1⟩ := ev_gs_cons hs
    obtain ⟨h1, H⟩ := ev_cond H
    have h1 := Nat.ble_eq.mp h1
    obtain ⟨hm, S', H, hS⟩ := ev_nw_ok hr H
    rename_i n0 r0 _ _ _
    have e := ev_nI hy (by omega)
    have e2 : y.toNatClampNeg = n0 := by rw [e]; exact nI_clamp (by omega)
    exact gw_sm rfl rfl rfl rfl rfl ⟨by rw [e]; exact nI_pos (by omega), by rw [e2]; exact h1, hm.1, by rw [e2]; exact hm.2⟩ (hnx _ _ _ _ _ _ _ _ H hl ⟨rfl, hs1⟩ (by rw [e2]; exact hS) hQ)
  · cases H
theorem ok_nw {q : Nat} : ev_OK (pc, .new q, a, b, k, v) (eh_nw a b) := fun X E ml hn mi d cs sc nx to cal hsc hnx hto hcal ls st S r ls' st' h Q H hl hs hr hQ => by
  unfold eh_nw at H
  obtain ⟨hm, S', H, hS⟩ := ev_nw_ok hr H
  exact gw_sm rfl rfl rfl rfl rfl hm (hnx _ _ _ _ _ _ _ _ H hl ⟨rfl, hs⟩ hS hQ)
theorem ev_ct_ok {x : ev_X} {w : Value} (h : ev_v x w) : w.category = ev_ct x := by
  cases x with
  | num n => obtain ⟨y, rfl, -⟩ := h; rfl
  | add a b => obtain ⟨y, rfl, -⟩ := h; rfl
  | var p => cases h; rfl
  | mul a b =>
    cases a with
    | num j => cases h; rfl
    | var n => obtain ⟨y, rfl, -⟩ := h; rfl
    | add _ _ => exact absurd h id
    | mul _ _ => exact absurd h id
theorem ev_sum_ok : ∀ {st : List ev_X} {st' : List Value}, ev_gs st st' → (st'.map fun v => v.category).sum = (st.map ev_ct).sum
  | [], [], _ => rfl
  | x :: r, v :: r', h => by
    simp only [List.map_cons, List.sum_cons]
    rw [ev_ct_ok h.1, ev_sum_ok h.2]
  | [], _ :: _, h => absurd h id
  | _ :: _, [], h => absurd h id
theorem ev_few_ok {st : List ev_X} {st' : List Value} (h : ev_gs st st') (hf : ev_few st = true) : ez_few st' = true := by
  unfold ez_few; rw [ev_sum_ok h]; exact hf
theorem ok_oi {q : Nat} : ev_OK (pc, .invokespecial q, a, b, 0, v) eh_oi := fun X E ml hn mi d cs sc nx to cal hsc hnx hto hcal ls st S r ls' st' h Q H hl hs hr hQ => by
  unfold eh_oi ev_in at H
  split at H
  · obtain ⟨w, r', rfl, hx, hs1⟩ := ev_gs_cons hs
    have e : w = .ref _ := hx
    subst e
    obtain ⟨h1, H⟩ := ev_cond H
    exact gw_sm rfl rfl rfl rfl rfl (ev_few_ok hs1 h1) (hnx _ _ _ _ _ _ _ _ H hl hs1 hr hQ)
  · cases H
theorem ok_max {q : Nat} : ev_OK (pc, .invokestatic q, a, b, 1, v) eh_max := fun X E ml hn mi d cs sc nx to cal hsc hnx hto hcal ls st S r ls' st' h Q H hl hs hr hQ => by
  unfold eh_max ev_max at H
  split at H
  · obtain ⟨w, r', rfl, ⟨y, rfl, rfl⟩, hs1⟩ := ev_gs_cons hs
    obtain ⟨w, r', rfl, ⟨x, rfl, rfl⟩, hs2⟩ := ev_gs_cons hs1
    obtain ⟨h1, H⟩ := ev_cond H
    cases hb : Nat.blt (ev_e (ev_u x)) (ev_e (ev_u y)) with
    | true =>
      rw [hb] at H
      have hlt : x < y := (ev_lt_iff _ _).mpr (Nat.blt_eq.mp hb)
      exact gw_sm rfl rfl rfl rfl rfl (ev_few_ok hs2 h1) (hnx _ _ _ _ _ _ _ _ H hl ⟨⟨_, rfl, by simp only [hlt, ↓reduceIte]⟩, hs2⟩ hr hQ)
    | false =>
      rw [hb] at H
      have hlt : ¬ x < y := fun c => by rw [Nat.blt_eq.mpr ((ev_lt_iff _ _).mp c)] at hb; cases hb
      exact gw_sm rfl rfl rfl rfl rfl (ev_few_ok hs2 h1) (hnx _ _ _ _ _ _ _ _ H hl ⟨⟨_, rfl, by simp only [hlt, ↓reduceIte]⟩, hs2⟩ hr hQ)
  · cases H
theorem ok_min {q : Nat} : ev_OK (pc, .invokestatic q, a, b, 2, v) eh_min := fun X E ml hn mi d cs sc nx to cal hsc hnx hto hcal ls st S r ls' st' h Q H hl hs hr hQ => by
  unfold eh_min ev_min at H
  split at H
  · obtain ⟨w, r', rfl, ⟨y, rfl, rfl⟩, hs1⟩ := ev_gs_cons hs
    obtain ⟨w, r', rfl, ⟨x, rfl, rfl⟩, hs2⟩ := ev_gs_cons hs1
    obtain ⟨h1, H⟩ := ev_cond H
    cases hb : Nat.blt (ev_e (ev_u y)) (ev_e (ev_u x)) with
    | true =>
      rw [hb] at H
      have hlt : y < x := (ev_lt_iff _ _).mpr (Nat.blt_eq.mp hb)
      exact gw_sm rfl rfl rfl rfl rfl (ev_few_ok hs2 h1) (hnx _ _ _ _ _ _ _ _ H hl ⟨⟨_, rfl, by simp only [hlt, ↓reduceIte]⟩, hs2⟩ hr hQ)
    | false =>
      rw [hb] at H
      have hlt : ¬ y < x := fun c => by rw [Nat.blt_eq.mpr ((ev_lt_iff _ _).mp c)] at hb; cases hb
      exact gw_sm rfl rfl rfl rfl rfl (ev_few_ok hs2 h1) (hnx _ _ _ _ _ _ _ _ H hl ⟨⟨_, rfl, by simp only [hlt, ↓reduceIte]⟩, hs2⟩ hr hQ)
  · cases H
theorem ok_ri : ev_OK (pc, .ireturn, 0, b, k, v) eh_ri := fun X E ml hn mi d cs sc nx to cal hsc hnx hto hcal ls st S r ls' st' h Q H hl hs hr hQ => by
  unfold eh_ri at H
  split at H
  · obtain ⟨w, r', rfl, hx, hs1⟩ := ev_gs_cons hs
    have e := ev_gs_nil hs1
    subst e
    obtain ⟨y, rfl, -⟩ := id hx
    cases H
    exact gw_rt rfl rfl rfl rfl rfl rfl trivial (hQ _ _ hx hr)
  · obtain ⟨w, r', rfl, hx, hs1⟩ := ev_gs_cons hs
    have e := ev_gs_nil hs1
    subst e
    obtain ⟨y, rfl, -⟩ := id hx
    cases H
    exact gw_rt rfl rfl rfl rfl rfl rfl trivial (hQ _ _ hx hr)
  · cases H
theorem ok_rz {j : Nat} : ev_OK (pc, .ireturn, j + 1, b, k, v) eh_rz := fun X E ml hn mi d cs sc nx to cal hsc hnx hto hcal ls st S r ls' st' h Q H hl hs hr hQ => by
  unfold eh_rz at H
  split at H
  · obtain ⟨w, r', rfl, hx, hs1⟩ := ev_gs_cons hs
    have e := ev_gs_nil hs1
    subst e
    obtain ⟨y, rfl, hy⟩ := id hx
    obtain ⟨h1, H⟩ := ev_cond H
    cases H
    exact gw_rt rfl rfl rfl rfl rfl rfl (ev_u_01 (by rw [hy]; exact h1)) (hQ _ _ hx hr)
  · cases H
theorem ok_rl : ev_OK (pc, .lreturn, a, b, k, v) eh_rl := fun X E ml hn mi d cs sc nx to cal hsc hnx hto hcal ls st S r ls' st' h Q H hl hs hr hQ => by
  unfold eh_rl at H
  split at H
  · obtain ⟨w, r', rfl, hx, hs1⟩ := ev_gs_cons hs
    have e := ev_gs_nil hs1
    subst e
    obtain ⟨y, rfl, hy⟩ := id hx
    cases H
    exact gw_rt rfl rfl rfl rfl rfl rfl trivial (hQ _ _ hx hr)
  · cases H
theorem ok_rv : ev_OK (pc, .return_, a, b, k, v) eh_rv := fun X E ml hn mi d cs sc nx to cal hsc hnx hto hcal ls st S r ls' st' h Q H hl hs hr hQ => by
  unfold eh_rv at H
  split at H
  · have e := ev_gs_nil hs
    subst e
    cases H
    exact gw_rt rfl rfl rfl rfl rfl rfl trivial (hQ _ _ trivial hr)
  · cases H
theorem ok_th : ev_OK (pc, .athrow, a, b, k, v) (eh_th a) := fun X E ml hn mi d cs sc nx to cal hsc hnx hto hcal ls st S r ls' st' h Q H hl hs hr hQ => by
  unfold eh_th at H
  split at H
  · have e := ev_gs_nil hs
    subst e
    obtain ⟨h1, H⟩ := ev_cond H
    obtain ⟨h1, h2⟩ := ev_and h1
    rw [ev_f_eq, ev_f_eq] at H
    cases H
    refine ⟨⟨by rw [hr.1]; exact Nat.ble_eq.mp h1, by rw [hr.2.1]; exact Nat.ble_eq.mp h2⟩, hQ _ _ rfl ⟨?_, ?_, hr.2.2⟩⟩
    · show ez_n h + 1 = Nat.succ S.1; rw [hr.1]
    · show ez_u h + 6 = Nat.add S.2.1 6; rw [hr.2.1]
  · cases H
theorem ok_cl (h0 : ∀ st, ez_op i v st = none) (h1 : ∀ ls st, ez_ld i ls st = none) (h2 : ∀ ls st, ez_st i v ls st = none) (h3 : ∀ st, ez_br i st = none) (h4 : ∀ E ls st h, ez_sm E i a b k ls st h = none) (h5 : ∀ st, ez_rt i a st = none) (h6 : ∀ st, ez_jp i pc a st = (none, st)) (h7 : ez_cl i k = true) : ev_OK (pc, i, a, b, k, v) (eh_cl pc a b k) := fun X E ml hn mi d cs sc nx to cal hsc hnx hto hcal ls st S r ls' st' h Q H hl hs hr hQ =>
  gw_cl (h0 _) (h1 _ _) (h2 _ _) (h3 _) (h4 _ _ _ _) (h5 _) (h6 _) h7 (hcal a b k ls st S r ls' st' h Q H hl hs hr hQ)
end OKC
end
section
/-! copies, calls, and the whole -/
theorem ev_cp_ok {D : Nat} {src : ev_X} {sp dp : Nat} : ∀ (n : Nat) (t : ev_X) (c : ev_X → ev_R), dp + n ≤ 2 ^ D → ∃ t', ev_cp D src sp dp n t c = c t' ∧ ∀ j, j < 2 ^ D → ev_g t' j = if dp ≤ j ∧ j < dp + n then ev_g src (sp + (j - dp)) else ev_g t j
  | 0, t, c, _ => ⟨t, rfl, fun j _ => by
    have : ¬ (dp ≤ j ∧ j < dp + 0) := by omega
    simp only [this, ↓reduceIte]⟩
  | n + 1, t, c, h => by
    obtain ⟨t', e, ht⟩ := ev_cp_ok (D := D) (src := src) (sp := sp) (dp := dp) n (ev_ps D t (dp + n) (.num (ev_g src (sp + n)))) c (by omega)
    refine ⟨t', ?_, fun j hj => ?_⟩
    · show ev_f (ev_g src (Nat.add sp n)) (fun v => ev_s D t (Nat.add dp n) (.num v) (fun t => ev_cp D src sp dp n t c)) = _
      rw [ev_f_eq, ev_s_eq]
      exact e
    · rw [ht j hj, ev_ps_get ev_Rd_g (fun _ _ => rfl) D _ _ _ (by omega) hj]
      by_cases h1 : dp ≤ j ∧ j < dp + n
      · have h2 : dp ≤ j ∧ j < dp + (n + 1) := by omega
        simp only [h1, h2, and_self, ↓reduceIte]
      · by_cases h3 : j = dp + n
        · have h2 : dp ≤ j ∧ j < dp + (n + 1) := by omega
          have h4 : sp + (j - dp) = sp + n := by omega
          rw [if_neg h1, if_pos h3, if_pos h2, h4]
          rfl
        · have h2 : ¬ (dp ≤ j ∧ j < dp + (n + 1)) := by omega
          simp only [h1, h2, h3, ↓reduceIte]
theorem ok_ac {pc a b j q : Nat} {v : Int32} : ev_OK (pc, .invokestatic q, a, b, j + 3, v) eh_ac := fun X E ml hn mi d cs sc nx to cal hsc hnx hto hcal ls st S r ls' st' h Q H hl hs hr hQ => by
  unfold eh_ac ev_ac at H
  split at H
  · rename_i nn nd pq ns pp rr
    obtain ⟨w, r', rfl, ⟨n, rfl, en⟩, hs1⟩ := ev_gs_cons hs
    obtain ⟨w, r', rfl, ⟨dp, rfl, ed⟩, hs2⟩ := ev_gs_cons hs1
    obtain ⟨w, r', rfl, hx, hs3⟩ := ev_gs_cons hs2
    have e : w = .ref _ := hx
    subst e
    obtain ⟨w, r', rfl, ⟨sp, rfl, es⟩, hs4⟩ := ev_gs_cons hs3
    obtain ⟨w, r', rfl, hx', hs5⟩ := ev_gs_cons hs4
    have e : w = .ref _ := hx'
    subst e
    obtain ⟨hf, H⟩ := ev_cond H
    obtain ⟨tag, len, ai, al, ar, hp, H, hc⟩ := ev_cl_ok H hr
    obtain ⟨h1, H⟩ := ev_cond H
    obtain ⟨h1, h2⟩ := ev_and h1
    obtain ⟨h2, h3⟩ := ev_and h2
    have e1 := Nat.eq_of_beq_eq_true h1
    have h2 := Nat.ble_eq.mp h2
    have h3 := Nat.ble_eq.mp h3
    obtain ⟨tag', len', ai', al', ar', hp', H, hc'⟩ := ev_cl_ok H hr
    obtain ⟨h1', H3⟩ := ev_cond H
    obtain ⟨h1', h2'⟩ := ev_and h1'
    obtain ⟨h2', h3'⟩ := ev_and h2'
    have e1' := Nat.eq_of_beq_eq_true h1'
    have h2' := Nat.ble_eq.mp h2'
    have h3' := Nat.ble_eq.mp h3'
    subst e1
    subst e1'
    have h2 : ns + nn ≤ len := h2
    have h2' : nd + nn ≤ len' := h2'
    have fn := ev_nI en (by omega)
    have fd := ev_nI ed (by omega)
    have fs := ev_nI es (by omega)
    have cn : n.toNatClampNeg = nn := by rw [fn]; exact nI_clamp (by omega)
    have cd : dp.toNatClampNeg = nd := by rw [fd]; exact nI_clamp (by omega)
    have csp : sp.toNatClampNeg = ns := by rw [fs]; exact nI_clamp (by omega)
    have hl2 : len' < 2 ^ ev_dp 1000 len' := Nat.lt_log2_self
    have hl1 : len < 2 ^ ev_dp 1000 len := Nat.lt_log2_self
    obtain ⟨t', e, ht⟩ := ev_cp_ok (D := ev_dp 1000 len') (src := ai) (sp := ns) (dp := nd) nn ai' (fun ai' => ev_pc S pq 1000 len' ai' al' ar' (fun S => nx ls rr S)) (by omega)
    rw [e] at H3
    obtain ⟨S', e', hS⟩ := ev_pc_ok (S := S) (c := fun S => nx ls rr S) (tag := 1000) (len := len') (ai := t') (al := al') (ar := ar') (h' := ez_rowI h pq (va_cpy (ez_I h pp) (ez_I h pq) ns nd nn)) hr hp' rfl rfl (fun q hq => ⟨rfl, rfl, by
      show ez_row (ez_I h) pq _ q = _
      unfold ez_row
      simp only [hq, ↓reduceIte], rfl, rfl⟩) ⟨hc'.1, hc'.2.1, fun j hj => by
      obtain ⟨b1, b2, b3⟩ := hc'.2.2 j hj
      refine ⟨?_, b2, b3⟩
      rw [ht j (ev_szl hj)]
      show ev_gi _ (ez_row (ez_I h) pq (va_cpy (ez_I h pp) (ez_I h pq) ns nd nn) pq j)
      unfold ez_row va_cpy
      simp only [↓reduceIte]
      by_cases hj2 : nd ≤ j ∧ j < nd + nn
      · simp only [hj2, and_self, ↓reduceIte]
        exact (hc.2.2 _ (show ns + (j - nd) < len by omega)).1
      · simp only [hj2, ↓reduceIte]
        exact b1⟩
    rw [e'] at H3
    exact gw_sm rfl rfl rfl rfl rfl ⟨ev_few_ok hs5 hf, ⟨hc.1, hc'.1⟩, by rw [fs]; exact nI_pos (by omega), by rw [fd]; exact nI_pos (by omega), by rw [fn]; exact nI_pos (by omega), by rw [csp, cn, hc.2.1]; exact h2, by rw [cd, cn, hc'.2.1]; exact h2'⟩ (hnx _ _ _ _ _ _ _ _ H3 hl hs5 (by rw [csp, cd, cn]; exact hS) hQ)
  · cases H
set_option maxHeartbeats 4000000 in
/-- every instruction -/
theorem ev_ok (e : ez_C) : ev_OK e (ev_tr e).2 := by
  obtain ⟨pc, i, a, b, k, v⟩ := e
  cases i
  case getfield q => rcases k with _ | _ | _ | _ | k; exact ok_gI (.inl rfl); exact ok_gI (.inr rfl); exact ok_gL; exact ok_gR; exact ok_gK
  case putfield q => rcases k with _ | _ | _ | k; exact ok_pI; exact ok_pZ; exact ok_no; exact ok_pR
  case invokespecial q => rcases k with _ | k; exact ok_oi; exact ok_cl (fun _ => rfl) (fun _ _ => rfl) (fun _ _ => rfl) (fun _ => rfl) (fun _ _ _ _ => rfl) (fun _ => rfl) (fun _ => rfl) rfl
  case invokestatic q => rcases k with _ | _ | _ | k; exact ok_cl (fun _ => rfl) (fun _ _ => rfl) (fun _ _ => rfl) (fun _ => rfl) (fun _ _ _ _ => rfl) (fun _ => rfl) (fun _ => rfl) rfl; exact ok_max; exact ok_min; exact ok_ac
  case invokevirtual q => exact ok_cl (fun _ => rfl) (fun _ _ => rfl) (fun _ _ => rfl) (fun _ => rfl) (fun _ _ _ _ => rfl) (fun _ => rfl) (fun _ => rfl) rfl
  case ireturn => rcases a with _ | a; exact ok_ri; exact ok_rz
  case iconst => exact ok_C (fun _ => rfl)
  case bipush => exact ok_C (fun _ => rfl)
  case sipush => exact ok_C (fun _ => rfl)
  case ldc => exact ok_C (fun _ => rfl)
  case ldc_w => exact ok_C (fun _ => rfl)
  case ldc2_w => exact ok_J (fun _ => rfl)
  case lconst => exact ok_J (fun _ => rfl)
  case i2b => exact ok_1 (fun _ _ => rfl)
  case ineg => exact ok_1 (fun _ _ => rfl)
  case iadd => exact ok_2 (fun _ _ _ => rfl) ef_add_ok
  case isub => exact ok_2 (fun _ _ _ => rfl) ef_sub_ok
  case imul => exact ok_2 (fun _ _ _ => rfl) ef_mul_ok
  case iand => exact ok_2 (fun _ _ _ => rfl) ef_and_ok
  case ior => exact ok_2 (fun _ _ _ => rfl) ef_or_ok
  case ixor => exact ok_2 (fun _ _ _ => rfl) ef_xor_ok
  case ishl => exact ok_2 (fun _ _ _ => rfl) ef_shl_ok
  case ishr => exact ok_2 (fun _ _ _ => rfl) ef_shr_ok
  case iushr => exact ok_2 (fun _ _ _ => rfl) ef_ushr_ok
  case ladd => exact ok_l2 (fun _ _ _ => rfl)
  case lsub => exact ok_l2 (fun _ _ _ => rfl)
  case lmul => exact ok_l2 (fun _ _ _ => rfl)
  case i2l => exact ok_i2l
  case l2i => exact ok_l2i
  case lcmp => exact ok_lcmp
  case dup => exact ok_dup
  case dup2 => exact ok_dup2
  case dup_x1 => exact ok_dupx
  case pop => exact ok_pop
  case iload q => exact ok_li (fun _ => rfl) (fun ls st x e => by unfold ez_ld; simp only [e])
  case iload_n q => exact ok_li (fun _ => rfl) (fun ls st x e => by unfold ez_ld; simp only [e])
  case lload q => exact ok_ll (fun _ => rfl) (fun ls st x e => by unfold ez_ld; simp only [e])
  case lload_n q => exact ok_ll (fun _ => rfl) (fun ls st x e => by unfold ez_ld; simp only [e])
  case aload q => exact ok_la (fun _ => rfl) (fun ls st x e => by unfold ez_ld; simp only [e]) (fun ls st x e => by unfold ez_ld; simp only [e])
  case aload_n q => exact ok_la (fun _ => rfl) (fun ls st x e => by unfold ez_ld; simp only [e]) (fun ls st x e => by unfold ez_ld; simp only [e])
  case istore q => exact ok_si (fun _ => rfl) (fun _ _ => rfl) (fun _ _ _ => rfl)
  case istore_n q => exact ok_si (fun _ => rfl) (fun _ _ => rfl) (fun _ _ _ => rfl)
  case lstore q => exact ok_sl (fun _ => rfl) (fun _ _ => rfl) (fun _ _ _ => rfl)
  case lstore_n q => exact ok_sl (fun _ => rfl) (fun _ _ => rfl) (fun _ _ _ => rfl)
  case astore q => exact ok_sa (fun _ => rfl) (fun _ _ => rfl) (fun _ _ _ => rfl) (fun _ _ _ => rfl)
  case astore_n q => exact ok_sa (fun _ => rfl) (fun _ _ => rfl) (fun _ _ _ => rfl) (fun _ _ _ => rfl)
  case iinc => exact ok_inc
  case ifCond => exact ok_b1
  case if_icmp => exact ok_b2
  case goto => exact ok_go
  case tableswitch df lo hi os => exact ok_sw (fun _ => rfl) (fun _ _ => rfl) (fun _ _ => rfl) (fun _ => rfl) (fun _ _ _ _ => rfl) (fun _ => rfl) (fun _ _ => rfl)
  case lookupswitch df ps => exact ok_sw (fun _ => rfl) (fun _ _ => rfl) (fun _ _ => rfl) (fun _ => rfl) (fun _ _ _ _ => rfl) (fun _ => rfl) (fun _ _ => rfl)
  case getstatic => exact ok_gs
  case iaload => exact ok_ia
  case baload => exact ok_ba
  case laload => exact ok_ja
  case iastore => exact ok_is
  case bastore => exact ok_bs
  case lastore => exact ok_js
  case arraylength => exact ok_al
  case idiv => exact ok_dv
  case irem => exact ok_rm
  case newarray => exact ok_na
  case new => exact ok_nw
  case lreturn => exact ok_rl
  case return_ => exact ok_rv
  case athrow => exact ok_th
  all_goals exact ok_no
end
