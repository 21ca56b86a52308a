def R_law : String := "PackDeskLaw"
def lw_P (b : Addr) (xs : List Int32) (args : Array Value) (s : State) : Prop := args = #[.ref b] ∧ s.IntsAt b xs ∧ xs.length ≤ 3072 ∧ (Jvm.Cond.and given_1 narrow_1).before args s = true
def lw_Q (_ : Array Value) (s : State) (o : Outcome) (t : State) : Prop := o = .returned (some (.int 1)) ∧ Framed s o t [] 601024 7293034
def lw_Z (below : List Frame) (a : Array Value) (s : State) : State → Prop := fun t => ∃ o, t.status = .running ∧ Ended t below o ∧ lw_Q a s o t
/-- the static arrays, by number -/
def tz_arL : List (List Int32) := [[], [0, 498536548, 997073096, 651767980, 1994146192, 1802195444, 1303535960, 1342533948, (-306674912), (-267414716), (-690576408), (-882789492), (-1687895376), (-2032938284), (-1609899400), (-1111625188)],
  [3, 4, 5, 6, 7, 8, 9, 10, 11, 13, 15, 17, 19, 23, 27, 31, 35, 43, 51, 59, 67, 83, 99, 115, 131, 163, 195, 227, 258],
  [1, 2, 3, 4, 5, 7, 9, 13, 17, 25, 33, 49, 65, 97, 129, 193, 257, 385, 513, 769, 1025, 1537, 2049, 3073, 4097, 6145, 8193, 12289, 16385, 24577],
  [0, 0, 0, 0, 0, 0, 0, 0, 1, 1, 1, 1, 2, 2, 2, 2, 3, 3, 3, 3, 4, 4, 4, 4, 5, 5, 5, 5, 0],
  [0, 0, 0, 0, 1, 1, 2, 2, 3, 3, 4, 4, 5, 5, 6, 6, 7, 7, 8, 8, 9, 9, 10, 10, 11, 11, 12, 12, 13, 13],
  [132, 57, 23, 10, 4, 1],
  [3, 3, 11],
  [16, 17, 18, 0, 8, 7, 9, 6, 10, 5, 11, 4, 12, 3, 13, 2, 14, 1, 15],
  [2, 3, 7],
  [0, 286, 316],
  [286, 30, 19]]
def tz_ar (j : Nat) : List Int32 := tz_arL.getD j (tz_arL.getD 1 [])
def tz_E (L : Nat) (xs : Nat → Int32) (j : Nat) : Nat × (Nat → Int32) := match j with
  | 0 => (L, xs)
  | j + 1 => ((tz_ar (j + 1)).length, fun i => (tz_ar (j + 1)).getD i 0)
abbrev tz_nw : List Cond := flatC (Jvm.Cond.and given_1 narrow_1)
/-- a number that tells most of them apart: looked at first -/
def ez_ke (w : Cond) : Nat := match w with
  | .eq (.elem _ (.int j)) (.int v) => 3 + 4 * (j.toBitVec.toNat * 4294967296 + v.toBitVec.toNat)
  | .eq (.length _) _ => 2
  | .arrayOf _ _ => 1
  | _ => 0
def ez_ine (tb : List Cond) (w : Cond) : Bool := tb.any (fun v => Nat.beq (ez_ke v) (ez_ke w) && decide (v = w))
theorem ez_ine_ok {tb : List Cond} {w : Cond} (h : ez_ine tb w = true) : w ∈ tb := by
  obtain ⟨v, hv, e⟩ := List.any_eq_true.mp h
  rw [Bool.and_eq_true] at e
  rw [← of_decide_eq_true e.2]
  exact hv
set_option maxRecDepth 100000 in
theorem tz_el_1 : (List.range (tz_ar 1).length).all (fun j => ez_ine tz_nw (Cond.eq (.elem (.static "PackDesk" "CRC_HALVES" "[I") (.int (Int32.ofNat j))) (.int ((tz_ar 1).getD j 0)))) = true := by decide +kernel
set_option maxRecDepth 100000 in
theorem tz_el_2 : (List.range (tz_ar 2).length).all (fun j => ez_ine tz_nw (Cond.eq (.elem (.static "PackDesk" "LENGTH_BASE" "[I") (.int (Int32.ofNat j))) (.int ((tz_ar 2).getD j 0)))) = true := by decide +kernel
set_option maxRecDepth 100000 in
theorem tz_el_3 : (List.range (tz_ar 3).length).all (fun j => ez_ine tz_nw (Cond.eq (.elem (.static "PackDesk" "DISTANCE_BASE" "[I") (.int (Int32.ofNat j))) (.int ((tz_ar 3).getD j 0)))) = true := by decide +kernel
set_option maxRecDepth 100000 in
theorem tz_el_4 : (List.range (tz_ar 4).length).all (fun j => ez_ine tz_nw (Cond.eq (.elem (.static "PackDesk" "LENGTH_EXTRA" "[I") (.int (Int32.ofNat j))) (.int ((tz_ar 4).getD j 0)))) = true := by decide +kernel
set_option maxRecDepth 100000 in
theorem tz_el_5 : (List.range (tz_ar 5).length).all (fun j => ez_ine tz_nw (Cond.eq (.elem (.static "PackDesk" "DISTANCE_EXTRA" "[I") (.int (Int32.ofNat j))) (.int ((tz_ar 5).getD j 0)))) = true := by decide +kernel
set_option maxRecDepth 100000 in
theorem tz_el_6 : (List.range (tz_ar 6).length).all (fun j => ez_ine tz_nw (Cond.eq (.elem (.static "PackDesk$LengthMaker" "GAPS" "[I") (.int (Int32.ofNat j))) (.int ((tz_ar 6).getD j 0)))) = true := by decide +kernel
set_option maxRecDepth 100000 in
theorem tz_el_7 : (List.range (tz_ar 7).length).all (fun j => ez_ine tz_nw (Cond.eq (.elem (.static "PackDesk" "REPEAT_BASE" "[I") (.int (Int32.ofNat j))) (.int ((tz_ar 7).getD j 0)))) = true := by decide +kernel
set_option maxRecDepth 100000 in
theorem tz_el_8 : (List.range (tz_ar 8).length).all (fun j => ez_ine tz_nw (Cond.eq (.elem (.static "PackDesk" "ALPHABET_ORDER" "[I") (.int (Int32.ofNat j))) (.int ((tz_ar 8).getD j 0)))) = true := by decide +kernel
set_option maxRecDepth 100000 in
theorem tz_el_9 : (List.range (tz_ar 9).length).all (fun j => ez_ine tz_nw (Cond.eq (.elem (.static "PackDesk" "REPEAT_EXTRA" "[I") (.int (Int32.ofNat j))) (.int ((tz_ar 9).getD j 0)))) = true := by decide +kernel
set_option maxRecDepth 100000 in
theorem tz_el_10 : (List.range (tz_ar 10).length).all (fun j => ez_ine tz_nw (Cond.eq (.elem (.static "PackDesk$BlockBook" "CODE_FROM" "[I") (.int (Int32.ofNat j))) (.int ((tz_ar 10).getD j 0)))) = true := by decide +kernel
set_option maxRecDepth 100000 in
theorem tz_el_11 : (List.range (tz_ar 11).length).all (fun j => ez_ine tz_nw (Cond.eq (.elem (.static "PackDesk$BlockBook" "CODE_SYMBOLS" "[I") (.int (Int32.ofNat j))) (.int ((tz_ar 11).getD j 0)))) = true := by decide +kernel
theorem ez_static {args : Array Value} {s : State} {C n d : String} {l : List Int32} {A : Nat → Prop} (hlen0 : l.length < 2 ^ 31) (hl : (Cond.laysStatic C n d).before args s = true) (hini : (Cond.initialized C).before args s = true) (harr : (Cond.arrayOf (.static C n d) .int).before args s = true) (hlen : (Cond.eq (.length (.static C n d)) (.int (Int32.ofNat l.length))).before args s = true) (hel : ∀ j, j < l.length → (Cond.eq (.elem (.static C n d) (.int (Int32.ofNat j))) (.int (l.getD j 0))).before args s = true) (hA : ∀ a : Nat, a < s.heap.size → ¬ A a) :
    ∃ t : Nat, va_Z C n d (.ref t) A s s.heap ∧ va_T .int t l.length (fun i => .int (l.getD i 0)) A s s.heap := by
  obtain ⟨t, ht, hT⟩ := va_Tof (N := l.length) (f := fun i => .int (l.getD i 0)) hlen0 harr (va_eqt hlen) (fun j hj => va_eqt (hel j hj)) hA
  exact ⟨t, va_Zof hl hini ht hA, hT⟩
set_option maxRecDepth 100000 in
theorem tz_st_1 {args : Array Value} {s : State} {A : Nat → Prop} (hts : ∀ w ∈ lw_tbl, w.before args s = true) (hn : ∀ w ∈ tz_nw, w.before args s = true) (hA : ∀ a : Nat, a < s.heap.size → ¬ A a) : ∃ t : Nat, va_Z (tz_sta 1).1 (tz_sta 1).2.1 (tz_sta 1).2.2 (.ref t) A s s.heap ∧ va_T .int t (tz_ar 1).length (fun i => .int ((tz_ar 1).getD i 0)) A s s.heap :=
  ez_static (C := "PackDesk") (n := "CRC_HALVES") (d := "[I") (l := tz_ar 1) (by decide +kernel) (hts _ (List.mem_of_getElem? (i := 457) (by decide +kernel))) (hts _ (List.mem_of_getElem? (i := 55) (by decide +kernel))) (hn _ (ez_ine_ok (by decide +kernel))) (hn _ (ez_ine_ok (by decide +kernel))) (fun j hj => hn _ (ez_ine_ok (List.all_eq_true.mp tz_el_1 j (List.mem_range.mpr hj)))) hA
set_option maxRecDepth 100000 in
theorem tz_st_2 {args : Array Value} {s : State} {A : Nat → Prop} (hts : ∀ w ∈ lw_tbl, w.before args s = true) (hn : ∀ w ∈ tz_nw, w.before args s = true) (hA : ∀ a : Nat, a < s.heap.size → ¬ A a) : ∃ t : Nat, va_Z (tz_sta 2).1 (tz_sta 2).2.1 (tz_sta 2).2.2 (.ref t) A s s.heap ∧ va_T .int t (tz_ar 2).length (fun i => .int ((tz_ar 2).getD i 0)) A s s.heap :=
  ez_static (C := "PackDesk") (n := "LENGTH_BASE") (d := "[I") (l := tz_ar 2) (by decide +kernel) (hts _ (List.mem_of_getElem? (i := 529) (by decide +kernel))) (hts _ (List.mem_of_getElem? (i := 55) (by decide +kernel))) (hn _ (ez_ine_ok (by decide +kernel))) (hn _ (ez_ine_ok (by decide +kernel))) (fun j hj => hn _ (ez_ine_ok (List.all_eq_true.mp tz_el_2 j (List.mem_range.mpr hj)))) hA
set_option maxRecDepth 100000 in
theorem tz_st_3 {args : Array Value} {s : State} {A : Nat → Prop} (hts : ∀ w ∈ lw_tbl, w.before args s = true) (hn : ∀ w ∈ tz_nw, w.before args s = true) (hA : ∀ a : Nat, a < s.heap.size → ¬ A a) : ∃ t : Nat, va_Z (tz_sta 3).1 (tz_sta 3).2.1 (tz_sta 3).2.2 (.ref t) A s s.heap ∧ va_T .int t (tz_ar 3).length (fun i => .int ((tz_ar 3).getD i 0)) A s s.heap :=
  ez_static (C := "PackDesk") (n := "DISTANCE_BASE") (d := "[I") (l := tz_ar 3) (by decide +kernel) (hts _ (List.mem_of_getElem? (i := 534) (by decide +kernel))) (hts _ (List.mem_of_getElem? (i := 55) (by decide +kernel))) (hn _ (ez_ine_ok (by decide +kernel))) (hn _ (ez_ine_ok (by decide +kernel))) (fun j hj => hn _ (ez_ine_ok (List.all_eq_true.mp tz_el_3 j (List.mem_range.mpr hj)))) hA
set_option maxRecDepth 100000 in
theorem tz_st_4 {args : Array Value} {s : State} {A : Nat → Prop} (hts : ∀ w ∈ lw_tbl, w.before args s = true) (hn : ∀ w ∈ tz_nw, w.before args s = true) (hA : ∀ a : Nat, a < s.heap.size → ¬ A a) : ∃ t : Nat, va_Z (tz_sta 4).1 (tz_sta 4).2.1 (tz_sta 4).2.2 (.ref t) A s s.heap ∧ va_T .int t (tz_ar 4).length (fun i => .int ((tz_ar 4).getD i 0)) A s s.heap :=
  ez_static (C := "PackDesk") (n := "LENGTH_EXTRA") (d := "[I") (l := tz_ar 4) (by decide +kernel) (hts _ (List.mem_of_getElem? (i := 536) (by decide +kernel))) (hts _ (List.mem_of_getElem? (i := 55) (by decide +kernel))) (hn _ (ez_ine_ok (by decide +kernel))) (hn _ (ez_ine_ok (by decide +kernel))) (fun j hj => hn _ (ez_ine_ok (List.all_eq_true.mp tz_el_4 j (List.mem_range.mpr hj)))) hA
set_option maxRecDepth 100000 in
theorem tz_st_5 {args : Array Value} {s : State} {A : Nat → Prop} (hts : ∀ w ∈ lw_tbl, w.before args s = true) (hn : ∀ w ∈ tz_nw, w.before args s = true) (hA : ∀ a : Nat, a < s.heap.size → ¬ A a) : ∃ t : Nat, va_Z (tz_sta 5).1 (tz_sta 5).2.1 (tz_sta 5).2.2 (.ref t) A s s.heap ∧ va_T .int t (tz_ar 5).length (fun i => .int ((tz_ar 5).getD i 0)) A s s.heap :=
  ez_static (C := "PackDesk") (n := "DISTANCE_EXTRA") (d := "[I") (l := tz_ar 5) (by decide +kernel) (hts _ (List.mem_of_getElem? (i := 538) (by decide +kernel))) (hts _ (List.mem_of_getElem? (i := 55) (by decide +kernel))) (hn _ (ez_ine_ok (by decide +kernel))) (hn _ (ez_ine_ok (by decide +kernel))) (fun j hj => hn _ (ez_ine_ok (List.all_eq_true.mp tz_el_5 j (List.mem_range.mpr hj)))) hA
set_option maxRecDepth 100000 in
theorem tz_st_6 {args : Array Value} {s : State} {A : Nat → Prop} (hts : ∀ w ∈ lw_tbl, w.before args s = true) (hn : ∀ w ∈ tz_nw, w.before args s = true) (hA : ∀ a : Nat, a < s.heap.size → ¬ A a) : ∃ t : Nat, va_Z (tz_sta 6).1 (tz_sta 6).2.1 (tz_sta 6).2.2 (.ref t) A s s.heap ∧ va_T .int t (tz_ar 6).length (fun i => .int ((tz_ar 6).getD i 0)) A s s.heap :=
  ez_static (C := "PackDesk$LengthMaker") (n := "GAPS") (d := "[I") (l := tz_ar 6) (by decide +kernel) (hts _ (List.mem_of_getElem? (i := 562) (by decide +kernel))) (hts _ (List.mem_of_getElem? (i := 57) (by decide +kernel))) (hn _ (ez_ine_ok (by decide +kernel))) (hn _ (ez_ine_ok (by decide +kernel))) (fun j hj => hn _ (ez_ine_ok (List.all_eq_true.mp tz_el_6 j (List.mem_range.mpr hj)))) hA
set_option maxRecDepth 100000 in
theorem tz_st_7 {args : Array Value} {s : State} {A : Nat → Prop} (hts : ∀ w ∈ lw_tbl, w.before args s = true) (hn : ∀ w ∈ tz_nw, w.before args s = true) (hA : ∀ a : Nat, a < s.heap.size → ¬ A a) : ∃ t : Nat, va_Z (tz_sta 7).1 (tz_sta 7).2.1 (tz_sta 7).2.2 (.ref t) A s s.heap ∧ va_T .int t (tz_ar 7).length (fun i => .int ((tz_ar 7).getD i 0)) A s s.heap :=
  ez_static (C := "PackDesk") (n := "REPEAT_BASE") (d := "[I") (l := tz_ar 7) (by decide +kernel) (hts _ (List.mem_of_getElem? (i := 611) (by decide +kernel))) (hts _ (List.mem_of_getElem? (i := 55) (by decide +kernel))) (hn _ (ez_ine_ok (by decide +kernel))) (hn _ (ez_ine_ok (by decide +kernel))) (fun j hj => hn _ (ez_ine_ok (List.all_eq_true.mp tz_el_7 j (List.mem_range.mpr hj)))) hA
set_option maxRecDepth 100000 in
theorem tz_st_8 {args : Array Value} {s : State} {A : Nat → Prop} (hts : ∀ w ∈ lw_tbl, w.before args s = true) (hn : ∀ w ∈ tz_nw, w.before args s = true) (hA : ∀ a : Nat, a < s.heap.size → ¬ A a) : ∃ t : Nat, va_Z (tz_sta 8).1 (tz_sta 8).2.1 (tz_sta 8).2.2 (.ref t) A s s.heap ∧ va_T .int t (tz_ar 8).length (fun i => .int ((tz_ar 8).getD i 0)) A s s.heap :=
  ez_static (C := "PackDesk") (n := "ALPHABET_ORDER") (d := "[I") (l := tz_ar 8) (by decide +kernel) (hts _ (List.mem_of_getElem? (i := 622) (by decide +kernel))) (hts _ (List.mem_of_getElem? (i := 55) (by decide +kernel))) (hn _ (ez_ine_ok (by decide +kernel))) (hn _ (ez_ine_ok (by decide +kernel))) (fun j hj => hn _ (ez_ine_ok (List.all_eq_true.mp tz_el_8 j (List.mem_range.mpr hj)))) hA
set_option maxRecDepth 100000 in
theorem tz_st_9 {args : Array Value} {s : State} {A : Nat → Prop} (hts : ∀ w ∈ lw_tbl, w.before args s = true) (hn : ∀ w ∈ tz_nw, w.before args s = true) (hA : ∀ a : Nat, a < s.heap.size → ¬ A a) : ∃ t : Nat, va_Z (tz_sta 9).1 (tz_sta 9).2.1 (tz_sta 9).2.2 (.ref t) A s s.heap ∧ va_T .int t (tz_ar 9).length (fun i => .int ((tz_ar 9).getD i 0)) A s s.heap :=
  ez_static (C := "PackDesk") (n := "REPEAT_EXTRA") (d := "[I") (l := tz_ar 9) (by decide +kernel) (hts _ (List.mem_of_getElem? (i := 631) (by decide +kernel))) (hts _ (List.mem_of_getElem? (i := 55) (by decide +kernel))) (hn _ (ez_ine_ok (by decide +kernel))) (hn _ (ez_ine_ok (by decide +kernel))) (fun j hj => hn _ (ez_ine_ok (List.all_eq_true.mp tz_el_9 j (List.mem_range.mpr hj)))) hA
set_option maxRecDepth 100000 in
theorem tz_st_10 {args : Array Value} {s : State} {A : Nat → Prop} (hts : ∀ w ∈ lw_tbl, w.before args s = true) (hn : ∀ w ∈ tz_nw, w.before args s = true) (hA : ∀ a : Nat, a < s.heap.size → ¬ A a) : ∃ t : Nat, va_Z (tz_sta 10).1 (tz_sta 10).2.1 (tz_sta 10).2.2 (.ref t) A s s.heap ∧ va_T .int t (tz_ar 10).length (fun i => .int ((tz_ar 10).getD i 0)) A s s.heap :=
  ez_static (C := "PackDesk$BlockBook") (n := "CODE_FROM") (d := "[I") (l := tz_ar 10) (by decide +kernel) (hts _ (List.mem_of_getElem? (i := 719) (by decide +kernel))) (hts _ (List.mem_of_getElem? (i := 63) (by decide +kernel))) (hn _ (ez_ine_ok (by decide +kernel))) (hn _ (ez_ine_ok (by decide +kernel))) (fun j hj => hn _ (ez_ine_ok (List.all_eq_true.mp tz_el_10 j (List.mem_range.mpr hj)))) hA
set_option maxRecDepth 100000 in
theorem tz_st_11 {args : Array Value} {s : State} {A : Nat → Prop} (hts : ∀ w ∈ lw_tbl, w.before args s = true) (hn : ∀ w ∈ tz_nw, w.before args s = true) (hA : ∀ a : Nat, a < s.heap.size → ¬ A a) : ∃ t : Nat, va_Z (tz_sta 11).1 (tz_sta 11).2.1 (tz_sta 11).2.2 (.ref t) A s s.heap ∧ va_T .int t (tz_ar 11).length (fun i => .int ((tz_ar 11).getD i 0)) A s s.heap :=
  ez_static (C := "PackDesk$BlockBook") (n := "CODE_SYMBOLS") (d := "[I") (l := tz_ar 11) (by decide +kernel) (hts _ (List.mem_of_getElem? (i := 721) (by decide +kernel))) (hts _ (List.mem_of_getElem? (i := 63) (by decide +kernel))) (hn _ (ez_ine_ok (by decide +kernel))) (hn _ (ez_ine_ok (by decide +kernel))) (fun j hj => hn _ (ez_ine_ok (List.all_eq_true.mp tz_el_11 j (List.mem_range.mpr hj)))) hA
/-- the arrays outside, and the script among them -/
theorem tz_outer {args : Array Value} {s : State} {A : Nat → Prop} {b L : Nat} {xs : Nat → Int32} (hts : ∀ w ∈ lw_tbl, w.before args s = true) (hn : ∀ w ∈ tz_nw, w.before args s = true) (hX : va_X b L xs s s.heap) (hA : ∀ a : Nat, a < s.heap.size → ¬ A a) : ∃ ea : Nat → Nat, ea 0 = b ∧ (∀ j, va_T .int (ea j) (tz_E L xs j).1 (fun i => .int ((tz_E L xs j).2 i)) A s s.heap) ∧ ∀ j, 0 < j → va_Z (tz_sta j).1 (tz_sta j).2.1 (tz_sta j).2.2 (.ref (ea j)) A s s.heap := by
  obtain ⟨t1, z1, w1⟩ := tz_st_1 hts hn hA
  obtain ⟨t2, z2, w2⟩ := tz_st_2 hts hn hA
  obtain ⟨t3, z3, w3⟩ := tz_st_3 hts hn hA
  obtain ⟨t4, z4, w4⟩ := tz_st_4 hts hn hA
  obtain ⟨t5, z5, w5⟩ := tz_st_5 hts hn hA
  obtain ⟨t6, z6, w6⟩ := tz_st_6 hts hn hA
  obtain ⟨t7, z7, w7⟩ := tz_st_7 hts hn hA
  obtain ⟨t8, z8, w8⟩ := tz_st_8 hts hn hA
  obtain ⟨t9, z9, w9⟩ := tz_st_9 hts hn hA
  obtain ⟨t10, z10, w10⟩ := tz_st_10 hts hn hA
  obtain ⟨t11, z11, w11⟩ := tz_st_11 hts hn hA
  refine ⟨fun j => match j with
    | 0 => b
    | 1 => t1
    | 2 => t2
    | 3 => t3
    | 4 => t4
    | 5 => t5
    | 6 => t6
    | 7 => t7
    | 8 => t8
    | 9 => t9
    | 10 => t10
    | 11 => t11
    | _ => t1, rfl, fun j => ?_, fun j hj => ?_⟩
  · match j with
    | 0 =>
      obtain ⟨scr, h1, h2, h3, h4, h5⟩ := hX
      exact ⟨scr, h1, h2, h3, by rw [h4]; exact Nat.le_refl _, by rw [h4]; rfl, h5, hA b (Array.getElem?_eq_some_iff.mp h1).1⟩
    | 1 => exact w1
    | 2 => exact w2
    | 3 => exact w3
    | 4 => exact w4
    | 5 => exact w5
    | 6 => exact w6
    | 7 => exact w7
    | 8 => exact w8
    | 9 => exact w9
    | 10 => exact w10
    | 11 => exact w11
    | _ + 12 => exact w1
  · match j with
    | 0 => exact absurd hj (by omega)
    | 1 => exact z1
    | 2 => exact z2
    | 3 => exact z3
    | 4 => exact z4
    | 5 => exact z5
    | 6 => exact z6
    | 7 => exact z7
    | 8 => exact z8
    | 9 => exact z9
    | 10 => exact z10
    | 11 => exact z11
    | _ + 12 => exact z1
