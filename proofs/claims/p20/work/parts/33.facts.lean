theorem ez_sub_ix {big tb : List Cond} {ps : List Nat} (h : (ps.zip tb).all (fun q => decide (big[q.1]? = some q.2)) = true) (hl : tb.length ≤ ps.length) : ∀ w ∈ tb, w ∈ big := by
  intro w hw
  obtain ⟨i, hi⟩ := List.getElem?_of_mem hw
  have hlt := (List.getElem?_eq_some_iff.mp hi).1
  have hp : ps[i]? = some (ps[i]'(by omega)) := List.getElem?_eq_getElem (by omega)
  have hz : (ps.zip tb)[i]? = some (ps[i]'(by omega), w) := by
    rw [List.getElem?_zip_eq_some]
    exact ⟨hp, hi⟩
  have := List.all_eq_true.mp h _ (List.mem_of_getElem? hz)
  exact List.mem_of_getElem? (of_decide_eq_true this)
/-- the words that the walk rests on: the tables', and two of the Statement's own on classes that can't be cast -/
noncomputable def tz_exw : List Cond := [.not (.castable "java/lang/IllegalArgumentException" "java/lang/IndexOutOfBoundsException"), .not (.castable "java/lang/IllegalStateException" "java/lang/IllegalArgumentException")]
/-- words that go along from state to state -/
noncomputable def ez_kp (w : Cond) : Bool := match w with
  | .fieldLinkNest .. => true
  | .methodLinkNest .. => true
  | .declares _ => true
  | .castable _ _ => true
  | w => goodWord w
theorem ez_notCast_warm {args a' : Array Value} {s U : State} {A C : String} (hW : s.WarmedH U.vm) (h : (Cond.not (Cond.castable A C)).before args s = true) : (Cond.not (Cond.castable A C)).before a' U = true := by
  have e1 := hW.alike.findClass (name := A)
  have e2 := hW.alike.findClass (name := C)
  simp only [Cond.before, Cond.holds, Cond.value, e1, e2] at h ⊢
  cases hA : s.vm.findClass A with
  | none => simp [hA] at h
  | some cA =>
    cases hC : s.vm.findClass C with
    | none => simp [hA, hC] at h
    | some cC =>
      simp only [hA, hC] at h ⊢
      rw [hW.alike.assignable]
      exact h
theorem ez_kp_ok {w : Cond} (h : ez_kp w = true) {args a' : Array Value} {s U : State} (hW : s.WarmedH U.vm) (hb : w.before args s = true) : w.before a' U = true := by
  unfold ez_kp at h
  split at h
  · exact va_Nw.use rfl (va_Nw.warmF hW (va_Nw.of rfl hb))
  · exact va_Nw.use rfl (va_Nw.warmM hW (va_Nw.of rfl hb))
  · exact va_Nw.use rfl (va_Nw.warmD hW (va_Nw.of rfl hb))
  · exact va_Nw.use rfl (va_Nw.warmC hW (va_Nw.of rfl hb))
  · exact word_at hW (good_of_word h) hb
noncomputable def tz_tbl : List Cond := lw_tbl.filter ez_kp ++ tz_exw
theorem tz_in {w : Cond} (h : w ∈ lw_tbl) (hk : ez_kp w = true) : w ∈ tz_tbl := List.mem_append_left _ (List.mem_filter.mpr ⟨h, hk⟩)
set_option maxRecDepth 100000 in
theorem tz_sub_0 : ∀ w ∈ tz_tb0, w ∈ tz_tbl := fun w hw => tz_in (ez_sub_ix (ps := tz_ps0) (by decide +kernel) (by decide +kernel) w hw) (List.all_eq_true.mp (show tz_tb0.all ez_kp = true by decide +kernel) w hw)
set_option maxRecDepth 100000 in
theorem tz_sub_1 : ∀ w ∈ tz_tb1, w ∈ tz_tbl := fun w hw => tz_in (ez_sub_ix (ps := tz_ps1) (by decide +kernel) (by decide +kernel) w hw) (List.all_eq_true.mp (show tz_tb1.all ez_kp = true by decide +kernel) w hw)
set_option maxRecDepth 100000 in
theorem tz_sub_2 : ∀ w ∈ tz_tb2, w ∈ tz_tbl := fun w hw => tz_in (ez_sub_ix (ps := tz_ps2) (by decide +kernel) (by decide +kernel) w hw) (List.all_eq_true.mp (show tz_tb2.all ez_kp = true by decide +kernel) w hw)
set_option maxRecDepth 100000 in
theorem tz_sub_3 : ∀ w ∈ tz_tb3, w ∈ tz_tbl := fun w hw => tz_in (ez_sub_ix (ps := tz_ps3) (by decide +kernel) (by decide +kernel) w hw) (List.all_eq_true.mp (show tz_tb3.all ez_kp = true by decide +kernel) w hw)
set_option maxRecDepth 100000 in
theorem tz_sub_4 : ∀ w ∈ tz_tb4, w ∈ tz_tbl := fun w hw => tz_in (ez_sub_ix (ps := tz_ps4) (by decide +kernel) (by decide +kernel) w hw) (List.all_eq_true.mp (show tz_tb4.all ez_kp = true by decide +kernel) w hw)
set_option maxRecDepth 100000 in
theorem tz_sub_5 : ∀ w ∈ tz_tb5, w ∈ tz_tbl := fun w hw => tz_in (ez_sub_ix (ps := tz_ps5) (by decide +kernel) (by decide +kernel) w hw) (List.all_eq_true.mp (show tz_tb5.all ez_kp = true by decide +kernel) w hw)
set_option maxRecDepth 100000 in
theorem tz_sub_6 : ∀ w ∈ tz_tb6, w ∈ tz_tbl := fun w hw => tz_in (ez_sub_ix (ps := tz_ps6) (by decide +kernel) (by decide +kernel) w hw) (List.all_eq_true.mp (show tz_tb6.all ez_kp = true by decide +kernel) w hw)
set_option maxRecDepth 100000 in
theorem tz_sub_7 : ∀ w ∈ tz_tb7, w ∈ tz_tbl := fun w hw => tz_in (ez_sub_ix (ps := tz_ps7) (by decide +kernel) (by decide +kernel) w hw) (List.all_eq_true.mp (show tz_tb7.all ez_kp = true by decide +kernel) w hw)
set_option maxRecDepth 100000 in
theorem tz_sub_8 : ∀ w ∈ tz_tb8, w ∈ tz_tbl := fun w hw => tz_in (ez_sub_ix (ps := tz_ps8) (by decide +kernel) (by decide +kernel) w hw) (List.all_eq_true.mp (show tz_tb8.all ez_kp = true by decide +kernel) w hw)
set_option maxRecDepth 100000 in
theorem tz_sub_9 : ∀ w ∈ tz_tb9, w ∈ tz_tbl := fun w hw => tz_in (ez_sub_ix (ps := tz_ps9) (by decide +kernel) (by decide +kernel) w hw) (List.all_eq_true.mp (show tz_tb9.all ez_kp = true by decide +kernel) w hw)
set_option maxRecDepth 100000 in
theorem tz_sub_10 : ∀ w ∈ tz_tb10, w ∈ tz_tbl := fun w hw => tz_in (ez_sub_ix (ps := tz_ps10) (by decide +kernel) (by decide +kernel) w hw) (List.all_eq_true.mp (show tz_tb10.all ez_kp = true by decide +kernel) w hw)
set_option maxRecDepth 100000 in
theorem tz_sub_11 : ∀ w ∈ tz_tb11, w ∈ tz_tbl := fun w hw => tz_in (ez_sub_ix (ps := tz_ps11) (by decide +kernel) (by decide +kernel) w hw) (List.all_eq_true.mp (show tz_tb11.all ez_kp = true by decide +kernel) w hw)
set_option maxRecDepth 100000 in
theorem tz_sub_12 : ∀ w ∈ tz_tb12, w ∈ tz_tbl := fun w hw => tz_in (ez_sub_ix (ps := tz_ps12) (by decide +kernel) (by decide +kernel) w hw) (List.all_eq_true.mp (show tz_tb12.all ez_kp = true by decide +kernel) w hw)
set_option maxRecDepth 100000 in
theorem tz_sub_13 : ∀ w ∈ tz_tb13, w ∈ tz_tbl := fun w hw => tz_in (ez_sub_ix (ps := tz_ps13) (by decide +kernel) (by decide +kernel) w hw) (List.all_eq_true.mp (show tz_tb13.all ez_kp = true by decide +kernel) w hw)
set_option maxRecDepth 100000 in
theorem tz_sub_14 : ∀ w ∈ tz_tb14, w ∈ tz_tbl := fun w hw => tz_in (ez_sub_ix (ps := tz_ps14) (by decide +kernel) (by decide +kernel) w hw) (List.all_eq_true.mp (show tz_tb14.all ez_kp = true by decide +kernel) w hw)
set_option maxRecDepth 100000 in
theorem tz_gen : ez_gen tz_tbl := ⟨tz_in (List.mem_of_getElem? (i := 84) rfl) rfl, tz_in (List.mem_of_getElem? (i := 73) (by decide +kernel)) rfl, tz_in (List.mem_of_getElem? (i := 74) (by decide +kernel)) rfl, tz_in (List.mem_of_getElem? (i := 488) rfl) rfl, tz_in (List.mem_of_getElem? (i := 485) rfl) rfl⟩
