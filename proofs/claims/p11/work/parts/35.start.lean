/-! THE LAW'S START: the pure machine's walk of the law gives the claim -/
def ez_h0 : ez_H := (0, 0, fun _ => 0, fun _ => 0, fun _ _ => 0, fun _ _ => 0, fun _ _ => 0)
theorem ez_exact {args : Array Value} {s : State} {t : Term} {C : String} (h : (Cond.exactly t C).before args s = true) : ∃ a : Nat, t.eval args s none [] s = some (.ref a) := by
  cases hv : t.eval args s none [] s with
  | none => simp [Cond.before, Cond.holds, Cond.value, hv] at h
  | some w =>
    cases w with
    | ref a => exact ⟨a, rfl⟩
    | null => cases hc : s.vm.findClass C <;> simp [Cond.before, Cond.holds, Cond.value, hv, hc] at h
    | _ => simp [Cond.before, Cond.holds, Cond.value, hv] at h
/-- a class by its number, for all numbers -/
theorem tz_known {args : Array Value} {s : State} (hts : ∀ w ∈ tz_tbl, w.before args s = true) (hinst : ∀ a, 0 < a → a ≤ 13 → (Cond.instantiable (tz_cn a) (tz_nf a)).before args s = true) : ∃ (dC : Nat → ClassId) (dI : Nat → Nat → Nat), ∀ (k : Nat) (q : vw_C), tz_cl[k]? = some q → u_Kn s q.1 q.2.1 q.2.2 (dC k) (dI k) := by
  have key : ∀ k : Nat, ∃ (cC : ClassId) (iS : Nat → Nat), ∀ q : vw_C, tz_cl[k]? = some q → u_Kn s q.1 q.2.1 q.2.2 cC iS := by
    intro k
    cases hq : tz_cl[k]? with
    | none => exact ⟨0, fun _ => 0, fun q h => by cases h⟩
    | some q =>
      have hk : k < 13 := (List.getElem?_eq_some_iff.mp hq).1
      obtain ⟨-, -, h3, h4, -, -⟩ := tz_cls (k + 1) (by omega) (by omega)
      obtain ⟨cC, iS, h⟩ := u_known hts h4 (hinst (k + 1) (by omega) (by omega))
      refine ⟨cC, iS, fun q' h' => ?_⟩
      cases h'
      rw [Nat.add_sub_cancel, hq] at h3
      cases h3
      exact h
  exact ⟨fun k => Classical.choose (key k), fun k => Classical.choose (Classical.choose_spec (key k)), fun k => Classical.choose_spec (Classical.choose_spec (key k))⟩
theorem ez_arr {s : State} {cA : ClassId} {kA : Class} {comp : ClassId} {t : FieldType} (h2 : s.vm.classes[cA]? = some kA) (h3 : kA.kind = .array comp t) : ArrOfT s cA t := fun n z => ⟨fun k h => (by cases h), kA, h2, comp, h3⟩
/-- what holds at the law's entry -/
def tz_At (p : Program) (s : State) (m : MethodId) (meth : Method) (c : Code) (b L : Nat) (xs : Nat → Int32) : Prop :=
  p.tables.exec = Jvm.exec ∧ c.code = code ∧ meth.sig.returnType = ret ∧ c.maxLocals = 7 ∧ s.vm.findClass "PackDeskLaw" = some m.cls ∧ (∀ w ∈ lw_tbl, w.before #[Value.ref b] s = true) ∧ va_X b L xs s s.heap ∧ b < s.heap.size ∧ meth.locks = false ∧ (Jvm.Cond.and given_1 narrow_1).before #[Value.ref b] s = true ∧ meth.name = "law" ∧ c.exceptionTable.toList = []
/-- the law in the pure machine answers 1 -/
def tz_Law (L : Nat) (xs : Nat → Int32) : Prop := ez_Wp (tz_E L xs) tz_ml tz_hn tz_co 10 149 0 (ez_args 7 [.retAddr 0]) [] ez_h0 (fun o _ => o = .inl (some (.int 1)))
theorem tz_strs {args : Array Value} {s : State} (hts : ∀ w ∈ lw_tbl, w.before args s = true) (hn : ∀ w ∈ tz_nw, w.before args s = true) : ∀ w ∈ tz_str, ∃ q : Nat, vk_R w.1 w.2.1 w.2.2 q s := by
  intro w hw
  have h1 : Cond.stringRef w.1 w.2.1 w.2.2 ∈ lw_tbl ∧ Cond.exactly (.string w.1 w.2.1) "java/lang/String" ∈ tz_nw := by
    have : tz_str.all (fun w => decide (Cond.stringRef w.1 w.2.1 w.2.2 ∈ lw_tbl ∧ Cond.exactly (.string w.1 w.2.1) "java/lang/String" ∈ tz_nw)) = true := by decide +kernel
    exact of_decide_eq_true (List.all_eq_true.mp this w hw)
  obtain ⟨q, hq⟩ := ez_exact (hn _ h1.2)
  exact ⟨q, vk_R.of (hts _ h1.1) hq⟩
set_option maxRecDepth 100000 in
set_option maxHeartbeats 4000000 in
theorem tz_start {p : Program} {e : Env} {s : State} {m : MethodId} {below : List Frame} {meth : Method} {c : Code} (l : Launch) (hl : l.stackTraces = false) {b L : Nat} {xs : Nat → Int32} (hL : ∀ mi, ez_okL tz_cl tz_nf tz_ty tz_ex tz_sta tz_nm tz_by tz_ml tz_re tz_hh tz_tbl tz_str mi (tz_co mi)) (hH : ∀ mi, ez_okH tz_ex tz_nm tz_by tz_ml tz_hh tz_tbl tz_hn mi) (C0 : tz_At p s m meth c b L xs) (HW : tz_Law L xs) : W p l e room_1 s m #[Value.ref b] below meth c s.heap [] 0 0 (lw_Z below #[Value.ref b] s) (entryFrame m ([Value.ref b] : List Value).toArray 7) := by
  obtain ⟨hx, hb, hr, hml, hown, hts, hX, hbl, hlocks, hgv, hname, hexc⟩ := C0
  have hn := flat_of_before _ hgv
  obtain ⟨B, hB⟩ : ∃ B, s.heap.size = B + 1 := ⟨s.heap.size - 1, by omega⟩
  have hA : ∀ a : Nat, a < s.heap.size → ¬ ez_A B a := fun a h1 h2 => by
    have : B < a := h2
    omega
  obtain ⟨ea, he0, hT, hZ⟩ := tz_outer (A := ez_A B) hts hn hX hA
  have hts' : ∀ w ∈ tz_tbl, w.before #[Value.ref b] s = true := fun w hw => by
    rcases List.mem_append.mp hw with z | z
    · exact hts w (List.mem_filter.mp z).1
    · have : tz_exw.all (fun w => decide (w ∈ tz_nw)) = true := by decide +kernel
      exact hn w (of_decide_eq_true (List.all_eq_true.mp this w z))
  have hinst : ∀ a, 0 < a → a ≤ 13 → (Cond.instantiable (tz_cn a) (tz_nf a)).before #[Value.ref b] s = true := fun a h1 h2 => by
    have : (List.range 14).all (fun a => decide (a = 0 ∨ Cond.instantiable (tz_cn a) (tz_nf a) ∈ lw_tbl)) = true := by decide +kernel
    rcases of_decide_eq_true (List.all_eq_true.mp this a (List.mem_range.mpr (by omega))) with z | z
    · omega
    · exact hts _ z
  obtain ⟨dC, dI, hKc⟩ := tz_known hts' hinst
  obtain ⟨cI, kI, oI, i1, i2, i3⟩ := Cond.arrayClass_spec (type := .int) (hts _ (by decide +kernel))
  obtain ⟨cJ, kJ, oJ, j1, j2, j3⟩ := Cond.arrayClass_spec (type := .long) (hts _ (by decide +kernel))
  obtain ⟨cB, kB, oB, b1, b2, b3⟩ := Cond.arrayClass_spec (type := .byte) (hts _ (by decide +kernel))
  obtain ⟨dA, d1, d2, d3⟩ : ∃ dA : Nat → ClassId, dA 1000 = cI ∧ dA 1002 = cJ ∧ dA 1003 = cB := ⟨fun t => if t = 1000 then cI else if t = 1002 then cJ else cB, rfl, rfl, rfl⟩
  have hK : va_K (dC, dI) tz_cl (ez_tys dA) s := by
    refine ⟨hKc, fun k q hk => ?_⟩
    match k, hk with
    | 0, hk => cases hk; rw [d1]; exact ⟨ez_arr i2 i3, i1⟩
    | 1, hk => cases hk; rw [d2]; exact ⟨ez_arr j2 j3, j1⟩
    | 2, hk => cases hk; rw [d3]; exact ⟨ez_arr b2 b3, b1⟩
    | k + 3, hk => cases hk
  have hTh : ez_Th B s := ⟨va_Zqof (hts _ (by decide +kernel)) (hts _ (by decide +kernel)) (hn _ (by decide +kernel)) hA, va_Zqof (hts _ (by decide +kernel)) (hts _ (by decide +kernel)) (hn _ (by decide +kernel)) hA, ez_Ls.of (hts _ (by decide +kernel)) hA, ez_Ls.of (hts _ (by decide +kernel)) hA⟩
  have hsur : ez_Sur (dC, dI) tz_cl dA B ea (tz_E L xs) tz_sta tz_str s := ⟨hK, hT, hZ, hTh, tz_strs hts hn⟩
  have hR : ez_Rel (dC, dI) tz_cl tz_nf tz_ty dA B ez_h0 s.heap := ⟨by rw [hB]; rfl, [], fun q hq => absurd rfl hq, fun k q hk => by simp [va_pl] at hk, ⟨fun i j x y hi => by simp [va_pl] at hi, fun k q hk => by simp [va_pl] at hk⟩⟩
  have hcx : ez_Ctx tz_nm tz_by tz_ml tz_re tz_hh tz_tbl 149 p s m #[Value.ref b] meth c := ⟨hx, hb, hr, hml, hown, hts', hlocks, hname, by rw [hexc]; rfl⟩
  have K := HW (ez_Snd l (dC, dI) tz_cl tz_nf tz_ty dA B ea tz_ex (tz_E L xs) tz_sta tz_nm tz_by tz_ml tz_re tz_hh tz_tbl tz_str) (ez_Snd_mono _ _ _ _ _ _ _ _ _ _ _ _ _ _ _ _ _ _) (ez_sound hl tz_good hH hL) p e room_1 s m #[Value.ref b] below meth c s.heap [] 0 0 _ 0 0 hcx hsur hR va_S.rf (by rw [hB]) rfl rfl (Nat.zero_le _) (Nat.zero_le _) (Nat.le_refl _) (Nat.le_refl _) (Nat.le_refl _) (by decide) (ez_lv_entry (B := B) (ea := ea) (vs := [.retAddr 0]) (n := 7) (by decide))
  have e1 : ([.retAddr 0] : List Value).map (ez_tr B ea) = [.ref b] := by
    show [Value.ref (ea 0)] = _
    rw [he0]
  rw [e1] at K
  rw [lg_entry_eq]
  refine ez_W_mono ?_ K
  rintro t ⟨o, h1, h2, r, h', hQ, hout, -, hW, ⟨-, -, c3, c4⟩, -, -, L', hsame, hLA⟩
  subst hQ
  have ho : o = .returned (some (.int 1)) := hout
  subst ho
  refine ⟨_, h1, h2, rfl, ⟨_, rfl⟩, hW, ?_⟩
  exact hsame.weaken (fun y hy hlt => by
    have h3 : B < y.base := hLA y hy
    have h4 : y.base < B + 1 := by rw [← hB]; exact hlt
    exact absurd h4 (Nat.not_lt.mpr h3)) c3 c4
