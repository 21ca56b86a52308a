/-! THE SAME INVOCATION, SEEN AS IF IT BEGAN HERE: then nothing has been written yet -/
section EZ14
variable {p : Program} {l : Launch} {e : Env} {R : Room} {s : State} {m : MethodId} {args : Array Value} {below : List Frame} {meth : Method} {c : Code} {T : State} {locs : List Loc} {cells slots : Nat}
abbrev ez_re (T : State) (m : MethodId) (args : Array Value) (below : List Frame) : State := T.setFrames (.invoking m args :: below)
theorem ez_rebase (X : Stand p l e R s m args below meth c T locs cells slots) (hc : cells ≤ R.cells) (hs : slots ≤ R.slots) :
    Stand p l e { frames := R.frames, cells := R.cells - cells, slots := R.slots - slots, locals := R.locals } (ez_re T m args below) m args below meth c T [] 0 0 := by
  obtain ⟨g₀, hfr⟩ := X.frames_eq
  have hcur := State.cur_lt_of_frames hfr
  obtain ⟨z, hz, -⟩ := State.frames_cons hfr
  have hf : (ez_re T m args below).frames = .invoking m args :: below := State.frames_setFrames _ hcur
  have hal := X.warmed.alike
  have hm' : (ez_re T m args below).vm.method? m = some meth := X.method'
  have hlim : e.platform.stackLimits (ez_re T m args below).me = e.platform.stackLimits s.me := by
    rw [State.stackLimits_setFrames]
    exact X.limits
  have hby : (ez_re T m args below).me.stackBytes = s.me.stackBytes := by
    rw [State.stackBytes_setFrames]
    exact X.bytes
  have hloc : (ez_re T m args below).localsInUse = s.localsInUse := by
    rw [State.localsInUse_invoking hf hm' X.code, State.localsInUse_invoking X.frames X.method X.code]
  refine ⟨X.admits, X.cas, X.clock, hf, ?_, ?_, hm', X.code, X.here, X.tail, State.WarmedH.refl _, by rw [hlim]; exact X.limits, by rw [hby]; exact X.bytes, ?_⟩
  · have hr := X.room
    have h1 := X.heapSize
    have h2 := X.used
    have h3 : (ez_re T m args below).slotsTrue = true := X.book
    simp only [State.hasRoom, Bool.and_eq_true, decide_eq_true_eq] at hr ⊢
    obtain ⟨⟨⟨⟨r1, r2⟩, r3⟩, r4⟩, -⟩ := hr
    rw [X.frames] at r2
    refine ⟨⟨⟨⟨?_, ?_⟩, ?_⟩, ?_⟩, h3⟩
    · rw [hloc]; exact r1
    · rw [hf, hlim, hloc, hby]; exact r2
    · show T.heap.size + (R.cells - cells) ≤ _
      omega
    · show T.slotsUsed + (R.slots - slots) ≤ _
      omega
  · have hh := X.hears
    cases below with
    | nil =>
      show (((ez_re T m args []).vm.method? m).any _) = true
      have : ((s.vm.method? m).any (·.sig.returnType.isNone)) = true := hh
      rw [hm']
      rw [X.method] at this
      exact this
    | cons f r =>
      have hcode : ∀ mm, (ez_re T m args (f :: r)).code? mm = s.code? mm := fun mm => by
        rw [State.code?_eq, State.code?_eq]
        show (T.vm.method? mm).bind _ = _
        rw [hal.method?]
      unfold State.hears at hh ⊢
      split at hh
      · rw [hcode]
        exact hh
      · rfl
      · rfl
      · rw [hm']
        rw [X.method] at hh
        exact hh
  · have hdrop : T.heap.toList.drop T.heap.size = [] := List.drop_of_length_le (by simp)
    refine ⟨?_, Nat.le_refl _, Nat.le_refl _, ?_, ?_, fun a cc hcc => ⟨cc, hcc, rfl, rfl, fun _ _ => rfl⟩⟩
    · show T = { ((T.setFrames (.invoking m args :: below)).setFrames T.frames) with heap := T.heap, slotsUsed := T.slotsUsed }
      rw [State.setFrames_setFrames, State.setFrames_self hz]
    · show T.slotsUsed = T.slotsUsed + ((T.heap.toList.drop T.heap.size).map (·.slots.size)).sum
      rw [hdrop]
      rfl
    · show ((T.heap.toList.drop T.heap.size).map (·.slots.size)).sum ≤ 0
      rw [hdrop]
      exact Nat.le_refl _
end EZ14
