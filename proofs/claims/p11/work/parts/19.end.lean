/-- how the machine ends where the pure one ends with r -/
def ez_Out (B : Nat) (ea : Nat → Nat) (exn : Nat → String) (s : State) (r : ez_O) (o : Outcome) (t : State) : Prop := match r with
  | .inl v => o = .returned (v.map (ez_tr B ea))
  | .inr x => ∃ (a : Addr) (cell : Cell), o = .threw a ∧ t.heap[a]? = some cell ∧ cell.vm.isStatics = false ∧ s.vm.findClass (exn x) = some cell.cls
def ez_End (D : va_G) (cl : List vw_C) (nf : Nat → Nat) (ty : Nat → Nat → FieldType) (dA : Nat → ClassId) (B : Nat) (ea : Nat → Nat) (exn : Nat → String) (s : State) (n0 u0 : Nat) (Q : ez_Q) (o : Outcome) (t : State) : Prop :=
  ∃ (r : ez_O) (h' : ez_H), Q r h' ∧ ez_Out B ea exn s r o t ∧ ez_Rel D cl nf ty dA B h' t.heap ∧ s.WarmedH t.vm ∧ (n0 ≤ ez_n h' ∧ u0 ≤ ez_u h' ∧ ez_n h' ≤ ez_MC ∧ ez_u h' ≤ ez_MS) ∧ (∀ q : Nat, q < s.heap.size → ¬ ez_A B q → t.heap[q]? = s.heap[q]?) ∧ s.heap.size ≤ t.heap.size ∧
    ∃ L : List Loc, s.sameButNew ({ t with vm := s.vm } : State) L (ez_n h' - n0) (ez_u h' - u0) ∧ ∀ q ∈ L, ez_A B q.base
def ez_Fin (D : va_G) (cl : List vw_C) (nf : Nat → Nat) (ty : Nat → Nat → FieldType) (dA : Nat → ClassId) (B : Nat) (ea : Nat → Nat) (exn : Nat → String) (below : List Frame) (s : State) (n0 u0 : Nat) (Q : ez_Q) : State → Prop := fun t => ∃ o : Outcome, t.status = .running ∧ Ended t below o ∧ ez_End D cl nf ty dA B ea exn s n0 u0 Q o t
section EZ9
variable {p : Program} {l : Launch} {e : Env} {R : Room} {s : State} {m : MethodId} {args : Array Value} {below : List Frame} {meth : Method} {c : Code} {H : Heap} {locs : List Loc} {cells slots : Nat} {cc : ByteArray} {pc nL B : Nat} {ea : Nat → Nat} {lsM : Array Slot} {own : String} {tbl : List Cond} {st st' : List Value} {ls : List (Option Value)} {i : ClassFile.Instr}
variable {D : va_G} {cl : List vw_C} {nf : Nat → Nat} {ty : Nat → Nat → FieldType} {dA : Nat → ClassId} {h h' : ez_H} {a n0 u0 : Nat} {cd : Prop} {Q : ez_Q} {exn : Nat → String}
theorem ez_W_mono {Q1 Q2 : State → Prop} {g : JFrame} (hQ : ∀ t, Q1 t → Q2 t) (k : W p l e R s m args below meth c H locs cells slots Q1 g) : W p l e R s m args below meth c H locs cells slots Q2 g := fun T hT X => by
  obtain ⟨t, a1, b1⟩ := k T hT X
  exact ⟨t, a1, hQ t b1⟩
/-- the end of a method, as the pure machine sees it -/
theorem ez_fin_of {r : Option Value} (hR : ez_Rel D cl nf ty dA B h H) (hS : va_S (ez_A B) s.heap H locs) (hn0 : n0 + cells = ez_n h) (hu0 : u0 + slots = ez_u h) (hn1 : ez_n h ≤ ez_MC) (hu1 : ez_u h ≤ ez_MS) (hQ : Q (.inl r) h) {t : State}
    (ht : MQ below (fun _ st o t => o = .returned (r.map (ez_tr B ea)) ∧ t.heap = H) args s cells slots (ez_A B) t) : ez_Fin D cl nf ty dA B ea exn below s n0 u0 Q t := by
  obtain ⟨o, h1, h2, ⟨h3, h4⟩, L, ⟨-, h5, h6⟩, h7⟩ := ht
  refine ⟨o, h1, h2, .inl r, h, hQ, h3, by rw [h4]; exact hR, h5, ⟨by omega, by omega, hn1, hu1⟩, fun q g1 g2 => by rw [h4]; exact hS.2.1 q g1 g2, by rw [h4]; exact hS.1, L, ?_, h7⟩
  rw [show ez_n h - n0 = cells by omega, show ez_u h - u0 = slots by omega]
  exact h6
theorem ez_rt_snd (hx : p.tables.exec = Jvm.exec) (hb : c.code = cc) (hlocks : meth.locks = false) (hret : (i = .ireturn → meth.sig.returnType = if a = 0 then some .int else some .boolean) ∧ (i = .lreturn → meth.sig.returnType = some .long) ∧ (i = .return_ → meth.sig.returnType = none)) (hR : ez_Rel D cl nf ty dA B h H) (hS : va_S (ez_A B) s.heap H locs) (hn0 : n0 + cells = ez_n h) (hu0 : u0 + slots = ez_u h) (hn1 : ez_n h ≤ ez_MC) (hu1 : ez_u h ≤ ez_MS)
    (hd : decode cc pc = .ok (i, ez_ln i)) {r : Option Value} (ho : ez_rt i a st = some (cd, r)) (hcd : cd) (hQ : Q (.inl r) h) : W p l e R s m args below meth c H locs cells slots (ez_Fin D cl nf ty dA B ea exn below s n0 u0 Q) (F0 m pc lsM (st.map (ez_tr B ea))) := by
  unfold ez_rt at ho
  split at ho
  · split at ho <;> cases ho
    have h1 := hret.1 rfl
    cases a with
    | zero =>
      refine ez_W_mono (fun t ht => ez_fin_of hR hS hn0 hu0 hn1 hu1 hQ ht) (W.iret hx hb h1 (fun t ht _ => ⟨rfl, ht⟩) hS.2.2 hd (hlocks := hlocks))
    | succ a =>
      refine ez_W_mono (fun t ht => ez_fin_of hR hS hn0 hu0 hn1 hu1 hQ ht) (W.zret hx hb h1 (by rcases hcd with z | z <;> rw [z] <;> rfl) (fun t ht _ => ⟨rfl, ht⟩) hS.2.2 hd (hlocks := hlocks))
  · split at ho <;> cases ho
    have h1 := hret.2.1 rfl
    exact ez_W_mono (fun t ht => ez_fin_of hR hS hn0 hu0 hn1 hu1 hQ ht) (W.lret hx hb h1 (fun t ht _ => ⟨rfl, ht⟩) hS.2.2 hd (hlocks := hlocks))
  · split at ho <;> cases ho
    have h1 := hret.2.2 rfl
    exact ez_W_mono (fun t ht => ez_fin_of hR hS hn0 hu0 hn1 hu1 hQ ht) (W.vret hx hb h1 (fun t ht _ => ⟨rfl, ht⟩) hS.2.2 hd (hlocks := hlocks))
  · cases ho
end EZ9
/-! switches -/
theorem ez_sw_off {pc : Nat} {df : Int} {x : Int32} {K : Nat → Prop} : ∀ l : List (Int × Int), (∀ q ∈ l, (Int32.ofInt q.1).toInt = q.1) → ez_sw pc df x K l → K ((pc : Int) + Op.lookupswitch.offset l df x.toInt).toNat
  | [], _, H => H
  | (c, o) :: r, hr, H => by
    have hc : (Int32.ofInt c).toInt = c := hr (c, o) List.mem_cons_self
    by_cases hx : x = Int32.ofInt c
    · have := H.1 hx
      have e1 : Op.lookupswitch.offset ((c, o) :: r) df x.toInt = o := by
        rw [hx, hc]
        simp [Op.lookupswitch.offset]
      rw [e1]
      exact this
    · rw [lv_osw (k := Int32.ofInt c) hx hc]
      exact ez_sw_off r (fun q hq => hr q (List.mem_cons_of_mem _ hq)) (H.2 hx)
theorem ez_tab_off {df z : Int} : ∀ (os : List Int) (lo : Int), Op.lookupswitch.offset (ez_tab lo os) df z = if lo ≤ z ∧ z < lo + os.length then os.getD (z - lo).toNat 0 else df
  | [], lo => by
    have : ¬ (lo ≤ z ∧ z < lo + (([] : List Int).length : Int)) := by simp
    rw [if_neg this]
    rfl
  | o :: r, lo => by
    have ih := ez_tab_off (df := df) (z := z) r (lo + 1)
    by_cases hz : z = lo
    · subst hz
      rw [if_pos (by simp; omega)]
      simp [ez_tab, Op.lookupswitch.offset]
    · have e1 : Op.lookupswitch.offset (ez_tab lo (o :: r)) df z = Op.lookupswitch.offset (ez_tab (lo + 1) r) df z := by
        simp [ez_tab, Op.lookupswitch.offset, Ne.symm hz]
      rw [e1, ih]
      by_cases hc : lo + 1 ≤ z ∧ z < lo + 1 + r.length
      · rw [if_pos hc, if_pos (by simp; omega)]
        rw [show (z - lo).toNat = (z - (lo + 1)).toNat + 1 by omega]
        simp
      · rw [if_neg hc, if_neg (by simp; omega)]
/-- where a jump leads is a place of the code -/
def ez_jk (i : ClassFile.Instr) (pc a : Nat) : Prop := match i with
  | .goto off => (pc : Int) + off = (a : Int)
  | .tableswitch df lo hi os => (∀ o ∈ os.toList, 0 ≤ (pc : Int) + o) ∧ 0 ≤ (pc : Int) + df ∧ hi = lo + os.toList.length - 1 ∧ ∀ q ∈ ez_tab lo os.toList, (Int32.ofInt q.1).toInt = q.1
  | .lookupswitch df ps => (∀ q ∈ ps.toList, 0 ≤ (pc : Int) + q.2) ∧ 0 ≤ (pc : Int) + df ∧ (ps.toList.zip (ps.toList.drop 1)).all (fun (a, next) => a.1 < next.1) = true ∧ ∀ q ∈ ps.toList, (Int32.ofInt q.1).toInt = q.1
  | _ => True
theorem ez_off_in {pc : Nat} {df z : Int} : ∀ l : List (Int × Int), (∀ q ∈ l, 0 ≤ (pc : Int) + q.2) → 0 ≤ (pc : Int) + df → 0 ≤ (pc : Int) + Op.lookupswitch.offset l df z
  | [], _, hd => hd
  | (c, o) :: r, hl, hd => by
    by_cases hz : z = c
    · rw [hz]
      have e1 : Op.lookupswitch.offset ((c, o) :: r) df c = o := by simp [Op.lookupswitch.offset]
      rw [e1]
      exact hl (c, o) List.mem_cons_self
    · have e1 : Op.lookupswitch.offset ((c, o) :: r) df z = Op.lookupswitch.offset r df z := by simp [Op.lookupswitch.offset, Ne.symm hz]
      rw [e1]
      exact ez_off_in r (fun q hq => hl q (List.mem_cons_of_mem _ hq)) hd
theorem ez_tab_mem : ∀ (os : List Int) (lo : Int), ∀ q ∈ ez_tab lo os, q.2 ∈ os
  | [], _, _, h => by cases h
  | o :: r, lo, q, h => by
    rcases List.mem_cons.mp h with rfl | h
    · exact List.mem_cons_self
    · exact List.mem_cons_of_mem _ (ez_tab_mem r (lo + 1) q h)
section EZ10
variable {p : Program} {l : Launch} {e : Env} {R : Room} {s : State} {m : MethodId} {args : Array Value} {below : List Frame} {meth : Method} {c : Code} {H : Heap} {locs : List Loc} {cells slots : Nat} {cc : ByteArray} {pc B a : Nat} {ea : Nat → Nat} {lsM : Array Slot} {st st' : List Value} {i : ClassFile.Instr} {Q : State → Prop}
theorem ez_jp_snd (hx : p.tables.exec = Jvm.exec) (hb : c.code = cc) {len : Nat} (hd : decode cc pc = .ok (i, len)) (hlen : ∀ o, i = .goto o → len = 3) (hj : ez_jk i pc a) {J : (Nat → Prop) → Prop} (ho : ez_jp i pc a st = (some J, st')) {K : Nat → Prop} (hJ : J K)
    (k : ∀ t, K t → W p l e R s m args below meth c H locs cells slots Q (F0 m t lsM (st'.map (ez_tr B ea)))) : W p l e R s m args below meth c H locs cells slots Q (F0 m pc lsM (st.map (ez_tr B ea))) := by
  unfold ez_jp at ho
  split at ho
  · rename_i off
    cases ho
    have h3 : len = 3 := hlen off rfl
    subst h3
    exact lv_goto hx hb hd hj (k a hJ)
  · rename_i df lo hi os
    split at ho <;> cases ho
    rename_i x
    obtain ⟨j1, j2, j3, j4⟩ := hj
    have hk := ez_sw_off _ j4 hJ
    have hpos := ez_off_in (pc := pc) (df := df) (z := x.toInt) (ez_tab lo os.toList) (fun q hq => j1 _ (ez_tab_mem _ _ q hq)) j2
    have hoff := ez_tab_off (df := df) (z := x.toInt) os.toList lo
    by_cases hc : lo ≤ x.toInt ∧ x.toInt < lo + os.toList.length
    · rw [if_pos hc] at hoff
      have hlt : (x.toInt - lo).toNat < os.toList.length := by omega
      have hget : os[(x.toInt - lo).toNat]? = some (Op.lookupswitch.offset (ez_tab lo os.toList) df x.toInt) := by
        rw [hoff, ← Array.getElem?_toList, List.getElem?_eq_getElem hlt, List.getD_eq_getElem?_getD, List.getElem?_eq_getElem hlt]
        rfl
      refine lv_tableIn hx hb hd (by omega) (by omega) hget (tgt := _) ?_ (k _ hk)
      omega
    · rw [if_neg hc] at hoff
      refine lv_tableOut hx hb hd (by omega) (tgt := _) ?_ (k _ hk)
      rw [hoff]
      rw [hoff] at hpos
      omega
  · rename_i df ps
    split at ho <;> cases ho
    rename_i x
    obtain ⟨j1, j2, j3, j4⟩ := hj
    have hk := ez_sw_off _ j4 hJ
    have hpos := ez_off_in (pc := pc) (df := df) (z := x.toInt) ps.toList j1 j2
    refine lv_lookup hx hb hd j3 rfl (tgt := _) ?_ (k _ hk)
    omega
  · cases ho
end EZ10
