section EZK
variable {l : Launch} {D : va_G} {cl : List vw_C} {nf : Nat → Nat} {ty : Nat → Nat → FieldType} {dA : Nat → ClassId} {B : Nat} {ea : Nat → Nat} {exn : Nat → String} {E : Nat → Nat × (Nat → Int32)} {sta : Nat → String × String × String} {nm : Nat → MethodName} {bytes : Nat → ByteArray} {ml : Nat → Nat} {ret : Nat → Option FieldType} {hh : Nat → List (Nat × Nat × Nat × Nat)} {tbl : List Cond} {strs : List (String × Nat × String)} {hn : Nat → Nat → Nat → Option (Nat × Nat)}
variable {p : Program} {e : Env} {R : Room} {s : State} {m : MethodId} {args : Array Value} {below : List Frame} {meth : Method} {c : Code} {n0 u0 mi d : Nat} {Q : ez_Q}
set_option maxHeartbeats 2000000 in
/-- behind a call: it came back, or it threw -/
theorem ez_call_snd (hgd : ez_good tbl) (hH : ez_okH exn nm bytes ml hh tbl hn mi) (hcx : ez_Ctx nm bytes ml ret hh tbl mi p s m args meth c) (hsur : ez_Sur D cl dA B ea E sta strs s) (hs0 : s.heap.size = B + 1 + n0) (hcR : ez_MC ≤ n0 + R.cells) (hsR : ez_MS ≤ u0 + R.slots) {d' : Nat} (hd : d = d' + 1) (hfr : d + 6 ≤ R.frames) (hlo : 40 * d + 100 ≤ R.locals)
    {H : Heap} {locs : List Loc} {cells slots : Nat} {lsM : Array Slot} {pc a b k : Nat} {i : ClassFile.Instr} {ls : List (Option Value)} {st : List Value} {h : ez_H} (hck : ez_ck (nm mi).cls (nm a) (ez_wc (nm a) (bytes a) (ml a) (ret a) (hh a)) (ml a) (hh a = []) (ret a) tbl cl i b k) (hdc : decode (bytes mi) pc = .ok (i, 3))
    (hR : ez_Rel D cl nf ty dA B h H) (hS : va_S (ez_A B) s.heap H locs) (hn0 : n0 + cells = ez_n h) (hu0 : u0 + slots = ez_u h) (hn1 : ez_n h ≤ ez_MC) (hu1 : ez_u h ≤ ez_MS) (hl : lv_has lsM (ml mi) (ez_lv B ea ls))
    (hfew : ez_few (st.drop b) = true) (hlay : (ez_lay (st.take b).reverse).length ≤ ml a) (hlen : (st.take b).reverse.length = b) (hrc : ez_rcv h k (st.take b).reverse) {Q' : ez_Q} (hX : ez_Snd l D cl nf ty dA B ea exn E sta nm bytes ml ret hh tbl strs d' a 0 (ez_args (ml a) (st.take b).reverse) [] h Q')
    (back : ∀ (r : Option Value) (h' : ez_H), Q' (.inl r) h' → ∀ (H1 : Heap) (locs1 : List Loc) (cells1 slots1 : Nat), ez_Rel D cl nf ty dA B h' H1 → va_S (ez_A B) s.heap H1 locs1 → n0 + cells1 = ez_n h' → u0 + slots1 = ez_u h' → ez_n h' ≤ ez_MC → ez_u h' ≤ ez_MS → W p l e R s m args below meth c H1 locs1 cells1 slots1 (ez_Fin D cl nf ty dA B ea exn below s n0 u0 Q) (F0 m (pc + 3) lsM ((r.toList ++ st.drop b).map (ez_tr B ea))))
    (thr : ∀ (x : Nat) (h' : ez_H), Q' (.inr x) h' → (hn mi pc x = none ∧ Q (.inr x) h') ∨ (∃ t j, hn mi pc x = some (t + 1, j) ∧ ∀ (H1 : Heap) (locs1 : List Loc) (cells1 slots1 : Nat) (lsM1 : Array Slot), ez_Rel D cl nf ty dA B h' H1 → va_S (ez_A B) s.heap H1 locs1 → n0 + cells1 = ez_n h' → u0 + slots1 = ez_u h' → ez_n h' ≤ ez_MC → ez_u h' ≤ ez_MS → lv_has lsM1 (ml mi) (ez_lv B ea ((ez_cut ls j).set j none)) → W p l e R s m args below meth c H1 locs1 cells1 slots1 (ez_Fin D cl nf ty dA B ea exn below s n0 u0 Q) (F0 m (t + 1) lsM1 []))) :
    W p l e R s m args below meth c H locs cells slots (ez_Fin D cl nf ty dA B ea exn below s n0 u0 Q) (F0 m pc lsM (st.map (ez_tr B ea))) := by
  obtain ⟨hx, hb, hrt, hml, hown, hts, hlocks, hname, hexc⟩ := hcx
  intro T hT X
  subst hT
  obtain ⟨mk, vm₁, hnamed, X₁, hgo⟩ := ez_invoke (lsM := lsM) (ea := ea) X hx hb hown hts hsur.1 hR hck hlen hrc hdc
  obtain ⟨hpln, hyM, hini, hwc, hmx, -⟩ := hck
  have hw8 := ez_few_map (B := B) (ea := ea) hfew
  have hWw : ∀ w ∈ tbl, ∀ a', w.before a' (T.setVm vm₁) = true := fun w hw a' => hgd w hw _ a' _ (T.setVm vm₁) X₁.warmed (hts w hw)
  obtain ⟨mk2, methY, cY, g1, g2, g3, g4, g5, -⟩ := ez_wc_spec (hWw _ hwc #[])
  have hn2 := X₁.named hnamed
  cases hn2.symm.trans g1
  have hatm : (allAtoms (ez_wc (nm a) (bytes a) (ml a) (ret a) (hh a) :: tbl)).before ((st.take b).reverse.map (ez_tr B ea)).toArray (T.setVm vm₁) = true := atoms_intro fun w hw => (List.mem_cons.mp hw).elim (fun z => by rw [z]; exact hWw _ hwc _) (fun z => hWw _ z _)
  have hold : ∀ q : Nat, q < s.heap.size → ¬ ez_A B q → T.heap[q]? = s.heap[q]? := hS.2.1
  obtain ⟨o, t, hq, hst⟩ := ez_back (maxL := ml a) (a := ((st.take b).reverse.map (ez_tr B ea)).toArray) (ez_met l D cl nf ty dA B ea exn E sta nm bytes ml ret hh tbl strs hpln hlay hn1 hu1 hX) (by show d' + 6 + 1 ≤ R.frames; omega) (by show 8 + (ml a + 11) + (40 * d' + 100) ≤ R.locals; omega) X₁ (g := F0 m pc lsM ((st.drop b).map (ez_tr B ea))) rfl (by rw [hml]; exact hl.1) (by rw [hb]; exact hdc) (by show 2 * 0 + (((st.drop b).map (ez_tr B ea)).map fun v => v.category).sum ≤ 8; omega) hn2 g2 g3 g5 (hWw _ hini _)
    hatm (by show cells + (ez_MC - ez_n h) ≤ R.cells; omega) (by show slots + (ez_MS - ez_u h) ≤ R.slots; omega)
    ⟨rfl, hR, hsur.there _ _ _ _ _ _ _ _ (U := (T.setVm vm₁).calling _ mk _) X₁.warmed hold⟩
  obtain ⟨r, h', hQr, hout, hR', hW', ⟨b1, b2, b3, b4⟩, hfrm, hsz, L, hsame, hLA⟩ := hq
  obtain ⟨X₂, hsteps⟩ := hst L _ _ hW' hsame
  have hfrm' : ∀ q : Nat, q < T.heap.size → ¬ ez_A B q → t.heap[q]? = T.heap[q]? := hfrm
  have hsz' : T.heap.size ≤ t.heap.size := hsz
  have hS2 : va_S (ez_A B) s.heap t.heap (locs ++ L) := ⟨Nat.le_trans hS.1 hsz', fun q z1 z2 => (hfrm' q (Nat.lt_of_lt_of_le z1 hS.1) z2).trans (hS.2.1 q z1 z2), fun q hq => by
    rcases List.mem_append.mp hq with z | z
    · exact hS.2.2 q z
    · exact hLA q z⟩
  cases r with
  | inl v =>
    have ho : o = .returned (v.map (ez_tr B ea)) := hout
    subst ho
    obtain ⟨t2, a1, a2⟩ := back v h' hQr t.heap (locs ++ L) _ _ hR' hS2 (by omega) (by omega) b3 b4 (ez_bk (T.setVm vm₁) t) rfl X₂
    refine ⟨t2, hgo _ (hsteps.trans ?_), a2⟩
    have : (v.map (ez_tr B ea)).toList ++ (st.drop b).map (ez_tr B ea) = (v.toList ++ st.drop b).map (ez_tr B ea) := by cases v <;> rfl
    show Steps p.tables e below ((ez_bk (T.setVm vm₁) t).setTop (F0 m (pc + 3) lsM ((v.map (ez_tr B ea)).toList ++ (st.drop b).map (ez_tr B ea)))) t2
    rw [this]
    exact a1
  | inr x =>
    obtain ⟨ad, cell, ho, hcell, hobj, hfc⟩ := hout
    subst ho
    have hfc' : s.vm.findClass (exn x) = some cell.cls := by
      have hal := X₁.warmed.alike
      rw [← hal.findClass]
      exact hfc
    rcases thr x h' hQr with ⟨hnn, hQx⟩ | ⟨tt, j, hns, kk⟩
    · have hem : c.exceptionTable.toList = [] := by
        have := (hH pc x).1 hnn
        rw [this] at hexc
        simpa using hexc
      obtain ⟨w1, w2, w3, w4, w5⟩ := X₂.leaveThrown ad (g := F0 m pc lsM ((st.drop b).map (ez_tr B ea))) rfl rfl rfl (by rw [hem]; intro z hz; cases hz) (hlocks := hlocks)
      refine ⟨_, hgo _ (hsteps.trans w1), .threw ad, w2, w3, .inr x, h', hQx, ⟨ad, cell, rfl, hcell, hobj, hfc'⟩, hR', w4, ⟨by omega, by omega, b3, b4⟩, hS2.2.1, hS2.1, locs ++ L, ?_, hS2.2.2⟩
      rw [show ez_n h' - n0 = cells + (ez_n h' - ez_n h) by omega, show ez_u h' - u0 = slots + (ez_u h' - ez_u h) by omega]
      exact w5
    · obtain ⟨pre, sE, eE, hp, ct, rest, e1, e2, e3, e4, e5, e6, e7, e8⟩ := (hH pc x).2 tt j hns
      rw [e1] at hexc
      obtain ⟨preT, xs, f1, f2, f3⟩ := List.map_eq_append_iff.mp hexc
      obtain ⟨xT, restT, f4, f5, f6⟩ := List.map_eq_cons_iff.mp f3
      have f5' : xT.startPc = sE ∧ xT.endPc = eE ∧ xT.handlerPc = hp ∧ xT.catchType = ct := by
        injection f5 with z1 z2; injection z2 with z2 z3; injection z3 with z3 z4; exact ⟨z1, z2, z3, z4⟩
      obtain ⟨y1, y2, y3, y4⟩ := f5'
      obtain ⟨cA, cB, hcA, hcB, hasg⟩ := Cond.castable_spec (hts _ e5)
      cases hfc'.symm.trans hcA
      cases hfc'.symm.trans hcB
      obtain ⟨vm2, X₃, hcatch⟩ := ez_catch X₂ hown (g := F0 m pc lsM ((st.drop b).map (ez_tr B ea))) rfl hcell hobj rfl (Vm.classAt_of_findClass hfc') preT xT restT (by rw [f1, f4]) (by simp only [covers, Bool.and_eq_true, decide_eq_true_eq]; rw [y1, y2]; exact e2) (by rw [y4]; exact e3) (name := exn x) (by rw [y4]; exact hts _ e4) hfc' hasg
        (fun y hy => by
          obtain ⟨v1, v2, n', v3, v4⟩ := e6 (y.startPc, y.endPc, y.handlerPc, y.catchType) (by rw [← f2]; exact List.mem_map.mpr ⟨y, hy, rfl⟩)
          have hpl : e.platform.magicAccessors = ({} : Platform).magicAccessors := by rw [X.admits.platform]
          obtain ⟨cN, hcN, -⟩ := Cond.classLink_spec hown (hts _ v3) e.platform hpl
          exact ⟨by simp only [covers, Bool.and_eq_true, decide_eq_true_eq]; exact v1, v2, n', cN, hts _ v3, hcN, ez_notCast (hts _ v4) hfc' hcN⟩)
      have K : W p l e R s m args below meth c t.heap (locs ++ L) (cells + (ez_n h' - ez_n h)) (slots + (ez_u h' - ez_u h)) (ez_Fin D cl nf ty dA B ea exn below s n0 u0 Q) (F0 m hp lsM [.ref ad]) := by
        rcases e7 with ⟨jj, w1, rfl, w3⟩ | ⟨w1, w3⟩
        · refine lv_astore_n hx hb w1 rfl hl e8 rfl fun ls' hl' => ?_
          rw [← w3]
          exact kk _ _ _ _ ls' hR' hS2 (by omega) (by omega) b3 b4 (ez_lv_none hl')
        · refine lv_astore hx hb w1 hl e8 rfl fun ls' hl' => ?_
          rw [← w3]
          exact kk _ _ _ _ ls' hR' hS2 (by omega) (by omega) b3 b4 (ez_lv_none hl')
      obtain ⟨t2, a1, a2⟩ := K ((ez_bk (T.setVm vm₁) t).setVm vm2) rfl X₃
      refine ⟨t2, hgo _ (hsteps.trans (hcatch _ ?_)), a2⟩
      show Steps p.tables e below (((ez_bk (T.setVm vm₁) t).setVm vm2).setTop (F0 m xT.handlerPc lsM [.ref ad])) t2
      rw [y3]
      exact a1
set_option maxHeartbeats 4000000 in
theorem ez_walk (htr : l.stackTraces = false) (hgd : ez_good tbl) (hH : ez_okH exn nm bytes ml hh tbl hn mi) (hcx : ez_Ctx nm bytes ml ret hh tbl mi p s m args meth c) (hsur : ez_Sur D cl dA B ea E sta strs s) (hs0 : s.heap.size = B + 1 + n0) (hcR : ez_MC ≤ n0 + R.cells) (hsR : ez_MS ≤ u0 + R.slots) (hfr : d + 6 ≤ R.frames) (hlo : 40 * d + 100 ≤ R.locals) :
    ∀ (cs : List ez_C), ez_okL cl nf ty exn sta nm bytes ml ret hh tbl strs mi cs → ∀ (sk : Nat) (ls : List (Option Value)) (st : List Value) (h : ez_H) (H : Heap) (locs : List Loc) (cells slots : Nat) (lsM : Array Slot), ez_gw (ez_Snd l D cl nf ty dA B ea exn E sta nm bytes ml ret hh tbl strs) E ml (hn mi) mi d cs sk ls st h Q → ez_Rel D cl nf ty dA B h H → va_S (ez_A B) s.heap H locs → n0 + cells = ez_n h → u0 + slots = ez_u h → ez_n h ≤ ez_MC → ez_u h ≤ ez_MS → lv_has lsM (ml mi) (ez_lv B ea ls) →
      W p l e R s m args below meth c H locs cells slots (ez_Fin D cl nf ty dA B ea exn below s n0 u0 Q) (F0 m (ez_cur cs sk) lsM (st.map (ez_tr B ea))) := by
  obtain ⟨hx, hb, hrt, hml, hown, hts, hlocks, hname, hexc⟩ := id hcx
  intro cs
  induction cs with
  | nil => intro _ sk ls st h H locs cells slots lsM G; exact G.elim
  | cons q0 cs ih =>
    obtain ⟨pc, i, a, b, k, v⟩ := q0
    intro hok sk ls st h H locs cells slots lsM G hR hS hn0 hu0 hn1 hu1 hl
    obtain ⟨⟨okT, okD, okC, okB, okJ, okK, okR, okY⟩, okN, okL⟩ := hok
    have IH := ih okL
    have hmlS : c.maxLocals = lsM.size := by rw [hml, hl.1]
    -- the next instruction
    have nxt : ez_isSw i = false → ez_isThr i = false → ∀ (ls1 : List (Option Value)) (st1 : List Value) (h1 : ez_H) (H1 : Heap) (locs1 : List Loc) (cells1 slots1 : Nat) (lsM1 : Array Slot), ez_gw (ez_Snd l D cl nf ty dA B ea exn E sta nm bytes ml ret hh tbl strs) E ml (hn mi) mi d cs 0 ls1 st1 h1 Q → ez_Rel D cl nf ty dA B h1 H1 → va_S (ez_A B) s.heap H1 locs1 → n0 + cells1 = ez_n h1 → u0 + slots1 = ez_u h1 → ez_n h1 ≤ ez_MC → ez_u h1 ≤ ez_MS → lv_has lsM1 (ml mi) (ez_lv B ea ls1) → W p l e R s m args below meth c H1 locs1 cells1 slots1 (ez_Fin D cl nf ty dA B ea exn below s n0 u0 Q) (F0 m (pc + ez_ln i) lsM1 (st1.map (ez_tr B ea))) := by
      intro s1 s2 ls1 st1 h1 H1 locs1 cells1 slots1 lsM1 G1 r1 r2 r3 r4 r5 r6 r7
      cases cs with
      | nil => exact G1.elim
      | cons q' cs' =>
        have e1 : ez_cur (q' :: cs') 0 = pc + ez_ln i := okN q' cs' rfl s1 s2
        have := IH 0 ls1 st1 h1 H1 locs1 cells1 slots1 lsM1 G1 r1 r2 r3 r4 r5 r6 r7
        rw [e1] at this
        exact this
    -- a jump, forth or back
    have jmp : ∀ (t : Nat) (st1 : List Value), (match Nat.blt pc t with
        | true => ez_gw (ez_Snd l D cl nf ty dA B ea exn E sta nm bytes ml ret hh tbl strs) E ml (hn mi) mi d cs (t + 1) ls st1 h Q
        | false => ez_Snd l D cl nf ty dA B ea exn E sta nm bytes ml ret hh tbl strs d mi t ls st1 h Q) → W p l e R s m args below meth c H locs cells slots (ez_Fin D cl nf ty dA B ea exn below s n0 u0 Q) (F0 m t lsM (st1.map (ez_tr B ea))) := by
      intro t st1 G1
      cases hbt : Nat.blt pc t with
      | true =>
        simp only [hbt] at G1
        exact IH (t + 1) ls st1 h H locs cells slots lsM G1 hR hS hn0 hu0 hn1 hu1 hl
      | false =>
        simp only [hbt] at G1
        exact G1 p e R s m args below meth c H locs cells slots lsM n0 u0 hcx hsur hR hS hs0 hn0 hu0 hn1 hu1 hcR hsR hfr hlo hl
    unfold ez_gw at G
    cases h1 : ez_past sk pc with
    | true =>
      simp only [h1] at G
      have e1 : ez_cur ((pc, i, a, b, k, v) :: cs) sk = ez_cur cs sk := by
        cases sk with
        | zero => cases h1
        | succ t => rfl
      rw [e1]
      exact IH sk ls st h H locs cells slots lsM G hR hS hn0 hu0 hn1 hu1 hl
    | false =>
      have e1 : ez_cur ((pc, i, a, b, k, v) :: cs) sk = pc := by
        cases sk with
        | zero => rfl
        | succ t =>
          have : Nat.beq (t + 1) (pc + 1) = true := by
            unfold ez_past at h1
            cases hz : Nat.beq (t + 1) (pc + 1) with
            | true => rfl
            | false => rw [hz] at h1; cases h1
          have := Nat.eq_of_beq_eq_true this
          show t = pc
          omega
      rw [e1]
      simp only [h1] at G
      have dec : ez_isSw i = false → ez_isThr i = false → decode (bytes mi) pc = .ok (i, ez_ln i) := fun s1 s2 => by
        obtain ⟨len, d1, d2⟩ := okD s2
        rw [← d2 s1]
        exact d1
      cases h2 : ez_op i v st with
      | some st' =>
        simp only [h2] at G
        have s1 : ez_isSw i = false ∧ ez_isThr i = false := by
          unfold ez_op at h2
          split at h2 <;> first | exact ⟨rfl, rfl⟩ | cases h2
        exact ez_op_snd hx hb hown hts (dec s1.1 s1.2) okC h2 (nxt s1.1 s1.2 ls st' h H locs cells slots lsM G hR hS hn0 hu0 hn1 hu1 hl)
      | none =>
        simp only [h2] at G
        cases h3 : ez_ld i ls st with
        | some st' =>
          simp only [h3] at G
          have s1 : ez_isSw i = false ∧ ez_isThr i = false := by
            unfold ez_ld at h3
            split at h3 <;> first | exact ⟨rfl, rfl⟩ | cases h3
          exact ez_ld_snd hx hb hl (dec s1.1 s1.2) h3 (nxt s1.1 s1.2 ls st' h H locs cells slots lsM G hR hS hn0 hu0 hn1 hu1 hl)
        | none =>
          simp only [h3] at G
          cases h4 : ez_st i v ls st with
          | some q =>
            obtain ⟨ls', st'⟩ := q
            simp only [h4] at G
            have s1 : ez_isSw i = false ∧ ez_isThr i = false := by
              unfold ez_st at h4
              split at h4 <;> first | exact ⟨rfl, rfl⟩ | cases h4
            exact ez_st_snd hx hb hl (dec s1.1 s1.2) okC h4 fun lsM' hl' => nxt s1.1 s1.2 ls' st' h H locs cells slots lsM' G hR hS hn0 hu0 hn1 hu1 hl'
          | none =>
            simp only [h4] at G
            cases h5 : ez_br i st with
            | some q =>
              obtain ⟨cd, st'⟩ := q
              simp only [h5] at G
              have s1 : (ez_isSw i = false ∧ ez_isThr i = false) ∧ ez_ln i = 3 := by
                unfold ez_br at h5
                split at h5 <;> first | exact ⟨⟨rfl, rfl⟩, rfl⟩ | cases h5
              refine ez_br_snd hx hb (a := a) (dec s1.1.1 s1.1.2) okB h5 (fun z => jmp a st' (G.1 z)) (fun z => ?_)
              have := nxt s1.1.1 s1.1.2 ls st' h H locs cells slots lsM (G.2 z) hR hS hn0 hu0 hn1 hu1 hl
              rw [s1.2] at this
              exact this
            | none =>
              simp only [h5] at G
              cases h6 : ez_sm E i a b k ls st h with
              | some q =>
                obtain ⟨cd, st', h'⟩ := q
                simp only [h6] at G
                have s1 : ez_isSw i = false ∧ ez_isThr i = false := by
                  unfold ez_sm at h6
                  split at h6 <;> first | exact ⟨rfl, rfl⟩ | cases h6
                exact ez_sm_snd hx hb hmlS hown hts hsur.1 hR hS hsur.2.1 hsur.2.2.1 hs0 hn0 hu0 hn1 hu1 hcR hsR (by omega) (by omega) (dec s1.1 s1.2) (by rw [hname]; exact okK) h6 G.1 fun H1 locs1 cells1 slots1 r1 r2 r3 r4 r5 r6 => nxt s1.1 s1.2 ls st' h' H1 locs1 cells1 slots1 lsM G.2 r1 r2 r3 r4 r5 r6 hl
              | none =>
                simp only [h6] at G
                cases h7 : ez_rt i a st with
                | some q =>
                  obtain ⟨cd, r⟩ := q
                  simp only [h7] at G
                  have s1 : ez_isSw i = false ∧ ez_isThr i = false := by
                    unfold ez_rt at h7
                    split at h7 <;> first | exact ⟨rfl, rfl⟩ | cases h7
                  exact ez_rt_snd (a := a) hx hb hlocks (by rw [hrt]; exact okR) hR hS hn0 hu0 hn1 hu1 (dec s1.1 s1.2) h7 G.1 G.2
                | none =>
                  simp only [h7] at G
                  cases h8 : ez_jp i pc a st with
                  | mk J st' =>
                    cases J with
                    | some J =>
                      simp only [h8] at G
                      have s2 : ez_isThr i = false := by
                        unfold ez_jp at h8
                        split at h8 <;> first | rfl | cases h8
                      obtain ⟨len, d1, d2⟩ := okD s2
                      exact ez_jp_snd hx hb d1 (fun o ho => by rw [ho] at d2; rw [d2 rfl]; rfl) okJ h8 G fun t ht => jmp t st' ht
                    | none =>
                      simp only [h8] at G
                      cases h9 : ez_cl i k with
                      | true =>
                        simp only [h9] at G
                        have s1 : (ez_isSw i = false ∧ ez_isThr i = false) ∧ ez_ln i = 3 := by
                          unfold ez_cl at h9
                          split at h9 <;> first | exact ⟨⟨rfl, rfl⟩, rfl⟩ | cases h9
                        cases d with
                        | zero => exact G.elim
                        | succ d' =>
                          obtain ⟨⟨c1, c2, c3, c4⟩, GX⟩ := G
                          have hdc := dec s1.1.1 s1.1.2
                          rw [s1.2] at hdc
                          refine ez_call_snd hgd hH hcx hsur hs0 hcR hsR rfl hfr hlo (okY h9) hdc hR hS hn0 hu0 hn1 hu1 hl c1 (Nat.le_of_ble_eq_true c2) (Nat.eq_of_beq_eq_true c3) c4 GX ?_ ?_
                          · intro r h' hq H1 locs1 cells1 slots1 r1 r2 r3 r4 r5 r6
                            cases r with
                            | none =>
                              have := nxt s1.1.1 s1.1.2 ls (st.drop b) h' H1 locs1 cells1 slots1 lsM hq r1 r2 r3 r4 r5 r6 hl
                              rw [s1.2] at this
                              exact this
                            | some w =>
                              have := nxt s1.1.1 s1.1.2 ls (w :: st.drop b) h' H1 locs1 cells1 slots1 lsM hq r1 r2 r3 r4 r5 r6 hl
                              rw [s1.2] at this
                              exact this
                          · intro x h' hq
                            cases h10 : hn mi pc x with
                            | none => simp only [h10] at hq; exact Or.inl ⟨rfl, hq⟩
                            | some z =>
                              obtain ⟨t, j⟩ := z
                              simp only [h10] at hq
                              cases t with
                              | zero => exact hq.elim
                              | succ t' => exact Or.inr ⟨t', j, rfl, fun H1 locs1 cells1 slots1 lsM1 r1 r2 r3 r4 r5 r6 r7 => IH (t' + 2) _ [] h' H1 locs1 cells1 slots1 lsM1 hq r1 r2 r3 r4 r5 r6 r7⟩
                      | false =>
                        simp only [h9] at G
                        split at G
                        · split at G
                          · obtain ⟨i0, i1, i2, tx, t0, t1, t2, t3, t4, t5, t6, t7, t8, t9, t10⟩ := okT rfl
                            rw [t10] at hexc
                            obtain ⟨qs, hqs⟩ := hsur.2.2.2.2 _ t5
                            intro T hT X
                            have htr' : e.platform.stackTraces = false := by rw [X.admits.platform]; exact htr
                            exact ez_throw hx hb hlocks hmlS hown hts hgd htr' hsur.2.2.2.1 (by simpa [Array.isEmpty] using hexc) hR hS hs0 hn0 hu0 G.1.1 G.1.2 hcR hsR (by omega) (by omega) t6 t7 t8 t9 hqs t0 t1 t2 t3 t4 G.2 T hT X
                          · exact G.elim
                        · exact G.elim
end EZK
/-- SOUNDNESS -/
theorem ez_sound {l : Launch} {D : va_G} {cl : List vw_C} {nf : Nat → Nat} {ty : Nat → Nat → FieldType} {dA : Nat → ClassId} {B : Nat} {ea : Nat → Nat} {exn : Nat → String} {E : Nat → Nat × (Nat → Int32)} {sta : Nat → String × String × String} {nm : Nat → MethodName} {bytes : Nat → ByteArray} {ml : Nat → Nat} {ret : Nat → Option FieldType} {hh : Nat → List (Nat × Nat × Nat × Nat)} {tbl : List Cond} {strs : List (String × Nat × String)} {hn : Nat → Nat → Nat → Option (Nat × Nat)} {code : Nat → List ez_C}
    (htr : l.stackTraces = false) (hgd : ez_good tbl) (hH : ∀ mi, ez_okH exn nm bytes ml hh tbl hn mi) (hL : ∀ mi, ez_okL cl nf ty exn sta nm bytes ml ret hh tbl strs mi (code mi)) : ez_Closed E ml hn code (ez_Snd l D cl nf ty dA B ea exn E sta nm bytes ml ret hh tbl strs) := by
  intro d mi pc ls st h Q G p e R s m args below meth c H locs cells slots lsM n0 u0 a1 a2 a3 a4 a5 a6 a7 a8 a9 a10 a11 a12 a13 a14
  exact ez_walk htr hgd (hH mi) a1 a2 a5 a10 a11 a12 a13 (code mi) (hL mi) (pc + 1) ls st h H locs cells slots lsM G a3 a4 a6 a7 a8 a9 a14
