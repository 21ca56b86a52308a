/-! an instruction of the pure machine by its kind -/
section GW
variable {X : ez_X} {E : Nat → Nat × (Nat → Int32)} {ml : Nat → Nat} {hn : Nat → Nat → Option (Nat × Nat)} {mi d pc a b k : Nat} {i : ClassFile.Instr} {v : Int32} {cs : List ez_C} {ls : List (Option Value)} {st : List Value} {h : ez_H} {Q : ez_Q}
/-- a jump; a call -/
def ev_Jp (X : ez_X) (E : Nat → Nat × (Nat → Int32)) (ml : Nat → Nat) (hn : Nat → Nat → Option (Nat × Nat)) (mi d : Nat) (cs : List ez_C) (pc t : Nat) (ls : List (Option Value)) (st : List Value) (h : ez_H) (Q : ez_Q) : Prop := match Nat.blt pc t with
  | true => ez_gw X E ml hn mi d cs (t + 1) ls st h Q
  | false => X d mi t ls st h Q
def ev_Cp (X : ez_X) (E : Nat → Nat × (Nat → Int32)) (ml : Nat → Nat) (hn : Nat → Nat → Option (Nat × Nat)) (mi d : Nat) (cs : List ez_C) (pc a b k : Nat) (ls : List (Option Value)) (st : List Value) (h : ez_H) (Q : ez_Q) : Prop := match d with
  | 0 => False
  | d' + 1 => (ez_few (st.drop b) = true ∧ Nat.ble (ez_lay (st.take b).reverse).length (ml a) = true ∧ Nat.beq (st.take b).reverse.length b = true ∧ ez_rcv h k (st.take b).reverse) ∧ X d' a 0 (ez_args (ml a) (st.take b).reverse) [] h (fun o h' => match o with
    | .inl none => ez_gw X E ml hn mi (d' + 1) cs 0 ls (st.drop b) h' Q
    | .inl (some w) => ez_gw X E ml hn mi (d' + 1) cs 0 ls (w :: st.drop b) h' Q
    | .inr x => match hn pc x with
      | none => Q (.inr x) h'
      | some (t, j) => (match t with
        | 0 => False
        | t' + 1 => ez_gw X E ml hn mi (d' + 1) cs (t' + 2) ((ez_cut ls j).set j none) [] h' Q))
theorem gw_op {st2 : List Value} (h1 : ez_op i v st = some st2) (H : ez_gw X E ml hn mi d cs 0 ls st2 h Q) : ez_gw X E ml hn mi d ((pc, i, a, b, k, v) :: cs) 0 ls st h Q := by
  unfold ez_gw; simp only [show ez_past 0 pc = false from rfl, h1]; exact H
theorem gw_ld {st2 : List Value} (h0 : ez_op i v st = none) (h1 : ez_ld i ls st = some st2) (H : ez_gw X E ml hn mi d cs 0 ls st2 h Q) : ez_gw X E ml hn mi d ((pc, i, a, b, k, v) :: cs) 0 ls st h Q := by
  unfold ez_gw; simp only [show ez_past 0 pc = false from rfl, h0, h1]; exact H
theorem gw_st {ls2 : List (Option Value)} {st2 : List Value} (h0 : ez_op i v st = none) (h1 : ez_ld i ls st = none) (h2 : ez_st i v ls st = some (ls2, st2)) (H : ez_gw X E ml hn mi d cs 0 ls2 st2 h Q) : ez_gw X E ml hn mi d ((pc, i, a, b, k, v) :: cs) 0 ls st h Q := by
  unfold ez_gw; simp only [show ez_past 0 pc = false from rfl, h0, h1, h2]; exact H
theorem gw_br {c : Prop} {st2 : List Value} (h0 : ez_op i v st = none) (h1 : ez_ld i ls st = none) (h2 : ez_st i v ls st = none) (h3 : ez_br i st = some (c, st2)) (Ht : c → ev_Jp X E ml hn mi d cs pc a ls st2 h Q) (Hf : ¬ c → ez_gw X E ml hn mi d cs 0 ls st2 h Q) : ez_gw X E ml hn mi d ((pc, i, a, b, k, v) :: cs) 0 ls st h Q := by
  unfold ez_gw; simp only [show ez_past 0 pc = false from rfl, h0, h1, h2, h3]; exact ⟨Ht, Hf⟩
theorem gw_sm {c : Prop} {st2 : List Value} {h2' : ez_H} (h0 : ez_op i v st = none) (h1 : ez_ld i ls st = none) (h2 : ez_st i v ls st = none) (h3 : ez_br i st = none) (h4 : ez_sm E i a b k ls st h = some (c, st2, h2')) (hc : c) (H : ez_gw X E ml hn mi d cs 0 ls st2 h2' Q) : ez_gw X E ml hn mi d ((pc, i, a, b, k, v) :: cs) 0 ls st h Q := by
  unfold ez_gw; simp only [show ez_past 0 pc = false from rfl, h0, h1, h2, h3, h4]; exact ⟨hc, H⟩
theorem gw_rt {c : Prop} {r : Option Value} (h0 : ez_op i v st = none) (h1 : ez_ld i ls st = none) (h2 : ez_st i v ls st = none) (h3 : ez_br i st = none) (h4 : ez_sm E i a b k ls st h = none) (h5 : ez_rt i a st = some (c, r)) (hc : c) (H : Q (.inl r) h) : ez_gw X E ml hn mi d ((pc, i, a, b, k, v) :: cs) 0 ls st h Q := by
  unfold ez_gw; simp only [show ez_past 0 pc = false from rfl, h0, h1, h2, h3, h4, h5]; exact ⟨hc, H⟩
theorem gw_jp {J : (Nat → Prop) → Prop} {st2 : List Value} (h0 : ez_op i v st = none) (h1 : ez_ld i ls st = none) (h2 : ez_st i v ls st = none) (h3 : ez_br i st = none) (h4 : ez_sm E i a b k ls st h = none) (h5 : ez_rt i a st = none) (h6 : ez_jp i pc a st = (some J, st2)) (H : J (fun t => ev_Jp X E ml hn mi d cs pc t ls st2 h Q)) : ez_gw X E ml hn mi d ((pc, i, a, b, k, v) :: cs) 0 ls st h Q := by
  unfold ez_gw; simp only [show ez_past 0 pc = false from rfl, h0, h1, h2, h3, h4, h5, h6]; exact H
theorem gw_cl {st2 : List Value} (h0 : ez_op i v st = none) (h1 : ez_ld i ls st = none) (h2 : ez_st i v ls st = none) (h3 : ez_br i st = none) (h4 : ez_sm E i a b k ls st h = none) (h5 : ez_rt i a st = none) (h6 : ez_jp i pc a st = (none, st2)) (h7 : ez_cl i k = true) (H : ev_Cp X E ml hn mi d cs pc a b k ls st h Q) : ez_gw X E ml hn mi d ((pc, i, a, b, k, v) :: cs) 0 ls st h Q := by
  unfold ez_gw; simp only [show ez_past 0 pc = false from rfl, h0, h1, h2, h3, h4, h5, h6, h7]; unfold ev_Cp at H; cases d <;> exact H
end GW
/-- a continuation is right -/
def ev_NX (P : List (Option Value) → List Value → ez_H → ez_Q → Prop) (nx : ev_N) : Prop := ∀ (ls : ev_L) (st : List ev_X) (S : ev_S) (r : (Option ev_X ⊕ Nat) × ev_S) (ls' : List (Option Value)) (st' : List Value) (h : ez_H) (Q : ez_Q), nx ls st S = some r → ev_gl ls ls' → ev_gs st st' → ev_rel S h → (∀ o h', ev_go r.1 o → ev_rel r.2 h' → Q o h') → P ls' st' h Q
/-- what an instruction is to the evaluator is right -/
def ev_OK (e : ez_C) (F : ev_F) : Prop := ∀ (X : ez_X) (E : Nat → Nat × (Nat → Int32)) (ml : Nat → Nat) (hn : Nat → Nat → Option (Nat × Nat)) (mi d : Nat) (cs : List ez_C) (sc : List ev_X) (nx : ev_N) (to : Nat → ev_N) (cal : Nat → Nat → Nat → Nat → ev_N), ev_scr sc E → ev_NX (fun ls st h Q => ez_gw X E ml hn mi d cs 0 ls st h Q) nx → (∀ t, ev_NX (ev_Jp X E ml hn mi d cs e.1 t) (to t)) → (∀ a b k, ev_NX (ev_Cp X E ml hn mi d cs e.1 a b k) (cal e.1 a b k)) → ev_NX (fun ls st h Q => ez_gw X E ml hn mi d (e :: cs) 0 ls st h Q) (F sc nx to cal)
section OKS
variable {pc a b k : Nat} {i : ClassFile.Instr} {v : Int32}
theorem ok_no : ev_OK (pc, i, a, b, k, v) eh_no := fun X E ml hn mi d cs sc nx to cal hsc hnx hto hcal ls st S r ls' st' h Q H hl hs hr hQ => by cases H
theorem ok_C (hi : ∀ st, ez_op i v st = some (.int v :: st)) : ev_OK (pc, i, a, b, k, v) (eh_C (ev_u v)) := fun X E ml hn mi d cs sc nx to cal hsc hnx hto hcal ls st S r ls' st' h Q H hl hs hr hQ =>
  gw_op (hi _) (hnx ls _ S r ls' _ h Q H hl ⟨⟨_, rfl, rfl⟩, hs⟩ hr hQ)
theorem ok_J (hi : ∀ st, ez_op i v st = some (.long v.toInt64 :: st)) : ev_OK (pc, i, a, b, k, v) (eh_J (ev_w v.toInt64)) := fun X E ml hn mi d cs sc nx to cal hsc hnx hto hcal ls st S r ls' st' h Q H hl hs hr hQ =>
  gw_op (hi _) (hnx ls _ S r ls' _ h Q H hl ⟨⟨_, rfl, rfl⟩, hs⟩ hr hQ)
theorem ok_1 {g : Int32 → Int32} (hi : ∀ x r, ez_op i v (.int x :: r) = some (.int (g x) :: r)) : ev_OK (pc, i, a, b, k, v) (eh_1 g) := fun X E ml hn mi d cs sc nx to cal hsc hnx hto hcal ls st S r ls' st' h Q H hl hs hr hQ => by
  unfold eh_1 ev_b1 at H
  split at H
  · obtain ⟨w, r', rfl, ⟨y, rfl, rfl⟩, hs1⟩ := ev_gs_cons hs
    rw [ev_f_eq, ev_i_u] at H
    exact gw_op (hi _ _) (hnx _ _ _ _ _ _ _ _ H hl ⟨⟨_, rfl, rfl⟩, hs1⟩ hr hQ)
  · obtain ⟨w, r', rfl, ⟨y, rfl, -⟩, hs1⟩ := ev_gs_cons hs
    exact gw_op (hi _ _) (hnx _ _ _ _ _ _ _ _ H hl ⟨ev_top_v _, hs1⟩ hr hQ)
  · cases H
theorem ok_2 {f : Nat → Nat → Nat} {g : Int32 → Int32 → Int32} (hi : ∀ x y r, ez_op i v (.int y :: .int x :: r) = some (.int (g x y) :: r)) (hf : ∀ x y, ev_u (g x y) = f (ev_u x) (ev_u y)) : ev_OK (pc, i, a, b, k, v) (eh_2 f) := fun X E ml hn mi d cs sc nx to cal hsc hnx hto hcal ls st S r ls' st' h Q H hl hs hr hQ => by
  unfold eh_2 ev_b2 at H
  split at H
  · obtain ⟨w, r', rfl, ⟨y, rfl, rfl⟩, hs1⟩ := ev_gs_cons hs
    obtain ⟨w, r', rfl, ⟨x, rfl, rfl⟩, hs2⟩ := ev_gs_cons hs1
    rw [ev_f_eq, ← hf] at H
    exact gw_op (hi _ _ _) (hnx _ _ _ _ _ _ _ _ H hl ⟨⟨_, rfl, rfl⟩, hs2⟩ hr hQ)
  · obtain ⟨w, r', rfl, ⟨y, rfl, -⟩, hs1⟩ := ev_gs_cons hs
    obtain ⟨w, r', rfl, ⟨x, rfl, -⟩, hs2⟩ := ev_gs_cons hs1
    exact gw_op (hi _ _ _) (hnx _ _ _ _ _ _ _ _ H hl ⟨ev_top_v _, hs2⟩ hr hQ)
  · obtain ⟨w, r', rfl, ⟨y, rfl, -⟩, hs1⟩ := ev_gs_cons hs
    obtain ⟨w, r', rfl, ⟨x, rfl, -⟩, hs2⟩ := ev_gs_cons hs1
    exact gw_op (hi _ _ _) (hnx _ _ _ _ _ _ _ _ H hl ⟨ev_top_v _, hs2⟩ hr hQ)
  · obtain ⟨w, r', rfl, ⟨y, rfl, -⟩, hs1⟩ := ev_gs_cons hs
    obtain ⟨w, r', rfl, ⟨x, rfl, -⟩, hs2⟩ := ev_gs_cons hs1
    exact gw_op (hi _ _ _) (hnx _ _ _ _ _ _ _ _ H hl ⟨ev_top_v _, hs2⟩ hr hQ)
  · cases H
theorem ok_l2 {g : Int64 → Int64 → Int64} (hi : ∀ x y r, ez_op i v (.long y :: .long x :: r) = some (.long (g x y) :: r)) : ev_OK (pc, i, a, b, k, v) (eh_l2 g) := fun X E ml hn mi d cs sc nx to cal hsc hnx hto hcal ls st S r ls' st' h Q H hl hs hr hQ => by
  unfold eh_l2 ev_l2 at H
  split at H
  · obtain ⟨w, r', rfl, ⟨y, rfl, rfl⟩, hs1⟩ := ev_gs_cons hs
    obtain ⟨w, r', rfl, ⟨x, rfl, rfl⟩, hs2⟩ := ev_gs_cons hs1
    rw [ev_f_eq, ev_j_w, ev_j_w] at H
    exact gw_op (hi _ _ _) (hnx _ _ _ _ _ _ _ _ H hl ⟨⟨_, rfl, rfl⟩, hs2⟩ hr hQ)
  · cases H
theorem ok_i2l : ev_OK (pc, .i2l, a, b, k, v) eh_i2l := fun X E ml hn mi d cs sc nx to cal hsc hnx hto hcal ls st S r ls' st' h Q H hl hs hr hQ => by
  unfold eh_i2l at H
  split at H
  · obtain ⟨w, r', rfl, ⟨y, rfl, rfl⟩, hs1⟩ := ev_gs_cons hs
    rw [ev_f_eq, ev_i_u] at H
    exact gw_op rfl (hnx _ _ _ _ _ _ _ _ H hl ⟨⟨_, rfl, rfl⟩, hs1⟩ hr hQ)
  · cases H
theorem ok_l2i : ev_OK (pc, .l2i, a, b, k, v) eh_l2i := fun X E ml hn mi d cs sc nx to cal hsc hnx hto hcal ls st S r ls' st' h Q H hl hs hr hQ => by
  unfold eh_l2i at H
  split at H
  · obtain ⟨w, r', rfl, ⟨y, rfl, rfl⟩, hs1⟩ := ev_gs_cons hs
    rw [ev_f_eq, ev_j_w] at H
    exact gw_op rfl (hnx _ _ _ _ _ _ _ _ H hl ⟨⟨_, rfl, rfl⟩, hs1⟩ hr hQ)
  · cases H
theorem ok_lcmp : ev_OK (pc, .lcmp, a, b, k, v) eh_lcmp := fun X E ml hn mi d cs sc nx to cal hsc hnx hto hcal ls st S r ls' st' h Q H hl hs hr hQ => by
  unfold eh_lcmp at H
  split at H
  · obtain ⟨w, r', rfl, ⟨y, rfl, rfl⟩, hs1⟩ := ev_gs_cons hs
    obtain ⟨w, r', rfl, ⟨x, rfl, rfl⟩, hs2⟩ := ev_gs_cons hs1
    rw [ev_f_eq, ev_j_w, ev_j_w] at H
    exact gw_op rfl (hnx _ _ _ _ _ _ _ _ H hl ⟨⟨_, rfl, rfl⟩, hs2⟩ hr hQ)
  · cases H
theorem ok_dup : ev_OK (pc, .dup, a, b, k, v) eh_dup := fun X E ml hn mi d cs sc nx to cal hsc hnx hto hcal ls st S r ls' st' h Q H hl hs hr hQ => by
  unfold eh_dup at H
  split at H
  · obtain ⟨w, r', rfl, hx, hs1⟩ := ev_gs_cons hs
    obtain ⟨y, rfl, -⟩ := id hx
    exact gw_op rfl (hnx _ _ _ _ _ _ _ _ H hl ⟨hx, hx, hs1⟩ hr hQ)
  · obtain ⟨w, r', rfl, hx, hs1⟩ := ev_gs_cons hs
    obtain ⟨y, rfl, -⟩ := id hx
    exact gw_op rfl (hnx _ _ _ _ _ _ _ _ H hl ⟨hx, hx, hs1⟩ hr hQ)
  · obtain ⟨w, r', rfl, hx, hs1⟩ := ev_gs_cons hs
    have e : w = .ref _ := hx
    subst e
    exact gw_op rfl (hnx _ _ _ _ _ _ _ _ H hl ⟨hx, hx, hs1⟩ hr hQ)
  · cases H
theorem ev_isI_ok {y : ev_X} {c : ev_R} {r : (Option ev_X ⊕ Nat) × ev_S} {w : Value} (H : ev_isI y c = some r) (hy : ev_v y w) : c = some r ∧ ∃ x : Int32, w = .int x ∧ ev_lo y ≤ ev_e (ev_u x) ∧ ev_e (ev_u x) ≤ ev_hi y := by
  cases y with
  | num n => obtain ⟨x, rfl, rfl⟩ := hy; exact ⟨H, x, rfl, Nat.le_refl _, Nat.le_refl _⟩
  | add a b => obtain ⟨x, rfl, h1, h2⟩ := hy; exact ⟨H, x, rfl, h1, h2⟩
  | var p => cases H
  | mul a b => cases H
theorem ok_dup2 : ev_OK (pc, .dup2, a, b, k, v) eh_dup2 := fun X E ml hn mi d cs sc nx to cal hsc hnx hto hcal ls st S r ls' st' h Q H hl hs hr hQ => by
  unfold eh_dup2 at H
  split at H
  · obtain ⟨w, r', rfl, hx, hs1⟩ := ev_gs_cons hs
    obtain ⟨w', r', rfl, hx', hs2⟩ := ev_gs_cons hs1
    obtain ⟨H, x, rfl, -⟩ := ev_isI_ok H hx
    have e : w' = .ref _ := hx'
    subst e
    exact gw_op rfl (hnx _ _ _ _ _ _ _ _ H hl ⟨hx, hx', hx, hx', hs2⟩ hr hQ)
  · obtain ⟨w, r', rfl, hx, hs1⟩ := ev_gs_cons hs
    obtain ⟨w', r', rfl, hx', hs2⟩ := ev_gs_cons hs1
    obtain ⟨H, x, rfl, -⟩ := ev_isI_ok H hx
    obtain ⟨y, rfl, -⟩ := id hx'
    exact gw_op rfl (hnx _ _ _ _ _ _ _ _ H hl ⟨hx, hx', hx, hx', hs2⟩ hr hQ)
  · cases H
theorem ok_dupx : ev_OK (pc, .dup_x1, a, b, k, v) eh_dupx := fun X E ml hn mi d cs sc nx to cal hsc hnx hto hcal ls st S r ls' st' h Q H hl hs hr hQ => by
  unfold eh_dupx at H
  split at H
  · obtain ⟨w, r', rfl, hx, hs1⟩ := ev_gs_cons hs
    obtain ⟨w', r', rfl, hx', hs2⟩ := ev_gs_cons hs1
    obtain ⟨H, x, rfl, -⟩ := ev_isI_ok H hx
    have e : w' = .ref _ := hx'
    subst e
    exact gw_op rfl (hnx _ _ _ _ _ _ _ _ H hl ⟨hx, hx', hx, hs2⟩ hr hQ)
  · obtain ⟨w, r', rfl, hx, hs1⟩ := ev_gs_cons hs
    obtain ⟨w', r', rfl, hx', hs2⟩ := ev_gs_cons hs1
    obtain ⟨H, x, rfl, -⟩ := ev_isI_ok H hx
    obtain ⟨y, rfl, -⟩ := id hx'
    exact gw_op rfl (hnx _ _ _ _ _ _ _ _ H hl ⟨hx, hx', hx, hs2⟩ hr hQ)
  · cases H
theorem ok_pop : ev_OK (pc, .pop, a, b, k, v) eh_pop := fun X E ml hn mi d cs sc nx to cal hsc hnx hto hcal ls st S r ls' st' h Q H hl hs hr hQ => by
  unfold eh_pop at H
  split at H
  · obtain ⟨w, r', rfl, ⟨y, rfl, -⟩, hs1⟩ := ev_gs_cons hs
    exact gw_op rfl (hnx _ _ _ _ _ _ _ _ H hl hs1 hr hQ)
  · obtain ⟨w, r', rfl, ⟨y, rfl, -⟩, hs1⟩ := ev_gs_cons hs
    exact gw_op rfl (hnx _ _ _ _ _ _ _ _ H hl hs1 hr hQ)
  · obtain ⟨w, r', rfl, hx, hs1⟩ := ev_gs_cons hs
    have e : w = .ref _ := hx
    subst e
    exact gw_op rfl (hnx _ _ _ _ _ _ _ _ H hl hs1 hr hQ)
  · cases H
theorem ok_li {q : Nat} (h0 : ∀ st, ez_op i v st = none) (hi : ∀ ls st x, ls.getD q none = some (.int x) → ez_ld i ls st = some (.int x :: st)) : ev_OK (pc, i, a, b, k, v) (eh_li q) := fun X E ml hn mi d cs sc nx to cal hsc hnx hto hcal ls st S r ls' st' h Q H hl hs hr hQ => by
  have hq := ev_gl_nth q hl
  unfold eh_li ev_ldI at H
  split at H
  · rename_i e
    rw [e] at hq
    obtain ⟨w, hw, hx⟩ := hq
    obtain ⟨y, rfl, -⟩ := id hx
    exact gw_ld (h0 _) (hi _ _ _ hw) (hnx _ _ _ _ _ _ _ _ H hl ⟨hx, hs⟩ hr hQ)
  · rename_i e
    rw [e] at hq
    obtain ⟨w, hw, hx⟩ := hq
    obtain ⟨y, rfl, -⟩ := id hx
    exact gw_ld (h0 _) (hi _ _ _ hw) (hnx _ _ _ _ _ _ _ _ H hl ⟨hx, hs⟩ hr hQ)
  · cases H
theorem ok_ll {q : Nat} (h0 : ∀ st, ez_op i v st = none) (hi : ∀ ls st x, ls.getD q none = some (.long x) → ez_ld i ls st = some (.long x :: st)) : ev_OK (pc, i, a, b, k, v) (eh_ll q) := fun X E ml hn mi d cs sc nx to cal hsc hnx hto hcal ls st S r ls' st' h Q H hl hs hr hQ => by
  have hq := ev_gl_nth q hl
  unfold eh_ll ev_ldL at H
  split at H
  · rename_i e
    rw [e] at hq
    obtain ⟨w, hw, hx⟩ := hq
    obtain ⟨y, rfl, -⟩ := id hx
    exact gw_ld (h0 _) (hi _ _ _ hw) (hnx _ _ _ _ _ _ _ _ H hl ⟨hx, hs⟩ hr hQ)
  · cases H
theorem ok_la {q : Nat} (h0 : ∀ st, ez_op i v st = none) (hi : ∀ ls st p, ls.getD q none = some (.ref p) → ez_ld i ls st = some (.ref p :: st)) (hi' : ∀ ls st p, ls.getD q none = some (.retAddr p) → ez_ld i ls st = some (.retAddr p :: st)) : ev_OK (pc, i, a, b, k, v) (eh_la q) := fun X E ml hn mi d cs sc nx to cal hsc hnx hto hcal ls st S r ls' st' h Q H hl hs hr hQ => by
  have hq := ev_gl_nth q hl
  unfold eh_la ev_ldA at H
  split at H
  · rename_i e
    rw [e] at hq
    obtain ⟨w, hw, hx⟩ := hq
    have e : w = .ref _ := hx
    subst e
    exact gw_ld (h0 _) (hi _ _ _ hw) (hnx _ _ _ _ _ _ _ _ H hl ⟨hx, hs⟩ hr hQ)
  · rename_i e
    rw [e] at hq
    obtain ⟨w, hw, hx⟩ := hq
    have e : w = .retAddr _ := hx
    subst e
    exact gw_ld (h0 _) (hi' _ _ _ hw) (hnx _ _ _ _ _ _ _ _ H hl ⟨hx, hs⟩ hr hQ)
  · cases H
theorem ok_si {q : Nat} (h0 : ∀ st, ez_op i v st = none) (h1 : ∀ ls st, ez_ld i ls st = none) (hi : ∀ ls x r, ez_st i v ls (.int x :: r) = some ((ez_cut ls q).set q (some (.int x)), r)) : ev_OK (pc, i, a, b, k, v) (eh_si q) := fun X E ml hn mi d cs sc nx to cal hsc hnx hto hcal ls st S r ls' st' h Q H hl hs hr hQ => by
  unfold eh_si ev_stI at H
  split at H
  · obtain ⟨w, r', rfl, hx, hs1⟩ := ev_gs_cons hs
    obtain ⟨y, rfl, -⟩ := id hx
    obtain ⟨l, H, h2⟩ := ev_ss_ok H hl hx
    exact gw_st (h0 _) (h1 _ _) (hi _ _ _) (hnx _ _ _ _ _ _ _ _ H h2 hs1 hr hQ)
  · obtain ⟨w, r', rfl, hx, hs1⟩ := ev_gs_cons hs
    obtain ⟨y, rfl, -⟩ := id hx
    obtain ⟨l, H, h2⟩ := ev_ss_ok H hl hx
    exact gw_st (h0 _) (h1 _ _) (hi _ _ _) (hnx _ _ _ _ _ _ _ _ H h2 hs1 hr hQ)
  · cases H
theorem ok_sl {q : Nat} (h0 : ∀ st, ez_op i v st = none) (h1 : ∀ ls st, ez_ld i ls st = none) (hi : ∀ ls x r, ez_st i v ls (.long x :: r) = some (((ez_cut ls q).set q (some (.long x))).set (q + 1) none, r)) : ev_OK (pc, i, a, b, k, v) (eh_sl q) := fun X E ml hn mi d cs sc nx to cal hsc hnx hto hcal ls st S r ls' st' h Q H hl hs hr hQ => by
  unfold eh_sl ev_stL at H
  split at H
  · obtain ⟨w, r', rfl, hx, hs1⟩ := ev_gs_cons hs
    obtain ⟨y, rfl, -⟩ := id hx
    obtain ⟨l, H, h2⟩ := ev_ss_ok H hl hx
    rw [ev_lset_eq] at H
    exact gw_st (h0 _) (h1 _ _) (hi _ _ _) (hnx _ _ _ _ _ _ _ _ H (ev_gl_set (q + 1) h2 trivial) hs1 hr hQ)
  · cases H
theorem ok_sa {q : Nat} (h0 : ∀ st, ez_op i v st = none) (h1 : ∀ ls st, ez_ld i ls st = none) (hi : ∀ ls x r, ez_st i v ls (.ref x :: r) = some ((ez_cut ls q).set q (some (.ref x)), r)) (hi' : ∀ ls x r, ez_st i v ls (.retAddr x :: r) = some ((ez_cut ls q).set q (some (.retAddr x)), r)) : ev_OK (pc, i, a, b, k, v) (eh_sa q) := fun X E ml hn mi d cs sc nx to cal hsc hnx hto hcal ls st S r ls' st' h Q H hl hs hr hQ => by
  unfold eh_sa ev_stA at H
  split at H
  · obtain ⟨w, r', rfl, hx, hs1⟩ := ev_gs_cons hs
    have e : w = .ref _ := hx
    subst e
    obtain ⟨l, H, h2⟩ := ev_ss_ok H hl hx
    exact gw_st (h0 _) (h1 _ _) (hi _ _ _) (hnx _ _ _ _ _ _ _ _ H h2 hs1 hr hQ)
  · obtain ⟨w, r', rfl, hx, hs1⟩ := ev_gs_cons hs
    have e : w = .retAddr _ := hx
    subst e
    obtain ⟨l, H, h2⟩ := ev_ss_ok H hl hx
    exact gw_st (h0 _) (h1 _ _) (hi' _ _ _) (hnx _ _ _ _ _ _ _ _ H h2 hs1 hr hQ)
  · cases H
theorem ok_inc {q : Nat} {z : Int} : ev_OK (pc, .iinc q z, a, b, k, v) (eh_inc q (ev_u v)) := fun X E ml hn mi d cs sc nx to cal hsc hnx hto hcal ls st S r ls' st' h Q H hl hs hr hQ => by
  have hq := ev_gl_nth q hl
  unfold eh_inc at H
  have hi : ∀ x, ls'.getD q none = some (.int x) → ez_st (.iinc q z) v ls' st' = some ((ez_cut ls' q).set q (some (.int (x + v))), st') := fun x e => by
    unfold ez_st; simp only [e]
  split at H
  · rename_i e
    rw [e] at hq
    obtain ⟨w, hw, hx⟩ := hq
    obtain ⟨y, rfl, rfl⟩ := id hx
    rw [ev_f_eq, ← ef_add_ok] at H
    obtain ⟨l, H, h2⟩ := ev_ss_ok (v := .int (y + v)) H hl ⟨_, rfl, rfl⟩
    exact gw_st rfl rfl (hi _ hw) (hnx _ _ _ _ _ _ _ _ H h2 hs hr hQ)
  · rename_i e
    rw [e] at hq
    obtain ⟨w, hw, hx⟩ := hq
    obtain ⟨y, rfl, -⟩ := id hx
    obtain ⟨l, H, h2⟩ := ev_ss_ok (v := .int (y + v)) H hl (ev_top_v _)
    exact gw_st rfl rfl (hi _ hw) (hnx _ _ _ _ _ _ _ _ H h2 hs hr hQ)
  · cases H
/-! branches -/
theorem ev_lt_ok {x y : ev_X} {t f : ev_R} {r : (Option ev_X ⊕ Nat) × ev_S} {p q : Int32} (H : ev_lt x y t f = some r) (hp : ev_lo x ≤ ev_e (ev_u p) ∧ ev_e (ev_u p) ≤ ev_hi x) (hq : ev_lo y ≤ ev_e (ev_u q) ∧ ev_e (ev_u q) ≤ ev_hi y) : (p < q ∧ t = some r) ∨ (q ≤ p ∧ f = some r) := by
  unfold ev_lt at H
  cases h1 : Nat.blt (ev_hi x) (ev_lo y) with
  | true =>
    rw [h1] at H
    have := Nat.blt_eq.mp h1
    exact .inl ⟨(ev_lt_iff _ _).mpr (by omega), H⟩
  | false =>
    rw [h1] at H
    obtain ⟨h2, H⟩ := ev_cond H
    have := Nat.ble_eq.mp h2
    exact .inr ⟨(ev_le_iff _ _).mpr (by omega), H⟩
theorem ev_eq_ok {x y : ev_X} {t f : ev_R} {r : (Option ev_X ⊕ Nat) × ev_S} {p q : Int32} (H : ev_eq x y t f = some r) (hp : ev_lo x ≤ ev_e (ev_u p) ∧ ev_e (ev_u p) ≤ ev_hi x) (hq : ev_lo y ≤ ev_e (ev_u q) ∧ ev_e (ev_u q) ≤ ev_hi y) : (p = q ∧ t = some r) ∨ (p ≠ q ∧ f = some r) := by
  unfold ev_eq at H
  cases h1 : Nat.blt (ev_hi x) (ev_lo y) with
  | true =>
    rw [h1] at H
    have := Nat.blt_eq.mp h1
    exact .inr ⟨fun e => by have := (ev_eq_iff _ _).mp e; omega, H⟩
  | false =>
    rw [h1] at H
    cases h2 : Nat.blt (ev_hi y) (ev_lo x) with
    | true =>
      rw [h2] at H
      have := Nat.blt_eq.mp h2
      exact .inr ⟨fun e => by have := (ev_eq_iff _ _).mp e; omega, H⟩
    | false =>
      rw [h2] at H
      obtain ⟨h3, H⟩ := ev_cond H
      obtain ⟨h3, h4⟩ := ev_and h3
      have := Nat.ble_eq.mp h3
      have := Nat.ble_eq.mp h4
      exact .inl ⟨(ev_eq_iff _ _).mpr (by omega), H⟩
theorem ev_nlt {p q : Int32} (h : q ≤ p) : ¬ p < q := fun h' => by
  have := (ev_lt_iff _ _).mp h'
  have := (ev_le_iff _ _).mp h
  omega
theorem ev_nle {p q : Int32} (h : q < p) : ¬ p ≤ q := fun h' => by
  have := (ev_le_iff _ _).mp h'
  have := (ev_lt_iff _ _).mp h
  omega
/-- what is asked of two ints -/
def ev_ask (o : ClassFile.Cond) (x y : Int32) : Prop := match o with
  | .eq => x = y
  | .ne => x ≠ y
  | .lt => x < y
  | .ge => y ≤ x
  | .gt => y < x
  | .le => x ≤ y
theorem ev_cmp_ok {o : ClassFile.Cond} {x y : ev_X} {t f : ev_R} {r : (Option ev_X ⊕ Nat) × ev_S} {p q : Int32} (H : ev_cmp o x y t f = some r) (hp : ev_lo x ≤ ev_e (ev_u p) ∧ ev_e (ev_u p) ≤ ev_hi x) (hq : ev_lo y ≤ ev_e (ev_u q) ∧ ev_e (ev_u q) ≤ ev_hi y) : (ev_ask o p q ∧ t = some r) ∨ (¬ ev_ask o p q ∧ f = some r) := by
  cases o with
  | eq => exact ev_eq_ok H hp hq
  | ne => rcases ev_eq_ok H hp hq with ⟨h1, h2⟩ | ⟨h1, h2⟩
          · exact .inr ⟨fun h => h h1, h2⟩
          · exact .inl ⟨h1, h2⟩
  | lt => rcases ev_lt_ok H hp hq with ⟨h1, h2⟩ | ⟨h1, h2⟩
          · exact .inl ⟨h1, h2⟩
          · exact .inr ⟨ev_nlt h1, h2⟩
  | ge => rcases ev_lt_ok H hp hq with ⟨h1, h2⟩ | ⟨h1, h2⟩
          · exact .inr ⟨ev_nle h1, h2⟩
          · exact .inl ⟨h1, h2⟩
  | gt => rcases ev_lt_ok H hq hp with ⟨h1, h2⟩ | ⟨h1, h2⟩
          · exact .inl ⟨h1, h2⟩
          · exact .inr ⟨ev_nlt h1, h2⟩
  | le => rcases ev_lt_ok H hq hp with ⟨h1, h2⟩ | ⟨h1, h2⟩
          · exact .inr ⟨ev_nle h1, h2⟩
          · exact .inl ⟨h1, h2⟩
theorem ok_b1 {o : ClassFile.Cond} {z : Int} : ev_OK (pc, .ifCond o z, a, b, k, v) (eh_b1 o a) := fun X E ml hn mi d cs sc nx to cal hsc hnx hto hcal ls st S r ls' st' h Q H hl hs hr hQ => by
  unfold eh_b1 at H
  split at H
  · obtain ⟨w, r', rfl, hx, hs1⟩ := ev_gs_cons hs
    obtain ⟨H, x, rfl, hx1⟩ := ev_isI_ok H hx
    have e : ez_br (.ifCond o z) (.int x :: r') = some (ev_ask o x 0, r') := by
      unfold ez_br ev_ask; cases o <;> rfl
    rcases ev_cmp_ok (q := 0) H hx1 ⟨Nat.le_refl _, Nat.le_refl _⟩ with ⟨h1, H⟩ | ⟨h1, H⟩
    · exact gw_br rfl rfl rfl e (fun _ => hto _ _ _ _ _ _ _ _ _ H hl hs1 hr hQ) (fun c => absurd h1 c)
    · exact gw_br rfl rfl rfl e (fun c => absurd c h1) (fun _ => hnx _ _ _ _ _ _ _ _ H hl hs1 hr hQ)
  · cases H
theorem ok_b2 {o : ClassFile.Cond} {z : Int} : ev_OK (pc, .if_icmp o z, a, b, k, v) (eh_b2 o a) := fun X E ml hn mi d cs sc nx to cal hsc hnx hto hcal ls st S r ls' st' h Q H hl hs hr hQ => by
  unfold eh_b2 at H
  split at H
  · obtain ⟨w, r', rfl, hy, hs1⟩ := ev_gs_cons hs
    obtain ⟨w', r', rfl, hx, hs2⟩ := ev_gs_cons hs1
    obtain ⟨H, x, rfl, hx1⟩ := ev_isI_ok H hx
    obtain ⟨H, y, rfl, hy1⟩ := ev_isI_ok H hy
    have e : ez_br (.if_icmp o z) (.int y :: .int x :: r') = some (ev_ask o x y, r') := by
      unfold ez_br ev_ask; cases o <;> rfl
    rcases ev_cmp_ok H hx1 hy1 with ⟨h1, H⟩ | ⟨h1, H⟩
    · exact gw_br rfl rfl rfl e (fun _ => hto _ _ _ _ _ _ _ _ _ H hl hs2 hr hQ) (fun c => absurd h1 c)
    · exact gw_br rfl rfl rfl e (fun c => absurd c h1) (fun _ => hnx _ _ _ _ _ _ _ _ H hl hs2 hr hQ)
  · cases H
theorem ok_go {z : Int} : ev_OK (pc, .goto z, a, b, k, v) (eh_go a) := fun X E ml hn mi d cs sc nx to cal hsc hnx hto hcal ls st S r ls' st' h Q H hl hs hr hQ =>
  gw_jp rfl rfl rfl rfl rfl rfl rfl (hto _ _ _ _ _ _ _ _ _ H hl hs hr hQ)
theorem ev_sw_ok {df : Int} {x : ev_X} {K : Nat → ev_R} {r : (Option ev_X ⊕ Nat) × ev_S} {p : Int32} {K' : Nat → Prop} (hp : ev_lo x ≤ ev_e (ev_u p) ∧ ev_e (ev_u p) ≤ ev_hi x) (hK : ∀ t, K t = some r → K' t) : ∀ l : List (Int × Int), ev_sw ((pc : Int) + df).toNat x K (l.map (fun q => (ev_u (Int32.ofInt q.1), ((pc : Int) + q.2).toNat))) = some r → ez_sw pc df p K' l := by
  intro l
  induction l with
  | nil => intro H; exact hK _ H
  | cons q l ih =>
    intro H
    obtain ⟨q1, q2⟩ := q
    have H : ev_eq x (.num (ev_u (Int32.ofInt q1))) (K ((pc : Int) + q2).toNat) (ev_sw ((pc : Int) + df).toNat x K (l.map (fun q => (ev_u (Int32.ofInt q.1), ((pc : Int) + q.2).toNat)))) = some r := H
    rcases ev_eq_ok (q := Int32.ofInt q1) H hp ⟨Nat.le_refl _, Nat.le_refl _⟩ with ⟨h1, H⟩ | ⟨h1, H⟩
    · exact ⟨fun _ => hK _ H, fun c => absurd h1 c⟩
    · exact ⟨fun c => absurd c h1, fun _ => ih H⟩
theorem ok_sw {df : Int} {l : List (Int × Int)} (h0 : ∀ st, ez_op i v st = none) (h1 : ∀ ls st, ez_ld i ls st = none) (h2 : ∀ ls st, ez_st i v ls st = none) (h3 : ∀ st, ez_br i st = none) (h4 : ∀ E ls st h, ez_sm E i a b k ls st h = none) (h5 : ∀ st, ez_rt i a st = none) (h6 : ∀ x r, ez_jp i pc a (.int x :: r) = (some (fun K => ez_sw pc df x K l), r)) : ev_OK (pc, i, a, b, k, v) (eh_sw ((pc : Int) + df).toNat (l.map (fun q => (ev_u (Int32.ofInt q.1), ((pc : Int) + q.2).toNat)))) := fun X E ml hn mi d cs sc nx to cal hsc hnx hto hcal ls st S r ls' st' h Q H hl hs hr hQ => by
  unfold eh_sw at H
  split at H
  · obtain ⟨w, r', rfl, hx, hs1⟩ := ev_gs_cons hs
    obtain ⟨H, x, rfl, hx1⟩ := ev_isI_ok H hx
    exact gw_jp (h0 _) (h1 _ _) (h2 _ _) (h3 _) (h4 _ _ _ _) (h5 _) (h6 _ _) (ev_sw_ok hx1 (fun t H => hto t _ _ _ _ _ _ _ _ H hl hs1 hr hQ) l H)
  · cases H
end OKS
