/-! the cells' shape behind the constructors, as it stands for good -/
def zSh (h : ez_H) : Prop := ∀ p, 1 ≤ p ∧ p ≤ 126 → ez_t h p = ly_T p ∧ ez_l h p = ly_N p ∧ (ly_T p < 1000 → ∀ k, k < 128 → ez_R h p k = ly_R p k)
theorem zSh_set {h h2 : ez_H} {p k : Nat} {v : Int32} (S : zSh h) (e : h2 = ez_setI h p k v) : zSh h2 := by subst e; exact S
theorem zSh_row {h h2 : ez_H} {p : Nat} {g : Nat → Int32} (S : zSh h) (e : h2 = ez_rowI h p g) : zSh h2 := by subst e; exact S
theorem zSh_L {h h2 : ez_H} {p k : Nat} {v : Int64} (S : zSh h) (e : h2 = ez_setL h p k v) : zSh h2 := by subst e; exact S
theorem zT {h : ez_H} (S : zSh h) {p t : Nat} (hp : 1 ≤ p ∧ p ≤ 126) (e : ly_T p = t) : ez_t h p = t := by rw [(S p hp).1]; exact e
theorem zN {h : ez_H} (S : zSh h) {p t : Nat} (hp : 1 ≤ p ∧ p ≤ 126) (e : ly_N p = t) : ez_l h p = t := by rw [(S p hp).2.1]; exact e
theorem zRf {h : ez_H} (S : zSh h) {p k q : Nat} (hp : (1 ≤ p ∧ p ≤ 126) ∧ ly_T p < 1000) (hk : k < 128) (e : ly_R p k = q) : ez_R h p k = q := by rw [(S p hp.1).2.2 hp.2 k hk]; exact e
theorem zI_ne {h h2 : ez_H} {p k q j : Nat} {v : Int32} (e : h2 = ez_setI h p k v) (hn : ¬ (q = p ∧ j = k)) : ez_I h2 q j = ez_I h q j := by subst e; exact ez_I_set_ne hn
theorem zI_eq {h h2 : ez_H} {p k : Nat} {v : Int32} (e : h2 = ez_setI h p k v) : ez_I h2 p k = v := by subst e; exact ez_I_set_eq
theorem zI_row {h h2 : ez_H} {p q j : Nat} {g : Nat → Int32} (e : h2 = ez_rowI h p g) (hn : q ≠ p) : ez_I h2 q j = ez_I h q j := by
  subst e
  show ez_row (ez_I h) p g q j = _
  unfold ez_row
  simp only [hn, ↓reduceIte]
theorem z_gI2 {X : ez_X} {E : Nat → Nat × (Nat → Int32)} {ml : Nat → Nat} {hn : Nat → Nat → Option (Nat × Nat)} {mi d pc a b k f p : Nat} {v x : Int32} {cs : List ez_C} {ls : List (Option Value)} {r : List Value} {h : ez_H} {Q : ez_Q} (hk : k = 0 ∨ k = 1) (ht : ez_t h p = a) (hx : ez_I h p b = x) (H : ez_gw X E ml hn mi d cs 0 ls (.int x :: r) h Q) : ez_gw X E ml hn mi d ((pc, .getfield f, a, b, k, v) :: cs) 0 ls (.ref p :: r) h Q := z_gI hk ht (by rw [hx]; exact H)
/-- a call -/
theorem z_cl {X : ez_X} {E : Nat → Nat × (Nat → Int32)} {ml : Nat → Nat} {hn : Nat → Nat → Option (Nat × Nat)} {mi d pc a b k : Nat} {i : ClassFile.Instr} {v : Int32} {cs : List ez_C} {ls : List (Option Value)} {st st2 : List Value} {h : ez_H} {Q : ez_Q} (h0 : ez_op i v st = none) (h1 : ez_ld i ls st = none) (h2 : ez_st i v ls st = none) (h3 : ez_br i st = none) (h4 : ez_sm E i a b k ls st h = none) (h5 : ez_rt i a st = none) (h6 : ez_jp i pc a st = (none, st2)) (h7 : ez_cl i k = true) (hf : ez_few (st.drop b) = true) (hm : Nat.ble (ez_lay (st.take b).reverse).length (ml a) = true) (hb : Nat.beq (st.take b).reverse.length b = true) (hr : ez_rcv h k (st.take b).reverse) (H : X d a 0 (ez_args (ml a) (st.take b).reverse) [] h (fun o h' => match o with
    | .inl none => ez_gw X E ml hn mi (d + 1) cs 0 ls (st.drop b) h' Q
    | .inl (some w) => ez_gw X E ml hn mi (d + 1) cs 0 ls (w :: st.drop b) h' Q
    | .inr x => match hn pc x with
      | none => Q (.inr x) h'
      | some (t, j) => (match t with
        | 0 => False
        | t' + 1 => ez_gw X E ml hn mi (d + 1) cs (t' + 2) ((ez_cut ls j).set j none) [] h' Q))) : ez_gw X E ml hn mi (d + 1) ((pc, i, a, b, k, v) :: cs) 0 ls st h Q :=
  gw_cl h0 h1 h2 h3 h4 h5 h6 h7 (by unfold ev_Cp; exact ⟨⟨hf, hm, hb, hr⟩, H⟩)

