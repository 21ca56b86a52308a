def ez_Mono (X : ez_X) : Prop := ∀ (d mi pc : Nat) (ls : List (Option Value)) (st : List Value) (h : ez_H) (Q Q' : ez_Q), (∀ o h', Q o h' → Q' o h') → X d mi pc ls st h Q → X d mi pc ls st h Q'
theorem ez_sw_mono {pc : Nat} {df : Int} {x : Int32} {K K' : Nat → Prop} (hK : ∀ t, K t → K' t) : ∀ l : List (Int × Int), ez_sw pc df x K l → ez_sw pc df x K' l
  | [], H => hK _ H
  | (_, _) :: r, H => ⟨fun q => hK _ (H.1 q), fun q => ez_sw_mono hK r (H.2 q)⟩
theorem ez_jp_mono {i : ClassFile.Instr} {pc a : Nat} {st st' : List Value} {J : (Nat → Prop) → Prop} (hJ : ez_jp i pc a st = (some J, st')) {K K' : Nat → Prop} (hK : ∀ t, K t → K' t) (H : J K) : J K' := by
  unfold ez_jp at hJ
  split at hJ
  · cases hJ; exact hK _ H
  · split at hJ
    · cases hJ; exact ez_sw_mono hK _ H
    · cases hJ
  · split at hJ
    · cases hJ; exact ez_sw_mono hK _ H
    · cases hJ
  · cases hJ
set_option maxHeartbeats 1000000 in
theorem ez_gw_mono {X Y : ez_X} (hXY : ∀ (d mi pc : Nat) (ls : List (Option Value)) (st : List Value) (h : ez_H) (Q : ez_Q), X d mi pc ls st h Q → Y d mi pc ls st h Q) (hY : ez_Mono Y) {E : Nat → Nat × (Nat → Int32)} {ml : Nat → Nat} {hn : Nat → Nat → Option (Nat × Nat)} {mi d : Nat} :
    ∀ (cs : List ez_C) (sk : Nat) (ls : List (Option Value)) (st : List Value) (h : ez_H) (Q Q' : ez_Q), (∀ o h', Q o h' → Q' o h') → ez_gw X E ml hn mi d cs sk ls st h Q → ez_gw Y E ml hn mi d cs sk ls st h Q' := by
  intro cs
  induction cs with
  | nil => intro sk ls st h Q Q' hQ H; exact H
  | cons e cs ih =>
    obtain ⟨pc, i, a, b, k, v⟩ := e
    intro sk ls st h Q Q' hQ H
    have hj : ∀ t st', (match Nat.blt pc t with
        | true => ez_gw X E ml hn mi d cs (t + 1) ls st' h Q
        | false => X d mi t ls st' h Q) → (match Nat.blt pc t with
        | true => ez_gw Y E ml hn mi d cs (t + 1) ls st' h Q'
        | false => Y d mi t ls st' h Q') := by
      intro t st' q
      cases hb : Nat.blt pc t with
      | true => simp only [hb] at q ⊢; exact ih _ _ _ _ _ _ hQ q
      | false => simp only [hb] at q ⊢; exact hY _ _ _ _ _ _ _ _ hQ (hXY _ _ _ _ _ _ _ q)
    unfold ez_gw at H ⊢
    cases h1 : ez_past sk pc with
    | true => simp only [h1] at H ⊢; exact ih _ _ _ _ _ _ hQ H
    | false =>
      simp only [h1] at H ⊢
      cases h2 : ez_op i v st with
      | some st' => simp only [h2] at H ⊢; exact ih _ _ _ _ _ _ hQ H
      | none =>
        simp only [h2] at H ⊢
        cases h3 : ez_ld i ls st with
        | some st' => simp only [h3] at H ⊢; exact ih _ _ _ _ _ _ hQ H
        | none =>
          simp only [h3] at H ⊢
          cases h4 : ez_st i v ls st with
          | some q => obtain ⟨ls', st'⟩ := q; simp only [h4] at H ⊢; exact ih _ _ _ _ _ _ hQ H
          | none =>
            simp only [h4] at H ⊢
            cases h5 : ez_br i st with
            | some q =>
              obtain ⟨c, st'⟩ := q
              simp only [h5] at H ⊢
              exact ⟨fun q => hj _ _ (H.1 q), fun q => ih _ _ _ _ _ _ hQ (H.2 q)⟩
            | none =>
              simp only [h5] at H ⊢
              cases h6 : ez_sm E i a b k ls st h with
              | some q =>
                obtain ⟨c, st', h'⟩ := q
                simp only [h6] at H ⊢
                exact ⟨H.1, ih _ _ _ _ _ _ hQ H.2⟩
              | none =>
                simp only [h6] at H ⊢
                cases h7 : ez_rt i a st with
                | some q => obtain ⟨c, r⟩ := q; simp only [h7] at H ⊢; exact ⟨H.1, hQ _ _ H.2⟩
                | none =>
                  simp only [h7] at H ⊢
                  cases h8 : ez_jp i pc a st with
                  | mk J st' =>
                    cases J with
                    | some J => simp only [h8] at H ⊢; exact ez_jp_mono h8 (fun t q => hj t st' q) H
                    | none =>
                      simp only [h8] at H ⊢
                      cases h9 : ez_cl i k with
                      | true =>
                        simp only [h9] at H ⊢
                        cases d with
                        | zero => exact H
                        | succ d' =>
                          refine ⟨H.1, hY _ _ _ _ _ _ _ _ ?_ (hXY _ _ _ _ _ _ _ H.2)⟩
                          intro o h' q
                          cases o with
                          | inl r =>
                            cases r with
                            | none => exact ih _ _ _ _ _ _ hQ q
                            | some w => exact ih _ _ _ _ _ _ hQ q
                          | inr x =>
                            cases h10 : hn pc x with
                            | none => simp only [h10] at q ⊢; exact hQ _ _ q
                            | some z =>
                              obtain ⟨t, j⟩ := z
                              simp only [h10] at q ⊢
                              cases t with
                              | zero => exact q
                              | succ t' => exact ih _ _ _ _ _ _ hQ q
                      | false =>
                        simp only [h9] at H ⊢
                        revert H
                        split
                        · split
                          · exact fun H => ⟨H.1, hQ _ _ H.2⟩
                          · exact fun H => H
                        · exact fun H => H
section EZW
variable (E : Nat → Nat × (Nat → Int32)) (ml : Nat → Nat) (hn : Nat → Nat → Nat → Option (Nat × Nat)) (code : Nat → List ez_C)
/-- X holds wherever it must hold by what comes next -/
def ez_Closed (X : ez_X) : Prop := ∀ (d mi pc : Nat) (ls : List (Option Value)) (st : List Value) (h : ez_H) (Q : ez_Q), ez_gw X E ml (hn mi) mi d (code mi) (pc + 1) ls st h Q → X d mi pc ls st h Q
/-- THE LEAST SUCH: the run comes to an end, and Q holds there -/
def ez_Wp : ez_X := fun d mi pc ls st h Q => ∀ X : ez_X, ez_Mono X → ez_Closed E ml hn code X → X d mi pc ls st h Q
theorem ez_Wp_mono : ez_Mono (ez_Wp E ml hn code) := fun d mi pc ls st h Q Q' hQ H X hX hC => hX d mi pc ls st h Q Q' hQ (H X hX hC)
theorem ez_Wp_in {d mi pc : Nat} {ls : List (Option Value)} {st : List Value} {h : ez_H} {Q : ez_Q} (H : ez_gw (ez_Wp E ml hn code) E ml (hn mi) mi d (code mi) (pc + 1) ls st h Q) : ez_Wp E ml hn code d mi pc ls st h Q := fun X hX hC =>
  hC _ _ _ _ _ _ _ (ez_gw_mono (fun _ _ _ _ _ _ _ q => q X hX hC) hX _ _ _ _ _ _ _ (fun _ _ q => q) H)
end EZW
