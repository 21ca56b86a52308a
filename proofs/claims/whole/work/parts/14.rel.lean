/-! THE PURE HEAP AND THE HEAP. cl: the classes, by tag - 1; ty: a field's type by tag and place; nf: how many fields; dA: the array classes by tag; B: an own cell stands B beyond its number -/
def ez_fv (B : Nat) (ty : FieldType) (h : ez_H) (p k : Nat) : Value := match ty with
  | .long => .long (ez_L h p k)
  | .object _ => if ez_R h p k = 0 then .null else .ref (B + ez_R h p k)
  | .array _ => if ez_R h p k = 0 then .null else .ref (B + ez_R h p k)
  | _ => .int (ez_I h p k)
def ez_ce (nf : Nat → Nat) (ty : Nat → Nat → FieldType) (dA : Nat → ClassId) (B : Nat) (h : ez_H) (p : Nat) : va_E :=
  if ez_t h p = 1000 then .inl (dA 1000, ez_l h p, .inl (ez_I h p))
  else if ez_t h p = 1002 then .inl (dA 1002, ez_l h p, .inr (.inl (ez_L h p)))
  else if ez_t h p = 1003 then .inl (dA 1003, ez_l h p, .inl (ez_I h p))
  else .inr (ez_t h p - 1, (List.range (nf (ez_t h p))).map (fun k => ez_fv B (ty (ez_t h p) k) h p k))
def ez_A (B : Nat) : Nat → Prop := fun q => B < q
def ez_Rel (D : va_G) (cl : List vw_C) (nf : Nat → Nat) (ty : Nat → Nat → FieldType) (dA : Nat → ClassId) (B : Nat) (h : ez_H) (H : Heap) : Prop :=
  H.size = B + 1 + ez_n h ∧ ∃ L : List Nat, (∀ p, ez_t h p ≠ 0 → B + p ∈ L) ∧ va_P D cl ([] ++ va_pl L (fun a => ez_ce nf ty dA B h (a - B))) H ∧ va_D (ez_A B) ([] ++ va_pl L (fun a => ez_ce nf ty dA B h (a - B)))
section EZ3
variable {D : va_G} {cl : List vw_C} {nf : Nat → Nat} {ty : Nat → Nat → FieldType} {dA : Nat → ClassId} {B : Nat} {h h' : ez_H} {H : Heap}
theorem ez_Rel.pos (hR : ez_Rel D cl nf ty dA B h H) {p : Nat} (hp : ez_t h p ≠ 0) : 0 < p := by
  obtain ⟨-, L, hL, hP, hD⟩ := hR
  obtain ⟨k, hk⟩ := va_pl_get (X := []) (f := fun a => ez_ce nf ty dA B h (a - B)) (hL p hp)
  have : B < B + p := hD.2 k _ hk
  omega
theorem ez_Rel.lt (hR : ez_Rel D cl nf ty dA B h H) {p : Nat} (hp : ez_t h p ≠ 0) : p ≤ ez_n h := by
  obtain ⟨hs, L, hL, hP, hD⟩ := hR
  have := va_pl_lt (X := []) hP (hL p hp)
  omega
/-- the cell of a number, by its place in the world -/
theorem ez_Rel.get (hR : ez_Rel D cl nf ty dA B h H) {p : Nat} (hp : ez_t h p ≠ 0) : ∃ (ws : va_W) (q : Nat), va_P D cl ws H ∧ va_D (ez_A B) ws ∧ ws[q]? = some (B + p, ez_ce nf ty dA B h p) ∧
    ∀ (e : va_E) (h' : ez_H) (H1 : Heap), H1.size = H.size → ez_n h' = ez_n h → (∀ r, ez_t h' r = ez_t h r) → (∀ r, r ≠ p → ez_ce nf ty dA B h' r = ez_ce nf ty dA B h r) → ez_ce nf ty dA B h' p = e → va_P D cl (ws.set q (B + p, e)) H1 → va_D (ez_A B) (ws.set q (B + p, e)) → ez_Rel D cl nf ty dA B h' H1 := by
  have hpos := hR.pos hp
  obtain ⟨hs, L, hL, hP, hD⟩ := hR
  obtain ⟨k, hk⟩ := va_pl_get (X := []) (f := fun a => ez_ce nf ty dA B h (a - B)) (hL p hp)
  refine ⟨_, k, hP, hD, ?_, ?_⟩
  · rw [hk]
    simp only [Nat.add_sub_cancel_left]
  · intro e h' H1 hz hn ht ho he hP1 hD1
    have e1 := va_pl_set (X := []) (f := fun a => ez_ce nf ty dA B h (a - B)) (e := e) hD (hL p hp) hk
    have e2 : va_pl L (va_up (fun a => ez_ce nf ty dA B h (a - B)) (B + p) e) = va_pl L (fun a => ez_ce nf ty dA B h' (a - B)) := by
      apply List.map_congr_left
      intro a ha
      have hBa : B < a := by
        obtain ⟨k2, hk2⟩ := va_pl_get (X := []) (f := fun a => ez_ce nf ty dA B h (a - B)) ha
        exact hD.2 k2 _ hk2
      by_cases hq : a = B + p
      · subst hq
        rw [va_up_self]
        simp only [Nat.add_sub_cancel_left]
        rw [he]
      · rw [va_up_ne _ _ hq]
        simp only
        rw [ho (a - B) (by omega)]
    refine ⟨by rw [hz, hs, hn], L, fun r hr => hL r (by rw [← ht r]; exact hr), ?_, ?_⟩
    · rw [← e2, ← e1]; exact hP1
    · rw [← e2, ← e1]; exact hD1
end EZ3
