/-! THE PURE HEAP AND THE HEAP. cl: the classes, by tag - 1; ty: a field's type by tag and place; nf: how many fields; dA: the array classes by tag; B: an own cell stands B beyond its number -/
def ez_fv (B : Nat) (ty : FieldType) (h : ez_H) (p k : Nat) : Value := match ty with
  | .long => .long (ez_L h p k)
  | .object _ => if ez_R h p k = 0 then .null else .ref (B + ez_R h p k)
  | .array _ => if ez_R h p k = 0 then .null else .ref (B + ez_R h p k)
  | _ => .int (ez_I h p k)
def ez_ce (nf : Nat → Nat) (ty : Nat → Nat → FieldType) (dA : Nat → ClassId) (B : Nat) (h : ez_H) (p : Nat) : va_E :=
  if ez_t h p = 1000 then .inl (dA 1000, ez_l h p, .inl (ez_I h p))
  else if ez_t h p = 1002 then .inl (dA 1002, ez_l h p, .inr (.inl (ez_L h p)))
  else if ez_t h p = 1003 then .inl (dA 1003, ez_l h p, .inl (ez_I h p))
  else .inr (ez_t h p - 1, (List.range (nf (ez_t h p))).map (fun k => ez_fv B (ty (ez_t h p) k) h p k))
theorem ez_ce_same {nf : Nat → Nat} {ty : Nat → Nat → FieldType} {dA : Nat → ClassId} {B : Nat} {h h' : ez_H} {r : Nat} (ht : ez_t h' r = ez_t h r) (hl : ez_l h' r = ez_l h r) (hI : ez_I h' r = ez_I h r) (hL : ez_L h' r = ez_L h r) (hR : ez_R h' r = ez_R h r) : ez_ce nf ty dA B h' r = ez_ce nf ty dA B h r := by
  unfold ez_ce ez_fv
  rw [ht, hl, hI, hL, hR]
def ez_A (B : Nat) : Nat → Prop := fun q => B < q
def ez_Rel (D : va_G) (cl : List vw_C) (nf : Nat → Nat) (ty : Nat → Nat → FieldType) (dA : Nat → ClassId) (B : Nat) (h : ez_H) (H : Heap) : Prop :=
  H.size = B + 1 + ez_n h ∧ ∃ L : List Nat, (∀ p, ez_t h p ≠ 0 → B + p ∈ L) ∧ va_P D cl ([] ++ va_pl L (fun a => ez_ce nf ty dA B h (a - B))) H ∧ va_D (ez_A B) ([] ++ va_pl L (fun a => ez_ce nf ty dA B h (a - B)))
section EZ3
variable {D : va_G} {cl : List vw_C} {nf : Nat → Nat} {ty : Nat → Nat → FieldType} {dA : Nat → ClassId} {B : Nat} {h h' : ez_H} {H : Heap}
theorem ez_Rel.pos (hR : ez_Rel D cl nf ty dA B h H) {p : Nat} (hp : ez_t h p ≠ 0) : 0 < p := by
  obtain ⟨-, L, hL, hP, hD⟩ := hR
  obtain ⟨k, hk⟩ := va_pl_get (X := []) (f := fun a => ez_ce nf ty dA B h (a - B)) (hL p hp)
  have : B < B + p := hD.2 k _ hk
  omega
theorem ez_Rel.lt (hR : ez_Rel D cl nf ty dA B h H) {p : Nat} (hp : ez_t h p ≠ 0) : p ≤ ez_n h := by
  obtain ⟨hs, L, hL, hP, hD⟩ := hR
  have := va_pl_lt (X := []) hP (hL p hp)
  omega
/-- the cell of a number, by its place in the world -/
theorem ez_Rel.get (hR : ez_Rel D cl nf ty dA B h H) {p : Nat} (hp : ez_t h p ≠ 0) : ∃ (ws : va_W) (q : Nat), va_P D cl ws H ∧ va_D (ez_A B) ws ∧ ws[q]? = some (B + p, ez_ce nf ty dA B h p) ∧
    ∀ (e : va_E) (h' : ez_H) (H1 : Heap), H1.size = H.size → ez_n h' = ez_n h → (∀ r, ez_t h' r = ez_t h r) → (∀ r, r ≠ p → ez_ce nf ty dA B h' r = ez_ce nf ty dA B h r) → ez_ce nf ty dA B h' p = e → va_P D cl (ws.set q (B + p, e)) H1 → va_D (ez_A B) (ws.set q (B + p, e)) → ez_Rel D cl nf ty dA B h' H1 := by
  have hpos := hR.pos hp
  obtain ⟨hs, L, hL, hP, hD⟩ := hR
  obtain ⟨k, hk⟩ := va_pl_get (X := []) (f := fun a => ez_ce nf ty dA B h (a - B)) (hL p hp)
  refine ⟨_, k, hP, hD, ?_, ?_⟩
  · rw [hk]
    simp only [Nat.add_sub_cancel_left]
  · intro e h' H1 hz hn ht ho he hP1 hD1
    have e1 := va_pl_set (X := []) (f := fun a => ez_ce nf ty dA B h (a - B)) (e := e) hD (hL p hp) hk
    have e2 : va_pl L (va_up (fun a => ez_ce nf ty dA B h (a - B)) (B + p) e) = va_pl L (fun a => ez_ce nf ty dA B h' (a - B)) := by
      apply List.map_congr_left
      intro a ha
      have hBa : B < a := by
        obtain ⟨k2, hk2⟩ := va_pl_get (X := []) (f := fun a => ez_ce nf ty dA B h (a - B)) ha
        exact hD.2 k2 _ hk2
      by_cases hq : a = B + p
      · subst hq
        rw [va_up_self]
        simp only [Nat.add_sub_cancel_left]
        rw [he]
      · rw [va_up_ne _ _ hq]
        simp only
        rw [ho (a - B) (by omega)]
    refine ⟨by rw [hz, hs, hn], L, fun r hr => hL r (by rw [← ht r]; exact hr), ?_, ?_⟩
    · rw [← e2, ← e1]; exact hP1
    · rw [← e2, ← e1]; exact hD1
/-- the same for all numbers at once -/
theorem ez_Rel.all (hR : ez_Rel D cl nf ty dA B h H) : ∃ ws : va_W, va_P D cl ws H ∧ va_D (ez_A B) ws ∧ (∀ r : Nat, ez_t h r ≠ 0 → ∃ j : Nat, ws[j]? = some (B + r, ez_ce nf ty dA B h r)) ∧
    ∀ (p q : Nat), ez_t h p ≠ 0 → ws[q]? = some (B + p, ez_ce nf ty dA B h p) → ∀ (e : va_E) (h' : ez_H) (H1 : Heap), H1.size = H.size → ez_n h' = ez_n h → (∀ r, ez_t h' r = ez_t h r) → (∀ r, r ≠ p → ez_ce nf ty dA B h' r = ez_ce nf ty dA B h r) → ez_ce nf ty dA B h' p = e → va_P D cl (ws.set q (B + p, e)) H1 → va_D (ez_A B) (ws.set q (B + p, e)) → ez_Rel D cl nf ty dA B h' H1 := by
  obtain ⟨hs, L, hL, hP, hD⟩ := hR
  refine ⟨_, hP, hD, ?_, ?_⟩
  · intro r hr
    obtain ⟨k, hk⟩ := va_pl_get (X := []) (f := fun a => ez_ce nf ty dA B h (a - B)) (hL r hr)
    refine ⟨k, ?_⟩
    rw [hk]
    simp only [Nat.add_sub_cancel_left]
  · intro p k hp hk e h' H1 hz hn ht ho he hP1 hD1
    have hk' : ([] ++ va_pl L (fun a => ez_ce nf ty dA B h (a - B)))[k]? = some (B + p, (fun a => ez_ce nf ty dA B h (a - B)) (B + p)) := by
      rw [hk]
      simp only [Nat.add_sub_cancel_left]
    have e1 := va_pl_set (X := []) (f := fun a => ez_ce nf ty dA B h (a - B)) (e := e) hD (hL p hp) hk'
    have e2 : va_pl L (va_up (fun a => ez_ce nf ty dA B h (a - B)) (B + p) e) = va_pl L (fun a => ez_ce nf ty dA B h' (a - B)) := by
      apply List.map_congr_left
      intro a ha
      have hBa : B < a := by
        obtain ⟨k2, hk2⟩ := va_pl_get (X := []) (f := fun a => ez_ce nf ty dA B h (a - B)) ha
        exact hD.2 k2 _ hk2
      by_cases hq : a = B + p
      · subst hq
        rw [va_up_self]
        simp only [Nat.add_sub_cancel_left]
        rw [he]
      · rw [va_up_ne _ _ hq]
        simp only
        rw [ho (a - B) (by omega)]
    refine ⟨by rw [hz, hs, hn], L, fun r hr => hL r (by rw [← ht r]; exact hr), ?_, ?_⟩
    · rw [← e2, ← e1]; exact hP1
    · rw [← e2, ← e1]; exact hD1
/-- a new cell: behind the last -/
theorem ez_Rel.push (hR : ez_Rel D cl nf ty dA B h H) {H1 : Heap} {tag len slots : Nat} (hz : H1.size = H.size + 1) (ho : ∀ q : Nat, q < H.size → H1[q]? = H[q]?) (he : va_at D cl (H.size, ez_ce nf ty dA B (ez_new h tag len slots) (ez_n h + 1)) H1) : ez_Rel D cl nf ty dA B (ez_new h tag len slots) H1 := by
  obtain ⟨hs, L, hL, hP, hD⟩ := hR
  have hfresh : H.size ∉ L := va_pl_fresh (X := []) hP (Nat.le_refl _)
  have hk : ∀ (k : Nat) (x : Nat × va_E), ([] ++ va_pl L (fun a => ez_ce nf ty dA B h (a - B)))[k]? = some x → H1[x.1]? = H[x.1]? := fun k x hx => ho x.1 ((hP k x hx).lt)
  have hP1 : va_P D cl (([] ++ va_pl L (fun a => ez_ce nf ty dA B h (a - B))) ++ [(H.size, ez_ce nf ty dA B (ez_new h tag len slots) (ez_n h + 1))]) H1 := (hP.kept hk).app (fun k x hx => by
    have hz : k < 1 := (List.getElem?_eq_some_iff.mp hx).1
    rw [show k = 0 by omega] at hx
    cases hx
    exact he)
  have hD1 : va_D (ez_A B) (([] ++ va_pl L (fun a => ez_ce nf ty dA B h (a - B))) ++ [(H.size, ez_ce nf ty dA B (ez_new h tag len slots) (ez_n h + 1))]) := hD.push hP rfl (show B < H.size by omega)
  have e1 : ([] ++ va_pl L (fun a => ez_ce nf ty dA B h (a - B))) ++ [(H.size, ez_ce nf ty dA B (ez_new h tag len slots) (ez_n h + 1))] = [] ++ va_pl (L ++ [H.size]) (fun a => ez_ce nf ty dA B (ez_new h tag len slots) (a - B)) := by
    show va_pl L (fun a => ez_ce nf ty dA B h (a - B)) ++ [(H.size, _)] = va_pl (L ++ [H.size]) _
    rw [va_pl_push hfresh]
    apply List.map_congr_left
    intro a ha
    by_cases hq : a = H.size
    · subst hq
      rw [va_up_self]
      simp only [hs, show B + 1 + ez_n h - B = ez_n h + 1 by omega]
    · rw [va_up_ne _ _ hq]
      simp only
      have hne : a - B ≠ ez_n h + 1 := by
        rcases List.mem_append.mp ha with z | z
        · have h1 := va_pl_lt (X := []) hP z
          obtain ⟨k2, hk2⟩ := va_pl_get (X := []) (f := fun a => ez_ce nf ty dA B h (a - B)) z
          have h2 : B < a := hD.2 k2 _ hk2
          omega
        · exact absurd (List.mem_singleton.mp z) hq
      refine congrArg (Prod.mk a) (ez_ce_same (h := h) (h' := ez_new h tag len slots) ?_ ?_ ?_ ?_ ?_).symm
      · show ez_up (ez_t h) (ez_n h + 1) tag (a - B) = _
        simp [ez_up, hne]
      · show ez_up (ez_l h) (ez_n h + 1) len (a - B) = _
        simp [ez_up, hne]
      · show ez_row (ez_I h) (ez_n h + 1) _ (a - B) = _
        simp [ez_row, hne]
      · show ez_row (ez_L h) (ez_n h + 1) _ (a - B) = _
        simp [ez_row, hne]
      · show ez_row (ez_R h) (ez_n h + 1) _ (a - B) = _
        simp [ez_row, hne]
  rw [e1] at hP1 hD1
  refine ⟨by rw [hz, hs]; rfl, _, fun r hr => ?_, hP1, hD1⟩
  by_cases hq : r = ez_n h + 1
  · subst hq
    exact List.mem_append_right _ (List.mem_singleton.mpr (by omega))
  · refine List.mem_append_left _ (hL r ?_)
    have : ez_t (ez_new h tag len slots) r = ez_t h r := by
      show ez_up (ez_t h) (ez_n h + 1) tag r = _
      simp [ez_up, hq]
    rw [← this]
    exact hr
end EZ3
