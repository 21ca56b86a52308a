/-! READING AND WRITING THE HEAP -/
abbrev ez_tys (dA : Nat → ClassId) : List (ClassId × FieldType) := [(dA 1000, .int), (dA 1002, .long), (dA 1003, .byte)]
/-- a class by its tag: its row in cl, its fields' words, types and names -/
def ez_Cls (tbl : List Cond) (cl : List vw_C) (nf : Nat → Nat) (ty : Nat → Nat → FieldType) (a : Nat) (C : String) (T : u_T) : Prop :=
  0 < a ∧ a < 1000 ∧ cl[a - 1]? = some (C, T, nf a) ∧ (∀ w ∈ u_ws C T (nf a), w ∈ tbl) ∧ (∀ k, k < nf a → parseFieldDescriptor (T k).2.2.1 = some (ty a k)) ∧ (∀ x, x < nf a → ∀ y, y < nf a → x ≠ y → (T x).2.1 ≠ (T y).2.1)
theorem ez_ce_obj {nf : Nat → Nat} {ty : Nat → Nat → FieldType} {dA : Nat → ClassId} {B : Nat} {h : ez_H} {p a : Nat} (hp : ez_t h p = a) (ha : a < 1000) : ez_ce nf ty dA B h p = .inr (a - 1, (List.range (nf a)).map (fun k => ez_fv B (ty a k) h p k)) := by
  unfold ez_ce
  rw [hp, if_neg (by omega), if_neg (by omega), if_neg (by omega)]
theorem ez_ce_i {nf : Nat → Nat} {ty : Nat → Nat → FieldType} {dA : Nat → ClassId} {B : Nat} {h : ez_H} {p : Nat} (hp : ez_t h p = 1000) : ez_ce nf ty dA B h p = .inl (dA 1000, ez_l h p, .inl (ez_I h p)) := by
  unfold ez_ce
  rw [if_pos hp]
theorem ez_ce_l {nf : Nat → Nat} {ty : Nat → Nat → FieldType} {dA : Nat → ClassId} {B : Nat} {h : ez_H} {p : Nat} (hp : ez_t h p = 1002) : ez_ce nf ty dA B h p = .inl (dA 1002, ez_l h p, .inr (.inl (ez_L h p))) := by
  unfold ez_ce
  rw [hp, if_neg (by omega), if_pos rfl]
theorem ez_ce_b {nf : Nat → Nat} {ty : Nat → Nat → FieldType} {dA : Nat → ClassId} {B : Nat} {h : ez_H} {p : Nat} (hp : ez_t h p = 1003) : ez_ce nf ty dA B h p = .inl (dA 1003, ez_l h p, .inl (ez_I h p)) := by
  unfold ez_ce
  rw [hp, if_neg (by omega), if_neg (by omega), if_pos rfl]
theorem ez_up2_ne {α : Type} {f : Nat → Nat → α} {p k : Nat} {v : α} {r : Nat} (h : r ≠ p) : ez_up2 f p k v r = f r := by
  funext j
  simp [ez_up2, h]
theorem ez_up2_at {α : Type} {f : Nat → Nat → α} {p k : Nat} {v : α} : ez_up2 f p k v p k = v := by simp [ez_up2]
theorem ez_up2_el {α : Type} {f : Nat → Nat → α} {p k j : Nat} {v : α} (h : j ≠ k) : ez_up2 f p k v p j = f p j := by simp [ez_up2, h]
theorem ez_up2_row {f : Nat → Nat → Int32} {p k : Nat} {v : Int32} : ez_up2 f p k v p = upd (f p) k v := by
  funext j
  simp [ez_up2, upd]
theorem ez_up2_rowL {f : Nat → Nat → Int64} {p k : Nat} {v : Int64} : ez_up2 f p k v p = vp_updL (f p) k v := by
  funext j
  simp [ez_up2, vp_updL]
theorem ez_row_ne {α : Type} {f : Nat → Nat → α} {p : Nat} {g : Nat → α} {r : Nat} (h : r ≠ p) : ez_row f p g r = f r := by simp [ez_row, h]
theorem ez_row_at {α : Type} {f : Nat → Nat → α} {p : Nat} {g : Nat → α} : ez_row f p g p = g := by simp [ez_row]
theorem ez_fs_set {n b : Nat} {f g : Nat → Value} {v : Value} (hb : b < n) (h1 : ∀ k, k ≠ b → g k = f k) (h2 : g b = v) : (List.range n).map g = ((List.range n).map f).set b v := by
  apply List.ext_getElem?
  intro j
  by_cases hj : j = b
  · subst hj
    rw [List.getElem?_set_self (by simpa using hb), List.getElem?_map, List.getElem?_range hb]
    simp [h2]
  · rw [List.getElem?_set_ne (Ne.symm hj), List.getElem?_map, List.getElem?_map]
    cases hq : (List.range n)[j]? with
    | none => rfl
    | some z =>
      have hz : z = j := by
        have hl := (List.getElem?_eq_some_iff.mp hq).1
        rw [List.length_range] at hl
        rw [List.getElem?_range hl] at hq
        exact (Option.some.inj hq).symm
      subst hz
      simp [h1 z hj]
section EZ5
variable {p : Program} {l : Launch} {e : Env} {R : Room} {s : State} {m : MethodId} {args : Array Value} {below : List Frame} {meth : Method} {c : Code} {H : Heap} {locs : List Loc} {cells slots : Nat} {Q : State → Prop} {cc : ByteArray} {pc nL B : Nat} {ea : Nat → Nat} {lsM : Array Slot} {own : String} {tbl : List Cond} {rest : List Value}
variable {D : va_G} {cl : List vw_C} {nf : Nat → Nat} {ty : Nat → Nat → FieldType} {dA : Nat → ClassId} {h : ez_H}
theorem ez_W_size {g : JFrame} (k : H.size ≤ s.heap.size + cells → W p l e R s m args below meth c H locs cells slots Q g) : W p l e R s m args below meth c H locs cells slots Q g := fun T hT X => k (by rw [← hT]; exact X.heapSize) T hT X
/-- a field is read -/
theorem ez_getf (hx : p.tables.exec = Jvm.exec) (hb : c.code = cc) (hown : s.vm.findClass own = some m.cls) (hts : ∀ w ∈ tbl, w.before args s = true) (hK : va_K D cl (ez_tys dA) s) (hR : ez_Rel D cl nf ty dA B h H) {a b q idx : Nat} {C : String} {T : u_T} (hC : ez_Cls tbl cl nf ty a C T) (hbn : b < nf a) (hq : ez_t h q = a)
    (hlk : Cond.fieldLink own idx (T b).1 (T b).2.1 (T b).2.2.1 ∈ tbl ∨ ∃ host, Cond.fieldLinkNest own idx (T b).1 (T b).2.1 (T b).2.2.1 host ∈ tbl) (hd : decode cc pc = .ok (.getfield idx, 3))
    (k : W p l e R s m args below meth c H locs cells slots Q (F0 m (pc + 3) lsM (ez_fv B (ty a b) h q b :: rest))) : W p l e R s m args below meth c H locs cells slots Q (F0 m pc lsM (.ref (B + q) :: rest)) := by
  obtain ⟨ha0, ha1, hcl, hws, -, -⟩ := hC
  obtain ⟨ws, j, hP, -, hj, -⟩ := hR.get (p := q) (by omega)
  rw [ez_ce_obj hq ha1] at hj
  have hv : ((List.range (nf a)).map (fun k => ez_fv B (ty a k) h q k))[b]? = some (ez_fv B (ty a b) h q b) := by
    rw [List.getElem?_map, List.getElem?_range hbn]
    rfl
  rcases hlk with hlk | ⟨host, hlk⟩
  · exact va_get hx hb hts hws hown hK hP j hj hcl b hbn (hts _ hlk) (fun _ z => z) hv hd k
  · exact va_getN hx hb hts hws hown hK hP j hj hcl b hbn (hts _ hlk) (fun _ z => z) hv hd k
/-- the frame of a write, seen from the method's entry -/
theorem ez_S_step {H1 : Heap} {locs1 : List Loc} {H0 : Heap} (hS : va_S (ez_A B) H0 H locs) (hS1 : va_S (ez_A B) H H1 locs1) : va_S (ez_A B) H0 H1 locs1 :=
  ⟨Nat.le_trans hS.1 hS1.1, fun q g1 g2 => (hS1.2.1 q (Nat.lt_of_lt_of_le g1 hS.1) g2).trans (hS.2.1 q g1 g2), hS1.2.2⟩
theorem ez_S_here {H0 : Heap} (hS : va_S (ez_A B) H0 H locs) : va_S (ez_A B) H H locs := ⟨Nat.le_refl _, fun _ _ _ => rfl, hS.2.2⟩
/-- a field is written -/
theorem ez_putf (hx : p.tables.exec = Jvm.exec) (hb : c.code = cc) (hown : s.vm.findClass own = some m.cls) (hts : ∀ w ∈ tbl, w.before args s = true) (hK : va_K D cl (ez_tys dA) s) (hR : ez_Rel D cl nf ty dA B h H) (hS : va_S (ez_A B) s.heap H locs) (hsz : s.heap.size + cells = B + 1 + ez_n h) {a b q idx : Nat} {C : String} {T : u_T} (hC : ez_Cls tbl cl nf ty a C T) (hbn : b < nf a) (hq : ez_t h q = a)
    (hlk : ((T b).2.2.2 = false ∧ (Cond.fieldLink own idx (T b).1 (T b).2.1 (T b).2.2.1 ∈ tbl ∨ ∃ host, Cond.fieldLinkNest own idx (T b).1 (T b).2.1 (T b).2.2.1 host ∈ tbl)) ∨ ((T b).2.2.2 = true ∧ meth.name = "<init>" ∧ (T b).1 = own ∧ Cond.fieldLink own idx (T b).1 (T b).2.1 (T b).2.2.1 ∈ tbl)) (hd : decode cc pc = .ok (.putfield idx, 3))
    {v : Value} (hnv : narrow (ty a b) v = v) (hfv : fits (ty a b) v = true) (h' : ez_H) (hn' : ez_n h' = ez_n h) (ht' : ∀ r, ez_t h' r = ez_t h r) (ho : ∀ r, r ≠ q → ez_ce nf ty dA B h' r = ez_ce nf ty dA B h r) (hf : ∀ k, k ≠ b → ez_fv B (ty a k) h' q k = ez_fv B (ty a k) h q k) (hfb : ez_fv B (ty a b) h' q b = v)
    (k : ∀ (H1 : Heap) (locs1 : List Loc), ez_Rel D cl nf ty dA B h' H1 → va_S (ez_A B) s.heap H1 locs1 → W p l e R s m args below meth c H1 locs1 cells slots Q (F0 m (pc + 3) lsM rest)) : W p l e R s m args below meth c H locs cells slots Q (F0 m pc lsM (v :: .ref (B + q) :: rest)) := by
  obtain ⟨ha0, ha1, hcl, hws, hty, hnm⟩ := hC
  have hs0 := hR.1
  obtain ⟨ws, j, hP, hD, hj, hset⟩ := hR.get (p := q) (by omega)
  rw [ez_ce_obj hq ha1] at hj
  have kk : ∀ (H1 : Heap) (locs1 : List Loc), va_P D cl (ws.set j (B + q, .inr (a - 1, ((List.range (nf a)).map (fun k => ez_fv B (ty a k) h q k)).set b v))) H1 → va_D (ez_A B) (ws.set j (B + q, .inr (a - 1, ((List.range (nf a)).map (fun k => ez_fv B (ty a k) h q k)).set b v))) → va_S (ez_A B) H H1 locs1 → W p l e R s m args below meth c H1 locs1 cells slots Q (F0 m (pc + 3) lsM rest) := by
    intro H1 locs1 hP1 hD1 hS1
    refine ez_W_size fun hle => ?_
    refine k H1 locs1 (hset _ h' H1 ?_ hn' ht' ho ?_ hP1 hD1) (ez_S_step hS hS1)
    · have := hS1.1
      omega
    · rw [ez_ce_obj (by rw [ht']; exact hq) ha1, ez_fs_set hbn hf hfb]
  have hlen : b < ((List.range (nf a)).map (fun k => ez_fv B (ty a k) h q k)).length := by simpa using hbn
  rcases hlk with ⟨hfin, hlk | ⟨host, hlk⟩⟩ | ⟨hfin, hini, hdecl, hlk⟩
  · exact va_put hx hb hts hws (ty a) hty hnm hown hK hP hD (ez_S_here hS) j hj hcl b hbn (hts _ hlk) (fun _ z => z) hfin (hty b hbn) hnv hfv hlen hd kk
  · exact va_putN hx hb hts hws (ty a) hty hnm hown hK hP hD (ez_S_here hS) j hj hcl b hbn (hts _ hlk) (fun _ z => z) hfin (hty b hbn) hnv hfv hlen hd kk
  · exact va_putF hx hb hts hws (ty a) hty hnm hown hK hP hD (ez_S_here hS) j hj hcl b hbn (hts _ hlk) (fun _ z => z) hfin hini hdecl (hty b hbn) hnv hfv hlen hd kk
end EZ5
