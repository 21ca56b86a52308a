/-- the words of an array type's tag -/
def ez_aty (at_ : ArrayType) (a : Nat) : Prop := (at_ = .int ∧ a = 1000) ∨ (at_ = .long ∧ a = 1002) ∨ (at_ = .byte ∧ a = 1003)
section EZ7
variable {p : Program} {l : Launch} {e : Env} {R : Room} {s : State} {m : MethodId} {args : Array Value} {below : List Frame} {meth : Method} {c : Code} {H : Heap} {locs : List Loc} {cells slots : Nat} {Q : State → Prop} {cc : ByteArray} {pc nL B : Nat} {ea : Nat → Nat} {lsM : Array Slot} {own : String} {tbl : List Cond} {rest : List Value}
variable {D : va_G} {cl : List vw_C} {nf : Nat → Nat} {ty : Nat → Nat → FieldType} {dA : Nat → ClassId} {h : ez_H}
theorem ez_S_grow {H0 H1 : Heap} (hS : va_S (ez_A B) H0 H locs) (hz : H1.size = H.size + 1) (ho : ∀ q : Nat, q < H.size → H1[q]? = H[q]?) : va_S (ez_A B) H0 H1 locs :=
  ⟨by have := hS.1; omega, fun q g1 g2 => (ho q (Nat.lt_of_lt_of_le g1 hS.1)).trans (hS.2.1 q g1 g2), hS.2.2⟩
theorem ez_newa (hx : p.tables.exec = Jvm.exec) (hb : c.code = cc) (hts : ∀ w ∈ tbl, w.before args s = true) (hK : va_K D cl (ez_tys dA) s) (hR : ez_Rel D cl nf ty dA B h H) (hS : va_S (ez_A B) s.heap H locs) {at_ : ArrayType} {a : Nat} (ha : ez_aty at_ a) (hw : Cond.arrayClass (newarray.typeOf at_) ∈ tbl) {x : Int32} (hx0 : ¬ x < 0) (hx1 : x.toNatClampNeg ≤ 200000) (hc : cells + 1 ≤ R.cells) (hs : slots + x.toNatClampNeg ≤ R.slots) (hd : decode cc pc = .ok (.newarray at_, 2))
    (k : ∀ H1 : Heap, ez_Rel D cl nf ty dA B (ez_new h a x.toNatClampNeg x.toNatClampNeg) H1 → va_S (ez_A B) s.heap H1 locs → W p l e R s m args below meth c H1 locs (cells + 1) (slots + x.toNatClampNeg) Q (F0 m (pc + 2) lsM (.ref (B + (ez_n h + 1)) :: rest))) : W p l e R s m args below meth c H locs cells slots Q (F0 m pc lsM (.int x :: rest)) := by
  have hs0 := hR.1
  have hbytes : x.toNatClampNeg * componentBytes (newarray.typeOf at_) ≤ 536870912 := by
    rcases ha with ⟨rfl, -⟩ | ⟨rfl, -⟩ | ⟨rfl, -⟩
    · show x.toNatClampNeg * 4 ≤ _; omega
    · show x.toNatClampNeg * 8 ≤ _; omega
    · show x.toNatClampNeg * 1 ≤ _; omega
  refine va_newaK hx hb (hts _ hw) rfl hd rfl hx0 rfl hbytes hc hs rfl fun H1 cA e1 z1 o1 hAr hNm => ?_
  have hcell : va_at D cl (H.size, ez_ce nf ty dA B (ez_new h a x.toNatClampNeg x.toNatClampNeg) (ez_n h + 1)) H1 := by
    have ht : ez_t (ez_new h a x.toNatClampNeg x.toNatClampNeg) (ez_n h + 1) = a := by
      show ez_up (ez_t h) (ez_n h + 1) a (ez_n h + 1) = a
      simp [ez_up]
    have hl : ez_l (ez_new h a x.toNatClampNeg x.toNatClampNeg) (ez_n h + 1) = x.toNatClampNeg := by
      show ez_up (ez_l h) (ez_n h + 1) _ (ez_n h + 1) = _
      simp [ez_up]
    have hI : ez_I (ez_new h a x.toNatClampNeg x.toNatClampNeg) (ez_n h + 1) = fun _ => 0 := by
      show ez_row (ez_I h) (ez_n h + 1) _ (ez_n h + 1) = _
      simp [ez_row]
    have hL : ez_L (ez_new h a x.toNatClampNeg x.toNatClampNeg) (ez_n h + 1) = fun _ => 0 := by
      show ez_row (ez_L h) (ez_n h + 1) _ (ez_n h + 1) = _
      simp [ez_row]
    rcases ha with ⟨rfl, rfl⟩ | ⟨rfl, rfl⟩ | ⟨rfl, rfl⟩
    · have hcA : cA = dA 1000 := Option.some.inj (hNm.symm.trans (hK.2 0 _ rfl).2)
      rw [ez_ce_i ht, hl, hI, ← hcA]
      exact e1
    · have hcA : cA = dA 1002 := Option.some.inj (hNm.symm.trans (hK.2 1 _ rfl).2)
      rw [ez_ce_l ht, hl, hL, ← hcA]
      exact e1
    · have hcA : cA = dA 1003 := Option.some.inj (hNm.symm.trans (hK.2 2 _ rfl).2)
      rw [ez_ce_b ht, hl, hI, ← hcA]
      exact e1
  have := k H1 (hR.push z1 o1 hcell) (ez_S_grow hS z1 o1)
  rw [show H.size = B + (ez_n h + 1) by omega]
  exact this
theorem ez_newo (hx : p.tables.exec = Jvm.exec) (hb : c.code = cc) (hown : s.vm.findClass own = some m.cls) (hts : ∀ w ∈ tbl, w.before args s = true) (hK : va_K D cl (ez_tys dA) s) (hR : ez_Rel D cl nf ty dA B h H) (hS : va_S (ez_A B) s.heap H locs) {a idx : Nat} {C : String} {T : u_T} (hC : ez_Cls tbl cl nf ty a C T) (h1 : Cond.classLink own idx C ∈ tbl) (h2 : Cond.instantiable C (nf a) ∈ tbl) (h3 : Cond.initialized C ∈ tbl) (hty : ∀ k, k < nf a → ty a k = .int ∨ ty a k = .boolean ∨ ty a k = .long ∨ (∃ n, ty a k = .object n) ∨ ∃ n, ty a k = .array n)
    (hc : cells + 1 ≤ R.cells) (hs : slots + nf a ≤ R.slots) (hd : decode cc pc = .ok (.new idx, 3))
    (k : ∀ H1 : Heap, ez_Rel D cl nf ty dA B (ez_new h a 0 (nf a)) H1 → va_S (ez_A B) s.heap H1 locs → W p l e R s m args below meth c H1 locs (cells + 1) (slots + nf a) Q (F0 m (pc + 3) lsM (.ref (B + (ez_n h + 1)) :: rest))) : W p l e R s m args below meth c H locs cells slots Q (F0 m pc lsM rest) := by
  have hs0 := hR.1
  obtain ⟨ha0, ha1, hcl, hws, hpd, -⟩ := hC
  have hKn := hK.1 (a - 1) _ hcl
  refine W.newcK hx hb hown (hts _ h1) (hts _ h2) (hts _ h3) rfl hd hc hs hKn.2.1 rfl fun H1 kC hkC e1 z1 o1 => ?_
  have hcell : va_at D cl (H.size, ez_ce nf ty dA B (ez_new h a 0 (nf a)) (ez_n h + 1)) H1 := by
    have ht : ez_t (ez_new h a 0 (nf a)) (ez_n h + 1) = a := by
      show ez_up (ez_t h) (ez_n h + 1) a (ez_n h + 1) = a
      simp [ez_up]
    have hI : ez_I (ez_new h a 0 (nf a)) (ez_n h + 1) = fun _ => 0 := by
      show ez_row (ez_I h) (ez_n h + 1) _ (ez_n h + 1) = _
      simp [ez_row]
    have hL : ez_L (ez_new h a 0 (nf a)) (ez_n h + 1) = fun _ => 0 := by
      show ez_row (ez_L h) (ez_n h + 1) _ (ez_n h + 1) = _
      simp [ez_row]
    have hRr : ez_R (ez_new h a 0 (nf a)) (ez_n h + 1) = fun _ => 0 := by
      show ez_row (ez_R h) (ez_n h + 1) _ (ez_n h + 1) = _
      simp [ez_row]
    rw [ez_ce_obj ht ha1]
    refine ⟨_, hcl, (u_born (ty a) hts hws hKn hkC e1 hpd).to fun j hj => ?_⟩
    show defaultValue (ty a j) = ((List.range (nf a)).map _).getD j .null
    rw [List.getD_eq_getElem?_getD, List.getElem?_map, List.getElem?_range hj]
    show defaultValue (ty a j) = ez_fv B (ty a j) _ _ j
    unfold ez_fv
    rw [hI, hL, hRr]
    rcases hty j hj with z | z | z | ⟨n, z⟩ | ⟨n, z⟩ <;> rw [z] <;> rfl
  have := k H1 (hR.push z1 o1 hcell) (ez_S_grow hS z1 o1)
  show W p l e R s m args below meth c H1 locs (cells + 1) (slots + nf a) Q (F0 m (pc + 3) lsM (.ref H.size :: rest))
  rw [show H.size = B + (ez_n h + 1) by omega]
  exact this
end EZ7
