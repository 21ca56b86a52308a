section EZ6
variable {p : Program} {l : Launch} {e : Env} {R : Room} {s : State} {m : MethodId} {args : Array Value} {below : List Frame} {meth : Method} {c : Code} {H : Heap} {locs : List Loc} {cells slots : Nat} {Q : State → Prop} {cc : ByteArray} {pc nL B : Nat} {ea : Nat → Nat} {lsM : Array Slot} {own : String} {tbl : List Cond} {rest : List Value}
variable {D : va_G} {cl : List vw_C} {nf : Nat → Nat} {ty : Nat → Nat → FieldType} {dA : Nat → ClassId} {h : ez_H}
theorem ez_ald (hx : p.tables.exec = Jvm.exec) (hb : c.code = cc) (hK : va_K D cl (ez_tys dA) s) (hR : ez_Rel D cl nf ty dA B h H) {q : Nat} {x : Int32} (hq : ez_t h q = 1000) (hi : vp_in x (ez_l h q)) (hd : decode cc pc = .ok (.iaload, 1))
    (k : W p l e R s m args below meth c H locs cells slots Q (F0 m (pc + 1) lsM (.int (ez_I h q x.toNatClampNeg) :: rest))) : W p l e R s m args below meth c H locs cells slots Q (F0 m pc lsM (.int x :: .ref (B + q) :: rest)) := by
  obtain ⟨ws, j, hP, -, hj, -⟩ := hR.get (p := q) (by omega)
  rw [ez_ce_i hq] at hj
  exact va_iald hx hb hK hP j 0 hj rfl hi hd k
theorem ez_bald (hx : p.tables.exec = Jvm.exec) (hb : c.code = cc) (hK : va_K D cl (ez_tys dA) s) (hR : ez_Rel D cl nf ty dA B h H) {q : Nat} {x : Int32} (hq : ez_t h q = 1003) (hi : vp_in x (ez_l h q)) (hd : decode cc pc = .ok (.baload, 1))
    (k : W p l e R s m args below meth c H locs cells slots Q (F0 m (pc + 1) lsM (.int (ez_I h q x.toNatClampNeg) :: rest))) : W p l e R s m args below meth c H locs cells slots Q (F0 m pc lsM (.int x :: .ref (B + q) :: rest)) := by
  obtain ⟨ws, j, hP, -, hj, -⟩ := hR.get (p := q) (by omega)
  rw [ez_ce_b hq] at hj
  exact va_bald hx hb hK hP j 2 hj rfl hi hd k
theorem ez_lald (hx : p.tables.exec = Jvm.exec) (hb : c.code = cc) (hK : va_K D cl (ez_tys dA) s) (hR : ez_Rel D cl nf ty dA B h H) {q : Nat} {x : Int32} (hq : ez_t h q = 1002) (hi : vp_in x (ez_l h q)) (hd : decode cc pc = .ok (.laload, 1))
    (k : W p l e R s m args below meth c H locs cells slots Q (F0 m (pc + 1) lsM (.long (ez_L h q x.toNatClampNeg) :: rest))) : W p l e R s m args below meth c H locs cells slots Q (F0 m pc lsM (.int x :: .ref (B + q) :: rest)) := by
  obtain ⟨ws, j, hP, -, hj, -⟩ := hR.get (p := q) (by omega)
  rw [ez_ce_l hq] at hj
  exact va_lald hx hb hK hP j 1 hj rfl hi hd k
theorem ez_alen (hx : p.tables.exec = Jvm.exec) (hb : c.code = cc) (hK : va_K D cl (ez_tys dA) s) (hR : ez_Rel D cl nf ty dA B h H) {q : Nat} (hq : ez_t h q = 1000 ∨ ez_t h q = 1002 ∨ ez_t h q = 1003) (hd : decode cc pc = .ok (.arraylength, 1))
    (k : W p l e R s m args below meth c H locs cells slots Q (F0 m (pc + 1) lsM (.int (nI (ez_l h q)) :: rest))) : W p l e R s m args below meth c H locs cells slots Q (F0 m pc lsM (.ref (B + q) :: rest)) := by
  obtain ⟨ws, j, hP, -, hj, -⟩ := hR.get (p := q) (by omega)
  rcases hq with hq | hq | hq
  · rw [ez_ce_i hq] at hj
    exact va_alen hx hb hK hP j 0 hj (ty := .int) rfl rfl hd k
  · rw [ez_ce_l hq] at hj
    exact va_alen hx hb hK hP j 1 hj (ty := .long) rfl rfl hd k
  · rw [ez_ce_b hq] at hj
    exact va_alen hx hb hK hP j 2 hj (ty := .byte) rfl rfl hd k
theorem ez_setI_I (q x r : Nat) (y : Int32) : ez_I (ez_setI h q x y) r = ez_up2 (ez_I h) q x y r := rfl
theorem ez_ast (hx : p.tables.exec = Jvm.exec) (hb : c.code = cc) (hK : va_K D cl (ez_tys dA) s) (hR : ez_Rel D cl nf ty dA B h H) (hS : va_S (ez_A B) s.heap H locs) (hsz : s.heap.size + cells = B + 1 + ez_n h) {q : Nat} {x y : Int32} (hq : ez_t h q = 1000) (hi : vp_in x (ez_l h q)) (hd : decode cc pc = .ok (.iastore, 1))
    (k : ∀ (H1 : Heap) (locs1 : List Loc), ez_Rel D cl nf ty dA B (ez_setI h q x.toNatClampNeg y) H1 → va_S (ez_A B) s.heap H1 locs1 → W p l e R s m args below meth c H1 locs1 cells slots Q (F0 m (pc + 1) lsM rest)) : W p l e R s m args below meth c H locs cells slots Q (F0 m pc lsM (.int y :: .int x :: .ref (B + q) :: rest)) := by
  have hs0 := hR.1
  obtain ⟨ws, j, hP, hD, hj, hset⟩ := hR.get (p := q) (by omega)
  rw [ez_ce_i hq] at hj
  refine va_iast hx hb hK hP hD (ez_S_here hS) j 0 hj rfl hi hd fun H1 locs1 hP1 hD1 hS1 => ez_W_size fun hle => k H1 locs1 (hset _ _ H1 ?_ rfl (fun _ => rfl) ?_ ?_ hP1 hD1) (ez_S_step hS hS1)
  · have := hS1.1
    omega
  · intro r hr
    exact ez_ce_same rfl rfl (by rw [ez_setI_I, ez_up2_ne hr]) rfl rfl
  · rw [ez_ce_i (show ez_t (ez_setI h q x.toNatClampNeg y) q = 1000 from hq), ez_setI_I, ez_up2_row]
    rfl
theorem ez_bast (hx : p.tables.exec = Jvm.exec) (hb : c.code = cc) (hK : va_K D cl (ez_tys dA) s) (hR : ez_Rel D cl nf ty dA B h H) (hS : va_S (ez_A B) s.heap H locs) (hsz : s.heap.size + cells = B + 1 + ez_n h) {q : Nat} {x y : Int32} (hq : ez_t h q = 1003) (hi : vp_in x (ez_l h q)) (hd : decode cc pc = .ok (.bastore, 1))
    (k : ∀ (H1 : Heap) (locs1 : List Loc), ez_Rel D cl nf ty dA B (ez_setI h q x.toNatClampNeg y.toInt8.toInt32) H1 → va_S (ez_A B) s.heap H1 locs1 → W p l e R s m args below meth c H1 locs1 cells slots Q (F0 m (pc + 1) lsM rest)) : W p l e R s m args below meth c H locs cells slots Q (F0 m pc lsM (.int y :: .int x :: .ref (B + q) :: rest)) := by
  have hs0 := hR.1
  obtain ⟨ws, j, hP, hD, hj, hset⟩ := hR.get (p := q) (by omega)
  rw [ez_ce_b hq] at hj
  refine va_bast hx hb hK hP hD (ez_S_here hS) j 2 hj rfl hi hd fun H1 locs1 hP1 hD1 hS1 => ez_W_size fun hle => k H1 locs1 (hset _ _ H1 ?_ rfl (fun _ => rfl) ?_ ?_ hP1 hD1) (ez_S_step hS hS1)
  · have := hS1.1
    omega
  · intro r hr
    exact ez_ce_same rfl rfl (by rw [ez_setI_I, ez_up2_ne hr]) rfl rfl
  · rw [ez_ce_b (show ez_t (ez_setI h q x.toNatClampNeg y.toInt8.toInt32) q = 1003 from hq), ez_setI_I, ez_up2_row, vp_nar_byte]
    rfl
theorem ez_last (hx : p.tables.exec = Jvm.exec) (hb : c.code = cc) (hK : va_K D cl (ez_tys dA) s) (hR : ez_Rel D cl nf ty dA B h H) (hS : va_S (ez_A B) s.heap H locs) (hsz : s.heap.size + cells = B + 1 + ez_n h) {q : Nat} {x : Int32} {y : Int64} (hq : ez_t h q = 1002) (hi : vp_in x (ez_l h q)) (hd : decode cc pc = .ok (.lastore, 1))
    (k : ∀ (H1 : Heap) (locs1 : List Loc), ez_Rel D cl nf ty dA B (ez_setL h q x.toNatClampNeg y) H1 → va_S (ez_A B) s.heap H1 locs1 → W p l e R s m args below meth c H1 locs1 cells slots Q (F0 m (pc + 1) lsM rest)) : W p l e R s m args below meth c H locs cells slots Q (F0 m pc lsM (.long y :: .int x :: .ref (B + q) :: rest)) := by
  have hs0 := hR.1
  obtain ⟨ws, j, hP, hD, hj, hset⟩ := hR.get (p := q) (by omega)
  rw [ez_ce_l hq] at hj
  refine va_last hx hb hK hP hD (ez_S_here hS) j 1 hj rfl hi hd fun H1 locs1 hP1 hD1 hS1 => ez_W_size fun hle => k H1 locs1 (hset _ _ H1 ?_ rfl (fun _ => rfl) ?_ ?_ hP1 hD1) (ez_S_step hS hS1)
  · have := hS1.1
    omega
  · intro r hr
    exact ez_ce_same rfl rfl rfl (by show ez_up2 (ez_L h) q x.toNatClampNeg y r = _; rw [ez_up2_ne hr]) rfl
  · rw [ez_ce_l (show ez_t (ez_setL h q x.toNatClampNeg y) q = 1002 from hq), show ez_L (ez_setL h q x.toNatClampNeg y) q = _ from ez_up2_rowL]
    rfl
theorem ez_copy (hx : p.tables.exec = Jvm.exec) (hb : c.code = cc) (hml : c.maxLocals = lsM.size) (hown : s.vm.findClass own = some m.cls) (hts : ∀ w ∈ tbl, w.before args s = true) {idx : Nat} (hl1 : Cond.methodLink own idx arraycopyName ∈ tbl) (hl2 : Cond.native arraycopyName ∈ tbl) (hl3 : Cond.static arraycopyName ∈ tbl) (hl4 : Cond.initialized "java/lang/System" ∈ tbl) (hK : va_K D cl (ez_tys dA) s) (hR : ez_Rel D cl nf ty dA B h H) (hS : va_S (ez_A B) s.heap H locs) (hsz : s.heap.size + cells = B + 1 + ez_n h)
    {q1 q2 : Nat} {sp dp n : Int32} (hq1 : ez_t h q1 = 1000) (hq2 : ez_t h q2 = 1000) (h1 : ¬ sp < 0) (h2 : ¬ dp < 0) (h3 : ¬ n < 0) (h4 : sp.toNatClampNeg + n.toNatClampNeg ≤ ez_l h q1) (h5 : dp.toNatClampNeg + n.toNatClampNeg ≤ ez_l h q2)
    (hfr : 1 ≤ R.frames) (hlo : (rest.map fun v => v.category).sum + (nativeFrameWords "java/lang/System" "arraycopy" 5 + 11) ≤ R.locals) (hd : decode cc pc = .ok (.invokestatic idx, 3))
    (k : ∀ (H1 : Heap) (locs1 : List Loc), ez_Rel D cl nf ty dA B (ez_rowI h q2 (va_cpy (ez_I h q1) (ez_I h q2) sp.toNatClampNeg dp.toNatClampNeg n.toNatClampNeg)) H1 → va_S (ez_A B) s.heap H1 locs1 → W p l e R s m args below meth c H1 locs1 cells slots Q (F0 m (pc + 3) lsM rest)) : W p l e R s m args below meth c H locs cells slots Q (F0 m pc lsM (.int n :: .int dp :: .ref (B + q2) :: .int sp :: .ref (B + q1) :: rest)) := by
  have hs0 := hR.1
  obtain ⟨ws, hP, hD, hall, hset⟩ := hR.all
  obtain ⟨j1, hj1⟩ := hall q1 (by omega)
  obtain ⟨j, hj⟩ := hall q2 (by omega)
  replace hset := hset q2 j (by omega) hj
  rw [ez_ce_i hq2] at hj
  rw [ez_ce_i hq1] at hj1
  refine va_copyi hx hb hml hown (hts _ hl1) (hts _ hl2) (hts _ hl3) (hts _ hl4) hK hP hD (ez_S_here hS) j1 j 0 0 (ty := .int) hj1 hj rfl rfl rfl h1 h2 h3 h4 h5 (fun _ _ => rfl) hfr hlo hd fun H1 locs1 hP1 hD1 hS1 => ez_W_size fun hle => k H1 locs1 (hset _ _ H1 ?_ rfl (fun _ => rfl) ?_ ?_ hP1 hD1) (ez_S_step hS hS1)
  · have := hS1.1
    omega
  · intro r hr
    exact ez_ce_same rfl rfl (by show ez_row (ez_I h) q2 _ r = _; rw [ez_row_ne hr]) rfl rfl
  · rw [ez_ce_i (show ez_t (ez_rowI h q2 _) q2 = 1000 from hq2), show ez_I (ez_rowI h q2 _) q2 = _ from ez_row_at]
    rfl
end EZ6
