/-- what links an instruction: sta: the static arrays by their numbers; ini: the method is a constructor -/
def ez_lk (own : String) (tbl : List Cond) (cl : List vw_C) (nf : Nat → Nat) (ty : Nat → Nat → FieldType) (sta : Nat → String × String × String) (ini : Prop) (i : ClassFile.Instr) (a b k : Nat) : Prop := match i with
  | .getfield idx => ∃ (C : String) (T : u_T), ez_Cls tbl cl nf ty a C T ∧ b < nf a ∧ (Cond.fieldLink own idx (T b).1 (T b).2.1 (T b).2.2.1 ∈ tbl ∨ ∃ host, Cond.fieldLinkNest own idx (T b).1 (T b).2.1 (T b).2.2.1 host ∈ tbl) ∧ (k = 0 → ty a b = .int) ∧ (k = 1 → ty a b = .boolean) ∧ (k = 2 → ty a b = .long) ∧ (3 ≤ k → (∃ n, ty a b = .object n) ∨ ∃ n, ty a b = .array n)
  | .putfield idx => ∃ (C : String) (T : u_T), ez_Cls tbl cl nf ty a C T ∧ b < nf a ∧ (((T b).2.2.2 = false ∧ (Cond.fieldLink own idx (T b).1 (T b).2.1 (T b).2.2.1 ∈ tbl ∨ ∃ host, Cond.fieldLinkNest own idx (T b).1 (T b).2.1 (T b).2.2.1 host ∈ tbl)) ∨ ((T b).2.2.2 = true ∧ ini ∧ (T b).1 = own ∧ Cond.fieldLink own idx (T b).1 (T b).2.1 (T b).2.2.1 ∈ tbl)) ∧ (k = 0 → ty a b = .int) ∧ (k = 1 → ty a b = .boolean) ∧ (k = 2 → ty a b = .long) ∧ (3 ≤ k → (∃ n, ty a b = .object n) ∨ ∃ n, ty a b = .array n)
  | .getstatic idx => 0 < a ∧ (Cond.fieldLink own idx (sta a).1 (sta a).2.1 (sta a).2.2 ∈ tbl ∨ ∃ host, Cond.fieldLinkNest own idx (sta a).1 (sta a).2.1 (sta a).2.2 host ∈ tbl)
  | .newarray at_ => ez_aty at_ a ∧ Cond.arrayClass (newarray.typeOf at_) ∈ tbl
  | .new idx => ∃ (C : String) (T : u_T), ez_Cls tbl cl nf ty a C T ∧ b = nf a ∧ Cond.classLink own idx C ∈ tbl ∧ Cond.instantiable C (nf a) ∈ tbl ∧ Cond.initialized C ∈ tbl ∧ ∀ k, k < nf a → ty a k = .int ∨ ty a k = .boolean ∨ ty a k = .long ∨ (∃ n, ty a k = .object n) ∨ ∃ n, ty a k = .array n
  | .invokespecial idx => k = 0 → Cond.methodLink own idx Lib.objectInit ∈ tbl ∧ Cond.instanceMethod Lib.objectInit ∈ tbl ∧ Cond.code Lib.objectInit ⟨#[0xb1]⟩ 1 none ∈ tbl
  | .invokestatic idx => (k = 1 → Cond.methodLink own idx Lib.Math.max.name ∈ tbl ∧ Cond.static Lib.Math.max.name ∈ tbl ∧ Cond.initialized "java/lang/Math" ∈ tbl ∧ Cond.code Lib.Math.max.name Lib.Math.max.code 2 (some .int) ∈ tbl) ∧ (k = 2 → Cond.methodLink own idx Lib.Math.min.name ∈ tbl ∧ Cond.static Lib.Math.min.name ∈ tbl ∧ Cond.initialized "java/lang/Math" ∈ tbl ∧ Cond.code Lib.Math.min.name Lib.Math.min.code 2 (some .int) ∈ tbl) ∧ (3 ≤ k → Cond.methodLink own idx arraycopyName ∈ tbl ∧ Cond.native arraycopyName ∈ tbl ∧ Cond.static arraycopyName ∈ tbl ∧ Cond.initialized "java/lang/System" ∈ tbl)
  | _ => True
theorem ez_fv_ref {B : Nat} {t : FieldType} {h : ez_H} {q b : Nat} (ht : (∃ n, t = .object n) ∨ ∃ n, t = .array n) (hne : ¬ ez_R h q b = 0) : ez_fv B t h q b = .ref (B + ez_R h q b) := by
  rcases ht with ⟨n, rfl⟩ | ⟨n, rfl⟩ <;> (unfold ez_fv; simp only; rw [if_neg hne])
/-- what a field of another place holds stays -/
theorem ez_fv_I {B : Nat} {t : FieldType} {h : ez_H} {q b k : Nat} {x : Int32} (hk : k ≠ b) : ez_fv B t (ez_setI h q b x) q k = ez_fv B t h q k := by
  unfold ez_fv
  rw [show ez_I (ez_setI h q b x) q k = ez_I h q k from ez_up2_el hk]
  rfl
theorem ez_fv_L {B : Nat} {t : FieldType} {h : ez_H} {q b k : Nat} {x : Int64} (hk : k ≠ b) : ez_fv B t (ez_setL h q b x) q k = ez_fv B t h q k := by
  unfold ez_fv
  rw [show ez_L (ez_setL h q b x) q k = ez_L h q k from ez_up2_el hk]
  rfl
theorem ez_fv_R {B : Nat} {t : FieldType} {h : ez_H} {q b k : Nat} {x : Nat} (hk : k ≠ b) : ez_fv B t (ez_setR h q b x) q k = ez_fv B t h q k := by
  unfold ez_fv
  rw [show ez_R (ez_setR h q b x) q k = ez_R h q k from ez_up2_el hk]
  rfl
theorem ez_few_map {B : Nat} {ea : Nat → Nat} {r : List Value} (h : ez_few r = true) : ((r.map (ez_tr B ea)).map fun v => v.category).sum ≤ 8 := by
  have : ((r.map (ez_tr B ea)).map fun v => v.category) = r.map fun v => v.category := by
    rw [List.map_map]
    apply List.map_congr_left
    intro v _
    exact ez_tr_cat B ea v
  rw [this]
  exact Nat.le_of_ble_eq_true h
section EZ8
variable {p : Program} {l : Launch} {e : Env} {R : Room} {s : State} {m : MethodId} {args : Array Value} {below : List Frame} {meth : Method} {c : Code} {H : Heap} {locs : List Loc} {cells slots : Nat} {Q : State → Prop} {cc : ByteArray} {pc nL B : Nat} {ea : Nat → Nat} {lsM : Array Slot} {own : String} {tbl : List Cond} {st st' : List Value} {ls : List (Option Value)} {i : ClassFile.Instr}
variable {D : va_G} {cl : List vw_C} {nf : Nat → Nat} {ty : Nat → Nat → FieldType} {dA : Nat → ClassId} {h h' : ez_H} {sta : Nat → String × String × String} {E : Nat → Nat × (Nat → Int32)} {a b k n0 u0 : Nat} {cd : Prop}
set_option maxHeartbeats 2000000 in
theorem ez_sm_snd (hx : p.tables.exec = Jvm.exec) (hb : c.code = cc) (hml : c.maxLocals = lsM.size) (hown : s.vm.findClass own = some m.cls) (hts : ∀ w ∈ tbl, w.before args s = true) (hK : va_K D cl (ez_tys dA) s) (hR : ez_Rel D cl nf ty dA B h H) (hS : va_S (ez_A B) s.heap H locs)
    (hT : ∀ j, va_T .int (ea j) (E j).1 (fun i => .int ((E j).2 i)) (ez_A B) s s.heap) (hZ : ∀ j, 0 < j → va_Z (sta j).1 (sta j).2.1 (sta j).2.2 (.ref (ea j)) (ez_A B) s s.heap)
    (hs0 : s.heap.size = B + 1 + n0) (hn0 : n0 + cells = ez_n h) (hu0 : u0 + slots = ez_u h) (hn1 : ez_n h ≤ ez_MC) (hu1 : ez_u h ≤ ez_MS) (hcR : ez_MC ≤ n0 + R.cells) (hsR : ez_MS ≤ u0 + R.slots) (hfr : 1 ≤ R.frames) (hlo : 40 ≤ R.locals)
    (hd : decode cc pc = .ok (i, ez_ln i)) (hlk : ez_lk own tbl cl nf ty sta (meth.name = "<init>") i a b k) (ho : ez_sm E i a b k ls st h = some (cd, st', h')) (hcd : cd)
    (kk : ∀ (H1 : Heap) (locs1 : List Loc) (cells1 slots1 : Nat), ez_Rel D cl nf ty dA B h' H1 → va_S (ez_A B) s.heap H1 locs1 → n0 + cells1 = ez_n h' → u0 + slots1 = ez_u h' → ez_n h' ≤ ez_MC → ez_u h' ≤ ez_MS → W p l e R s m args below meth c H1 locs1 cells1 slots1 Q (F0 m (pc + ez_ln i) lsM (st'.map (ez_tr B ea)))) : W p l e R s m args below meth c H locs cells slots Q (F0 m pc lsM (st.map (ez_tr B ea))) := by
  have hsz : s.heap.size + cells = B + 1 + ez_n h := by omega
  have same : h' = h → W p l e R s m args below meth c H locs cells slots Q (F0 m (pc + ez_ln i) lsM (st'.map (ez_tr B ea))) := fun q => by
    subst q
    exact kk H locs cells slots hR hS hn0 hu0 hn1 hu1
  unfold ez_sm at ho
  split at ho
  · -- getfield
    obtain ⟨C, T, hC, hbn, hl, t0, t1, t2, t3⟩ := hlk
    split at ho
    · split at ho <;> cases ho
      · refine ez_getf hx hb hown hts hK hR hC hbn hcd hl hd ?_
        rw [t0 rfl]
        exact same rfl
      · refine ez_getf hx hb hown hts hK hR hC hbn hcd hl hd ?_
        rw [t1 rfl]
        exact same rfl
      · refine ez_getf hx hb hown hts hK hR hC hbn hcd hl hd ?_
        rw [t2 rfl]
        exact same rfl
      · refine ez_getf hx hb hown hts hK hR hC hbn hcd.1 hl hd ?_
        rw [ez_fv_ref (t3 (Nat.le_refl _)) hcd.2]
        exact same rfl
      · refine ez_getf hx hb hown hts hK hR hC hbn hcd.1 hl hd ?_
        rw [ez_fv_ref (t3 (by omega)) (by rw [hcd.2]; omega), hcd.2]
        exact same rfl
    · cases ho
  · -- putfield
    obtain ⟨C, T, hC, hbn, hl, t0, t1, t2, t3⟩ := hlk
    split at ho
    · split at ho <;> cases ho
      rename_i x q
      exact ez_putf hx hb hown hts hK hR hS hsz hC hbn hcd hl hd (by rw [t0 rfl]; rfl) (by rw [t0 rfl]; rfl) (ez_setI h q b x) rfl (fun _ => rfl) (fun r hr => ez_ce_same rfl rfl (by rw [ez_setI_I, ez_up2_ne hr]) rfl rfl) (fun k hk => ez_fv_I hk) (by rw [t0 rfl]; exact congrArg Value.int ez_up2_at) fun H1 locs1 r1 s1 => kk H1 locs1 cells slots r1 s1 hn0 hu0 hn1 hu1
    · split at ho <;> cases ho
      rename_i x q
      exact ez_putf hx hb hown hts hK hR hS hsz hC hbn hcd.1 hl hd (by rw [t1 rfl]; rcases hcd.2 with z | z <;> rw [z] <;> rfl) (by rw [t1 rfl]; rcases hcd.2 with z | z <;> rw [z] <;> rfl) (ez_setI h q b x) rfl (fun _ => rfl) (fun r hr => ez_ce_same rfl rfl (by rw [ez_setI_I, ez_up2_ne hr]) rfl rfl) (fun k hk => ez_fv_I hk) (by rw [t1 rfl]; exact congrArg Value.int ez_up2_at) fun H1 locs1 r1 s1 => kk H1 locs1 cells slots r1 s1 hn0 hu0 hn1 hu1
    · split at ho <;> cases ho
      rename_i x q
      exact ez_putf hx hb hown hts hK hR hS hsz hC hbn hcd hl hd (by rw [t2 rfl]; rfl) (by rw [t2 rfl]; rfl) (ez_setL h q b x) rfl (fun _ => rfl) (fun r hr => ez_ce_same rfl rfl rfl (ez_up2_ne hr) rfl) (fun k hk => ez_fv_L hk) (by rw [t2 rfl]; exact congrArg Value.long ez_up2_at) fun H1 locs1 r1 s1 => kk H1 locs1 cells slots r1 s1 hn0 hu0 hn1 hu1
    · split at ho <;> cases ho
      rename_i q1 q2
      have hz := t3 (by omega)
      have e1 : ez_R (ez_setR h q2 b q1) q2 b = q1 := ez_up2_at
      refine ez_putf hx hb hown hts hK hR hS hsz hC hbn hcd.1 hl hd (v := .ref (B + q1)) (by rcases hz with ⟨n, z⟩ | ⟨n, z⟩ <;> rw [z] <;> rfl) (by rcases hz with ⟨n, z⟩ | ⟨n, z⟩ <;> rw [z] <;> rfl) (ez_setR h q2 b q1) rfl (fun _ => rfl) (fun r hr => ez_ce_same rfl rfl rfl rfl (ez_up2_ne hr)) (fun k hk => ez_fv_R hk) ?_ fun H1 locs1 r1 s1 => kk H1 locs1 cells slots r1 s1 hn0 hu0 hn1 hu1
      rw [ez_fv_ref hz (by rw [e1]; exact hcd.2), e1]
  · -- getstatic
    cases ho
    obtain ⟨ha, hl | ⟨host, hl⟩⟩ := hlk
    · exact va_gets hx hb (hZ a ha) hS hown (hts _ hl) (fun _ z => z) hd (same rfl)
    · exact va_getsN hx hb (hZ a ha) hS hown (hts _ hl) (fun _ z => z) hd (same rfl)
  · -- iaload
    split at ho <;> cases ho
    · exact ez_ald hx hb hK hR hcd.1 hcd.2 hd (same rfl)
    · rename_i x j r
      exact va_ti hx hb (hT j) hS hcd rfl hd (same rfl)
  · split at ho <;> cases ho
    exact ez_bald hx hb hK hR hcd.1 hcd.2 hd (same rfl)
  · split at ho <;> cases ho
    exact ez_lald hx hb hK hR hcd.1 hcd.2 hd (same rfl)
  · split at ho <;> cases ho
    exact ez_ast hx hb hK hR hS hsz hcd.1 hcd.2 hd fun H1 locs1 r1 s1 => kk H1 locs1 cells slots r1 s1 hn0 hu0 hn1 hu1
  · split at ho <;> cases ho
    exact ez_bast hx hb hK hR hS hsz hcd.1 hcd.2 hd fun H1 locs1 r1 s1 => kk H1 locs1 cells slots r1 s1 hn0 hu0 hn1 hu1
  · split at ho <;> cases ho
    exact ez_last hx hb hK hR hS hsz hcd.1 hcd.2 hd fun H1 locs1 r1 s1 => kk H1 locs1 cells slots r1 s1 hn0 hu0 hn1 hu1
  · -- arraylength
    split at ho <;> cases ho
    · exact ez_alen hx hb hK hR hcd hd (same rfl)
    · rename_i j r
      exact va_tlen hx hb (hT j) hS rfl hd (same rfl)
  · split at ho <;> cases ho
    exact lv_idiv hx hb hd hcd (same rfl)
  · split at ho <;> cases ho
    exact lv_irem hx hb hd hcd (same rfl)
  · -- newarray
    split at ho <;> cases ho
    obtain ⟨g1, g2, g3, g4⟩ := hcd
    refine ez_newa hx hb hts hK hR hS hlk.1 hlk.2 g1 g2 (by omega) (by omega) hd fun H1 r1 s1 => kk H1 locs _ _ r1 s1 ?_ ?_ g3 g4
    · show n0 + (cells + 1) = ez_n h + 1
      omega
    · show u0 + (slots + _) = ez_u h + _
      omega
  · -- new
    cases ho
    obtain ⟨C, T, hC, rfl, h1, h2, h3, h4⟩ := hlk
    obtain ⟨g3, g4⟩ := hcd
    refine ez_newo hx hb hown hts hK hR hS hC h1 h2 h3 h4 (by omega) (by omega) hd fun H1 r1 s1 => kk H1 locs _ _ r1 s1 ?_ ?_ g3 g4
    · show n0 + (cells + 1) = ez_n h + 1
      omega
    · show u0 + (slots + _) = ez_u h + _
      omega
  · -- Object.<init>
    split at ho
    · split at ho <;> cases ho
      obtain ⟨h1, h2, h3⟩ := hlk rfl
      have hw := ez_few_map (B := B) (ea := ea) hcd
      refine W.objInit hx hb hown (hts _ h1) (hts _ h2) (hts _ h3) rfl hml.symm rfl hd hfr ?_ (same rfl)
      show 2 * 0 + _ + 12 ≤ _
      omega
    · cases ho
  · -- max, min, arraycopy
    obtain ⟨l1, l2, l3⟩ := hlk
    split at ho
    · cases ho
    · split at ho <;> cases ho
      obtain ⟨h1, h2, h3, h4⟩ := l1 rfl
      have hw := ez_few_map (B := B) (ea := ea) hcd
      exact va_mmax hx hb hml hown (hts _ h1) (hts _ h2) (hts _ h3) (hts _ h4) hfr (by omega) (by omega) (by omega) hd (same rfl)
    · split at ho <;> cases ho
      obtain ⟨h1, h2, h3, h4⟩ := l2 rfl
      have hw := ez_few_map (B := B) (ea := ea) hcd
      exact va_mmin hx hb hml hown (hts _ h1) (hts _ h2) (hts _ h3) (hts _ h4) hfr (by omega) (by omega) (by omega) hd (same rfl)
    · split at ho <;> cases ho
      obtain ⟨h1, h2, h3, h4⟩ := l3 (by omega)
      obtain ⟨g0, ⟨g1, g2⟩, g3, g4, g5, g6, g7⟩ := hcd
      have hw := ez_few_map (B := B) (ea := ea) g0
      have e1 : nativeFrameWords "java/lang/System" "arraycopy" 5 = 7 := by decide
      exact ez_copy hx hb hml hown hts h1 h2 h3 h4 hK hR hS hsz g1 g2 g3 g4 g5 g6 g7 hfr (by rw [e1]; omega) hd fun H1 locs1 r1 s1 => kk H1 locs1 cells slots r1 s1 hn0 hu0 hn1 hu1
  · cases ho
end EZ8
