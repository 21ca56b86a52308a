/-- how long an instruction is -/
def ez_ln (i : ClassFile.Instr) : Nat := match i with
  | .bipush _ | .ldc _ | .iload _ | .lload _ | .aload _ | .istore _ | .lstore _ | .astore _ | .newarray _ => 2
  | .sipush _ | .ldc_w _ | .ldc2_w _ | .iinc _ _ | .ifCond _ _ | .if_icmp _ _ | .goto _ | .getfield _ | .putfield _ | .getstatic _ | .new _ | .invokevirtual _ | .invokespecial _ | .invokestatic _ => 3
  | _ => 1
/-- the constant that a table gives an instruction is its own -/
def ez_cst (own : String) (tbl : List Cond) (nL : Nat) (i : ClassFile.Instr) (v : Int32) : Prop := match i with
  | .iconst n => Int32.ofInt n = v
  | .bipush n => (Int8.ofInt n).toInt32 = v
  | .sipush n => (Int16.ofInt n).toInt32 = v
  | .lconst n => Int64.ofNat (n : Nat) = v.toInt64
  | .ldc j => Jvm.Cond.constant own j v ∈ tbl
  | .ldc_w j => Jvm.Cond.constant own j v ∈ tbl
  | .ldc2_w j => Jvm.Cond.constantLong own j v.toInt64 ∈ tbl
  | .iinc k n => Int32.ofInt n = v ∧ k < nL
  | .istore k => k < nL
  | .istore_n k => k.val < nL
  | .astore k => k < nL
  | .astore_n k => k.val < nL
  | .lstore k => k + 1 < nL
  | .lstore_n k => k.val + 1 < nL
  | _ => True
section EZ2
variable {p : Program} {l : Launch} {e : Env} {R : Room} {s : State} {m : MethodId} {args : Array Value} {below : List Frame} {meth : Method} {c : Code} {H : Heap} {locs : List Loc} {cells slots : Nat} {Q : State → Prop} {cc : ByteArray} {pc nL B : Nat} {ea : Nat → Nat} {lsM : Array Slot} {st st' : List Value} {ls ls' : List (Option Value)} {i : ClassFile.Instr} {v : Int32} {own : String} {tbl : List Cond}
set_option maxHeartbeats 1000000 in
theorem ez_op_snd (hx : p.tables.exec = Jvm.exec) (hb : c.code = cc) (hown : s.vm.findClass own = some m.cls) (hts : ∀ w ∈ tbl, w.before args s = true) (hd : decode cc pc = .ok (i, ez_ln i)) (hc : ez_cst own tbl nL i v) (ho : ez_op i v st = some st')
    (k : W p l e R s m args below meth c H locs cells slots Q (F0 m (pc + ez_ln i) lsM (st'.map (ez_tr B ea)))) : W p l e R s m args below meth c H locs cells slots Q (F0 m pc lsM (st.map (ez_tr B ea))) := by
  unfold ez_op at ho
  split at ho
  · cases ho; exact lv_iconst hx hb hd hc k
  · cases ho; exact lv_bipush hx hb hd hc k
  · cases ho; exact lv_sipush hx hb hd hc k
  · cases ho; exact lv_ldc hx hb hown (hts _ hc) hd k
  · cases ho; exact lv_ldcw hx hb hown (hts _ hc) hd k
  · cases ho; exact lv_ldc2 hx hb hown (hts _ hc) hd k
  · cases ho; exact lv_lconst hx hb hd hc k
  · split at ho <;> cases ho; exact lv_i2b hx hb hd rfl k
  · split at ho <;> cases ho; exact lv_iadd hx hb hd k
  · split at ho <;> cases ho; exact lv_isub hx hb hd k
  · split at ho <;> cases ho; exact lv_imul hx hb hd k
  · split at ho <;> cases ho; exact lv_iand hx hb hd k
  · split at ho <;> cases ho; exact lv_ior hx hb hd k
  · split at ho <;> cases ho; exact lv_ixor hx hb hd k
  · split at ho <;> cases ho; exact lv_ishl hx hb hd k
  · split at ho <;> cases ho; exact lv_ishr hx hb hd k
  · split at ho <;> cases ho; exact lv_iushr hx hb hd rfl k
  · split at ho <;> cases ho; exact lv_ineg hx hb hd k
  · split at ho <;> cases ho; exact lv_i2l hx hb hd rfl k
  · split at ho <;> cases ho; exact lv_l2i hx hb hd rfl k
  · split at ho <;> cases ho; exact lv_ladd hx hb hd k
  · split at ho <;> cases ho; exact lv_lsub hx hb hd k
  · split at ho <;> cases ho; exact lv_lmul hx hb hd k
  · split at ho <;> cases ho; exact W.lcmp hx hb hd k
  · split at ho <;> cases ho
    · exact lv_dup hx hb hd rfl k
    · exact lv_dup hx hb hd rfl k
  · split at ho <;> cases ho
    · exact lv_dup2_11 hx hb hd rfl rfl k
    · exact lv_dup2_11 hx hb hd rfl rfl k
  · split at ho <;> cases ho
    · exact lv_dup_x1 hx hb hd rfl rfl k
    · exact lv_dup_x1 hx hb hd rfl rfl k
  · split at ho <;> cases ho
    · exact lv_pop hx hb hd rfl k
    · exact lv_pop hx hb hd rfl k
  · cases ho
theorem ez_ld_snd (hx : p.tables.exec = Jvm.exec) (hb : c.code = cc) (hl : lv_has lsM nL (ez_lv B ea ls)) (hd : decode cc pc = .ok (i, ez_ln i)) (ho : ez_ld i ls st = some st')
    (k : W p l e R s m args below meth c H locs cells slots Q (F0 m (pc + ez_ln i) lsM (st'.map (ez_tr B ea)))) : W p l e R s m args below meth c H locs cells slots Q (F0 m pc lsM (st.map (ez_tr B ea))) := by
  unfold ez_ld at ho
  split at ho
  · split at ho <;> cases ho; rename_i hq; exact lv_iload hx hb hd (ez_lv_at hl hq) k
  · split at ho <;> cases ho; rename_i hq; exact lv_iload_n hx hb hd rfl (ez_lv_at hl hq) k
  · split at ho <;> cases ho; rename_i hq; exact lv_lload hx hb hd (ez_lv_at hl hq) k
  · split at ho <;> cases ho; rename_i hq; exact lv_lload_n hx hb hd rfl (ez_lv_at hl hq) k
  · split at ho <;> cases ho
    · rename_i hq; exact lv_aload hx hb hd (ez_lv_at hl hq) k
    · rename_i hq; exact lv_aload hx hb hd (ez_lv_at hl hq) k
  · split at ho <;> cases ho
    · rename_i hq; exact lv_aload_n hx hb hd rfl (ez_lv_at hl hq) k
    · rename_i hq; exact lv_aload_n hx hb hd rfl (ez_lv_at hl hq) k
  · cases ho
theorem ez_st_snd (hx : p.tables.exec = Jvm.exec) (hb : c.code = cc) (hl : lv_has lsM nL (ez_lv B ea ls)) (hd : decode cc pc = .ok (i, ez_ln i)) (hc : ez_cst own tbl nL i v) (ho : ez_st i v ls st = some (ls', st'))
    (k : ∀ lsM' : Array Slot, lv_has lsM' nL (ez_lv B ea ls') → W p l e R s m args below meth c H locs cells slots Q (F0 m (pc + ez_ln i) lsM' (st'.map (ez_tr B ea)))) : W p l e R s m args below meth c H locs cells slots Q (F0 m pc lsM (st.map (ez_tr B ea))) := by
  unfold ez_st at ho
  split at ho
  · split at ho <;> cases ho; exact lv_istore hx hb hd hl hc rfl fun _ h' => k _ (ez_lv_set h')
  · split at ho <;> cases ho; exact lv_istore_n hx hb hd rfl hl hc rfl fun _ h' => k _ (ez_lv_set h')
  · split at ho <;> cases ho; exact lv_lstore hx hb hd hl hc rfl fun _ h' => k _ (ez_lv_set2 h')
  · split at ho <;> cases ho; exact lv_lstore_n hx hb hd rfl hl hc rfl fun _ h' => k _ (ez_lv_set2 h')
  · split at ho <;> cases ho
    · exact lv_astore hx hb hd hl hc rfl fun _ h' => k _ (ez_lv_set (v := .ref _) h')
    · exact lv_astore hx hb hd hl hc rfl fun _ h' => k _ (ez_lv_set (v := .retAddr _) h')
  · split at ho <;> cases ho
    · exact lv_astore_n hx hb hd rfl hl hc rfl fun _ h' => k _ (ez_lv_set (v := .ref _) h')
    · exact lv_astore_n hx hb hd rfl hl hc rfl fun _ h' => k _ (ez_lv_set (v := .retAddr _) h')
  · split at ho <;> cases ho
    rename_i x hq
    obtain ⟨j, hj⟩ := List.getElem?_of_mem (ez_lv_mem (B := B) (ea := ea) (q := (_, .int x)) |>.mpr ⟨_, hq, rfl⟩)
    exact lv_iinc hx hb hd hl hj (by rw [hc.1]) hc.2 rfl fun _ h' => k _ (ez_lv_set (v := .int _) h')
  · cases ho
theorem ez_br_snd (hx : p.tables.exec = Jvm.exec) (hb : c.code = cc) {a : Nat} {cd : Prop} (hd : decode cc pc = .ok (i, ez_ln i)) (ha : ∀ cn off, i = .ifCond cn off ∨ i = .if_icmp cn off → (pc : Int) + off = (a : Int)) (ho : ez_br i st = some (cd, st'))
    (kt : cd → W p l e R s m args below meth c H locs cells slots Q (F0 m a lsM (st'.map (ez_tr B ea)))) (kf : ¬ cd → W p l e R s m args below meth c H locs cells slots Q (F0 m (pc + 3) lsM (st'.map (ez_tr B ea)))) : W p l e R s m args below meth c H locs cells slots Q (F0 m pc lsM (st.map (ez_tr B ea))) := by
  unfold ez_br at ho
  split at ho
  · rename_i cn off
    have hz := ha cn off (Or.inl rfl)
    split at ho <;> cases ho
    cases cn
    · exact lv_if_eq hx hb hd hz kt kf
    · exact lv_if_ne hx hb hd hz kt (fun q => kf (fun z => z q))
    · exact lv_if_lt hx hb hd hz kt kf
    · exact lv_if_ge hx hb hd hz kt kf
    · exact lv_if_gt hx hb hd hz kt kf
    · exact lv_if_le hx hb hd hz kt kf
  · rename_i cn off
    have hz := ha cn off (Or.inr rfl)
    split at ho <;> cases ho
    cases cn
    · exact lv_icmp_eq hx hb hd hz kt kf
    · exact lv_icmp_ne hx hb hd hz kt (fun q => kf (fun z => z q))
    · exact lv_icmp_lt hx hb hd hz kt kf
    · exact lv_icmp_ge hx hb hd hz kt kf
    · exact lv_icmp_gt hx hb hd hz kt kf
    · exact lv_icmp_le hx hb hd hz kt kf
  · cases ho
end EZ2
