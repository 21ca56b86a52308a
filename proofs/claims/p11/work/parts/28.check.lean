/-! THE TABLES ARE CHECKED BY A PROGRAM: tb: the words that a class's methods need; each is one of the tables' own -/
section EZT
variable (own : String) (tb : List Cond) (ncl : Nat) (ct : Nat → u_T) (cn : Nat → String) (nf : Nat → Nat) (ty : Nat → Nat → FieldType) (sta : Nat → String × String × String) (host : String)
/-- a number that tells most words apart: looked at first -/
def ez_ky (w : Cond) : Nat := match w with
  | .fieldLink _ i _ _ _ => 16 * i + 1
  | .fieldLinkNest _ i _ _ _ _ => 16 * i + 2
  | .methodLink _ i _ => 16 * i + 3
  | .methodLinkNest _ i _ _ => 16 * i + 4
  | .constant _ i _ => 16 * i + 5
  | .constantLong _ i _ => 16 * i + 6
  | .classLink _ i _ => 16 * i + 7
  | .instantiable _ n => 16 * n + 8
  | .initialized _ => 9
  | .instanceMethod _ => 10
  | .static _ => 11
  | .native _ => 12
  | .selects _ _ _ => 13
  | .arrayClass _ => 14
  | _ => 0
def ez_inb (w : Cond) : Bool := tb.any (fun v => Nat.beq (ez_ky v) (ez_ky w) && decide (v = w))
theorem ez_inb_iff {w : Cond} : ez_inb tb w = true ↔ w ∈ tb := by
  unfold ez_inb
  rw [List.any_eq_true]
  constructor
  · rintro ⟨v, hv, e⟩
    rw [Bool.and_eq_true] at e
    rw [← of_decide_eq_true e.2]
    exact hv
  · intro h
    exact ⟨w, h, by rw [Bool.and_eq_true]; exact ⟨Nat.beq_refl _, decide_eq_true rfl⟩⟩
def ez_cstb (nL : Nat) (i : ClassFile.Instr) (v : Int32) : Bool := match i with
  | .iconst n => decide (Int32.ofInt n = v)
  | .bipush n => decide ((Int8.ofInt n).toInt32 = v)
  | .sipush n => decide ((Int16.ofInt n).toInt32 = v)
  | .lconst n => decide (Int64.ofNat (n : Nat) = v.toInt64)
  | .ldc j => ez_inb tb (.constant own j v)
  | .ldc_w j => ez_inb tb (.constant own j v)
  | .ldc2_w j => ez_inb tb (.constantLong own j v.toInt64)
  | .iinc k n => decide (Int32.ofInt n = v) && decide (k < nL)
  | .istore k => decide (k < nL)
  | .istore_n k => decide (k.val < nL)
  | .astore k => decide (k < nL)
  | .astore_n k => decide (k.val < nL)
  | .lstore k => decide (k + 1 < nL)
  | .lstore_n k => decide (k.val + 1 < nL)
  | _ => true
theorem ez_cstb_ok {tbl : List Cond} (hs : ∀ w ∈ tb, w ∈ tbl) {nL : Nat} {i : ClassFile.Instr} {v : Int32} (h : ez_cstb own tb nL i v = true) : ez_cst own tbl nL i v := by
  cases i <;> simp only [ez_cstb, ez_cst, ez_inb_iff, decide_eq_true_eq, Bool.and_eq_true] at h ⊢ <;> first | exact h | exact hs _ h | trivial
def ez_brb (i : ClassFile.Instr) (pc a : Nat) : Bool := match i with
  | .ifCond _ off => decide ((pc : Int) + off = (a : Int))
  | .if_icmp _ off => decide ((pc : Int) + off = (a : Int))
  | _ => true
theorem ez_brb_ok {i : ClassFile.Instr} {pc a : Nat} (h : ez_brb i pc a = true) : ∀ cn off, i = .ifCond cn off ∨ i = .if_icmp cn off → (pc : Int) + off = (a : Int) := by
  rintro cn off (rfl | rfl)
  · exact of_decide_eq_true h
  · exact of_decide_eq_true h
def ez_jkb (i : ClassFile.Instr) (pc a : Nat) : Bool := match i with
  | .goto off => decide ((pc : Int) + off = (a : Int))
  | .tableswitch df lo hi os => decide ((∀ o ∈ os.toList, 0 ≤ (pc : Int) + o) ∧ 0 ≤ (pc : Int) + df ∧ hi = lo + os.toList.length - 1 ∧ ∀ q ∈ ez_tab lo os.toList, (Int32.ofInt q.1).toInt = q.1)
  | .lookupswitch df ps => decide ((∀ q ∈ ps.toList, 0 ≤ (pc : Int) + q.2) ∧ 0 ≤ (pc : Int) + df ∧ (ps.toList.zip (ps.toList.drop 1)).all (fun (a, next) => a.1 < next.1) = true ∧ ∀ q ∈ ps.toList, (Int32.ofInt q.1).toInt = q.1)
  | _ => true
theorem ez_jkb_ok {i : ClassFile.Instr} {pc a : Nat} (h : ez_jkb i pc a = true) : ez_jk i pc a := by
  cases i <;> simp only [ez_jkb, ez_jk] at h ⊢ <;> first | exact of_decide_eq_true h | trivial
def ez_tyb (k : Nat) (t : FieldType) : Bool := match k with
  | 0 => decide (t = .int)
  | 1 => decide (t = .boolean)
  | 2 => decide (t = .long)
  | _ + 3 => (match t with
    | .object _ => true
    | .array _ => true
    | _ => false)
theorem ez_tyb_ok {k : Nat} {t : FieldType} (h : ez_tyb k t = true) : (k = 0 → t = .int) ∧ (k = 1 → t = .boolean) ∧ (k = 2 → t = .long) ∧ (3 ≤ k → (∃ n, t = .object n) ∨ ∃ n, t = .array n) := by
  match k, h with
  | 0, h => exact ⟨fun _ => of_decide_eq_true h, fun q => by omega, fun q => by omega, fun q => by omega⟩
  | 1, h => exact ⟨fun q => by omega, fun _ => of_decide_eq_true h, fun q => by omega, fun q => by omega⟩
  | 2, h => exact ⟨fun q => by omega, fun q => by omega, fun _ => of_decide_eq_true h, fun q => by omega⟩
  | k + 3, h =>
    refine ⟨fun q => by omega, fun q => by omega, fun q => by omega, fun _ => ?_⟩
    cases t <;> simp only [ez_tyb] at h
    all_goals first | exact Or.inl ⟨_, rfl⟩ | exact Or.inr ⟨_, rfl⟩ | cases h
def ez_flb (idx a b : Nat) : Bool := ez_inb tb (.fieldLink own idx (ct a b).1 (ct a b).2.1 (ct a b).2.2.1) || ez_inb tb (.fieldLinkNest own idx (ct a b).1 (ct a b).2.1 (ct a b).2.2.1 host)
def ez_lkb (ini : Bool) (i : ClassFile.Instr) (a b k : Nat) : Bool := match i with
  | .getfield idx => decide (0 < a) && decide (a ≤ ncl) && decide (b < nf a) && ez_flb own tb ct host idx a b && ez_tyb k (ty a b)
  | .putfield idx => decide (0 < a) && decide (a ≤ ncl) && decide (b < nf a) && ((!(ct a b).2.2.2 && ez_flb own tb ct host idx a b) || ((ct a b).2.2.2 && ini && decide ((ct a b).1 = own) && ez_inb tb (.fieldLink own idx (ct a b).1 (ct a b).2.1 (ct a b).2.2.1))) && ez_tyb k (ty a b)
  | .getstatic idx => decide (0 < a) && (ez_inb tb (.fieldLink own idx (sta a).1 (sta a).2.1 (sta a).2.2) || ez_inb tb (.fieldLinkNest own idx (sta a).1 (sta a).2.1 (sta a).2.2 host))
  | .newarray at_ => (decide (at_ = .int ∧ a = 1000) || decide (at_ = .long ∧ a = 1002) || decide (at_ = .byte ∧ a = 1003)) && ez_inb tb (.arrayClass (newarray.typeOf at_))
  | .new idx => decide (0 < a) && decide (a ≤ ncl) && decide (b = nf a) && ez_inb tb (.classLink own idx (cn a)) && ez_inb tb (.instantiable (cn a) (nf a)) && ez_inb tb (.initialized (cn a)) && (List.range (nf a)).all (fun k => ez_tyb 0 (ty a k) || ez_tyb 1 (ty a k) || ez_tyb 2 (ty a k) || ez_tyb 3 (ty a k))
  | .invokespecial idx => !(decide (k = 0)) || (ez_inb tb (.methodLink own idx Lib.objectInit) && ez_inb tb (.instanceMethod Lib.objectInit))
  | .invokestatic idx => (!(decide (k = 1)) || (ez_inb tb (.methodLink own idx Lib.Math.max.name) && ez_inb tb (.static Lib.Math.max.name))) && (!(decide (k = 2)) || (ez_inb tb (.methodLink own idx Lib.Math.min.name) && ez_inb tb (.static Lib.Math.min.name))) && (!(decide (3 ≤ k)) || (ez_inb tb (.methodLink own idx arraycopyName) && ez_inb tb (.native arraycopyName) && ez_inb tb (.static arraycopyName)))
  | _ => true
/-- words that hold for all classes alike -/
def ez_gen (tbl : List Cond) : Prop := Cond.code Lib.objectInit ⟨#[0xb1]⟩ 1 none ∈ tbl ∧ Cond.initialized "java/lang/Math" ∈ tbl ∧ Cond.initialized "java/lang/System" ∈ tbl ∧ Cond.code Lib.Math.max.name Lib.Math.max.code 2 (some .int) ∈ tbl ∧ Cond.code Lib.Math.min.name Lib.Math.min.code 2 (some .int) ∈ tbl
theorem ez_flb_ok {tbl : List Cond} (hs : ∀ w ∈ tb, w ∈ tbl) {idx a b : Nat} (h : ez_flb own tb ct host idx a b = true) : Cond.fieldLink own idx (ct a b).1 (ct a b).2.1 (ct a b).2.2.1 ∈ tbl ∨ ∃ host, Cond.fieldLinkNest own idx (ct a b).1 (ct a b).2.1 (ct a b).2.2.1 host ∈ tbl := by
  simp only [ez_flb, ez_inb_iff, Bool.or_eq_true, decide_eq_true_eq] at h
  exact h.imp (hs _) (fun z => ⟨host, hs _ z⟩)
set_option maxHeartbeats 1000000 in
theorem ez_lkb_ok {tbl : List Cond} {cl : List vw_C} (hs : ∀ w ∈ tb, w ∈ tbl) (hg : ez_gen tbl) (hcls : ∀ a, 0 < a → a ≤ ncl → ez_Cls tbl cl nf ty a (cn a) (ct a)) {ini : Bool} {P : Prop} (hini : ini = true → P) {i : ClassFile.Instr} {a b k : Nat} (h : ez_lkb own tb ncl ct cn nf ty sta host ini i a b k = true) : ez_lk own tbl cl nf ty sta P i a b k := by
  unfold ez_lkb at h
  split at h
  · simp only [Bool.and_eq_true, decide_eq_true_eq] at h
    obtain ⟨⟨⟨⟨h1, h2⟩, h3⟩, h4⟩, h5⟩ := h
    exact ⟨_, _, hcls a h1 h2, h3, ez_flb_ok own tb ct host hs h4, ez_tyb_ok h5⟩
  · simp only [Bool.and_eq_true, Bool.or_eq_true, Bool.not_eq_true', decide_eq_true_eq, ez_inb_iff] at h
    obtain ⟨⟨⟨⟨h1, h2⟩, h3⟩, h4⟩, h5⟩ := h
    refine ⟨_, _, hcls a h1 h2, h3, ?_, ez_tyb_ok h5⟩
    rcases h4 with ⟨z1, z2⟩ | ⟨⟨⟨z1, z2⟩, z3⟩, z4⟩
    · exact Or.inl ⟨z1, ez_flb_ok own tb ct host hs z2⟩
    · exact Or.inr ⟨z1, hini z2, z3, hs _ z4⟩
  · simp only [Bool.and_eq_true, Bool.or_eq_true, decide_eq_true_eq, ez_inb_iff] at h
    exact ⟨h.1, h.2.imp (hs _) (fun z => ⟨host, hs _ z⟩)⟩
  · simp only [Bool.and_eq_true, Bool.or_eq_true, decide_eq_true_eq, ez_inb_iff] at h
    exact ⟨(or_assoc.mp h.1), hs _ h.2⟩
  · simp only [Bool.and_eq_true, decide_eq_true_eq, ez_inb_iff] at h
    obtain ⟨⟨⟨⟨⟨⟨h1, h2⟩, h3⟩, h4⟩, h5⟩, h6⟩, h7⟩ := h
    refine ⟨_, _, hcls a h1 h2, h3, hs _ h4, hs _ h5, hs _ h6, fun j hj => ?_⟩
    have := List.all_eq_true.mp h7 j (List.mem_range.mpr hj)
    simp only [Bool.or_eq_true] at this
    rcases this with ((z | z) | z) | z
    · exact Or.inl ((ez_tyb_ok z).1 rfl)
    · exact Or.inr (Or.inl ((ez_tyb_ok z).2.1 rfl))
    · exact Or.inr (Or.inr (Or.inl ((ez_tyb_ok z).2.2.1 rfl)))
    · exact Or.inr (Or.inr (Or.inr ((ez_tyb_ok z).2.2.2 (Nat.le_refl _))))
  · simp only [Bool.and_eq_true, Bool.or_eq_true, Bool.not_eq_true', decide_eq_false_iff_not, decide_eq_true_eq, ez_inb_iff] at h
    intro hk
    rcases h with z | z
    · exact absurd hk z
    · exact ⟨hs _ z.1, hs _ z.2, hg.1⟩
  · simp only [Bool.and_eq_true, Bool.or_eq_true, Bool.not_eq_true', decide_eq_false_iff_not, decide_eq_true_eq, ez_inb_iff] at h
    obtain ⟨⟨h1, h2⟩, h3⟩ := h
    refine ⟨fun hk => ?_, fun hk => ?_, fun hk => ?_⟩
    · rcases h1 with z | z
      · exact absurd hk z
      · exact ⟨hs _ z.1, hs _ z.2, hg.2.1, hg.2.2.2.1⟩
    · rcases h2 with z | z
      · exact absurd hk z
      · exact ⟨hs _ z.1, hs _ z.2, hg.2.1, hg.2.2.2.2⟩
    · rcases h3 with z | z
      · exact absurd hk z
      · exact ⟨hs _ z.1.1, hs _ z.1.2, hs _ z.2, hg.2.2.1⟩
  · unfold ez_lk
    split <;> first | trivial | simp_all
end EZT
