/-! the model reads -/
def imP (fl : Nat) (P : Prop) : Prop := fl = 0 → P
def spP (fl : Nat) (A B : Prop) : Prop := (fl = 0 → A) ∧ (fl ≠ 0 → B)
def sp3 (fl : Nat) (s v : Int) (A B C : Prop) : Prop := (fl = 0 → s ≠ v → A) ∧ (fl = 0 → s = v → B) ∧ (fl ≠ 0 → C)
def oM (f : Nat → Int32) (o : Nat → Int) (m : Nat) : Prop := ∀ k, k < m → (f k).toInt % 256 = o k
theorem oM_put {f f2 : Nat → Int32} {o : Nat → Int} {m m2 : Nat} {b : Int} (A : oM f o m) (h1 : (f2 m).toInt % 256 = b) (h2 : ∀ k, k ≠ m → f2 k = f k) (hm : m2 = m + 1) : oM f2 (putT o m b) m2 := fun k hk => by
  subst hm
  show _ = if k = m then b else o k
  by_cases q : k = m
  · rw [if_pos q, q, h1]
  · rw [if_neg q, h2 k q]; exact A k (by omega)
theorem ws_cz {L : Nat → Nat} : ∀ n, wsN L n ≤ 16384 * czN L n := by
  intro n
  induction n with
  | zero => exact Nat.le_refl 0
  | succ n ih =>
    show wsN L n + (if 1 ≤ L n then 2 ^ (15 - L n) else 0) ≤ 16384 * (czN L n + if 1 ≤ L n then 1 else 0)
    by_cases q : 1 ≤ L n
    · have h2 : (2 : Nat) ^ (15 - L n) ≤ 2 ^ 14 := Nat.pow_le_pow_right (by decide) (by omega)
      have h3 : (2 : Nat) ^ 14 = 16384 := by decide
      rw [if_pos q, if_pos q]; omega
    · rw [if_neg q, if_neg q]; omega
theorem ws_one {L : Nat → Nat} {n : Nat} (h : ∀ k, k < n → L k ≤ 15) (hw : wsN L n = 32768) : plN L n 16 = 1 → ctN L 1 n = 1 := fun q => by
  have h1 := ws_cz (L := L) n
  rw [← pl_cz n h, q] at h1
  omega
theorem cz_s {L : Nat → Nat} {n m : Nat} {a b : Int} (ha : a = (czN L n : Nat)) (hb : 1 ≤ L n ∧ b = a + 1 ∨ L n = 0 ∧ b = a) (hm : m = n + 1) : b = (czN L m : Nat) := by
  subst hm
  show b = ((czN L n + (if 1 ≤ L n then 1 else 0) : Nat) : Int)
  rcases hb with q | q
  · rw [if_pos q.1]; omega
  · rw [if_neg (by omega)]; omega
theorem cz_le {L : Nat → Nat} : ∀ n, czN L n ≤ n := by
  intro n
  induction n with
  | zero => exact Nat.le_refl 0
  | succ n ih =>
    show czN L n + (if 1 ≤ L n then 1 else 0) ≤ n + 1
    split <;> omega
/-- a row of c places whose first i are 0 -/
theorem z0_s {h h2 : ez_H} {c x i j : Nat} {y : Int32} (A : ∀ k, k < i → (ez_I h c k).toInt = 0) (e : h2 = ez_setI h c x y) (hx : x = i) (hy : y.toInt = 0) (hj : j = i + 1) : ∀ k, k < j → (ez_I h2 c k).toInt = 0 := fun k hk => by
  subst hj; subst hx
  by_cases q : k = x
  · rw [q, zI_eq e, hy]
  · rw [zI_ne e (fun c => q c.2)]; exact A k (by omega)
theorem ctC_z {f : Nat → Int32} {L : Nat → Nat} (A : ∀ k, k < 17 → (f k).toInt = 0) : ctC f L 0 := ⟨A 0 (by decide), fun l _ h2 => by rw [A l (by omega)]; rfl⟩
theorem ncN_bb {L : Nat → Nat} {N l : Nat} (hN : N ≤ 288) (h : l ≤ 16) : ncN L N l ≤ 40000000 := by
  by_cases e : l = 0
  · subst e; show 0 ≤ 40000000; omega
  · have h1 := ncN_le L N (l - 1)
    rw [show l - 1 + 1 = l by omega] at h1
    have h2 : (2 : Nat) ^ (l - 1 + 2) ≤ 2 ^ 17 := Nat.pow_le_pow_right (by decide) (by omega)
    have h3 : N * 2 ^ (l - 1 + 2) ≤ 288 * 2 ^ 17 := Nat.mul_le_mul hN h2
    omega
noncomputable def upC (T : Nat → Int) (n : Nat) (L1 : Nat → Nat) (N1 : Nat) (LD : Nat → Nat) (ND q : Nat) : Option ((Nat → Int) × Nat) → Option (Nat × (Nat → Int) × Nat)
  | none => none
  | some (o, m) => upP T n L1 N1 LD ND (8 * n) q o m
theorem upC_is {T : Nat → Int} {n : Nat} {L1 : Nat → Nat} {N1 : Nat} {LD : Nat → Nat} {ND p q : Nat} {o : Nat → Int} {m : Nat} {w : Option ((Nat → Int) × Nat)} (h : stP T n L1 N1 LD ND p o m = stF (cpQ q w)) : upP T n L1 N1 LD ND (8 * n) p o m = upC T n L1 N1 LD ND q w := by
  cases w with
  | none => exact upP_n h
  | some r => exact upP_g (r := (q, r.1, r.2)) h
theorem ws_ext {L L' : Nat → Nat} {M : Nat} : ∀ N, M ≤ N → (∀ k, k < M → L k = L' k) → (∀ k, M ≤ k → k < N → L k = 0) → wsN L N = wsN L' M := by
  intro N
  induction N with
  | zero => intro a _ _; rw [show M = 0 by omega]; rfl
  | succ N ih =>
    intro a h1 h2
    by_cases e : M = N + 1
    · rw [← e]; exact ws_eq M h1
    · show wsN L N + (if 1 ≤ L N then 2 ^ (15 - L N) else 0) = _
      rw [if_neg (by have := h2 N (by omega) (by omega); omega), ih (by omega) h1 (fun k p q => h2 k p (by omega))]
      omega
theorem sm_ext {L : Nat → Nat} {M : Nat} : ∀ N, M ≤ N → (∀ k, M ≤ k → k < N → L k = 0) → smN L N = smN L M := by
  intro N
  induction N with
  | zero => intro a _; rw [show M = 0 by omega]
  | succ N ih =>
    intro a h2
    by_cases e : M = N + 1
    · rw [← e]
    · show smN L N + L N = _
      rw [h2 N (by omega) (by omega), ih (by omega) (fun k p q => h2 k p (by omega))]
      omega
/-- one_some over the first M alone -/
theorem one_M {L L' : Nat → Nat} {M N : Nat} (hM : M ≤ N) (h1 : ∀ k, k < M → L k = L' k) (h2 : ∀ k, M ≤ k → k < N → L k = 0) : plN L N 16 = plN L' M 16 ∧ ctN L 1 N = ctN L' 1 M := by
  have hc : ∀ l, l ≠ 0 → ctN L l N = ctN L' l M := fun l hl => by
    rw [ctN_more hl N hM h2, ctN_congr M h1]
  refine ⟨?_, hc 1 (by decide)⟩
  have : ∀ l, plN L N l = plN L' M l := by
    intro l
    induction l with
    | zero => rfl
    | succ l ih =>
      by_cases e : l = 0
      · subst e; rfl
      · rw [plN_s (by omega), plN_s (by omega), ih, hc l e]
  exact this 16
def cpN (f : Nat → Int32) (g : Nat → Nat) (n : Nat) : Prop := ∀ k, k < n → (f k).toInt = (g k : Nat)
theorem cpN_s {h h2 : ez_H} {c x n m : Nat} {y : Int32} {g : Nat → Nat} (A : cpN (ez_I h c) g n) (e : h2 = ez_setI h c x y) (hx : x = n) (hy : y.toInt = (g n : Nat)) (hm : m = n + 1) : cpN (ez_I h2 c) g m := fun k hk => by
  subst hm; subst hx
  by_cases q : k = x
  · rw [q, zI_eq e, hy]
  · rw [zI_ne e (fun c => q c.2)]; exact A k (by omega)
theorem cpN_nL {f : Nat → Int32} {g : Nat → Nat} {n : Nat} (A : cpN f g n) : ∀ k, k < n → nL f k = g k := fun k hk => by
  have := A k hk
  show (f k).toInt.toNat = _
  omega
theorem cpN_aR {f : Nat → Int32} {g : Nat → Nat} {n : Nat} (A : cpN f g n) (h : ∀ k, k < n → g k ≤ 15) : aR f n 0 15 := fun k hk => by
  have h1 := A k hk
  have h2 := h k hk
  omega
theorem al_19 {f : Nat → Int32} {T : Nat → Int} {p i : Nat} (A : alI f T p i 19) : aR f 19 0 15 := fun k hk => by
  have h1 := A k hk
  have h2 := alF_7 (T := T) (p := p) i k
  omega
theorem aR_set {h h2 : ez_H} {c x n : Nat} {y : Int32} {lo hi : Int} (A : aR (ez_I h c) n lo hi) (e : h2 = ez_setI h c x y) (hy : lo ≤ y.toInt ∧ y.toInt ≤ hi) : aR (ez_I h2 c) n lo hi := fun k hk => by
  by_cases q : k = x
  · rw [q, zI_eq e]; exact hy
  · rw [zI_ne e (fun c => q c.2)]; exact A k hk
theorem alI_z {f : Nat → Int32} {T : Nat → Int} {p c : Nat} (A : ∀ k, k < c → (f k).toInt = 0) : alI f T p 0 c := fun k hk => by rw [A k hk]; rfl
theorem rE_lo {s : Nat} (h : s < 16) : rEf s = 0 := by unfold rEf; rw [if_neg (by omega)]
theorem rE_hi {s : Nat} (h : 16 ≤ s ∧ s < 19) : rEf s = REf (s - 16) := by unfold rEf; rw [if_pos h]
theorem rw_15 {r : Nat → Nat} {f : Nat → Int32} {z : Nat} (A : rwJ f r z) : ∀ k, k < z → r k ≤ 15 := fun k hk => (A k hk).2
theorem lit_15 {r : Nat → Nat} {nl z : Nat} (A : ∀ k, k < z → r k ≤ 15) (h : nl ≤ z) : ∀ k, litF nl r k ≤ 15 := fun k => by
  show (if k < nl then r k else 0) ≤ 15
  by_cases q : k < nl
  · rw [if_pos q]; exact A k (by omega)
  · rw [if_neg q]; omega
theorem dis_15 {r : Nat → Nat} {nl nd z : Nat} (A : ∀ k, k < z → r k ≤ 15) (h : nl + nd ≤ z) : ∀ k, disF nl nd r k ≤ 15 := fun k => by
  show (if k < nd then r (nl + k) else 0) ≤ 15
  by_cases q : k < nd
  · rw [if_pos q]; exact A (nl + k) (by omega)
  · rw [if_neg q]; omega
theorem dis_0 {r : Nat → Nat} {nl nd k : Nat} (h : nd ≤ k) : disF nl nd r k = 0 := if_neg (by omega)
/-! PRINTED by wip/pack: the model reads: a byte put out, a symbol -/
theorem x59_0 : ∀ q k : Nat, (q = 71 ∧ k = 61) → (q = 71 ∧ k = 60 ∨ q = 71 ∧ k = 61) := fun q k hk => (.inr hk)
theorem x59_1 : ∀ q : Nat, (False) → (q = 76) := fun q hk => hk.elim
theorem x59_2 : ∀ q : Nat, (False) → (False) := fun q hk => hk.elim
theorem x59_3 : ∀ k : Nat, ¬ (76 = 71 ∧ k = 61) := fun k c => by omega
set_option maxRecDepth 4000 in
set_option maxHeartbeats 2000000 in
theorem d_give2 {E : Nat → Nat × (Nat → Int32)} {d : Nat} {Q : ez_Q} {h : ez_H} {v : Int32} (S : zSh h) (hg : 0 ≤ (ez_I h 71 60).toInt ∧ (ez_I h 71 60).toInt ≤ 6000) (K : ∀ h2, zW (fun q k => q = 71 ∧ k = 60 ∨ q = 71 ∧ k = 61) (fun q => q = 76) (fun _ => False) h h2 → ((ez_I h 71 60).toInt = 6000 → ((ez_I h 71 61).toInt = 0 → (ez_I h2 71 61).toInt = 9) ∧ ((ez_I h 71 61).toInt ≠ 0 → (ez_I h2 71 61).toInt = (ez_I h 71 61).toInt) ∧ (ez_I h2 71 60).toInt = (ez_I h 71 60).toInt ∧ ez_I h2 76 = ez_I h 76) → ((ez_I h 71 60).toInt < 6000 → (ez_I h2 71 60).toInt = (ez_I h 71 60).toInt + 1 ∧ (ez_I h2 71 61).toInt = (ez_I h 71 61).toInt ∧ ((ez_I h2 76 (ez_I h 71 60).toInt.toNat).toInt % 256 = v.toInt % 256 ∧ ∀ k, k ≠ (ez_I h 71 60).toInt.toNat → ez_I h2 76 k = ez_I h 76 k)) → Q (.inl none) h2) : pw E (d + 1) 53 0 [some (.ref 71), some (.int v)] [] h Q := by
  have gv := z_rng v
  have F := zW_refl (fun q k => q = 71 ∧ k = 60 ∨ q = 71 ∧ k = 61) (fun q => q = 76) (fun _ => False) h
  apply ez_Wp_in
  show ez_gw _ _ _ _ _ _ (cz_53) _ _ _ _ _
  refine gw_skip _ ?_
  have r1 := z_rng (ez_I h 71 60)
  have r2 := z_rng (ez_I h 71 61)
  refine gw_ld rfl rfl ?_
  refine z_gI2 (by decide) (zT S (by decide) rfl) (rfl) ?_
  refine z_C (m := 6000) rfl rfl (fun x3 ex3 => ?_)
  refine z_b2 (fun c4 => ?_) (fun c4 => ?_)
  · have c4 : ((ez_I h 71 60)).toInt ≠ x3.toInt := c4
    refine gw_skip _ ?_
    refine gw_ld rfl rfl ?_
    refine z_gR (q := 76) (zT S (by decide) rfl) (zRf S (by decide) (by decide) rfl) (by decide) ?_
    refine gw_ld rfl rfl ?_
    refine z_gI2 (by decide) (zT S (by decide) rfl) (rfl) ?_
    refine gw_ld rfl rfl ?_
    refine z_1 rfl (fun x5 ex5 => ?_)
    have rx5 := z_rng x5
    have vx5 := n_i2b v
    refine z_bs (n := 6000) (zT S (by decide) rfl) (zN S (by decide) rfl) (by omega) (fun h6 e7 => ?_)
    have S9 := zSh_set S e7
    have F10 := zW_setA F e7 (by decide)
    have f11 : ez_I h6 71 60 = (ez_I h 71 60) := (zI_ne e7 (by omega)).trans (rfl)
    have f12 : ez_I h6 71 61 = (ez_I h 71 61) := (zI_ne e7 (by omega)).trans (rfl)
    have A13 : ((ez_I h6 76 (ez_I h 71 60).toInt.toNat).toInt % 256 = v.toInt % 256 ∧ ∀ k, k ≠ (ez_I h 71 60).toInt.toNat → ez_I h6 76 k = ez_I h 76 k) := ⟨by rw [show (ez_I h 71 60).toInt.toNat = ((ez_I h 71 60)).toInt.toNat by omega, zI_eq e7, n_i2b, ex5, n_i2b], fun k hk => zI_ne e7 (by omega)⟩
    refine gw_ld rfl rfl ?_
    refine gw_op rfl ?_
    refine z_gI2 (by decide) (zT S9 (by decide) rfl) (f11) ?_
    refine z_C (m := 1) rfl rfl (fun x14 ex14 => ?_)
    refine z_add (by omega) (fun x15 ex15 => ?_)
    refine z_pI (zT S9 (by decide) rfl) (fun h16 e17 => ?_)
    have S18 := zSh_set S9 e17
    have F19 := zW_setF F10 e17 (by decide)
    have f20 : ez_I h16 71 60 = x15 := zI_eq e17
    have f21 : ez_I h16 71 61 = (ez_I h 71 61) := (zI_ne e17 (by decide)).trans (f12)
    have A22 : ((ez_I h16 76 (ez_I h 71 60).toInt.toNat).toInt % 256 = v.toInt % 256 ∧ ∀ k, k ≠ (ez_I h 71 60).toInt.toNat → ez_I h16 76 k = ez_I h 76 k) := by rw [zI_fn e17 76 (by decide)]; exact A13
    clear A13
    refine z_rv ?_
    have t23 := congrArg Int32.toInt (f20)
    have t24 := congrArg Int32.toInt (f21)
    exact K _ F19 (fun q => by exfalso; omega) (fun q => ⟨by omega, by omega, A22⟩)
  · have c4 : ¬ (((ez_I h 71 60)).toInt ≠ x3.toInt) := c4
    refine gw_ld rfl rfl ?_
    refine z_C (m := 9) rfl rfl (fun x25 ex25 => ?_)
    refine z_cl rfl rfl rfl rfl rfl rfl rfl rfl rfl rfl rfl (zT S (by decide) rfl) ?_
    refine d_wrong (n := x25) S (fun h26 F27 k28 k29 => ?_)
    have S30 := zW_sh F27 S
    have F31 := zW_tr F (zW_mono F27 (x59_0) (x59_1) (x59_2))
    have f32 : ez_I h26 71 60 = (ez_I h 71 60) := (zW_f F27 (fun c => c) (by decide)).trans (rfl)
    have r33 := z_rng (ez_I h26 71 61)
    have A34 : ez_I h26 76 = ez_I h 76 := by rw [zW_fn F27 76 (fun c => c) (x59_3)]
    refine z_rv ?_
    have t35 := congrArg Int32.toInt (f32)
    exact K _ F31 (fun q => ⟨fun q2 => by omega, fun q2 => by omega, by omega, A34⟩) (fun q => by exfalso; omega)
theorem x59_4 : ∀ q k : Nat, (q = 71 ∧ k = 61) → (q = 71 ∧ k = 59 ∨ q = 71 ∧ k = 61) := fun q k hk => (.inr hk)
theorem x59_5 : ∀ q : Nat, (False) → (q = 115) := fun q hk => hk.elim
theorem x59_6 : ∀ k : Nat, ¬ (115 = 71 ∧ k = 61) := fun k c => by omega
theorem x59_7 : ¬ (71 = 115) := by omega
theorem x59_8 : ¬ (71 = 71 ∧ 6 = 59 ∨ 71 = 71 ∧ 6 = 61) := by omega
theorem x59_9 : ¬ (72 = 115) := by omega
theorem x59_10 : ∀ k : Nat, ¬ (72 = 71 ∧ k = 59 ∨ 72 = 71 ∧ k = 61) := fun k c => by omega
theorem x59_11 : ∀ q k : Nat, (q = 71 ∧ k = 59 ∨ q = 71 ∧ k = 61) → (q = 71 ∧ k = 59 ∨ q = 71 ∧ k = 61) := fun q k hk => hk.elim (fun g => (.inl g)) (fun hk => (.inr hk))
theorem x59_12 : ∀ k : Nat, ¬ (115 = 71 ∧ k = 59 ∨ 115 = 71 ∧ k = 61) := fun k c => by omega
set_option maxRecDepth 4000 in
set_option maxHeartbeats 2000000 in
theorem d_sym_L2 {E : Nat → Nat × (Nat → Int32)} {d : Nat} {Q : ez_Q} {h : ez_H} {u : Nat} {n : Int32} (S : zSh h) {nu : Nat} (hu : zA u nu) (hu2 : u ≠ 115 ∧ u ≠ 71) (hn : 0 ≤ n.toInt ∧ n.toInt ≤ nu ∧ nu ≤ 288) (hz : 0 ≤ (ez_I h 71 6).toInt ∧ (ez_I h 71 6).toInt ≤ 6000) (hp : 0 ≤ (ez_I h 71 59).toInt ∧ (ez_I h 71 59).toInt ≤ 8 * (ez_I h 71 6).toInt) (hf : (ez_I h 71 61).toInt = 0) (hL : aR (ez_I h u) n.toInt.toNat 0 15) (hone : plN (nL (ez_I h u)) n.toInt.toNat 16 = 1 → ctN (nL (ez_I h u)) 1 n.toInt.toNat = 1) (K : ∀ h2 (x : Int32), zW (fun q k => q = 71 ∧ k = 59 ∨ q = 71 ∧ k = 61) (fun q => q = 115) (fun _ => False) h h2 → (((ez_I h2 71 61).toInt = 0 ∧ ∃ q : Nat, sdR (tB (ez_I h 72)) (ez_I h 71 6).toInt.toNat (ez_I h 71 59).toInt.toNat (nL (ez_I h u)) n.toInt.toNat = some (x.toInt.toNat, q) ∧ 0 ≤ x.toInt ∧ (ez_I h2 71 59).toInt = q) ∨ (1 ≤ (ez_I h2 71 61).toInt ∧ sdR (tB (ez_I h 72)) (ez_I h 71 6).toInt.toNat (ez_I h 71 59).toInt.toNat (nL (ez_I h u)) n.toInt.toNat = none ∧ x.toInt = 0)) → (0 ≤ (ez_I h2 71 59).toInt ∧ (ez_I h2 71 59).toInt ≤ 8 * (ez_I h 71 6).toInt) → Q (.inl (some (.int x))) h2) : ∀ N : Nat, (∀ (h2 : ez_H) (a : Int32) (c : Int32) (fi : Int32) (l : Int32) (fl : Nat), zW (fun q k => q = 71 ∧ k = 59 ∨ q = 71 ∧ k = 61) (fun q => q = 115) (fun _ => False) h h2 → (1 ≤ l.toInt ∧ l.toInt ≤ 16 ∧ a.toInt = (czN (nL (ez_I h u)) n.toInt.toNat : Nat) ∧ (ez_I h2 71 61).toInt = fl ∧ 0 ≤ (ez_I h2 71 59).toInt ∧ (ez_I h2 71 59).toInt ≤ 8 * (ez_I h 71 6).toInt ∧ (fl = 0 → c.toInt = (cdV (tB (ez_I h 72)) (ez_I h 71 59).toInt.toNat (l.toInt.toNat - 1) : Nat) ∧ 2 * fi.toInt = (ncN (nL (ez_I h u)) n.toInt.toNat l.toInt.toNat : Nat) ∧ (ez_I h2 71 59).toInt = (ez_I h 71 59).toInt + l.toInt - 1 ∧ ncN (nL (ez_I h u)) n.toInt.toNat l.toInt.toNat ≤ cdV (tB (ez_I h 72)) (ez_I h 71 59).toInt.toNat l.toInt.toNat)) → (ctC (ez_I h2 115) (nL (ez_I h u)) n.toInt.toNat) → ((fl = 0 → sdF (tB (ez_I h 72)) (ez_I h 71 6).toInt.toNat (ez_I h 71 59).toInt.toNat (nL (ez_I h u)) n.toInt.toNat 15 1 = sdF (tB (ez_I h 72)) (ez_I h 71 6).toInt.toNat (ez_I h 71 59).toInt.toNat (nL (ez_I h u)) n.toInt.toNat (16 - l.toInt.toNat) l.toInt.toNat) ∧ (fl ≠ 0 → sdR (tB (ez_I h 72)) (ez_I h 71 6).toInt.toNat (ez_I h 71 59).toInt.toNat (nL (ez_I h u)) n.toInt.toNat = none)) → (100 - l.toInt) < (N : Int) → pw E (d + 1) 54 99 [some (.ref 71), some (.ref u), some (.int n), some (.int a), some (.int c), some (.int fi), some (.int l)] [] h2 Q) := by
  intro N
  induction N with
  | zero => exact fun h2 a c fi l fl F hinv A_ct A_sd hm => absurd hm (by have w_a := z_rng a; have w_c := z_rng c; have w_fi := z_rng fi; have w_l := z_rng l; have gn := z_rng n; omega)
  | succ N ih =>
    refine fun h2 a c fi l fl F hinv A_ct A_sd hm => ?_
    · skip
      have w_a := z_rng a
      have w_c := z_rng c
      have w_fi := z_rng fi
      have w_l := z_rng l
      have gn := z_rng n
      have S2 := zW_sh F S
      have hcl := cdV_lt (tB (ez_I h 72)) (ez_I h 71 59).toInt.toNat (l.toInt.toNat - 1)
      have hcp : (2 : Nat) ^ (l.toInt.toNat - 1) ≤ 2 ^ 15 := Nat.pow_le_pow_right (by decide) (by omega)
      have hcn := cdV_n (T := (tB (ez_I h 72))) (p := (ez_I h 71 59).toInt.toNat) (l := l.toInt.toNat) (by omega)
      have hnb := ncN_bb (L := (nL (ez_I h u))) (N := n.toInt.toNat) (l := l.toInt.toNat) (by omega) (by omega)
      have hns := ncN_s (L := (nL (ez_I h u))) (N := n.toInt.toNat) (l := l.toInt.toNat) (by omega)
      have hcc := ctN_le (nL (ez_I h u)) l.toInt.toNat n.toInt.toNat
      have hb2 := bitT_2 (tB (ez_I h 72)) ((ez_I h 71 59).toInt.toNat + (l.toInt.toNat - 1))
      have hpc := pl_cz (L := (nL (ez_I h u))) n.toInt.toNat (fun k hk => by have := hL k hk; show (ez_I h u k).toInt.toNat ≤ 15; omega)
      have hge : l.toInt ≤ 15 → _ := fun q => cdV_ge (T := (tB (ez_I h 72))) (p := (ez_I h 71 59).toInt.toNat) (L := (nL (ez_I h u))) (N := n.toInt.toNat) (l := l.toInt.toNat) (by omega)
      apply ez_Wp_in
      show ez_gw _ _ _ _ _ _ (cz_54) _ _ _ _ _
      refine gw_skip _ ?_
      have r1 := z_rng (ez_I h2 71 59)
      have r2 := z_rng (ez_I h2 71 61)
      refine gw_ld rfl rfl ?_
      refine z_C (m := 16) rfl rfl (fun x3 ex3 => ?_)
      refine z_b2 (fun c4 => ?_) (fun c4 => ?_)
      · have c4 : x3.toInt ≤ l.toInt := c4
        refine gw_skip _ ?_
        by_cases hq : fl = 0
        · skip
          refine gw_ld rfl rfl ?_
          refine z_C (m := 7) rfl rfl (fun x5 ex5 => ?_)
          refine z_cl rfl rfl rfl rfl rfl rfl rfl rfl rfl rfl rfl (zT S2 (by decide) rfl) ?_
          refine d_wrong (n := x5) S2 (fun h6 F7 k8 k9 => ?_)
          have kw10 := k8 (by omega)
          clear k8 k9
          have S11 := zW_sh F7 S2
          have F12 := zW_tr F (zW_mono F7 (x59_4) (x59_5) (x59_2))
          have f13 : ez_I h6 71 59 = (ez_I h2 71 59) := (zW_f F7 (fun c => c) (by decide)).trans (rfl)
          have r14 := z_rng (ez_I h6 71 61)
          have A15 : ctC (ez_I h6 115) (nL (ez_I h u)) n.toInt.toNat := by rw [zW_fn F7 115 (fun c => c) (x59_6)]; exact A_ct
          refine z_C (m := 0) rfl rfl (fun x16 ex16 => ?_)
          refine z_ri ?_
          have t17 := congrArg Int32.toInt (f13)
          exact K _ _ F12 (.inr ⟨by omega, sdR_no (sd_end (A_sd.1 (by omega)) (.inr (by omega))), by omega⟩) (by omega)
        · skip
          refine gw_ld rfl rfl ?_
          refine z_C (m := 7) rfl rfl (fun x18 ex18 => ?_)
          refine z_cl rfl rfl rfl rfl rfl rfl rfl rfl rfl rfl rfl (zT S2 (by decide) rfl) ?_
          refine d_wrong (n := x18) S2 (fun h19 F20 k21 k22 => ?_)
          have kw23 := k22 (by omega)
          clear k21 k22
          have S24 := zW_sh F20 S2
          have F25 := zW_tr F (zW_mono F20 (x59_4) (x59_5) (x59_2))
          have f26 : ez_I h19 71 59 = (ez_I h2 71 59) := (zW_f F20 (fun c => c) (by decide)).trans (rfl)
          have r27 := z_rng (ez_I h19 71 61)
          have A28 : ctC (ez_I h19 115) (nL (ez_I h u)) n.toInt.toNat := by rw [zW_fn F20 115 (fun c => c) (x59_6)]; exact A_ct
          refine z_C (m := 0) rfl rfl (fun x29 ex29 => ?_)
          refine z_ri ?_
          have t30 := congrArg Int32.toInt (f26)
          exact K _ _ F25 (.inr ⟨by omega, A_sd.2 hq, by omega⟩) (by omega)
      · have c4 : ¬ (x3.toInt ≤ l.toInt) := c4
        refine gw_ld rfl rfl ?_
        refine z_gI2 (by decide) (zT S2 (by decide) rfl) (rfl) ?_
        refine z_b1 (fun c31 => ?_) (fun c31 => ?_)
        · have c31 : ((ez_I h2 71 61)).toInt ≠ 0 := c31
          refine gw_skip _ ?_
          refine gw_ld rfl rfl ?_
          refine z_C (m := 7) rfl rfl (fun x32 ex32 => ?_)
          refine z_cl rfl rfl rfl rfl rfl rfl rfl rfl rfl rfl rfl (zT S2 (by decide) rfl) ?_
          refine d_wrong (n := x32) S2 (fun h33 F34 k35 k36 => ?_)
          have kw37 := k36 (by omega)
          clear k35 k36
          have S38 := zW_sh F34 S2
          have F39 := zW_tr F (zW_mono F34 (x59_4) (x59_5) (x59_2))
          have f40 : ez_I h33 71 59 = (ez_I h2 71 59) := (zW_f F34 (fun c => c) (by decide)).trans (rfl)
          have r41 := z_rng (ez_I h33 71 61)
          have A42 : ctC (ez_I h33 115) (nL (ez_I h u)) n.toInt.toNat := by rw [zW_fn F34 115 (fun c => c) (x59_6)]; exact A_ct
          refine z_C (m := 0) rfl rfl (fun x43 ex43 => ?_)
          refine z_ri ?_
          have t44 := congrArg Int32.toInt (f40)
          exact K _ _ F39 (.inr ⟨by omega, A_sd.2 (by omega), by omega⟩) (by omega)
        · have c31 : ¬ (((ez_I h2 71 61)).toInt ≠ 0) := c31
          refine gw_ld rfl rfl ?_
          refine z_C (m := 1) rfl rfl (fun x45 ex45 => ?_)
          refine z_2 rfl (fun x46 ex46 => ?_)
          have rx46 := z_rng x46
          skip
          have vx46 := n_shl (n := 1) (by omega) (by decide) (by omega) (by omega) ex46
          rw [show (2 : Int) ^ 1 = 2 from rfl] at vx46
          refine gw_ld rfl rfl ?_
          refine z_C (m := 1) rfl rfl (fun x47 ex47 => ?_)
          refine z_cl rfl rfl rfl rfl rfl rfl rfl rfl rfl rfl rfl (zT S2 (by decide) rfl) ?_
          refine d_tb (n := x47) S2 (by rw [(show ez_I h2 71 6 = ez_I h 71 6 from zW_f F x59_7 x59_8)]; exact hz) (by rw [(show ez_I h2 71 6 = ez_I h 71 6 from zW_f F x59_7 x59_8)]; omega) (by omega) (by omega) (fun h48 x50 F49 k51 k52 k53 => ?_)
          have rx50 := z_rng x50
          rw [(show ez_I h2 71 6 = ez_I h 71 6 from zW_f F x59_7 x59_8), (show ez_I h2 72 = ez_I h 72 from zW_fn F 72 x59_9 x59_10), show x47.toInt.toNat = 1 by omega, show (ez_I h2 71 59).toInt.toNat = (ez_I h 71 59).toInt.toNat + (l.toInt.toNat - 1) by omega] at k51
          rw [(show ez_I h2 71 6 = ez_I h 71 6 from zW_f F x59_7 x59_8)] at k52
          have vlx50 := vB_lt (tB (ez_I h 72)) ((ez_I h 71 59).toInt.toNat + (l.toInt.toNat - 1)) (1)
          have vpx50 := Nat.pow_le_pow_right (n := 2) (by decide) (show 1 ≤ 16 by omega)
          have S57 := zW_sh F49 S2
          have F58 := zW_tr F (zW_mono F49 (x59_11) (x59_5) (x59_2))
          have r59 := z_rng (ez_I h48 71 59)
          have r60 := z_rng (ez_I h48 71 61)
          have A61 : ctC (ez_I h48 115) (nL (ez_I h u)) n.toInt.toNat := by rw [zW_fn F49 115 (fun c => c) (x59_12)]; exact A_ct
          by_cases hok54 : (ez_I h2 71 59).toInt + x47.toInt ≤ 8 * (ez_I h 71 6).toInt
          · have ko55 := k51 (by omega) (by omega)
            clear k51 k52 k53
            refine z_2 rfl (fun x62 ex62 => ?_)
            have rx62 := z_rng x62
            have hbt : x50.toInt = (bitT (tB (ez_I h 72)) ((ez_I h 71 59).toInt.toNat + (l.toInt.toNat - 1)) : Nat) := by rw [← vB_1]; exact ko55.1
            have vx62 := n_or (n := 1) (a := c.toInt) (by omega) (by omega) (by omega) (by omega) ex62
            refine gw_st rfl rfl rfl ?_
            show ez_gw _ _ _ _ _ _ _ _ [some (.ref 71), some (.ref u), some (.int n), some (.int a), some (.int x62), some (.int fi), some (.int l)] _ _ _
            refine gw_ld rfl rfl ?_
            refine z_C (m := 1) rfl rfl (fun x63 ex63 => ?_)
            refine z_2 rfl (fun x64 ex64 => ?_)
            have rx64 := z_rng x64
            skip
            have vx64 := n_shl (n := 1) (by omega) (by decide) (by omega) (by omega) ex64
            rw [show (2 : Int) ^ 1 = 2 from rfl] at vx64
            refine gw_st rfl rfl rfl ?_
            show ez_gw _ _ _ _ _ _ _ _ [some (.ref 71), some (.ref u), some (.int n), some (.int a), some (.int x62), some (.int x64), some (.int l)] _ _ _
            refine gw_ld rfl rfl ?_
            refine z_gI2 (by decide) (zT S57 (by decide) rfl) (rfl) ?_
            refine z_b1 (fun c65 => ?_) (fun c65 => ?_)
            · have c65 : ((ez_I h48 71 61)).toInt ≤ 0 := c65
              refine gw_skip _ ?_
              refine gw_ld rfl rfl ?_
              refine gw_ld rfl rfl ?_
              refine z_sub (by omega) (fun x66 ex66 => ?_)
              refine gw_ld rfl rfl ?_
              refine z_gR (q := 115) (zT S57 (by decide) rfl) (zRf S57 (by decide) (by decide) rfl) (by decide) ?_
              refine gw_ld rfl rfl ?_
              refine z_ia (n := 17) (zT S57 (by decide) rfl) (zN S57 (by decide) rfl) (by omega) ?_
              generalize ex67 : ez_I h48 115 l.toInt.toNat = x67
              have rx67 := z_rng x67
              have yx67 := A61.2 l.toInt.toNat (by omega) (by omega)
              rw [show l.toInt.toNat = l.toInt.toNat by omega, ex67] at yx67
              rw [show l.toInt.toNat = l.toInt.toNat by omega] at yx67
              refine z_b2 (fun c68 => ?_) (fun c68 => ?_)
              · have c68 : x67.toInt ≤ x66.toInt := c68
                refine gw_skip _ ?_
                refine gw_ld rfl rfl ?_
                refine gw_ld rfl rfl ?_
                refine z_gR (q := 115) (zT S57 (by decide) rfl) (zRf S57 (by decide) (by decide) rfl) (by decide) ?_
                refine gw_ld rfl rfl ?_
                refine z_iaV (n := 17) (zT S57 (by decide) rfl) (zN S57 (by decide) rfl) (by omega) ex67 ?_
                refine z_add (by omega) (fun x70 ex70 => ?_)
                refine gw_st rfl rfl rfl ?_
                show ez_gw _ _ _ _ _ _ _ _ [some (.ref 71), some (.ref u), some (.int n), some (.int a), some (.int x62), some (.int x70), some (.int l)] _ _ _
                refine gw_ld rfl rfl ?_
                refine z_C (m := 1) rfl rfl (fun x71 ex71 => ?_)
                refine z_b2 (fun c72 => ?_) (fun c72 => ?_)
                · have c72 : a.toInt ≠ x71.toInt := c72
                  refine gw_skip _ ?_
                  refine z_inc rfl (by rw [show (1 : Int32).toInt = 1 from rfl]; omega) (fun x73 ex73 => ?_)
                  rw [show (1 : Int32).toInt = 1 from rfl] at ex73
                  show ez_gw _ _ _ _ _ _ _ _ [some (.ref 71), some (.ref u), some (.int n), some (.int a), some (.int x62), some (.int x70), some (.int x73)] _ _ _
                  refine z_go ?_
                  exact ih h48 a x62 x70 x73 (ez_I h48 71 61).toInt.toNat F58 (⟨by omega, by omega, by omega, by omega, by omega, by omega, fun q => ⟨by rw [show x73.toInt.toNat - 1 = l.toInt.toNat by omega]; omega, by rw [show x73.toInt.toNat = l.toInt.toNat + 1 by omega]; omega, by omega, by rw [show x73.toInt.toNat = l.toInt.toNat + 1 by omega]; exact hge (by omega) (by omega)⟩⟩) (A61) (⟨fun q => sd_step (A_sd.1 (by omega)) (by omega) (by omega) (by omega) (by omega), fun q => by exfalso; omega⟩) (by omega)
                · have c72 : ¬ (a.toInt ≠ x71.toInt) := c72
                  refine gw_ld rfl rfl ?_
                  refine z_C (m := 7) rfl rfl (fun x74 ex74 => ?_)
                  refine z_cl rfl rfl rfl rfl rfl rfl rfl rfl rfl rfl rfl (zT S57 (by decide) rfl) ?_
                  refine d_wrong (n := x74) S57 (fun h75 F76 k77 k78 => ?_)
                  have kw79 := k77 (by omega)
                  clear k77 k78
                  have S80 := zW_sh F76 S57
                  have F81 := zW_tr F58 (zW_mono F76 (x59_4) (x59_5) (x59_2))
                  have f82 : ez_I h75 71 59 = (ez_I h48 71 59) := (zW_f F76 (fun c => c) (by decide)).trans (rfl)
                  have r83 := z_rng (ez_I h75 71 61)
                  have A84 : ctC (ez_I h75 115) (nL (ez_I h u)) n.toInt.toNat := by rw [zW_fn F76 115 (fun c => c) (x59_6)]; exact A61
                  clear A61
                  refine z_inc rfl (by rw [show (1 : Int32).toInt = 1 from rfl]; omega) (fun x85 ex85 => ?_)
                  rw [show (1 : Int32).toInt = 1 from rfl] at ex85
                  show ez_gw _ _ _ _ _ _ _ _ [some (.ref 71), some (.ref u), some (.int n), some (.int a), some (.int x62), some (.int x70), some (.int x85)] _ _ _
                  refine z_go ?_
                  have t86 := congrArg Int32.toInt (f82)
                  exact ih h75 a x62 x70 x85 (ez_I h75 71 61).toInt.toNat F81 (⟨by omega, by omega, by omega, by omega, by omega, by omega, fun q => ⟨by rw [show x85.toInt.toNat - 1 = l.toInt.toNat by omega]; omega, by rw [show x85.toInt.toNat = l.toInt.toNat + 1 by omega]; omega, by omega, by rw [show x85.toInt.toNat = l.toInt.toNat + 1 by omega]; exact hge (by omega) (by omega)⟩⟩) (A84) (⟨fun q => by exfalso; omega, fun q => sd_one (l := l.toInt.toNat) (m := l.toInt.toNat + 1) (sd_step (A_sd.1 (by omega)) (by omega) (by omega) (by omega) rfl) (by omega) rfl hone (by omega) (hge (by omega) (by omega))⟩) (by omega)
              · have c68 : ¬ (x67.toInt ≤ x66.toInt) := c68
                obtain ⟨kk, hk1, hk2, hk3⟩ := ctN_ex (L := (nL (ez_I h u))) (l := l.toInt.toNat) (i := cdV (tB (ez_I h 72)) (ez_I h 71 59).toInt.toNat l.toInt.toNat - ncN (nL (ez_I h u)) n.toInt.toNat l.toInt.toNat) n.toInt.toNat (by omega)
                refine gw_ld rfl rfl ?_
                refine gw_ld rfl rfl ?_
                refine gw_ld rfl rfl ?_
                refine gw_ld rfl rfl ?_
                refine gw_ld rfl rfl ?_
                refine z_sub (by omega) (fun x87 ex87 => ?_)
                refine z_cl rfl rfl rfl rfl rfl rfl rfl rfl rfl rfl rfl (trivial) ?_
                refine d_symOf (u := u) (n := n) (l := l) (m := x87) S57 (kk := kk) hu (by omega) (by rw [(show ez_I h48 u = ez_I h u from zW_fn F58 u (by omega) (fun k c => by omega))]; exact fun k hk => hL k (by omega)) (by rw [(show ez_I h48 u = ez_I h u from zW_fn F58 u (by omega) (fun k c => by omega))]; exact hk2) (by rw [(show ez_I h48 u = ez_I h u from zW_fn F58 u (by omega) (fun k c => by omega)), hk3]; omega) (by omega) (by omega) (fun x88 k89 => ?_)
                have rx88 := z_rng x88
                refine z_ri ?_
                exact K _ _ F58 (.inl ⟨by omega, (ez_I h 71 59).toInt.toNat + l.toInt.toNat, (by rw [show x88.toInt.toNat = kk by omega]; exact sd_found (A_sd.1 (by omega)) (by omega) (by omega) (by omega) hk1 hk2 hk3), by omega, by omega⟩) (by omega)
            · have c65 : ¬ (((ez_I h48 71 61)).toInt ≤ 0) := c65
              exfalso; omega
          · have kf56 := k52 (by omega) (by omega)
            clear k51 k52 k53
            refine z_2 rfl (fun x90 ex90 => ?_)
            have rx90 := z_rng x90
            refine gw_st rfl rfl rfl ?_
            show ez_gw _ _ _ _ _ _ _ _ [some (.ref 71), some (.ref u), some (.int n), some (.int a), some (.int x90), some (.int fi), some (.int l)] _ _ _
            refine gw_ld rfl rfl ?_
            refine z_C (m := 1) rfl rfl (fun x91 ex91 => ?_)
            refine z_2 rfl (fun x92 ex92 => ?_)
            have rx92 := z_rng x92
            skip
            refine gw_st rfl rfl rfl ?_
            show ez_gw _ _ _ _ _ _ _ _ [some (.ref 71), some (.ref u), some (.int n), some (.int a), some (.int x90), some (.int x92), some (.int l)] _ _ _
            refine gw_ld rfl rfl ?_
            refine z_gI2 (by decide) (zT S57 (by decide) rfl) (rfl) ?_
            refine z_b1 (fun c93 => ?_) (fun c93 => ?_)
            · have c93 : ((ez_I h48 71 61)).toInt ≤ 0 := c93
              exfalso; omega
            · have c93 : ¬ (((ez_I h48 71 61)).toInt ≤ 0) := c93
              refine z_C (m := 0) rfl rfl (fun x94 ex94 => ?_)
              refine z_ri ?_
              exact K _ _ F58 (.inr ⟨by omega, sdR_no (sd_end (A_sd.1 (by omega)) (.inl (by omega))), by omega⟩) (by omega)
set_option maxRecDepth 4000 in
set_option maxHeartbeats 2000000 in
theorem d_sym_L1 {E : Nat → Nat × (Nat → Int32)} {d : Nat} {Q : ez_Q} {h : ez_H} {u : Nat} {n : Int32} (S : zSh h) {nu : Nat} (hu : zA u nu) (hu2 : u ≠ 115 ∧ u ≠ 71) (hn : 0 ≤ n.toInt ∧ n.toInt ≤ nu ∧ nu ≤ 288) (hz : 0 ≤ (ez_I h 71 6).toInt ∧ (ez_I h 71 6).toInt ≤ 6000) (hp : 0 ≤ (ez_I h 71 59).toInt ∧ (ez_I h 71 59).toInt ≤ 8 * (ez_I h 71 6).toInt) (hf : (ez_I h 71 61).toInt = 0) (hL : aR (ez_I h u) n.toInt.toNat 0 15) (hone : plN (nL (ez_I h u)) n.toInt.toNat 16 = 1 → ctN (nL (ez_I h u)) 1 n.toInt.toNat = 1) (K : ∀ h2 (x : Int32), zW (fun q k => q = 71 ∧ k = 59 ∨ q = 71 ∧ k = 61) (fun q => q = 115) (fun _ => False) h h2 → (((ez_I h2 71 61).toInt = 0 ∧ ∃ q : Nat, sdR (tB (ez_I h 72)) (ez_I h 71 6).toInt.toNat (ez_I h 71 59).toInt.toNat (nL (ez_I h u)) n.toInt.toNat = some (x.toInt.toNat, q) ∧ 0 ≤ x.toInt ∧ (ez_I h2 71 59).toInt = q) ∨ (1 ≤ (ez_I h2 71 61).toInt ∧ sdR (tB (ez_I h 72)) (ez_I h 71 6).toInt.toNat (ez_I h 71 59).toInt.toNat (nL (ez_I h u)) n.toInt.toNat = none ∧ x.toInt = 0)) → (0 ≤ (ez_I h2 71 59).toInt ∧ (ez_I h2 71 59).toInt ≤ 8 * (ez_I h 71 6).toInt) → Q (.inl (some (.int x))) h2) : ∀ N : Nat, (∀ (h2 : ez_H) (a : Int32) (k : Int32) (l5 : Option Value) (l6 : Option Value) , zW (fun q k => q = 71 ∧ k = 59 ∨ q = 71 ∧ k = 61) (fun q => q = 115) (fun _ => False) h h2 → (0 ≤ k.toInt ∧ k.toInt ≤ n.toInt ∧ a.toInt = (czN (nL (ez_I h u)) k.toInt.toNat : Nat) ∧ (ez_I h2 71 59).toInt = (ez_I h 71 59).toInt ∧ (ez_I h2 71 61).toInt = 0) → (ctC (ez_I h2 115) (nL (ez_I h u)) k.toInt.toNat) → (1000 - k.toInt) < (N : Int) → pw E (d + 1) 54 29 [some (.ref 71), some (.ref u), some (.int n), some (.int a), some (.int k), l5, l6] [] h2 Q) := by
  intro N
  induction N with
  | zero => exact fun h2 a k l5 l6  F hinv A_ct hm => absurd hm (by have w_a := z_rng a; have w_k := z_rng k; have gn := z_rng n; omega)
  | succ N ih =>
    refine fun h2 a k l5 l6  F hinv A_ct hm => ?_
    · skip
      have w_a := z_rng a
      have w_k := z_rng k
      have gn := z_rng n
      have S2 := zW_sh F S
      apply ez_Wp_in
      show ez_gw _ _ _ _ _ _ (cz_54) _ _ _ _ _
      refine gw_skip _ ?_
      have r1 := z_rng (ez_I h2 71 59)
      have r2 := z_rng (ez_I h2 71 61)
      refine gw_ld rfl rfl ?_
      refine gw_ld rfl rfl ?_
      refine z_b2 (fun c3 => ?_) (fun c3 => ?_)
      · have c3 : n.toInt ≤ k.toInt := c3
        refine gw_skip _ ?_
        refine gw_ld rfl rfl ?_
        refine z_b1 (fun c4 => ?_) (fun c4 => ?_)
        · have c4 : a.toInt ≠ 0 := c4
          refine gw_skip _ ?_
          refine z_C (m := 0) rfl rfl (fun x5 ex5 => ?_)
          refine gw_st rfl rfl rfl ?_
          show ez_gw _ _ _ _ _ _ _ _ [some (.ref 71), some (.ref u), some (.int n), some (.int a), some (.int x5), l5, l6] _ _ _
          refine z_C (m := 0) rfl rfl (fun x6 ex6 => ?_)
          refine gw_st rfl rfl rfl ?_
          show ez_gw _ _ _ _ _ _ _ _ [some (.ref 71), some (.ref u), some (.int n), some (.int a), some (.int x5), some (.int x6), l6] _ _ _
          refine z_C (m := 1) rfl rfl (fun x7 ex7 => ?_)
          refine gw_st rfl rfl rfl ?_
          show ez_gw _ _ _ _ _ _ _ _ [some (.ref 71), some (.ref u), some (.int n), some (.int a), some (.int x5), some (.int x6), some (.int x7)] _ _ _
          exact ez_Wp_at ((d_sym_L2 (u := u) (n := n) S hu hu2 hn hz hp hf hL hone K (((100 - x7.toInt)).toNat + 1)) h2 a x5 x6 x7 (ez_I h2 71 61).toInt.toNat F (⟨by omega, by omega, by rw [show (n.toInt.toNat : Nat) = k.toInt.toNat by omega]; omega, by omega, by omega, by omega, fun q => ⟨by rw [show x7.toInt.toNat - 1 = 0 by omega]; show _ = ((0 : Nat) : Int); omega, by rw [show x7.toInt.toNat = 1 by omega]; show _ = ((0 : Nat) : Int); omega, by omega, by rw [show x7.toInt.toNat = 1 by omega]; exact Nat.zero_le _⟩⟩) ((by rw [show (n.toInt.toNat : Nat) = k.toInt.toNat by omega]; exact A_ct)) (⟨fun q => (by rw [show x7.toInt.toNat = 1 by omega]), fun q => by exfalso; omega⟩) (by omega)) rfl
        · have c4 : ¬ (a.toInt ≠ 0) := c4
          refine gw_ld rfl rfl ?_
          refine z_C (m := 7) rfl rfl (fun x8 ex8 => ?_)
          refine z_cl rfl rfl rfl rfl rfl rfl rfl rfl rfl rfl rfl (zT S2 (by decide) rfl) ?_
          refine d_wrong (n := x8) S2 (fun h9 F10 k11 k12 => ?_)
          have kw13 := k11 (by omega)
          clear k11 k12
          have S14 := zW_sh F10 S2
          have F15 := zW_tr F (zW_mono F10 (x59_4) (x59_5) (x59_2))
          have f16 : ez_I h9 71 59 = (ez_I h2 71 59) := (zW_f F10 (fun c => c) (by decide)).trans (rfl)
          have r17 := z_rng (ez_I h9 71 61)
          have A18 : ctC (ez_I h9 115) (nL (ez_I h u)) k.toInt.toNat := by rw [zW_fn F10 115 (fun c => c) (x59_6)]; exact A_ct
          refine z_C (m := 0) rfl rfl (fun x19 ex19 => ?_)
          refine gw_st rfl rfl rfl ?_
          show ez_gw _ _ _ _ _ _ _ _ [some (.ref 71), some (.ref u), some (.int n), some (.int a), some (.int x19), l5, l6] _ _ _
          refine z_C (m := 0) rfl rfl (fun x20 ex20 => ?_)
          refine gw_st rfl rfl rfl ?_
          show ez_gw _ _ _ _ _ _ _ _ [some (.ref 71), some (.ref u), some (.int n), some (.int a), some (.int x19), some (.int x20), l6] _ _ _
          refine z_C (m := 1) rfl rfl (fun x21 ex21 => ?_)
          refine gw_st rfl rfl rfl ?_
          show ez_gw _ _ _ _ _ _ _ _ [some (.ref 71), some (.ref u), some (.int n), some (.int a), some (.int x19), some (.int x20), some (.int x21)] _ _ _
          have t22 := congrArg Int32.toInt (f16)
          exact ez_Wp_at ((d_sym_L2 (u := u) (n := n) S hu hu2 hn hz hp hf hL hone K (((100 - x21.toInt)).toNat + 1)) h9 a x19 x20 x21 (ez_I h9 71 61).toInt.toNat F15 (⟨by omega, by omega, by rw [show (n.toInt.toNat : Nat) = k.toInt.toNat by omega]; omega, by omega, by omega, by omega, fun q => ⟨by rw [show x21.toInt.toNat - 1 = 0 by omega]; show _ = ((0 : Nat) : Int); omega, by rw [show x21.toInt.toNat = 1 by omega]; show _ = ((0 : Nat) : Int); omega, by omega, by rw [show x21.toInt.toNat = 1 by omega]; exact Nat.zero_le _⟩⟩) ((by rw [show (n.toInt.toNat : Nat) = k.toInt.toNat by omega]; exact A18)) (⟨fun q => by exfalso; omega, fun q => sd_zero (by rw [pl_cz n.toInt.toNat (fun k hk => by have := hL k hk; show (ez_I h u k).toInt.toNat ≤ 15; omega)]; rw [show (n.toInt.toNat : Nat) = k.toInt.toNat by omega]; omega)⟩) (by omega)) rfl
      · have c3 : ¬ (n.toInt ≤ k.toInt) := c3
        refine gw_ld rfl rfl ?_
        refine z_gR (q := 115) (zT S2 (by decide) rfl) (zRf S2 (by decide) (by decide) rfl) (by decide) ?_
        refine gw_ld rfl rfl ?_
        refine gw_ld rfl rfl ?_
        refine z_iaV (n := nu) ((hu _ S2).1) ((hu _ S2).2) (by omega) (zW_f F (by omega) (by omega)) ?_
        generalize ex23 : ez_I h u k.toInt.toNat = x23
        have rx23 := z_rng x23
        have yx23 := hL k.toInt.toNat (by omega)
        rw [ex23] at yx23
        have ylx23 : (nL (ez_I h u)) k.toInt.toNat = x23.toInt.toNat := by show (ez_I h u k.toInt.toNat).toInt.toNat = _; rw [show k.toInt.toNat = k.toInt.toNat by omega, ex23]
        refine gw_op rfl ?_
        refine z_ia (n := 17) (zT S2 (by decide) rfl) (zN S2 (by decide) rfl) (by omega) ?_
        generalize ex24 : ez_I h2 115 x23.toInt.toNat = x24
        have rx24 := z_rng x24
        have yc : 1 ≤ x23.toInt → x24.toInt = (ctN (nL (ez_I h u)) x23.toInt.toNat k.toInt.toNat : Nat) := fun q => by have y9 := A_ct.2 x23.toInt.toNat (by omega) (by omega); rw [ex24] at y9; exact y9
        have yc0 : x23.toInt = 0 → x24.toInt = 0 := fun q => by have y9 := A_ct.1; rw [show (0 : Nat) = x23.toInt.toNat by omega, ex24] at y9; exact y9
        have ycl := ctN_le (nL (ez_I h u)) x23.toInt.toNat k.toInt.toNat
        have ycz := cz_le (L := (nL (ez_I h u))) k.toInt.toNat
        refine gw_ld rfl rfl ?_
        refine gw_ld rfl rfl ?_
        refine z_iaV (n := nu) ((hu _ S2).1) ((hu _ S2).2) (by omega) ((zW_f F (by omega) (by omega)).trans ex23) ?_
        refine z_b1 (fun c26 => ?_) (fun c26 => ?_)
        · have c26 : x23.toInt ≤ 0 := c26
          refine gw_skip _ ?_
          refine z_C (m := 0) rfl rfl (fun x27 ex27 => ?_)
          refine z_add (by omega) (fun x28 ex28 => ?_)
          refine z_is (n := 17) (zT S2 (by decide) rfl) (zN S2 (by decide) rfl) (by omega) (fun h29 e30 => ?_)
          have S31 := zSh_set S2 e30
          have F32 := zW_setA F e30 (by decide)
          have f33 : ez_I h29 71 59 = (ez_I h2 71 59) := (zI_ne e30 (by omega)).trans (rfl)
          have f34 : ez_I h29 71 61 = (ez_I h2 71 61) := (zI_ne e30 (by omega)).trans (rfl)
          have A35 : ctC (ez_I h29 115) (nL (ez_I h u)) (k.toInt.toNat + 1) := ctC_w (o := x24) A_ct (show h29 = ez_setI _ 115 0 _ by rw [show (0 : Nat) = x23.toInt.toNat by omega]; exact e30) (by omega) (by rw [show (0 : Nat) = x23.toInt.toNat by omega]; exact ex24) (by omega) rfl
          refine gw_ld rfl rfl ?_
          refine gw_ld rfl rfl ?_
          refine gw_ld rfl rfl ?_
          refine z_iaV (n := nu) ((hu _ S31).1) ((hu _ S31).2) (by omega) ((zW_f F32 (by omega) (by omega)).trans ex23) ?_
          refine z_b1 (fun c37 => ?_) (fun c37 => ?_)
          · have c37 : x23.toInt ≤ 0 := c37
            refine gw_skip _ ?_
            refine z_C (m := 0) rfl rfl (fun x38 ex38 => ?_)
            refine z_add (by omega) (fun x39 ex39 => ?_)
            refine gw_st rfl rfl rfl ?_
            show ez_gw _ _ _ _ _ _ _ _ [some (.ref 71), some (.ref u), some (.int n), some (.int x39), some (.int k), l5, l6] _ _ _
            refine z_inc rfl (by rw [show (1 : Int32).toInt = 1 from rfl]; omega) (fun x40 ex40 => ?_)
            rw [show (1 : Int32).toInt = 1 from rfl] at ex40
            show ez_gw _ _ _ _ _ _ _ _ [some (.ref 71), some (.ref u), some (.int n), some (.int x39), some (.int x40), l5, l6] _ _ _
            refine z_go ?_
            have t41 := congrArg Int32.toInt (f33)
            have t42 := congrArg Int32.toInt (f34)
            exact ih h29 x39 x40 (l5) (l6) F32 (⟨by omega, by omega, cz_s (n := k.toInt.toNat) (a := a.toInt) (by omega) (by omega) (by omega), by omega, by omega⟩) ((by rw [show x40.toInt.toNat = k.toInt.toNat + 1 by omega]; exact A35)) (by omega)
          · have c37 : ¬ (x23.toInt ≤ 0) := c37
            exfalso; omega
        · have c26 : ¬ (x23.toInt ≤ 0) := c26
          refine z_C (m := 1) rfl rfl (fun x43 ex43 => ?_)
          refine z_go ?_
          refine gw_skip _ ?_
          refine z_add (by omega) (fun x44 ex44 => ?_)
          refine z_is (n := 17) (zT S2 (by decide) rfl) (zN S2 (by decide) rfl) (by omega) (fun h45 e46 => ?_)
          have S47 := zSh_set S2 e46
          have F48 := zW_setA F e46 (by decide)
          have f49 : ez_I h45 71 59 = (ez_I h2 71 59) := (zI_ne e46 (by omega)).trans (rfl)
          have f50 : ez_I h45 71 61 = (ez_I h2 71 61) := (zI_ne e46 (by omega)).trans (rfl)
          have A51 : ctC (ez_I h45 115) (nL (ez_I h u)) (k.toInt.toNat + 1) := ctC_y A_ct e46 (by omega) (by omega) ex24 (by omega) rfl
          refine gw_ld rfl rfl ?_
          refine gw_ld rfl rfl ?_
          refine gw_ld rfl rfl ?_
          refine z_iaV (n := nu) ((hu _ S47).1) ((hu _ S47).2) (by omega) ((zW_f F48 (by omega) (by omega)).trans ex23) ?_
          refine z_b1 (fun c53 => ?_) (fun c53 => ?_)
          · have c53 : x23.toInt ≤ 0 := c53
            exfalso; omega
          · have c53 : ¬ (x23.toInt ≤ 0) := c53
            refine z_C (m := 1) rfl rfl (fun x54 ex54 => ?_)
            refine z_go ?_
            refine gw_skip _ ?_
            refine z_add (by omega) (fun x55 ex55 => ?_)
            refine gw_st rfl rfl rfl ?_
            show ez_gw _ _ _ _ _ _ _ _ [some (.ref 71), some (.ref u), some (.int n), some (.int x55), some (.int k), l5, l6] _ _ _
            refine z_inc rfl (by rw [show (1 : Int32).toInt = 1 from rfl]; omega) (fun x56 ex56 => ?_)
            rw [show (1 : Int32).toInt = 1 from rfl] at ex56
            show ez_gw _ _ _ _ _ _ _ _ [some (.ref 71), some (.ref u), some (.int n), some (.int x55), some (.int x56), l5, l6] _ _ _
            refine z_go ?_
            have t57 := congrArg Int32.toInt (f49)
            have t58 := congrArg Int32.toInt (f50)
            exact ih h45 x55 x56 (l5) (l6) F48 (⟨by omega, by omega, cz_s (n := k.toInt.toNat) (a := a.toInt) (by omega) (by omega) (by omega), by omega, by omega⟩) ((by rw [show x56.toInt.toNat = k.toInt.toNat + 1 by omega]; exact A51)) (by omega)
set_option maxRecDepth 4000 in
set_option maxHeartbeats 2000000 in
theorem d_sym_L0 {E : Nat → Nat × (Nat → Int32)} {d : Nat} {Q : ez_Q} {h : ez_H} {u : Nat} {n : Int32} (S : zSh h) {nu : Nat} (hu : zA u nu) (hu2 : u ≠ 115 ∧ u ≠ 71) (hn : 0 ≤ n.toInt ∧ n.toInt ≤ nu ∧ nu ≤ 288) (hz : 0 ≤ (ez_I h 71 6).toInt ∧ (ez_I h 71 6).toInt ≤ 6000) (hp : 0 ≤ (ez_I h 71 59).toInt ∧ (ez_I h 71 59).toInt ≤ 8 * (ez_I h 71 6).toInt) (hf : (ez_I h 71 61).toInt = 0) (hL : aR (ez_I h u) n.toInt.toNat 0 15) (hone : plN (nL (ez_I h u)) n.toInt.toNat 16 = 1 → ctN (nL (ez_I h u)) 1 n.toInt.toNat = 1) (K : ∀ h2 (x : Int32), zW (fun q k => q = 71 ∧ k = 59 ∨ q = 71 ∧ k = 61) (fun q => q = 115) (fun _ => False) h h2 → (((ez_I h2 71 61).toInt = 0 ∧ ∃ q : Nat, sdR (tB (ez_I h 72)) (ez_I h 71 6).toInt.toNat (ez_I h 71 59).toInt.toNat (nL (ez_I h u)) n.toInt.toNat = some (x.toInt.toNat, q) ∧ 0 ≤ x.toInt ∧ (ez_I h2 71 59).toInt = q) ∨ (1 ≤ (ez_I h2 71 61).toInt ∧ sdR (tB (ez_I h 72)) (ez_I h 71 6).toInt.toNat (ez_I h 71 59).toInt.toNat (nL (ez_I h u)) n.toInt.toNat = none ∧ x.toInt = 0)) → (0 ≤ (ez_I h2 71 59).toInt ∧ (ez_I h2 71 59).toInt ≤ 8 * (ez_I h 71 6).toInt) → Q (.inl (some (.int x))) h2) : ∀ N : Nat, (∀ (h2 : ez_H) (a : Int32) (k : Int32) (l5 : Option Value) (l6 : Option Value) , zW (fun q k => q = 71 ∧ k = 59 ∨ q = 71 ∧ k = 61) (fun q => q = 115) (fun _ => False) h h2 → (0 ≤ k.toInt ∧ k.toInt ≤ 17 ∧ a.toInt = 0 ∧ (ez_I h2 71 59).toInt = (ez_I h 71 59).toInt ∧ (ez_I h2 71 61).toInt = 0) → (∀ j, j < k.toInt.toNat → (ez_I h2 115 j).toInt = 0) → (100 - k.toInt) < (N : Int) → pw E (d + 1) 54 5 [some (.ref 71), some (.ref u), some (.int n), some (.int a), some (.int k), l5, l6] [] h2 Q) := by
  intro N
  induction N with
  | zero => exact fun h2 a k l5 l6  F hinv A_z0 hm => absurd hm (by have w_a := z_rng a; have w_k := z_rng k; have gn := z_rng n; omega)
  | succ N ih =>
    refine fun h2 a k l5 l6  F hinv A_z0 hm => ?_
    · skip
      have w_a := z_rng a
      have w_k := z_rng k
      have gn := z_rng n
      have S2 := zW_sh F S
      apply ez_Wp_in
      show ez_gw _ _ _ _ _ _ (cz_54) _ _ _ _ _
      refine gw_skip _ ?_
      have r1 := z_rng (ez_I h2 71 59)
      have r2 := z_rng (ez_I h2 71 61)
      refine gw_ld rfl rfl ?_
      refine z_C (m := 17) rfl rfl (fun x3 ex3 => ?_)
      refine z_b2 (fun c4 => ?_) (fun c4 => ?_)
      · have c4 : x3.toInt ≤ k.toInt := c4
        refine gw_skip _ ?_
        refine z_C (m := 0) rfl rfl (fun x5 ex5 => ?_)
        refine gw_st rfl rfl rfl ?_
        show ez_gw _ _ _ _ _ _ _ _ [some (.ref 71), some (.ref u), some (.int n), some (.int a), some (.int x5), l5, l6] _ _ _
        exact ez_Wp_at ((d_sym_L1 (u := u) (n := n) S hu hu2 hn hz hp hf hL hone K (((1000 - x5.toInt)).toNat + 1)) h2 a x5 (l5) (l6) F (⟨by omega, by omega, by rw [show x5.toInt.toNat = 0 by omega]; show _ = ((0 : Nat) : Int); omega, by omega, by omega⟩) ((by rw [show x5.toInt.toNat = 0 by omega]; exact ctC_z (fun j hj => A_z0 j (by omega)))) (by omega)) rfl
      · have c4 : ¬ (x3.toInt ≤ k.toInt) := c4
        refine gw_ld rfl rfl ?_
        refine z_gR (q := 115) (zT S2 (by decide) rfl) (zRf S2 (by decide) (by decide) rfl) (by decide) ?_
        refine gw_ld rfl rfl ?_
        refine z_C (m := 0) rfl rfl (fun x6 ex6 => ?_)
        refine z_is (n := 17) (zT S2 (by decide) rfl) (zN S2 (by decide) rfl) (by omega) (fun h7 e8 => ?_)
        have S9 := zSh_set S2 e8
        have F10 := zW_setA F e8 (by decide)
        have f11 : ez_I h7 71 59 = (ez_I h2 71 59) := (zI_ne e8 (by omega)).trans (rfl)
        have f12 : ez_I h7 71 61 = (ez_I h2 71 61) := (zI_ne e8 (by omega)).trans (rfl)
        have A13 : ∀ j, j < k.toInt.toNat + 1 → (ez_I h7 115 j).toInt = 0 := z0_s A_z0 e8 (by omega) (by omega) rfl
        refine z_inc rfl (by rw [show (1 : Int32).toInt = 1 from rfl]; omega) (fun x14 ex14 => ?_)
        rw [show (1 : Int32).toInt = 1 from rfl] at ex14
        show ez_gw _ _ _ _ _ _ _ _ [some (.ref 71), some (.ref u), some (.int n), some (.int a), some (.int x14), l5, l6] _ _ _
        refine z_go ?_
        have t15 := congrArg Int32.toInt (f11)
        have t16 := congrArg Int32.toInt (f12)
        exact ih h7 a x14 (l5) (l6) F10 (by omega) ((by rw [show x14.toInt.toNat = k.toInt.toNat + 1 by omega]; exact A13)) (by omega)
set_option maxRecDepth 4000 in
set_option maxHeartbeats 2000000 in
theorem d_sym {E : Nat → Nat × (Nat → Int32)} {d : Nat} {Q : ez_Q} {h : ez_H} {u : Nat} {n : Int32} (S : zSh h) {nu : Nat} (hu : zA u nu) (hu2 : u ≠ 115 ∧ u ≠ 71) (hn : 0 ≤ n.toInt ∧ n.toInt ≤ nu ∧ nu ≤ 288) (hz : 0 ≤ (ez_I h 71 6).toInt ∧ (ez_I h 71 6).toInt ≤ 6000) (hp : 0 ≤ (ez_I h 71 59).toInt ∧ (ez_I h 71 59).toInt ≤ 8 * (ez_I h 71 6).toInt) (hf : (ez_I h 71 61).toInt = 0) (hL : aR (ez_I h u) n.toInt.toNat 0 15) (hone : plN (nL (ez_I h u)) n.toInt.toNat 16 = 1 → ctN (nL (ez_I h u)) 1 n.toInt.toNat = 1) (K : ∀ h2 (x : Int32), zW (fun q k => q = 71 ∧ k = 59 ∨ q = 71 ∧ k = 61) (fun q => q = 115) (fun _ => False) h h2 → (((ez_I h2 71 61).toInt = 0 ∧ ∃ q : Nat, sdR (tB (ez_I h 72)) (ez_I h 71 6).toInt.toNat (ez_I h 71 59).toInt.toNat (nL (ez_I h u)) n.toInt.toNat = some (x.toInt.toNat, q) ∧ 0 ≤ x.toInt ∧ (ez_I h2 71 59).toInt = q) ∨ (1 ≤ (ez_I h2 71 61).toInt ∧ sdR (tB (ez_I h 72)) (ez_I h 71 6).toInt.toNat (ez_I h 71 59).toInt.toNat (nL (ez_I h u)) n.toInt.toNat = none ∧ x.toInt = 0)) → (0 ≤ (ez_I h2 71 59).toInt ∧ (ez_I h2 71 59).toInt ≤ 8 * (ez_I h 71 6).toInt) → Q (.inl (some (.int x))) h2) : pw E (d + 1) 54 0 [some (.ref 71), some (.ref u), some (.int n), none, none, none, none] [] h Q := by
  have gn := z_rng n
  have F := zW_refl (fun q k => q = 71 ∧ k = 59 ∨ q = 71 ∧ k = 61) (fun q => q = 115) (fun _ => False) h
  apply ez_Wp_in
  show ez_gw _ _ _ _ _ _ (cz_54) _ _ _ _ _
  refine gw_skip _ ?_
  have r1 := z_rng (ez_I h 71 59)
  have r2 := z_rng (ez_I h 71 61)
  refine z_C (m := 0) rfl rfl (fun x3 ex3 => ?_)
  refine gw_st rfl rfl rfl ?_
  show ez_gw _ _ _ _ _ _ _ _ [some (.ref 71), some (.ref u), some (.int n), some (.int x3), none, none, none] _ _ _
  refine z_C (m := 0) rfl rfl (fun x4 ex4 => ?_)
  refine gw_st rfl rfl rfl ?_
  show ez_gw _ _ _ _ _ _ _ _ [some (.ref 71), some (.ref u), some (.int n), some (.int x3), some (.int x4), none, none] _ _ _
  exact ez_Wp_at ((d_sym_L0 (u := u) (n := n) S hu hu2 hn hz hp hf hL hone K (((100 - x4.toInt)).toNat + 1)) h x3 x4 (none) (none) F (by omega) ((fun j hj => by omega)) (by omega)) rfl

