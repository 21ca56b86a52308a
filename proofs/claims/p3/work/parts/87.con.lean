/-! what a block costs in the model -/
def clI (L X : Nat → Int32) (k : Nat) : Int := (L k).toInt + (if 256 < k then (X (k - 257)).toInt else 0)
def cbI (W Z : Nat → Int32) (k : Nat) : Int := (W k).toInt + (Z k).toInt
def wsm (O : Nat → Int32) (c : Nat → Int) (n : Nat) : Int := sm (fun k => (O k).toInt * c k) n
theorem mul_bd {x y : Int} (hx : 0 ≤ x ∧ x ≤ 1000) (hy : 0 ≤ y ∧ y ≤ 30) : x * y ≤ 30000 := by
  have : x * y ≤ 1000 * 30 := Int.mul_le_mul hx.2 hy.2 hy.1 (by decide)
  omega
theorem wsm_s {O : Nat → Int32} {c : Nat → Int} {k : Nat} {o : Int32} {p y : Int} (hO : O k = o) (hy : y = c k) (hp : p = o.toInt * y) : wsm O c (k + 1) = wsm O c k + p := by
  show wsm O c k + (O k).toInt * c k = _
  rw [hO, hp, hy]
theorem clI_lo {L X : Nat → Int32} {k : Nat} {l : Int32} {y : Int} (hL : L k = l) (hk : k ≤ 256) (hy : y = l.toInt) : y = clI L X k := by
  unfold clI
  have : ¬ 256 < k := by omega
  simp only [this, ↓reduceIte]
  rw [hL]; omega
theorem clI_hi {L X : Nat → Int32} {k j : Nat} {l x : Int32} {y : Int} (hL : L k = l) (hk : 256 < k) (hX : X j = x) (hj : j = k - 257) (hy : y = l.toInt + x.toInt) : y = clI L X k := by
  unfold clI
  simp only [hk, ↓reduceIte]
  rw [hL, ← hj, hX]; omega
theorem cbI_of {W Z : Nat → Int32} {k : Nat} {w z : Int32} {y : Int} (hW : W k = w) (hZ : Z k = z) (hy : y = w.toInt + z.toInt) : y = cbI W Z k := by
  unfold cbI
  rw [hW, hZ]; exact hy
/-- what a part adds -/
def sc (M B Y fb fd : Nat → Int32) (c e : Nat → Int) (k : Nat) : Int := if (B k).toInt = 0 then c (Y k).toInt.toNat else c (257 + lcF fb (M k).toInt 28) + e (lcF fd (B k).toInt 29)
theorem sc_0 {M B Y fb fd : Nat → Int32} {c e : Nat → Int} {k : Nat} {b y : Int32} (eB : B k = b) (hb : b.toInt = 0) (eY : Y k = y) : sc M B Y fb fd c e k = c y.toInt.toNat := by
  unfold sc
  rw [eB, eY]
  simp only [hb, ↓reduceIte]
theorem sc_1 {M B Y fb fd : Nat → Int32} {c e : Nat → Int} {k : Nat} {m b xa xb : Int32} (eM : M k = m) (eB : B k = b) (hb : b.toInt ≠ 0) (ha : xa.toInt = lcF fb m.toInt 28) (hd : xb.toInt = lcF fd b.toInt 29) : sc M B Y fb fd c e k = c (257 + xa.toInt.toNat) + e xb.toInt.toNat := by
  unfold sc
  rw [eB, eM]
  simp only [hb, ↓reduceIte]
  rw [ha, hd]
  rfl
abbrev wS (M B Y fb fd L X W Z : Nat → Int32) (k : Nat) : Int := sm (sc M B Y fb fd (clI L X) (cbI W Z)) k
theorem wS_s {M B Y fb fd L X W Z : Nat → Int32} {k : Nat} {v : Int} (h : sc M B Y fb fd (clI L X) (cbI W Z) k = v) : wS M B Y fb fd L X W Z (k + 1) = wS M B Y fb fd L X W Z k + v := by
  show wS M B Y fb fd L X W Z k + _ = _
  rw [h]
theorem sc_2 {M B Y fb fd L X W Z : Nat → Int32} {k : Nat} {m b : Int32} (eM : M k = m) (eB : B k = b) (hb : b.toInt ≠ 0) : sc M B Y fb fd (clI L X) (cbI W Z) k = (L (257 + lcF fb m.toInt 28)).toInt + (X (lcF fb m.toInt 28)).toInt + ((W (lcF fd b.toInt 29)).toInt + (Z (lcF fd b.toInt 29)).toInt) := by
  unfold sc
  rw [eB, eM]
  simp only [hb, ↓reduceIte]
  rw [← clI_hi (L := L) (X := X) (k := 257 + lcF fb m.toInt 28) (j := lcF fb m.toInt 28) rfl (by omega) rfl (by omega) rfl]
  rfl
theorem sc_nn {M B Y T fb fd L X W Z : Nat → Int32} {k : Nat} (A : pk M B Y T k) (hL : aR L 286 0 15) (hX : aR X 29 0 5) (hW : aR W 30 0 15) (hZ : aR Z 30 0 13) : 0 ≤ sc M B Y fb fd (clI L X) (cbI W Z) k := by
  unfold sc
  by_cases c : (B k).toInt = 0
  · simp only [c, ↓reduceIte]
    have a := A.2.2.2.2
    have := hL (Y k).toInt.toNat (by omega)
    have q := clI_lo (L := L) (X := X) (k := (Y k).toInt.toNat) rfl (by omega) rfl
    omega
  · simp only [c, ↓reduceIte]
    have h1 := lcF_le (f := fb) (n := (M k).toInt) (k := 28)
    have h2 := lcF_le (f := fd) (n := (B k).toInt) (k := 29)
    have l := hL (257 + lcF fb (M k).toInt 28) (by omega)
    have x := hX (lcF fb (M k).toInt 28) (by omega)
    have w := hW (lcF fd (B k).toInt 29) (by omega)
    have z := hZ (lcF fd (B k).toInt 29) (by omega)
    have q := clI_hi (L := L) (X := X) (k := 257 + lcF fb (M k).toInt 28) (j := lcF fb (M k).toInt 28) rfl (by omega) rfl (by omega) rfl
    have q2 := cbI_of (W := W) (Z := Z) (k := lcF fd (B k).toInt 29) rfl rfl rfl
    omega
theorem wS_mono {M B Y T fb fd L X W Z : Nat → Int32} {n j k : Nat} {p : Int} (A : pQ M B Y T n p) (hL : aR L 286 0 15) (hX : aR X 29 0 5) (hW : aR W 30 0 15) (hZ : aR Z 30 0 13) (hk : k ≤ n) (hj : j ≤ k) : wS M B Y fb fd L X W Z j ≤ wS M B Y fb fd L X W Z k := sm_mono hj (fun q hq => sc_nn (A.2 q (by omega)) hL hX hW hZ)
def upd1 (O O' : Nat → Int32) (a : Nat) : Prop := (O' a).toInt = (O a).toInt + 1 ∧ ∀ s, s ≠ a → O' s = O s
theorem upd1_of {h h2 : ez_H} {c x : Nat} {o v : Int32} (e : h2 = ez_setI h c x v) (eo : ez_I h c x = o) (hv : v.toInt = o.toInt + 1) : upd1 (ez_I h c) (ez_I h2 c) x := ⟨by rw [zI_eq e, eo]; exact hv, fun s hs => zI_ne e (by omega)⟩
theorem upd1_wsm {O O' : Nat → Int32} {a n : Nat} {c : Nat → Int} (U : upd1 O O' a) (ha : a < n) : wsm O' c n = wsm O c n + c a := sm_up ha (by rw [U.1, Int.add_mul, Int.one_mul]) (fun k hk => by rw [U.2 k hk])
theorem upd1_rng {O O' : Nat → Int32} {a n : Nat} {m m' : Int} (U : upd1 O O' a) (A : aR O n 0 m) (ha : a < n) (hm : m + 1 ≤ m') : aR O' n 0 m' := fun k hk => by
  by_cases c : k = a
  · subst c
    have := A k hk
    rw [U.1]; omega
  · rw [U.2 k c]
    have := A k hk
    omega
/-- the counts of the parts fr .. k -/
def cQ (O P M B Y fb fd : Nat → Int32) (fr k : Nat) : Prop := aR O 288 0 ((k : Int) - fr) ∧ aR P 30 0 ((k : Int) - fr) ∧ ∀ c e : Nat → Int, wsm O c 286 + wsm P e 30 = sm (sc M B Y fb fd c e) k - sm (sc M B Y fb fd c e) fr
theorem wsm_0 {O : Nat → Int32} {c : Nat → Int} {n m : Nat} (A : aR O m 0 0) (h : n ≤ m) : wsm O c n = 0 := by
  have : wsm O c n = sm (fun _ => 0) n := sm_congr (fun k hk => by
    have := A k (by omega)
    rw [show (O k).toInt = 0 by omega, Int.zero_mul])
  rw [this, sm_const, Int.zero_mul]
theorem cQ_0 {O P M B Y fb fd : Nat → Int32} {fr k : Nat} (A : aR O 288 0 0) (C : aR P 30 0 0) (h : k = fr) : cQ O P M B Y fb fd fr k := by
  subst h
  refine ⟨aR_le A (by omega), aR_le C (by omega), fun c e => ?_⟩
  rw [wsm_0 A (by decide), wsm_0 C (by decide)]
  omega
theorem cQ_b {O O' P M B Y fb fd : Nat → Int32} {fr k k' a : Nat} {b y : Int32} (A : cQ O P M B Y fb fd fr k) (U : upd1 O O' a) (eB : B k = b) (hb : b.toInt = 0) (eY : Y k = y) (ha : a = y.toInt.toNat) (hy : 0 ≤ y.toInt ∧ y.toInt ≤ 255) (hk : k' = k + 1) : cQ O' P M B Y fb fd fr k' := by
  subst hk
  refine ⟨upd1_rng U A.1 (by omega) (by omega), aR_le A.2.1 (by omega), fun c e => ?_⟩
  have h1 := A.2.2 c e
  rw [upd1_wsm U (by omega)]
  show _ = sm (sc M B Y fb fd c e) k + sc M B Y fb fd c e k - _
  rw [sc_0 eB hb eY, ha]
  omega
theorem cQ_r {O O' P P' M B Y fb fd : Nat → Int32} {fr k k' a a2 : Nat} {m b xa xb : Int32} (A : cQ O P M B Y fb fd fr k) (U : upd1 O O' a) (V : upd1 P P' a2) (eM : M k = m) (eB : B k = b) (hb : b.toInt ≠ 0) (ha : xa.toInt = lcF fb m.toInt 28) (hd : xb.toInt = lcF fd b.toInt 29) (ea : a = 257 + xa.toInt.toNat) (eb : a2 = xb.toInt.toNat) (hk : k' = k + 1) : cQ O' P' M B Y fb fd fr k' := by
  subst hk
  have h28 := lcF_le (f := fb) (n := m.toInt) (k := 28)
  have h29 := lcF_le (f := fd) (n := b.toInt) (k := 29)
  refine ⟨upd1_rng U A.1 (by omega) (by omega), upd1_rng V A.2.1 (by omega) (by omega), fun c e => ?_⟩
  have h1 := A.2.2 c e
  rw [upd1_wsm U (by omega), upd1_wsm V (by omega)]
  show _ = sm (sc M B Y fb fd c e) k + sc M B Y fb fd c e k - _
  rw [sc_1 eM eB hb ha hd, ea, eb]
  omega
/-- and of the block's end -/
def cE (O P M B Y fb fd : Nat → Int32) (fr k : Nat) : Prop := aR O 288 0 1000 ∧ aR P 30 0 1000 ∧ ∀ c e : Nat → Int, wsm O c 286 + wsm P e 30 = sm (sc M B Y fb fd c e) k - sm (sc M B Y fb fd c e) fr + c 256
theorem cE_of {O O' P M B Y fb fd : Nat → Int32} {fr k a : Nat} (A : cQ O P M B Y fb fd fr k) (U : upd1 O O' a) (ha : a = 256) (hk : (k : Int) - fr ≤ 900) : cE O' P M B Y fb fd fr k := by
  subst ha
  refine ⟨upd1_rng U A.1 (by omega) (by omega), aR_le A.2.1 (by omega), fun c e => ?_⟩
  have h1 := A.2.2 c e
  rw [upd1_wsm U (by omega)]
  omega
theorem cE_cost {O P M B Y fb fd L X W Z : Nat → Int32} {fr k : Nat} {x : Int} {l : Int32} (A : cE O P M B Y fb fd fr k) (hx : x = wsm O (clI L X) 286 + wsm P (cbI W Z) 30) (hl : L 256 = l) : x = wS M B Y fb fd L X W Z k - wS M B Y fb fd L X W Z fr + l.toInt := by
  rw [hx, A.2.2 (clI L X) (cbI W Z), ← clI_lo (L := L) (X := X) (k := 256) (y := l.toInt) hl (by decide) rfl]
/-- the row of the lengths -/
def rsI (s : Nat) : Int := if s = 16 then 2 else if s = 17 then 3 else if s = 18 then 7 else 0
theorem rs_eq {x y : Int32} (h : x.toInt = (if y.toInt = 16 then 2 else if y.toInt = 17 then 3 else if y.toInt = 18 then 7 else 0)) (hy : 0 ≤ y.toInt) : x.toInt = rsI y.toInt.toNat := by
  rw [h]
  unfold rsI
  split <;> split <;> (try split) <;> (try split) <;> (try split) <;> (try split) <;> omega
def rQ (O R : Nat → Int32) (n : Nat) : Prop := aR O 19 0 n ∧ aR R n 0 18 ∧ ∀ c : Nat → Int, wsm O c 19 = sm (fun k => c (R k).toInt.toNat) n
theorem rQ_0 {O R : Nat → Int32} {n : Nat} (A : aR O 19 0 0) (h : n = 0) : rQ O R n := by
  subst h
  exact ⟨A, aR_0 _ _ _, fun c => wsm_0 A (by decide)⟩
theorem rQ_w {h h2 : ez_H} {O : Nat → Int32} {n x : Nat} {v : Int32} (A : rQ O (ez_I h 117) n) (e : h2 = ez_setI h 117 x v) (hx : n ≤ x) : rQ O (ez_I h2 117) n := by
  refine ⟨A.1, fun k hk => ?_, fun c => ?_⟩
  · rw [zI_ne e (by omega)]; exact A.2.1 k hk
  · rw [A.2.2 c]
    exact sm_congr (fun k hk => by rw [zI_ne e (by omega)])
theorem rQ_s {O O' R : Nat → Int32} {n a x : Nat} {v : Int32} (A : rQ O R n) (U : upd1 O O' a) (eR : R x = v) (hx : x = n) (ha : a = v.toInt.toNat) (hv : 0 ≤ v.toInt ∧ v.toInt ≤ 18) : rQ O' R (n + 1) := by
  subst hx
  refine ⟨upd1_rng U A.1 (by omega) (by omega), fun k hk => ?_, fun c => ?_⟩
  · by_cases q : k = x
    · subst q; rw [eR]; exact hv
    · exact A.2.1 k (by omega)
  · rw [upd1_wsm U (by omega), A.2.2 c]
    show _ = sm _ x + c (R x).toInt.toNat
    rw [eR, ha]
def rcI (Lr : Nat → Int32) (s : Nat) : Int := (Lr s).toInt + rsI s
def rS (Lr R : Nat → Int32) (n : Nat) : Int := sm (fun k => rcI Lr (R k).toInt.toNat) n
theorem rS_s {Lr R : Nat → Int32} {k : Nat} {t l x : Int32} (eT : R k = t) (eL : Lr t.toInt.toNat = l) (hx : x.toInt = rsI t.toInt.toNat) : rS Lr R (k + 1) = rS Lr R k + (l.toInt + x.toInt) := by
  show rS Lr R k + rcI Lr (R k).toInt.toNat = _
  unfold rcI
  rw [eT, eL, hx]
theorem rsI_nn (s : Nat) : 0 ≤ rsI s := by
  unfold rsI
  split
  · decide
  · split
    · decide
    · split <;> decide
theorem rS_mono {Lr R : Nat → Int32} {n j k : Nat} (hR : aR R n 0 18) (hL : aR Lr 19 0 15) (hk : k ≤ n) (hj : j ≤ k) : rS Lr R j ≤ rS Lr R k := sm_mono hj (fun q hq => by
  have r := hR q (by omega)
  have l := hL (R q).toInt.toNat (by omega)
  have s := rsI_nn (R q).toInt.toNat
  show 0 ≤ (Lr (R q).toInt.toNat).toInt + rsI (R q).toInt.toNat
  omega)
/-- what is written of a dynamic block -/
theorem dy_z {P W W' Z : Nat → Int32} (h : ∀ k : Nat, k < 30 → (P k).toInt = 0) : wsm P (cbI W Z) 30 = wsm P (cbI W' Z) 30 := by
  have A : aR P 30 0 0 := fun k hk => by have := h k hk; omega
  rw [wsm_0 A (by decide), wsm_0 A (by decide)]
/-! PRINTED by wip/p17/con14.py: contracts of the model, costs, parts written, the row told -/
set_option maxRecDepth 4000 in
set_option maxHeartbeats 20000000 in
theorem m_cost_L1 {E : Nat → Nat × (Nat → Int32)} {d : Nat} {Q : ez_Q} {h : ez_H}  (S : zSh h) {u w : Nat} (hu : zA u 288) (hw : zA w 30) (hd : u ≠ 71 ∧ w ≠ 71) (hLu : aR (ez_I h u) 286 0 15) (hLw : aR (ez_I h w) 30 0 15) (hO : aR (ez_I h 97) 288 0 1000) (hP : aR (ez_I h 98) 30 0 1000) (MC : cC h) (K : ∀ x : Int64, (0 ≤ x.toInt ∧ x.toInt ≤ 10000000) → x.toInt = wsm (ez_I h 97) (clI (ez_I h u) (ez_I h 93)) 286 + wsm (ez_I h 98) (cbI (ez_I h w) (ez_I h 95)) 30 → Q (.inl (some (.long x))) h) : ∀ N : Nat, (∀ (h2 : ez_H) (sl : Int64) (k : Int32) , zG (fun _ => False) (fun _ => False) h h2 → (0 ≤ k.toInt ∧ k.toInt ≤ 30 ∧ 0 ≤ sl.toInt ∧ sl.toInt ≤ 30000 * (286 + k.toInt) ∧ sl.toInt = wsm (ez_I h 97) (clI (ez_I h u) (ez_I h 93)) 286 + wsm (ez_I h 98) (cbI (ez_I h w) (ez_I h 95)) k.toInt.toNat) → (1000 - k.toInt) < (N : Int) → pw E d 39 63 [some (.ref 71), some (.ref u), some (.ref w), some (.long sl), none, some (.int k)] [] h2 Q) := by
  intro N
  induction N with
  | zero => exact fun h2 sl k  F hinv  hm => absurd hm (by have w_k := z_rng k; omega)
  | succ N ih =>
    refine fun h2 sl k  F hinv  hm => ?_
    · skip
      have w_k := z_rng k
      have S2 := zG_sh F S
      apply ez_Wp_in
      show ez_gw _ _ _ _ _ _ (cz_39) _ _ _ _ _
      refine gw_skip _ ?_
      refine gw_ld rfl rfl ?_
      refine z_C (m := 30) rfl rfl (fun x1 ex1 => ?_)
      refine z_b2 (fun c2 => ?_) (fun c2 => ?_)
      · have c2 : x1.toInt ≤ k.toInt := c2
        refine gw_skip _ ?_
        refine gw_ld rfl rfl ?_
        refine z_rl ?_
        exact zG_Q F (K sl (by omega) (by rw [show (30 : Nat) = k.toInt.toNat by omega]; omega))
      · have c2 : ¬ (x1.toInt ≤ k.toInt) := c2
        refine gw_ld rfl rfl ?_
        refine gw_ld rfl rfl ?_
        refine z_gR (q := 98) (zT S2 (by decide) rfl) (zRf S2 (by decide) (by decide) rfl) (by decide) ?_
        refine gw_ld rfl rfl ?_
        refine z_iaV (n := 30) (zT S2 (by decide) rfl) (zN S2 (by decide) rfl) (by omega) (zG_a F (by decide) (fun c => c)) ?_
        generalize ex3 : ez_I h 98 k.toInt.toNat = x3
        have rx3 := z_rng x3
        have yx3 := hP k.toInt.toNat (by omega)
        rw [ex3] at yx3
        refine z_i2l (fun lg4 elg4 => ?_)
        refine gw_ld rfl rfl ?_
        refine gw_ld rfl rfl ?_
        refine z_iaV (n := 30) ((hw _ S2).1) ((hw _ S2).2) (by omega) (zG_a F (by omega) (fun c => c)) ?_
        generalize ex5 : ez_I h w k.toInt.toNat = x5
        have rx5 := z_rng x5
        have yx5 := hLw k.toInt.toNat (by omega)
        rw [ex5] at yx5
        refine gw_ld rfl rfl ?_
        refine z_gR (q := 95) (zT S2 (by decide) rfl) (zRf S2 (by decide) (by decide) rfl) (by decide) ?_
        refine gw_ld rfl rfl ?_
        refine z_iaV (n := 30) (zT S2 (by decide) rfl) (zN S2 (by decide) rfl) (by omega) (zG_a F (by decide) (fun c => c)) ?_
        generalize ex6 : ez_I h 95 k.toInt.toNat = x6
        have rx6 := z_rng x6
        have yx6 := MC.2.2.2.2.1 k.toInt.toNat (by omega)
        rw [ex6] at yx6
        refine z_add (by omega) (fun x7 ex7 => ?_)
        refine z_i2l (fun lg8 elg8 => ?_)
        refine z_lmul (B := 30000) (by omega) (by omega) (fun p10 ep10 np10 mp10 lg9 elg9 => ?_) (fun p hp => by rw [hp]; exact mul_bd (by omega) (by omega))
        refine z_ladd (by omega) (fun lg11 elg11 => ?_)
        refine gw_st rfl rfl rfl ?_
        show ez_gw _ _ _ _ _ _ _ _ [some (.ref 71), some (.ref u), some (.ref w), some (.long lg11), none, some (.int k)] _ _ _
        refine z_inc rfl (by rw [show (1 : Int32).toInt = 1 from rfl]; omega) (fun x12 ex12 => ?_)
        rw [show (1 : Int32).toInt = 1 from rfl] at ex12
        show ez_gw _ _ _ _ _ _ _ _ [some (.ref 71), some (.ref u), some (.ref w), some (.long lg11), none, some (.int x12)] _ _ _
        refine z_go ?_
        exact ih h2 lg11 x12 F (by have hs := wsm_s (O := ez_I h 98) (c := cbI (ez_I h w) (ez_I h 95)) (k := k.toInt.toNat) (p := p10) (y := lg8.toInt) ex3 (cbI_of ex5 ex6 (by omega)) (by rw [ep10, elg4]); rw [show x12.toInt.toNat = k.toInt.toNat + 1 by omega, hs]; omega)  (by omega)
set_option maxRecDepth 4000 in
set_option maxHeartbeats 20000000 in
theorem m_cost_L0 {E : Nat → Nat × (Nat → Int32)} {d : Nat} {Q : ez_Q} {h : ez_H}  (S : zSh h) {u w : Nat} (hu : zA u 288) (hw : zA w 30) (hd : u ≠ 71 ∧ w ≠ 71) (hLu : aR (ez_I h u) 286 0 15) (hLw : aR (ez_I h w) 30 0 15) (hO : aR (ez_I h 97) 288 0 1000) (hP : aR (ez_I h 98) 30 0 1000) (MC : cC h) (K : ∀ x : Int64, (0 ≤ x.toInt ∧ x.toInt ≤ 10000000) → x.toInt = wsm (ez_I h 97) (clI (ez_I h u) (ez_I h 93)) 286 + wsm (ez_I h 98) (cbI (ez_I h w) (ez_I h 95)) 30 → Q (.inl (some (.long x))) h) : ∀ N : Nat, (∀ (h2 : ez_H) (sl : Int64) (k : Int32) , zG (fun _ => False) (fun _ => False) h h2 → (0 ≤ k.toInt ∧ k.toInt ≤ 286 ∧ 0 ≤ sl.toInt ∧ sl.toInt ≤ 30000 * k.toInt ∧ sl.toInt = wsm (ez_I h 97) (clI (ez_I h u) (ez_I h 93)) k.toInt.toNat) → (1000 - k.toInt) < (N : Int) → pw E d 39 5 [some (.ref 71), some (.ref u), some (.ref w), some (.long sl), none, some (.int k)] [] h2 Q) := by
  intro N
  induction N with
  | zero => exact fun h2 sl k  F hinv  hm => absurd hm (by have w_k := z_rng k; omega)
  | succ N ih =>
    refine fun h2 sl k  F hinv  hm => ?_
    · skip
      have w_k := z_rng k
      have S2 := zG_sh F S
      apply ez_Wp_in
      show ez_gw _ _ _ _ _ _ (cz_39) _ _ _ _ _
      refine gw_skip _ ?_
      refine gw_ld rfl rfl ?_
      refine z_C (m := 286) rfl rfl (fun x1 ex1 => ?_)
      refine z_b2 (fun c2 => ?_) (fun c2 => ?_)
      · have c2 : x1.toInt ≤ k.toInt := c2
        refine gw_skip _ ?_
        refine z_C (m := 0) rfl rfl (fun x3 ex3 => ?_)
        refine gw_st rfl rfl rfl ?_
        show ez_gw _ _ _ _ _ _ _ _ [some (.ref 71), some (.ref u), some (.ref w), some (.long sl), none, some (.int x3)] _ _ _
        exact ez_Wp_at ((m_cost_L1  S hu hw hd hLu hLw hO hP MC K (((1000 - x3.toInt)).toNat + 1)) h2 sl x3 F (by rw [show x3.toInt.toNat = 0 by omega]; exact ⟨by omega, by omega, by omega, by omega, by rw [show (286 : Nat) = k.toInt.toNat by omega]; show _ = _ + (0 : Int); omega⟩)  (by omega)) rfl
      · have c2 : ¬ (x1.toInt ≤ k.toInt) := c2
        refine gw_ld rfl rfl ?_
        refine gw_ld rfl rfl ?_
        refine z_gR (q := 97) (zT S2 (by decide) rfl) (zRf S2 (by decide) (by decide) rfl) (by decide) ?_
        refine gw_ld rfl rfl ?_
        refine z_iaV (n := 288) (zT S2 (by decide) rfl) (zN S2 (by decide) rfl) (by omega) (zG_a F (by decide) (fun c => c)) ?_
        generalize ex4 : ez_I h 97 k.toInt.toNat = x4
        have rx4 := z_rng x4
        have yx4 := hO k.toInt.toNat (by omega)
        rw [ex4] at yx4
        refine z_i2l (fun lg5 elg5 => ?_)
        refine gw_ld rfl rfl ?_
        refine gw_ld rfl rfl ?_
        refine z_iaV (n := 288) ((hu _ S2).1) ((hu _ S2).2) (by omega) (zG_a F (by omega) (fun c => c)) ?_
        generalize ex6 : ez_I h u k.toInt.toNat = x6
        have rx6 := z_rng x6
        have yx6 := hLu k.toInt.toNat (by omega)
        rw [ex6] at yx6
        refine gw_ld rfl rfl ?_
        refine z_C (m := 256) rfl rfl (fun x7 ex7 => ?_)
        refine z_b2 (fun c8 => ?_) (fun c8 => ?_)
        · have c8 : k.toInt ≤ x7.toInt := c8
          refine gw_skip _ ?_
          refine z_C (m := 0) rfl rfl (fun x9 ex9 => ?_)
          refine z_add (by omega) (fun x10 ex10 => ?_)
          refine z_i2l (fun lg11 elg11 => ?_)
          refine z_lmul (B := 30000) (by omega) (by omega) (fun p13 ep13 np13 mp13 lg12 elg12 => ?_) (fun p hp => by rw [hp]; exact mul_bd (by omega) (by omega))
          refine z_ladd (by omega) (fun lg14 elg14 => ?_)
          refine gw_st rfl rfl rfl ?_
          show ez_gw _ _ _ _ _ _ _ _ [some (.ref 71), some (.ref u), some (.ref w), some (.long lg14), none, some (.int k)] _ _ _
          refine z_inc rfl (by rw [show (1 : Int32).toInt = 1 from rfl]; omega) (fun x15 ex15 => ?_)
          rw [show (1 : Int32).toInt = 1 from rfl] at ex15
          show ez_gw _ _ _ _ _ _ _ _ [some (.ref 71), some (.ref u), some (.ref w), some (.long lg14), none, some (.int x15)] _ _ _
          refine z_go ?_
          exact ih h2 lg14 x15 F (by have hs := wsm_s (O := ez_I h 97) (c := clI (ez_I h u) (ez_I h 93)) (k := k.toInt.toNat) (p := p13) (y := lg11.toInt) ex4 (clI_lo ex6 (by omega) (by omega)) (by rw [ep13, elg5]); rw [show x15.toInt.toNat = k.toInt.toNat + 1 by omega, hs]; omega)  (by omega)
        · have c8 : ¬ (k.toInt ≤ x7.toInt) := c8
          refine gw_ld rfl rfl ?_
          refine z_gR (q := 93) (zT S2 (by decide) rfl) (zRf S2 (by decide) (by decide) rfl) (by decide) ?_
          refine gw_ld rfl rfl ?_
          refine z_C (m := 257) rfl rfl (fun x16 ex16 => ?_)
          refine z_sub (by omega) (fun x17 ex17 => ?_)
          refine z_iaV (n := 29) (zT S2 (by decide) rfl) (zN S2 (by decide) rfl) (by omega) (zG_a F (by decide) (fun c => c)) ?_
          generalize ex18 : ez_I h 93 x17.toInt.toNat = x18
          have rx18 := z_rng x18
          have yx18 := MC.2.2.1 x17.toInt.toNat (by omega)
          rw [ex18] at yx18
          refine z_go ?_
          refine gw_skip _ ?_
          refine z_add (by omega) (fun x19 ex19 => ?_)
          refine z_i2l (fun lg20 elg20 => ?_)
          refine z_lmul (B := 30000) (by omega) (by omega) (fun p22 ep22 np22 mp22 lg21 elg21 => ?_) (fun p hp => by rw [hp]; exact mul_bd (by omega) (by omega))
          refine z_ladd (by omega) (fun lg23 elg23 => ?_)
          refine gw_st rfl rfl rfl ?_
          show ez_gw _ _ _ _ _ _ _ _ [some (.ref 71), some (.ref u), some (.ref w), some (.long lg23), none, some (.int k)] _ _ _
          refine z_inc rfl (by rw [show (1 : Int32).toInt = 1 from rfl]; omega) (fun x24 ex24 => ?_)
          rw [show (1 : Int32).toInt = 1 from rfl] at ex24
          show ez_gw _ _ _ _ _ _ _ _ [some (.ref 71), some (.ref u), some (.ref w), some (.long lg23), none, some (.int x24)] _ _ _
          refine z_go ?_
          exact ih h2 lg23 x24 F (by have hs := wsm_s (O := ez_I h 97) (c := clI (ez_I h u) (ez_I h 93)) (k := k.toInt.toNat) (p := p22) (y := lg20.toInt) ex4 (clI_hi ex6 (by omega) ex18 (by omega) (by omega)) (by rw [ep22, elg5]); rw [show x24.toInt.toNat = k.toInt.toNat + 1 by omega, hs]; omega)  (by omega)
set_option maxRecDepth 4000 in
set_option maxHeartbeats 20000000 in
theorem m_cost {E : Nat → Nat × (Nat → Int32)} {d : Nat} {Q : ez_Q} {h : ez_H}  (S : zSh h) {u w : Nat} (hu : zA u 288) (hw : zA w 30) (hd : u ≠ 71 ∧ w ≠ 71) (hLu : aR (ez_I h u) 286 0 15) (hLw : aR (ez_I h w) 30 0 15) (hO : aR (ez_I h 97) 288 0 1000) (hP : aR (ez_I h 98) 30 0 1000) (MC : cC h) (K : ∀ x : Int64, (0 ≤ x.toInt ∧ x.toInt ≤ 10000000) → x.toInt = wsm (ez_I h 97) (clI (ez_I h u) (ez_I h 93)) 286 + wsm (ez_I h 98) (cbI (ez_I h w) (ez_I h 95)) 30 → Q (.inl (some (.long x))) h) : pw E d 39 0 [some (.ref 71), some (.ref u), some (.ref w), none, none, none] [] h Q := by
  have F := zG_refl (fun _ => False) (fun _ => False) h
  apply ez_Wp_in
  show ez_gw _ _ _ _ _ _ (cz_39) _ _ _ _ _
  refine gw_skip _ ?_
  refine z_lC (m := 0) rfl rfl (fun lg1 elg1 => ?_)
  refine gw_st rfl rfl rfl ?_
  show ez_gw _ _ _ _ _ _ _ _ [some (.ref 71), some (.ref u), some (.ref w), some (.long lg1), none, none] _ _ _
  refine z_C (m := 0) rfl rfl (fun x2 ex2 => ?_)
  refine gw_st rfl rfl rfl ?_
  show ez_gw _ _ _ _ _ _ _ _ [some (.ref 71), some (.ref u), some (.ref w), some (.long lg1), none, some (.int x2)] _ _ _
  exact ez_Wp_at ((m_cost_L0  S hu hw hd hLu hLw hO hP MC K (((1000 - x2.toInt)).toNat + 1)) h lg1 x2 F (by rw [show x2.toInt.toNat = 0 by omega]; exact ⟨by omega, by omega, by omega, by omega, by show _ = (0 : Int); omega⟩)  (by omega)) rfl
set_option maxRecDepth 4000 in
set_option maxHeartbeats 20000000 in
theorem m_wp_L0 {E : Nat → Nat × (Nat → Int32)} {d : Nat} {Q : ez_Q} {h : ez_H} {fr : Int32} {to : Int32} {pl : Int32} (S : zSh h) {u uc w wc n : Nat} (hu : zA u 288) (huc : zA uc 288) (hw : zA w 30) (hwc : zA wc 30) (hd : u ≠ 71 ∧ u ≠ 75 ∧ uc ≠ 71 ∧ uc ≠ 75 ∧ w ≠ 71 ∧ w ≠ 75 ∧ wc ≠ 71 ∧ wc ≠ 75) (hLu : aR (ez_I h u) 286 0 15) (hLw : aR (ez_I h w) 30 0 15) (M6 : 0 ≤ (ez_I h 71 6).toInt ∧ (ez_I h 71 6).toInt ≤ 6000) (MC : cC h) (hq : pQ (ez_I h 77) (ez_I h 78) (ez_I h 79) (ez_I h 72) n (ez_I h 71 6).toInt) (hr : 0 ≤ fr.toInt ∧ fr.toInt ≤ to.toInt ∧ to.toInt ≤ n ∧ n ≤ 6000) (hp : pl.toInt = pS (ez_I h 77) fr.toInt.toNat) (hb : 0 ≤ (ez_I h 71 16).toInt ∧ (ez_I h 71 16).toInt + (wS (ez_I h 77) (ez_I h 78) (ez_I h 79) (ez_I h 92) (ez_I h 94) (ez_I h u) (ez_I h 93) (ez_I h w) (ez_I h 95) to.toInt.toNat - wS (ez_I h 77) (ez_I h 78) (ez_I h 79) (ez_I h 92) (ez_I h 94) (ez_I h u) (ez_I h 93) (ez_I h w) (ez_I h 95) fr.toInt.toNat) + (ez_I h u 256).toInt ≤ 64000) (K : ∀ h2, zG (fun k => k = 16) (fun q => q = 75) h h2 → ((ez_I h2 71 16).toInt = (ez_I h 71 16).toInt + (wS (ez_I h 77) (ez_I h 78) (ez_I h 79) (ez_I h 92) (ez_I h 94) (ez_I h u) (ez_I h 93) (ez_I h w) (ez_I h 95) to.toInt.toNat - wS (ez_I h 77) (ez_I h 78) (ez_I h 79) (ez_I h 92) (ez_I h 94) (ez_I h u) (ez_I h 93) (ez_I h w) (ez_I h 95) fr.toInt.toNat) + (ez_I h u 256).toInt) → ((ez_I h 71 16).toInt ≤ (ez_I h2 71 16).toInt) → Q (.inl none) h2) : ∀ N : Nat, (∀ (h2 : ez_H) (p : Int32) (k : Int32) (l10 : Option Value) (l11 : Option Value) , zG (fun k => k = 16) (fun q => q = 75) h h2 → (fr.toInt ≤ k.toInt ∧ k.toInt ≤ to.toInt ∧ p.toInt = pS (ez_I h 77) k.toInt.toNat ∧ (ez_I h2 71 16).toInt = (ez_I h 71 16).toInt + (wS (ez_I h 77) (ez_I h 78) (ez_I h 79) (ez_I h 92) (ez_I h 94) (ez_I h u) (ez_I h 93) (ez_I h w) (ez_I h 95) k.toInt.toNat - wS (ez_I h 77) (ez_I h 78) (ez_I h 79) (ez_I h 92) (ez_I h 94) (ez_I h u) (ez_I h 93) (ez_I h w) (ez_I h 95) fr.toInt.toNat)) → (7000 - k.toInt) < (N : Int) → pw E (d + 1) 40 6 [some (.ref 71), some (.int fr), some (.int to), some (.int pl), some (.ref u), some (.ref uc), some (.ref w), some (.ref wc), some (.int p), some (.int k), l10, l11] [] h2 Q) := by
  intro N
  induction N with
  | zero => exact fun h2 p k l10 l11  F hinv  hm => absurd hm (by have w_p := z_rng p; have w_k := z_rng k; have gfr := z_rng fr; have gto := z_rng to; have gpl := z_rng pl; have MC1 := MC.1; omega)
  | succ N ih =>
    refine fun h2 p k l10 l11  F hinv  hm => ?_
    · skip
      have w_p := z_rng p
      have w_k := z_rng k
      have gfr := z_rng fr
      have gto := z_rng to
      have gpl := z_rng pl
      have MC1 := MC.1
      have S2 := zG_sh F S
      have hw0 := wS_mono (fb := ez_I h 92) (fd := ez_I h 94) (j := fr.toInt.toNat) (k := k.toInt.toNat) hq hLu MC.2.2.1 hLw MC.2.2.2.2.1 (by omega) (by omega)
      have hw1 := wS_mono (fb := ez_I h 92) (fd := ez_I h 94) (j := k.toInt.toNat) (k := to.toInt.toNat) hq hLu MC.2.2.1 hLw MC.2.2.2.2.1 (by omega) (by omega)
      have hw2 : k.toInt < to.toInt → wS (ez_I h 77) (ez_I h 78) (ez_I h 79) (ez_I h 92) (ez_I h 94) (ez_I h u) (ez_I h 93) (ez_I h w) (ez_I h 95) (k.toInt.toNat + 1) ≤ wS (ez_I h 77) (ez_I h 78) (ez_I h 79) (ez_I h 92) (ez_I h 94) (ez_I h u) (ez_I h 93) (ez_I h w) (ez_I h 95) to.toInt.toNat := fun c => wS_mono hq hLu MC.2.2.1 hLw MC.2.2.2.2.1 (by omega) (by omega)
      have hl256 := hLu 256 (by decide)
      have hpk : k.toInt < to.toInt → _ := fun c => hq.2 k.toInt.toNat (by omega)
      have hps0 : k.toInt < to.toInt → _ := fun c => pQ_pos hq (j := k.toInt.toNat) (by omega)
      apply ez_Wp_in
      show ez_gw _ _ _ _ _ _ (cz_40) _ _ _ _ _
      refine gw_skip _ ?_
      have r1 := z_rng (ez_I h2 71 16)
      refine gw_ld rfl rfl ?_
      refine gw_ld rfl rfl ?_
      refine z_b2 (fun c2 => ?_) (fun c2 => ?_)
      · have c2 : to.toInt ≤ k.toInt := c2
        refine gw_skip _ ?_
        refine gw_ld rfl rfl ?_
        refine gw_ld rfl rfl ?_
        refine z_C (m := 256) rfl rfl (fun x3 ex3 => ?_)
        refine z_iaV (n := 288) ((huc _ S2).1) ((huc _ S2).2) (by omega) (zG_a F (by omega) (by omega)) ?_
        generalize ex4 : ez_I h uc x3.toInt.toNat = x4
        have rx4 := z_rng x4
        refine gw_ld rfl rfl ?_
        refine z_C (m := 256) rfl rfl (fun x5 ex5 => ?_)
        refine z_iaV (n := 288) ((hu _ S2).1) ((hu _ S2).2) (by omega) (zG_a F (by omega) (by omega)) ?_
        generalize ex6 : ez_I h u x5.toInt.toNat = x6
        have rx6 := z_rng x6
        have yx6 := hLu 256 (by decide)
        have zx6 : ez_I h u 256 = x6 := by rw [← ex6]; congr 1; omega
        have vx6 := congrArg Int32.toInt zx6
        refine z_cl rfl rfl rfl rfl rfl rfl rfl rfl rfl rfl rfl (zT S2 (by decide) rfl) ?_
        refine m_wb S2 (v := x4) (n := x6) (by omega) (fun h7  F8 k9 => ?_)
        have S10 := zG_sh F8 S2
        have F11 := zG_tr F (zG_mono F8 (fun k hk => by first | omega | exact False.elim hk) (fun k hk => by first | omega | exact False.elim hk))
        have r12 := z_rng (ez_I h7 71 16)
        refine z_rv ?_
        exact K _ F11 (by rw [show to.toInt.toNat = k.toInt.toNat by omega]; omega) (by omega)
      · have c2 : ¬ (to.toInt ≤ k.toInt) := c2
        refine gw_ld rfl rfl ?_
        refine z_gR (q := 78) (zT S2 (by decide) rfl) (zRf S2 (by decide) (by decide) rfl) (by decide) ?_
        refine gw_ld rfl rfl ?_
        refine z_iaV (n := 6000) (zT S2 (by decide) rfl) (zN S2 (by decide) rfl) (by omega) (zG_a F (by decide) (by decide)) ?_
        generalize ex13 : ez_I h 78 k.toInt.toNat = x13
        have rx13 := z_rng x13
        replace hw2 := hw2 (by omega)
        have hpk0 := hpk (by omega)
        have hpk1 := hpk0.1
        have hpk2 := hpk0.2.1
        have hpk3 := hpk0.2.2.1
        rw [ex13] at hpk2 hpk3
        replace hps0 := hps0 (by omega)
        have hps1 : pS (ez_I h 77) (k.toInt.toNat + 1) = pS (ez_I h 77) k.toInt.toNat + (ez_I h 77 k.toInt.toNat).toInt := rfl
        refine z_b1 (fun c14 => ?_) (fun c14 => ?_)
        · have c14 : x13.toInt ≠ 0 := c14
          refine gw_skip _ ?_
          refine gw_ld rfl rfl ?_
          refine gw_ld rfl rfl ?_
          refine z_gR (q := 77) (zT S2 (by decide) rfl) (zRf S2 (by decide) (by decide) rfl) (by decide) ?_
          refine gw_ld rfl rfl ?_
          refine z_iaV (n := 6000) (zT S2 (by decide) rfl) (zN S2 (by decide) rfl) (by omega) (zG_a F (by decide) (by decide)) ?_
          generalize ex15 : ez_I h 77 k.toInt.toNat = x15
          have rx15 := z_rng x15
          rw [ex15] at hpk1 hpk3 hps1
          have hsc0 : wS (ez_I h 77) (ez_I h 78) (ez_I h 79) (ez_I h 92) (ez_I h 94) (ez_I h u) (ez_I h 93) (ez_I h w) (ez_I h 95) (k.toInt.toNat + 1) = wS (ez_I h 77) (ez_I h 78) (ez_I h 79) (ez_I h 92) (ez_I h 94) (ez_I h u) (ez_I h 93) (ez_I h w) (ez_I h 95) k.toInt.toNat + _ := wS_s (sc_2 (Y := ez_I h 79) (fb := ez_I h 92) (fd := ez_I h 94) (L := ez_I h u) (X := ez_I h 93) (W := ez_I h w) (Z := ez_I h 95) ex15 ex13 (by omega))
          have hla := lcF_le (f := ez_I h 92) (n := x15.toInt) (k := 28)
          have hlb := lcF_le (f := ez_I h 94) (n := x13.toInt) (k := 29)
          have hn1 := hLu (257 + lcF (ez_I h 92) x15.toInt 28) (by omega)
          have hn2 := MC.2.2.1 (lcF (ez_I h 92) x15.toInt 28) (by omega)
          have hn3 := hLw (lcF (ez_I h 94) x13.toInt 29) (by omega)
          have hn4 := MC.2.2.2.2.1 (lcF (ez_I h 94) x13.toInt 29) (by omega)
          refine z_cl rfl rfl rfl rfl rfl rfl rfl rfl rfl rfl rfl (zT S2 (by decide) rfl) ?_
          refine m_lc (n := x15) (f := ez_I h 92) S2 (zG_fn F 92 (by decide) (by omega)) (by omega) (fun x16 k17 => ?_)
          have rx16 := z_rng x16
          refine gw_st rfl rfl rfl ?_
          show ez_gw _ _ _ _ _ _ _ _ [some (.ref 71), some (.int fr), some (.int to), some (.int pl), some (.ref u), some (.ref uc), some (.ref w), some (.ref wc), some (.int p), some (.int k), some (.int x16), l11] _ _ _
          refine gw_ld rfl rfl ?_
          refine gw_ld rfl rfl ?_
          refine z_C (m := 257) rfl rfl (fun x18 ex18 => ?_)
          refine gw_ld rfl rfl ?_
          refine z_add (by omega) (fun x19 ex19 => ?_)
          refine z_iaV (n := 288) ((huc _ S2).1) ((huc _ S2).2) (by omega) (zG_a F (by omega) (by omega)) ?_
          generalize ex20 : ez_I h uc x19.toInt.toNat = x20
          have rx20 := z_rng x20
          refine gw_ld rfl rfl ?_
          refine z_C (m := 257) rfl rfl (fun x21 ex21 => ?_)
          refine gw_ld rfl rfl ?_
          refine z_add (by omega) (fun x22 ex22 => ?_)
          refine z_iaV (n := 288) ((hu _ S2).1) ((hu _ S2).2) (by omega) (zG_a F (by omega) (by omega)) ?_
          generalize ex23 : ez_I h u x22.toInt.toNat = x23
          have rx23 := z_rng x23
          have yx23 := hLu x22.toInt.toNat (by omega)
          rw [ex23] at yx23
          have zx23 : ez_I h u (257 + lcF (ez_I h 92) x15.toInt 28) = x23 := by rw [← ex23]; congr 1; omega
          have vx23 := congrArg Int32.toInt zx23
          refine z_cl rfl rfl rfl rfl rfl rfl rfl rfl rfl rfl rfl (zT S2 (by decide) rfl) ?_
          refine m_wb S2 (v := x20) (n := x23) (by omega) (fun h24  F25 k26 => ?_)
          have S27 := zG_sh F25 S2
          have F28 := zG_tr F (zG_mono F25 (fun k hk => by first | omega | exact False.elim hk) (fun k hk => by first | omega | exact False.elim hk))
          have r29 := z_rng (ez_I h24 71 16)
          refine gw_ld rfl rfl ?_
          refine gw_ld rfl rfl ?_
          refine z_gR (q := 77) (zT S27 (by decide) rfl) (zRf S27 (by decide) (by decide) rfl) (by decide) ?_
          refine gw_ld rfl rfl ?_
          refine z_iaV (n := 6000) (zT S27 (by decide) rfl) (zN S27 (by decide) rfl) (by omega) ((zG_a F28 (by decide) (by decide)).trans ex15) ?_
          refine gw_ld rfl rfl ?_
          refine z_gR (q := 92) (zT S27 (by decide) rfl) (zRf S27 (by decide) (by decide) rfl) (by decide) ?_
          refine gw_ld rfl rfl ?_
          refine z_iaV (n := 29) (zT S27 (by decide) rfl) (zN S27 (by decide) rfl) (by omega) (zG_a F28 (by decide) (by decide)) ?_
          generalize ex31 : ez_I h 92 x16.toInt.toNat = x31
          have rx31 := z_rng x31
          have yx31 := MC.2.1 x16.toInt.toNat (by omega)
          rw [ex31] at yx31
          refine z_subW (fun x32 ex32 => ?_)
          have rx32 := z_rng x32
          refine gw_ld rfl rfl ?_
          refine z_gR (q := 93) (zT S27 (by decide) rfl) (zRf S27 (by decide) (by decide) rfl) (by decide) ?_
          refine gw_ld rfl rfl ?_
          refine z_iaV (n := 29) (zT S27 (by decide) rfl) (zN S27 (by decide) rfl) (by omega) (zG_a F28 (by decide) (by decide)) ?_
          generalize ex33 : ez_I h 93 x16.toInt.toNat = x33
          have rx33 := z_rng x33
          have yx33 := MC.2.2.1 x16.toInt.toNat (by omega)
          rw [ex33] at yx33
          have zx33 : ez_I h 93 (lcF (ez_I h 92) x15.toInt 28) = x33 := by rw [← ex33]; congr 1; omega
          have vx33 := congrArg Int32.toInt zx33
          refine z_cl rfl rfl rfl rfl rfl rfl rfl rfl rfl rfl rfl (zT S27 (by decide) rfl) ?_
          refine m_wb S27 (v := x32) (n := x33) (by omega) (fun h34  F35 k36 => ?_)
          have S37 := zG_sh F35 S27
          have F38 := zG_tr F28 (zG_mono F35 (fun k hk => by first | omega | exact False.elim hk) (fun k hk => by first | omega | exact False.elim hk))
          have r39 := z_rng (ez_I h34 71 16)
          refine gw_ld rfl rfl ?_
          refine gw_ld rfl rfl ?_
          refine z_gR (q := 78) (zT S37 (by decide) rfl) (zRf S37 (by decide) (by decide) rfl) (by decide) ?_
          refine gw_ld rfl rfl ?_
          refine z_iaV (n := 6000) (zT S37 (by decide) rfl) (zN S37 (by decide) rfl) (by omega) ((zG_a F38 (by decide) (by decide)).trans ex13) ?_
          refine z_cl rfl rfl rfl rfl rfl rfl rfl rfl rfl rfl rfl (zT S37 (by decide) rfl) ?_
          refine m_bc (n := x13) (f := ez_I h 94) S37 (zG_fn F38 94 (by decide) (by omega)) (by omega) (fun x41 k42 => ?_)
          have rx41 := z_rng x41
          refine gw_st rfl rfl rfl ?_
          show ez_gw _ _ _ _ _ _ _ _ [some (.ref 71), some (.int fr), some (.int to), some (.int pl), some (.ref u), some (.ref uc), some (.ref w), some (.ref wc), some (.int p), some (.int k), some (.int x16), some (.int x41)] _ _ _
          refine gw_ld rfl rfl ?_
          refine gw_ld rfl rfl ?_
          refine gw_ld rfl rfl ?_
          refine z_iaV (n := 30) ((hwc _ S37).1) ((hwc _ S37).2) (by omega) (zG_a F38 (by omega) (by omega)) ?_
          generalize ex43 : ez_I h wc x41.toInt.toNat = x43
          have rx43 := z_rng x43
          refine gw_ld rfl rfl ?_
          refine gw_ld rfl rfl ?_
          refine z_iaV (n := 30) ((hw _ S37).1) ((hw _ S37).2) (by omega) (zG_a F38 (by omega) (by omega)) ?_
          generalize ex44 : ez_I h w x41.toInt.toNat = x44
          have rx44 := z_rng x44
          have yx44 := hLw x41.toInt.toNat (by omega)
          rw [ex44] at yx44
          have zx44 : ez_I h w (lcF (ez_I h 94) x13.toInt 29) = x44 := by rw [← ex44]; congr 1; omega
          have vx44 := congrArg Int32.toInt zx44
          refine z_cl rfl rfl rfl rfl rfl rfl rfl rfl rfl rfl rfl (zT S37 (by decide) rfl) ?_
          refine m_wb S37 (v := x43) (n := x44) (by omega) (fun h45  F46 k47 => ?_)
          have S48 := zG_sh F46 S37
          have F49 := zG_tr F38 (zG_mono F46 (fun k hk => by first | omega | exact False.elim hk) (fun k hk => by first | omega | exact False.elim hk))
          have r50 := z_rng (ez_I h45 71 16)
          refine gw_ld rfl rfl ?_
          refine gw_ld rfl rfl ?_
          refine z_gR (q := 78) (zT S48 (by decide) rfl) (zRf S48 (by decide) (by decide) rfl) (by decide) ?_
          refine gw_ld rfl rfl ?_
          refine z_iaV (n := 6000) (zT S48 (by decide) rfl) (zN S48 (by decide) rfl) (by omega) ((zG_a F49 (by decide) (by decide)).trans ex13) ?_
          refine gw_ld rfl rfl ?_
          refine z_gR (q := 94) (zT S48 (by decide) rfl) (zRf S48 (by decide) (by decide) rfl) (by decide) ?_
          refine gw_ld rfl rfl ?_
          refine z_iaV (n := 30) (zT S48 (by decide) rfl) (zN S48 (by decide) rfl) (by omega) (zG_a F49 (by decide) (by decide)) ?_
          generalize ex52 : ez_I h 94 x41.toInt.toNat = x52
          have rx52 := z_rng x52
          have yx52 := MC.2.2.2.1 x41.toInt.toNat (by omega)
          rw [ex52] at yx52
          refine z_subW (fun x53 ex53 => ?_)
          have rx53 := z_rng x53
          refine gw_ld rfl rfl ?_
          refine z_gR (q := 95) (zT S48 (by decide) rfl) (zRf S48 (by decide) (by decide) rfl) (by decide) ?_
          refine gw_ld rfl rfl ?_
          refine z_iaV (n := 30) (zT S48 (by decide) rfl) (zN S48 (by decide) rfl) (by omega) (zG_a F49 (by decide) (by decide)) ?_
          generalize ex54 : ez_I h 95 x41.toInt.toNat = x54
          have rx54 := z_rng x54
          have yx54 := MC.2.2.2.2.1 x41.toInt.toNat (by omega)
          rw [ex54] at yx54
          have zx54 : ez_I h 95 (lcF (ez_I h 94) x13.toInt 29) = x54 := by rw [← ex54]; congr 1; omega
          have vx54 := congrArg Int32.toInt zx54
          refine z_cl rfl rfl rfl rfl rfl rfl rfl rfl rfl rfl rfl (zT S48 (by decide) rfl) ?_
          refine m_wb S48 (v := x53) (n := x54) (by omega) (fun h55  F56 k57 => ?_)
          have S58 := zG_sh F56 S48
          have F59 := zG_tr F49 (zG_mono F56 (fun k hk => by first | omega | exact False.elim hk) (fun k hk => by first | omega | exact False.elim hk))
          have r60 := z_rng (ez_I h55 71 16)
          refine gw_ld rfl rfl ?_
          refine gw_ld rfl rfl ?_
          refine z_gR (q := 77) (zT S58 (by decide) rfl) (zRf S58 (by decide) (by decide) rfl) (by decide) ?_
          refine gw_ld rfl rfl ?_
          refine z_iaV (n := 6000) (zT S58 (by decide) rfl) (zN S58 (by decide) rfl) (by omega) ((zG_a F59 (by decide) (by decide)).trans ex15) ?_
          refine z_add (by omega) (fun x62 ex62 => ?_)
          refine gw_st rfl rfl rfl ?_
          show ez_gw _ _ _ _ _ _ _ _ [some (.ref 71), some (.int fr), some (.int to), some (.int pl), some (.ref u), some (.ref uc), some (.ref w), some (.ref wc), some (.int x62), some (.int k), some (.int x16), some (.int x41)] _ _ _
          refine z_inc rfl (by rw [show (1 : Int32).toInt = 1 from rfl]; omega) (fun x63 ex63 => ?_)
          rw [show (1 : Int32).toInt = 1 from rfl] at ex63
          show ez_gw _ _ _ _ _ _ _ _ [some (.ref 71), some (.int fr), some (.int to), some (.int pl), some (.ref u), some (.ref uc), some (.ref w), some (.ref wc), some (.int x62), some (.int x63), some (.int x16), some (.int x41)] _ _ _
          refine z_go ?_
          exact ih h55 x62 x63 (some (.int x16)) (some (.int x41)) F59 (by
              have hsc := hsc0
              rw [show x63.toInt.toNat = k.toInt.toNat + 1 by omega, hps1, hsc]
              omega)  (by omega)
        · have c14 : ¬ (x13.toInt ≠ 0) := c14
          refine gw_ld rfl rfl ?_
          refine z_gR (q := 72) (zT S2 (by decide) rfl) (zRf S2 (by decide) (by decide) rfl) (by decide) ?_
          refine gw_ld rfl rfl ?_
          refine z_baV (n := 6000) (zT S2 (by decide) rfl) (zN S2 (by decide) rfl) (by omega) (zG_a F (by decide) (by decide)) ?_
          generalize ex64 : ez_I h 72 p.toInt.toNat = x64
          have rx64 := z_rng x64
          refine z_C (m := 255) rfl rfl (fun x65 ex65 => ?_)
          refine z_and (fun x66 ex66 ux66 wx66 => ?_)
          have rx66 := z_rng x66
          replace ux66 := ux66 (by omega)
          clear wx66
          refine gw_st rfl rfl rfl ?_
          show ez_gw _ _ _ _ _ _ _ _ [some (.ref 71), some (.int fr), some (.int to), some (.int pl), some (.ref u), some (.ref uc), some (.ref w), some (.ref wc), some (.int p), some (.int k), some (.int x66), l11] _ _ _
          refine gw_ld rfl rfl ?_
          refine gw_ld rfl rfl ?_
          refine gw_ld rfl rfl ?_
          refine z_iaV (n := 288) ((huc _ S2).1) ((huc _ S2).2) (by omega) (zG_a F (by omega) (by omega)) ?_
          generalize ex67 : ez_I h uc x66.toInt.toNat = x67
          have rx67 := z_rng x67
          refine gw_ld rfl rfl ?_
          refine gw_ld rfl rfl ?_
          refine z_iaV (n := 288) ((hu _ S2).1) ((hu _ S2).2) (by omega) (zG_a F (by omega) (by omega)) ?_
          generalize ex68 : ez_I h u x66.toInt.toNat = x68
          have rx68 := z_rng x68
          have yx68 := hLu x66.toInt.toNat (by omega)
          rw [ex68] at yx68
          have hyb : (ez_I h 79 k.toInt.toNat).toInt = x66.toInt := by
            rw [hpk0.2.2.2.1 (by rw [ex13]; omega), bT_eq ex64 ex66 (by omega), ← hinv.2.2.1]
          have hyL : ez_I h u (ez_I h 79 k.toInt.toNat).toInt.toNat = x68 := by rw [hyb]; exact ex68
          have hcs : wS (ez_I h 77) (ez_I h 78) (ez_I h 79) (ez_I h 92) (ez_I h 94) (ez_I h u) (ez_I h 93) (ez_I h w) (ez_I h 95) (k.toInt.toNat + 1) = wS (ez_I h 77) (ez_I h 78) (ez_I h 79) (ez_I h 92) (ez_I h 94) (ez_I h u) (ez_I h 93) (ez_I h w) (ez_I h 95) k.toInt.toNat + x68.toInt := wS_s (L := ez_I h u) (X := ez_I h 93) (W := ez_I h w) (Z := ez_I h 95) ((sc_0 (M := ez_I h 77) (Y := ez_I h 79) (fb := ez_I h 92) (fd := ez_I h 94) (c := clI (ez_I h u) (ez_I h 93)) (e := cbI (ez_I h w) (ez_I h 95)) ex13 (by omega) rfl).trans (clI_lo (y := x68.toInt) hyL (by omega) rfl).symm)
          refine z_cl rfl rfl rfl rfl rfl rfl rfl rfl rfl rfl rfl (zT S2 (by decide) rfl) ?_
          refine m_wb S2 (v := x67) (n := x68) (by omega) (fun h69  F70 k71 => ?_)
          have S72 := zG_sh F70 S2
          have F73 := zG_tr F (zG_mono F70 (fun k hk => by first | omega | exact False.elim hk) (fun k hk => by first | omega | exact False.elim hk))
          have r74 := z_rng (ez_I h69 71 16)
          refine z_go ?_
          refine gw_skip _ ?_
          refine gw_ld rfl rfl ?_
          refine gw_ld rfl rfl ?_
          refine z_gR (q := 77) (zT S72 (by decide) rfl) (zRf S72 (by decide) (by decide) rfl) (by decide) ?_
          refine gw_ld rfl rfl ?_
          refine z_iaV (n := 6000) (zT S72 (by decide) rfl) (zN S72 (by decide) rfl) (by omega) (zG_a F73 (by decide) (by decide)) ?_
          generalize ex75 : ez_I h 77 k.toInt.toNat = x75
          have rx75 := z_rng x75
          rw [ex75] at hpk1 hps1
          refine z_add (by omega) (fun x76 ex76 => ?_)
          refine gw_st rfl rfl rfl ?_
          show ez_gw _ _ _ _ _ _ _ _ [some (.ref 71), some (.int fr), some (.int to), some (.int pl), some (.ref u), some (.ref uc), some (.ref w), some (.ref wc), some (.int x76), some (.int k), some (.int x66), l11] _ _ _
          refine z_inc rfl (by rw [show (1 : Int32).toInt = 1 from rfl]; omega) (fun x77 ex77 => ?_)
          rw [show (1 : Int32).toInt = 1 from rfl] at ex77
          show ez_gw _ _ _ _ _ _ _ _ [some (.ref 71), some (.int fr), some (.int to), some (.int pl), some (.ref u), some (.ref uc), some (.ref w), some (.ref wc), some (.int x76), some (.int x77), some (.int x66), l11] _ _ _
          refine z_go ?_
          exact ih h69 x76 x77 (some (.int x66)) (l11) F73 (by
              have hsc := wS_s (L := ez_I h u) (X := ez_I h 93) (W := ez_I h w) (Z := ez_I h 95) ((sc_0 (M := ez_I h 77) (Y := ez_I h 79) (fb := ez_I h 92) (fd := ez_I h 94) (c := clI (ez_I h u) (ez_I h 93)) (e := cbI (ez_I h w) (ez_I h 95)) ex13 (by omega) rfl).trans (clI_lo (y := x68.toInt) hyL (by omega) rfl).symm)
              rw [show x77.toInt.toNat = k.toInt.toNat + 1 by omega, hps1, hsc]
              omega)  (by omega)
set_option maxRecDepth 4000 in
set_option maxHeartbeats 20000000 in
theorem m_wp {E : Nat → Nat × (Nat → Int32)} {d : Nat} {Q : ez_Q} {h : ez_H} {fr : Int32} {to : Int32} {pl : Int32} (S : zSh h) {u uc w wc n : Nat} (hu : zA u 288) (huc : zA uc 288) (hw : zA w 30) (hwc : zA wc 30) (hd : u ≠ 71 ∧ u ≠ 75 ∧ uc ≠ 71 ∧ uc ≠ 75 ∧ w ≠ 71 ∧ w ≠ 75 ∧ wc ≠ 71 ∧ wc ≠ 75) (hLu : aR (ez_I h u) 286 0 15) (hLw : aR (ez_I h w) 30 0 15) (M6 : 0 ≤ (ez_I h 71 6).toInt ∧ (ez_I h 71 6).toInt ≤ 6000) (MC : cC h) (hq : pQ (ez_I h 77) (ez_I h 78) (ez_I h 79) (ez_I h 72) n (ez_I h 71 6).toInt) (hr : 0 ≤ fr.toInt ∧ fr.toInt ≤ to.toInt ∧ to.toInt ≤ n ∧ n ≤ 6000) (hp : pl.toInt = pS (ez_I h 77) fr.toInt.toNat) (hb : 0 ≤ (ez_I h 71 16).toInt ∧ (ez_I h 71 16).toInt + (wS (ez_I h 77) (ez_I h 78) (ez_I h 79) (ez_I h 92) (ez_I h 94) (ez_I h u) (ez_I h 93) (ez_I h w) (ez_I h 95) to.toInt.toNat - wS (ez_I h 77) (ez_I h 78) (ez_I h 79) (ez_I h 92) (ez_I h 94) (ez_I h u) (ez_I h 93) (ez_I h w) (ez_I h 95) fr.toInt.toNat) + (ez_I h u 256).toInt ≤ 64000) (K : ∀ h2, zG (fun k => k = 16) (fun q => q = 75) h h2 → ((ez_I h2 71 16).toInt = (ez_I h 71 16).toInt + (wS (ez_I h 77) (ez_I h 78) (ez_I h 79) (ez_I h 92) (ez_I h 94) (ez_I h u) (ez_I h 93) (ez_I h w) (ez_I h 95) to.toInt.toNat - wS (ez_I h 77) (ez_I h 78) (ez_I h 79) (ez_I h 92) (ez_I h 94) (ez_I h u) (ez_I h 93) (ez_I h w) (ez_I h 95) fr.toInt.toNat) + (ez_I h u 256).toInt) → ((ez_I h 71 16).toInt ≤ (ez_I h2 71 16).toInt) → Q (.inl none) h2) : pw E (d + 1) 40 0 [some (.ref 71), some (.int fr), some (.int to), some (.int pl), some (.ref u), some (.ref uc), some (.ref w), some (.ref wc), none, none, none, none] [] h Q := by
  have gfr := z_rng fr
  have gto := z_rng to
  have gpl := z_rng pl
  have MC1 := MC.1
  have F := zG_refl (fun k => k = 16) (fun q => q = 75) h
  apply ez_Wp_in
  show ez_gw _ _ _ _ _ _ (cz_40) _ _ _ _ _
  refine gw_skip _ ?_
  have r1 := z_rng (ez_I h 71 16)
  refine gw_ld rfl rfl ?_
  refine gw_st rfl rfl rfl ?_
  show ez_gw _ _ _ _ _ _ _ _ [some (.ref 71), some (.int fr), some (.int to), some (.int pl), some (.ref u), some (.ref uc), some (.ref w), some (.ref wc), some (.int pl), none, none, none] _ _ _
  refine gw_ld rfl rfl ?_
  refine gw_st rfl rfl rfl ?_
  show ez_gw _ _ _ _ _ _ _ _ [some (.ref 71), some (.int fr), some (.int to), some (.int pl), some (.ref u), some (.ref uc), some (.ref w), some (.ref wc), some (.int pl), some (.int fr), none, none] _ _ _
  exact ez_Wp_at ((m_wp_L0 (fr := fr) (to := to) (pl := pl) S hu huc hw hwc hd hLu hLw M6 MC hq hr hp hb K (((7000 - fr.toInt)).toNat + 1)) h pl fr (none) (none) F (by exact ⟨by omega, by omega, by first | (rw [show fr.toInt = fr.toInt by omega]; exact hp) | omega, by omega⟩)  (by omega)) rfl
set_option maxRecDepth 4000 in
set_option maxHeartbeats 20000000 in
theorem m_tr {E : Nat → Nat × (Nat → Int32)} {d : Nat} {Q : ez_Q} {h : ez_H} {s : Int32} {e : Int32} (S : zSh h) {NN : Nat} (hs : 0 ≤ s.toInt ∧ s.toInt ≤ 18) (hN : (ez_I h 71 56).toInt = NN ∧ NN < 330) (hq : rQ (ez_I h 99) (ez_I h 117) NN) (K : ∀ h2, zG (fun k => k = 56) (fun q => q = 99 ∨ q = 117 ∨ q = 118) h h2 → ((ez_I h2 71 56).toInt = NN + 1) → rQ (ez_I h2 99) (ez_I h2 117) (NN + 1) → Q (.inl none) h2) : pw E d 41 0 [some (.ref 71), some (.int s), some (.int e)] [] h Q := by
  have gs := z_rng s
  have ge := z_rng e
  have F := zG_refl (fun k => k = 56) (fun q => q = 99 ∨ q = 117 ∨ q = 118) h
  apply ez_Wp_in
  show ez_gw _ _ _ _ _ _ (cz_41) _ _ _ _ _
  refine gw_skip _ ?_
  have r1 := z_rng (ez_I h 71 56)
  refine gw_ld rfl rfl ?_
  refine z_gR (q := 117) (zT S (by decide) rfl) (zRf S (by decide) (by decide) rfl) (by decide) ?_
  refine gw_ld rfl rfl ?_
  refine z_gI2 (by decide) (zT S (by decide) rfl) (rfl) ?_
  refine gw_ld rfl rfl ?_
  refine z_is (n := 330) (zT S (by decide) rfl) (zN S (by decide) rfl) (by omega) (fun h2 e3 => ?_)
  have S4 := zSh_set S e3
  have F5 := zG_setA F e3 (by decide) (by decide)
  have f6 : ez_I h2 71 56 = (ez_I h 71 56) := (zI_ne e3 (by omega)).trans (rfl)
  have A7 : rQ (ez_I h2 99) (ez_I h2 117) NN := by rw [zI_fn e3 99 (by decide)]; exact rQ_w hq e3 (by omega)
  have A8 : ez_I h2 117 ((ez_I h 71 56)).toInt.toNat = s := zI_eq e3
  refine gw_ld rfl rfl ?_
  refine z_gR (q := 118) (zT S4 (by decide) rfl) (zRf S4 (by decide) (by decide) rfl) (by decide) ?_
  refine gw_ld rfl rfl ?_
  refine z_gI2 (by decide) (zT S4 (by decide) rfl) (f6) ?_
  refine gw_ld rfl rfl ?_
  refine z_is (n := 330) (zT S4 (by decide) rfl) (zN S4 (by decide) rfl) (by omega) (fun h9 e10 => ?_)
  have S11 := zSh_set S4 e10
  have F12 := zG_setA F5 e10 (by decide) (by decide)
  have f13 : ez_I h9 71 56 = (ez_I h 71 56) := (zI_ne e10 (by omega)).trans (f6)
  have A14 : rQ (ez_I h9 99) (ez_I h9 117) NN := by rw [zI_fn e10 99 (by decide), zI_fn e10 117 (by decide)]; exact A7
  have A15 : ez_I h9 117 ((ez_I h 71 56)).toInt.toNat = s := by rw [zI_fn e10 117 (by decide)]; exact A8
  clear A7
  clear A8
  refine gw_ld rfl rfl ?_
  refine z_gR (q := 99) (zT S11 (by decide) rfl) (zRf S11 (by decide) (by decide) rfl) (by decide) ?_
  refine gw_ld rfl rfl ?_
  refine gw_op rfl ?_
  refine z_ia (n := 19) (zT S11 (by decide) rfl) (zN S11 (by decide) rfl) (by omega) ?_
  generalize ex16 : ez_I h9 99 s.toInt.toNat = x16
  have rx16 := z_rng x16
  have yx16 := A14.1 s.toInt.toNat (by omega)
  rw [ex16] at yx16
  refine z_C (m := 1) rfl rfl (fun x17 ex17 => ?_)
  refine z_add (by omega) (fun x18 ex18 => ?_)
  refine z_is (n := 19) (zT S11 (by decide) rfl) (zN S11 (by decide) rfl) (by omega) (fun h19 e20 => ?_)
  have S21 := zSh_set S11 e20
  have F22 := zG_setA F12 e20 (by decide) (by decide)
  have f23 : ez_I h19 71 56 = (ez_I h 71 56) := (zI_ne e20 (by omega)).trans (f13)
  have A24 : rQ (ez_I h19 99) (ez_I h19 117) (NN + 1) := by rw [zI_fn e20 117 (by decide)]; exact rQ_s A14 (upd1_of e20 ex16 (by omega)) A15 (by omega) rfl (by omega)
  have A25 : ez_I h19 117 ((ez_I h 71 56)).toInt.toNat = s := by rw [zI_fn e20 117 (by decide)]; exact A15
  clear A14
  clear A15
  refine gw_ld rfl rfl ?_
  refine gw_op rfl ?_
  refine z_gI2 (by decide) (zT S21 (by decide) rfl) (f23) ?_
  refine z_C (m := 1) rfl rfl (fun x26 ex26 => ?_)
  refine z_add (by omega) (fun x27 ex27 => ?_)
  refine z_pI (zT S21 (by decide) rfl) (fun h28 e29 => ?_)
  have S30 := zSh_set S21 e29
  have F31 := zG_setF F22 e29 (by decide)
  have f32 : ez_I h28 71 56 = x27 := zI_eq e29
  have A33 : rQ (ez_I h28 99) (ez_I h28 117) (NN + 1) := by rw [zI_fn e29 99 (by decide), zI_fn e29 117 (by decide)]; exact A24
  have A34 : ez_I h28 117 ((ez_I h 71 56)).toInt.toNat = s := by rw [zI_fn e29 117 (by decide)]; exact A25
  clear A24
  clear A25
  refine z_rv ?_
  have t35 := congrArg Int32.toInt (f32)
  exact K _ F31 (by omega) (A33)
set_option maxRecDepth 4000 in
set_option maxHeartbeats 20000000 in
theorem m_tl_L5 {E : Nat → Nat × (Nat → Int32)} {d : Nat} {Q : ez_Q} {h : ez_H}  (S : zSh h) (hL : aR (ez_I h 100) 286 0 15) (hB : aR (ez_I h 101) 30 0 15) (K : ∀ h2, zG (fun k => k = 56 ∨ k = 57 ∨ k = 58) (fun q => q = 99 ∨ 117 ≤ q ∧ q ≤ 119) h h2 → (257 ≤ (ez_I h2 71 57).toInt ∧ (ez_I h2 71 57).toInt ≤ 286 ∧ 1 ≤ (ez_I h2 71 58).toInt ∧ (ez_I h2 71 58).toInt ≤ 30 ∧ 0 ≤ (ez_I h2 71 56).toInt ∧ (ez_I h2 71 56).toInt ≤ 316) → rQ (ez_I h2 99) (ez_I h2 117) (ez_I h2 71 56).toInt.toNat → Q (.inl none) h2) : ∀ N : Nat, (∀ (h2 : ez_H) (al : Int32) (k : Int32) (l3 : Option Value) (l4 : Option Value) (c : Nat), zG (fun k => k = 56 ∨ k = 57 ∨ k = 58) (fun q => q = 99 ∨ 117 ≤ q ∧ q ≤ 119) h h2 → (0 ≤ k.toInt ∧ k.toInt ≤ al.toInt ∧ al.toInt ≤ 316 ∧ 257 ≤ (ez_I h2 71 57).toInt ∧ (ez_I h2 71 57).toInt ≤ 286 ∧ 1 ≤ (ez_I h2 71 58).toInt ∧ (ez_I h2 71 58).toInt ≤ 30 ∧ (ez_I h2 71 56).toInt = c ∧ (c : Int) ≤ k.toInt) → aR (ez_I h2 119) al.toInt.toNat 0 15 → rQ (ez_I h2 99) (ez_I h2 117) c → (1000 * (400 - k.toInt)) < (N : Int) → pw E (d + 1) 42 188 [some (.ref 71), some (.int al), some (.int k), l3, l4] [] h2 Q) ∧ (∀ (h2 : ez_H) (al : Int32) (k : Int32) (v : Int32) (n : Int32) (c : Nat), zG (fun k => k = 56 ∨ k = 57 ∨ k = 58) (fun q => q = 99 ∨ 117 ≤ q ∧ q ≤ 119) h h2 → (0 ≤ k.toInt ∧ k.toInt < al.toInt ∧ al.toInt ≤ 316 ∧ 257 ≤ (ez_I h2 71 57).toInt ∧ (ez_I h2 71 57).toInt ≤ 286 ∧ 1 ≤ (ez_I h2 71 58).toInt ∧ (ez_I h2 71 58).toInt ≤ 30 ∧ (ez_I h2 71 56).toInt = c ∧ (c : Int) ≤ k.toInt ∧ 1 ≤ n.toInt ∧ k.toInt + n.toInt ≤ al.toInt ∧ 0 ≤ v.toInt ∧ v.toInt ≤ 15) → aR (ez_I h2 119) al.toInt.toNat 0 15 → rQ (ez_I h2 99) (ez_I h2 117) c → (1000 * (400 - k.toInt) - 500 + (400 - n.toInt)) < (N : Int) → pw E (d + 1) 42 203 [some (.ref 71), some (.int al), some (.int k), some (.int v), some (.int n)] [] h2 Q) := by
  intro N
  induction N with
  | zero => exact ⟨fun h2 al k l3 l4 c F hinv A_ro A_rq hm => absurd hm (by have w_al := z_rng al; have w_k := z_rng k; omega), fun h2 al k v n c F hinv A_ro A_rq hm => absurd hm (by have w_al := z_rng al; have w_k := z_rng k; have w_v := z_rng v; have w_n := z_rng n; omega)⟩
  | succ N ih =>
    refine ⟨fun h2 al k l3 l4 c F hinv A_ro A_rq hm => ?_, fun h2 al k v n c F hinv A_ro A_rq hm => ?_⟩
    · skip
      have w_al := z_rng al
      have w_k := z_rng k
      have S2 := zG_sh F S
      apply ez_Wp_in
      show ez_gw _ _ _ _ _ _ (cz_42) _ _ _ _ _
      refine gw_skip _ ?_
      have r1 := z_rng (ez_I h2 71 56)
      have r2 := z_rng (ez_I h2 71 57)
      have r3 := z_rng (ez_I h2 71 58)
      refine gw_ld rfl rfl ?_
      refine gw_ld rfl rfl ?_
      refine z_b2 (fun c4 => ?_) (fun c4 => ?_)
      · have c4 : al.toInt ≤ k.toInt := c4
        refine gw_skip _ ?_
        refine z_rv ?_
        exact K _ F (by omega) (by rw [show (ez_I h2 71 56).toInt.toNat = c by omega]; exact A_rq)
      · have c4 : ¬ (al.toInt ≤ k.toInt) := c4
        refine gw_ld rfl rfl ?_
        refine z_gR (q := 119) (zT S2 (by decide) rfl) (zRf S2 (by decide) (by decide) rfl) (by decide) ?_
        refine gw_ld rfl rfl ?_
        refine z_ia (n := 330) (zT S2 (by decide) rfl) (zN S2 (by decide) rfl) (by omega) ?_
        generalize ex5 : ez_I h2 119 k.toInt.toNat = x5
        have rx5 := z_rng x5
        have yx5 := A_ro k.toInt.toNat (by omega)
        rw [ex5] at yx5
        refine gw_st rfl rfl rfl ?_
        show ez_gw _ _ _ _ _ _ _ _ [some (.ref 71), some (.int al), some (.int k), some (.int x5), l4] _ _ _
        refine z_C (m := 1) rfl rfl (fun x6 ex6 => ?_)
        refine gw_st rfl rfl rfl ?_
        show ez_gw _ _ _ _ _ _ _ _ [some (.ref 71), some (.int al), some (.int k), some (.int x5), some (.int x6)] _ _ _
        exact ez_Wp_at (ih.2 h2 al k x5 x6 c F (by omega) A_ro A_rq (by omega)) rfl
    · skip
      have w_al := z_rng al
      have w_k := z_rng k
      have w_v := z_rng v
      have w_n := z_rng n
      have S2 := zG_sh F S
      apply ez_Wp_in
      show ez_gw _ _ _ _ _ _ (cz_42) _ _ _ _ _
      refine gw_skip _ ?_
      have r7 := z_rng (ez_I h2 71 56)
      have r8 := z_rng (ez_I h2 71 57)
      have r9 := z_rng (ez_I h2 71 58)
      refine gw_ld rfl rfl ?_
      refine gw_ld rfl rfl ?_
      refine z_add (by omega) (fun x10 ex10 => ?_)
      refine gw_ld rfl rfl ?_
      refine z_b2 (fun c11 => ?_) (fun c11 => ?_)
      · have c11 : al.toInt ≤ x10.toInt := c11
        refine gw_skip _ ?_
        refine gw_ld rfl rfl ?_
        refine z_b1 (fun c12 => ?_) (fun c12 => ?_)
        · have c12 : v.toInt ≠ 0 := c12
          refine gw_skip _ ?_
          refine gw_ld rfl rfl ?_
          refine z_b1 (fun c13 => ?_) (fun c13 => ?_)
          · have c13 : k.toInt ≤ 0 := c13
            refine gw_skip _ ?_
            refine gw_ld rfl rfl ?_
            refine gw_ld rfl rfl ?_
            refine z_C (m := 0) rfl rfl (fun x14 ex14 => ?_)
            refine z_cl rfl rfl rfl rfl rfl rfl rfl rfl rfl rfl rfl (zT S2 (by decide) rfl) ?_
            refine m_tr (s := v) (e := x14) (NN := c) S2 (by omega) (by omega) A_rq (fun h15 F16 k17 k18 => ?_)
            have S19 := zG_sh F16 S2
            have F20 := zG_tr F (zG_mono F16 (fun k hk => by first | omega | exact False.elim hk) (fun k hk => by first | omega | exact False.elim hk))
            have r21 := z_rng (ez_I h15 71 56)
            have f22 : ez_I h15 71 57 = (ez_I h2 71 57) := (zG_f F16 (by decide)).trans (rfl)
            have f23 : ez_I h15 71 58 = (ez_I h2 71 58) := (zG_f F16 (by decide)).trans (rfl)
            have A24 : aR (ez_I h15 119) al.toInt.toNat 0 15 := by rw [zG_fn F16 119 (by decide) (by first | omega | exact fun c => c)]; exact A_ro
            refine z_inc rfl (by rw [show (1 : Int32).toInt = 1 from rfl]; omega) (fun x25 ex25 => ?_)
            rw [show (1 : Int32).toInt = 1 from rfl] at ex25
            show ez_gw _ _ _ _ _ _ _ _ [some (.ref 71), some (.int al), some (.int x25), some (.int v), some (.int n)] _ _ _
            refine z_go ?_
            have t26 := congrArg Int32.toInt (f22)
            have t27 := congrArg Int32.toInt (f23)
            exact ih.1 h15 al x25 (some (.int v)) (some (.int n)) (c + 1) F20 (by omega) (aR_le A24 (by omega)) (k18) (by omega)
          · have c13 : ¬ (k.toInt ≤ 0) := c13
            refine gw_ld rfl rfl ?_
            refine z_gR (q := 119) (zT S2 (by decide) rfl) (zRf S2 (by decide) (by decide) rfl) (by decide) ?_
            refine gw_ld rfl rfl ?_
            refine z_C (m := 1) rfl rfl (fun x28 ex28 => ?_)
            refine z_sub (by omega) (fun x29 ex29 => ?_)
            refine z_ia (n := 330) (zT S2 (by decide) rfl) (zN S2 (by decide) rfl) (by omega) ?_
            generalize ex30 : ez_I h2 119 x29.toInt.toNat = x30
            have rx30 := z_rng x30
            refine gw_ld rfl rfl ?_
            refine z_b2 (fun c31 => ?_) (fun c31 => ?_)
            · have c31 : x30.toInt ≠ v.toInt := c31
              refine gw_skip _ ?_
              refine gw_ld rfl rfl ?_
              refine gw_ld rfl rfl ?_
              refine z_C (m := 0) rfl rfl (fun x32 ex32 => ?_)
              refine z_cl rfl rfl rfl rfl rfl rfl rfl rfl rfl rfl rfl (zT S2 (by decide) rfl) ?_
              refine m_tr (s := v) (e := x32) (NN := c) S2 (by omega) (by omega) A_rq (fun h33 F34 k35 k36 => ?_)
              have S37 := zG_sh F34 S2
              have F38 := zG_tr F (zG_mono F34 (fun k hk => by first | omega | exact False.elim hk) (fun k hk => by first | omega | exact False.elim hk))
              have r39 := z_rng (ez_I h33 71 56)
              have f40 : ez_I h33 71 57 = (ez_I h2 71 57) := (zG_f F34 (by decide)).trans (rfl)
              have f41 : ez_I h33 71 58 = (ez_I h2 71 58) := (zG_f F34 (by decide)).trans (rfl)
              have A42 : aR (ez_I h33 119) al.toInt.toNat 0 15 := by rw [zG_fn F34 119 (by decide) (by first | omega | exact fun c => c)]; exact A_ro
              refine z_inc rfl (by rw [show (1 : Int32).toInt = 1 from rfl]; omega) (fun x43 ex43 => ?_)
              rw [show (1 : Int32).toInt = 1 from rfl] at ex43
              show ez_gw _ _ _ _ _ _ _ _ [some (.ref 71), some (.int al), some (.int x43), some (.int v), some (.int n)] _ _ _
              refine z_go ?_
              have t44 := congrArg Int32.toInt (f40)
              have t45 := congrArg Int32.toInt (f41)
              exact ih.1 h33 al x43 (some (.int v)) (some (.int n)) (c + 1) F38 (by omega) (aR_le A42 (by omega)) (k36) (by omega)
            · have c31 : ¬ (x30.toInt ≠ v.toInt) := c31
              refine gw_ld rfl rfl ?_
              refine z_C (m := 2) rfl rfl (fun x46 ex46 => ?_)
              refine z_b2 (fun c47 => ?_) (fun c47 => ?_)
              · have c47 : n.toInt ≤ x46.toInt := c47
                refine gw_skip _ ?_
                refine gw_ld rfl rfl ?_
                refine gw_ld rfl rfl ?_
                refine z_C (m := 0) rfl rfl (fun x48 ex48 => ?_)
                refine z_cl rfl rfl rfl rfl rfl rfl rfl rfl rfl rfl rfl (zT S2 (by decide) rfl) ?_
                refine m_tr (s := v) (e := x48) (NN := c) S2 (by omega) (by omega) A_rq (fun h49 F50 k51 k52 => ?_)
                have S53 := zG_sh F50 S2
                have F54 := zG_tr F (zG_mono F50 (fun k hk => by first | omega | exact False.elim hk) (fun k hk => by first | omega | exact False.elim hk))
                have r55 := z_rng (ez_I h49 71 56)
                have f56 : ez_I h49 71 57 = (ez_I h2 71 57) := (zG_f F50 (by decide)).trans (rfl)
                have f57 : ez_I h49 71 58 = (ez_I h2 71 58) := (zG_f F50 (by decide)).trans (rfl)
                have A58 : aR (ez_I h49 119) al.toInt.toNat 0 15 := by rw [zG_fn F50 119 (by decide) (by first | omega | exact fun c => c)]; exact A_ro
                refine z_inc rfl (by rw [show (1 : Int32).toInt = 1 from rfl]; omega) (fun x59 ex59 => ?_)
                rw [show (1 : Int32).toInt = 1 from rfl] at ex59
                show ez_gw _ _ _ _ _ _ _ _ [some (.ref 71), some (.int al), some (.int x59), some (.int v), some (.int n)] _ _ _
                refine z_go ?_
                have t60 := congrArg Int32.toInt (f56)
                have t61 := congrArg Int32.toInt (f57)
                exact ih.1 h49 al x59 (some (.int v)) (some (.int n)) (c + 1) F54 (by omega) (aR_le A58 (by omega)) (k52) (by omega)
              · have c47 : ¬ (n.toInt ≤ x46.toInt) := c47
                refine gw_ld rfl rfl ?_
                refine z_C (m := 6) rfl rfl (fun x62 ex62 => ?_)
                refine z_b2 (fun c63 => ?_) (fun c63 => ?_)
                · have c63 : n.toInt ≤ x62.toInt := c63
                  refine gw_skip _ ?_
                  refine gw_ld rfl rfl ?_
                  refine gw_st rfl rfl rfl ?_
                  show ez_gw _ _ _ _ _ _ _ _ [some (.ref 71), some (.int al), some (.int k), some (.int v), some (.int n)] _ _ _
                  refine gw_ld rfl rfl ?_
                  refine z_C (m := 16) rfl rfl (fun x64 ex64 => ?_)
                  refine gw_ld rfl rfl ?_
                  refine z_C (m := 3) rfl rfl (fun x65 ex65 => ?_)
                  refine z_sub (by omega) (fun x66 ex66 => ?_)
                  refine z_cl rfl rfl rfl rfl rfl rfl rfl rfl rfl rfl rfl (zT S2 (by decide) rfl) ?_
                  refine m_tr (s := x64) (e := x66) (NN := c) S2 (by omega) (by omega) A_rq (fun h67 F68 k69 k70 => ?_)
                  have S71 := zG_sh F68 S2
                  have F72 := zG_tr F (zG_mono F68 (fun k hk => by first | omega | exact False.elim hk) (fun k hk => by first | omega | exact False.elim hk))
                  have r73 := z_rng (ez_I h67 71 56)
                  have f74 : ez_I h67 71 57 = (ez_I h2 71 57) := (zG_f F68 (by decide)).trans (rfl)
                  have f75 : ez_I h67 71 58 = (ez_I h2 71 58) := (zG_f F68 (by decide)).trans (rfl)
                  have A76 : aR (ez_I h67 119) al.toInt.toNat 0 15 := by rw [zG_fn F68 119 (by decide) (by first | omega | exact fun c => c)]; exact A_ro
                  refine gw_ld rfl rfl ?_
                  refine gw_ld rfl rfl ?_
                  refine z_add (by omega) (fun x77 ex77 => ?_)
                  refine gw_st rfl rfl rfl ?_
                  show ez_gw _ _ _ _ _ _ _ _ [some (.ref 71), some (.int al), some (.int x77), some (.int v), some (.int n)] _ _ _
                  refine z_go ?_
                  refine gw_skip _ ?_
                  refine z_go ?_
                  have t78 := congrArg Int32.toInt (f74)
                  have t79 := congrArg Int32.toInt (f75)
                  exact ih.1 h67 al x77 (some (.int v)) (some (.int n)) (c + 1) F72 (by omega) (aR_le A76 (by omega)) (k70) (by omega)
                · have c63 : ¬ (n.toInt ≤ x62.toInt) := c63
                  refine z_C (m := 6) rfl rfl (fun x80 ex80 => ?_)
                  refine z_go ?_
                  refine gw_skip _ ?_
                  refine gw_st rfl rfl rfl ?_
                  show ez_gw _ _ _ _ _ _ _ _ [some (.ref 71), some (.int al), some (.int k), some (.int v), some (.int x80)] _ _ _
                  refine gw_ld rfl rfl ?_
                  refine z_C (m := 16) rfl rfl (fun x81 ex81 => ?_)
                  refine gw_ld rfl rfl ?_
                  refine z_C (m := 3) rfl rfl (fun x82 ex82 => ?_)
                  refine z_sub (by omega) (fun x83 ex83 => ?_)
                  refine z_cl rfl rfl rfl rfl rfl rfl rfl rfl rfl rfl rfl (zT S2 (by decide) rfl) ?_
                  refine m_tr (s := x81) (e := x83) (NN := c) S2 (by omega) (by omega) A_rq (fun h84 F85 k86 k87 => ?_)
                  have S88 := zG_sh F85 S2
                  have F89 := zG_tr F (zG_mono F85 (fun k hk => by first | omega | exact False.elim hk) (fun k hk => by first | omega | exact False.elim hk))
                  have r90 := z_rng (ez_I h84 71 56)
                  have f91 : ez_I h84 71 57 = (ez_I h2 71 57) := (zG_f F85 (by decide)).trans (rfl)
                  have f92 : ez_I h84 71 58 = (ez_I h2 71 58) := (zG_f F85 (by decide)).trans (rfl)
                  have A93 : aR (ez_I h84 119) al.toInt.toNat 0 15 := by rw [zG_fn F85 119 (by decide) (by first | omega | exact fun c => c)]; exact A_ro
                  refine gw_ld rfl rfl ?_
                  refine gw_ld rfl rfl ?_
                  refine z_add (by omega) (fun x94 ex94 => ?_)
                  refine gw_st rfl rfl rfl ?_
                  show ez_gw _ _ _ _ _ _ _ _ [some (.ref 71), some (.int al), some (.int x94), some (.int v), some (.int x80)] _ _ _
                  refine z_go ?_
                  refine gw_skip _ ?_
                  refine z_go ?_
                  have t95 := congrArg Int32.toInt (f91)
                  have t96 := congrArg Int32.toInt (f92)
                  exact ih.1 h84 al x94 (some (.int v)) (some (.int x80)) (c + 1) F89 (by omega) (aR_le A93 (by omega)) (k87) (by omega)
        · have c12 : ¬ (v.toInt ≠ 0) := c12
          refine gw_ld rfl rfl ?_
          refine z_C (m := 2) rfl rfl (fun x97 ex97 => ?_)
          refine z_b2 (fun c98 => ?_) (fun c98 => ?_)
          · have c98 : n.toInt ≤ x97.toInt := c98
            refine gw_skip _ ?_
            refine gw_ld rfl rfl ?_
            refine z_b1 (fun c99 => ?_) (fun c99 => ?_)
            · have c99 : k.toInt ≤ 0 := c99
              refine gw_skip _ ?_
              refine gw_ld rfl rfl ?_
              refine gw_ld rfl rfl ?_
              refine z_C (m := 0) rfl rfl (fun x100 ex100 => ?_)
              refine z_cl rfl rfl rfl rfl rfl rfl rfl rfl rfl rfl rfl (zT S2 (by decide) rfl) ?_
              refine m_tr (s := v) (e := x100) (NN := c) S2 (by omega) (by omega) A_rq (fun h101 F102 k103 k104 => ?_)
              have S105 := zG_sh F102 S2
              have F106 := zG_tr F (zG_mono F102 (fun k hk => by first | omega | exact False.elim hk) (fun k hk => by first | omega | exact False.elim hk))
              have r107 := z_rng (ez_I h101 71 56)
              have f108 : ez_I h101 71 57 = (ez_I h2 71 57) := (zG_f F102 (by decide)).trans (rfl)
              have f109 : ez_I h101 71 58 = (ez_I h2 71 58) := (zG_f F102 (by decide)).trans (rfl)
              have A110 : aR (ez_I h101 119) al.toInt.toNat 0 15 := by rw [zG_fn F102 119 (by decide) (by first | omega | exact fun c => c)]; exact A_ro
              refine z_inc rfl (by rw [show (1 : Int32).toInt = 1 from rfl]; omega) (fun x111 ex111 => ?_)
              rw [show (1 : Int32).toInt = 1 from rfl] at ex111
              show ez_gw _ _ _ _ _ _ _ _ [some (.ref 71), some (.int al), some (.int x111), some (.int v), some (.int n)] _ _ _
              refine z_go ?_
              have t112 := congrArg Int32.toInt (f108)
              have t113 := congrArg Int32.toInt (f109)
              exact ih.1 h101 al x111 (some (.int v)) (some (.int n)) (c + 1) F106 (by omega) (aR_le A110 (by omega)) (k104) (by omega)
            · have c99 : ¬ (k.toInt ≤ 0) := c99
              refine gw_ld rfl rfl ?_
              refine z_gR (q := 119) (zT S2 (by decide) rfl) (zRf S2 (by decide) (by decide) rfl) (by decide) ?_
              refine gw_ld rfl rfl ?_
              refine z_C (m := 1) rfl rfl (fun x114 ex114 => ?_)
              refine z_sub (by omega) (fun x115 ex115 => ?_)
              refine z_ia (n := 330) (zT S2 (by decide) rfl) (zN S2 (by decide) rfl) (by omega) ?_
              generalize ex116 : ez_I h2 119 x115.toInt.toNat = x116
              have rx116 := z_rng x116
              refine gw_ld rfl rfl ?_
              refine z_b2 (fun c117 => ?_) (fun c117 => ?_)
              · have c117 : x116.toInt ≠ v.toInt := c117
                refine gw_skip _ ?_
                refine gw_ld rfl rfl ?_
                refine gw_ld rfl rfl ?_
                refine z_C (m := 0) rfl rfl (fun x118 ex118 => ?_)
                refine z_cl rfl rfl rfl rfl rfl rfl rfl rfl rfl rfl rfl (zT S2 (by decide) rfl) ?_
                refine m_tr (s := v) (e := x118) (NN := c) S2 (by omega) (by omega) A_rq (fun h119 F120 k121 k122 => ?_)
                have S123 := zG_sh F120 S2
                have F124 := zG_tr F (zG_mono F120 (fun k hk => by first | omega | exact False.elim hk) (fun k hk => by first | omega | exact False.elim hk))
                have r125 := z_rng (ez_I h119 71 56)
                have f126 : ez_I h119 71 57 = (ez_I h2 71 57) := (zG_f F120 (by decide)).trans (rfl)
                have f127 : ez_I h119 71 58 = (ez_I h2 71 58) := (zG_f F120 (by decide)).trans (rfl)
                have A128 : aR (ez_I h119 119) al.toInt.toNat 0 15 := by rw [zG_fn F120 119 (by decide) (by first | omega | exact fun c => c)]; exact A_ro
                refine z_inc rfl (by rw [show (1 : Int32).toInt = 1 from rfl]; omega) (fun x129 ex129 => ?_)
                rw [show (1 : Int32).toInt = 1 from rfl] at ex129
                show ez_gw _ _ _ _ _ _ _ _ [some (.ref 71), some (.int al), some (.int x129), some (.int v), some (.int n)] _ _ _
                refine z_go ?_
                have t130 := congrArg Int32.toInt (f126)
                have t131 := congrArg Int32.toInt (f127)
                exact ih.1 h119 al x129 (some (.int v)) (some (.int n)) (c + 1) F124 (by omega) (aR_le A128 (by omega)) (k122) (by omega)
              · have c117 : ¬ (x116.toInt ≠ v.toInt) := c117
                refine gw_ld rfl rfl ?_
                refine z_C (m := 2) rfl rfl (fun x132 ex132 => ?_)
                refine z_b2 (fun c133 => ?_) (fun c133 => ?_)
                · have c133 : n.toInt ≤ x132.toInt := c133
                  refine gw_skip _ ?_
                  refine gw_ld rfl rfl ?_
                  refine gw_ld rfl rfl ?_
                  refine z_C (m := 0) rfl rfl (fun x134 ex134 => ?_)
                  refine z_cl rfl rfl rfl rfl rfl rfl rfl rfl rfl rfl rfl (zT S2 (by decide) rfl) ?_
                  refine m_tr (s := v) (e := x134) (NN := c) S2 (by omega) (by omega) A_rq (fun h135 F136 k137 k138 => ?_)
                  have S139 := zG_sh F136 S2
                  have F140 := zG_tr F (zG_mono F136 (fun k hk => by first | omega | exact False.elim hk) (fun k hk => by first | omega | exact False.elim hk))
                  have r141 := z_rng (ez_I h135 71 56)
                  have f142 : ez_I h135 71 57 = (ez_I h2 71 57) := (zG_f F136 (by decide)).trans (rfl)
                  have f143 : ez_I h135 71 58 = (ez_I h2 71 58) := (zG_f F136 (by decide)).trans (rfl)
                  have A144 : aR (ez_I h135 119) al.toInt.toNat 0 15 := by rw [zG_fn F136 119 (by decide) (by first | omega | exact fun c => c)]; exact A_ro
                  refine z_inc rfl (by rw [show (1 : Int32).toInt = 1 from rfl]; omega) (fun x145 ex145 => ?_)
                  rw [show (1 : Int32).toInt = 1 from rfl] at ex145
                  show ez_gw _ _ _ _ _ _ _ _ [some (.ref 71), some (.int al), some (.int x145), some (.int v), some (.int n)] _ _ _
                  refine z_go ?_
                  have t146 := congrArg Int32.toInt (f142)
                  have t147 := congrArg Int32.toInt (f143)
                  exact ih.1 h135 al x145 (some (.int v)) (some (.int n)) (c + 1) F140 (by omega) (aR_le A144 (by omega)) (k138) (by omega)
                · have c133 : ¬ (n.toInt ≤ x132.toInt) := c133
                  exfalso; omega
          · have c98 : ¬ (n.toInt ≤ x97.toInt) := c98
            refine gw_ld rfl rfl ?_
            refine z_C (m := 138) rfl rfl (fun x148 ex148 => ?_)
            refine z_b2 (fun c149 => ?_) (fun c149 => ?_)
            · have c149 : n.toInt ≤ x148.toInt := c149
              refine gw_skip _ ?_
              refine gw_ld rfl rfl ?_
              refine gw_st rfl rfl rfl ?_
              show ez_gw _ _ _ _ _ _ _ _ [some (.ref 71), some (.int al), some (.int k), some (.int v), some (.int n)] _ _ _
              refine gw_ld rfl rfl ?_
              refine gw_ld rfl rfl ?_
              refine z_C (m := 10) rfl rfl (fun x150 ex150 => ?_)
              refine z_b2 (fun c151 => ?_) (fun c151 => ?_)
              · have c151 : n.toInt ≤ x150.toInt := c151
                refine gw_skip _ ?_
                refine z_C (m := 17) rfl rfl (fun x152 ex152 => ?_)
                refine gw_ld rfl rfl ?_
                refine z_C (m := 10) rfl rfl (fun x153 ex153 => ?_)
                refine z_b2 (fun c154 => ?_) (fun c154 => ?_)
                · have c154 : n.toInt ≤ x153.toInt := c154
                  refine gw_skip _ ?_
                  refine gw_ld rfl rfl ?_
                  refine z_C (m := 3) rfl rfl (fun x155 ex155 => ?_)
                  refine z_sub (by omega) (fun x156 ex156 => ?_)
                  refine z_cl rfl rfl rfl rfl rfl rfl rfl rfl rfl rfl rfl (zT S2 (by decide) rfl) ?_
                  refine m_tr (s := x152) (e := x156) (NN := c) S2 (by omega) (by omega) A_rq (fun h157 F158 k159 k160 => ?_)
                  have S161 := zG_sh F158 S2
                  have F162 := zG_tr F (zG_mono F158 (fun k hk => by first | omega | exact False.elim hk) (fun k hk => by first | omega | exact False.elim hk))
                  have r163 := z_rng (ez_I h157 71 56)
                  have f164 : ez_I h157 71 57 = (ez_I h2 71 57) := (zG_f F158 (by decide)).trans (rfl)
                  have f165 : ez_I h157 71 58 = (ez_I h2 71 58) := (zG_f F158 (by decide)).trans (rfl)
                  have A166 : aR (ez_I h157 119) al.toInt.toNat 0 15 := by rw [zG_fn F158 119 (by decide) (by first | omega | exact fun c => c)]; exact A_ro
                  refine gw_ld rfl rfl ?_
                  refine gw_ld rfl rfl ?_
                  refine z_add (by omega) (fun x167 ex167 => ?_)
                  refine gw_st rfl rfl rfl ?_
                  show ez_gw _ _ _ _ _ _ _ _ [some (.ref 71), some (.int al), some (.int x167), some (.int v), some (.int n)] _ _ _
                  refine z_go ?_
                  refine gw_skip _ ?_
                  refine z_go ?_
                  have t168 := congrArg Int32.toInt (f164)
                  have t169 := congrArg Int32.toInt (f165)
                  exact ih.1 h157 al x167 (some (.int v)) (some (.int n)) (c + 1) F162 (by omega) (aR_le A166 (by omega)) (k160) (by omega)
                · have c154 : ¬ (n.toInt ≤ x153.toInt) := c154
                  exfalso; omega
              · have c151 : ¬ (n.toInt ≤ x150.toInt) := c151
                refine z_C (m := 18) rfl rfl (fun x170 ex170 => ?_)
                refine z_go ?_
                refine gw_skip _ ?_
                refine gw_ld rfl rfl ?_
                refine z_C (m := 10) rfl rfl (fun x171 ex171 => ?_)
                refine z_b2 (fun c172 => ?_) (fun c172 => ?_)
                · have c172 : n.toInt ≤ x171.toInt := c172
                  exfalso; omega
                · have c172 : ¬ (n.toInt ≤ x171.toInt) := c172
                  refine gw_ld rfl rfl ?_
                  refine z_C (m := 11) rfl rfl (fun x173 ex173 => ?_)
                  refine z_sub (by omega) (fun x174 ex174 => ?_)
                  refine z_go ?_
                  refine gw_skip _ ?_
                  refine z_cl rfl rfl rfl rfl rfl rfl rfl rfl rfl rfl rfl (zT S2 (by decide) rfl) ?_
                  refine m_tr (s := x170) (e := x174) (NN := c) S2 (by omega) (by omega) A_rq (fun h175 F176 k177 k178 => ?_)
                  have S179 := zG_sh F176 S2
                  have F180 := zG_tr F (zG_mono F176 (fun k hk => by first | omega | exact False.elim hk) (fun k hk => by first | omega | exact False.elim hk))
                  have r181 := z_rng (ez_I h175 71 56)
                  have f182 : ez_I h175 71 57 = (ez_I h2 71 57) := (zG_f F176 (by decide)).trans (rfl)
                  have f183 : ez_I h175 71 58 = (ez_I h2 71 58) := (zG_f F176 (by decide)).trans (rfl)
                  have A184 : aR (ez_I h175 119) al.toInt.toNat 0 15 := by rw [zG_fn F176 119 (by decide) (by first | omega | exact fun c => c)]; exact A_ro
                  refine gw_ld rfl rfl ?_
                  refine gw_ld rfl rfl ?_
                  refine z_add (by omega) (fun x185 ex185 => ?_)
                  refine gw_st rfl rfl rfl ?_
                  show ez_gw _ _ _ _ _ _ _ _ [some (.ref 71), some (.int al), some (.int x185), some (.int v), some (.int n)] _ _ _
                  refine z_go ?_
                  refine gw_skip _ ?_
                  refine z_go ?_
                  have t186 := congrArg Int32.toInt (f182)
                  have t187 := congrArg Int32.toInt (f183)
                  exact ih.1 h175 al x185 (some (.int v)) (some (.int n)) (c + 1) F180 (by omega) (aR_le A184 (by omega)) (k178) (by omega)
            · have c149 : ¬ (n.toInt ≤ x148.toInt) := c149
              refine z_C (m := 138) rfl rfl (fun x188 ex188 => ?_)
              refine z_go ?_
              refine gw_skip _ ?_
              refine gw_st rfl rfl rfl ?_
              show ez_gw _ _ _ _ _ _ _ _ [some (.ref 71), some (.int al), some (.int k), some (.int v), some (.int x188)] _ _ _
              refine gw_ld rfl rfl ?_
              refine gw_ld rfl rfl ?_
              refine z_C (m := 10) rfl rfl (fun x189 ex189 => ?_)
              refine z_b2 (fun c190 => ?_) (fun c190 => ?_)
              · have c190 : x188.toInt ≤ x189.toInt := c190
                exfalso; omega
              · have c190 : ¬ (x188.toInt ≤ x189.toInt) := c190
                refine z_C (m := 18) rfl rfl (fun x191 ex191 => ?_)
                refine z_go ?_
                refine gw_skip _ ?_
                refine gw_ld rfl rfl ?_
                refine z_C (m := 10) rfl rfl (fun x192 ex192 => ?_)
                refine z_b2 (fun c193 => ?_) (fun c193 => ?_)
                · have c193 : x188.toInt ≤ x192.toInt := c193
                  exfalso; omega
                · have c193 : ¬ (x188.toInt ≤ x192.toInt) := c193
                  refine gw_ld rfl rfl ?_
                  refine z_C (m := 11) rfl rfl (fun x194 ex194 => ?_)
                  refine z_sub (by omega) (fun x195 ex195 => ?_)
                  refine z_go ?_
                  refine gw_skip _ ?_
                  refine z_cl rfl rfl rfl rfl rfl rfl rfl rfl rfl rfl rfl (zT S2 (by decide) rfl) ?_
                  refine m_tr (s := x191) (e := x195) (NN := c) S2 (by omega) (by omega) A_rq (fun h196 F197 k198 k199 => ?_)
                  have S200 := zG_sh F197 S2
                  have F201 := zG_tr F (zG_mono F197 (fun k hk => by first | omega | exact False.elim hk) (fun k hk => by first | omega | exact False.elim hk))
                  have r202 := z_rng (ez_I h196 71 56)
                  have f203 : ez_I h196 71 57 = (ez_I h2 71 57) := (zG_f F197 (by decide)).trans (rfl)
                  have f204 : ez_I h196 71 58 = (ez_I h2 71 58) := (zG_f F197 (by decide)).trans (rfl)
                  have A205 : aR (ez_I h196 119) al.toInt.toNat 0 15 := by rw [zG_fn F197 119 (by decide) (by first | omega | exact fun c => c)]; exact A_ro
                  refine gw_ld rfl rfl ?_
                  refine gw_ld rfl rfl ?_
                  refine z_add (by omega) (fun x206 ex206 => ?_)
                  refine gw_st rfl rfl rfl ?_
                  show ez_gw _ _ _ _ _ _ _ _ [some (.ref 71), some (.int al), some (.int x206), some (.int v), some (.int x188)] _ _ _
                  refine z_go ?_
                  refine gw_skip _ ?_
                  refine z_go ?_
                  have t207 := congrArg Int32.toInt (f203)
                  have t208 := congrArg Int32.toInt (f204)
                  exact ih.1 h196 al x206 (some (.int v)) (some (.int x188)) (c + 1) F201 (by omega) (aR_le A205 (by omega)) (k199) (by omega)
      · have c11 : ¬ (al.toInt ≤ x10.toInt) := c11
        refine gw_ld rfl rfl ?_
        refine z_gR (q := 119) (zT S2 (by decide) rfl) (zRf S2 (by decide) (by decide) rfl) (by decide) ?_
        refine gw_ld rfl rfl ?_
        refine gw_ld rfl rfl ?_
        refine z_add (by omega) (fun x209 ex209 => ?_)
        refine z_ia (n := 330) (zT S2 (by decide) rfl) (zN S2 (by decide) rfl) (by omega) ?_
        generalize ex210 : ez_I h2 119 x209.toInt.toNat = x210
        have rx210 := z_rng x210
        refine gw_ld rfl rfl ?_
        refine z_b2 (fun c211 => ?_) (fun c211 => ?_)
        · have c211 : x210.toInt ≠ v.toInt := c211
          refine gw_skip _ ?_
          refine gw_ld rfl rfl ?_
          refine z_b1 (fun c212 => ?_) (fun c212 => ?_)
          · have c212 : v.toInt ≠ 0 := c212
            refine gw_skip _ ?_
            refine gw_ld rfl rfl ?_
            refine z_b1 (fun c213 => ?_) (fun c213 => ?_)
            · have c213 : k.toInt ≤ 0 := c213
              refine gw_skip _ ?_
              refine gw_ld rfl rfl ?_
              refine gw_ld rfl rfl ?_
              refine z_C (m := 0) rfl rfl (fun x214 ex214 => ?_)
              refine z_cl rfl rfl rfl rfl rfl rfl rfl rfl rfl rfl rfl (zT S2 (by decide) rfl) ?_
              refine m_tr (s := v) (e := x214) (NN := c) S2 (by omega) (by omega) A_rq (fun h215 F216 k217 k218 => ?_)
              have S219 := zG_sh F216 S2
              have F220 := zG_tr F (zG_mono F216 (fun k hk => by first | omega | exact False.elim hk) (fun k hk => by first | omega | exact False.elim hk))
              have r221 := z_rng (ez_I h215 71 56)
              have f222 : ez_I h215 71 57 = (ez_I h2 71 57) := (zG_f F216 (by decide)).trans (rfl)
              have f223 : ez_I h215 71 58 = (ez_I h2 71 58) := (zG_f F216 (by decide)).trans (rfl)
              have A224 : aR (ez_I h215 119) al.toInt.toNat 0 15 := by rw [zG_fn F216 119 (by decide) (by first | omega | exact fun c => c)]; exact A_ro
              refine z_inc rfl (by rw [show (1 : Int32).toInt = 1 from rfl]; omega) (fun x225 ex225 => ?_)
              rw [show (1 : Int32).toInt = 1 from rfl] at ex225
              show ez_gw _ _ _ _ _ _ _ _ [some (.ref 71), some (.int al), some (.int x225), some (.int v), some (.int n)] _ _ _
              refine z_go ?_
              have t226 := congrArg Int32.toInt (f222)
              have t227 := congrArg Int32.toInt (f223)
              exact ih.1 h215 al x225 (some (.int v)) (some (.int n)) (c + 1) F220 (by omega) (aR_le A224 (by omega)) (k218) (by omega)
            · have c213 : ¬ (k.toInt ≤ 0) := c213
              refine gw_ld rfl rfl ?_
              refine z_gR (q := 119) (zT S2 (by decide) rfl) (zRf S2 (by decide) (by decide) rfl) (by decide) ?_
              refine gw_ld rfl rfl ?_
              refine z_C (m := 1) rfl rfl (fun x228 ex228 => ?_)
              refine z_sub (by omega) (fun x229 ex229 => ?_)
              refine z_ia (n := 330) (zT S2 (by decide) rfl) (zN S2 (by decide) rfl) (by omega) ?_
              generalize ex230 : ez_I h2 119 x229.toInt.toNat = x230
              have rx230 := z_rng x230
              refine gw_ld rfl rfl ?_
              refine z_b2 (fun c231 => ?_) (fun c231 => ?_)
              · have c231 : x230.toInt ≠ v.toInt := c231
                refine gw_skip _ ?_
                refine gw_ld rfl rfl ?_
                refine gw_ld rfl rfl ?_
                refine z_C (m := 0) rfl rfl (fun x232 ex232 => ?_)
                refine z_cl rfl rfl rfl rfl rfl rfl rfl rfl rfl rfl rfl (zT S2 (by decide) rfl) ?_
                refine m_tr (s := v) (e := x232) (NN := c) S2 (by omega) (by omega) A_rq (fun h233 F234 k235 k236 => ?_)
                have S237 := zG_sh F234 S2
                have F238 := zG_tr F (zG_mono F234 (fun k hk => by first | omega | exact False.elim hk) (fun k hk => by first | omega | exact False.elim hk))
                have r239 := z_rng (ez_I h233 71 56)
                have f240 : ez_I h233 71 57 = (ez_I h2 71 57) := (zG_f F234 (by decide)).trans (rfl)
                have f241 : ez_I h233 71 58 = (ez_I h2 71 58) := (zG_f F234 (by decide)).trans (rfl)
                have A242 : aR (ez_I h233 119) al.toInt.toNat 0 15 := by rw [zG_fn F234 119 (by decide) (by first | omega | exact fun c => c)]; exact A_ro
                refine z_inc rfl (by rw [show (1 : Int32).toInt = 1 from rfl]; omega) (fun x243 ex243 => ?_)
                rw [show (1 : Int32).toInt = 1 from rfl] at ex243
                show ez_gw _ _ _ _ _ _ _ _ [some (.ref 71), some (.int al), some (.int x243), some (.int v), some (.int n)] _ _ _
                refine z_go ?_
                have t244 := congrArg Int32.toInt (f240)
                have t245 := congrArg Int32.toInt (f241)
                exact ih.1 h233 al x243 (some (.int v)) (some (.int n)) (c + 1) F238 (by omega) (aR_le A242 (by omega)) (k236) (by omega)
              · have c231 : ¬ (x230.toInt ≠ v.toInt) := c231
                refine gw_ld rfl rfl ?_
                refine z_C (m := 2) rfl rfl (fun x246 ex246 => ?_)
                refine z_b2 (fun c247 => ?_) (fun c247 => ?_)
                · have c247 : n.toInt ≤ x246.toInt := c247
                  refine gw_skip _ ?_
                  refine gw_ld rfl rfl ?_
                  refine gw_ld rfl rfl ?_
                  refine z_C (m := 0) rfl rfl (fun x248 ex248 => ?_)
                  refine z_cl rfl rfl rfl rfl rfl rfl rfl rfl rfl rfl rfl (zT S2 (by decide) rfl) ?_
                  refine m_tr (s := v) (e := x248) (NN := c) S2 (by omega) (by omega) A_rq (fun h249 F250 k251 k252 => ?_)
                  have S253 := zG_sh F250 S2
                  have F254 := zG_tr F (zG_mono F250 (fun k hk => by first | omega | exact False.elim hk) (fun k hk => by first | omega | exact False.elim hk))
                  have r255 := z_rng (ez_I h249 71 56)
                  have f256 : ez_I h249 71 57 = (ez_I h2 71 57) := (zG_f F250 (by decide)).trans (rfl)
                  have f257 : ez_I h249 71 58 = (ez_I h2 71 58) := (zG_f F250 (by decide)).trans (rfl)
                  have A258 : aR (ez_I h249 119) al.toInt.toNat 0 15 := by rw [zG_fn F250 119 (by decide) (by first | omega | exact fun c => c)]; exact A_ro
                  refine z_inc rfl (by rw [show (1 : Int32).toInt = 1 from rfl]; omega) (fun x259 ex259 => ?_)
                  rw [show (1 : Int32).toInt = 1 from rfl] at ex259
                  show ez_gw _ _ _ _ _ _ _ _ [some (.ref 71), some (.int al), some (.int x259), some (.int v), some (.int n)] _ _ _
                  refine z_go ?_
                  have t260 := congrArg Int32.toInt (f256)
                  have t261 := congrArg Int32.toInt (f257)
                  exact ih.1 h249 al x259 (some (.int v)) (some (.int n)) (c + 1) F254 (by omega) (aR_le A258 (by omega)) (k252) (by omega)
                · have c247 : ¬ (n.toInt ≤ x246.toInt) := c247
                  refine gw_ld rfl rfl ?_
                  refine z_C (m := 6) rfl rfl (fun x262 ex262 => ?_)
                  refine z_b2 (fun c263 => ?_) (fun c263 => ?_)
                  · have c263 : n.toInt ≤ x262.toInt := c263
                    refine gw_skip _ ?_
                    refine gw_ld rfl rfl ?_
                    refine gw_st rfl rfl rfl ?_
                    show ez_gw _ _ _ _ _ _ _ _ [some (.ref 71), some (.int al), some (.int k), some (.int v), some (.int n)] _ _ _
                    refine gw_ld rfl rfl ?_
                    refine z_C (m := 16) rfl rfl (fun x264 ex264 => ?_)
                    refine gw_ld rfl rfl ?_
                    refine z_C (m := 3) rfl rfl (fun x265 ex265 => ?_)
                    refine z_sub (by omega) (fun x266 ex266 => ?_)
                    refine z_cl rfl rfl rfl rfl rfl rfl rfl rfl rfl rfl rfl (zT S2 (by decide) rfl) ?_
                    refine m_tr (s := x264) (e := x266) (NN := c) S2 (by omega) (by omega) A_rq (fun h267 F268 k269 k270 => ?_)
                    have S271 := zG_sh F268 S2
                    have F272 := zG_tr F (zG_mono F268 (fun k hk => by first | omega | exact False.elim hk) (fun k hk => by first | omega | exact False.elim hk))
                    have r273 := z_rng (ez_I h267 71 56)
                    have f274 : ez_I h267 71 57 = (ez_I h2 71 57) := (zG_f F268 (by decide)).trans (rfl)
                    have f275 : ez_I h267 71 58 = (ez_I h2 71 58) := (zG_f F268 (by decide)).trans (rfl)
                    have A276 : aR (ez_I h267 119) al.toInt.toNat 0 15 := by rw [zG_fn F268 119 (by decide) (by first | omega | exact fun c => c)]; exact A_ro
                    refine gw_ld rfl rfl ?_
                    refine gw_ld rfl rfl ?_
                    refine z_add (by omega) (fun x277 ex277 => ?_)
                    refine gw_st rfl rfl rfl ?_
                    show ez_gw _ _ _ _ _ _ _ _ [some (.ref 71), some (.int al), some (.int x277), some (.int v), some (.int n)] _ _ _
                    refine z_go ?_
                    refine gw_skip _ ?_
                    refine z_go ?_
                    have t278 := congrArg Int32.toInt (f274)
                    have t279 := congrArg Int32.toInt (f275)
                    exact ih.1 h267 al x277 (some (.int v)) (some (.int n)) (c + 1) F272 (by omega) (aR_le A276 (by omega)) (k270) (by omega)
                  · have c263 : ¬ (n.toInt ≤ x262.toInt) := c263
                    refine z_C (m := 6) rfl rfl (fun x280 ex280 => ?_)
                    refine z_go ?_
                    refine gw_skip _ ?_
                    refine gw_st rfl rfl rfl ?_
                    show ez_gw _ _ _ _ _ _ _ _ [some (.ref 71), some (.int al), some (.int k), some (.int v), some (.int x280)] _ _ _
                    refine gw_ld rfl rfl ?_
                    refine z_C (m := 16) rfl rfl (fun x281 ex281 => ?_)
                    refine gw_ld rfl rfl ?_
                    refine z_C (m := 3) rfl rfl (fun x282 ex282 => ?_)
                    refine z_sub (by omega) (fun x283 ex283 => ?_)
                    refine z_cl rfl rfl rfl rfl rfl rfl rfl rfl rfl rfl rfl (zT S2 (by decide) rfl) ?_
                    refine m_tr (s := x281) (e := x283) (NN := c) S2 (by omega) (by omega) A_rq (fun h284 F285 k286 k287 => ?_)
                    have S288 := zG_sh F285 S2
                    have F289 := zG_tr F (zG_mono F285 (fun k hk => by first | omega | exact False.elim hk) (fun k hk => by first | omega | exact False.elim hk))
                    have r290 := z_rng (ez_I h284 71 56)
                    have f291 : ez_I h284 71 57 = (ez_I h2 71 57) := (zG_f F285 (by decide)).trans (rfl)
                    have f292 : ez_I h284 71 58 = (ez_I h2 71 58) := (zG_f F285 (by decide)).trans (rfl)
                    have A293 : aR (ez_I h284 119) al.toInt.toNat 0 15 := by rw [zG_fn F285 119 (by decide) (by first | omega | exact fun c => c)]; exact A_ro
                    refine gw_ld rfl rfl ?_
                    refine gw_ld rfl rfl ?_
                    refine z_add (by omega) (fun x294 ex294 => ?_)
                    refine gw_st rfl rfl rfl ?_
                    show ez_gw _ _ _ _ _ _ _ _ [some (.ref 71), some (.int al), some (.int x294), some (.int v), some (.int x280)] _ _ _
                    refine z_go ?_
                    refine gw_skip _ ?_
                    refine z_go ?_
                    have t295 := congrArg Int32.toInt (f291)
                    have t296 := congrArg Int32.toInt (f292)
                    exact ih.1 h284 al x294 (some (.int v)) (some (.int x280)) (c + 1) F289 (by omega) (aR_le A293 (by omega)) (k287) (by omega)
          · have c212 : ¬ (v.toInt ≠ 0) := c212
            refine gw_ld rfl rfl ?_
            refine z_C (m := 2) rfl rfl (fun x297 ex297 => ?_)
            refine z_b2 (fun c298 => ?_) (fun c298 => ?_)
            · have c298 : n.toInt ≤ x297.toInt := c298
              refine gw_skip _ ?_
              refine gw_ld rfl rfl ?_
              refine z_b1 (fun c299 => ?_) (fun c299 => ?_)
              · have c299 : k.toInt ≤ 0 := c299
                refine gw_skip _ ?_
                refine gw_ld rfl rfl ?_
                refine gw_ld rfl rfl ?_
                refine z_C (m := 0) rfl rfl (fun x300 ex300 => ?_)
                refine z_cl rfl rfl rfl rfl rfl rfl rfl rfl rfl rfl rfl (zT S2 (by decide) rfl) ?_
                refine m_tr (s := v) (e := x300) (NN := c) S2 (by omega) (by omega) A_rq (fun h301 F302 k303 k304 => ?_)
                have S305 := zG_sh F302 S2
                have F306 := zG_tr F (zG_mono F302 (fun k hk => by first | omega | exact False.elim hk) (fun k hk => by first | omega | exact False.elim hk))
                have r307 := z_rng (ez_I h301 71 56)
                have f308 : ez_I h301 71 57 = (ez_I h2 71 57) := (zG_f F302 (by decide)).trans (rfl)
                have f309 : ez_I h301 71 58 = (ez_I h2 71 58) := (zG_f F302 (by decide)).trans (rfl)
                have A310 : aR (ez_I h301 119) al.toInt.toNat 0 15 := by rw [zG_fn F302 119 (by decide) (by first | omega | exact fun c => c)]; exact A_ro
                refine z_inc rfl (by rw [show (1 : Int32).toInt = 1 from rfl]; omega) (fun x311 ex311 => ?_)
                rw [show (1 : Int32).toInt = 1 from rfl] at ex311
                show ez_gw _ _ _ _ _ _ _ _ [some (.ref 71), some (.int al), some (.int x311), some (.int v), some (.int n)] _ _ _
                refine z_go ?_
                have t312 := congrArg Int32.toInt (f308)
                have t313 := congrArg Int32.toInt (f309)
                exact ih.1 h301 al x311 (some (.int v)) (some (.int n)) (c + 1) F306 (by omega) (aR_le A310 (by omega)) (k304) (by omega)
              · have c299 : ¬ (k.toInt ≤ 0) := c299
                refine gw_ld rfl rfl ?_
                refine z_gR (q := 119) (zT S2 (by decide) rfl) (zRf S2 (by decide) (by decide) rfl) (by decide) ?_
                refine gw_ld rfl rfl ?_
                refine z_C (m := 1) rfl rfl (fun x314 ex314 => ?_)
                refine z_sub (by omega) (fun x315 ex315 => ?_)
                refine z_ia (n := 330) (zT S2 (by decide) rfl) (zN S2 (by decide) rfl) (by omega) ?_
                generalize ex316 : ez_I h2 119 x315.toInt.toNat = x316
                have rx316 := z_rng x316
                refine gw_ld rfl rfl ?_
                refine z_b2 (fun c317 => ?_) (fun c317 => ?_)
                · have c317 : x316.toInt ≠ v.toInt := c317
                  refine gw_skip _ ?_
                  refine gw_ld rfl rfl ?_
                  refine gw_ld rfl rfl ?_
                  refine z_C (m := 0) rfl rfl (fun x318 ex318 => ?_)
                  refine z_cl rfl rfl rfl rfl rfl rfl rfl rfl rfl rfl rfl (zT S2 (by decide) rfl) ?_
                  refine m_tr (s := v) (e := x318) (NN := c) S2 (by omega) (by omega) A_rq (fun h319 F320 k321 k322 => ?_)
                  have S323 := zG_sh F320 S2
                  have F324 := zG_tr F (zG_mono F320 (fun k hk => by first | omega | exact False.elim hk) (fun k hk => by first | omega | exact False.elim hk))
                  have r325 := z_rng (ez_I h319 71 56)
                  have f326 : ez_I h319 71 57 = (ez_I h2 71 57) := (zG_f F320 (by decide)).trans (rfl)
                  have f327 : ez_I h319 71 58 = (ez_I h2 71 58) := (zG_f F320 (by decide)).trans (rfl)
                  have A328 : aR (ez_I h319 119) al.toInt.toNat 0 15 := by rw [zG_fn F320 119 (by decide) (by first | omega | exact fun c => c)]; exact A_ro
                  refine z_inc rfl (by rw [show (1 : Int32).toInt = 1 from rfl]; omega) (fun x329 ex329 => ?_)
                  rw [show (1 : Int32).toInt = 1 from rfl] at ex329
                  show ez_gw _ _ _ _ _ _ _ _ [some (.ref 71), some (.int al), some (.int x329), some (.int v), some (.int n)] _ _ _
                  refine z_go ?_
                  have t330 := congrArg Int32.toInt (f326)
                  have t331 := congrArg Int32.toInt (f327)
                  exact ih.1 h319 al x329 (some (.int v)) (some (.int n)) (c + 1) F324 (by omega) (aR_le A328 (by omega)) (k322) (by omega)
                · have c317 : ¬ (x316.toInt ≠ v.toInt) := c317
                  refine gw_ld rfl rfl ?_
                  refine z_C (m := 2) rfl rfl (fun x332 ex332 => ?_)
                  refine z_b2 (fun c333 => ?_) (fun c333 => ?_)
                  · have c333 : n.toInt ≤ x332.toInt := c333
                    refine gw_skip _ ?_
                    refine gw_ld rfl rfl ?_
                    refine gw_ld rfl rfl ?_
                    refine z_C (m := 0) rfl rfl (fun x334 ex334 => ?_)
                    refine z_cl rfl rfl rfl rfl rfl rfl rfl rfl rfl rfl rfl (zT S2 (by decide) rfl) ?_
                    refine m_tr (s := v) (e := x334) (NN := c) S2 (by omega) (by omega) A_rq (fun h335 F336 k337 k338 => ?_)
                    have S339 := zG_sh F336 S2
                    have F340 := zG_tr F (zG_mono F336 (fun k hk => by first | omega | exact False.elim hk) (fun k hk => by first | omega | exact False.elim hk))
                    have r341 := z_rng (ez_I h335 71 56)
                    have f342 : ez_I h335 71 57 = (ez_I h2 71 57) := (zG_f F336 (by decide)).trans (rfl)
                    have f343 : ez_I h335 71 58 = (ez_I h2 71 58) := (zG_f F336 (by decide)).trans (rfl)
                    have A344 : aR (ez_I h335 119) al.toInt.toNat 0 15 := by rw [zG_fn F336 119 (by decide) (by first | omega | exact fun c => c)]; exact A_ro
                    refine z_inc rfl (by rw [show (1 : Int32).toInt = 1 from rfl]; omega) (fun x345 ex345 => ?_)
                    rw [show (1 : Int32).toInt = 1 from rfl] at ex345
                    show ez_gw _ _ _ _ _ _ _ _ [some (.ref 71), some (.int al), some (.int x345), some (.int v), some (.int n)] _ _ _
                    refine z_go ?_
                    have t346 := congrArg Int32.toInt (f342)
                    have t347 := congrArg Int32.toInt (f343)
                    exact ih.1 h335 al x345 (some (.int v)) (some (.int n)) (c + 1) F340 (by omega) (aR_le A344 (by omega)) (k338) (by omega)
                  · have c333 : ¬ (n.toInt ≤ x332.toInt) := c333
                    exfalso; omega
            · have c298 : ¬ (n.toInt ≤ x297.toInt) := c298
              refine gw_ld rfl rfl ?_
              refine z_C (m := 138) rfl rfl (fun x348 ex348 => ?_)
              refine z_b2 (fun c349 => ?_) (fun c349 => ?_)
              · have c349 : n.toInt ≤ x348.toInt := c349
                refine gw_skip _ ?_
                refine gw_ld rfl rfl ?_
                refine gw_st rfl rfl rfl ?_
                show ez_gw _ _ _ _ _ _ _ _ [some (.ref 71), some (.int al), some (.int k), some (.int v), some (.int n)] _ _ _
                refine gw_ld rfl rfl ?_
                refine gw_ld rfl rfl ?_
                refine z_C (m := 10) rfl rfl (fun x350 ex350 => ?_)
                refine z_b2 (fun c351 => ?_) (fun c351 => ?_)
                · have c351 : n.toInt ≤ x350.toInt := c351
                  refine gw_skip _ ?_
                  refine z_C (m := 17) rfl rfl (fun x352 ex352 => ?_)
                  refine gw_ld rfl rfl ?_
                  refine z_C (m := 10) rfl rfl (fun x353 ex353 => ?_)
                  refine z_b2 (fun c354 => ?_) (fun c354 => ?_)
                  · have c354 : n.toInt ≤ x353.toInt := c354
                    refine gw_skip _ ?_
                    refine gw_ld rfl rfl ?_
                    refine z_C (m := 3) rfl rfl (fun x355 ex355 => ?_)
                    refine z_sub (by omega) (fun x356 ex356 => ?_)
                    refine z_cl rfl rfl rfl rfl rfl rfl rfl rfl rfl rfl rfl (zT S2 (by decide) rfl) ?_
                    refine m_tr (s := x352) (e := x356) (NN := c) S2 (by omega) (by omega) A_rq (fun h357 F358 k359 k360 => ?_)
                    have S361 := zG_sh F358 S2
                    have F362 := zG_tr F (zG_mono F358 (fun k hk => by first | omega | exact False.elim hk) (fun k hk => by first | omega | exact False.elim hk))
                    have r363 := z_rng (ez_I h357 71 56)
                    have f364 : ez_I h357 71 57 = (ez_I h2 71 57) := (zG_f F358 (by decide)).trans (rfl)
                    have f365 : ez_I h357 71 58 = (ez_I h2 71 58) := (zG_f F358 (by decide)).trans (rfl)
                    have A366 : aR (ez_I h357 119) al.toInt.toNat 0 15 := by rw [zG_fn F358 119 (by decide) (by first | omega | exact fun c => c)]; exact A_ro
                    refine gw_ld rfl rfl ?_
                    refine gw_ld rfl rfl ?_
                    refine z_add (by omega) (fun x367 ex367 => ?_)
                    refine gw_st rfl rfl rfl ?_
                    show ez_gw _ _ _ _ _ _ _ _ [some (.ref 71), some (.int al), some (.int x367), some (.int v), some (.int n)] _ _ _
                    refine z_go ?_
                    refine gw_skip _ ?_
                    refine z_go ?_
                    have t368 := congrArg Int32.toInt (f364)
                    have t369 := congrArg Int32.toInt (f365)
                    exact ih.1 h357 al x367 (some (.int v)) (some (.int n)) (c + 1) F362 (by omega) (aR_le A366 (by omega)) (k360) (by omega)
                  · have c354 : ¬ (n.toInt ≤ x353.toInt) := c354
                    exfalso; omega
                · have c351 : ¬ (n.toInt ≤ x350.toInt) := c351
                  refine z_C (m := 18) rfl rfl (fun x370 ex370 => ?_)
                  refine z_go ?_
                  refine gw_skip _ ?_
                  refine gw_ld rfl rfl ?_
                  refine z_C (m := 10) rfl rfl (fun x371 ex371 => ?_)
                  refine z_b2 (fun c372 => ?_) (fun c372 => ?_)
                  · have c372 : n.toInt ≤ x371.toInt := c372
                    exfalso; omega
                  · have c372 : ¬ (n.toInt ≤ x371.toInt) := c372
                    refine gw_ld rfl rfl ?_
                    refine z_C (m := 11) rfl rfl (fun x373 ex373 => ?_)
                    refine z_sub (by omega) (fun x374 ex374 => ?_)
                    refine z_go ?_
                    refine gw_skip _ ?_
                    refine z_cl rfl rfl rfl rfl rfl rfl rfl rfl rfl rfl rfl (zT S2 (by decide) rfl) ?_
                    refine m_tr (s := x370) (e := x374) (NN := c) S2 (by omega) (by omega) A_rq (fun h375 F376 k377 k378 => ?_)
                    have S379 := zG_sh F376 S2
                    have F380 := zG_tr F (zG_mono F376 (fun k hk => by first | omega | exact False.elim hk) (fun k hk => by first | omega | exact False.elim hk))
                    have r381 := z_rng (ez_I h375 71 56)
                    have f382 : ez_I h375 71 57 = (ez_I h2 71 57) := (zG_f F376 (by decide)).trans (rfl)
                    have f383 : ez_I h375 71 58 = (ez_I h2 71 58) := (zG_f F376 (by decide)).trans (rfl)
                    have A384 : aR (ez_I h375 119) al.toInt.toNat 0 15 := by rw [zG_fn F376 119 (by decide) (by first | omega | exact fun c => c)]; exact A_ro
                    refine gw_ld rfl rfl ?_
                    refine gw_ld rfl rfl ?_
                    refine z_add (by omega) (fun x385 ex385 => ?_)
                    refine gw_st rfl rfl rfl ?_
                    show ez_gw _ _ _ _ _ _ _ _ [some (.ref 71), some (.int al), some (.int x385), some (.int v), some (.int n)] _ _ _
                    refine z_go ?_
                    refine gw_skip _ ?_
                    refine z_go ?_
                    have t386 := congrArg Int32.toInt (f382)
                    have t387 := congrArg Int32.toInt (f383)
                    exact ih.1 h375 al x385 (some (.int v)) (some (.int n)) (c + 1) F380 (by omega) (aR_le A384 (by omega)) (k378) (by omega)
              · have c349 : ¬ (n.toInt ≤ x348.toInt) := c349
                refine z_C (m := 138) rfl rfl (fun x388 ex388 => ?_)
                refine z_go ?_
                refine gw_skip _ ?_
                refine gw_st rfl rfl rfl ?_
                show ez_gw _ _ _ _ _ _ _ _ [some (.ref 71), some (.int al), some (.int k), some (.int v), some (.int x388)] _ _ _
                refine gw_ld rfl rfl ?_
                refine gw_ld rfl rfl ?_
                refine z_C (m := 10) rfl rfl (fun x389 ex389 => ?_)
                refine z_b2 (fun c390 => ?_) (fun c390 => ?_)
                · have c390 : x388.toInt ≤ x389.toInt := c390
                  exfalso; omega
                · have c390 : ¬ (x388.toInt ≤ x389.toInt) := c390
                  refine z_C (m := 18) rfl rfl (fun x391 ex391 => ?_)
                  refine z_go ?_
                  refine gw_skip _ ?_
                  refine gw_ld rfl rfl ?_
                  refine z_C (m := 10) rfl rfl (fun x392 ex392 => ?_)
                  refine z_b2 (fun c393 => ?_) (fun c393 => ?_)
                  · have c393 : x388.toInt ≤ x392.toInt := c393
                    exfalso; omega
                  · have c393 : ¬ (x388.toInt ≤ x392.toInt) := c393
                    refine gw_ld rfl rfl ?_
                    refine z_C (m := 11) rfl rfl (fun x394 ex394 => ?_)
                    refine z_sub (by omega) (fun x395 ex395 => ?_)
                    refine z_go ?_
                    refine gw_skip _ ?_
                    refine z_cl rfl rfl rfl rfl rfl rfl rfl rfl rfl rfl rfl (zT S2 (by decide) rfl) ?_
                    refine m_tr (s := x391) (e := x395) (NN := c) S2 (by omega) (by omega) A_rq (fun h396 F397 k398 k399 => ?_)
                    have S400 := zG_sh F397 S2
                    have F401 := zG_tr F (zG_mono F397 (fun k hk => by first | omega | exact False.elim hk) (fun k hk => by first | omega | exact False.elim hk))
                    have r402 := z_rng (ez_I h396 71 56)
                    have f403 : ez_I h396 71 57 = (ez_I h2 71 57) := (zG_f F397 (by decide)).trans (rfl)
                    have f404 : ez_I h396 71 58 = (ez_I h2 71 58) := (zG_f F397 (by decide)).trans (rfl)
                    have A405 : aR (ez_I h396 119) al.toInt.toNat 0 15 := by rw [zG_fn F397 119 (by decide) (by first | omega | exact fun c => c)]; exact A_ro
                    refine gw_ld rfl rfl ?_
                    refine gw_ld rfl rfl ?_
                    refine z_add (by omega) (fun x406 ex406 => ?_)
                    refine gw_st rfl rfl rfl ?_
                    show ez_gw _ _ _ _ _ _ _ _ [some (.ref 71), some (.int al), some (.int x406), some (.int v), some (.int x388)] _ _ _
                    refine z_go ?_
                    refine gw_skip _ ?_
                    refine z_go ?_
                    have t407 := congrArg Int32.toInt (f403)
                    have t408 := congrArg Int32.toInt (f404)
                    exact ih.1 h396 al x406 (some (.int v)) (some (.int x388)) (c + 1) F401 (by omega) (aR_le A405 (by omega)) (k399) (by omega)
        · have c211 : ¬ (x210.toInt ≠ v.toInt) := c211
          refine z_inc rfl (by rw [show (1 : Int32).toInt = 1 from rfl]; omega) (fun x409 ex409 => ?_)
          rw [show (1 : Int32).toInt = 1 from rfl] at ex409
          show ez_gw _ _ _ _ _ _ _ _ [some (.ref 71), some (.int al), some (.int k), some (.int v), some (.int x409)] _ _ _
          refine z_go ?_
          exact ih.2 h2 al k v x409 c F (by omega) A_ro A_rq (by omega)
set_option maxRecDepth 4000 in
set_option maxHeartbeats 20000000 in
theorem m_tl_L4 {E : Nat → Nat × (Nat → Int32)} {d : Nat} {Q : ez_Q} {h : ez_H}  (S : zSh h) (hL : aR (ez_I h 100) 286 0 15) (hB : aR (ez_I h 101) 30 0 15) (K : ∀ h2, zG (fun k => k = 56 ∨ k = 57 ∨ k = 58) (fun q => q = 99 ∨ 117 ≤ q ∧ q ≤ 119) h h2 → (257 ≤ (ez_I h2 71 57).toInt ∧ (ez_I h2 71 57).toInt ≤ 286 ∧ 1 ≤ (ez_I h2 71 58).toInt ∧ (ez_I h2 71 58).toInt ≤ 30 ∧ 0 ≤ (ez_I h2 71 56).toInt ∧ (ez_I h2 71 56).toInt ≤ 316) → rQ (ez_I h2 99) (ez_I h2 117) (ez_I h2 71 56).toInt.toNat → Q (.inl none) h2) : ∀ N : Nat, (∀ (h2 : ez_H) (i : Int32) (l2 : Option Value) (l3 : Option Value) (l4 : Option Value) (al : Int), zG (fun k => k = 56 ∨ k = 57 ∨ k = 58) (fun q => q = 99 ∨ 117 ≤ q ∧ q ≤ 119) h h2 → (0 ≤ i.toInt ∧ i.toInt ≤ 19 ∧ 257 ≤ (ez_I h2 71 57).toInt ∧ (ez_I h2 71 57).toInt ≤ 286 ∧ 1 ≤ (ez_I h2 71 58).toInt ∧ (ez_I h2 71 58).toInt ≤ 30 ∧ al = (ez_I h2 71 57).toInt + (ez_I h2 71 58).toInt) → aR (ez_I h2 119) al.toNat 0 15 → aR (ez_I h2 99) i.toInt.toNat 0 0 → (2147483647 - i.toInt) < (N : Int) → pw E (d + 1) 42 152 [some (.ref 71), some (.int i), l2, l3, l4] [] h2 Q) := by
  intro N
  induction N with
  | zero => exact fun h2 i l2 l3 l4 al F hinv A_ro A_z hm => absurd hm (by have w_i := z_rng i; omega)
  | succ N ih =>
    refine fun h2 i l2 l3 l4 al F hinv A_ro A_z hm => ?_
    · skip
      have w_i := z_rng i
      have S2 := zG_sh F S
      apply ez_Wp_in
      show ez_gw _ _ _ _ _ _ (cz_42) _ _ _ _ _
      refine gw_skip _ ?_
      have r1 := z_rng (ez_I h2 71 56)
      have r2 := z_rng (ez_I h2 71 57)
      have r3 := z_rng (ez_I h2 71 58)
      refine gw_ld rfl rfl ?_
      refine z_C (m := 19) rfl rfl (fun x4 ex4 => ?_)
      refine z_b2 (fun c5 => ?_) (fun c5 => ?_)
      · have c5 : x4.toInt ≤ i.toInt := c5
        refine gw_skip _ ?_
        refine gw_ld rfl rfl ?_
        refine z_C (m := 0) rfl rfl (fun x6 ex6 => ?_)
        refine z_pI (zT S2 (by decide) rfl) (fun h7 e8 => ?_)
        have S9 := zSh_set S2 e8
        have F10 := zG_setF F e8 (by decide)
        have f11 : ez_I h7 71 56 = x6 := zI_eq e8
        have f12 : ez_I h7 71 57 = (ez_I h2 71 57) := (zI_ne e8 (by decide)).trans (rfl)
        have f13 : ez_I h7 71 58 = (ez_I h2 71 58) := (zI_ne e8 (by decide)).trans (rfl)
        have A14 : aR (ez_I h7 119) al.toNat 0 15 := by rw [zI_fn e8 119 (by decide)]; exact A_ro
        have A15 : aR (ez_I h7 99) i.toInt.toNat 0 0 := by rw [zI_fn e8 99 (by decide)]; exact A_z
        refine gw_ld rfl rfl ?_
        refine z_gI2 (by decide) (zT S9 (by decide) rfl) (f12) ?_
        refine gw_ld rfl rfl ?_
        refine z_gI2 (by decide) (zT S9 (by decide) rfl) (f13) ?_
        refine z_add (by omega) (fun x16 ex16 => ?_)
        refine gw_st rfl rfl rfl ?_
        show ez_gw _ _ _ _ _ _ _ _ [some (.ref 71), some (.int x16), l2, l3, l4] _ _ _
        refine z_C (m := 0) rfl rfl (fun x17 ex17 => ?_)
        refine gw_st rfl rfl rfl ?_
        show ez_gw _ _ _ _ _ _ _ _ [some (.ref 71), some (.int x16), some (.int x17), l3, l4] _ _ _
        have t18 := congrArg Int32.toInt (f11)
        have t19 := congrArg Int32.toInt (f12)
        have t20 := congrArg Int32.toInt (f13)
        exact ez_Wp_at ((m_tl_L5  S hL hB K (((1000 * (400 - x17.toInt))).toNat + 1)).1 h7 x16 x17 (l3) (l4) 0 F10 (by omega) (aR_le A14 (by omega)) (rQ_0 (aR_le A15 (by omega)) rfl) (by omega)) rfl
      · have c5 : ¬ (x4.toInt ≤ i.toInt) := c5
        refine gw_ld rfl rfl ?_
        refine z_gR (q := 99) (zT S2 (by decide) rfl) (zRf S2 (by decide) (by decide) rfl) (by decide) ?_
        refine gw_ld rfl rfl ?_
        refine z_C (m := 0) rfl rfl (fun x21 ex21 => ?_)
        refine z_is (n := 19) (zT S2 (by decide) rfl) (zN S2 (by decide) rfl) (by omega) (fun h22 e23 => ?_)
        have S24 := zSh_set S2 e23
        have F25 := zG_setA F e23 (by decide) (by decide)
        have f26 : ez_I h22 71 56 = (ez_I h2 71 56) := (zI_ne e23 (by omega)).trans (rfl)
        have f27 : ez_I h22 71 57 = (ez_I h2 71 57) := (zI_ne e23 (by omega)).trans (rfl)
        have f28 : ez_I h22 71 58 = (ez_I h2 71 58) := (zI_ne e23 (by omega)).trans (rfl)
        have A29 : aR (ez_I h22 119) al.toNat 0 15 := by rw [zI_fn e23 119 (by decide)]; exact A_ro
        have A30 : aR (ez_I h22 99) (i.toInt.toNat + 1) 0 0 := aR_ex A_z e23 (by omega) (by omega)
        refine z_inc rfl (by rw [show (1 : Int32).toInt = 1 from rfl]; omega) (fun x31 ex31 => ?_)
        rw [show (1 : Int32).toInt = 1 from rfl] at ex31
        show ez_gw _ _ _ _ _ _ _ _ [some (.ref 71), some (.int x31), l2, l3, l4] _ _ _
        refine z_go ?_
        have t32 := congrArg Int32.toInt (f26)
        have t33 := congrArg Int32.toInt (f27)
        have t34 := congrArg Int32.toInt (f28)
        exact ih h22 x31 (l2) (l3) (l4) ((ez_I h22 71 57).toInt + (ez_I h22 71 58).toInt) F25 (by omega) (aR_le A29 (by omega)) (aR_le A30 (by omega)) (by omega)
set_option maxRecDepth 4000 in
set_option maxHeartbeats 20000000 in
theorem m_tl_L3 {E : Nat → Nat × (Nat → Int32)} {d : Nat} {Q : ez_Q} {h : ez_H}  (S : zSh h) (hL : aR (ez_I h 100) 286 0 15) (hB : aR (ez_I h 101) 30 0 15) (K : ∀ h2, zG (fun k => k = 56 ∨ k = 57 ∨ k = 58) (fun q => q = 99 ∨ 117 ≤ q ∧ q ≤ 119) h h2 → (257 ≤ (ez_I h2 71 57).toInt ∧ (ez_I h2 71 57).toInt ≤ 286 ∧ 1 ≤ (ez_I h2 71 58).toInt ∧ (ez_I h2 71 58).toInt ≤ 30 ∧ 0 ≤ (ez_I h2 71 56).toInt ∧ (ez_I h2 71 56).toInt ≤ 316) → rQ (ez_I h2 99) (ez_I h2 117) (ez_I h2 71 56).toInt.toNat → Q (.inl none) h2) : ∀ N : Nat, (∀ (h2 : ez_H) (i : Int32) (l2 : Option Value) (l3 : Option Value) (l4 : Option Value) (zl : Int), zG (fun k => k = 56 ∨ k = 57 ∨ k = 58) (fun q => q = 99 ∨ 117 ≤ q ∧ q ≤ 119) h h2 → (0 ≤ i.toInt ∧ i.toInt ≤ (ez_I h2 71 58).toInt ∧ 257 ≤ (ez_I h2 71 57).toInt ∧ (ez_I h2 71 57).toInt ≤ 286 ∧ 1 ≤ (ez_I h2 71 58).toInt ∧ (ez_I h2 71 58).toInt ≤ 30 ∧ zl = (ez_I h2 71 57).toInt) → aR (ez_I h2 119) (zl + i.toInt).toNat 0 15 → (2147483647 - i.toInt) < (N : Int) → pw E (d + 1) 42 119 [some (.ref 71), some (.int i), l2, l3, l4] [] h2 Q) := by
  intro N
  induction N with
  | zero => exact fun h2 i l2 l3 l4 zl F hinv A_ro hm => absurd hm (by have w_i := z_rng i; omega)
  | succ N ih =>
    refine fun h2 i l2 l3 l4 zl F hinv A_ro hm => ?_
    · skip
      have w_i := z_rng i
      have S2 := zG_sh F S
      apply ez_Wp_in
      show ez_gw _ _ _ _ _ _ (cz_42) _ _ _ _ _
      refine gw_skip _ ?_
      have r1 := z_rng (ez_I h2 71 56)
      have r2 := z_rng (ez_I h2 71 57)
      have r3 := z_rng (ez_I h2 71 58)
      refine gw_ld rfl rfl ?_
      refine gw_ld rfl rfl ?_
      refine z_gI2 (by decide) (zT S2 (by decide) rfl) (rfl) ?_
      refine z_b2 (fun c4 => ?_) (fun c4 => ?_)
      · have c4 : ((ez_I h2 71 58)).toInt ≤ i.toInt := c4
        refine gw_skip _ ?_
        refine z_C (m := 0) rfl rfl (fun x5 ex5 => ?_)
        refine gw_st rfl rfl rfl ?_
        show ez_gw _ _ _ _ _ _ _ _ [some (.ref 71), some (.int x5), l2, l3, l4] _ _ _
        exact ez_Wp_at ((m_tl_L4  S hL hB K (((2147483647 - x5.toInt)).toNat + 1)) h2 x5 (l2) (l3) (l4) ((ez_I h2 71 57).toInt + (ez_I h2 71 58).toInt) F (by omega) (aR_le A_ro (by omega)) ((by rw [show x5.toInt.toNat = 0 by omega]; exact aR_0 _ _ _)) (by omega)) rfl
      · have c4 : ¬ (((ez_I h2 71 58)).toInt ≤ i.toInt) := c4
        refine gw_ld rfl rfl ?_
        refine z_gR (q := 119) (zT S2 (by decide) rfl) (zRf S2 (by decide) (by decide) rfl) (by decide) ?_
        refine gw_ld rfl rfl ?_
        refine z_gI2 (by decide) (zT S2 (by decide) rfl) (rfl) ?_
        refine gw_ld rfl rfl ?_
        refine z_add (by omega) (fun x6 ex6 => ?_)
        refine gw_ld rfl rfl ?_
        refine z_gR (q := 101) (zT S2 (by decide) rfl) (zRf S2 (by decide) (by decide) rfl) (by decide) ?_
        refine gw_ld rfl rfl ?_
        refine z_iaV (n := 30) (zT S2 (by decide) rfl) (zN S2 (by decide) rfl) (by omega) (zG_a F (by decide) (by decide)) ?_
        generalize ex7 : ez_I h 101 i.toInt.toNat = x7
        have rx7 := z_rng x7
        have yx7 := hB i.toInt.toNat (by omega)
        rw [ex7] at yx7
        refine z_is (n := 330) (zT S2 (by decide) rfl) (zN S2 (by decide) rfl) (by omega) (fun h8 e9 => ?_)
        have S10 := zSh_set S2 e9
        have F11 := zG_setA F e9 (by decide) (by decide)
        have f12 : ez_I h8 71 56 = (ez_I h2 71 56) := (zI_ne e9 (by omega)).trans (rfl)
        have f13 : ez_I h8 71 57 = (ez_I h2 71 57) := (zI_ne e9 (by omega)).trans (rfl)
        have f14 : ez_I h8 71 58 = (ez_I h2 71 58) := (zI_ne e9 (by omega)).trans (rfl)
        have A15 : aR (ez_I h8 119) (zl + i.toInt + 1).toNat 0 15 := aR_ex (by rw [show x6.toInt.toNat = (zl + i.toInt).toNat by omega]; exact A_ro) e9 (by omega) (by omega)
        refine z_inc rfl (by rw [show (1 : Int32).toInt = 1 from rfl]; omega) (fun x16 ex16 => ?_)
        rw [show (1 : Int32).toInt = 1 from rfl] at ex16
        show ez_gw _ _ _ _ _ _ _ _ [some (.ref 71), some (.int x16), l2, l3, l4] _ _ _
        refine z_go ?_
        have t17 := congrArg Int32.toInt (f12)
        have t18 := congrArg Int32.toInt (f13)
        have t19 := congrArg Int32.toInt (f14)
        exact ih h8 x16 (l2) (l3) (l4) (ez_I h8 71 57).toInt F11 (by omega) (aR_le A15 (by omega)) (by omega)
set_option maxRecDepth 4000 in
set_option maxHeartbeats 20000000 in
theorem m_tl_L2 {E : Nat → Nat × (Nat → Int32)} {d : Nat} {Q : ez_Q} {h : ez_H}  (S : zSh h) (hL : aR (ez_I h 100) 286 0 15) (hB : aR (ez_I h 101) 30 0 15) (K : ∀ h2, zG (fun k => k = 56 ∨ k = 57 ∨ k = 58) (fun q => q = 99 ∨ 117 ≤ q ∧ q ≤ 119) h h2 → (257 ≤ (ez_I h2 71 57).toInt ∧ (ez_I h2 71 57).toInt ≤ 286 ∧ 1 ≤ (ez_I h2 71 58).toInt ∧ (ez_I h2 71 58).toInt ≤ 30 ∧ 0 ≤ (ez_I h2 71 56).toInt ∧ (ez_I h2 71 56).toInt ≤ 316) → rQ (ez_I h2 99) (ez_I h2 117) (ez_I h2 71 56).toInt.toNat → Q (.inl none) h2) : ∀ N : Nat, (∀ (h2 : ez_H) (i : Int32) (l2 : Option Value) (l3 : Option Value) (l4 : Option Value) (zl : Int), zG (fun k => k = 56 ∨ k = 57 ∨ k = 58) (fun q => q = 99 ∨ 117 ≤ q ∧ q ≤ 119) h h2 → (0 ≤ i.toInt ∧ i.toInt ≤ (ez_I h2 71 57).toInt ∧ 257 ≤ (ez_I h2 71 57).toInt ∧ (ez_I h2 71 57).toInt ≤ 286 ∧ 1 ≤ (ez_I h2 71 58).toInt ∧ (ez_I h2 71 58).toInt ≤ 30 ∧ zl = (ez_I h2 71 57).toInt) → aR (ez_I h2 119) i.toInt.toNat 0 15 → (2147483647 - i.toInt) < (N : Int) → pw E (d + 1) 42 91 [some (.ref 71), some (.int i), l2, l3, l4] [] h2 Q) := by
  intro N
  induction N with
  | zero => exact fun h2 i l2 l3 l4 zl F hinv A_ro hm => absurd hm (by have w_i := z_rng i; omega)
  | succ N ih =>
    refine fun h2 i l2 l3 l4 zl F hinv A_ro hm => ?_
    · skip
      have w_i := z_rng i
      have S2 := zG_sh F S
      apply ez_Wp_in
      show ez_gw _ _ _ _ _ _ (cz_42) _ _ _ _ _
      refine gw_skip _ ?_
      have r1 := z_rng (ez_I h2 71 56)
      have r2 := z_rng (ez_I h2 71 57)
      have r3 := z_rng (ez_I h2 71 58)
      refine gw_ld rfl rfl ?_
      refine gw_ld rfl rfl ?_
      refine z_gI2 (by decide) (zT S2 (by decide) rfl) (rfl) ?_
      refine z_b2 (fun c4 => ?_) (fun c4 => ?_)
      · have c4 : ((ez_I h2 71 57)).toInt ≤ i.toInt := c4
        refine gw_skip _ ?_
        refine z_C (m := 0) rfl rfl (fun x5 ex5 => ?_)
        refine gw_st rfl rfl rfl ?_
        show ez_gw _ _ _ _ _ _ _ _ [some (.ref 71), some (.int x5), l2, l3, l4] _ _ _
        exact ez_Wp_at ((m_tl_L3  S hL hB K (((2147483647 - x5.toInt)).toNat + 1)) h2 x5 (l2) (l3) (l4) (ez_I h2 71 57).toInt F (by omega) (aR_le A_ro (by omega)) (by omega)) rfl
      · have c4 : ¬ (((ez_I h2 71 57)).toInt ≤ i.toInt) := c4
        refine gw_ld rfl rfl ?_
        refine z_gR (q := 119) (zT S2 (by decide) rfl) (zRf S2 (by decide) (by decide) rfl) (by decide) ?_
        refine gw_ld rfl rfl ?_
        refine gw_ld rfl rfl ?_
        refine z_gR (q := 100) (zT S2 (by decide) rfl) (zRf S2 (by decide) (by decide) rfl) (by decide) ?_
        refine gw_ld rfl rfl ?_
        refine z_iaV (n := 288) (zT S2 (by decide) rfl) (zN S2 (by decide) rfl) (by omega) (zG_a F (by decide) (by decide)) ?_
        generalize ex6 : ez_I h 100 i.toInt.toNat = x6
        have rx6 := z_rng x6
        have yx6 := hL i.toInt.toNat (by omega)
        rw [ex6] at yx6
        refine z_is (n := 330) (zT S2 (by decide) rfl) (zN S2 (by decide) rfl) (by omega) (fun h7 e8 => ?_)
        have S9 := zSh_set S2 e8
        have F10 := zG_setA F e8 (by decide) (by decide)
        have f11 : ez_I h7 71 56 = (ez_I h2 71 56) := (zI_ne e8 (by omega)).trans (rfl)
        have f12 : ez_I h7 71 57 = (ez_I h2 71 57) := (zI_ne e8 (by omega)).trans (rfl)
        have f13 : ez_I h7 71 58 = (ez_I h2 71 58) := (zI_ne e8 (by omega)).trans (rfl)
        have A14 : aR (ez_I h7 119) (i.toInt.toNat + 1) 0 15 := aR_ex A_ro e8 (by omega) (by omega)
        refine z_inc rfl (by rw [show (1 : Int32).toInt = 1 from rfl]; omega) (fun x15 ex15 => ?_)
        rw [show (1 : Int32).toInt = 1 from rfl] at ex15
        show ez_gw _ _ _ _ _ _ _ _ [some (.ref 71), some (.int x15), l2, l3, l4] _ _ _
        refine z_go ?_
        have t16 := congrArg Int32.toInt (f11)
        have t17 := congrArg Int32.toInt (f12)
        have t18 := congrArg Int32.toInt (f13)
        exact ih h7 x15 (l2) (l3) (l4) (ez_I h7 71 57).toInt F10 (by omega) (aR_le A14 (by omega)) (by omega)
set_option maxRecDepth 4000 in
set_option maxHeartbeats 20000000 in
theorem m_tl_L1 {E : Nat → Nat × (Nat → Int32)} {d : Nat} {Q : ez_Q} {h : ez_H}  (S : zSh h) (hL : aR (ez_I h 100) 286 0 15) (hB : aR (ez_I h 101) 30 0 15) (K : ∀ h2, zG (fun k => k = 56 ∨ k = 57 ∨ k = 58) (fun q => q = 99 ∨ 117 ≤ q ∧ q ≤ 119) h h2 → (257 ≤ (ez_I h2 71 57).toInt ∧ (ez_I h2 71 57).toInt ≤ 286 ∧ 1 ≤ (ez_I h2 71 58).toInt ∧ (ez_I h2 71 58).toInt ≤ 30 ∧ 0 ≤ (ez_I h2 71 56).toInt ∧ (ez_I h2 71 56).toInt ≤ 316) → rQ (ez_I h2 99) (ez_I h2 117) (ez_I h2 71 56).toInt.toNat → Q (.inl none) h2) : ∀ N : Nat, (∀ (h2 : ez_H) (i : Int32) (l2 : Option Value) (l3 : Option Value) (l4 : Option Value) , zG (fun k => k = 56 ∨ k = 57 ∨ k = 58) (fun q => q = 99 ∨ 117 ≤ q ∧ q ≤ 119) h h2 → (1 ≤ i.toInt ∧ i.toInt ≤ 30 ∧ 257 ≤ (ez_I h2 71 57).toInt ∧ (ez_I h2 71 57).toInt ≤ 286 ∧ 1 ≤ (ez_I h2 71 58).toInt ∧ (ez_I h2 71 58).toInt ≤ 30) → (2147483647 - i.toInt) < (N : Int) → pw E (d + 1) 42 54 [some (.ref 71), some (.int i), l2, l3, l4] [] h2 Q) := by
  intro N
  induction N with
  | zero => exact fun h2 i l2 l3 l4  F hinv  hm => absurd hm (by have w_i := z_rng i; omega)
  | succ N ih =>
    refine fun h2 i l2 l3 l4  F hinv  hm => ?_
    · skip
      have w_i := z_rng i
      have S2 := zG_sh F S
      apply ez_Wp_in
      show ez_gw _ _ _ _ _ _ (cz_42) _ _ _ _ _
      refine gw_skip _ ?_
      have r1 := z_rng (ez_I h2 71 56)
      have r2 := z_rng (ez_I h2 71 57)
      have r3 := z_rng (ez_I h2 71 58)
      refine gw_ld rfl rfl ?_
      refine z_C (m := 30) rfl rfl (fun x4 ex4 => ?_)
      refine z_b2 (fun c5 => ?_) (fun c5 => ?_)
      · have c5 : x4.toInt ≤ i.toInt := c5
        refine gw_skip _ ?_
        refine z_C (m := 0) rfl rfl (fun x6 ex6 => ?_)
        refine gw_st rfl rfl rfl ?_
        show ez_gw _ _ _ _ _ _ _ _ [some (.ref 71), some (.int x6), l2, l3, l4] _ _ _
        exact ez_Wp_at ((m_tl_L2  S hL hB K (((2147483647 - x6.toInt)).toNat + 1)) h2 x6 (l2) (l3) (l4) (ez_I h2 71 57).toInt F (by omega) ((by rw [show x6.toInt.toNat = 0 by omega]; exact aR_0 _ _ _)) (by omega)) rfl
      · have c5 : ¬ (x4.toInt ≤ i.toInt) := c5
        refine gw_ld rfl rfl ?_
        refine gw_ld rfl rfl ?_
        refine z_gR (q := 101) (zT S2 (by decide) rfl) (zRf S2 (by decide) (by decide) rfl) (by decide) ?_
        refine gw_ld rfl rfl ?_
        refine z_iaV (n := 30) (zT S2 (by decide) rfl) (zN S2 (by decide) rfl) (by omega) (zG_a F (by decide) (by decide)) ?_
        generalize ex7 : ez_I h 101 i.toInt.toNat = x7
        have rx7 := z_rng x7
        have yx7 := hB i.toInt.toNat (by omega)
        rw [ex7] at yx7
        refine z_b1 (fun c8 => ?_) (fun c8 => ?_)
        · have c8 : x7.toInt ≤ 0 := c8
          refine gw_skip _ ?_
          refine gw_ld rfl rfl ?_
          refine z_gI2 (by decide) (zT S2 (by decide) rfl) (rfl) ?_
          refine z_pI (zT S2 (by decide) rfl) (fun h9 e10 => ?_)
          have S11 := zSh_set S2 e10
          have F12 := zG_setF F e10 (by decide)
          have f13 : ez_I h9 71 56 = (ez_I h2 71 56) := (zI_ne e10 (by decide)).trans (rfl)
          have f14 : ez_I h9 71 57 = (ez_I h2 71 57) := (zI_ne e10 (by decide)).trans (rfl)
          have f15 : ez_I h9 71 58 = (ez_I h2 71 58) := zI_eq e10
          refine z_inc rfl (by rw [show (1 : Int32).toInt = 1 from rfl]; omega) (fun x16 ex16 => ?_)
          rw [show (1 : Int32).toInt = 1 from rfl] at ex16
          show ez_gw _ _ _ _ _ _ _ _ [some (.ref 71), some (.int x16), l2, l3, l4] _ _ _
          refine z_go ?_
          have t17 := congrArg Int32.toInt (f13)
          have t18 := congrArg Int32.toInt (f14)
          have t19 := congrArg Int32.toInt (f15)
          exact ih h9 x16 (l2) (l3) (l4) F12 (by omega)  (by omega)
        · have c8 : ¬ (x7.toInt ≤ 0) := c8
          refine gw_ld rfl rfl ?_
          refine z_C (m := 1) rfl rfl (fun x20 ex20 => ?_)
          refine z_add (by omega) (fun x21 ex21 => ?_)
          refine z_go ?_
          refine gw_skip _ ?_
          refine z_pI (zT S2 (by decide) rfl) (fun h22 e23 => ?_)
          have S24 := zSh_set S2 e23
          have F25 := zG_setF F e23 (by decide)
          have f26 : ez_I h22 71 56 = (ez_I h2 71 56) := (zI_ne e23 (by decide)).trans (rfl)
          have f27 : ez_I h22 71 57 = (ez_I h2 71 57) := (zI_ne e23 (by decide)).trans (rfl)
          have f28 : ez_I h22 71 58 = x21 := zI_eq e23
          refine z_inc rfl (by rw [show (1 : Int32).toInt = 1 from rfl]; omega) (fun x29 ex29 => ?_)
          rw [show (1 : Int32).toInt = 1 from rfl] at ex29
          show ez_gw _ _ _ _ _ _ _ _ [some (.ref 71), some (.int x29), l2, l3, l4] _ _ _
          refine z_go ?_
          have t30 := congrArg Int32.toInt (f26)
          have t31 := congrArg Int32.toInt (f27)
          have t32 := congrArg Int32.toInt (f28)
          exact ih h22 x29 (l2) (l3) (l4) F25 (by omega)  (by omega)
set_option maxRecDepth 4000 in
set_option maxHeartbeats 20000000 in
theorem m_tl_L0 {E : Nat → Nat × (Nat → Int32)} {d : Nat} {Q : ez_Q} {h : ez_H}  (S : zSh h) (hL : aR (ez_I h 100) 286 0 15) (hB : aR (ez_I h 101) 30 0 15) (K : ∀ h2, zG (fun k => k = 56 ∨ k = 57 ∨ k = 58) (fun q => q = 99 ∨ 117 ≤ q ∧ q ≤ 119) h h2 → (257 ≤ (ez_I h2 71 57).toInt ∧ (ez_I h2 71 57).toInt ≤ 286 ∧ 1 ≤ (ez_I h2 71 58).toInt ∧ (ez_I h2 71 58).toInt ≤ 30 ∧ 0 ≤ (ez_I h2 71 56).toInt ∧ (ez_I h2 71 56).toInt ≤ 316) → rQ (ez_I h2 99) (ez_I h2 117) (ez_I h2 71 56).toInt.toNat → Q (.inl none) h2) : ∀ N : Nat, (∀ (h2 : ez_H) (i : Int32) (l2 : Option Value) (l3 : Option Value) (l4 : Option Value) , zG (fun k => k = 56 ∨ k = 57 ∨ k = 58) (fun q => q = 99 ∨ 117 ≤ q ∧ q ≤ 119) h h2 → (257 ≤ i.toInt ∧ i.toInt ≤ 286 ∧ 257 ≤ (ez_I h2 71 57).toInt ∧ (ez_I h2 71 57).toInt ≤ 286) → (2147483647 - i.toInt) < (N : Int) → pw E (d + 1) 42 11 [some (.ref 71), some (.int i), l2, l3, l4] [] h2 Q) := by
  intro N
  induction N with
  | zero => exact fun h2 i l2 l3 l4  F hinv  hm => absurd hm (by have w_i := z_rng i; omega)
  | succ N ih =>
    refine fun h2 i l2 l3 l4  F hinv  hm => ?_
    · skip
      have w_i := z_rng i
      have S2 := zG_sh F S
      apply ez_Wp_in
      show ez_gw _ _ _ _ _ _ (cz_42) _ _ _ _ _
      refine gw_skip _ ?_
      have r1 := z_rng (ez_I h2 71 56)
      have r2 := z_rng (ez_I h2 71 57)
      have r3 := z_rng (ez_I h2 71 58)
      refine gw_ld rfl rfl ?_
      refine z_C (m := 286) rfl rfl (fun x4 ex4 => ?_)
      refine z_b2 (fun c5 => ?_) (fun c5 => ?_)
      · have c5 : x4.toInt ≤ i.toInt := c5
        refine gw_skip _ ?_
        refine gw_ld rfl rfl ?_
        refine z_C (m := 1) rfl rfl (fun x6 ex6 => ?_)
        refine z_pI (zT S2 (by decide) rfl) (fun h7 e8 => ?_)
        have S9 := zSh_set S2 e8
        have F10 := zG_setF F e8 (by decide)
        have f11 : ez_I h7 71 56 = (ez_I h2 71 56) := (zI_ne e8 (by decide)).trans (rfl)
        have f12 : ez_I h7 71 57 = (ez_I h2 71 57) := (zI_ne e8 (by decide)).trans (rfl)
        have f13 : ez_I h7 71 58 = x6 := zI_eq e8
        refine z_C (m := 1) rfl rfl (fun x14 ex14 => ?_)
        refine gw_st rfl rfl rfl ?_
        show ez_gw _ _ _ _ _ _ _ _ [some (.ref 71), some (.int x14), l2, l3, l4] _ _ _
        have t15 := congrArg Int32.toInt (f11)
        have t16 := congrArg Int32.toInt (f12)
        have t17 := congrArg Int32.toInt (f13)
        exact ez_Wp_at ((m_tl_L1  S hL hB K (((2147483647 - x14.toInt)).toNat + 1)) h7 x14 (l2) (l3) (l4) F10 (by omega)  (by omega)) rfl
      · have c5 : ¬ (x4.toInt ≤ i.toInt) := c5
        refine gw_ld rfl rfl ?_
        refine gw_ld rfl rfl ?_
        refine z_gR (q := 100) (zT S2 (by decide) rfl) (zRf S2 (by decide) (by decide) rfl) (by decide) ?_
        refine gw_ld rfl rfl ?_
        refine z_iaV (n := 288) (zT S2 (by decide) rfl) (zN S2 (by decide) rfl) (by omega) (zG_a F (by decide) (by decide)) ?_
        generalize ex18 : ez_I h 100 i.toInt.toNat = x18
        have rx18 := z_rng x18
        have yx18 := hL i.toInt.toNat (by omega)
        rw [ex18] at yx18
        refine z_b1 (fun c19 => ?_) (fun c19 => ?_)
        · have c19 : x18.toInt ≤ 0 := c19
          refine gw_skip _ ?_
          refine gw_ld rfl rfl ?_
          refine z_gI2 (by decide) (zT S2 (by decide) rfl) (rfl) ?_
          refine z_pI (zT S2 (by decide) rfl) (fun h20 e21 => ?_)
          have S22 := zSh_set S2 e21
          have F23 := zG_setF F e21 (by decide)
          have f24 : ez_I h20 71 56 = (ez_I h2 71 56) := (zI_ne e21 (by decide)).trans (rfl)
          have f25 : ez_I h20 71 57 = (ez_I h2 71 57) := zI_eq e21
          have f26 : ez_I h20 71 58 = (ez_I h2 71 58) := (zI_ne e21 (by decide)).trans (rfl)
          refine z_inc rfl (by rw [show (1 : Int32).toInt = 1 from rfl]; omega) (fun x27 ex27 => ?_)
          rw [show (1 : Int32).toInt = 1 from rfl] at ex27
          show ez_gw _ _ _ _ _ _ _ _ [some (.ref 71), some (.int x27), l2, l3, l4] _ _ _
          refine z_go ?_
          have t28 := congrArg Int32.toInt (f24)
          have t29 := congrArg Int32.toInt (f25)
          have t30 := congrArg Int32.toInt (f26)
          exact ih h20 x27 (l2) (l3) (l4) F23 (by omega)  (by omega)
        · have c19 : ¬ (x18.toInt ≤ 0) := c19
          refine gw_ld rfl rfl ?_
          refine z_C (m := 1) rfl rfl (fun x31 ex31 => ?_)
          refine z_add (by omega) (fun x32 ex32 => ?_)
          refine z_go ?_
          refine gw_skip _ ?_
          refine z_pI (zT S2 (by decide) rfl) (fun h33 e34 => ?_)
          have S35 := zSh_set S2 e34
          have F36 := zG_setF F e34 (by decide)
          have f37 : ez_I h33 71 56 = (ez_I h2 71 56) := (zI_ne e34 (by decide)).trans (rfl)
          have f38 : ez_I h33 71 57 = x32 := zI_eq e34
          have f39 : ez_I h33 71 58 = (ez_I h2 71 58) := (zI_ne e34 (by decide)).trans (rfl)
          refine z_inc rfl (by rw [show (1 : Int32).toInt = 1 from rfl]; omega) (fun x40 ex40 => ?_)
          rw [show (1 : Int32).toInt = 1 from rfl] at ex40
          show ez_gw _ _ _ _ _ _ _ _ [some (.ref 71), some (.int x40), l2, l3, l4] _ _ _
          refine z_go ?_
          have t41 := congrArg Int32.toInt (f37)
          have t42 := congrArg Int32.toInt (f38)
          have t43 := congrArg Int32.toInt (f39)
          exact ih h33 x40 (l2) (l3) (l4) F36 (by omega)  (by omega)
set_option maxRecDepth 4000 in
set_option maxHeartbeats 20000000 in
theorem m_tl {E : Nat → Nat × (Nat → Int32)} {d : Nat} {Q : ez_Q} {h : ez_H}  (S : zSh h) (hL : aR (ez_I h 100) 286 0 15) (hB : aR (ez_I h 101) 30 0 15) (K : ∀ h2, zG (fun k => k = 56 ∨ k = 57 ∨ k = 58) (fun q => q = 99 ∨ 117 ≤ q ∧ q ≤ 119) h h2 → (257 ≤ (ez_I h2 71 57).toInt ∧ (ez_I h2 71 57).toInt ≤ 286 ∧ 1 ≤ (ez_I h2 71 58).toInt ∧ (ez_I h2 71 58).toInt ≤ 30 ∧ 0 ≤ (ez_I h2 71 56).toInt ∧ (ez_I h2 71 56).toInt ≤ 316) → rQ (ez_I h2 99) (ez_I h2 117) (ez_I h2 71 56).toInt.toNat → Q (.inl none) h2) : pw E (d + 1) 42 0 [some (.ref 71), none, none, none, none] [] h Q := by
  have F := zG_refl (fun k => k = 56 ∨ k = 57 ∨ k = 58) (fun q => q = 99 ∨ 117 ≤ q ∧ q ≤ 119) h
  apply ez_Wp_in
  show ez_gw _ _ _ _ _ _ (cz_42) _ _ _ _ _
  refine gw_skip _ ?_
  have r1 := z_rng (ez_I h 71 56)
  have r2 := z_rng (ez_I h 71 57)
  have r3 := z_rng (ez_I h 71 58)
  refine gw_ld rfl rfl ?_
  refine z_C (m := 257) rfl rfl (fun x4 ex4 => ?_)
  refine z_pI (zT S (by decide) rfl) (fun h5 e6 => ?_)
  have S7 := zSh_set S e6
  have F8 := zG_setF F e6 (by decide)
  have f9 : ez_I h5 71 56 = (ez_I h 71 56) := (zI_ne e6 (by decide)).trans (rfl)
  have f10 : ez_I h5 71 57 = x4 := zI_eq e6
  have f11 : ez_I h5 71 58 = (ez_I h 71 58) := (zI_ne e6 (by decide)).trans (rfl)
  refine z_C (m := 257) rfl rfl (fun x12 ex12 => ?_)
  refine gw_st rfl rfl rfl ?_
  show ez_gw _ _ _ _ _ _ _ _ [some (.ref 71), some (.int x12), none, none, none] _ _ _
  have t13 := congrArg Int32.toInt (f9)
  have t14 := congrArg Int32.toInt (f10)
  have t15 := congrArg Int32.toInt (f11)
  exact ez_Wp_at ((m_tl_L0  S hL hB K (((2147483647 - x12.toInt)).toNat + 1)) h5 x12 (none) (none) (none) F8 (by omega)  (by omega)) rfl
