/-! the model's block -/
def lbP (f : Nat → Int32) (L C : Nat → Nat) (n : Nat) (m : Int) : Prop := (∀ k, k < n → nL f k = L k) ∧ aR f n 0 m ∧ (∀ k, k < n → 1 ≤ C k → 1 ≤ nL f k)
def dbP (f : Nat → Int32) (c : Nat → Nat) : Prop := (∀ k, k < 30 → nL f k = LNf c 30 15 k) ∧ aR f 30 0 15 ∧ (∀ k, k < 30 → 1 ≤ c k → 1 ≤ nL f k) ∧ (∀ k, k < 30 → c k = 0 → nL f k = 0)
def zrP (f : Nat → Int32) (n : Nat) : Prop := ∀ j, j < n → (f j).toInt = 0
def ltrP (f : Nat → Nat) (M r : Nat) : Prop := ltT f M r ∧ r ≤ 316
theorem tB_rng (f : Nat → Int32) (i : Nat) : 0 ≤ tB f i ∧ tB f i ≤ 255 := by
  show 0 ≤ (f i).toInt % 256 ∧ (f i).toInt % 256 ≤ 255
  omega
theorem n_l2i {x : Int64} {z : Int32} (e : x.toInt32 = z) (h : -2147483648 ≤ x.toInt ∧ x.toInt ≤ 2147483647) : z.toInt = x.toInt := by
  rw [← e, Int64.toInt_toInt32, Int.bmod_def]
  split <;> omega
/-- counts but for the end -/
def ctJ (f : Nat → Int32) (c : Nat → Nat) : Prop := ∀ s, s < 286 → (f s).toInt + (if s = 256 then 1 else 0) = (c s : Nat)
theorem ctJ_0 {f : Nat → Int32} {am di : Nat → Nat} {a : Nat} (A : ∀ k, k < 288 → (f k).toInt = 0) : ctJ f (cL am di a 0) := fun s hs => by
  rw [A s (by omega)]
  show (0 : Int) + (if s = 256 then 1 else 0) = ((if s = 256 then 1 else 0 : Nat) : Int)
  split <;> rfl
theorem ctJ_y {h h2 : ez_H} {d x x0 : Nat} {o y : Int32} {c c2 : Nat → Nat} (A : ctJ (ez_I h d) c) (e : h2 = ez_setI h d x y) (hx : x = x0) (eo : ez_I h d x = o) (hy : y.toInt = o.toInt + 1) (h1 : c2 x0 = c x0 + 1) (h0 : ∀ s, s ≠ x0 → c2 s = c s) : ctJ (ez_I h2 d) c2 := fun s hs => by
  subst hx
  by_cases q : s = x
  · subst q
    have := A s hs
    rw [eo] at this
    rw [zI_eq e, hy, h1]
    omega
  · rw [zI_ne e (fun z => q z.2), h0 s q]
    exact A s hs
theorem ctJ_e {h h2 : ez_H} {d x : Nat} {o y : Int32} {c : Nat → Nat} (A : ctJ (ez_I h d) c) (e : h2 = ez_setI h d x y) (hx : x = 256) (eo : ez_I h d x = o) (hy : y.toInt = o.toInt + 1) : ctI (ez_I h2 d) c 286 := fun s hs => by
  subst hx
  have := A s hs
  by_cases q : s = 256
  · subst q
    rw [eo, if_pos rfl] at this
    rw [zI_eq e, hy]
    omega
  · rw [if_neg q] at this
    rw [zI_ne e (fun z => q z.2)]
    omega
theorem ctI_y {h h2 : ez_H} {d x x0 n : Nat} {o y : Int32} {c c2 : Nat → Nat} (A : ctI (ez_I h d) c n) (e : h2 = ez_setI h d x y) (hx : x = x0) (eo : ez_I h d x = o) (hy : y.toInt = o.toInt + 1) (h1 : c2 x0 = c x0 + 1) (h0 : ∀ s, s ≠ x0 → c2 s = c s) : ctI (ez_I h2 d) c2 n := fun s hs => by
  subst hx
  by_cases q : s = x
  · subst q
    have := A s hs
    rw [eo] at this
    rw [zI_eq e, hy, h1]
    omega
  · rw [zI_ne e (fun z => q z.2), h0 s q]
    exact A s hs
theorem cLm_y (am di : Nat → Nat) (a j : Nat) : cL am di a (j + 1) (lSy am di (a + j)) = cL am di a j (lSy am di (a + j)) + 1 := by
  show cL am di a j _ + (if lSy am di (a + j) = lSy am di (a + j) then 1 else 0) = _
  rw [if_pos rfl]
theorem cLm_n {am di : Nat → Nat} {a j s : Nat} (h : s ≠ lSy am di (a + j)) : cL am di a (j + 1) s = cL am di a j s := by
  show cL am di a j s + (if lSy am di (a + j) = s then 1 else 0) = _
  rw [if_neg (fun q => h q.symm), Nat.add_zero]
theorem cDm_y {di : Nat → Nat} {a j : Nat} (h : di (a + j) ≠ 0) : cD di a (j + 1) (kD (di (a + j))) = cD di a j (kD (di (a + j))) + 1 := by
  show cD di a j _ + (if di (a + j) ≠ 0 ∧ kD (di (a + j)) = kD (di (a + j)) then 1 else 0) = _
  rw [if_pos ⟨h, rfl⟩]
theorem cDm_n {di : Nat → Nat} {a j s : Nat} (h : s ≠ kD (di (a + j))) : cD di a (j + 1) s = cD di a j s := by
  show cD di a j s + (if di (a + j) ≠ 0 ∧ kD (di (a + j)) = s then 1 else 0) = _
  rw [if_neg (fun q => h q.2.symm), Nat.add_zero]
theorem cD_z {di : Nat → Nat} {a j : Nat} (h : di (a + j) = 0) : cD di a (j + 1) = cD di a j := funext fun s => by
  show cD di a j s + (if di (a + j) ≠ 0 ∧ kD (di (a + j)) = s then 1 else 0) = _
  rw [if_neg (fun q => q.1 h), Nat.add_zero]
/-- the distances' lengths of the model -/
def noF (g : Nat → Int32) (nn : Int) (k : Nat) : Prop := (nn = 1 ∧ ∀ j, j < k → nL g j = 0) ∨ (nn = 0 ∧ ∃ j, j < k ∧ nL g j ≠ 0)
theorem no_sum {g : Nat → Int32} {nn : Int} {c : Nat → Nat} (A : noF g nn 30) (h1 : ∀ k, k < 30 → 1 ≤ c k → 1 ≤ nL g k) (h0 : ∀ k, k < 30 → c k = 0 → nL g k = 0) : (nn = 1 ∧ sN c 30 = 0) ∨ (nn = 0 ∧ sN c 30 ≠ 0) := by
  rcases A with ⟨a, b⟩ | ⟨a, j, b, d⟩
  · left
    refine ⟨a, ?_⟩
    have z : ∀ n, n ≤ 30 → sN c n = 0 := by
      intro n
      induction n with
      | zero => intro _; rfl
      | succ n ih =>
        intro hn
        have q := b n (by omega)
        have q2 := h1 n (by omega)
        show sN c n + c n = 0
        have := ih (by omega)
        omega
    exact z 30 (Nat.le_refl 30)
  · right
    refine ⟨a, fun q => d (h0 j b (sN_0 30 q j b))⟩
/-- costs -/
theorem dy_is {T : Nat → Int} {n c a j : Nat} (hT : ∀ i, i < n → 0 ≤ T i ∧ T i ≤ 255) (h : ltP T n c) (hj : a + j ≤ c) : bkDY T n a j = sN (fun i => bkC T n a j i * (bkL T n a j i + exL i)) 286 + sN (fun i => bkD T n a j i * (LNf (bkD T n a j) 30 15 i + DEf i)) 30 + 17 + 3 * bkO T n a j + sN (fun s => tC (rowF (bkL T n a j) (bkE T n a j)) (rowM (bkL T n a j) (bkE T n a j)) (bkR T n a j) s * (bkA T n a j s + rEf s)) 19 := by
  have h1 := xB_ex (a := a) hT h j hj
  have h2 := rE_sum (tC (rowF (bkL T n a j) (bkE T n a j)) (rowM (bkL T n a j) (bkE T n a j)) (bkR T n a j))
  rw [sN_mul_add, sN_mul_add, sN_mul_add, h2]
  unfold bkDY hdB
  have e1 : sN (fun s => cL (aM T n) (dI T n) a j s * exL s) 286 = sN (fun i => bkC T n a j i * exL i) 286 := rfl
  have e2 : sN (fun s => cD (dI T n) a j s * DEf s) 30 = sN (fun i => bkD T n a j i * DEf i) 30 := rfl
  have e3 : rowO (bkL T n a j) (bkE T n a j) (bkR T n a j) = bkO T n a j := rfl
  have e4 : sN (fun k => tC (rowF (bkL T n a j) (bkE T n a j)) (rowM (bkL T n a j) (bkE T n a j)) (bkR T n a j) k * rowA (bkL T n a j) (bkE T n a j) (bkR T n a j) k) 19 = sN (fun i => tC (rowF (bkL T n a j) (bkE T n a j)) (rowM (bkL T n a j) (bkE T n a j)) (bkR T n a j) i * bkA T n a j i) 19 := rfl
  rw [e3, e4]
  omega
theorem fx_is {T : Nat → Int} {n c a j : Nat} (hT : ∀ i, i < n → 0 ≤ T i ∧ T i ≤ 255) (h : ltP T n c) (hj : a + j ≤ c) : bkFX T n a j = 3 + sN (fun i => bkC T n a j i * (fxL i + exL i)) 286 + sN (fun i => bkD T n a j i * (fxD i + DEf i)) 30 := by
  have h1 := xB_ex (a := a) hT h j hj
  rw [sN_mul_add, sN_mul_add]
  unfold bkFX
  have e1 : sN (fun s => cL (aM T n) (dI T n) a j s * exL s) 286 = sN (fun i => bkC T n a j i * exL i) 286 := rfl
  have e2 : sN (fun s => cD (dI T n) a j s * DEf s) 30 = sN (fun i => bkD T n a j i * DEf i) 30 := rfl
  omega
theorem sNm_eq {c f g : Nat → Nat} {n : Nat} (h : ∀ k, k < n → f k = g k) : sN (fun i => c i * f i) n = sN (fun i => c i * g i) n := sN_congr n (fun k hk => by show c k * f k = c k * g k; rw [h k hk])
theorem cpN_up {f : Nat → Int32} {g : Nat → Nat} {n m : Nat} (A : cpN f g n) (h : m ≤ n) : cpN f g m := fun k hk => A k (by omega)
/-- rows kept: n places from b on -/
def kpN (f : Nat → Int32) (o : Nat → Int32) (g : Nat → Nat) (b w m n : Nat) : Prop := (∀ j, j < n → j < m → (f (b + j)).toInt = (g j : Nat)) ∧ ∀ j, (j < b ∨ b + w ≤ j) → f j = o j
theorem kpN_0 {f o : Nat → Int32} {g : Nat → Nat} {b w m : Nat} (h : f = o) : kpN f o g b w m 0 := ⟨fun j hj => by omega, fun j _ => by rw [h]⟩
theorem kpN_s {h h2 : ez_H} {d x b w m n k : Nat} {y : Int32} {o : Nat → Int32} {g : Nat → Nat} (A : kpN (ez_I h d) o g b w m n) (e : h2 = ez_setI h d x y) (hx : x = b + n) (hn : n < w) (hy : n < m → y.toInt = (g n : Nat)) (hk : k = n + 1) : kpN (ez_I h2 d) o g b w m k := by
  subst hk
  refine ⟨fun j hj hm => ?_, fun j hj => ?_⟩
  · by_cases q : j = n
    · rw [q, ← hx, zI_eq e]; exact hy (by omega)
    · rw [zI_ne e (by omega)]; exact A.1 j (by omega) hm
  · rw [zI_ne e (by omega)]; exact A.2 j hj
/-- one place of a row -/
def onE (f o : Nat → Int32) (i : Nat) (v : Int) : Prop := (f i).toInt = v ∧ ∀ j, j ≠ i → f j = o j
theorem onE_s {h h2 : ez_H} {d x i : Nat} {y : Int32} {o : Nat → Int32} {v : Int} (A : ez_I h d = o) (e : h2 = ez_setI h d x y) (hx : x = i) (hy : y.toInt = v) : onE (ez_I h2 d) o i v := by
  subst hx
  exact ⟨by rw [zI_eq e]; exact hy, fun j hj => by rw [zI_ne e (fun z => hj z.2), A]⟩
theorem wv_neg {v : Int} {Y : Nat} (h : v = -1 - (Y : Int)) (hY : Y ≤ 65535) : (v % 65536).toNat % 2 ^ 16 = 65535 - Y := by
  have : (v % 65536).toNat = 65535 - Y := by omega
  rw [this]
  exact Nat.mod_eq_of_lt (by omega)
theorem n_notm {x y z : Int32} (hy : y.toInt = -1) (hz : z = x ^^^ y) : z.toInt = -1 - x.toInt := by
  have h1 : y = -1 := z_inj (by rw [hy]; rfl)
  have h2 : z = ~~~ x := by rw [hz, h1]; exact Int32.xor_neg_one
  have h3 := z_rng x
  rw [h2, Int32.toInt_not, Int.bmod_def]
  split <;> omega
theorem nz_all {g : Nat → Int32} {nn : Int} {k : Nat} (A : noF g nn k) (h : nn = 1) : ∀ j, j < k → nL g j = 0 := by
  rcases A with ⟨_, b⟩ | ⟨a, _⟩
  · exact b
  · omega
theorem nz_some {g : Nat → Int32} {nn : Int} {k m : Nat} (A : noF g nn k) (h : nn = 0) (hm : k ≤ m) : ∃ j, j < m ∧ nL g j ≠ 0 := by
  rcases A with ⟨a, _⟩ | ⟨_, j, b, d⟩
  · omega
  · exact ⟨j, by omega, d⟩
theorem exL_5 (k : Nat) : exL k ≤ 5 := by
  unfold exL
  have := LE_5 (k - 257)
  split <;> omega
theorem fxD_5 (k : Nat) : fxD k ≤ 15 := by
  unfold fxD
  split <;> omega
theorem LD_sum2 (c : Nat → Nat) : sN (fun i => c i * (LNf c 30 15 i + DEf i)) 30 = sN (fun i => c i * (LDx c i + DEf i)) 30 := by
  by_cases h : sN c 30 = 0
  · refine sN_congr 30 (fun k hk => ?_)
    show c k * (LNf c 30 15 k + DEf k) = c k * (LDx c k + DEf k)
    rw [sN_0 30 h k hk, Nat.zero_mul, Nat.zero_mul]
  · refine sN_congr 30 (fun k hk => ?_)
    show c k * (LNf c 30 15 k + DEf k) = c k * (LDx c k + DEf k)
    unfold LDx
    rw [if_neg h]
theorem eb_1 {h h2 : ez_H} {c : Nat → Nat} {x : Nat} {y : Int32} (D : (∀ k, k < 30 → nL (ez_I h 101) k = LNf c 30 15 k) ∧ aR (ez_I h 101) 30 0 15 ∧ (∀ k, k < 30 → 1 ≤ c k → 1 ≤ nL (ez_I h 101) k) ∧ (∀ k, k < 30 → c k = 0 → nL (ez_I h 101) k = 0)) (hs : sN c 30 = 0) (e : h2 = ez_setI h 101 x y) (hx : x = 0) (hy : y.toInt = 1) : (∀ k, k < 30 → nL (ez_I h2 101) k = LDx c k) ∧ aR (ez_I h2 101) 30 0 15 ∧ (∀ k, k < 30 → 1 ≤ c k → 1 ≤ nL (ez_I h2 101) k) := by
  subst hx
  refine ⟨fun k hk => ?_, aR_up D.2.1 e (by omega), fun k hk h1 => ?_⟩
  · unfold LDx
    rw [if_pos hs]
    show (ez_I h2 101 k).toInt.toNat = _
    by_cases q : k = 0
    · subst q; rw [zI_eq e, hy]; rfl
    · rw [if_neg q, zI_ne e (fun z => q z.2)]
      exact D.2.2.2 k hk (sN_0 30 hs k hk)
  · have := sN_0 30 hs k hk
    omega
theorem wd_nL2 {f g : Nat → Int32} {L : Nat → Nat} {n : Nat} (A : wdI f (nL g) n n) (h : ∀ k, k < n → nL g k = L k) (hn : n ≤ 288) (hz : ∀ k, n ≤ k → k < 288 → L k = 0) : ∀ k, k < n → 1 ≤ L k → nL f k = cdN L 288 k :=
  wd_nL A (Nat.le_refl n) hn h (fun l hl => by rw [ctN_congr n h, ctN_more hl 288 hn hz])
theorem bkE_0 {T : Nat → Int} {n a j k : Nat} (h : 30 ≤ k) : bkE T n a j k = 0 := by
  unfold bkE LDx
  by_cases q : sN (bkD T n a j) 30 = 0
  · rw [if_pos q, if_neg (by omega)]
  · rw [if_neg q]; exact LNf_out h
theorem bkA_0 {T : Nat → Int} {n a j k : Nat} (h : 19 ≤ k) : bkA T n a j k = 0 := LNf_out h
theorem fxd_w {f g : Nat → Int32} (A : wdI f (nL g) 30 30) (h : ∀ k, k < 30 → nL g k = fxD k) : ∀ k, k < 30 → 1 ≤ fxD k → nL f k = cdN fxD 288 k := fun k hk h1 => by
  have h2 := A k hk (by rw [h k hk]; exact h1)
  have h5 : fxD k = 5 := if_pos (by omega)
  have e1 : ncN (nL g) 30 5 = 0 := by
    rw [ncN_congr (L' := fxD) (N' := 30) (fun l _ => ctN_congr 30 h)]
    decide +kernel
  have e2 : ncN fxD 288 5 = 0 := by decide +kernel
  have e3 : cdN (nL g) 30 k = cdN fxD 288 k := by
    unfold cdN cwN
    rw [h k hk, h5, e1, e2, ctN_congr k (fun i hi => h i (by omega))]
  show (f k).toInt.toNat = _
  rw [h2, e3]
  omega
/-! all blocks of the model -/
def bfM (f3 f4 f5 f6 f7 f8 f9 g0 g1 : Nat → Int32) (T : Nat → Int) (n c b i : Nat) : Prop := (f3 i).toInt = (bkW T n (600 * i) (blJ c i) (pkS T n c b i).2 : Nat) ∧ (f4 i).toInt = (blJ c i : Nat) ∧ (f5 i).toInt = (bkY T n (600 * i) (blJ c i) : Nat) ∧ (f6 i).toInt = (bkB T n (600 * i) (blJ c i) (pkS T n c b i).2 : Nat) ∧ (f7 i).toInt = (bkFX T n (600 * i) (blJ c i) : Nat) ∧ (f8 i).toInt = (bkDY T n (600 * i) (blJ c i) : Nat) ∧ (∀ s, s < 286 → (f9 (288 * i + s)).toInt = (bkL T n (600 * i) (blJ c i) s : Nat)) ∧ (∀ s, s < 30 → (g0 (30 * i + s)).toInt = (bkE T n (600 * i) (blJ c i) s : Nat)) ∧ ∀ s, s < 19 → (g1 (19 * i + s)).toInt = (bkA T n (600 * i) (blJ c i) s : Nat)
section BM
variable {f3 f4 f5 f6 f7 f8 f9 g0 g1 e3 e4 e5 e6 e7 e8 e9 d0 d1 : Nat → Int32} {T : Nat → Int} {n c b k : Nat} {v3 v4 v5 v6 v7 v8 : Int} {L E A : Nat → Nat}
theorem bfM_s (H : ∀ i, i < k → bfM f3 f4 f5 f6 f7 f8 f9 g0 g1 T n c b i) (o3 : onE e3 f3 k v3) (o4 : onE e4 f4 k v4) (o5 : onE e5 f5 k v5) (o6 : onE e6 f6 k v6) (o7 : onE e7 f7 k v7) (o8 : onE e8 f8 k v8) (k9 : kpN e9 f9 L (288 * k) 288 286 288) (k0 : kpN d0 g0 E (30 * k) 30 30 30) (k1 : kpN d1 g1 A (19 * k) 19 19 19) (h3 : v3 = (bkW T n (600 * k) (blJ c k) (pkS T n c b k).2 : Nat)) (h4 : v4 = (blJ c k : Nat)) (h5 : v5 = (bkY T n (600 * k) (blJ c k) : Nat)) (h6 : v6 = (bkB T n (600 * k) (blJ c k) (pkS T n c b k).2 : Nat)) (h7 : v7 = (bkFX T n (600 * k) (blJ c k) : Nat)) (h8 : v8 = (bkDY T n (600 * k) (blJ c k) : Nat)) (hL : L = bkL T n (600 * k) (blJ c k)) (hE : E = bkE T n (600 * k) (blJ c k)) (hA : A = bkA T n (600 * k) (blJ c k)) : ∀ i, i < k + 1 → bfM e3 e4 e5 e6 e7 e8 e9 d0 d1 T n c b i := fun i hi => by
  by_cases q : i = k
  · subst q; subst hL; subst hE; subst hA
    exact ⟨o3.1.trans h3, o4.1.trans h4, o5.1.trans h5, o6.1.trans h6, o7.1.trans h7, o8.1.trans h8, fun s hs => k9.1 s (by omega) hs, fun s hs => k0.1 s hs hs, fun s hs => k1.1 s hs hs⟩
  · obtain ⟨a3, a4, a5, a6, a7, a8, a9, a0, a1⟩ := H i (by omega)
    exact ⟨by rw [o3.2 i q]; exact a3, by rw [o4.2 i q]; exact a4, by rw [o5.2 i q]; exact a5, by rw [o6.2 i q]; exact a6, by rw [o7.2 i q]; exact a7, by rw [o8.2 i q]; exact a8, fun s hs => by rw [k9.2 _ (by omega)]; exact a9 s hs, fun s hs => by rw [k0.2 _ (by omega)]; exact a0 s hs, fun s hs => by rw [k1.2 _ (by omega)]; exact a1 s hs⟩
end BM

