/-! packing: parts, bits of the model -/
theorem pk_rng {T : Nat → Int} {n c k : Nat} (hT : ∀ i, i < n → 0 ≤ T i ∧ T i ≤ 255) (h : ltP T n c) (hk : k < c) : (dI T n k = 0 ∧ aM T n k ≤ 255 ∧ ptS T n (ptP T n k) = 1 ∧ ((aM T n k : Nat) : Int) = T (ptP T n k)) ∨ (1 ≤ dI T n k ∧ dI T n k ≤ 4096 ∧ 3 ≤ aM T n k ∧ aM T n k ≤ 258 ∧ aM T n k = ptS T n (ptP T n k)) := by
  have h1 := h k hk
  have h2 := hT _ h1
  have h3 := ptS_ok (T := T) h1
  unfold dI aM
  rcases h3 with q | q
  · left
    rw [if_pos q.2]
    exact ⟨q.2, by omega, q.1, by omega⟩
  · right
    rw [if_neg (by omega)]
    exact ⟨by omega, by omega, by omega, by omega, rfl⟩
theorem pq_G {f : Nat → Int32} {T : Nat → Int} {n c : Nat} (hT : ∀ i, i < n → 0 ≤ T i ∧ T i ≤ 255) (h : ltP T n c) (A : pqI f T n c) : pqG f (aM T n) (dI T n) c := fun k hk => ⟨A k hk, by
  have := pk_rng hT h hk
  omega⟩
theorem ptP_n (T : Nat → Int) (n k : Nat) : ptP T n (k + 1) = ptP T n k + ptS T n (ptP T n k) := rfl
/-- bytes told by the parts -/
theorem bY_pt {T : Nat → Int} {n c a : Nat} (hT : ∀ i, i < n → 0 ≤ T i ∧ T i ≤ 255) (h : ltP T n c) : ∀ j, a + j ≤ c → ptP T n (a + j) = ptP T n a + bY (aM T n) (dI T n) a j := by
  intro j
  induction j with
  | zero => intro _; rfl
  | succ j ih =>
    intro hj
    have h1 := ih (by omega)
    have h2 := pk_rng hT h (k := a + j) (by omega)
    show ptP T n (a + j + 1) = ptP T n a + (bY (aM T n) (dI T n) a j + if dI T n (a + j) = 0 then 1 else aM T n (a + j))
    rw [ptP_n]
    rcases h2 with q | q
    · rw [if_pos q.1]; omega
    · rw [if_neg (by omega)]; omega
theorem lSy_lt {T : Nat → Int} {n c k : Nat} (hT : ∀ i, i < n → 0 ≤ T i ∧ T i ≤ 255) (h : ltP T n c) (hk : k < c) : lSy (aM T n) (dI T n) k < 286 ∧ (dI T n k ≠ 0 → kD (dI T n k) < 30) := by
  have h2 := pk_rng hT h hk
  unfold lSy
  rcases h2 with q | q
  · rw [if_pos q.1]; exact ⟨by omega, fun z => absurd q.1 z⟩
  · have a := kL_ok (v := aM T n k) (by omega)
    have b := kD_ok (v := dI T n k) (by omega)
    rw [if_neg (by omega)]
    exact ⟨by omega, fun _ => by omega⟩
/-- the model's bits by the state alone -/
def mS (f : Nat → Int32) (s : Nat × Nat) : Prop := mst f ((s.2 : Nat) : Int) s
theorem mS_m {f : Nat → Int32} {s : Nat × Nat} {b : Int} (A : mS f s) (h : b = ((s.2 : Nat) : Int)) : mst f b s := by rw [h]; exact A
theorem m_mS {f : Nat → Int32} {s : Nat × Nat} {b : Int} (A : mst f b s) : mS f s := by
  have := A.1
  unfold mS
  rw [← this]
  exact A
theorem wv {v : Int} {n V : Nat} (h : v = (V : Int)) (h2 : V < 2 ^ n) (hn : n ≤ 16) : (v % 65536).toNat % 2 ^ n = V := by
  have h3 : (2 : Nat) ^ n ≤ 2 ^ 16 := Nat.pow_le_pow_right (by decide) hn
  have h4 : (v % 65536).toNat = V := by omega
  rw [h4, Nat.mod_eq_of_lt h2]
theorem wr_2 (s : Nat × Nat) (v c : Nat) : (wr s v c).2 = s.2 + c := rfl
/-- a word at its end -/
theorem wd_end {w : Nat → Int32} {L : Nat → Nat} {N k j m : Nat} (A : wdI w L N k) (B : (w k).toInt = ((rvN (cwN L N k) j * 2 ^ (L k - j) : Nat) : Int)) (hj : j = L k) (hm : m = k + 1) : wdI w L N m := fun i hi h1 => by
  subst hm
  by_cases q : i = k
  · subst q
    rw [B, hj, Nat.sub_self, Nat.pow_zero, Nat.mul_one]
    rfl
  · exact A i (by omega) h1
theorem wd_o {h h2 : ez_H} {c x n : Nat} {y : Int32} {L : Nat → Nat} {N : Nat} (A : wdI (ez_I h c) L N n) (e : h2 = ez_setI h c x y) (hx : x = n) : wdI (ez_I h2 c) L N n := fun k hk h1 => by
  rw [zI_ne e (by omega)]
  exact A k hk h1
/-- the extra bits by the kinds -/
def exL (k : Nat) : Nat := if 256 < k then LEf (k - 257) else 0
theorem xB_ex {T : Nat → Int} {n c a : Nat} (hT : ∀ i, i < n → 0 ≤ T i ∧ T i ≤ 255) (h : ltP T n c) (j : Nat) (hj : a + j ≤ c) : sN (fun s => cL (aM T n) (dI T n) a j s * exL s) 286 + sN (fun s => cD (dI T n) a j s * DEf s) 30 = xB (aM T n) (dI T n) a j := by
  rw [cL_sum exL j (fun i hi => (lSy_lt hT h (k := a + i) (by omega)).1), cD_sum DEf j (fun i hi => (lSy_lt hT h (k := a + i) (by omega)).2)]
  have e : ∀ m, a + m ≤ c → sN (fun i => exL (lSy (aM T n) (dI T n) (a + i))) m + sN (fun i => if dI T n (a + i) = 0 then 0 else DEf (kD (dI T n (a + i)))) m = xB (aM T n) (dI T n) a m := by
    intro m
    induction m with
    | zero => intro _; rfl
    | succ m ih =>
      intro hm
      have h1 := ih (by omega)
      have h2 := pk_rng hT h (k := a + m) (by omega)
      show sN (fun i => exL (lSy (aM T n) (dI T n) (a + i))) m + exL (lSy (aM T n) (dI T n) (a + m)) + (sN (fun i => if dI T n (a + i) = 0 then 0 else DEf (kD (dI T n (a + i)))) m + (if dI T n (a + m) = 0 then 0 else DEf (kD (dI T n (a + m))))) = xB (aM T n) (dI T n) a m + if dI T n (a + m) = 0 then 0 else LEf (kL (aM T n (a + m))) + DEf (kD (dI T n (a + m)))
      rcases h2 with q | q
      · have hs : lSy (aM T n) (dI T n) (a + m) = aM T n (a + m) := if_pos q.1
        have he : exL (aM T n (a + m)) = 0 := if_neg (by omega)
        rw [hs, he, if_pos q.1, if_pos q.1]
        omega
      · have hs : lSy (aM T n) (dI T n) (a + m) = 257 + kL (aM T n (a + m)) := if_neg (by omega)
        have he : exL (257 + kL (aM T n (a + m))) = LEf (kL (aM T n (a + m))) := by
          unfold exL
          rw [if_pos (by omega), show 257 + kL (aM T n (a + m)) - 257 = kL (aM T n (a + m)) by omega]
        rw [hs, he, if_neg (by omega), if_neg (by omega)]
        omega
  have h0 : exL 256 = 0 := rfl
  have := e j hj
  omega
theorem sN_mul_add {c f g : Nat → Nat} : ∀ n, sN (fun i => c i * (f i + g i)) n = sN (fun i => c i * f i) n + sN (fun i => c i * g i) n := by
  intro n
  induction n with
  | zero => rfl
  | succ n ih =>
    show sN (fun i => c i * (f i + g i)) n + c n * (f n + g n) = sN (fun i => c i * f i) n + c n * f n + (sN (fun i => c i * g i) n + c n * g n)
    rw [ih, Nat.mul_add]
    omega
/-! PRINTED by wip/pack: the model packs: codes, costs, parts written -/
set_option maxRecDepth 4000 in
set_option maxHeartbeats 2000000 in
theorem d_cds_L3 {E : Nat → Nat × (Nat → Int32)} {d : Nat} {Q : ez_Q} {h : ez_H} {u : Nat} {n : Int32} {w : Nat} (S : zSh h) {nu nw : Nat} (hu : zA u nu) (hw : zA w nw) (hd : u ≠ 71 ∧ u ≠ 115 ∧ u ≠ 116 ∧ w ≠ 71 ∧ w ≠ 115 ∧ w ≠ 116 ∧ u ≠ w) (hn : 1 ≤ n.toInt ∧ n.toInt ≤ nu ∧ n.toInt ≤ nw ∧ nu ≤ 1000 ∧ nw ≤ 1000 ∧ n.toInt ≤ 288) (hL : aR (ez_I h u) n.toInt.toNat 0 15) (K : ∀ h2, zW (fun _ _ => False) (fun q => q = 115 ∨ q = 116 ∨ q = w) (fun _ => False) h h2 → wdI (ez_I h2 w) (nL (ez_I h u)) n.toInt.toNat n.toInt.toNat → Q (.inl none) h2) : ∀ N : Nat, (∀ (h2 : ez_H) (co : Int32) (k : Int32) (l6 : Option Value) , zW (fun _ _ => False) (fun q => q = 115 ∨ q = 116 ∨ q = w) (fun _ => False) h h2 → (0 ≤ k.toInt ∧ k.toInt ≤ n.toInt) → (uT2 (ez_I h2 116) (fun l => ncN (nL (ez_I h u)) n.toInt.toNat l + ctN (nL (ez_I h u)) l k.toInt.toNat) 17) → (wdI (ez_I h2 w) (nL (ez_I h u)) n.toInt.toNat k.toInt.toNat) → (100 * (1000 - k.toInt)) < (N : Int) → pw E d 37 108 [some (.ref 71), some (.ref u), some (.int n), some (.ref w), some (.int co), some (.int k), l6] [] h2 Q) ∧ (∀ (h2 : ez_H) (co : Int32) (k : Int32) (j : Int32) , zW (fun _ _ => False) (fun q => q = 115 ∨ q = 116 ∨ q = w) (fun _ => False) h h2 → (0 ≤ k.toInt ∧ k.toInt < n.toInt ∧ 0 ≤ j.toInt ∧ j.toInt ≤ ((nL (ez_I h u)) k.toInt.toNat) ∧ 1 ≤ ((nL (ez_I h u)) k.toInt.toNat)) → (uT2 (ez_I h2 116) (fun l => ncN (nL (ez_I h u)) n.toInt.toNat l + ctN (nL (ez_I h u)) l k.toInt.toNat) 17) → (wdI (ez_I h2 w) (nL (ez_I h u)) n.toInt.toNat k.toInt.toNat) → ((ez_I h2 w k.toInt.toNat).toInt = ((rvN (cwN (nL (ez_I h u)) n.toInt.toNat k.toInt.toNat) j.toInt.toNat * 2 ^ (((nL (ez_I h u)) k.toInt.toNat) - j.toInt.toNat) : Nat) : Int)) → (100 * (1000 - k.toInt) - 50 + (20 - j.toInt)) < (N : Int) → pw E d 37 132 [some (.ref 71), some (.ref u), some (.int n), some (.ref w), some (.int co), some (.int k), some (.int j)] [] h2 Q) := by
  intro N
  induction N with
  | zero => exact ⟨fun h2 co k l6  F hinv A_nx A_wd hm => absurd hm (by have w_co := z_rng co; have w_k := z_rng k; have gn := z_rng n; omega), fun h2 co k j  F hinv A_nx A_wd A_in hm => absurd hm (by have hlk9 : ((nL (ez_I h u)) k.toInt.toNat) ≤ 15 := (by have := hL k.toInt.toNat (by omega); show (ez_I h u k.toInt.toNat).toInt.toNat ≤ 15; omega); have w_co := z_rng co; have w_k := z_rng k; have w_j := z_rng j; have gn := z_rng n; omega)⟩
  | succ N ih =>
    refine ⟨fun h2 co k l6  F hinv A_nx A_wd hm => ?_, fun h2 co k j  F hinv A_nx A_wd A_in hm => ?_⟩
    · skip
      have w_co := z_rng co
      have w_k := z_rng k
      have gn := z_rng n
      have S2 := zW_sh F S
      apply ez_Wp_in
      show ez_gw _ _ _ _ _ _ (cz_37) _ _ _ _ _
      refine gw_skip _ ?_
      refine gw_ld rfl rfl ?_
      refine gw_ld rfl rfl ?_
      refine z_b2 (fun c1 => ?_) (fun c1 => ?_)
      · have c1 : n.toInt ≤ k.toInt := c1
        refine gw_skip _ ?_
        refine z_rv ?_
        have b1 := A_wd
        rw [show k.toInt.toNat = n.toInt.toNat by omega] at b1
        exact K _ F b1
      · have c1 : ¬ (n.toInt ≤ k.toInt) := c1
        refine gw_ld rfl rfl ?_
        refine gw_ld rfl rfl ?_
        refine z_C (m := 0) rfl rfl (fun x2 ex2 => ?_)
        refine z_is (n := nw) ((hw _ S2).1) ((hw _ S2).2) (by omega) (fun h3 e4 => ?_)
        have S5 := zSh_set S2 e4
        have F6 := zW_setA F e4 (by omega)
        have A7 : uT2 (ez_I h3 116) (fun l => ncN (nL (ez_I h u)) n.toInt.toNat l + ctN (nL (ez_I h u)) l k.toInt.toNat) 17 := by rw [zI_fn e4 116 (by omega)]; exact A_nx
        have A8 : wdI (ez_I h3 w) (nL (ez_I h u)) n.toInt.toNat k.toInt.toNat := wd_o A_wd e4 (by omega)
        have A9 : (ez_I h3 w k.toInt.toNat).toInt = 0 := (by rw [show k.toInt.toNat = k.toInt.toNat by omega, zI_eq e4]; omega)
        refine gw_ld rfl rfl ?_
        refine gw_ld rfl rfl ?_
        refine z_iaV (n := nu) ((hu _ S5).1) ((hu _ S5).2) (by omega) (zW_f F6 (by omega) (fun c => c)) ?_
        generalize ex10 : ez_I h u k.toInt.toNat = x10
        have rx10 := z_rng x10
        have yx10 := hL k.toInt.toNat (by omega)
        rw [ex10] at yx10
        have ylx10 : ((nL (ez_I h u)) k.toInt.toNat) = x10.toInt.toNat := by show (ez_I h u k.toInt.toNat).toInt.toNat = _; rw [show k.toInt.toNat = k.toInt.toNat by omega, ex10]
        refine z_b1 (fun c11 => ?_) (fun c11 => ?_)
        · have c11 : x10.toInt ≠ 0 := c11
          refine gw_skip _ ?_
          refine z_C (m := 0) rfl rfl (fun x12 ex12 => ?_)
          refine gw_st rfl rfl rfl ?_
          show ez_gw _ _ _ _ _ _ _ _ [some (.ref 71), some (.ref u), some (.int n), some (.ref w), some (.int co), some (.int k), some (.int x12)] _ _ _
          exact ez_Wp_at (ih.2 h3 co k x12 F6 (by omega) A7 (A8) ((by rw [show x12.toInt.toNat = 0 by omega]; show _ = ((0 * _ : Nat) : Int); rw [Nat.zero_mul]; exact A9)) (by omega)) rfl
        · have c11 : ¬ (x10.toInt ≠ 0) := c11
          refine z_go ?_
          refine gw_skip _ ?_
          refine z_inc rfl (by rw [show (1 : Int32).toInt = 1 from rfl]; omega) (fun x13 ex13 => ?_)
          rw [show (1 : Int32).toInt = 1 from rfl] at ex13
          show ez_gw _ _ _ _ _ _ _ _ [some (.ref 71), some (.ref u), some (.int n), some (.ref w), some (.int co), some (.int x13), l6] _ _ _
          refine z_go ?_
          exact ih.1 h3 co x13 (l6) F6 (by omega) ((uT2_c A7 (fun l hl => by show ncN (nL (ez_I h u)) n.toInt.toNat l + _ = ncN (nL (ez_I h u)) n.toInt.toNat l + _; rw [show x13.toInt.toNat = k.toInt.toNat + 1 by omega, ctN_n (by omega)]))) ((skI A8 (by omega) (by omega))) (by omega)
    · skip
      have hlk9 : ((nL (ez_I h u)) k.toInt.toNat) ≤ 15 := (by have := hL k.toInt.toNat (by omega); show (ez_I h u k.toInt.toNat).toInt.toNat ≤ 15; omega)
      have w_co := z_rng co
      have w_k := z_rng k
      have w_j := z_rng j
      have gn := z_rng n
      have S2 := zW_sh F S
      have hlk : ((nL (ez_I h u)) k.toInt.toNat) ≤ 15 := by have := hL k.toInt.toNat (by omega); show (ez_I h u k.toInt.toNat).toInt.toNat ≤ 15; omega
      have hrl := rvN_lt (cwN (nL (ez_I h u)) n.toInt.toNat k.toInt.toNat) j.toInt.toNat
      have hnb := ncN_b2 (L := (nL (ez_I h u))) (N := n.toInt.toNat) (l := ((nL (ez_I h u)) k.toInt.toNat)) (by omega) (by omega)
      have hcb := ctN_le (nL (ez_I h u)) ((nL (ez_I h u)) k.toInt.toNat) k.toInt.toNat
      have hnv := A_nx ((nL (ez_I h u)) k.toInt.toNat) (by omega) (by omega)
      have hnv2 : (ez_I h2 116 ((nL (ez_I h u)) k.toInt.toNat)).toInt = ((cwN (nL (ez_I h u)) n.toInt.toNat k.toInt.toNat) : Nat) := hnv
      have hcwb : (cwN (nL (ez_I h u)) n.toInt.toNat k.toInt.toNat) ≤ 80000288 := by show ncN (nL (ez_I h u)) n.toInt.toNat ((nL (ez_I h u)) k.toInt.toNat) + ctN (nL (ez_I h u)) ((nL (ez_I h u)) k.toInt.toNat) k.toInt.toNat ≤ _; omega
      apply ez_Wp_in
      show ez_gw _ _ _ _ _ _ (cz_37) _ _ _ _ _
      refine gw_skip _ ?_
      refine gw_ld rfl rfl ?_
      refine gw_ld rfl rfl ?_
      refine gw_ld rfl rfl ?_
      refine z_iaV (n := nu) ((hu _ S2).1) ((hu _ S2).2) (by omega) (zW_f F (by omega) (fun c => c)) ?_
      generalize ex14 : ez_I h u k.toInt.toNat = x14
      have rx14 := z_rng x14
      have yx14 := hL k.toInt.toNat (by omega)
      rw [ex14] at yx14
      have ylx14 : ((nL (ez_I h u)) k.toInt.toNat) = x14.toInt.toNat := by show (ez_I h u k.toInt.toNat).toInt.toNat = _; rw [show k.toInt.toNat = k.toInt.toNat by omega, ex14]
      refine z_b2 (fun c15 => ?_) (fun c15 => ?_)
      · have c15 : x14.toInt ≤ j.toInt := c15
        refine gw_skip _ ?_
        refine gw_ld rfl rfl ?_
        refine z_gR (q := 116) (zT S2 (by decide) rfl) (zRf S2 (by decide) (by decide) rfl) (by decide) ?_
        refine gw_ld rfl rfl ?_
        refine gw_ld rfl rfl ?_
        refine z_iaV (n := nu) ((hu _ S2).1) ((hu _ S2).2) (by omega) ((zW_f F (by omega) (fun c => c)).trans ex14) ?_
        refine gw_op rfl ?_
        refine z_ia (n := 17) (zT S2 (by decide) rfl) (zN S2 (by decide) rfl) (by omega) ?_
        generalize ex17 : ez_I h2 116 x14.toInt.toNat = x17
        have rx17 := z_rng x17
        have yx17 : x17.toInt = ((cwN (nL (ez_I h u)) n.toInt.toNat k.toInt.toNat) : Nat) := by rw [← ex17, show x14.toInt.toNat = ((nL (ez_I h u)) k.toInt.toNat) by omega]; exact hnv2
        refine z_C (m := 1) rfl rfl (fun x18 ex18 => ?_)
        refine z_add (by omega) (fun x19 ex19 => ?_)
        refine z_is (n := 17) (zT S2 (by decide) rfl) (zN S2 (by decide) rfl) (by omega) (fun h20 e21 => ?_)
        have S22 := zSh_set S2 e21
        have F23 := zW_setA F e21 (by omega)
        have A24 : uT2 (ez_I h20 116) (fun l => ncN (nL (ez_I h u)) n.toInt.toNat l + ctN (nL (ez_I h u)) l (k.toInt.toNat + 1)) 17 := uT2_up (x := x14.toInt.toNat) (v := x19.toInt) A_nx (by rw [zI_eq e21]) (fun q hq => zI_ne e21 (by omega)) (by rw [ex17]; omega) (by omega) (by show ncN (nL (ez_I h u)) n.toInt.toNat x14.toInt.toNat + ctN (nL (ez_I h u)) x14.toInt.toNat (k.toInt.toNat + 1) = ncN (nL (ez_I h u)) n.toInt.toNat x14.toInt.toNat + ctN (nL (ez_I h u)) x14.toInt.toNat k.toInt.toNat + 1; rw [ctN_y (by omega)]; omega) (fun q hq => by show ncN (nL (ez_I h u)) n.toInt.toNat q + ctN (nL (ez_I h u)) q (k.toInt.toNat + 1) = ncN (nL (ez_I h u)) n.toInt.toNat q + ctN (nL (ez_I h u)) q k.toInt.toNat; rw [ctN_n (by omega)])
        have A25 : wdI (ez_I h20 w) (nL (ez_I h u)) n.toInt.toNat k.toInt.toNat := by rw [zI_fn e21 w (by omega)]; exact A_wd
        have A26 : (ez_I h20 w k.toInt.toNat).toInt = ((rvN (cwN (nL (ez_I h u)) n.toInt.toNat k.toInt.toNat) j.toInt.toNat * 2 ^ (((nL (ez_I h u)) k.toInt.toNat) - j.toInt.toNat) : Nat) : Int) := by rw [zI_fn e21 w (by omega)]; exact A_in
        refine z_inc rfl (by rw [show (1 : Int32).toInt = 1 from rfl]; omega) (fun x27 ex27 => ?_)
        rw [show (1 : Int32).toInt = 1 from rfl] at ex27
        show ez_gw _ _ _ _ _ _ _ _ [some (.ref 71), some (.ref u), some (.int n), some (.ref w), some (.int co), some (.int x27), some (.int j)] _ _ _
        refine z_go ?_
        exact ih.1 h20 co x27 (some (.int j)) F23 (by omega) ((by rw [show x27.toInt.toNat = k.toInt.toNat + 1 by omega]; exact A24)) ((wd_end A25 A26 (by omega) (by omega))) (by omega)
      · have c15 : ¬ (x14.toInt ≤ j.toInt) := c15
        refine gw_ld rfl rfl ?_
        refine gw_ld rfl rfl ?_
        refine gw_op rfl ?_
        refine z_ia (n := nw) ((hw _ S2).1) ((hw _ S2).2) (by omega) ?_
        generalize ex28 : ez_I h2 w k.toInt.toNat = x28
        have rx28 := z_rng x28
        skip
        refine gw_ld rfl rfl ?_
        refine z_gR (q := 116) (zT S2 (by decide) rfl) (zRf S2 (by decide) (by decide) rfl) (by decide) ?_
        refine gw_ld rfl rfl ?_
        refine gw_ld rfl rfl ?_
        refine z_iaV (n := nu) ((hu _ S2).1) ((hu _ S2).2) (by omega) ((zW_f F (by omega) (fun c => c)).trans ex14) ?_
        refine z_ia (n := 17) (zT S2 (by decide) rfl) (zN S2 (by decide) rfl) (by omega) ?_
        generalize ex30 : ez_I h2 116 x14.toInt.toNat = x30
        have rx30 := z_rng x30
        have yx30 : x30.toInt = ((cwN (nL (ez_I h u)) n.toInt.toNat k.toInt.toNat) : Nat) := by rw [← ex30, show x14.toInt.toNat = ((nL (ez_I h u)) k.toInt.toNat) by omega]; exact hnv2
        refine gw_ld rfl rfl ?_
        refine z_2 rfl (fun x31 ex31 => ?_)
        have rx31 := z_rng x31
        have vx31 := n_shr (n := j.toInt.toNat) (by omega) (by omega) ex31
        refine z_C (m := 1) rfl rfl (fun x32 ex32 => ?_)
        refine z_and (fun x33 ex33 ux33 wx33 => ?_)
        have rx33 := z_rng x33
        replace ux33 := ux33 (by omega)
        clear wx33
        have vbx33 := n_mask (k := 1) (by decide) (by omega) ex33
        rw [show (2 : Int) ^ 1 = 2 from rfl, vx31] at vbx33
        refine gw_ld rfl rfl ?_
        refine gw_ld rfl rfl ?_
        refine z_iaV (n := nu) ((hu _ S2).1) ((hu _ S2).2) (by omega) ((zW_f F (by omega) (fun c => c)).trans ex14) ?_
        refine z_C (m := 1) rfl rfl (fun x35 ex35 => ?_)
        refine z_sub (by omega) (fun x36 ex36 => ?_)
        refine gw_ld rfl rfl ?_
        refine z_sub (by omega) (fun x37 ex37 => ?_)
        refine z_2 rfl (fun x38 ex38 => ?_)
        have rx38 := z_rng x38
        refine z_2 rfl (fun x39 ex39 => ?_)
        have rx39 := z_rng x39
        have hv := A_in
        rw [show k.toInt.toNat = k.toInt.toNat by omega, ex28] at hv
        have hcv : x30.toInt = ((cwN (nL (ez_I h u)) n.toInt.toNat k.toInt.toNat) : Nat) := by rw [← ex30, show x14.toInt.toNat = ((nL (ez_I h u)) k.toInt.toNat) by omega]; exact hnv2
        have hbb : x33.toInt = (((cwN (nL (ez_I h u)) n.toInt.toNat k.toInt.toNat) / 2 ^ j.toInt.toNat % 2 : Nat) : Int) := by rw [vbx33, n_bit (by omega), hcv, Int.toNat_natCast]
        have hor := rv_or (r := rvN (cwN (nL (ez_I h u)) n.toInt.toNat k.toInt.toNat) j.toInt.toNat) (j := j.toInt.toNat) (l := ((nL (ez_I h u)) k.toInt.toNat)) hv hrl (by omega) (by omega) (by omega) (by omega) ex38 ex39
        have hst := rv_st (w := (cwN (nL (ez_I h u)) n.toInt.toNat k.toInt.toNat)) (l := ((nL (ez_I h u)) k.toInt.toNat)) (j := j.toInt.toNat) (m := j.toInt.toNat + 1) hv hbb hor (by omega) rfl
        refine z_is (n := nw) ((hw _ S2).1) ((hw _ S2).2) (by omega) (fun h40 e41 => ?_)
        have S42 := zSh_set S2 e41
        have F43 := zW_setA F e41 (by omega)
        have A44 : uT2 (ez_I h40 116) (fun l => ncN (nL (ez_I h u)) n.toInt.toNat l + ctN (nL (ez_I h u)) l k.toInt.toNat) 17 := by rw [zI_fn e41 116 (by omega)]; exact A_nx
        have A45 : wdI (ez_I h40 w) (nL (ez_I h u)) n.toInt.toNat k.toInt.toNat := wd_o A_wd e41 (by omega)
        have A46 : (ez_I h40 w k.toInt.toNat).toInt = ((rvN (cwN (nL (ez_I h u)) n.toInt.toNat k.toInt.toNat) (j.toInt.toNat + 1) * 2 ^ (((nL (ez_I h u)) k.toInt.toNat) - (j.toInt.toNat + 1)) : Nat) : Int) := (by rw [show k.toInt.toNat = k.toInt.toNat by omega, zI_eq e41]; exact hst)
        refine z_inc rfl (by rw [show (1 : Int32).toInt = 1 from rfl]; omega) (fun x47 ex47 => ?_)
        rw [show (1 : Int32).toInt = 1 from rfl] at ex47
        show ez_gw _ _ _ _ _ _ _ _ [some (.ref 71), some (.ref u), some (.int n), some (.ref w), some (.int co), some (.int k), some (.int x47)] _ _ _
        refine z_go ?_
        exact ih.2 h40 co k x47 F43 (by omega) A44 (A45) ((by rw [show x47.toInt.toNat = j.toInt.toNat + 1 by omega]; exact A46)) (by omega)
set_option maxRecDepth 4000 in
set_option maxHeartbeats 2000000 in
theorem d_cds_L2 {E : Nat → Nat × (Nat → Int32)} {d : Nat} {Q : ez_Q} {h : ez_H} {u : Nat} {n : Int32} {w : Nat} (S : zSh h) {nu nw : Nat} (hu : zA u nu) (hw : zA w nw) (hd : u ≠ 71 ∧ u ≠ 115 ∧ u ≠ 116 ∧ w ≠ 71 ∧ w ≠ 115 ∧ w ≠ 116 ∧ u ≠ w) (hn : 1 ≤ n.toInt ∧ n.toInt ≤ nu ∧ n.toInt ≤ nw ∧ nu ≤ 1000 ∧ nw ≤ 1000 ∧ n.toInt ≤ 288) (hL : aR (ez_I h u) n.toInt.toNat 0 15) (K : ∀ h2, zW (fun _ _ => False) (fun q => q = 115 ∨ q = 116 ∨ q = w) (fun _ => False) h h2 → wdI (ez_I h2 w) (nL (ez_I h u)) n.toInt.toNat n.toInt.toNat → Q (.inl none) h2) : ∀ N : Nat, (∀ (h2 : ez_H) (co : Int32) (l : Int32) (l6 : Option Value) , zW (fun _ _ => False) (fun q => q = 115 ∨ q = 116 ∨ q = w) (fun _ => False) h h2 → (1 ≤ l.toInt ∧ l.toInt ≤ 17 ∧ co.toInt = (ncN (nL (ez_I h u)) n.toInt.toNat l.toInt.toNat : Nat)) → (ctM (ez_I h2 115) (nL (ez_I h u)) n.toInt.toNat) → (uT2 (ez_I h2 116) (fun l => ncN (nL (ez_I h u)) n.toInt.toNat l) l.toInt.toNat) → (100 - l.toInt) < (N : Int) → pw E d 37 69 [some (.ref 71), some (.ref u), some (.int n), some (.ref w), some (.int co), some (.int l), l6] [] h2 Q) := by
  intro N
  induction N with
  | zero => exact fun h2 co l l6  F hinv A_ct A_nc hm => absurd hm (by have w_co := z_rng co; have w_l := z_rng l; have gn := z_rng n; omega)
  | succ N ih =>
    refine fun h2 co l l6  F hinv A_ct A_nc hm => ?_
    · skip
      have w_co := z_rng co
      have w_l := z_rng l
      have gn := z_rng n
      have S2 := zW_sh F S
      have hnb := ncN_b2 (L := (nL (ez_I h u))) (N := n.toInt.toNat) (l := l.toInt.toNat) (by omega) (by omega)
      have hns := ncN_s (L := (nL (ez_I h u))) (N := n.toInt.toNat) (l := l.toInt.toNat) (by omega)
      have hcl := ctN_le (nL (ez_I h u)) l.toInt.toNat n.toInt.toNat
      apply ez_Wp_in
      show ez_gw _ _ _ _ _ _ (cz_37) _ _ _ _ _
      refine gw_skip _ ?_
      refine gw_ld rfl rfl ?_
      refine z_C (m := 17) rfl rfl (fun x1 ex1 => ?_)
      refine z_b2 (fun c2 => ?_) (fun c2 => ?_)
      · have c2 : x1.toInt ≤ l.toInt := c2
        refine gw_skip _ ?_
        refine z_C (m := 0) rfl rfl (fun x3 ex3 => ?_)
        refine gw_st rfl rfl rfl ?_
        show ez_gw _ _ _ _ _ _ _ _ [some (.ref 71), some (.ref u), some (.int n), some (.ref w), some (.int co), some (.int x3), l6] _ _ _
        exact ez_Wp_at ((d_cds_L3 (u := u) (n := n) (w := w) S hu hw hd hn hL K (((100 * (1000 - x3.toInt))).toNat + 1)).1 h2 co x3 (l6) F (by omega) ((by rw [show x3.toInt.toNat = 0 by omega, show (17 : Nat) = l.toInt.toNat by omega]; exact uT2_c A_nc (fun l _ => rfl))) ((by rw [show x3.toInt.toNat = 0 by omega]; exact fun i hi => by omega)) (by omega)) rfl
      · have c2 : ¬ (x1.toInt ≤ l.toInt) := c2
        refine gw_ld rfl rfl ?_
        refine z_gR (q := 116) (zT S2 (by decide) rfl) (zRf S2 (by decide) (by decide) rfl) (by decide) ?_
        refine gw_ld rfl rfl ?_
        refine gw_ld rfl rfl ?_
        refine z_is (n := 17) (zT S2 (by decide) rfl) (zN S2 (by decide) rfl) (by omega) (fun h4 e5 => ?_)
        have S6 := zSh_set S2 e5
        have F7 := zW_setA F e5 (by omega)
        have A8 : ctM (ez_I h4 115) (nL (ez_I h u)) n.toInt.toNat := by rw [zI_fn e5 115 (by decide)]; exact A_ct
        have A9 : uT2 (ez_I h4 116) (fun l => ncN (nL (ez_I h u)) n.toInt.toNat l) (l.toInt.toNat + 1) := uT2_s A_nc e5 (by omega) (by omega) rfl
        refine gw_ld rfl rfl ?_
        refine gw_ld rfl rfl ?_
        refine z_gR (q := 115) (zT S6 (by decide) rfl) (zRf S6 (by decide) (by decide) rfl) (by decide) ?_
        refine gw_ld rfl rfl ?_
        refine z_ia (n := 17) (zT S6 (by decide) rfl) (zN S6 (by decide) rfl) (by omega) ?_
        generalize ex10 : ez_I h4 115 l.toInt.toNat = x10
        have rx10 := z_rng x10
        have yx10 := A8.2 l.toInt.toNat (by omega) (by omega)
        rw [show l.toInt.toNat = l.toInt.toNat by omega, ex10] at yx10
        rw [show l.toInt.toNat = l.toInt.toNat by omega] at yx10
        refine z_add (by omega) (fun x11 ex11 => ?_)
        refine z_C (m := 1) rfl rfl (fun x12 ex12 => ?_)
        refine z_2 rfl (fun x13 ex13 => ?_)
        have rx13 := z_rng x13
        have vx13 := n_shl (n := 1) (by omega) (by decide) (by omega) (by omega) ex13
        rw [show (2 : Int) ^ 1 = 2 from rfl] at vx13
        refine gw_st rfl rfl rfl ?_
        show ez_gw _ _ _ _ _ _ _ _ [some (.ref 71), some (.ref u), some (.int n), some (.ref w), some (.int x13), some (.int l), l6] _ _ _
        refine z_inc rfl (by rw [show (1 : Int32).toInt = 1 from rfl]; omega) (fun x14 ex14 => ?_)
        rw [show (1 : Int32).toInt = 1 from rfl] at ex14
        show ez_gw _ _ _ _ _ _ _ _ [some (.ref 71), some (.ref u), some (.int n), some (.ref w), some (.int x13), some (.int x14), l6] _ _ _
        refine z_go ?_
        exact ih h4 x13 x14 (l6) F7 (⟨by omega, by omega, by rw [show x14.toInt.toNat = l.toInt.toNat + 1 by omega]; omega⟩) (A8) ((by rw [show x14.toInt.toNat = l.toInt.toNat + 1 by omega]; exact A9)) (by omega)
set_option maxRecDepth 4000 in
set_option maxHeartbeats 2000000 in
theorem d_cds_L1 {E : Nat → Nat × (Nat → Int32)} {d : Nat} {Q : ez_Q} {h : ez_H} {u : Nat} {n : Int32} {w : Nat} (S : zSh h) {nu nw : Nat} (hu : zA u nu) (hw : zA w nw) (hd : u ≠ 71 ∧ u ≠ 115 ∧ u ≠ 116 ∧ w ≠ 71 ∧ w ≠ 115 ∧ w ≠ 116 ∧ u ≠ w) (hn : 1 ≤ n.toInt ∧ n.toInt ≤ nu ∧ n.toInt ≤ nw ∧ nu ≤ 1000 ∧ nw ≤ 1000 ∧ n.toInt ≤ 288) (hL : aR (ez_I h u) n.toInt.toNat 0 15) (K : ∀ h2, zW (fun _ _ => False) (fun q => q = 115 ∨ q = 116 ∨ q = w) (fun _ => False) h h2 → wdI (ez_I h2 w) (nL (ez_I h u)) n.toInt.toNat n.toInt.toNat → Q (.inl none) h2) : ∀ N : Nat, (∀ (h2 : ez_H) (k : Int32) (l5 : Option Value) (l6 : Option Value) , zW (fun _ _ => False) (fun q => q = 115 ∨ q = 116 ∨ q = w) (fun _ => False) h h2 → (0 ≤ k.toInt ∧ k.toInt ≤ n.toInt) → (ctM (ez_I h2 115) (nL (ez_I h u)) k.toInt.toNat) → (1000 - k.toInt) < (N : Int) → pw E d 37 27 [some (.ref 71), some (.ref u), some (.int n), some (.ref w), some (.int k), l5, l6] [] h2 Q) := by
  intro N
  induction N with
  | zero => exact fun h2 k l5 l6  F hinv A_ct hm => absurd hm (by have w_k := z_rng k; have gn := z_rng n; omega)
  | succ N ih =>
    refine fun h2 k l5 l6  F hinv A_ct hm => ?_
    · skip
      have w_k := z_rng k
      have gn := z_rng n
      have S2 := zW_sh F S
      apply ez_Wp_in
      show ez_gw _ _ _ _ _ _ (cz_37) _ _ _ _ _
      refine gw_skip _ ?_
      refine gw_ld rfl rfl ?_
      refine gw_ld rfl rfl ?_
      refine z_b2 (fun c1 => ?_) (fun c1 => ?_)
      · have c1 : n.toInt ≤ k.toInt := c1
        refine gw_skip _ ?_
        refine z_C (m := 0) rfl rfl (fun x2 ex2 => ?_)
        refine gw_st rfl rfl rfl ?_
        show ez_gw _ _ _ _ _ _ _ _ [some (.ref 71), some (.ref u), some (.int n), some (.ref w), some (.int x2), l5, l6] _ _ _
        refine z_C (m := 1) rfl rfl (fun x3 ex3 => ?_)
        refine gw_st rfl rfl rfl ?_
        show ez_gw _ _ _ _ _ _ _ _ [some (.ref 71), some (.ref u), some (.int n), some (.ref w), some (.int x2), some (.int x3), l6] _ _ _
        exact ez_Wp_at ((d_cds_L2 (u := u) (n := n) (w := w) S hu hw hd hn hL K (((100 - x3.toInt)).toNat + 1)) h2 x2 x3 (l6) F (⟨by omega, by omega, by rw [show x3.toInt.toNat = 1 by omega]; show _ = ((0 : Nat) : Int); omega⟩) ((by rw [show n.toInt.toNat = k.toInt.toNat by omega]; exact A_ct)) ((by rw [show x3.toInt.toNat = 1 by omega]; exact uT2_0 _ _)) (by omega)) rfl
      · have c1 : ¬ (n.toInt ≤ k.toInt) := c1
        refine gw_ld rfl rfl ?_
        refine z_gR (q := 115) (zT S2 (by decide) rfl) (zRf S2 (by decide) (by decide) rfl) (by decide) ?_
        refine gw_ld rfl rfl ?_
        refine gw_ld rfl rfl ?_
        refine z_iaV (n := nu) ((hu _ S2).1) ((hu _ S2).2) (by omega) (zW_f F (by omega) (fun c => c)) ?_
        generalize ex4 : ez_I h u k.toInt.toNat = x4
        have rx4 := z_rng x4
        have yx4 := hL k.toInt.toNat (by omega)
        rw [ex4] at yx4
        have ylx4 : ((nL (ez_I h u)) k.toInt.toNat) = x4.toInt.toNat := by show (ez_I h u k.toInt.toNat).toInt.toNat = _; rw [show k.toInt.toNat = k.toInt.toNat by omega, ex4]
        refine gw_op rfl ?_
        refine z_ia (n := 17) (zT S2 (by decide) rfl) (zN S2 (by decide) rfl) (by omega) ?_
        generalize ex5 : ez_I h2 115 x4.toInt.toNat = x5
        have rx5 := z_rng x5
        have yx5 := ctM_rng (l := x4.toInt.toNat) A_ct (by omega)
        rw [ex5] at yx5
        refine gw_ld rfl rfl ?_
        refine gw_ld rfl rfl ?_
        refine z_iaV (n := nu) ((hu _ S2).1) ((hu _ S2).2) (by omega) ((zW_f F (by omega) (fun c => c)).trans ex4) ?_
        refine z_b1 (fun c7 => ?_) (fun c7 => ?_)
        · have c7 : x4.toInt ≤ 0 := c7
          refine gw_skip _ ?_
          refine z_C (m := 0) rfl rfl (fun x8 ex8 => ?_)
          refine z_add (by omega) (fun x9 ex9 => ?_)
          refine z_is (n := 17) (zT S2 (by decide) rfl) (zN S2 (by decide) rfl) (by omega) (fun h10 e11 => ?_)
          have S12 := zSh_set S2 e11
          have F13 := zW_setA F e11 (by omega)
          have A14 : ctM (ez_I h10 115) (nL (ez_I h u)) (k.toInt.toNat + 1) := ctM_w A_ct e11 (by omega) (by omega) ex5 (by omega) rfl
          refine z_inc rfl (by rw [show (1 : Int32).toInt = 1 from rfl]; omega) (fun x15 ex15 => ?_)
          rw [show (1 : Int32).toInt = 1 from rfl] at ex15
          show ez_gw _ _ _ _ _ _ _ _ [some (.ref 71), some (.ref u), some (.int n), some (.ref w), some (.int x15), l5, l6] _ _ _
          refine z_go ?_
          exact ih h10 x15 (l5) (l6) F13 (by omega) ((by rw [show x15.toInt.toNat = k.toInt.toNat + 1 by omega]; exact A14)) (by omega)
        · have c7 : ¬ (x4.toInt ≤ 0) := c7
          refine z_C (m := 1) rfl rfl (fun x16 ex16 => ?_)
          refine z_go ?_
          refine gw_skip _ ?_
          refine z_add (by omega) (fun x17 ex17 => ?_)
          refine z_is (n := 17) (zT S2 (by decide) rfl) (zN S2 (by decide) rfl) (by omega) (fun h18 e19 => ?_)
          have S20 := zSh_set S2 e19
          have F21 := zW_setA F e19 (by omega)
          have A22 : ctM (ez_I h18 115) (nL (ez_I h u)) (k.toInt.toNat + 1) := ctM_y A_ct e19 (by omega) (by omega) ex5 (by omega) rfl
          refine z_inc rfl (by rw [show (1 : Int32).toInt = 1 from rfl]; omega) (fun x23 ex23 => ?_)
          rw [show (1 : Int32).toInt = 1 from rfl] at ex23
          show ez_gw _ _ _ _ _ _ _ _ [some (.ref 71), some (.ref u), some (.int n), some (.ref w), some (.int x23), l5, l6] _ _ _
          refine z_go ?_
          exact ih h18 x23 (l5) (l6) F21 (by omega) ((by rw [show x23.toInt.toNat = k.toInt.toNat + 1 by omega]; exact A22)) (by omega)
set_option maxRecDepth 4000 in
set_option maxHeartbeats 2000000 in
theorem d_cds_L0 {E : Nat → Nat × (Nat → Int32)} {d : Nat} {Q : ez_Q} {h : ez_H} {u : Nat} {n : Int32} {w : Nat} (S : zSh h) {nu nw : Nat} (hu : zA u nu) (hw : zA w nw) (hd : u ≠ 71 ∧ u ≠ 115 ∧ u ≠ 116 ∧ w ≠ 71 ∧ w ≠ 115 ∧ w ≠ 116 ∧ u ≠ w) (hn : 1 ≤ n.toInt ∧ n.toInt ≤ nu ∧ n.toInt ≤ nw ∧ nu ≤ 1000 ∧ nw ≤ 1000 ∧ n.toInt ≤ 288) (hL : aR (ez_I h u) n.toInt.toNat 0 15) (K : ∀ h2, zW (fun _ _ => False) (fun q => q = 115 ∨ q = 116 ∨ q = w) (fun _ => False) h h2 → wdI (ez_I h2 w) (nL (ez_I h u)) n.toInt.toNat n.toInt.toNat → Q (.inl none) h2) : ∀ N : Nat, (∀ (h2 : ez_H) (k : Int32) (l5 : Option Value) (l6 : Option Value) , zW (fun _ _ => False) (fun q => q = 115 ∨ q = 116 ∨ q = w) (fun _ => False) h h2 → (0 ≤ k.toInt ∧ k.toInt ≤ 17) → (∀ j, j < k.toInt.toNat → (ez_I h2 115 j).toInt = 0) → (100 - k.toInt) < (N : Int) → pw E d 37 3 [some (.ref 71), some (.ref u), some (.int n), some (.ref w), some (.int k), l5, l6] [] h2 Q) := by
  intro N
  induction N with
  | zero => exact fun h2 k l5 l6  F hinv A_z hm => absurd hm (by have w_k := z_rng k; have gn := z_rng n; omega)
  | succ N ih =>
    refine fun h2 k l5 l6  F hinv A_z hm => ?_
    · skip
      have w_k := z_rng k
      have gn := z_rng n
      have S2 := zW_sh F S
      apply ez_Wp_in
      show ez_gw _ _ _ _ _ _ (cz_37) _ _ _ _ _
      refine gw_skip _ ?_
      refine gw_ld rfl rfl ?_
      refine z_C (m := 17) rfl rfl (fun x1 ex1 => ?_)
      refine z_b2 (fun c2 => ?_) (fun c2 => ?_)
      · have c2 : x1.toInt ≤ k.toInt := c2
        refine gw_skip _ ?_
        refine z_C (m := 0) rfl rfl (fun x3 ex3 => ?_)
        refine gw_st rfl rfl rfl ?_
        show ez_gw _ _ _ _ _ _ _ _ [some (.ref 71), some (.ref u), some (.int n), some (.ref w), some (.int x3), l5, l6] _ _ _
        exact ez_Wp_at ((d_cds_L1 (u := u) (n := n) (w := w) S hu hw hd hn hL K (((1000 - x3.toInt)).toNat + 1)) h2 x3 (l5) (l6) F (by omega) ((by rw [show x3.toInt.toNat = 0 by omega]; exact ctM_a (fun j hj => by have := A_z j (by omega); omega))) (by omega)) rfl
      · have c2 : ¬ (x1.toInt ≤ k.toInt) := c2
        refine gw_ld rfl rfl ?_
        refine z_gR (q := 115) (zT S2 (by decide) rfl) (zRf S2 (by decide) (by decide) rfl) (by decide) ?_
        refine gw_ld rfl rfl ?_
        refine z_C (m := 0) rfl rfl (fun x4 ex4 => ?_)
        refine z_is (n := 17) (zT S2 (by decide) rfl) (zN S2 (by decide) rfl) (by omega) (fun h5 e6 => ?_)
        have S7 := zSh_set S2 e6
        have F8 := zW_setA F e6 (by omega)
        have A9 : ∀ j, j < k.toInt.toNat + 1 → (ez_I h5 115 j).toInt = 0 := z0_s A_z e6 (by omega) (by omega) rfl
        refine z_inc rfl (by rw [show (1 : Int32).toInt = 1 from rfl]; omega) (fun x10 ex10 => ?_)
        rw [show (1 : Int32).toInt = 1 from rfl] at ex10
        show ez_gw _ _ _ _ _ _ _ _ [some (.ref 71), some (.ref u), some (.int n), some (.ref w), some (.int x10), l5, l6] _ _ _
        refine z_go ?_
        exact ih h5 x10 (l5) (l6) F8 (by omega) ((by rw [show x10.toInt.toNat = k.toInt.toNat + 1 by omega]; exact A9)) (by omega)
set_option maxRecDepth 4000 in
set_option maxHeartbeats 2000000 in
theorem d_cds {E : Nat → Nat × (Nat → Int32)} {d : Nat} {Q : ez_Q} {h : ez_H} {u : Nat} {n : Int32} {w : Nat} (S : zSh h) {nu nw : Nat} (hu : zA u nu) (hw : zA w nw) (hd : u ≠ 71 ∧ u ≠ 115 ∧ u ≠ 116 ∧ w ≠ 71 ∧ w ≠ 115 ∧ w ≠ 116 ∧ u ≠ w) (hn : 1 ≤ n.toInt ∧ n.toInt ≤ nu ∧ n.toInt ≤ nw ∧ nu ≤ 1000 ∧ nw ≤ 1000 ∧ n.toInt ≤ 288) (hL : aR (ez_I h u) n.toInt.toNat 0 15) (K : ∀ h2, zW (fun _ _ => False) (fun q => q = 115 ∨ q = 116 ∨ q = w) (fun _ => False) h h2 → wdI (ez_I h2 w) (nL (ez_I h u)) n.toInt.toNat n.toInt.toNat → Q (.inl none) h2) : pw E d 37 0 [some (.ref 71), some (.ref u), some (.int n), some (.ref w), none, none, none] [] h Q := by
  have gn := z_rng n
  have F := zW_refl (fun _ _ => False) (fun q => q = 115 ∨ q = 116 ∨ q = w) (fun _ => False) h
  apply ez_Wp_in
  show ez_gw _ _ _ _ _ _ (cz_37) _ _ _ _ _
  refine gw_skip _ ?_
  refine z_C (m := 0) rfl rfl (fun x1 ex1 => ?_)
  refine gw_st rfl rfl rfl ?_
  show ez_gw _ _ _ _ _ _ _ _ [some (.ref 71), some (.ref u), some (.int n), some (.ref w), some (.int x1), none, none] _ _ _
  exact ez_Wp_at ((d_cds_L0 (u := u) (n := n) (w := w) S hu hw hd hn hL K (((100 - x1.toInt)).toNat + 1)) h x1 (none) (none) F (by omega) ((fun j hj => by omega)) (by omega)) rfl
/-! PRINTED: costs -/
set_option maxRecDepth 4000 in
set_option maxHeartbeats 2000000 in
theorem d_cost_L1 {E : Nat → Nat × (Nat → Int32)} {d : Nat} {Q : ez_Q} {h : ez_H} {u : Nat} {w : Nat} (S : zSh h) {nu nw : Nat} {cl cd : Nat → Nat} (hu : zA u nu) (hw : zA w nw) (hn : 286 ≤ nu ∧ nu ≤ 1000 ∧ 30 ≤ nw ∧ nw ≤ 1000) (hcl : ctI (ez_I h 97) cl 286) (hcd : ctI (ez_I h 98) cd 30) (hbl : ∀ s, cl s ≤ 601) (hbd : ∀ s, cd s ≤ 601) (hU : aR (ez_I h u) 286 0 15) (hW : aR (ez_I h w) 30 0 15) (t93 : ctI (ez_I h 93) LEf 29) (t95 : ctI (ez_I h 95) DEf 30) (K : ∀ x : Int64, x.toInt = (sN (fun i => cl i * ((nL (ez_I h u)) i + exL i)) 286 : Nat) + (sN (fun i => cd i * ((nL (ez_I h w)) i + DEf i)) 30 : Nat) → Q (.inl (some (.long x))) h) : ∀ N : Nat, (∀ (h2 : ez_H) (sm : Int64) (k : Int32) , zW (fun _ _ => False) (fun _ => False) (fun _ => False) h h2 → (0 ≤ k.toInt ∧ k.toInt ≤ 30 ∧ sm.toInt = (sN (fun i => cl i * ((nL (ez_I h u)) i + exL i)) 286 : Nat) + (sN (fun i => cd i * ((nL (ez_I h w)) i + DEf i)) k.toInt.toNat : Nat) ∧ sm.toInt ≤ 6875440 + 24040 * k.toInt ∧ 0 ≤ sm.toInt) → (1000 - k.toInt) < (N : Int) → pw E d 39 63 [some (.ref 71), some (.ref u), some (.ref w), some (.long sm), none, some (.int k)] [] h2 Q) := by
  intro N
  induction N with
  | zero => exact fun h2 sm k  F hinv  hm => absurd hm (by have w_k := z_rng k; omega)
  | succ N ih =>
    refine fun h2 sm k  F hinv  hm => ?_
    · skip
      have w_k := z_rng k
      have S2 := zW_sh F S
      have hse : sN (fun i => cd i * ((nL (ez_I h w)) i + DEf i)) (k.toInt.toNat + 1) = sN (fun i => cd i * ((nL (ez_I h w)) i + DEf i)) k.toInt.toNat + cd k.toInt.toNat * ((nL (ez_I h w)) k.toInt.toNat + DEf k.toInt.toNat) := rfl
      apply ez_Wp_in
      show ez_gw _ _ _ _ _ _ (cz_39) _ _ _ _ _
      refine gw_skip _ ?_
      refine gw_ld rfl rfl ?_
      refine z_C (m := 30) rfl rfl (fun x1 ex1 => ?_)
      refine z_b2 (fun c2 => ?_) (fun c2 => ?_)
      · have c2 : x1.toInt ≤ k.toInt := c2
        refine gw_skip _ ?_
        refine gw_ld rfl rfl ?_
        refine z_rl ?_
        exact zW_Q F (K _ (by rw [show (30 : Nat) = k.toInt.toNat by omega]; omega))
      · have c2 : ¬ (x1.toInt ≤ k.toInt) := c2
        refine gw_ld rfl rfl ?_
        refine gw_ld rfl rfl ?_
        refine z_gR (q := 98) (zT S2 (by decide) rfl) (zRf S2 (by decide) (by decide) rfl) (by decide) ?_
        refine gw_ld rfl rfl ?_
        refine z_iaV (n := 30) (zT S2 (by decide) rfl) (zN S2 (by decide) rfl) (by omega) (zW_f F (fun c => c) (fun c => c)) ?_
        generalize ex3 : ez_I h 98 k.toInt.toNat = x3
        have rx3 := z_rng x3
        have yx3 := hcd k.toInt.toNat (by omega)
        rw [ex3, show k.toInt.toNat = k.toInt.toNat by omega] at yx3
        have ybx3 := hbd k.toInt.toNat
        refine z_i2l (fun lg4 elg4 => ?_)
        refine gw_ld rfl rfl ?_
        refine gw_ld rfl rfl ?_
        refine z_iaV (n := nw) ((hw _ S2).1) ((hw _ S2).2) (by omega) (zW_f F (fun c => c) (fun c => c)) ?_
        generalize ex5 : ez_I h w k.toInt.toNat = x5
        have rx5 := z_rng x5
        have yx5 := hW k.toInt.toNat (by omega)
        rw [ex5] at yx5
        have ylx5 : (nL (ez_I h w)) k.toInt.toNat = x5.toInt.toNat := by show (ez_I h w k.toInt.toNat).toInt.toNat = _; rw [show k.toInt.toNat = k.toInt.toNat by omega, ex5]
        refine gw_ld rfl rfl ?_
        refine z_gR (q := 95) (zT S2 (by decide) rfl) (zRf S2 (by decide) (by decide) rfl) (by decide) ?_
        refine gw_ld rfl rfl ?_
        refine z_iaV (n := 30) (zT S2 (by decide) rfl) (zN S2 (by decide) rfl) (by omega) (zW_f F (fun c => c) (fun c => c)) ?_
        generalize ex6 : ez_I h 95 k.toInt.toNat = x6
        have rx6 := z_rng x6
        have yx6 := t95 k.toInt.toNat (by omega)
        rw [ex6, show k.toInt.toNat = k.toInt.toNat by omega] at yx6
        have y13 := DE_13 k.toInt.toNat
        refine z_add (by omega) (fun x7 ex7 => ?_)
        refine z_i2l (fun lg8 elg8 => ?_)
        refine z_lmul (B := 24040) (by omega) (by omega) (fun p10 ep10 np10 mp10 lg9 elg9 => ?_) (fun p hp => by rw [hp]; exact (mulB (a := 601) (b := 40) (c := 24040) (by omega) (by omega) (by decide)).2)
        have hpv : p10 = ((cd k.toInt.toNat * ((nL (ez_I h w)) k.toInt.toNat + DEf k.toInt.toNat) : Nat) : Int) := by rw [ep10, Int.natCast_mul, show lg4.toInt = ((cd k.toInt.toNat : Nat) : Int) by omega, show lg8.toInt = (((nL (ez_I h w)) k.toInt.toNat + DEf k.toInt.toNat : Nat) : Int) by omega]
        refine z_ladd (by omega) (fun lg11 elg11 => ?_)
        refine gw_st rfl rfl rfl ?_
        show ez_gw _ _ _ _ _ _ _ _ [some (.ref 71), some (.ref u), some (.ref w), some (.long lg11), none, some (.int k)] _ _ _
        refine z_inc rfl (by rw [show (1 : Int32).toInt = 1 from rfl]; omega) (fun x12 ex12 => ?_)
        rw [show (1 : Int32).toInt = 1 from rfl] at ex12
        show ez_gw _ _ _ _ _ _ _ _ [some (.ref 71), some (.ref u), some (.ref w), some (.long lg11), none, some (.int x12)] _ _ _
        refine z_go ?_
        exact ih h2 lg11 x12 F (⟨by omega, by omega, by rw [show x12.toInt.toNat = k.toInt.toNat + 1 by omega, hse]; omega, by omega, by omega⟩)  (by omega)
set_option maxRecDepth 4000 in
set_option maxHeartbeats 2000000 in
theorem d_cost_L0 {E : Nat → Nat × (Nat → Int32)} {d : Nat} {Q : ez_Q} {h : ez_H} {u : Nat} {w : Nat} (S : zSh h) {nu nw : Nat} {cl cd : Nat → Nat} (hu : zA u nu) (hw : zA w nw) (hn : 286 ≤ nu ∧ nu ≤ 1000 ∧ 30 ≤ nw ∧ nw ≤ 1000) (hcl : ctI (ez_I h 97) cl 286) (hcd : ctI (ez_I h 98) cd 30) (hbl : ∀ s, cl s ≤ 601) (hbd : ∀ s, cd s ≤ 601) (hU : aR (ez_I h u) 286 0 15) (hW : aR (ez_I h w) 30 0 15) (t93 : ctI (ez_I h 93) LEf 29) (t95 : ctI (ez_I h 95) DEf 30) (K : ∀ x : Int64, x.toInt = (sN (fun i => cl i * ((nL (ez_I h u)) i + exL i)) 286 : Nat) + (sN (fun i => cd i * ((nL (ez_I h w)) i + DEf i)) 30 : Nat) → Q (.inl (some (.long x))) h) : ∀ N : Nat, (∀ (h2 : ez_H) (sm : Int64) (k : Int32) , zW (fun _ _ => False) (fun _ => False) (fun _ => False) h h2 → (0 ≤ k.toInt ∧ k.toInt ≤ 286 ∧ sm.toInt = (sN (fun i => cl i * ((nL (ez_I h u)) i + exL i)) k.toInt.toNat : Nat) ∧ sm.toInt ≤ 24040 * k.toInt ∧ 0 ≤ sm.toInt) → (1000 - k.toInt) < (N : Int) → pw E d 39 5 [some (.ref 71), some (.ref u), some (.ref w), some (.long sm), none, some (.int k)] [] h2 Q) := by
  intro N
  induction N with
  | zero => exact fun h2 sm k  F hinv  hm => absurd hm (by have w_k := z_rng k; omega)
  | succ N ih =>
    refine fun h2 sm k  F hinv  hm => ?_
    · skip
      have w_k := z_rng k
      have S2 := zW_sh F S
      have hse : sN (fun i => cl i * ((nL (ez_I h u)) i + exL i)) (k.toInt.toNat + 1) = sN (fun i => cl i * ((nL (ez_I h u)) i + exL i)) k.toInt.toNat + cl k.toInt.toNat * ((nL (ez_I h u)) k.toInt.toNat + exL k.toInt.toNat) := rfl
      apply ez_Wp_in
      show ez_gw _ _ _ _ _ _ (cz_39) _ _ _ _ _
      refine gw_skip _ ?_
      refine gw_ld rfl rfl ?_
      refine z_C (m := 286) rfl rfl (fun x1 ex1 => ?_)
      refine z_b2 (fun c2 => ?_) (fun c2 => ?_)
      · have c2 : x1.toInt ≤ k.toInt := c2
        refine gw_skip _ ?_
        refine z_C (m := 0) rfl rfl (fun x3 ex3 => ?_)
        refine gw_st rfl rfl rfl ?_
        show ez_gw _ _ _ _ _ _ _ _ [some (.ref 71), some (.ref u), some (.ref w), some (.long sm), none, some (.int x3)] _ _ _
        exact ez_Wp_at ((d_cost_L1 (u := u) (w := w) S hu hw hn hcl hcd hbl hbd hU hW t93 t95 K (((1000 - x3.toInt)).toNat + 1)) h2 sm x3 F (⟨by omega, by omega, by rw [show x3.toInt.toNat = 0 by omega, show (286 : Nat) = k.toInt.toNat by omega]; show _ = _ + ((0 : Nat) : Int); omega, by omega, by omega⟩)  (by omega)) rfl
      · have c2 : ¬ (x1.toInt ≤ k.toInt) := c2
        refine gw_ld rfl rfl ?_
        refine gw_ld rfl rfl ?_
        refine z_gR (q := 97) (zT S2 (by decide) rfl) (zRf S2 (by decide) (by decide) rfl) (by decide) ?_
        refine gw_ld rfl rfl ?_
        refine z_iaV (n := 288) (zT S2 (by decide) rfl) (zN S2 (by decide) rfl) (by omega) (zW_f F (fun c => c) (fun c => c)) ?_
        generalize ex4 : ez_I h 97 k.toInt.toNat = x4
        have rx4 := z_rng x4
        have yx4 := hcl k.toInt.toNat (by omega)
        rw [ex4, show k.toInt.toNat = k.toInt.toNat by omega] at yx4
        have ybx4 := hbl k.toInt.toNat
        refine z_i2l (fun lg5 elg5 => ?_)
        refine gw_ld rfl rfl ?_
        refine gw_ld rfl rfl ?_
        refine z_iaV (n := nu) ((hu _ S2).1) ((hu _ S2).2) (by omega) (zW_f F (fun c => c) (fun c => c)) ?_
        generalize ex6 : ez_I h u k.toInt.toNat = x6
        have rx6 := z_rng x6
        have yx6 := hU k.toInt.toNat (by omega)
        rw [ex6] at yx6
        have ylx6 : (nL (ez_I h u)) k.toInt.toNat = x6.toInt.toNat := by show (ez_I h u k.toInt.toNat).toInt.toNat = _; rw [show k.toInt.toNat = k.toInt.toNat by omega, ex6]
        refine gw_ld rfl rfl ?_
        refine z_C (m := 256) rfl rfl (fun x7 ex7 => ?_)
        refine z_b2 (fun c8 => ?_) (fun c8 => ?_)
        · have c8 : k.toInt ≤ x7.toInt := c8
          refine gw_skip _ ?_
          have yx : exL k.toInt.toNat = 0 := by unfold exL; rw [if_neg (by omega)]
          refine z_C (m := 0) rfl rfl (fun x9 ex9 => ?_)
          refine z_add (by omega) (fun x10 ex10 => ?_)
          refine z_i2l (fun lg11 elg11 => ?_)
          refine z_lmul (B := 24040) (by omega) (by omega) (fun p13 ep13 np13 mp13 lg12 elg12 => ?_) (fun p hp => by rw [hp]; exact (mulB (a := 601) (b := 40) (c := 24040) (by omega) (by omega) (by decide)).2)
          have hpv : p13 = ((cl k.toInt.toNat * ((nL (ez_I h u)) k.toInt.toNat + exL k.toInt.toNat) : Nat) : Int) := by rw [ep13, Int.natCast_mul, show lg5.toInt = ((cl k.toInt.toNat : Nat) : Int) by omega, show lg11.toInt = (((nL (ez_I h u)) k.toInt.toNat + exL k.toInt.toNat : Nat) : Int) by omega]
          refine z_ladd (by omega) (fun lg14 elg14 => ?_)
          refine gw_st rfl rfl rfl ?_
          show ez_gw _ _ _ _ _ _ _ _ [some (.ref 71), some (.ref u), some (.ref w), some (.long lg14), none, some (.int k)] _ _ _
          refine z_inc rfl (by rw [show (1 : Int32).toInt = 1 from rfl]; omega) (fun x15 ex15 => ?_)
          rw [show (1 : Int32).toInt = 1 from rfl] at ex15
          show ez_gw _ _ _ _ _ _ _ _ [some (.ref 71), some (.ref u), some (.ref w), some (.long lg14), none, some (.int x15)] _ _ _
          refine z_go ?_
          exact ih h2 lg14 x15 F (⟨by omega, by omega, by rw [show x15.toInt.toNat = k.toInt.toNat + 1 by omega, hse]; omega, by omega, by omega⟩)  (by omega)
        · have c8 : ¬ (k.toInt ≤ x7.toInt) := c8
          refine gw_ld rfl rfl ?_
          refine z_gR (q := 93) (zT S2 (by decide) rfl) (zRf S2 (by decide) (by decide) rfl) (by decide) ?_
          refine gw_ld rfl rfl ?_
          refine z_C (m := 257) rfl rfl (fun x16 ex16 => ?_)
          refine z_sub (by omega) (fun x17 ex17 => ?_)
          refine z_iaV (n := 29) (zT S2 (by decide) rfl) (zN S2 (by decide) rfl) (by omega) (zW_f F (fun c => c) (fun c => c)) ?_
          generalize ex18 : ez_I h 93 x17.toInt.toNat = x18
          have rx18 := z_rng x18
          have yx18 := t93 x17.toInt.toNat (by omega)
          rw [ex18] at yx18
          have yx : exL k.toInt.toNat = LEf x17.toInt.toNat := by unfold exL; rw [if_pos (by omega), show k.toInt.toNat - 257 = x17.toInt.toNat by omega]
          have y5 := LE_5 x17.toInt.toNat
          refine z_go ?_
          refine gw_skip _ ?_
          refine z_add (by omega) (fun x19 ex19 => ?_)
          refine z_i2l (fun lg20 elg20 => ?_)
          refine z_lmul (B := 24040) (by omega) (by omega) (fun p22 ep22 np22 mp22 lg21 elg21 => ?_) (fun p hp => by rw [hp]; exact (mulB (a := 601) (b := 40) (c := 24040) (by omega) (by omega) (by decide)).2)
          have hpv : p22 = ((cl k.toInt.toNat * ((nL (ez_I h u)) k.toInt.toNat + exL k.toInt.toNat) : Nat) : Int) := by rw [ep22, Int.natCast_mul, show lg5.toInt = ((cl k.toInt.toNat : Nat) : Int) by omega, show lg20.toInt = (((nL (ez_I h u)) k.toInt.toNat + exL k.toInt.toNat : Nat) : Int) by omega]
          refine z_ladd (by omega) (fun lg23 elg23 => ?_)
          refine gw_st rfl rfl rfl ?_
          show ez_gw _ _ _ _ _ _ _ _ [some (.ref 71), some (.ref u), some (.ref w), some (.long lg23), none, some (.int k)] _ _ _
          refine z_inc rfl (by rw [show (1 : Int32).toInt = 1 from rfl]; omega) (fun x24 ex24 => ?_)
          rw [show (1 : Int32).toInt = 1 from rfl] at ex24
          show ez_gw _ _ _ _ _ _ _ _ [some (.ref 71), some (.ref u), some (.ref w), some (.long lg23), none, some (.int x24)] _ _ _
          refine z_go ?_
          exact ih h2 lg23 x24 F (⟨by omega, by omega, by rw [show x24.toInt.toNat = k.toInt.toNat + 1 by omega, hse]; omega, by omega, by omega⟩)  (by omega)
set_option maxRecDepth 4000 in
set_option maxHeartbeats 2000000 in
theorem d_cost {E : Nat → Nat × (Nat → Int32)} {d : Nat} {Q : ez_Q} {h : ez_H} {u : Nat} {w : Nat} (S : zSh h) {nu nw : Nat} {cl cd : Nat → Nat} (hu : zA u nu) (hw : zA w nw) (hn : 286 ≤ nu ∧ nu ≤ 1000 ∧ 30 ≤ nw ∧ nw ≤ 1000) (hcl : ctI (ez_I h 97) cl 286) (hcd : ctI (ez_I h 98) cd 30) (hbl : ∀ s, cl s ≤ 601) (hbd : ∀ s, cd s ≤ 601) (hU : aR (ez_I h u) 286 0 15) (hW : aR (ez_I h w) 30 0 15) (t93 : ctI (ez_I h 93) LEf 29) (t95 : ctI (ez_I h 95) DEf 30) (K : ∀ x : Int64, x.toInt = (sN (fun i => cl i * ((nL (ez_I h u)) i + exL i)) 286 : Nat) + (sN (fun i => cd i * ((nL (ez_I h w)) i + DEf i)) 30 : Nat) → Q (.inl (some (.long x))) h) : pw E d 39 0 [some (.ref 71), some (.ref u), some (.ref w), none, none, none] [] h Q := by
  have F := zW_refl (fun _ _ => False) (fun _ => False) (fun _ => False) h
  apply ez_Wp_in
  show ez_gw _ _ _ _ _ _ (cz_39) _ _ _ _ _
  refine gw_skip _ ?_
  refine z_lC (m := 0) rfl rfl (fun lg1 elg1 => ?_)
  refine gw_st rfl rfl rfl ?_
  show ez_gw _ _ _ _ _ _ _ _ [some (.ref 71), some (.ref u), some (.ref w), some (.long lg1), none, none] _ _ _
  refine z_C (m := 0) rfl rfl (fun x2 ex2 => ?_)
  refine gw_st rfl rfl rfl ?_
  show ez_gw _ _ _ _ _ _ _ _ [some (.ref 71), some (.ref u), some (.ref w), some (.long lg1), none, some (.int x2)] _ _ _
  exact ez_Wp_at ((d_cost_L0 (u := u) (w := w) S hu hw hn hcl hcd hbl hbd hU hW t93 t95 K (((1000 - x2.toInt)).toNat + 1)) h lg1 x2 F (⟨by omega, by omega, by rw [show x2.toInt.toNat = 0 by omega]; show _ = ((0 : Nat) : Int); omega, by omega, by omega⟩)  (by omega)) rfl
