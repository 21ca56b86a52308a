section
/-! packing: parts, bits of the model -/
theorem pk_rng {T : Nat → Int} {n c k : Nat} (hT : ∀ i, i < n → 0 ≤ T i ∧ T i ≤ 255) (h : ltP T n c) (hk : k < c) : (dI T n k = 0 ∧ aM T n k ≤ 255 ∧ ptS T n (ptP T n k) = 1 ∧ ((aM T n k : Nat) : Int) = T (ptP T n k)) ∨ (1 ≤ dI T n k ∧ dI T n k ≤ 4096 ∧ 3 ≤ aM T n k ∧ aM T n k ≤ 258 ∧ aM T n k = ptS T n (ptP T n k)) := by
  have h1 := h k hk
  have h2 := hT _ h1
  have h3 := ptS_ok (T := T) h1
  unfold dI aM
  rcases h3 with q | q
  · left
    rw [if_pos q.2]
    exact ⟨q.2, by omega, q.1, by omega⟩
  · right
    rw [if_neg (by omega)]
    exact ⟨by omega, by omega, by omega, by omega, rfl⟩
theorem pq_G {f : Nat → Int32} {T : Nat → Int} {n c : Nat} (hT : ∀ i, i < n → 0 ≤ T i ∧ T i ≤ 255) (h : ltP T n c) (A : pqI f T n c) : pqG f (aM T n) (dI T n) c := fun k hk => ⟨A k hk, by
  have := pk_rng hT h hk
  omega⟩
theorem ptP_n (T : Nat → Int) (n k : Nat) : ptP T n (k + 1) = ptP T n k + ptS T n (ptP T n k) := rfl
/-- bytes told by the parts -/
theorem bY_pt {T : Nat → Int} {n c a : Nat} (hT : ∀ i, i < n → 0 ≤ T i ∧ T i ≤ 255) (h : ltP T n c) : ∀ j, a + j ≤ c → ptP T n (a + j) = ptP T n a + bY (aM T n) (dI T n) a j := by
  intro j
  induction j with
  | zero => intro _; rfl
  | succ j ih =>
    intro hj
    have h1 := ih (by omega)
    have h2 := pk_rng hT h (k := a + j) (by omega)
    show ptP T n (a + j + 1) = ptP T n a + (bY (aM T n) (dI T n) a j + if dI T n (a + j) = 0 then 1 else aM T n (a + j))
    rw [ptP_n]
    rcases h2 with q | q
    · rw [if_pos q.1]; omega
    · rw [if_neg (by omega)]; omega
theorem lSy_lt {T : Nat → Int} {n c k : Nat} (hT : ∀ i, i < n → 0 ≤ T i ∧ T i ≤ 255) (h : ltP T n c) (hk : k < c) : lSy (aM T n) (dI T n) k < 286 ∧ (dI T n k ≠ 0 → kD (dI T n k) < 30) := by
  have h2 := pk_rng hT h hk
  unfold lSy
  rcases h2 with q | q
  · rw [if_pos q.1]; exact ⟨by omega, fun z => absurd q.1 z⟩
  · have a := kL_ok (v := aM T n k) (by omega)
    have b := kD_ok (v := dI T n k) (by omega)
    rw [if_neg (by omega)]
    exact ⟨by omega, fun _ => by omega⟩
/-- the model's bits by the state alone -/
def mS (f : Nat → Int32) (s : Nat × Nat) : Prop := mst f ((s.2 : Nat) : Int) s
theorem mS_m {f : Nat → Int32} {s : Nat × Nat} {b : Int} (A : mS f s) (h : b = ((s.2 : Nat) : Int)) : mst f b s := by rw [h]; exact A
theorem m_mS {f : Nat → Int32} {s : Nat × Nat} {b : Int} (A : mst f b s) : mS f s := by
  have := A.1
  unfold mS
  rw [← this]
  exact A
theorem wv {v : Int} {n V : Nat} (h : v = (V : Int)) (h2 : V < 2 ^ n) (hn : n ≤ 16) : (v % 65536).toNat % 2 ^ n = V := by
  have h3 : (2 : Nat) ^ n ≤ 2 ^ 16 := Nat.pow_le_pow_right (by decide) hn
  have h4 : (v % 65536).toNat = V := by omega
  rw [h4, Nat.mod_eq_of_lt h2]
theorem wr_2 (s : Nat × Nat) (v c : Nat) : (wr s v c).2 = s.2 + c := rfl
/-- a word at its end -/
theorem wd_end {w : Nat → Int32} {L : Nat → Nat} {N k j m : Nat} (A : wdI w L N k) (B : (w k).toInt = ((rvN (cwN L N k) j * 2 ^ (L k - j) : Nat) : Int)) (hj : j = L k) (hm : m = k + 1) : wdI w L N m := fun i hi h1 => by
  subst hm
  by_cases q : i = k
  · subst q
    rw [B, hj, Nat.sub_self, Nat.pow_zero, Nat.mul_one]
    rfl
  · exact A i (by omega) h1
theorem wd_o {h h2 : ez_H} {c x n : Nat} {y : Int32} {L : Nat → Nat} {N : Nat} (A : wdI (ez_I h c) L N n) (e : h2 = ez_setI h c x y) (hx : x = n) : wdI (ez_I h2 c) L N n := fun k hk h1 => by
  rw [zI_ne e (by omega)]
  exact A k hk h1
/-- the extra bits by the kinds -/
noncomputable def exL (k : Nat) : Nat := if 256 < k then LEf (k - 257) else 0
theorem xB_ex {T : Nat → Int} {n c a : Nat} (hT : ∀ i, i < n → 0 ≤ T i ∧ T i ≤ 255) (h : ltP T n c) (j : Nat) (hj : a + j ≤ c) : sN (fun s => cL (aM T n) (dI T n) a j s * exL s) 286 + sN (fun s => cD (dI T n) a j s * DEf s) 30 = xB (aM T n) (dI T n) a j := by
  rw [cL_sum exL j (fun i hi => (lSy_lt hT h (k := a + i) (by omega)).1), cD_sum DEf j (fun i hi => (lSy_lt hT h (k := a + i) (by omega)).2)]
  have e : ∀ m, a + m ≤ c → sN (fun i => exL (lSy (aM T n) (dI T n) (a + i))) m + sN (fun i => if dI T n (a + i) = 0 then 0 else DEf (kD (dI T n (a + i)))) m = xB (aM T n) (dI T n) a m := by
    intro m
    induction m with
    | zero => intro _; rfl
    | succ m ih =>
      intro hm
      have h1 := ih (by omega)
      have h2 := pk_rng hT h (k := a + m) (by omega)
      show sN (fun i => exL (lSy (aM T n) (dI T n) (a + i))) m + exL (lSy (aM T n) (dI T n) (a + m)) + (sN (fun i => if dI T n (a + i) = 0 then 0 else DEf (kD (dI T n (a + i)))) m + (if dI T n (a + m) = 0 then 0 else DEf (kD (dI T n (a + m))))) = xB (aM T n) (dI T n) a m + if dI T n (a + m) = 0 then 0 else LEf (kL (aM T n (a + m))) + DEf (kD (dI T n (a + m)))
      rcases h2 with q | q
      · have hs : lSy (aM T n) (dI T n) (a + m) = aM T n (a + m) := if_pos q.1
        have he : exL (aM T n (a + m)) = 0 := if_neg (by omega)
        rw [hs, he, if_pos q.1, if_pos q.1]
        omega
      · have hs : lSy (aM T n) (dI T n) (a + m) = 257 + kL (aM T n (a + m)) := if_neg (by omega)
        have he : exL (257 + kL (aM T n (a + m))) = LEf (kL (aM T n (a + m))) := by
          unfold exL
          rw [if_pos (by omega), show 257 + kL (aM T n (a + m)) - 257 = kL (aM T n (a + m)) by omega]
        rw [hs, he, if_neg (by omega), if_neg (by omega)]
        omega
  have h0 : exL 256 = 0 := rfl
  have := e j hj
  omega
theorem sN_mul_add {c f g : Nat → Nat} : ∀ n, sN (fun i => c i * (f i + g i)) n = sN (fun i => c i * f i) n + sN (fun i => c i * g i) n := by
  intro n
  induction n with
  | zero => rfl
  | succ n ih =>
    show sN (fun i => c i * (f i + g i)) n + c n * (f n + g n) = sN (fun i => c i * f i) n + c n * f n + (sN (fun i => c i * g i) n + c n * g n)
    rw [ih, Nat.mul_add]
    omega
/-! PRINTED by wip/pack: the model packs: codes, costs, parts written -/
set_option maxRecDepth 4000 in
set_option maxHeartbeats 2000000 in
theorem d_cds_L3 {E : Nat → Nat × (Nat → Int32)} {d : Nat} {Q : ez_Q} {h : ez_H} {u : Nat} {n : Int32} {w : Nat} (S : zSh h) {nu nw : Nat} (hu : zA u nu) (hw : zA w nw) (hd : u ≠ 71 ∧ u ≠ 115 ∧ u ≠ 116 ∧ w ≠ 71 ∧ w ≠ 115 ∧ w ≠ 116 ∧ u ≠ w) (hn : 1 ≤ n.toInt ∧ n.toInt ≤ nu ∧ n.toInt ≤ nw ∧ nu ≤ 1000 ∧ nw ≤ 1000 ∧ n.toInt ≤ 288) (hL : aR (ez_I h u) n.toInt.toNat 0 15) (K : ∀ h2, zW (fun _ _ => False) (fun q => q = 115 ∨ q = 116 ∨ q = w) (fun _ => False) h h2 → wdI (ez_I h2 w) (nL (ez_I h u)) n.toInt.toNat n.toInt.toNat → Q (.inl none) h2) : ∀ N : Nat, (∀ (h2 : ez_H) (co : Int32) (k : Int32) (l6 : Option Value) , zW (fun _ _ => False) (fun q => q = 115 ∨ q = 116 ∨ q = w) (fun _ => False) h h2 → (0 ≤ k.toInt ∧ k.toInt ≤ n.toInt) → (uT2 (ez_I h2 116) (fun l => ncN (nL (ez_I h u)) n.toInt.toNat l + ctN (nL (ez_I h u)) l k.toInt.toNat) 17) → (wdI (ez_I h2 w) (nL (ez_I h u)) n.toInt.toNat k.toInt.toNat) → (100 * (1000 - k.toInt)) < (N : Int) → pw E d 37 108 [some (.ref 71), some (.ref u), some (.int n), some (.ref w), some (.int co), some (.int k), l6] [] h2 Q) ∧ (∀ (h2 : ez_H) (co : Int32) (k : Int32) (j : Int32) , zW (fun _ _ => False) (fun q => q = 115 ∨ q = 116 ∨ q = w) (fun _ => False) h h2 → (0 ≤ k.toInt ∧ k.toInt < n.toInt ∧ 0 ≤ j.toInt ∧ j.toInt ≤ ((nL (ez_I h u)) k.toInt.toNat) ∧ 1 ≤ ((nL (ez_I h u)) k.toInt.toNat)) → (uT2 (ez_I h2 116) (fun l => ncN (nL (ez_I h u)) n.toInt.toNat l + ctN (nL (ez_I h u)) l k.toInt.toNat) 17) → (wdI (ez_I h2 w) (nL (ez_I h u)) n.toInt.toNat k.toInt.toNat) → ((ez_I h2 w k.toInt.toNat).toInt = ((rvN (cwN (nL (ez_I h u)) n.toInt.toNat k.toInt.toNat) j.toInt.toNat * 2 ^ (((nL (ez_I h u)) k.toInt.toNat) - j.toInt.toNat) : Nat) : Int)) → (100 * (1000 - k.toInt) - 50 + (20 - j.toInt)) < (N : Int) → pw E d 37 132 [some (.ref 71), some (.ref u), some (.int n), some (.ref w), some (.int co), some (.int k), some (.int j)] [] h2 Q) := by
  intro N
  induction N with
  | zero => exact ⟨fun h2 co k l6  F hinv A_nx A_wd hm => absurd hm (by have w_co := z_rng co; have w_k := z_rng k; have gn := z_rng n; omega), fun h2 co k j  F hinv A_nx A_wd A_in hm => absurd hm (by have hlk9 : ((nL (ez_I h u)) k.toInt.toNat) ≤ 15 := (by have := hL k.toInt.toNat (by omega); show (ez_I h u k.toInt.toNat).toInt.toNat ≤ 15; omega); have w_co := z_rng co; have w_k := z_rng k; have w_j := z_rng j; have gn := z_rng n; omega)⟩
  | succ N ih =>
    refine ⟨fun h2 co k l6  F hinv A_nx A_wd hm => ?_, fun h2 co k j  F hinv A_nx A_wd A_in hm => ?_⟩
    · skip
      have w_co := z_rng co
      have w_k := z_rng k
      have gn := z_rng n
      have S2 := zW_sh F S
      apply ez_Wp_in
      show ez_gw _ _ _ _ _ _ (cz_37) _ _ _ _ _
      refine gw_skip _ ?_
      refine gw_ld rfl rfl ?_
      refine gw_ld rfl rfl ?_
      refine z_b2 (fun c1 => ?_) (fun c1 => ?_)
      · have c1 : n.toInt ≤ k.toInt := c1
        refine gw_skip _ ?_
        refine z_rv ?_
        have b1 := A_wd
        rw [show k.toInt.toNat = n.toInt.toNat by omega] at b1
        exact K _ F b1
      · have c1 : ¬ (n.toInt ≤ k.toInt) := c1
        refine gw_ld rfl rfl ?_
        refine gw_ld rfl rfl ?_
        refine z_C (m := 0) rfl rfl (fun x2 ex2 => ?_)
        refine z_is (n := nw) ((hw _ S2).1) ((hw _ S2).2) (by omega) (fun h3 e4 => ?_)
        have S5 := zSh_set S2 e4
        have F6 := zW_setA F e4 (by omega)
        have A7 : uT2 (ez_I h3 116) (fun l => ncN (nL (ez_I h u)) n.toInt.toNat l + ctN (nL (ez_I h u)) l k.toInt.toNat) 17 := by rw [zI_fn e4 116 (by omega)]; exact A_nx
        have A8 : wdI (ez_I h3 w) (nL (ez_I h u)) n.toInt.toNat k.toInt.toNat := wd_o A_wd e4 (by omega)
        have A9 : (ez_I h3 w k.toInt.toNat).toInt = 0 := (by rw [show k.toInt.toNat = k.toInt.toNat by omega, zI_eq e4]; omega)
        refine gw_ld rfl rfl ?_
        refine gw_ld rfl rfl ?_
        refine z_iaV (n := nu) ((hu _ S5).1) ((hu _ S5).2) (by omega) (zW_f F6 (by omega) (fun c => c)) ?_
        generalize ex10 : ez_I h u k.toInt.toNat = x10
        have rx10 := z_rng x10
        have yx10 := hL k.toInt.toNat (by omega)
        rw [ex10] at yx10
        have ylx10 : ((nL (ez_I h u)) k.toInt.toNat) = x10.toInt.toNat := by show (ez_I h u k.toInt.toNat).toInt.toNat = _; rw [show k.toInt.toNat = k.toInt.toNat by omega, ex10]
        refine z_b1 (fun c11 => ?_) (fun c11 => ?_)
        · have c11 : x10.toInt ≠ 0 := c11
          refine gw_skip _ ?_
          refine z_C (m := 0) rfl rfl (fun x12 ex12 => ?_)
          refine gw_st rfl rfl rfl ?_
          show ez_gw _ _ _ _ _ _ _ _ [some (.ref 71), some (.ref u), some (.int n), some (.ref w), some (.int co), some (.int k), some (.int x12)] _ _ _
          exact ez_Wp_at (ih.2 h3 co k x12 F6 (by omega) A7 (A8) ((by rw [show x12.toInt.toNat = 0 by omega]; show _ = ((0 * _ : Nat) : Int); rw [Nat.zero_mul]; exact A9)) (by omega)) rfl
        · have c11 : ¬ (x10.toInt ≠ 0) := c11
          refine z_go ?_
          refine gw_skip _ ?_
          refine z_inc rfl (by rw [show (1 : Int32).toInt = 1 from rfl]; omega) (fun x13 ex13 => ?_)
          rw [show (1 : Int32).toInt = 1 from rfl] at ex13
          show ez_gw _ _ _ _ _ _ _ _ [some (.ref 71), some (.ref u), some (.int n), some (.ref w), some (.int co), some (.int x13), l6] _ _ _
          refine z_go ?_
          exact ih.1 h3 co x13 (l6) F6 (by omega) ((uT2_c A7 (fun l hl => by show ncN (nL (ez_I h u)) n.toInt.toNat l + _ = ncN (nL (ez_I h u)) n.toInt.toNat l + _; rw [show x13.toInt.toNat = k.toInt.toNat + 1 by omega, ctN_n (by omega)]))) ((skI A8 (by omega) (by omega))) (by omega)
    · skip
      have hlk9 : ((nL (ez_I h u)) k.toInt.toNat) ≤ 15 := (by have := hL k.toInt.toNat (by omega); show (ez_I h u k.toInt.toNat).toInt.toNat ≤ 15; omega)
      have w_co := z_rng co
      have w_k := z_rng k
      have w_j := z_rng j
      have gn := z_rng n
      have S2 := zW_sh F S
      have hlk : ((nL (ez_I h u)) k.toInt.toNat) ≤ 15 := by have := hL k.toInt.toNat (by omega); show (ez_I h u k.toInt.toNat).toInt.toNat ≤ 15; omega
      have hrl := rvN_lt (cwN (nL (ez_I h u)) n.toInt.toNat k.toInt.toNat) j.toInt.toNat
      have hnb := ncN_b2 (L := (nL (ez_I h u))) (N := n.toInt.toNat) (l := ((nL (ez_I h u)) k.toInt.toNat)) (by omega) (by omega)
      have hcb := ctN_le (nL (ez_I h u)) ((nL (ez_I h u)) k.toInt.toNat) k.toInt.toNat
      have hnv := A_nx ((nL (ez_I h u)) k.toInt.toNat) (by omega) (by omega)
      have hnv2 : (ez_I h2 116 ((nL (ez_I h u)) k.toInt.toNat)).toInt = ((cwN (nL (ez_I h u)) n.toInt.toNat k.toInt.toNat) : Nat) := hnv
      have hcwb : (cwN (nL (ez_I h u)) n.toInt.toNat k.toInt.toNat) ≤ 80000288 := by show ncN (nL (ez_I h u)) n.toInt.toNat ((nL (ez_I h u)) k.toInt.toNat) + ctN (nL (ez_I h u)) ((nL (ez_I h u)) k.toInt.toNat) k.toInt.toNat ≤ _; omega
      apply ez_Wp_in
      show ez_gw _ _ _ _ _ _ (cz_37) _ _ _ _ _
      refine gw_skip _ ?_
      refine gw_ld rfl rfl ?_
      refine gw_ld rfl rfl ?_
      refine gw_ld rfl rfl ?_
      refine z_iaV (n := nu) ((hu _ S2).1) ((hu _ S2).2) (by omega) (zW_f F (by omega) (fun c => c)) ?_
      generalize ex14 : ez_I h u k.toInt.toNat = x14
      have rx14 := z_rng x14
      have yx14 := hL k.toInt.toNat (by omega)
      rw [ex14] at yx14
      have ylx14 : ((nL (ez_I h u)) k.toInt.toNat) = x14.toInt.toNat := by show (ez_I h u k.toInt.toNat).toInt.toNat = _; rw [show k.toInt.toNat = k.toInt.toNat by omega, ex14]
      refine z_b2 (fun c15 => ?_) (fun c15 => ?_)
      · have c15 : x14.toInt ≤ j.toInt := c15
        refine gw_skip _ ?_
        refine gw_ld rfl rfl ?_
        refine z_gR (q := 116) (zT S2 (by decide) rfl) (zRf S2 (by decide) (by decide) rfl) (by decide) ?_
        refine gw_ld rfl rfl ?_
        refine gw_ld rfl rfl ?_
        refine z_iaV (n := nu) ((hu _ S2).1) ((hu _ S2).2) (by omega) ((zW_f F (by omega) (fun c => c)).trans ex14) ?_
        refine gw_op rfl ?_
        refine z_ia (n := 17) (zT S2 (by decide) rfl) (zN S2 (by decide) rfl) (by omega) ?_
        generalize ex17 : ez_I h2 116 x14.toInt.toNat = x17
        have rx17 := z_rng x17
        have yx17 : x17.toInt = ((cwN (nL (ez_I h u)) n.toInt.toNat k.toInt.toNat) : Nat) := by rw [← ex17, show x14.toInt.toNat = ((nL (ez_I h u)) k.toInt.toNat) by omega]; exact hnv2
        refine z_C (m := 1) rfl rfl (fun x18 ex18 => ?_)
        refine z_add (by omega) (fun x19 ex19 => ?_)
        refine z_is (n := 17) (zT S2 (by decide) rfl) (zN S2 (by decide) rfl) (by omega) (fun h20 e21 => ?_)
        have S22 := zSh_set S2 e21
        have F23 := zW_setA F e21 (by omega)
        have A24 : uT2 (ez_I h20 116) (fun l => ncN (nL (ez_I h u)) n.toInt.toNat l + ctN (nL (ez_I h u)) l (k.toInt.toNat + 1)) 17 := uT2_up (x := x14.toInt.toNat) (v := x19.toInt) A_nx (by rw [zI_eq e21]) (fun q hq => zI_ne e21 (by omega)) (by rw [ex17]; omega) (by omega) (by show ncN (nL (ez_I h u)) n.toInt.toNat x14.toInt.toNat + ctN (nL (ez_I h u)) x14.toInt.toNat (k.toInt.toNat + 1) = ncN (nL (ez_I h u)) n.toInt.toNat x14.toInt.toNat + ctN (nL (ez_I h u)) x14.toInt.toNat k.toInt.toNat + 1; rw [ctN_y (by omega)]; omega) (fun q hq => by show ncN (nL (ez_I h u)) n.toInt.toNat q + ctN (nL (ez_I h u)) q (k.toInt.toNat + 1) = ncN (nL (ez_I h u)) n.toInt.toNat q + ctN (nL (ez_I h u)) q k.toInt.toNat; rw [ctN_n (by omega)])
        have A25 : wdI (ez_I h20 w) (nL (ez_I h u)) n.toInt.toNat k.toInt.toNat := by rw [zI_fn e21 w (by omega)]; exact A_wd
        have A26 : (ez_I h20 w k.toInt.toNat).toInt = ((rvN (cwN (nL (ez_I h u)) n.toInt.toNat k.toInt.toNat) j.toInt.toNat * 2 ^ (((nL (ez_I h u)) k.toInt.toNat) - j.toInt.toNat) : Nat) : Int) := by rw [zI_fn e21 w (by omega)]; exact A_in
        refine z_inc rfl (by rw [show (1 : Int32).toInt = 1 from rfl]; omega) (fun x27 ex27 => ?_)
        rw [show (1 : Int32).toInt = 1 from rfl] at ex27
        show ez_gw _ _ _ _ _ _ _ _ [some (.ref 71), some (.ref u), some (.int n), some (.ref w), some (.int co), some (.int x27), some (.int j)] _ _ _
        refine z_go ?_
        exact ih.1 h20 co x27 (some (.int j)) F23 (by omega) ((by rw [show x27.toInt.toNat = k.toInt.toNat + 1 by omega]; exact A24)) ((wd_end A25 A26 (by omega) (by omega))) (by omega)
      · have c15 : ¬ (x14.toInt ≤ j.toInt) := c15
        refine gw_ld rfl rfl ?_
        refine gw_ld rfl rfl ?_
        refine gw_op rfl ?_
        refine z_ia (n := nw) ((hw _ S2).1) ((hw _ S2).2) (by omega) ?_
        generalize ex28 : ez_I h2 w k.toInt.toNat = x28
        have rx28 := z_rng x28
        skip
        refine gw_ld rfl rfl ?_
        refine z_gR (q := 116) (zT S2 (by decide) rfl) (zRf S2 (by decide) (by decide) rfl) (by decide) ?_
        refine gw_ld rfl rfl ?_
        refine gw_ld rfl rfl ?_
        refine z_iaV (n := nu) ((hu _ S2).1) ((hu _ S2).2) (by omega) ((zW_f F (by omega) (fun c => c)).trans ex14) ?_
        refine z_ia (n := 17) (zT S2 (by decide) rfl) (zN S2 (by decide) rfl) (by omega) ?_
        generalize ex30 : ez_I h2 116 x14.toInt.toNat = x30
        have rx30 := z_rng x30
        have yx30 : x30.toInt = ((cwN (nL (ez_I h u)) n.toInt.toNat k.toInt.toNat) : Nat) := by rw [← ex30, show x14.toInt.toNat = ((nL (ez_I h u)) k.toInt.toNat) by omega]; exact hnv2
        refine gw_ld rfl rfl ?_
        refine z_2 rfl (fun x31 ex31 => ?_)
        have rx31 := z_rng x31
        have vx31 := n_shr (n := j.toInt.toNat) (by omega) (by omega) ex31
        refine z_C (m := 1) rfl rfl (fun x32 ex32 => ?_)
        refine z_and (fun x33 ex33 ux33 wx33 => ?_)
        have rx33 := z_rng x33
        replace ux33 := ux33 (by omega)
        clear wx33
        have vbx33 := n_mask (k := 1) (by decide) (by omega) ex33
        rw [show (2 : Int) ^ 1 = 2 from rfl, vx31] at vbx33
        refine gw_ld rfl rfl ?_
        refine gw_ld rfl rfl ?_
        refine z_iaV (n := nu) ((hu _ S2).1) ((hu _ S2).2) (by omega) ((zW_f F (by omega) (fun c => c)).trans ex14) ?_
        refine z_C (m := 1) rfl rfl (fun x35 ex35 => ?_)
        refine z_sub (by omega) (fun x36 ex36 => ?_)
        refine gw_ld rfl rfl ?_
        refine z_sub (by omega) (fun x37 ex37 => ?_)
        refine z_2 rfl (fun x38 ex38 => ?_)
        have rx38 := z_rng x38
        refine z_2 rfl (fun x39 ex39 => ?_)
        have rx39 := z_rng x39
        have hv := A_in
        rw [show k.toInt.toNat = k.toInt.toNat by omega, ex28] at hv
        have hcv : x30.toInt = ((cwN (nL (ez_I h u)) n.toInt.toNat k.toInt.toNat) : Nat) := by rw [← ex30, show x14.toInt.toNat = ((nL (ez_I h u)) k.toInt.toNat) by omega]; exact hnv2
        have hbb : x33.toInt = (((cwN (nL (ez_I h u)) n.toInt.toNat k.toInt.toNat) / 2 ^ j.toInt.toNat % 2 : Nat) : Int) := by rw [vbx33, n_bit (by omega), hcv, Int.toNat_natCast]
        have hor := rv_or (r := rvN (cwN (nL (ez_I h u)) n.toInt.toNat k.toInt.toNat) j.toInt.toNat) (j := j.toInt.toNat) (l := ((nL (ez_I h u)) k.toInt.toNat)) hv hrl (by omega) (by omega) (by omega) (by omega) ex38 ex39
        have hst := rv_st (w := (cwN (nL (ez_I h u)) n.toInt.toNat k.toInt.toNat)) (l := ((nL (ez_I h u)) k.toInt.toNat)) (j := j.toInt.toNat) (m := j.toInt.toNat + 1) hv hbb hor (by omega) rfl
        refine z_is (n := nw) ((hw _ S2).1) ((hw _ S2).2) (by omega) (fun h40 e41 => ?_)
        have S42 := zSh_set S2 e41
        have F43 := zW_setA F e41 (by omega)
        have A44 : uT2 (ez_I h40 116) (fun l => ncN (nL (ez_I h u)) n.toInt.toNat l + ctN (nL (ez_I h u)) l k.toInt.toNat) 17 := by rw [zI_fn e41 116 (by omega)]; exact A_nx
        have A45 : wdI (ez_I h40 w) (nL (ez_I h u)) n.toInt.toNat k.toInt.toNat := wd_o A_wd e41 (by omega)
        have A46 : (ez_I h40 w k.toInt.toNat).toInt = ((rvN (cwN (nL (ez_I h u)) n.toInt.toNat k.toInt.toNat) (j.toInt.toNat + 1) * 2 ^ (((nL (ez_I h u)) k.toInt.toNat) - (j.toInt.toNat + 1)) : Nat) : Int) := (by rw [show k.toInt.toNat = k.toInt.toNat by omega, zI_eq e41]; exact hst)
        refine z_inc rfl (by rw [show (1 : Int32).toInt = 1 from rfl]; omega) (fun x47 ex47 => ?_)
        rw [show (1 : Int32).toInt = 1 from rfl] at ex47
        show ez_gw _ _ _ _ _ _ _ _ [some (.ref 71), some (.ref u), some (.int n), some (.ref w), some (.int co), some (.int k), some (.int x47)] _ _ _
        refine z_go ?_
        exact ih.2 h40 co k x47 F43 (by omega) A44 (A45) ((by rw [show x47.toInt.toNat = j.toInt.toNat + 1 by omega]; exact A46)) (by omega)
set_option maxRecDepth 4000 in
set_option maxHeartbeats 2000000 in
theorem d_cds_L2 {E : Nat → Nat × (Nat → Int32)} {d : Nat} {Q : ez_Q} {h : ez_H} {u : Nat} {n : Int32} {w : Nat} (S : zSh h) {nu nw : Nat} (hu : zA u nu) (hw : zA w nw) (hd : u ≠ 71 ∧ u ≠ 115 ∧ u ≠ 116 ∧ w ≠ 71 ∧ w ≠ 115 ∧ w ≠ 116 ∧ u ≠ w) (hn : 1 ≤ n.toInt ∧ n.toInt ≤ nu ∧ n.toInt ≤ nw ∧ nu ≤ 1000 ∧ nw ≤ 1000 ∧ n.toInt ≤ 288) (hL : aR (ez_I h u) n.toInt.toNat 0 15) (K : ∀ h2, zW (fun _ _ => False) (fun q => q = 115 ∨ q = 116 ∨ q = w) (fun _ => False) h h2 → wdI (ez_I h2 w) (nL (ez_I h u)) n.toInt.toNat n.toInt.toNat → Q (.inl none) h2) : ∀ N : Nat, (∀ (h2 : ez_H) (co : Int32) (l : Int32) (l6 : Option Value) , zW (fun _ _ => False) (fun q => q = 115 ∨ q = 116 ∨ q = w) (fun _ => False) h h2 → (1 ≤ l.toInt ∧ l.toInt ≤ 17 ∧ co.toInt = (ncN (nL (ez_I h u)) n.toInt.toNat l.toInt.toNat : Nat)) → (ctM (ez_I h2 115) (nL (ez_I h u)) n.toInt.toNat) → (uT2 (ez_I h2 116) (fun l => ncN (nL (ez_I h u)) n.toInt.toNat l) l.toInt.toNat) → (100 - l.toInt) < (N : Int) → pw E d 37 69 [some (.ref 71), some (.ref u), some (.int n), some (.ref w), some (.int co), some (.int l), l6] [] h2 Q) := by
  intro N
  induction N with
  | zero => exact fun h2 co l l6  F hinv A_ct A_nc hm => absurd hm (by have w_co := z_rng co; have w_l := z_rng l; have gn := z_rng n; omega)
  | succ N ih =>
    refine fun h2 co l l6  F hinv A_ct A_nc hm => ?_
    · skip
      have w_co := z_rng co
      have w_l := z_rng l
      have gn := z_rng n
      have S2 := zW_sh F S
      have hnb := ncN_b2 (L := (nL (ez_I h u))) (N := n.toInt.toNat) (l := l.toInt.toNat) (by omega) (by omega)
      have hns := ncN_s (L := (nL (ez_I h u))) (N := n.toInt.toNat) (l := l.toInt.toNat) (by omega)
      have hcl := ctN_le (nL (ez_I h u)) l.toInt.toNat n.toInt.toNat
      apply ez_Wp_in
      show ez_gw _ _ _ _ _ _ (cz_37) _ _ _ _ _
      refine gw_skip _ ?_
      refine gw_ld rfl rfl ?_
      refine z_C (m := 17) rfl rfl (fun x1 ex1 => ?_)
      refine z_b2 (fun c2 => ?_) (fun c2 => ?_)
      · have c2 : x1.toInt ≤ l.toInt := c2
        refine gw_skip _ ?_
        refine z_C (m := 0) rfl rfl (fun x3 ex3 => ?_)
        refine gw_st rfl rfl rfl ?_
        show ez_gw _ _ _ _ _ _ _ _ [some (.ref 71), some (.ref u), some (.int n), some (.ref w), some (.int co), some (.int x3), l6] _ _ _
        exact ez_Wp_at ((d_cds_L3 (u := u) (n := n) (w := w) S hu hw hd hn hL K (((100 * (1000 - x3.toInt))).toNat + 1)).1 h2 co x3 (l6) F (by omega) ((by rw [show x3.toInt.toNat = 0 by omega, show (17 : Nat) = l.toInt.toNat by omega]; exact uT2_c A_nc (fun l _ => rfl))) ((by rw [show x3.toInt.toNat = 0 by omega]; exact fun i hi => by omega)) (by omega)) rfl
      · have c2 : ¬ (x1.toInt ≤ l.toInt) := c2
        refine gw_ld rfl rfl ?_
        refine z_gR (q := 116) (zT S2 (by decide) rfl) (zRf S2 (by decide) (by decide) rfl) (by decide) ?_
        refine gw_ld rfl rfl ?_
        refine gw_ld rfl rfl ?_
        refine z_is (n := 17) (zT S2 (by decide) rfl) (zN S2 (by decide) rfl) (by omega) (fun h4 e5 => ?_)
        have S6 := zSh_set S2 e5
        have F7 := zW_setA F e5 (by omega)
        have A8 : ctM (ez_I h4 115) (nL (ez_I h u)) n.toInt.toNat := by rw [zI_fn e5 115 (by decide)]; exact A_ct
        have A9 : uT2 (ez_I h4 116) (fun l => ncN (nL (ez_I h u)) n.toInt.toNat l) (l.toInt.toNat + 1) := uT2_s A_nc e5 (by omega) (by omega) rfl
        refine gw_ld rfl rfl ?_
        refine gw_ld rfl rfl ?_
        refine z_gR (q := 115) (zT S6 (by decide) rfl) (zRf S6 (by decide) (by decide) rfl) (by decide) ?_
        refine gw_ld rfl rfl ?_
        refine z_ia (n := 17) (zT S6 (by decide) rfl) (zN S6 (by decide) rfl) (by omega) ?_
        generalize ex10 : ez_I h4 115 l.toInt.toNat = x10
        have rx10 := z_rng x10
        have yx10 := A8.2 l.toInt.toNat (by omega) (by omega)
        rw [show l.toInt.toNat = l.toInt.toNat by omega, ex10] at yx10
        rw [show l.toInt.toNat = l.toInt.toNat by omega] at yx10
        refine z_add (by omega) (fun x11 ex11 => ?_)
        refine z_C (m := 1) rfl rfl (fun x12 ex12 => ?_)
        refine z_2 rfl (fun x13 ex13 => ?_)
        have rx13 := z_rng x13
        have vx13 := n_shl (n := 1) (by omega) (by decide) (by omega) (by omega) ex13
        rw [show (2 : Int) ^ 1 = 2 from rfl] at vx13
        refine gw_st rfl rfl rfl ?_
        show ez_gw _ _ _ _ _ _ _ _ [some (.ref 71), some (.ref u), some (.int n), some (.ref w), some (.int x13), some (.int l), l6] _ _ _
        refine z_inc rfl (by rw [show (1 : Int32).toInt = 1 from rfl]; omega) (fun x14 ex14 => ?_)
        rw [show (1 : Int32).toInt = 1 from rfl] at ex14
        show ez_gw _ _ _ _ _ _ _ _ [some (.ref 71), some (.ref u), some (.int n), some (.ref w), some (.int x13), some (.int x14), l6] _ _ _
        refine z_go ?_
        exact ih h4 x13 x14 (l6) F7 (⟨by omega, by omega, by rw [show x14.toInt.toNat = l.toInt.toNat + 1 by omega]; omega⟩) (A8) ((by rw [show x14.toInt.toNat = l.toInt.toNat + 1 by omega]; exact A9)) (by omega)
set_option maxRecDepth 4000 in
set_option maxHeartbeats 2000000 in
theorem d_cds_L1 {E : Nat → Nat × (Nat → Int32)} {d : Nat} {Q : ez_Q} {h : ez_H} {u : Nat} {n : Int32} {w : Nat} (S : zSh h) {nu nw : Nat} (hu : zA u nu) (hw : zA w nw) (hd : u ≠ 71 ∧ u ≠ 115 ∧ u ≠ 116 ∧ w ≠ 71 ∧ w ≠ 115 ∧ w ≠ 116 ∧ u ≠ w) (hn : 1 ≤ n.toInt ∧ n.toInt ≤ nu ∧ n.toInt ≤ nw ∧ nu ≤ 1000 ∧ nw ≤ 1000 ∧ n.toInt ≤ 288) (hL : aR (ez_I h u) n.toInt.toNat 0 15) (K : ∀ h2, zW (fun _ _ => False) (fun q => q = 115 ∨ q = 116 ∨ q = w) (fun _ => False) h h2 → wdI (ez_I h2 w) (nL (ez_I h u)) n.toInt.toNat n.toInt.toNat → Q (.inl none) h2) : ∀ N : Nat, (∀ (h2 : ez_H) (k : Int32) (l5 : Option Value) (l6 : Option Value) , zW (fun _ _ => False) (fun q => q = 115 ∨ q = 116 ∨ q = w) (fun _ => False) h h2 → (0 ≤ k.toInt ∧ k.toInt ≤ n.toInt) → (ctM (ez_I h2 115) (nL (ez_I h u)) k.toInt.toNat) → (1000 - k.toInt) < (N : Int) → pw E d 37 27 [some (.ref 71), some (.ref u), some (.int n), some (.ref w), some (.int k), l5, l6] [] h2 Q) := by
  intro N
  induction N with
  | zero => exact fun h2 k l5 l6  F hinv A_ct hm => absurd hm (by have w_k := z_rng k; have gn := z_rng n; omega)
  | succ N ih =>
    refine fun h2 k l5 l6  F hinv A_ct hm => ?_
    · skip
      have w_k := z_rng k
      have gn := z_rng n
      have S2 := zW_sh F S
      apply ez_Wp_in
      show ez_gw _ _ _ _ _ _ (cz_37) _ _ _ _ _
      refine gw_skip _ ?_
      refine gw_ld rfl rfl ?_
      refine gw_ld rfl rfl ?_
      refine z_b2 (fun c1 => ?_) (fun c1 => ?_)
      · have c1 : n.toInt ≤ k.toInt := c1
        refine gw_skip _ ?_
        refine z_C (m := 0) rfl rfl (fun x2 ex2 => ?_)
        refine gw_st rfl rfl rfl ?_
        show ez_gw _ _ _ _ _ _ _ _ [some (.ref 71), some (.ref u), some (.int n), some (.ref w), some (.int x2), l5, l6] _ _ _
        refine z_C (m := 1) rfl rfl (fun x3 ex3 => ?_)
        refine gw_st rfl rfl rfl ?_
        show ez_gw _ _ _ _ _ _ _ _ [some (.ref 71), some (.ref u), some (.int n), some (.ref w), some (.int x2), some (.int x3), l6] _ _ _
        exact ez_Wp_at ((d_cds_L2 (u := u) (n := n) (w := w) S hu hw hd hn hL K (((100 - x3.toInt)).toNat + 1)) h2 x2 x3 (l6) F (⟨by omega, by omega, by rw [show x3.toInt.toNat = 1 by omega]; show _ = ((0 : Nat) : Int); omega⟩) ((by rw [show n.toInt.toNat = k.toInt.toNat by omega]; exact A_ct)) ((by rw [show x3.toInt.toNat = 1 by omega]; exact uT2_0 _ _)) (by omega)) rfl
      · have c1 : ¬ (n.toInt ≤ k.toInt) := c1
        refine gw_ld rfl rfl ?_
        refine z_gR (q := 115) (zT S2 (by decide) rfl) (zRf S2 (by decide) (by decide) rfl) (by decide) ?_
        refine gw_ld rfl rfl ?_
        refine gw_ld rfl rfl ?_
        refine z_iaV (n := nu) ((hu _ S2).1) ((hu _ S2).2) (by omega) (zW_f F (by omega) (fun c => c)) ?_
        generalize ex4 : ez_I h u k.toInt.toNat = x4
        have rx4 := z_rng x4
        have yx4 := hL k.toInt.toNat (by omega)
        rw [ex4] at yx4
        have ylx4 : ((nL (ez_I h u)) k.toInt.toNat) = x4.toInt.toNat := by show (ez_I h u k.toInt.toNat).toInt.toNat = _; rw [show k.toInt.toNat = k.toInt.toNat by omega, ex4]
        refine gw_op rfl ?_
        refine z_ia (n := 17) (zT S2 (by decide) rfl) (zN S2 (by decide) rfl) (by omega) ?_
        generalize ex5 : ez_I h2 115 x4.toInt.toNat = x5
        have rx5 := z_rng x5
        have yx5 := ctM_rng (l := x4.toInt.toNat) A_ct (by omega)
        rw [ex5] at yx5
        refine gw_ld rfl rfl ?_
        refine gw_ld rfl rfl ?_
        refine z_iaV (n := nu) ((hu _ S2).1) ((hu _ S2).2) (by omega) ((zW_f F (by omega) (fun c => c)).trans ex4) ?_
        refine z_b1 (fun c7 => ?_) (fun c7 => ?_)
        · have c7 : x4.toInt ≤ 0 := c7
          refine gw_skip _ ?_
          refine z_C (m := 0) rfl rfl (fun x8 ex8 => ?_)
          refine z_add (by omega) (fun x9 ex9 => ?_)
          refine z_is (n := 17) (zT S2 (by decide) rfl) (zN S2 (by decide) rfl) (by omega) (fun h10 e11 => ?_)
          have S12 := zSh_set S2 e11
          have F13 := zW_setA F e11 (by omega)
          have A14 : ctM (ez_I h10 115) (nL (ez_I h u)) (k.toInt.toNat + 1) := ctM_w A_ct e11 (by omega) (by omega) ex5 (by omega) rfl
          refine z_inc rfl (by rw [show (1 : Int32).toInt = 1 from rfl]; omega) (fun x15 ex15 => ?_)
          rw [show (1 : Int32).toInt = 1 from rfl] at ex15
          show ez_gw _ _ _ _ _ _ _ _ [some (.ref 71), some (.ref u), some (.int n), some (.ref w), some (.int x15), l5, l6] _ _ _
          refine z_go ?_
          exact ih h10 x15 (l5) (l6) F13 (by omega) ((by rw [show x15.toInt.toNat = k.toInt.toNat + 1 by omega]; exact A14)) (by omega)
        · have c7 : ¬ (x4.toInt ≤ 0) := c7
          refine z_C (m := 1) rfl rfl (fun x16 ex16 => ?_)
          refine z_go ?_
          refine gw_skip _ ?_
          refine z_add (by omega) (fun x17 ex17 => ?_)
          refine z_is (n := 17) (zT S2 (by decide) rfl) (zN S2 (by decide) rfl) (by omega) (fun h18 e19 => ?_)
          have S20 := zSh_set S2 e19
          have F21 := zW_setA F e19 (by omega)
          have A22 : ctM (ez_I h18 115) (nL (ez_I h u)) (k.toInt.toNat + 1) := ctM_y A_ct e19 (by omega) (by omega) ex5 (by omega) rfl
          refine z_inc rfl (by rw [show (1 : Int32).toInt = 1 from rfl]; omega) (fun x23 ex23 => ?_)
          rw [show (1 : Int32).toInt = 1 from rfl] at ex23
          show ez_gw _ _ _ _ _ _ _ _ [some (.ref 71), some (.ref u), some (.int n), some (.ref w), some (.int x23), l5, l6] _ _ _
          refine z_go ?_
          exact ih h18 x23 (l5) (l6) F21 (by omega) ((by rw [show x23.toInt.toNat = k.toInt.toNat + 1 by omega]; exact A22)) (by omega)
set_option maxRecDepth 4000 in
set_option maxHeartbeats 2000000 in
theorem d_cds_L0 {E : Nat → Nat × (Nat → Int32)} {d : Nat} {Q : ez_Q} {h : ez_H} {u : Nat} {n : Int32} {w : Nat} (S : zSh h) {nu nw : Nat} (hu : zA u nu) (hw : zA w nw) (hd : u ≠ 71 ∧ u ≠ 115 ∧ u ≠ 116 ∧ w ≠ 71 ∧ w ≠ 115 ∧ w ≠ 116 ∧ u ≠ w) (hn : 1 ≤ n.toInt ∧ n.toInt ≤ nu ∧ n.toInt ≤ nw ∧ nu ≤ 1000 ∧ nw ≤ 1000 ∧ n.toInt ≤ 288) (hL : aR (ez_I h u) n.toInt.toNat 0 15) (K : ∀ h2, zW (fun _ _ => False) (fun q => q = 115 ∨ q = 116 ∨ q = w) (fun _ => False) h h2 → wdI (ez_I h2 w) (nL (ez_I h u)) n.toInt.toNat n.toInt.toNat → Q (.inl none) h2) : ∀ N : Nat, (∀ (h2 : ez_H) (k : Int32) (l5 : Option Value) (l6 : Option Value) , zW (fun _ _ => False) (fun q => q = 115 ∨ q = 116 ∨ q = w) (fun _ => False) h h2 → (0 ≤ k.toInt ∧ k.toInt ≤ 17) → (∀ j, j < k.toInt.toNat → (ez_I h2 115 j).toInt = 0) → (100 - k.toInt) < (N : Int) → pw E d 37 3 [some (.ref 71), some (.ref u), some (.int n), some (.ref w), some (.int k), l5, l6] [] h2 Q) := by
  intro N
  induction N with
  | zero => exact fun h2 k l5 l6  F hinv A_z hm => absurd hm (by have w_k := z_rng k; have gn := z_rng n; omega)
  | succ N ih =>
    refine fun h2 k l5 l6  F hinv A_z hm => ?_
    · skip
      have w_k := z_rng k
      have gn := z_rng n
      have S2 := zW_sh F S
      apply ez_Wp_in
      show ez_gw _ _ _ _ _ _ (cz_37) _ _ _ _ _
      refine gw_skip _ ?_
      refine gw_ld rfl rfl ?_
      refine z_C (m := 17) rfl rfl (fun x1 ex1 => ?_)
      refine z_b2 (fun c2 => ?_) (fun c2 => ?_)
      · have c2 : x1.toInt ≤ k.toInt := c2
        refine gw_skip _ ?_
        refine z_C (m := 0) rfl rfl (fun x3 ex3 => ?_)
        refine gw_st rfl rfl rfl ?_
        show ez_gw _ _ _ _ _ _ _ _ [some (.ref 71), some (.ref u), some (.int n), some (.ref w), some (.int x3), l5, l6] _ _ _
        exact ez_Wp_at ((d_cds_L1 (u := u) (n := n) (w := w) S hu hw hd hn hL K (((1000 - x3.toInt)).toNat + 1)) h2 x3 (l5) (l6) F (by omega) ((by rw [show x3.toInt.toNat = 0 by omega]; exact ctM_a (fun j hj => by have := A_z j (by omega); omega))) (by omega)) rfl
      · have c2 : ¬ (x1.toInt ≤ k.toInt) := c2
        refine gw_ld rfl rfl ?_
        refine z_gR (q := 115) (zT S2 (by decide) rfl) (zRf S2 (by decide) (by decide) rfl) (by decide) ?_
        refine gw_ld rfl rfl ?_
        refine z_C (m := 0) rfl rfl (fun x4 ex4 => ?_)
        refine z_is (n := 17) (zT S2 (by decide) rfl) (zN S2 (by decide) rfl) (by omega) (fun h5 e6 => ?_)
        have S7 := zSh_set S2 e6
        have F8 := zW_setA F e6 (by omega)
        have A9 : ∀ j, j < k.toInt.toNat + 1 → (ez_I h5 115 j).toInt = 0 := z0_s A_z e6 (by omega) (by omega) rfl
        refine z_inc rfl (by rw [show (1 : Int32).toInt = 1 from rfl]; omega) (fun x10 ex10 => ?_)
        rw [show (1 : Int32).toInt = 1 from rfl] at ex10
        show ez_gw _ _ _ _ _ _ _ _ [some (.ref 71), some (.ref u), some (.int n), some (.ref w), some (.int x10), l5, l6] _ _ _
        refine z_go ?_
        exact ih h5 x10 (l5) (l6) F8 (by omega) ((by rw [show x10.toInt.toNat = k.toInt.toNat + 1 by omega]; exact A9)) (by omega)
set_option maxRecDepth 4000 in
set_option maxHeartbeats 2000000 in
theorem d_cds {E : Nat → Nat × (Nat → Int32)} {d : Nat} {Q : ez_Q} {h : ez_H} {u : Nat} {n : Int32} {w : Nat} (S : zSh h) {nu nw : Nat} (hu : zA u nu) (hw : zA w nw) (hd : u ≠ 71 ∧ u ≠ 115 ∧ u ≠ 116 ∧ w ≠ 71 ∧ w ≠ 115 ∧ w ≠ 116 ∧ u ≠ w) (hn : 1 ≤ n.toInt ∧ n.toInt ≤ nu ∧ n.toInt ≤ nw ∧ nu ≤ 1000 ∧ nw ≤ 1000 ∧ n.toInt ≤ 288) (hL : aR (ez_I h u) n.toInt.toNat 0 15) (K : ∀ h2, zW (fun _ _ => False) (fun q => q = 115 ∨ q = 116 ∨ q = w) (fun _ => False) h h2 → wdI (ez_I h2 w) (nL (ez_I h u)) n.toInt.toNat n.toInt.toNat → Q (.inl none) h2) : pw E d 37 0 [some (.ref 71), some (.ref u), some (.int n), some (.ref w), none, none, none] [] h Q := by
  have gn := z_rng n
  have F := zW_refl (fun _ _ => False) (fun q => q = 115 ∨ q = 116 ∨ q = w) (fun _ => False) h
  apply ez_Wp_in
  show ez_gw _ _ _ _ _ _ (cz_37) _ _ _ _ _
  refine gw_skip _ ?_
  refine z_C (m := 0) rfl rfl (fun x1 ex1 => ?_)
  refine gw_st rfl rfl rfl ?_
  show ez_gw _ _ _ _ _ _ _ _ [some (.ref 71), some (.ref u), some (.int n), some (.ref w), some (.int x1), none, none] _ _ _
  exact ez_Wp_at ((d_cds_L0 (u := u) (n := n) (w := w) S hu hw hd hn hL K (((100 - x1.toInt)).toNat + 1)) h x1 (none) (none) F (by omega) ((fun j hj => by omega)) (by omega)) rfl
/-! PRINTED: costs -/
set_option maxRecDepth 4000 in
set_option maxHeartbeats 2000000 in
theorem d_cost_L1 {E : Nat → Nat × (Nat → Int32)} {d : Nat} {Q : ez_Q} {h : ez_H} {u : Nat} {w : Nat} (S : zSh h) {nu nw : Nat} {cl cd : Nat → Nat} (hu : zA u nu) (hw : zA w nw) (hn : 286 ≤ nu ∧ nu ≤ 1000 ∧ 30 ≤ nw ∧ nw ≤ 1000) (hcl : ctI (ez_I h 97) cl 286) (hcd : ctI (ez_I h 98) cd 30) (hbl : ∀ s, cl s ≤ 601) (hbd : ∀ s, cd s ≤ 601) (hU : aR (ez_I h u) 286 0 15) (hW : aR (ez_I h w) 30 0 15) (t93 : ctI (ez_I h 93) LEf 29) (t95 : ctI (ez_I h 95) DEf 30) (K : ∀ x : Int64, x.toInt = (sN (fun i => cl i * ((nL (ez_I h u)) i + exL i)) 286 : Nat) + (sN (fun i => cd i * ((nL (ez_I h w)) i + DEf i)) 30 : Nat) → Q (.inl (some (.long x))) h) : ∀ N : Nat, (∀ (h2 : ez_H) (sm : Int64) (k : Int32) , zW (fun _ _ => False) (fun _ => False) (fun _ => False) h h2 → (0 ≤ k.toInt ∧ k.toInt ≤ 30 ∧ sm.toInt = (sN (fun i => cl i * ((nL (ez_I h u)) i + exL i)) 286 : Nat) + (sN (fun i => cd i * ((nL (ez_I h w)) i + DEf i)) k.toInt.toNat : Nat) ∧ sm.toInt ≤ 6875440 + 24040 * k.toInt ∧ 0 ≤ sm.toInt) → (1000 - k.toInt) < (N : Int) → pw E d 39 63 [some (.ref 71), some (.ref u), some (.ref w), some (.long sm), none, some (.int k)] [] h2 Q) := by
  intro N
  induction N with
  | zero => exact fun h2 sm k  F hinv  hm => absurd hm (by have w_k := z_rng k; omega)
  | succ N ih =>
    refine fun h2 sm k  F hinv  hm => ?_
    · skip
      have w_k := z_rng k
      have S2 := zW_sh F S
      have hse : sN (fun i => cd i * ((nL (ez_I h w)) i + DEf i)) (k.toInt.toNat + 1) = sN (fun i => cd i * ((nL (ez_I h w)) i + DEf i)) k.toInt.toNat + cd k.toInt.toNat * ((nL (ez_I h w)) k.toInt.toNat + DEf k.toInt.toNat) := rfl
      apply ez_Wp_in
      show ez_gw _ _ _ _ _ _ (cz_39) _ _ _ _ _
      refine gw_skip _ ?_
      refine gw_ld rfl rfl ?_
      refine z_C (m := 30) rfl rfl (fun x1 ex1 => ?_)
      refine z_b2 (fun c2 => ?_) (fun c2 => ?_)
      · have c2 : x1.toInt ≤ k.toInt := c2
        refine gw_skip _ ?_
        refine gw_ld rfl rfl ?_
        refine z_rl ?_
        exact zW_Q F (K _ (by rw [show (30 : Nat) = k.toInt.toNat by omega]; omega))
      · have c2 : ¬ (x1.toInt ≤ k.toInt) := c2
        refine gw_ld rfl rfl ?_
        refine gw_ld rfl rfl ?_
        refine z_gR (q := 98) (zT S2 (by decide) rfl) (zRf S2 (by decide) (by decide) rfl) (by decide) ?_
        refine gw_ld rfl rfl ?_
        refine z_iaV (n := 30) (zT S2 (by decide) rfl) (zN S2 (by decide) rfl) (by omega) (zW_f F (fun c => c) (fun c => c)) ?_
        generalize ex3 : ez_I h 98 k.toInt.toNat = x3
        have rx3 := z_rng x3
        have yx3 := hcd k.toInt.toNat (by omega)
        rw [ex3, show k.toInt.toNat = k.toInt.toNat by omega] at yx3
        have ybx3 := hbd k.toInt.toNat
        refine z_i2l (fun lg4 elg4 => ?_)
        refine gw_ld rfl rfl ?_
        refine gw_ld rfl rfl ?_
        refine z_iaV (n := nw) ((hw _ S2).1) ((hw _ S2).2) (by omega) (zW_f F (fun c => c) (fun c => c)) ?_
        generalize ex5 : ez_I h w k.toInt.toNat = x5
        have rx5 := z_rng x5
        have yx5 := hW k.toInt.toNat (by omega)
        rw [ex5] at yx5
        have ylx5 : (nL (ez_I h w)) k.toInt.toNat = x5.toInt.toNat := by show (ez_I h w k.toInt.toNat).toInt.toNat = _; rw [show k.toInt.toNat = k.toInt.toNat by omega, ex5]
        refine gw_ld rfl rfl ?_
        refine z_gR (q := 95) (zT S2 (by decide) rfl) (zRf S2 (by decide) (by decide) rfl) (by decide) ?_
        refine gw_ld rfl rfl ?_
        refine z_iaV (n := 30) (zT S2 (by decide) rfl) (zN S2 (by decide) rfl) (by omega) (zW_f F (fun c => c) (fun c => c)) ?_
        generalize ex6 : ez_I h 95 k.toInt.toNat = x6
        have rx6 := z_rng x6
        have yx6 := t95 k.toInt.toNat (by omega)
        rw [ex6, show k.toInt.toNat = k.toInt.toNat by omega] at yx6
        have y13 := DE_13 k.toInt.toNat
        refine z_add (by omega) (fun x7 ex7 => ?_)
        refine z_i2l (fun lg8 elg8 => ?_)
        refine z_lmul (B := 24040) (by omega) (by omega) (fun p10 ep10 np10 mp10 lg9 elg9 => ?_) (fun p hp => by rw [hp]; exact (mulB (a := 601) (b := 40) (c := 24040) (by omega) (by omega) (by decide)).2)
        have hpv : p10 = ((cd k.toInt.toNat * ((nL (ez_I h w)) k.toInt.toNat + DEf k.toInt.toNat) : Nat) : Int) := by rw [ep10, Int.natCast_mul, show lg4.toInt = ((cd k.toInt.toNat : Nat) : Int) by omega, show lg8.toInt = (((nL (ez_I h w)) k.toInt.toNat + DEf k.toInt.toNat : Nat) : Int) by omega]
        refine z_ladd (by omega) (fun lg11 elg11 => ?_)
        refine gw_st rfl rfl rfl ?_
        show ez_gw _ _ _ _ _ _ _ _ [some (.ref 71), some (.ref u), some (.ref w), some (.long lg11), none, some (.int k)] _ _ _
        refine z_inc rfl (by rw [show (1 : Int32).toInt = 1 from rfl]; omega) (fun x12 ex12 => ?_)
        rw [show (1 : Int32).toInt = 1 from rfl] at ex12
        show ez_gw _ _ _ _ _ _ _ _ [some (.ref 71), some (.ref u), some (.ref w), some (.long lg11), none, some (.int x12)] _ _ _
        refine z_go ?_
        exact ih h2 lg11 x12 F (⟨by omega, by omega, by rw [show x12.toInt.toNat = k.toInt.toNat + 1 by omega, hse]; omega, by omega, by omega⟩)  (by omega)
set_option maxRecDepth 4000 in
set_option maxHeartbeats 2000000 in
theorem d_cost_L0 {E : Nat → Nat × (Nat → Int32)} {d : Nat} {Q : ez_Q} {h : ez_H} {u : Nat} {w : Nat} (S : zSh h) {nu nw : Nat} {cl cd : Nat → Nat} (hu : zA u nu) (hw : zA w nw) (hn : 286 ≤ nu ∧ nu ≤ 1000 ∧ 30 ≤ nw ∧ nw ≤ 1000) (hcl : ctI (ez_I h 97) cl 286) (hcd : ctI (ez_I h 98) cd 30) (hbl : ∀ s, cl s ≤ 601) (hbd : ∀ s, cd s ≤ 601) (hU : aR (ez_I h u) 286 0 15) (hW : aR (ez_I h w) 30 0 15) (t93 : ctI (ez_I h 93) LEf 29) (t95 : ctI (ez_I h 95) DEf 30) (K : ∀ x : Int64, x.toInt = (sN (fun i => cl i * ((nL (ez_I h u)) i + exL i)) 286 : Nat) + (sN (fun i => cd i * ((nL (ez_I h w)) i + DEf i)) 30 : Nat) → Q (.inl (some (.long x))) h) : ∀ N : Nat, (∀ (h2 : ez_H) (sm : Int64) (k : Int32) , zW (fun _ _ => False) (fun _ => False) (fun _ => False) h h2 → (0 ≤ k.toInt ∧ k.toInt ≤ 286 ∧ sm.toInt = (sN (fun i => cl i * ((nL (ez_I h u)) i + exL i)) k.toInt.toNat : Nat) ∧ sm.toInt ≤ 24040 * k.toInt ∧ 0 ≤ sm.toInt) → (1000 - k.toInt) < (N : Int) → pw E d 39 5 [some (.ref 71), some (.ref u), some (.ref w), some (.long sm), none, some (.int k)] [] h2 Q) := by
  intro N
  induction N with
  | zero => exact fun h2 sm k  F hinv  hm => absurd hm (by have w_k := z_rng k; omega)
  | succ N ih =>
    refine fun h2 sm k  F hinv  hm => ?_
    · skip
      have w_k := z_rng k
      have S2 := zW_sh F S
      have hse : sN (fun i => cl i * ((nL (ez_I h u)) i + exL i)) (k.toInt.toNat + 1) = sN (fun i => cl i * ((nL (ez_I h u)) i + exL i)) k.toInt.toNat + cl k.toInt.toNat * ((nL (ez_I h u)) k.toInt.toNat + exL k.toInt.toNat) := rfl
      apply ez_Wp_in
      show ez_gw _ _ _ _ _ _ (cz_39) _ _ _ _ _
      refine gw_skip _ ?_
      refine gw_ld rfl rfl ?_
      refine z_C (m := 286) rfl rfl (fun x1 ex1 => ?_)
      refine z_b2 (fun c2 => ?_) (fun c2 => ?_)
      · have c2 : x1.toInt ≤ k.toInt := c2
        refine gw_skip _ ?_
        refine z_C (m := 0) rfl rfl (fun x3 ex3 => ?_)
        refine gw_st rfl rfl rfl ?_
        show ez_gw _ _ _ _ _ _ _ _ [some (.ref 71), some (.ref u), some (.ref w), some (.long sm), none, some (.int x3)] _ _ _
        exact ez_Wp_at ((d_cost_L1 (u := u) (w := w) S hu hw hn hcl hcd hbl hbd hU hW t93 t95 K (((1000 - x3.toInt)).toNat + 1)) h2 sm x3 F (⟨by omega, by omega, by rw [show x3.toInt.toNat = 0 by omega, show (286 : Nat) = k.toInt.toNat by omega]; show _ = _ + ((0 : Nat) : Int); omega, by omega, by omega⟩)  (by omega)) rfl
      · have c2 : ¬ (x1.toInt ≤ k.toInt) := c2
        refine gw_ld rfl rfl ?_
        refine gw_ld rfl rfl ?_
        refine z_gR (q := 97) (zT S2 (by decide) rfl) (zRf S2 (by decide) (by decide) rfl) (by decide) ?_
        refine gw_ld rfl rfl ?_
        refine z_iaV (n := 288) (zT S2 (by decide) rfl) (zN S2 (by decide) rfl) (by omega) (zW_f F (fun c => c) (fun c => c)) ?_
        generalize ex4 : ez_I h 97 k.toInt.toNat = x4
        have rx4 := z_rng x4
        have yx4 := hcl k.toInt.toNat (by omega)
        rw [ex4, show k.toInt.toNat = k.toInt.toNat by omega] at yx4
        have ybx4 := hbl k.toInt.toNat
        refine z_i2l (fun lg5 elg5 => ?_)
        refine gw_ld rfl rfl ?_
        refine gw_ld rfl rfl ?_
        refine z_iaV (n := nu) ((hu _ S2).1) ((hu _ S2).2) (by omega) (zW_f F (fun c => c) (fun c => c)) ?_
        generalize ex6 : ez_I h u k.toInt.toNat = x6
        have rx6 := z_rng x6
        have yx6 := hU k.toInt.toNat (by omega)
        rw [ex6] at yx6
        have ylx6 : (nL (ez_I h u)) k.toInt.toNat = x6.toInt.toNat := by show (ez_I h u k.toInt.toNat).toInt.toNat = _; rw [show k.toInt.toNat = k.toInt.toNat by omega, ex6]
        refine gw_ld rfl rfl ?_
        refine z_C (m := 256) rfl rfl (fun x7 ex7 => ?_)
        refine z_b2 (fun c8 => ?_) (fun c8 => ?_)
        · have c8 : k.toInt ≤ x7.toInt := c8
          refine gw_skip _ ?_
          have yx : exL k.toInt.toNat = 0 := by unfold exL; rw [if_neg (by omega)]
          refine z_C (m := 0) rfl rfl (fun x9 ex9 => ?_)
          refine z_add (by omega) (fun x10 ex10 => ?_)
          refine z_i2l (fun lg11 elg11 => ?_)
          refine z_lmul (B := 24040) (by omega) (by omega) (fun p13 ep13 np13 mp13 lg12 elg12 => ?_) (fun p hp => by rw [hp]; exact (mulB (a := 601) (b := 40) (c := 24040) (by omega) (by omega) (by decide)).2)
          have hpv : p13 = ((cl k.toInt.toNat * ((nL (ez_I h u)) k.toInt.toNat + exL k.toInt.toNat) : Nat) : Int) := by rw [ep13, Int.natCast_mul, show lg5.toInt = ((cl k.toInt.toNat : Nat) : Int) by omega, show lg11.toInt = (((nL (ez_I h u)) k.toInt.toNat + exL k.toInt.toNat : Nat) : Int) by omega]
          refine z_ladd (by omega) (fun lg14 elg14 => ?_)
          refine gw_st rfl rfl rfl ?_
          show ez_gw _ _ _ _ _ _ _ _ [some (.ref 71), some (.ref u), some (.ref w), some (.long lg14), none, some (.int k)] _ _ _
          refine z_inc rfl (by rw [show (1 : Int32).toInt = 1 from rfl]; omega) (fun x15 ex15 => ?_)
          rw [show (1 : Int32).toInt = 1 from rfl] at ex15
          show ez_gw _ _ _ _ _ _ _ _ [some (.ref 71), some (.ref u), some (.ref w), some (.long lg14), none, some (.int x15)] _ _ _
          refine z_go ?_
          exact ih h2 lg14 x15 F (⟨by omega, by omega, by rw [show x15.toInt.toNat = k.toInt.toNat + 1 by omega, hse]; omega, by omega, by omega⟩)  (by omega)
        · have c8 : ¬ (k.toInt ≤ x7.toInt) := c8
          refine gw_ld rfl rfl ?_
          refine z_gR (q := 93) (zT S2 (by decide) rfl) (zRf S2 (by decide) (by decide) rfl) (by decide) ?_
          refine gw_ld rfl rfl ?_
          refine z_C (m := 257) rfl rfl (fun x16 ex16 => ?_)
          refine z_sub (by omega) (fun x17 ex17 => ?_)
          refine z_iaV (n := 29) (zT S2 (by decide) rfl) (zN S2 (by decide) rfl) (by omega) (zW_f F (fun c => c) (fun c => c)) ?_
          generalize ex18 : ez_I h 93 x17.toInt.toNat = x18
          have rx18 := z_rng x18
          have yx18 := t93 x17.toInt.toNat (by omega)
          rw [ex18] at yx18
          have yx : exL k.toInt.toNat = LEf x17.toInt.toNat := by unfold exL; rw [if_pos (by omega), show k.toInt.toNat - 257 = x17.toInt.toNat by omega]
          have y5 := LE_5 x17.toInt.toNat
          refine z_go ?_
          refine gw_skip _ ?_
          refine z_add (by omega) (fun x19 ex19 => ?_)
          refine z_i2l (fun lg20 elg20 => ?_)
          refine z_lmul (B := 24040) (by omega) (by omega) (fun p22 ep22 np22 mp22 lg21 elg21 => ?_) (fun p hp => by rw [hp]; exact (mulB (a := 601) (b := 40) (c := 24040) (by omega) (by omega) (by decide)).2)
          have hpv : p22 = ((cl k.toInt.toNat * ((nL (ez_I h u)) k.toInt.toNat + exL k.toInt.toNat) : Nat) : Int) := by rw [ep22, Int.natCast_mul, show lg5.toInt = ((cl k.toInt.toNat : Nat) : Int) by omega, show lg20.toInt = (((nL (ez_I h u)) k.toInt.toNat + exL k.toInt.toNat : Nat) : Int) by omega]
          refine z_ladd (by omega) (fun lg23 elg23 => ?_)
          refine gw_st rfl rfl rfl ?_
          show ez_gw _ _ _ _ _ _ _ _ [some (.ref 71), some (.ref u), some (.ref w), some (.long lg23), none, some (.int k)] _ _ _
          refine z_inc rfl (by rw [show (1 : Int32).toInt = 1 from rfl]; omega) (fun x24 ex24 => ?_)
          rw [show (1 : Int32).toInt = 1 from rfl] at ex24
          show ez_gw _ _ _ _ _ _ _ _ [some (.ref 71), some (.ref u), some (.ref w), some (.long lg23), none, some (.int x24)] _ _ _
          refine z_go ?_
          exact ih h2 lg23 x24 F (⟨by omega, by omega, by rw [show x24.toInt.toNat = k.toInt.toNat + 1 by omega, hse]; omega, by omega, by omega⟩)  (by omega)
set_option maxRecDepth 4000 in
set_option maxHeartbeats 2000000 in
theorem d_cost {E : Nat → Nat × (Nat → Int32)} {d : Nat} {Q : ez_Q} {h : ez_H} {u : Nat} {w : Nat} (S : zSh h) {nu nw : Nat} {cl cd : Nat → Nat} (hu : zA u nu) (hw : zA w nw) (hn : 286 ≤ nu ∧ nu ≤ 1000 ∧ 30 ≤ nw ∧ nw ≤ 1000) (hcl : ctI (ez_I h 97) cl 286) (hcd : ctI (ez_I h 98) cd 30) (hbl : ∀ s, cl s ≤ 601) (hbd : ∀ s, cd s ≤ 601) (hU : aR (ez_I h u) 286 0 15) (hW : aR (ez_I h w) 30 0 15) (t93 : ctI (ez_I h 93) LEf 29) (t95 : ctI (ez_I h 95) DEf 30) (K : ∀ x : Int64, x.toInt = (sN (fun i => cl i * ((nL (ez_I h u)) i + exL i)) 286 : Nat) + (sN (fun i => cd i * ((nL (ez_I h w)) i + DEf i)) 30 : Nat) → Q (.inl (some (.long x))) h) : pw E d 39 0 [some (.ref 71), some (.ref u), some (.ref w), none, none, none] [] h Q := by
  have F := zW_refl (fun _ _ => False) (fun _ => False) (fun _ => False) h
  apply ez_Wp_in
  show ez_gw _ _ _ _ _ _ (cz_39) _ _ _ _ _
  refine gw_skip _ ?_
  refine z_lC (m := 0) rfl rfl (fun lg1 elg1 => ?_)
  refine gw_st rfl rfl rfl ?_
  show ez_gw _ _ _ _ _ _ _ _ [some (.ref 71), some (.ref u), some (.ref w), some (.long lg1), none, none] _ _ _
  refine z_C (m := 0) rfl rfl (fun x2 ex2 => ?_)
  refine gw_st rfl rfl rfl ?_
  show ez_gw _ _ _ _ _ _ _ _ [some (.ref 71), some (.ref u), some (.ref w), some (.long lg1), none, some (.int x2)] _ _ _
  exact ez_Wp_at ((d_cost_L0 (u := u) (w := w) S hu hw hn hcl hcd hbl hbd hU hW t93 t95 K (((1000 - x2.toInt)).toNat + 1)) h lg1 x2 F (⟨by omega, by omega, by rw [show x2.toInt.toNat = 0 by omega]; show _ = ((0 : Nat) : Int); omega, by omega, by omega⟩)  (by omega)) rfl
end
section
/-! PRINTED by wip/pack: end of both -/
/-- the ready bytes laid n by n behind z -/
noncomputable def enT (f g : Nat → Int32) (z n : Nat) (i : Nat) : Int32 := if i < z then f i else g ((i - z) % n)
noncomputable def enM (f g : Nat → Int32) (z n : Nat) (i : Nat) : Int32 := if i < z then f i else (g ((i - z) % n)).toInt8.toInt32
theorem en_0 {f g : Nat → Int32} {z n i : Nat} (h : i < z) : enT f g z n i = f i := if_pos h
theorem em_0 {f g : Nat → Int32} {z n i : Nat} (h : i < z) : enM f g z n i = f i := if_pos h
theorem md_0 {a j n : Nat} (h : a % n = 0) (hj : j < n) : (a + j) % n = j := by rw [Nat.add_mod, h, Nat.zero_add, Nat.mod_mod, Nat.mod_eq_of_lt hj]
theorem en_v {f g : Nat → Int32} {z n a j : Nat} (h : a % n = 0) (hj : j < n) : enT f g z n (z + a + j) = g j := by
  unfold enT
  rw [if_neg (by omega), show z + a + j - z = a + j by omega, md_0 h hj]
theorem em_v {f g : Nat → Int32} {z n a j : Nat} (h : a % n = 0) (hj : j < n) : enM f g z n (z + a + j) = (g j).toInt8.toInt32 := by
  unfold enM
  rw [if_neg (by omega), show z + a + j - z = a + j by omega, md_0 h hj]
theorem en_s {f f2 : Nat → Int32} {e : Nat → Int32} {m k : Nat} {v : Int32} (A : ∀ i, i < m + k → f i = e i) (h1 : f2 (m + k) = v) (h2 : ∀ i, i ≠ m + k → f2 i = f i) (hv : v = e (m + k)) : ∀ i, i < m + (k + 1) → f2 i = e i := fun i hi => by
  by_cases q : i = m + k
  · rw [q, h1, hv]
  · rw [h2 i q]; exact A i (by omega)
theorem z_b0 {y : Int32} (h : y.toInt = 0) : (y.toInt8.toInt32).toInt = 0 := by
  have h1 := n_i2b y
  have h2 := n_i2b_rng y
  omega
theorem x65_0 : ∀ q k : Nat, (q = 2 ∧ k = 1) → (q = 2 ∧ k = 1) := fun q k hk => hk
theorem x65_1 : ∀ q : Nat, (q = 3) → (q = 3 ∨ q = 6) := fun q hk => (.inl hk)
theorem x65_2 : ∀ q : Nat, (False) → (False) := fun q hk => hk.elim
theorem x65_3 : ∀ k : Nat, ¬ (6 = 2 ∧ k = 1) := fun k c => by omega
set_option maxRecDepth 4000 in
set_option maxHeartbeats 2000000 in
theorem x_endF_L0 {E : Nat → Nat × (Nat → Int32)} {d : Nat} {Q : ez_Q} {h : ez_H} {n : Int32} {t : Int32} (S : zSh h) (hz : 0 ≤ (ez_I h 2 1).toInt ∧ (ez_I h 2 1).toInt ≤ 6000) (K : ∀ h2 (x : Int32), zW (fun q k => q = 2 ∧ k = 1) (fun q => q = 3 ∨ q = 6) (fun _ => False) h h2 → (((0 ≤ n.toInt ∧ n.toInt ≤ 20 ∧ 1 ≤ t.toInt ∧ t.toInt ≤ 100 ∧ (ez_I h 2 1).toInt + n.toInt * t.toInt ≤ 6000) ∧ x.toInt = (ez_I h 2 1).toInt + n.toInt * t.toInt ∧ (ez_I h2 2 1).toInt = (ez_I h 2 1).toInt + n.toInt * t.toInt ∧ (∀ i : Nat, (i : Int) < (ez_I h 2 1).toInt + n.toInt * t.toInt → ez_I h2 3 i = enT (ez_I h 3) (ez_I h 6) (ez_I h 2 1).toInt.toNat n.toInt.toNat i) ∧ (∀ k, k < 20 → (ez_I h2 6 k).toInt = 0)) ∨ (¬ (0 ≤ n.toInt ∧ n.toInt ≤ 20 ∧ 1 ≤ t.toInt ∧ t.toInt ≤ 100 ∧ (ez_I h 2 1).toInt + n.toInt * t.toInt ≤ 6000) ∧ x.toInt = -1 ∧ ez_I h2 2 1 = ez_I h 2 1 ∧ ez_I h2 3 = ez_I h 3 ∧ ez_I h2 6 = ez_I h 6)) → Q (.inl (some (.int x))) h2) : ∀ N : Nat, (∀ (h2 : ez_H) (r : Int32) (l4 : Option Value) (a : Nat), zW (fun q k => q = 2 ∧ k = 1) (fun q => q = 3 ∨ q = 6) (fun _ => False) h h2 → ((0 ≤ n.toInt ∧ n.toInt ≤ 20 ∧ 1 ≤ t.toInt ∧ t.toInt ≤ 100 ∧ (ez_I h 2 1).toInt + n.toInt * t.toInt ≤ 6000) ∧ 0 ≤ r.toInt ∧ r.toInt ≤ t.toInt ∧ (a : Int) = r.toInt * n.toInt ∧ (ez_I h2 2 1).toInt = (ez_I h 2 1).toInt + a ∧ a % n.toInt.toNat = 0) → (ez_I h2 6 = ez_I h 6) → ((∀ i, i < (ez_I h 2 1).toInt.toNat + a → ez_I h2 3 i = enT (ez_I h 3) (ez_I h 6) (ez_I h 2 1).toInt.toNat n.toInt.toNat i)) → (1000 * (200 - r.toInt)) < (N : Int) → pw E (d + 1) 2 42 [some (.ref 1), some (.int n), some (.int t), some (.int r), l4] [] h2 Q) ∧ (∀ (h2 : ez_H) (r : Int32) (j : Int32) (a : Nat), zW (fun q k => q = 2 ∧ k = 1) (fun q => q = 3 ∨ q = 6) (fun _ => False) h h2 → ((0 ≤ n.toInt ∧ n.toInt ≤ 20 ∧ 1 ≤ t.toInt ∧ t.toInt ≤ 100 ∧ (ez_I h 2 1).toInt + n.toInt * t.toInt ≤ 6000) ∧ 0 ≤ r.toInt ∧ r.toInt < t.toInt ∧ (a : Int) = r.toInt * n.toInt ∧ 0 ≤ j.toInt ∧ j.toInt ≤ n.toInt ∧ (ez_I h2 2 1).toInt = (ez_I h 2 1).toInt + a + j.toInt ∧ a % n.toInt.toNat = 0) → (ez_I h2 6 = ez_I h 6) → ((∀ i, i < (ez_I h 2 1).toInt.toNat + a + j.toInt.toNat → ez_I h2 3 i = enT (ez_I h 3) (ez_I h 6) (ez_I h 2 1).toInt.toNat n.toInt.toNat i)) → (1000 * (200 - r.toInt) - 1 - j.toInt) < (N : Int) → pw E (d + 1) 2 50 [some (.ref 1), some (.int n), some (.int t), some (.int r), some (.int j)] [] h2 Q) := by
  intro N
  induction N with
  | zero => exact ⟨fun h2 r l4 a F hinv A_b6 A_en hm => absurd hm (by have w_r := z_rng r; have gn := z_rng n; have gt := z_rng t; have hmul := fun (q1 : 0 ≤ n.toInt ∧ n.toInt ≤ 20) (q2 : 0 ≤ t.toInt ∧ t.toInt ≤ 100) => mulB (x := n.toInt) (y := t.toInt) (a := 20) (b := 100) (c := 2000) q1 q2 (by decide); omega), fun h2 r j a F hinv A_b6 A_en hm => absurd hm (by have w_r := z_rng r; have w_j := z_rng j; have gn := z_rng n; have gt := z_rng t; have hmul := fun (q1 : 0 ≤ n.toInt ∧ n.toInt ≤ 20) (q2 : 0 ≤ t.toInt ∧ t.toInt ≤ 100) => mulB (x := n.toInt) (y := t.toInt) (a := 20) (b := 100) (c := 2000) q1 q2 (by decide); omega)⟩
  | succ N ih =>
    refine ⟨fun h2 r l4 a F hinv A_b6 A_en hm => ?_, fun h2 r j a F hinv A_b6 A_en hm => ?_⟩
    · skip
      have w_r := z_rng r
      have gn := z_rng n
      have gt := z_rng t
      have hmul := fun (q1 : 0 ≤ n.toInt ∧ n.toInt ≤ 20) (q2 : 0 ≤ t.toInt ∧ t.toInt ≤ 100) => mulB (x := n.toInt) (y := t.toInt) (a := 20) (b := 100) (c := 2000) q1 q2 (by decide)
      have S2 := zW_sh F S
      have hm1 : r.toInt < t.toInt → (r.toInt + 1) * n.toInt ≤ t.toInt * n.toInt := fun q => Int.mul_le_mul_of_nonneg_right (by omega) (by omega)
      have hm2 : (r.toInt + 1) * n.toInt = r.toInt * n.toInt + n.toInt := by rw [Int.add_mul, Int.one_mul]
      have hm3 : t.toInt * n.toInt = n.toInt * t.toInt := Int.mul_comm _ _
      apply ez_Wp_in
      show ez_gw _ _ _ _ _ _ (cz_2) _ _ _ _ _
      refine gw_skip _ ?_
      have r1 := z_rng (ez_I h2 2 1)
      refine gw_ld rfl rfl ?_
      refine gw_ld rfl rfl ?_
      refine z_b2 (fun c2 => ?_) (fun c2 => ?_)
      · have c2 : t.toInt ≤ r.toInt := c2
        refine gw_skip _ ?_
        have hrt : r.toInt = t.toInt := by omega
        have hrn : r.toInt * n.toInt = n.toInt * t.toInt := by rw [hrt, Int.mul_comm]
        refine gw_ld rfl rfl ?_
        refine z_gR (q := 6) (zT S2 (by decide) rfl) (zRf S2 (by decide) (by decide) rfl) (by decide) ?_
        refine z_C (m := 0) rfl rfl (fun x3 ex3 => ?_)
        refine z_cl rfl rfl rfl rfl rfl rfl rfl rfl rfl rfl rfl (trivial) ?_
        refine wp_fill (zT S2 (by decide) rfl) (by rw [show ez_l h2 6 = 20 from zN S2 (by decide) rfl]; omega) ?_
        generalize e5 : ez_rowI h2 6 (pf_fill (ez_I h2 6) (ez_l h2 6) x3) = h4
        have e5 := e5.symm
        have A6 := zIr_at e5 (show ez_l h2 6 = 20 from zN S2 (by decide) rfl)
        have S7 := zSh_row S2 e5
        have F8 := zW_row F e5 (by omega)
        have A9 : (∀ i, i < (ez_I h 2 1).toInt.toNat + a → ez_I h4 3 i = enT (ez_I h 3) (ez_I h 6) (ez_I h 2 1).toInt.toNat n.toInt.toNat i) := by rw [zIr_fn e5 3 (by omega)]; exact A_en
        have f10 : ez_I h4 2 1 = (ez_I h2 2 1) := (zI_row e5 (by omega)).trans (rfl)
        have A11 : (∀ k, k < 20 → ez_I h4 6 k = x3) := A6
        refine gw_ld rfl rfl ?_
        refine z_gR (q := 2) (zT S7 (by decide) rfl) (zRf S7 (by decide) (by decide) rfl) (by decide) ?_
        refine z_gI2 (by decide) (zT S7 (by decide) rfl) (f10) ?_
        refine z_ri ?_
        have t12 := congrArg Int32.toInt (f10)
        exact K _ _ F8 (.inl ⟨by omega, by omega, by omega, (fun i hi => A9 i (by omega)), (fun k hk => by rw [A11 k hk]; omega)⟩)
      · have c2 : ¬ (t.toInt ≤ r.toInt) := c2
        refine z_C (m := 0) rfl rfl (fun x13 ex13 => ?_)
        refine gw_st rfl rfl rfl ?_
        show ez_gw _ _ _ _ _ _ _ _ [some (.ref 1), some (.int n), some (.int t), some (.int r), some (.int x13)] _ _ _
        exact ez_Wp_at (ih.2 h2 r x13 a F (by omega) A_b6 ((by rw [show x13.toInt.toNat = 0 by omega]; exact A_en)) (by omega)) rfl
    · skip
      have w_r := z_rng r
      have w_j := z_rng j
      have gn := z_rng n
      have gt := z_rng t
      have hmul := fun (q1 : 0 ≤ n.toInt ∧ n.toInt ≤ 20) (q2 : 0 ≤ t.toInt ∧ t.toInt ≤ 100) => mulB (x := n.toInt) (y := t.toInt) (a := 20) (b := 100) (c := 2000) q1 q2 (by decide)
      have S2 := zW_sh F S
      have hm1 : r.toInt < t.toInt → (r.toInt + 1) * n.toInt ≤ t.toInt * n.toInt := fun q => Int.mul_le_mul_of_nonneg_right (by omega) (by omega)
      have hm2 : (r.toInt + 1) * n.toInt = r.toInt * n.toInt + n.toInt := by rw [Int.add_mul, Int.one_mul]
      have hm3 : t.toInt * n.toInt = n.toInt * t.toInt := Int.mul_comm _ _
      apply ez_Wp_in
      show ez_gw _ _ _ _ _ _ (cz_2) _ _ _ _ _
      refine gw_skip _ ?_
      have r14 := z_rng (ez_I h2 2 1)
      refine gw_ld rfl rfl ?_
      refine gw_ld rfl rfl ?_
      refine z_b2 (fun c15 => ?_) (fun c15 => ?_)
      · have c15 : n.toInt ≤ j.toInt := c15
        refine gw_skip _ ?_
        refine z_inc rfl (by rw [show (1 : Int32).toInt = 1 from rfl]; omega) (fun x16 ex16 => ?_)
        rw [show (1 : Int32).toInt = 1 from rfl] at ex16
        show ez_gw _ _ _ _ _ _ _ _ [some (.ref 1), some (.int n), some (.int t), some (.int x16), some (.int j)] _ _ _
        refine z_go ?_
        exact ih.1 h2 x16 (some (.int j)) (a + n.toInt.toNat) F (⟨by omega, by omega, by omega, by rw [show x16.toInt = r.toInt + 1 by omega]; omega, by omega, by rw [Nat.add_mod_right]; omega⟩) (A_b6) ((by rw [show (ez_I h 2 1).toInt.toNat + (a + n.toInt.toNat) = (ez_I h 2 1).toInt.toNat + a + j.toInt.toNat by omega]; exact A_en)) (by omega)
      · have c15 : ¬ (n.toInt ≤ j.toInt) := c15
        refine gw_ld rfl rfl ?_
        refine z_gR (q := 2) (zT S2 (by decide) rfl) (zRf S2 (by decide) (by decide) rfl) (by decide) ?_
        refine gw_ld rfl rfl ?_
        refine z_gR (q := 6) (zT S2 (by decide) rfl) (zRf S2 (by decide) (by decide) rfl) (by decide) ?_
        refine gw_ld rfl rfl ?_
        refine z_iaV (n := 20) (zT S2 (by decide) rfl) (zN S2 (by decide) rfl) (by omega) (congrFun A_b6 _) ?_
        generalize ex17 : ez_I h 6 j.toInt.toNat = x17
        have rx17 := z_rng x17
        refine z_cl rfl rfl rfl rfl rfl rfl rfl rfl rfl rfl rfl (zT S2 (by decide) rfl) ?_
        refine c_add (p := 2) (v := x17) S2 (by decide) (by omega) (fun h18 F19 k20 k21 k22 => ?_)
        rw [show (ez_I h2 2 1).toInt.toNat = (ez_I h 2 1).toInt.toNat + a + j.toInt.toNat by omega] at k21 k22
        have A23 : ∀ i, i < (ez_I h 2 1).toInt.toNat + a + (j.toInt.toNat + 1) → ez_I h18 3 i = enT (ez_I h 3) (ez_I h 6) (ez_I h 2 1).toInt.toNat n.toInt.toNat i := en_s A_en k21 k22 (by rw [en_v (by omega) (by omega)]; exact ex17.symm)
        have S24 := zW_sh F19 S2
        have F25 := zW_tr F (zW_mono F19 (x65_0) (x65_1) (x65_2))
        have r26 := z_rng (ez_I h18 2 1)
        have A27 : ez_I h18 6 = ez_I h 6 := by rw [zW_fn F19 6 (by decide) (x65_3)]; exact A_b6
        refine z_inc rfl (by rw [show (1 : Int32).toInt = 1 from rfl]; omega) (fun x28 ex28 => ?_)
        rw [show (1 : Int32).toInt = 1 from rfl] at ex28
        show ez_gw _ _ _ _ _ _ _ _ [some (.ref 1), some (.int n), some (.int t), some (.int r), some (.int x28)] _ _ _
        refine z_go ?_
        exact ih.2 h18 r x28 a F25 (by omega) A27 ((by rw [show x28.toInt.toNat = j.toInt.toNat + 1 by omega]; exact A23)) (by omega)
set_option maxRecDepth 4000 in
set_option maxHeartbeats 2000000 in
theorem x_endF {E : Nat → Nat × (Nat → Int32)} {d : Nat} {Q : ez_Q} {h : ez_H} {n : Int32} {t : Int32} (S : zSh h) (hz : 0 ≤ (ez_I h 2 1).toInt ∧ (ez_I h 2 1).toInt ≤ 6000) (K : ∀ h2 (x : Int32), zW (fun q k => q = 2 ∧ k = 1) (fun q => q = 3 ∨ q = 6) (fun _ => False) h h2 → (((0 ≤ n.toInt ∧ n.toInt ≤ 20 ∧ 1 ≤ t.toInt ∧ t.toInt ≤ 100 ∧ (ez_I h 2 1).toInt + n.toInt * t.toInt ≤ 6000) ∧ x.toInt = (ez_I h 2 1).toInt + n.toInt * t.toInt ∧ (ez_I h2 2 1).toInt = (ez_I h 2 1).toInt + n.toInt * t.toInt ∧ (∀ i : Nat, (i : Int) < (ez_I h 2 1).toInt + n.toInt * t.toInt → ez_I h2 3 i = enT (ez_I h 3) (ez_I h 6) (ez_I h 2 1).toInt.toNat n.toInt.toNat i) ∧ (∀ k, k < 20 → (ez_I h2 6 k).toInt = 0)) ∨ (¬ (0 ≤ n.toInt ∧ n.toInt ≤ 20 ∧ 1 ≤ t.toInt ∧ t.toInt ≤ 100 ∧ (ez_I h 2 1).toInt + n.toInt * t.toInt ≤ 6000) ∧ x.toInt = -1 ∧ ez_I h2 2 1 = ez_I h 2 1 ∧ ez_I h2 3 = ez_I h 3 ∧ ez_I h2 6 = ez_I h 6)) → Q (.inl (some (.int x))) h2) : pw E (d + 1) 2 0 [some (.ref 1), some (.int n), some (.int t), none, none] [] h Q := by
  have gn := z_rng n
  have gt := z_rng t
  have hmul := fun (q1 : 0 ≤ n.toInt ∧ n.toInt ≤ 20) (q2 : 0 ≤ t.toInt ∧ t.toInt ≤ 100) => mulB (x := n.toInt) (y := t.toInt) (a := 20) (b := 100) (c := 2000) q1 q2 (by decide)
  have F := zW_refl (fun q k => q = 2 ∧ k = 1) (fun q => q = 3 ∨ q = 6) (fun _ => False) h
  apply ez_Wp_in
  show ez_gw _ _ _ _ _ _ (cz_2) _ _ _ _ _
  refine gw_skip _ ?_
  have r1 := z_rng (ez_I h 2 1)
  refine gw_ld rfl rfl ?_
  refine z_b1 (fun c2 => ?_) (fun c2 => ?_)
  · have c2 : n.toInt < 0 := c2
    refine gw_skip _ ?_
    refine z_C (m := -1) rfl rfl (fun x3 ex3 => ?_)
    refine z_ri ?_
    exact K _ _ F (.inr ⟨by omega, by omega, rfl, rfl, rfl⟩)
  · have c2 : ¬ (n.toInt < 0) := c2
    refine gw_ld rfl rfl ?_
    refine z_C (m := 20) rfl rfl (fun x4 ex4 => ?_)
    refine z_b2 (fun c5 => ?_) (fun c5 => ?_)
    · have c5 : x4.toInt < n.toInt := c5
      refine gw_skip _ ?_
      refine z_C (m := -1) rfl rfl (fun x6 ex6 => ?_)
      refine z_ri ?_
      exact K _ _ F (.inr ⟨by omega, by omega, rfl, rfl, rfl⟩)
    · have c5 : ¬ (x4.toInt < n.toInt) := c5
      refine gw_ld rfl rfl ?_
      refine z_C (m := 1) rfl rfl (fun x7 ex7 => ?_)
      refine z_b2 (fun c8 => ?_) (fun c8 => ?_)
      · have c8 : t.toInt < x7.toInt := c8
        refine gw_skip _ ?_
        refine z_C (m := -1) rfl rfl (fun x9 ex9 => ?_)
        refine z_ri ?_
        exact K _ _ F (.inr ⟨by omega, by omega, rfl, rfl, rfl⟩)
      · have c8 : ¬ (t.toInt < x7.toInt) := c8
        refine gw_ld rfl rfl ?_
        refine z_C (m := 100) rfl rfl (fun x10 ex10 => ?_)
        refine z_b2 (fun c11 => ?_) (fun c11 => ?_)
        · have c11 : x10.toInt < t.toInt := c11
          refine gw_skip _ ?_
          refine z_C (m := -1) rfl rfl (fun x12 ex12 => ?_)
          refine z_ri ?_
          exact K _ _ F (.inr ⟨by omega, by omega, rfl, rfl, rfl⟩)
        · have c11 : ¬ (x10.toInt < t.toInt) := c11
          refine gw_ld rfl rfl ?_
          refine z_gR (q := 2) (zT S (by decide) rfl) (zRf S (by decide) (by decide) rfl) (by decide) ?_
          refine z_gI2 (by decide) (zT S (by decide) rfl) (rfl) ?_
          refine gw_ld rfl rfl ?_
          refine gw_ld rfl rfl ?_
          refine z_mul (by have hml := hmul (by omega) (by omega); omega) (fun x13 ex13 => ?_)
          have hml := hmul (by omega) (by omega)
          refine z_add (by have hml := hmul (by omega) (by omega); omega) (fun x14 ex14 => ?_)
          refine z_C (m := 6000) rfl rfl (fun x15 ex15 => ?_)
          refine z_b2 (fun c16 => ?_) (fun c16 => ?_)
          · have c16 : x14.toInt ≤ x15.toInt := c16
            refine gw_skip _ ?_
            refine z_C (m := 0) rfl rfl (fun x17 ex17 => ?_)
            refine gw_st rfl rfl rfl ?_
            show ez_gw _ _ _ _ _ _ _ _ [some (.ref 1), some (.int n), some (.int t), some (.int x17), none] _ _ _
            exact ez_Wp_at ((x_endF_L0 (n := n) (t := t) S hz K (((1000 * (200 - x17.toInt))).toNat + 1)).1 h x17 (none) 0 F (⟨by omega, by omega, by omega, by rw [show x17.toInt = 0 by omega, Int.zero_mul]; rfl, by omega, Nat.zero_mod _⟩) (rfl) ((fun i hi => (en_0 (by omega)).symm)) (by omega)) rfl
          · have c16 : ¬ (x14.toInt ≤ x15.toInt) := c16
            refine z_C (m := -1) rfl rfl (fun x18 ex18 => ?_)
            refine z_ri ?_
            exact K _ _ F (.inr ⟨by omega, by omega, rfl, rfl, rfl⟩)
set_option maxRecDepth 4000 in
set_option maxHeartbeats 2000000 in
theorem m_endF_L1 {E : Nat → Nat × (Nat → Int32)} {d : Nat} {Q : ez_Q} {h : ez_H} {n : Int32} {t : Int32} (S : zSh h) (hz : 0 ≤ (ez_I h 71 6).toInt ∧ (ez_I h 71 6).toInt ≤ 6000) (hb : aR (ez_I h 72) 6000 (-128) 127) (K : ∀ h2 (x : Int32), zW (fun q k => q = 71 ∧ k = 0 ∨ q = 71 ∧ k = 6) (fun q => q = 72 ∨ q = 74) (fun _ => False) h h2 → (((0 ≤ n.toInt ∧ n.toInt ≤ 20 ∧ 1 ≤ t.toInt ∧ t.toInt ≤ 100 ∧ (ez_I h 71 6).toInt + n.toInt * t.toInt ≤ 6000) ∧ x.toInt = (ez_I h 71 6).toInt + n.toInt * t.toInt ∧ (ez_I h2 71 6).toInt = (ez_I h 71 6).toInt + n.toInt * t.toInt ∧ (∀ i : Nat, (i : Int) < (ez_I h 71 6).toInt + n.toInt * t.toInt → ez_I h2 72 i = enM (ez_I h 72) (ez_I h 74) (ez_I h 71 6).toInt.toNat n.toInt.toNat i) ∧ aR (ez_I h2 72) 6000 (-128) 127 ∧ (∀ k, k < 20 → (ez_I h2 74 k).toInt = 0)) ∨ (¬ (0 ≤ n.toInt ∧ n.toInt ≤ 20 ∧ 1 ≤ t.toInt ∧ t.toInt ≤ 100 ∧ (ez_I h 71 6).toInt + n.toInt * t.toInt ≤ 6000) ∧ x.toInt = -1 ∧ ez_I h2 71 6 = ez_I h 71 6 ∧ ez_I h2 72 = ez_I h 72 ∧ ez_I h2 74 = ez_I h 74)) → Q (.inl (some (.int x))) h2) : ∀ N : Nat, (∀ (h2 : ez_H) (k : Int32) (l4 : Option Value) , zW (fun q k => q = 71 ∧ k = 0 ∨ q = 71 ∧ k = 6) (fun q => q = 72 ∨ q = 74) (fun _ => False) h h2 → ((0 ≤ n.toInt ∧ n.toInt ≤ 20 ∧ 1 ≤ t.toInt ∧ t.toInt ≤ 100 ∧ (ez_I h 71 6).toInt + n.toInt * t.toInt ≤ 6000) ∧ 0 ≤ k.toInt ∧ k.toInt ≤ 20 ∧ (ez_I h2 71 6).toInt = (ez_I h 71 6).toInt + n.toInt * t.toInt) → ((∀ i, i < ((ez_I h 71 6).toInt + n.toInt * t.toInt).toNat → ez_I h2 72 i = enM (ez_I h 72) (ez_I h 74) (ez_I h 71 6).toInt.toNat n.toInt.toNat i)) → (aR (ez_I h2 72) 6000 (-128) 127) → (∀ j, j < k.toInt.toNat → (ez_I h2 74 j).toInt = 0) → (100 - k.toInt) < (N : Int) → pw E d 26 101 [some (.ref 71), some (.int n), some (.int t), some (.int k), l4] [] h2 Q) := by
  intro N
  induction N with
  | zero => exact fun h2 k l4  F hinv A_en A_ar A_z0 hm => absurd hm (by have w_k := z_rng k; have gn := z_rng n; have gt := z_rng t; have hmul := fun (q1 : 0 ≤ n.toInt ∧ n.toInt ≤ 20) (q2 : 0 ≤ t.toInt ∧ t.toInt ≤ 100) => mulB (x := n.toInt) (y := t.toInt) (a := 20) (b := 100) (c := 2000) q1 q2 (by decide); omega)
  | succ N ih =>
    refine fun h2 k l4  F hinv A_en A_ar A_z0 hm => ?_
    · skip
      have w_k := z_rng k
      have gn := z_rng n
      have gt := z_rng t
      have hmul := fun (q1 : 0 ≤ n.toInt ∧ n.toInt ≤ 20) (q2 : 0 ≤ t.toInt ∧ t.toInt ≤ 100) => mulB (x := n.toInt) (y := t.toInt) (a := 20) (b := 100) (c := 2000) q1 q2 (by decide)
      have S2 := zW_sh F S
      apply ez_Wp_in
      show ez_gw _ _ _ _ _ _ (cz_26) _ _ _ _ _
      refine gw_skip _ ?_
      have r1 := z_rng (ez_I h2 71 0)
      have r2 := z_rng (ez_I h2 71 6)
      refine gw_ld rfl rfl ?_
      refine z_C (m := 20) rfl rfl (fun x3 ex3 => ?_)
      refine z_b2 (fun c4 => ?_) (fun c4 => ?_)
      · have c4 : x3.toInt ≤ k.toInt := c4
        refine gw_skip _ ?_
        refine gw_ld rfl rfl ?_
        refine z_gI2 (by decide) (zT S2 (by decide) rfl) (rfl) ?_
        refine z_ri ?_
        exact K _ _ F (.inl ⟨by omega, by omega, by omega, (fun i hi => A_en i (by omega)), A_ar, (fun k hk => A_z0 k (by omega))⟩)
      · have c4 : ¬ (x3.toInt ≤ k.toInt) := c4
        refine gw_ld rfl rfl ?_
        refine z_gR (q := 74) (zT S2 (by decide) rfl) (zRf S2 (by decide) (by decide) rfl) (by decide) ?_
        refine gw_ld rfl rfl ?_
        refine z_C (m := 0) rfl rfl (fun x5 ex5 => ?_)
        refine z_bs (n := 20) (zT S2 (by decide) rfl) (zN S2 (by decide) rfl) (by omega) (fun h6 e7 => ?_)
        have S9 := zSh_set S2 e7
        have F10 := zW_setA F e7 (by decide)
        have f11 : ez_I h6 71 0 = (ez_I h2 71 0) := (zI_ne e7 (by omega)).trans (rfl)
        have f12 : ez_I h6 71 6 = (ez_I h2 71 6) := (zI_ne e7 (by omega)).trans (rfl)
        have A13 : (∀ i, i < ((ez_I h 71 6).toInt + n.toInt * t.toInt).toNat → ez_I h6 72 i = enM (ez_I h 72) (ez_I h 74) (ez_I h 71 6).toInt.toNat n.toInt.toNat i) := by rw [zI_fn e7 72 (by decide)]; exact A_en
        have A14 : aR (ez_I h6 72) 6000 (-128) 127 := by rw [zI_fn e7 72 (by decide)]; exact A_ar
        have A15 : ∀ j, j < k.toInt.toNat + 1 → (ez_I h6 74 j).toInt = 0 := z0_s A_z0 e7 (by omega) (z_b0 (by omega)) rfl
        refine z_inc rfl (by rw [show (1 : Int32).toInt = 1 from rfl]; omega) (fun x16 ex16 => ?_)
        rw [show (1 : Int32).toInt = 1 from rfl] at ex16
        show ez_gw _ _ _ _ _ _ _ _ [some (.ref 71), some (.int n), some (.int t), some (.int x16), l4] _ _ _
        refine z_go ?_
        have t17 := congrArg Int32.toInt (f11)
        have t18 := congrArg Int32.toInt (f12)
        exact ih h6 x16 (l4) F10 (by omega) (A13) A14 ((by rw [show x16.toInt.toNat = k.toInt.toNat + 1 by omega]; exact A15)) (by omega)
set_option maxRecDepth 4000 in
set_option maxHeartbeats 2000000 in
theorem m_endF_L0 {E : Nat → Nat × (Nat → Int32)} {d : Nat} {Q : ez_Q} {h : ez_H} {n : Int32} {t : Int32} (S : zSh h) (hz : 0 ≤ (ez_I h 71 6).toInt ∧ (ez_I h 71 6).toInt ≤ 6000) (hb : aR (ez_I h 72) 6000 (-128) 127) (K : ∀ h2 (x : Int32), zW (fun q k => q = 71 ∧ k = 0 ∨ q = 71 ∧ k = 6) (fun q => q = 72 ∨ q = 74) (fun _ => False) h h2 → (((0 ≤ n.toInt ∧ n.toInt ≤ 20 ∧ 1 ≤ t.toInt ∧ t.toInt ≤ 100 ∧ (ez_I h 71 6).toInt + n.toInt * t.toInt ≤ 6000) ∧ x.toInt = (ez_I h 71 6).toInt + n.toInt * t.toInt ∧ (ez_I h2 71 6).toInt = (ez_I h 71 6).toInt + n.toInt * t.toInt ∧ (∀ i : Nat, (i : Int) < (ez_I h 71 6).toInt + n.toInt * t.toInt → ez_I h2 72 i = enM (ez_I h 72) (ez_I h 74) (ez_I h 71 6).toInt.toNat n.toInt.toNat i) ∧ aR (ez_I h2 72) 6000 (-128) 127 ∧ (∀ k, k < 20 → (ez_I h2 74 k).toInt = 0)) ∨ (¬ (0 ≤ n.toInt ∧ n.toInt ≤ 20 ∧ 1 ≤ t.toInt ∧ t.toInt ≤ 100 ∧ (ez_I h 71 6).toInt + n.toInt * t.toInt ≤ 6000) ∧ x.toInt = -1 ∧ ez_I h2 71 6 = ez_I h 71 6 ∧ ez_I h2 72 = ez_I h 72 ∧ ez_I h2 74 = ez_I h 74)) → Q (.inl (some (.int x))) h2) : ∀ N : Nat, (∀ (h2 : ez_H) (r : Int32) (l4 : Option Value) (a : Nat), zW (fun q k => q = 71 ∧ k = 0 ∨ q = 71 ∧ k = 6) (fun q => q = 72 ∨ q = 74) (fun _ => False) h h2 → ((0 ≤ n.toInt ∧ n.toInt ≤ 20 ∧ 1 ≤ t.toInt ∧ t.toInt ≤ 100 ∧ (ez_I h 71 6).toInt + n.toInt * t.toInt ≤ 6000) ∧ 0 ≤ r.toInt ∧ r.toInt ≤ t.toInt ∧ (a : Int) = r.toInt * n.toInt ∧ (ez_I h2 71 6).toInt = (ez_I h 71 6).toInt + a ∧ a % n.toInt.toNat = 0) → (ez_I h2 74 = ez_I h 74) → ((∀ i, i < (ez_I h 71 6).toInt.toNat + a → ez_I h2 72 i = enM (ez_I h 72) (ez_I h 74) (ez_I h 71 6).toInt.toNat n.toInt.toNat i)) → (aR (ez_I h2 72) 6000 (-128) 127) → (1000 * (200 - r.toInt)) < (N : Int) → pw E d 26 44 [some (.ref 71), some (.int n), some (.int t), some (.int r), l4] [] h2 Q) ∧ (∀ (h2 : ez_H) (r : Int32) (j : Int32) (a : Nat), zW (fun q k => q = 71 ∧ k = 0 ∨ q = 71 ∧ k = 6) (fun q => q = 72 ∨ q = 74) (fun _ => False) h h2 → ((0 ≤ n.toInt ∧ n.toInt ≤ 20 ∧ 1 ≤ t.toInt ∧ t.toInt ≤ 100 ∧ (ez_I h 71 6).toInt + n.toInt * t.toInt ≤ 6000) ∧ 0 ≤ r.toInt ∧ r.toInt < t.toInt ∧ (a : Int) = r.toInt * n.toInt ∧ 0 ≤ j.toInt ∧ j.toInt ≤ n.toInt ∧ (ez_I h2 71 6).toInt = (ez_I h 71 6).toInt + a ∧ a % n.toInt.toNat = 0) → (ez_I h2 74 = ez_I h 74) → ((∀ i, i < (ez_I h 71 6).toInt.toNat + a + j.toInt.toNat → ez_I h2 72 i = enM (ez_I h 72) (ez_I h 74) (ez_I h 71 6).toInt.toNat n.toInt.toNat i)) → (aR (ez_I h2 72) 6000 (-128) 127) → (1000 * (200 - r.toInt) - 1 - j.toInt) < (N : Int) → pw E d 26 52 [some (.ref 71), some (.int n), some (.int t), some (.int r), some (.int j)] [] h2 Q) := by
  intro N
  induction N with
  | zero => exact ⟨fun h2 r l4 a F hinv A_b74 A_en A_ar hm => absurd hm (by have w_r := z_rng r; have gn := z_rng n; have gt := z_rng t; have hmul := fun (q1 : 0 ≤ n.toInt ∧ n.toInt ≤ 20) (q2 : 0 ≤ t.toInt ∧ t.toInt ≤ 100) => mulB (x := n.toInt) (y := t.toInt) (a := 20) (b := 100) (c := 2000) q1 q2 (by decide); omega), fun h2 r j a F hinv A_b74 A_en A_ar hm => absurd hm (by have w_r := z_rng r; have w_j := z_rng j; have gn := z_rng n; have gt := z_rng t; have hmul := fun (q1 : 0 ≤ n.toInt ∧ n.toInt ≤ 20) (q2 : 0 ≤ t.toInt ∧ t.toInt ≤ 100) => mulB (x := n.toInt) (y := t.toInt) (a := 20) (b := 100) (c := 2000) q1 q2 (by decide); omega)⟩
  | succ N ih =>
    refine ⟨fun h2 r l4 a F hinv A_b74 A_en A_ar hm => ?_, fun h2 r j a F hinv A_b74 A_en A_ar hm => ?_⟩
    · skip
      have w_r := z_rng r
      have gn := z_rng n
      have gt := z_rng t
      have hmul := fun (q1 : 0 ≤ n.toInt ∧ n.toInt ≤ 20) (q2 : 0 ≤ t.toInt ∧ t.toInt ≤ 100) => mulB (x := n.toInt) (y := t.toInt) (a := 20) (b := 100) (c := 2000) q1 q2 (by decide)
      have S2 := zW_sh F S
      have hm1 : r.toInt < t.toInt → (r.toInt + 1) * n.toInt ≤ t.toInt * n.toInt := fun q => Int.mul_le_mul_of_nonneg_right (by omega) (by omega)
      have hm2 : (r.toInt + 1) * n.toInt = r.toInt * n.toInt + n.toInt := by rw [Int.add_mul, Int.one_mul]
      have hm3 : t.toInt * n.toInt = n.toInt * t.toInt := Int.mul_comm _ _
      apply ez_Wp_in
      show ez_gw _ _ _ _ _ _ (cz_26) _ _ _ _ _
      refine gw_skip _ ?_
      have r1 := z_rng (ez_I h2 71 0)
      have r2 := z_rng (ez_I h2 71 6)
      refine gw_ld rfl rfl ?_
      refine gw_ld rfl rfl ?_
      refine z_b2 (fun c3 => ?_) (fun c3 => ?_)
      · have c3 : t.toInt ≤ r.toInt := c3
        refine gw_skip _ ?_
        have hrt : r.toInt = t.toInt := by omega
        have hrn : r.toInt * n.toInt = n.toInt * t.toInt := by rw [hrt, Int.mul_comm]
        refine z_C (m := 0) rfl rfl (fun x4 ex4 => ?_)
        refine gw_st rfl rfl rfl ?_
        show ez_gw _ _ _ _ _ _ _ _ [some (.ref 71), some (.int n), some (.int t), some (.int x4), l4] _ _ _
        exact ez_Wp_at ((m_endF_L1 (n := n) (t := t) S hz hb K (((100 - x4.toInt)).toNat + 1)) h2 x4 (l4) F (by omega) ((fun i hi => A_en i (by omega))) A_ar ((fun j hj => by omega)) (by omega)) rfl
      · have c3 : ¬ (t.toInt ≤ r.toInt) := c3
        refine z_C (m := 0) rfl rfl (fun x5 ex5 => ?_)
        refine gw_st rfl rfl rfl ?_
        show ez_gw _ _ _ _ _ _ _ _ [some (.ref 71), some (.int n), some (.int t), some (.int r), some (.int x5)] _ _ _
        exact ez_Wp_at (ih.2 h2 r x5 a F (by omega) A_b74 ((by rw [show x5.toInt.toNat = 0 by omega]; exact A_en)) A_ar (by omega)) rfl
    · skip
      have w_r := z_rng r
      have w_j := z_rng j
      have gn := z_rng n
      have gt := z_rng t
      have hmul := fun (q1 : 0 ≤ n.toInt ∧ n.toInt ≤ 20) (q2 : 0 ≤ t.toInt ∧ t.toInt ≤ 100) => mulB (x := n.toInt) (y := t.toInt) (a := 20) (b := 100) (c := 2000) q1 q2 (by decide)
      have S2 := zW_sh F S
      have hm1 : r.toInt < t.toInt → (r.toInt + 1) * n.toInt ≤ t.toInt * n.toInt := fun q => Int.mul_le_mul_of_nonneg_right (by omega) (by omega)
      have hm2 : (r.toInt + 1) * n.toInt = r.toInt * n.toInt + n.toInt := by rw [Int.add_mul, Int.one_mul]
      have hm3 : t.toInt * n.toInt = n.toInt * t.toInt := Int.mul_comm _ _
      apply ez_Wp_in
      show ez_gw _ _ _ _ _ _ (cz_26) _ _ _ _ _
      refine gw_skip _ ?_
      have r6 := z_rng (ez_I h2 71 0)
      have r7 := z_rng (ez_I h2 71 6)
      refine gw_ld rfl rfl ?_
      refine gw_ld rfl rfl ?_
      refine z_b2 (fun c8 => ?_) (fun c8 => ?_)
      · have c8 : n.toInt ≤ j.toInt := c8
        refine gw_skip _ ?_
        refine gw_ld rfl rfl ?_
        refine gw_op rfl ?_
        refine z_gI2 (by decide) (zT S2 (by decide) rfl) (rfl) ?_
        refine gw_ld rfl rfl ?_
        refine z_add (by omega) (fun x9 ex9 => ?_)
        refine z_pI (zT S2 (by decide) rfl) (fun h10 e11 => ?_)
        have S12 := zSh_set S2 e11
        have F13 := zW_setF F e11 (by decide)
        have f14 : ez_I h10 71 0 = (ez_I h2 71 0) := (zI_ne e11 (by decide)).trans (rfl)
        have f15 : ez_I h10 71 6 = x9 := zI_eq e11
        have A16 : ez_I h10 74 = ez_I h 74 := by rw [zI_fn e11 74 (by decide)]; exact A_b74
        have A17 : (∀ i, i < (ez_I h 71 6).toInt.toNat + a + j.toInt.toNat → ez_I h10 72 i = enM (ez_I h 72) (ez_I h 74) (ez_I h 71 6).toInt.toNat n.toInt.toNat i) := by rw [zI_fn e11 72 (by decide)]; exact A_en
        have A18 : aR (ez_I h10 72) 6000 (-128) 127 := by rw [zI_fn e11 72 (by decide)]; exact A_ar
        refine z_inc rfl (by rw [show (1 : Int32).toInt = 1 from rfl]; omega) (fun x19 ex19 => ?_)
        rw [show (1 : Int32).toInt = 1 from rfl] at ex19
        show ez_gw _ _ _ _ _ _ _ _ [some (.ref 71), some (.int n), some (.int t), some (.int x19), some (.int j)] _ _ _
        refine z_go ?_
        have t20 := congrArg Int32.toInt (f14)
        have t21 := congrArg Int32.toInt (f15)
        exact ih.1 h10 x19 (some (.int j)) (a + n.toInt.toNat) F13 (⟨by omega, by omega, by omega, by rw [show x19.toInt = r.toInt + 1 by omega]; omega, by omega, by rw [Nat.add_mod_right]; omega⟩) (A16) ((by rw [show (ez_I h 71 6).toInt.toNat + (a + n.toInt.toNat) = (ez_I h 71 6).toInt.toNat + a + j.toInt.toNat by omega]; exact A17)) (A18) (by omega)
      · have c8 : ¬ (n.toInt ≤ j.toInt) := c8
        refine gw_ld rfl rfl ?_
        refine z_gR (q := 72) (zT S2 (by decide) rfl) (zRf S2 (by decide) (by decide) rfl) (by decide) ?_
        refine gw_ld rfl rfl ?_
        refine z_gI2 (by decide) (zT S2 (by decide) rfl) (rfl) ?_
        refine gw_ld rfl rfl ?_
        refine z_add (by omega) (fun x22 ex22 => ?_)
        refine gw_ld rfl rfl ?_
        refine z_gR (q := 74) (zT S2 (by decide) rfl) (zRf S2 (by decide) (by decide) rfl) (by decide) ?_
        refine gw_ld rfl rfl ?_
        refine z_baV (n := 20) (zT S2 (by decide) rfl) (zN S2 (by decide) rfl) (by omega) (congrFun A_b74 _) ?_
        generalize ex23 : ez_I h 74 j.toInt.toNat = x23
        have rx23 := z_rng x23
        refine z_bs (n := 6000) (zT S2 (by decide) rfl) (zN S2 (by decide) rfl) (by omega) (fun h24 e25 => ?_)
        have S27 := zSh_set S2 e25
        have F28 := zW_setA F e25 (by decide)
        have f29 : ez_I h24 71 0 = (ez_I h2 71 0) := (zI_ne e25 (by omega)).trans (rfl)
        have f30 : ez_I h24 71 6 = (ez_I h2 71 6) := (zI_ne e25 (by omega)).trans (rfl)
        have A31 : ez_I h24 74 = ez_I h 74 := by rw [zI_fn e25 74 (by decide)]; exact A_b74
        have A32 : (∀ i, i < (ez_I h 71 6).toInt.toNat + a + (j.toInt.toNat + 1) → ez_I h24 72 i = enM (ez_I h 72) (ez_I h 74) (ez_I h 71 6).toInt.toNat n.toInt.toNat i) := en_s (v := (x23).toInt8.toInt32) A_en (by rw [show (ez_I h 71 6).toInt.toNat + a + j.toInt.toNat = x22.toInt.toNat by omega]; exact zI_eq e25) (fun k hk => zI_ne e25 (by omega)) (by rw [em_v (by omega) (by omega), ex23])
        have A33 : aR (ez_I h24 72) 6000 (-128) 127 := aR_up A_ar e25 (n_i2b_rng _)
        refine z_inc rfl (by rw [show (1 : Int32).toInt = 1 from rfl]; omega) (fun x34 ex34 => ?_)
        rw [show (1 : Int32).toInt = 1 from rfl] at ex34
        show ez_gw _ _ _ _ _ _ _ _ [some (.ref 71), some (.int n), some (.int t), some (.int r), some (.int x34)] _ _ _
        refine z_go ?_
        have t35 := congrArg Int32.toInt (f29)
        have t36 := congrArg Int32.toInt (f30)
        exact ih.2 h24 r x34 a F28 (by omega) A31 ((by rw [show x34.toInt.toNat = j.toInt.toNat + 1 by omega]; exact A32)) A33 (by omega)
set_option maxRecDepth 4000 in
set_option maxHeartbeats 2000000 in
theorem m_endF {E : Nat → Nat × (Nat → Int32)} {d : Nat} {Q : ez_Q} {h : ez_H} {n : Int32} {t : Int32} (S : zSh h) (hz : 0 ≤ (ez_I h 71 6).toInt ∧ (ez_I h 71 6).toInt ≤ 6000) (hb : aR (ez_I h 72) 6000 (-128) 127) (K : ∀ h2 (x : Int32), zW (fun q k => q = 71 ∧ k = 0 ∨ q = 71 ∧ k = 6) (fun q => q = 72 ∨ q = 74) (fun _ => False) h h2 → (((0 ≤ n.toInt ∧ n.toInt ≤ 20 ∧ 1 ≤ t.toInt ∧ t.toInt ≤ 100 ∧ (ez_I h 71 6).toInt + n.toInt * t.toInt ≤ 6000) ∧ x.toInt = (ez_I h 71 6).toInt + n.toInt * t.toInt ∧ (ez_I h2 71 6).toInt = (ez_I h 71 6).toInt + n.toInt * t.toInt ∧ (∀ i : Nat, (i : Int) < (ez_I h 71 6).toInt + n.toInt * t.toInt → ez_I h2 72 i = enM (ez_I h 72) (ez_I h 74) (ez_I h 71 6).toInt.toNat n.toInt.toNat i) ∧ aR (ez_I h2 72) 6000 (-128) 127 ∧ (∀ k, k < 20 → (ez_I h2 74 k).toInt = 0)) ∨ (¬ (0 ≤ n.toInt ∧ n.toInt ≤ 20 ∧ 1 ≤ t.toInt ∧ t.toInt ≤ 100 ∧ (ez_I h 71 6).toInt + n.toInt * t.toInt ≤ 6000) ∧ x.toInt = -1 ∧ ez_I h2 71 6 = ez_I h 71 6 ∧ ez_I h2 72 = ez_I h 72 ∧ ez_I h2 74 = ez_I h 74)) → Q (.inl (some (.int x))) h2) : pw E d 26 0 [some (.ref 71), some (.int n), some (.int t), none, none] [] h Q := by
  have gn := z_rng n
  have gt := z_rng t
  have hmul := fun (q1 : 0 ≤ n.toInt ∧ n.toInt ≤ 20) (q2 : 0 ≤ t.toInt ∧ t.toInt ≤ 100) => mulB (x := n.toInt) (y := t.toInt) (a := 20) (b := 100) (c := 2000) q1 q2 (by decide)
  have F := zW_refl (fun q k => q = 71 ∧ k = 0 ∨ q = 71 ∧ k = 6) (fun q => q = 72 ∨ q = 74) (fun _ => False) h
  apply ez_Wp_in
  show ez_gw _ _ _ _ _ _ (cz_26) _ _ _ _ _
  refine gw_skip _ ?_
  have r1 := z_rng (ez_I h 71 0)
  have r2 := z_rng (ez_I h 71 6)
  refine gw_ld rfl rfl ?_
  refine z_C (m := 0) rfl rfl (fun x3 ex3 => ?_)
  refine z_pI (zT S (by decide) rfl) (fun h4 e5 => ?_)
  have S6 := zSh_set S e5
  have F7 := zW_setF F e5 (by decide)
  have f8 : ez_I h4 71 0 = x3 := zI_eq e5
  have f9 : ez_I h4 71 6 = (ez_I h 71 6) := (zI_ne e5 (by decide)).trans (rfl)
  have A10 : ez_I h4 72 = ez_I h 72 := by rw [zI_fn e5 72 (by decide)]
  have A11 : ez_I h4 74 = ez_I h 74 := by rw [zI_fn e5 74 (by decide)]
  refine gw_ld rfl rfl ?_
  refine z_b1 (fun c12 => ?_) (fun c12 => ?_)
  · have c12 : n.toInt < 0 := c12
    refine gw_skip _ ?_
    refine z_C (m := -1) rfl rfl (fun x13 ex13 => ?_)
    refine z_ri ?_
    have t14 := congrArg Int32.toInt (f8)
    have t15 := congrArg Int32.toInt (f9)
    exact K _ _ F7 (.inr ⟨by omega, by omega, f9, A10, A11⟩)
  · have c12 : ¬ (n.toInt < 0) := c12
    refine gw_ld rfl rfl ?_
    refine z_C (m := 20) rfl rfl (fun x16 ex16 => ?_)
    refine z_b2 (fun c17 => ?_) (fun c17 => ?_)
    · have c17 : x16.toInt < n.toInt := c17
      refine gw_skip _ ?_
      refine z_C (m := -1) rfl rfl (fun x18 ex18 => ?_)
      refine z_ri ?_
      have t19 := congrArg Int32.toInt (f8)
      have t20 := congrArg Int32.toInt (f9)
      exact K _ _ F7 (.inr ⟨by omega, by omega, f9, A10, A11⟩)
    · have c17 : ¬ (x16.toInt < n.toInt) := c17
      refine gw_ld rfl rfl ?_
      refine z_C (m := 1) rfl rfl (fun x21 ex21 => ?_)
      refine z_b2 (fun c22 => ?_) (fun c22 => ?_)
      · have c22 : t.toInt < x21.toInt := c22
        refine gw_skip _ ?_
        refine z_C (m := -1) rfl rfl (fun x23 ex23 => ?_)
        refine z_ri ?_
        have t24 := congrArg Int32.toInt (f8)
        have t25 := congrArg Int32.toInt (f9)
        exact K _ _ F7 (.inr ⟨by omega, by omega, f9, A10, A11⟩)
      · have c22 : ¬ (t.toInt < x21.toInt) := c22
        refine gw_ld rfl rfl ?_
        refine z_C (m := 100) rfl rfl (fun x26 ex26 => ?_)
        refine z_b2 (fun c27 => ?_) (fun c27 => ?_)
        · have c27 : x26.toInt < t.toInt := c27
          refine gw_skip _ ?_
          refine z_C (m := -1) rfl rfl (fun x28 ex28 => ?_)
          refine z_ri ?_
          have t29 := congrArg Int32.toInt (f8)
          have t30 := congrArg Int32.toInt (f9)
          exact K _ _ F7 (.inr ⟨by omega, by omega, f9, A10, A11⟩)
        · have c27 : ¬ (x26.toInt < t.toInt) := c27
          refine gw_ld rfl rfl ?_
          refine z_gI2 (by decide) (zT S6 (by decide) rfl) (f9) ?_
          refine gw_ld rfl rfl ?_
          refine gw_ld rfl rfl ?_
          refine z_mul (by have hml := hmul (by omega) (by omega); omega) (fun x31 ex31 => ?_)
          have hml := hmul (by omega) (by omega)
          refine z_add (by have hml := hmul (by omega) (by omega); omega) (fun x32 ex32 => ?_)
          refine z_C (m := 6000) rfl rfl (fun x33 ex33 => ?_)
          refine z_b2 (fun c34 => ?_) (fun c34 => ?_)
          · have c34 : x32.toInt ≤ x33.toInt := c34
            refine gw_skip _ ?_
            refine z_C (m := 0) rfl rfl (fun x35 ex35 => ?_)
            refine gw_st rfl rfl rfl ?_
            show ez_gw _ _ _ _ _ _ _ _ [some (.ref 71), some (.int n), some (.int t), some (.int x35), none] _ _ _
            have t36 := congrArg Int32.toInt (f8)
            have t37 := congrArg Int32.toInt (f9)
            exact ez_Wp_at ((m_endF_L0 (n := n) (t := t) S hz hb K (((1000 * (200 - x35.toInt))).toNat + 1)).1 h4 x35 (none) 0 F7 (⟨by omega, by omega, by omega, by rw [show x35.toInt = 0 by omega, Int.zero_mul]; rfl, by omega, Nat.zero_mod _⟩) (A11) ((fun i hi => (congrFun A10 i).trans (em_0 (by omega)).symm)) ((by rw [A10]; exact hb)) (by omega)) rfl
          · have c34 : ¬ (x32.toInt ≤ x33.toInt) := c34
            refine z_C (m := -1) rfl rfl (fun x38 ex38 => ?_)
            refine z_ri ?_
            have t39 := congrArg Int32.toInt (f8)
            have t40 := congrArg Int32.toInt (f9)
            exact K _ _ F7 (.inr ⟨by omega, by omega, f9, A10, A11⟩)
theorem x65_4 : ∀ k : Nat, ¬ (73 = 71 ∧ k = 0 ∨ 73 = 71 ∧ k = 6) := fun k c => by omega
set_option maxRecDepth 4000 in
set_option maxHeartbeats 2000000 in
theorem m_takeG_L0 {E : Nat → Nat × (Nat → Int32)} {d : Nat} {Q : ez_Q} {h : ez_H}  (S : zSh h) (hz : 0 ≤ (ez_I h 71 7).toInt ∧ (ez_I h 71 7).toInt ≤ 6200) (hb : aR (ez_I h 72) 6000 (-128) 127) (K : ∀ h2 (x : Int32), zW (fun q k => q = 71 ∧ k = 0 ∨ q = 71 ∧ k = 6) (fun q => q = 72) (fun _ => False) h h2 → (6000 < (ez_I h 71 7).toInt → ez_I h2 71 6 = ez_I h 71 6 ∧ ez_I h2 72 = ez_I h 72 ∧ (ez_I h2 71 0).toInt = 1) → ((ez_I h 71 7).toInt ≤ 6000 → x = ez_I h2 71 6 ∧ (ez_I h2 71 6).toInt = (ez_I h 71 7).toInt ∧ (∀ j : Nat, (j : Int) < (ez_I h 71 7).toInt → ez_I h2 72 j = (ez_I h 73 j).toInt8.toInt32) ∧ (ez_I h2 71 0).toInt = 0) → aR (ez_I h2 72) 6000 (-128) 127 → Q (.inl (some (.int x))) h2) : ∀ N : Nat, (∀ (h2 : ez_H) (k : Int32) , zW (fun q k => q = 71 ∧ k = 0 ∨ q = 71 ∧ k = 6) (fun q => q = 72) (fun _ => False) h h2 → (0 ≤ k.toInt ∧ k.toInt ≤ (ez_I h 71 7).toInt ∧ (ez_I h 71 7).toInt ≤ 6000 ∧ (ez_I h2 71 0).toInt = 0) → ((∀ j : Nat, (j : Int) < k.toInt → ez_I h2 72 j = (ez_I h 73 j).toInt8.toInt32)) → (aR (ez_I h2 72) 6000 (-128) 127) → (10000 - k.toInt) < (N : Int) → pw E d 29 30 [some (.ref 71), some (.int k)] [] h2 Q) := by
  intro N
  induction N with
  | zero => exact fun h2 k  F hinv A_cp A_ar hm => absurd hm (by have w_k := z_rng k; omega)
  | succ N ih =>
    refine fun h2 k  F hinv A_cp A_ar hm => ?_
    · skip
      have w_k := z_rng k
      have S2 := zW_sh F S
      apply ez_Wp_in
      show ez_gw _ _ _ _ _ _ (cz_29) _ _ _ _ _
      refine gw_skip _ ?_
      have r1 := z_rng (ez_I h2 71 0)
      have r2 := z_rng (ez_I h2 71 6)
      refine gw_ld rfl rfl ?_
      refine gw_ld rfl rfl ?_
      have r3 := z_rng (ez_I h 71 7)
      refine z_gI2 (by decide) (zT S2 (by decide) rfl) (zW_f F (by decide) (by decide)) ?_
      refine z_b2 (fun c4 => ?_) (fun c4 => ?_)
      · have c4 : ((ez_I h 71 7)).toInt ≤ k.toInt := c4
        refine gw_skip _ ?_
        refine gw_ld rfl rfl ?_
        refine gw_ld rfl rfl ?_
        refine z_gI2 (by decide) (zT S2 (by decide) rfl) (zW_f F (by decide) (by decide)) ?_
        refine z_pI (zT S2 (by decide) rfl) (fun h5 e6 => ?_)
        have S7 := zSh_set S2 e6
        have F8 := zW_setF F e6 (by decide)
        have f9 : ez_I h5 71 0 = (ez_I h2 71 0) := (zI_ne e6 (by decide)).trans (rfl)
        have f10 : ez_I h5 71 6 = (ez_I h 71 7) := zI_eq e6
        have A11 : (∀ j : Nat, (j : Int) < k.toInt → ez_I h5 72 j = (ez_I h 73 j).toInt8.toInt32) := by rw [zI_fn e6 72 (by decide)]; exact A_cp
        have A12 : aR (ez_I h5 72) 6000 (-128) 127 := by rw [zI_fn e6 72 (by decide)]; exact A_ar
        refine gw_ld rfl rfl ?_
        refine z_gI2 (by decide) (zT S7 (by decide) rfl) (f10) ?_
        refine z_ri ?_
        have t13 := congrArg Int32.toInt (f9)
        have t14 := congrArg Int32.toInt (f10)
        exact K _ _ F8 (fun q => by exfalso; omega) (fun _ => ⟨(f10).symm, by omega, fun j hj => A11 j (by omega), by omega⟩) A12
      · have c4 : ¬ (((ez_I h 71 7)).toInt ≤ k.toInt) := c4
        refine gw_ld rfl rfl ?_
        refine z_gR (q := 72) (zT S2 (by decide) rfl) (zRf S2 (by decide) (by decide) rfl) (by decide) ?_
        refine gw_ld rfl rfl ?_
        refine gw_ld rfl rfl ?_
        refine z_gR (q := 73) (zT S2 (by decide) rfl) (zRf S2 (by decide) (by decide) rfl) (by decide) ?_
        refine gw_ld rfl rfl ?_
        refine z_baV (n := 6200) (zT S2 (by decide) rfl) (zN S2 (by decide) rfl) (by omega) (zW_f F (by decide) (x65_4 _)) ?_
        generalize ex15 : ez_I h 73 k.toInt.toNat = x15
        have rx15 := z_rng x15
        refine z_bs (n := 6000) (zT S2 (by decide) rfl) (zN S2 (by decide) rfl) (by omega) (fun h16 e17 => ?_)
        have S19 := zSh_set S2 e17
        have F20 := zW_setA F e17 (by decide)
        have f21 : ez_I h16 71 0 = (ez_I h2 71 0) := (zI_ne e17 (by omega)).trans (rfl)
        have f22 : ez_I h16 71 6 = (ez_I h2 71 6) := (zI_ne e17 (by omega)).trans (rfl)
        have A23 : (∀ j : Nat, (j : Int) < k.toInt + 1 → ez_I h16 72 j = (ez_I h 73 j).toInt8.toInt32) := fun j hj => by
          by_cases q : j = k.toInt.toNat
          · subst q; rw [zI_eq e17, ex15]
          · rw [zI_ne e17 (by omega)]; exact A_cp j (by omega)
        have A24 : aR (ez_I h16 72) 6000 (-128) 127 := aR_up A_ar e17 (n_i2b_rng _)
        refine z_inc rfl (by rw [show (1 : Int32).toInt = 1 from rfl]; omega) (fun x25 ex25 => ?_)
        rw [show (1 : Int32).toInt = 1 from rfl] at ex25
        show ez_gw _ _ _ _ _ _ _ _ [some (.ref 71), some (.int x25)] _ _ _
        refine z_go ?_
        have t26 := congrArg Int32.toInt (f21)
        have t27 := congrArg Int32.toInt (f22)
        exact ih h16 x25 F20 (by omega) (fun j hj => A23 j (by omega)) (A24) (by omega)
set_option maxRecDepth 4000 in
set_option maxHeartbeats 2000000 in
theorem m_takeG {E : Nat → Nat × (Nat → Int32)} {d : Nat} {Q : ez_Q} {h : ez_H}  (S : zSh h) (hz : 0 ≤ (ez_I h 71 7).toInt ∧ (ez_I h 71 7).toInt ≤ 6200) (hb : aR (ez_I h 72) 6000 (-128) 127) (K : ∀ h2 (x : Int32), zW (fun q k => q = 71 ∧ k = 0 ∨ q = 71 ∧ k = 6) (fun q => q = 72) (fun _ => False) h h2 → (6000 < (ez_I h 71 7).toInt → ez_I h2 71 6 = ez_I h 71 6 ∧ ez_I h2 72 = ez_I h 72 ∧ (ez_I h2 71 0).toInt = 1) → ((ez_I h 71 7).toInt ≤ 6000 → x = ez_I h2 71 6 ∧ (ez_I h2 71 6).toInt = (ez_I h 71 7).toInt ∧ (∀ j : Nat, (j : Int) < (ez_I h 71 7).toInt → ez_I h2 72 j = (ez_I h 73 j).toInt8.toInt32) ∧ (ez_I h2 71 0).toInt = 0) → aR (ez_I h2 72) 6000 (-128) 127 → Q (.inl (some (.int x))) h2) : pw E d 29 0 [some (.ref 71), none] [] h Q := by
  have F := zW_refl (fun q k => q = 71 ∧ k = 0 ∨ q = 71 ∧ k = 6) (fun q => q = 72) (fun _ => False) h
  apply ez_Wp_in
  show ez_gw _ _ _ _ _ _ (cz_29) _ _ _ _ _
  refine gw_skip _ ?_
  have r1 := z_rng (ez_I h 71 0)
  have r2 := z_rng (ez_I h 71 6)
  refine gw_ld rfl rfl ?_
  refine gw_ld rfl rfl ?_
  have r3 := z_rng (ez_I h 71 7)
  refine z_gI2 (by decide) (zT S (by decide) rfl) (zW_f F (by decide) (by decide)) ?_
  refine z_C (m := 6000) rfl rfl (fun x4 ex4 => ?_)
  refine z_b2 (fun c5 => ?_) (fun c5 => ?_)
  · have c5 : ((ez_I h 71 7)).toInt ≤ x4.toInt := c5
    refine gw_skip _ ?_
    refine z_C (m := 0) rfl rfl (fun x6 ex6 => ?_)
    refine z_pI (zT S (by decide) rfl) (fun h7 e8 => ?_)
    have S9 := zSh_set S e8
    have F10 := zW_setF F e8 (by decide)
    have f11 : ez_I h7 71 0 = x6 := zI_eq e8
    have f12 : ez_I h7 71 6 = (ez_I h 71 6) := (zI_ne e8 (by decide)).trans (rfl)
    have A13 : ez_I h7 72 = ez_I h 72 := by rw [zI_fn e8 72 (by decide)]
    refine gw_ld rfl rfl ?_
    refine z_gI2 (by decide) (zT S9 (by decide) rfl) (f11) ?_
    refine z_b1 (fun c14 => ?_) (fun c14 => ?_)
    · have c14 : x6.toInt ≤ 0 := c14
      refine gw_skip _ ?_
      refine z_C (m := 0) rfl rfl (fun x15 ex15 => ?_)
      refine gw_st rfl rfl rfl ?_
      show ez_gw _ _ _ _ _ _ _ _ [some (.ref 71), some (.int x15)] _ _ _
      have t16 := congrArg Int32.toInt (f11)
      have t17 := congrArg Int32.toInt (f12)
      exact ez_Wp_at ((m_takeG_L0  S hz hb K (((10000 - x15.toInt)).toNat + 1)) h7 x15 F10 (by omega) (fun j hj => by omega) ((by rw [A13]; exact hb)) (by omega)) rfl
    · have c14 : ¬ (x6.toInt ≤ 0) := c14
      exfalso; omega
  · have c5 : ¬ (((ez_I h 71 7)).toInt ≤ x4.toInt) := c5
    refine z_C (m := 1) rfl rfl (fun x18 ex18 => ?_)
    refine z_go ?_
    refine gw_skip _ ?_
    refine z_pI (zT S (by decide) rfl) (fun h19 e20 => ?_)
    have S21 := zSh_set S e20
    have F22 := zW_setF F e20 (by decide)
    have f23 : ez_I h19 71 0 = x18 := zI_eq e20
    have f24 : ez_I h19 71 6 = (ez_I h 71 6) := (zI_ne e20 (by decide)).trans (rfl)
    have A25 : ez_I h19 72 = ez_I h 72 := by rw [zI_fn e20 72 (by decide)]
    refine gw_ld rfl rfl ?_
    refine z_gI2 (by decide) (zT S21 (by decide) rfl) (f23) ?_
    refine z_b1 (fun c26 => ?_) (fun c26 => ?_)
    · have c26 : x18.toInt ≤ 0 := c26
      exfalso; omega
    · have c26 : ¬ (x18.toInt ≤ 0) := c26
      refine z_C (m := 0) rfl rfl (fun x27 ex27 => ?_)
      refine z_ri ?_
      have t28 := congrArg Int32.toInt (f23)
      have t29 := congrArg Int32.toInt (f24)
      exact K _ _ F22 (fun _ => ⟨f24, A25, by omega⟩) (fun q => by exfalso; omega) (by rw [A25]; exact hb)
end
section
/-! a block told by the parts alone -/
noncomputable def rcN (f : Nat → Nat) (N : Nat) : Nat → Nat
  | 0 => 0
  | i + 1 => if tp f N (rcN f N i) < N then rcN f N i + 1 else rcN f N i
theorem rc_is {f : Nat → Nat} {N c : Nat} (h1 : tp f N c = N) (h2 : ltT f N c) : ∀ m, rcN f N m = min m c := by
  intro m
  induction m with
  | zero => show 0 = _; omega
  | succ m ih =>
    show (if tp f N (rcN f N m) < N then rcN f N m + 1 else rcN f N m) = _
    rw [ih]
    by_cases q : m < c
    · rw [show min m c = m by omega, if_pos (h2 m q)]; omega
    · rw [show min m c = c by omega, if_neg (by omega)]; omega
noncomputable def rowC (L1 L2 : Nat → Nat) : Nat := rcN (rowF L1 L2) (rowM L1 L2) 400
theorem rowC_is {L1 L2 : Nat → Nat} {c : Nat} (h1 : tp (rowF L1 L2) (rowM L1 L2) c = rowM L1 L2) (h2 : ltT (rowF L1 L2) (rowM L1 L2) c) (hc : c ≤ 400) : c = rowC L1 L2 := by
  unfold rowC
  rw [rc_is h1 h2]
  omega
section BK
variable (T : Nat → Int) (n a j : Nat)
noncomputable def bkC : Nat → Nat := cL (aM T n) (dI T n) a j
noncomputable def bkD : Nat → Nat := cD (dI T n) a j
noncomputable def bkL : Nat → Nat := LNf (bkC T n a j) 286 15
noncomputable def bkE : Nat → Nat := LDx (bkD T n a j)
noncomputable def bkR : Nat := rowC (bkL T n a j) (bkE T n a j)
noncomputable def bkA : Nat → Nat := rowA (bkL T n a j) (bkE T n a j) (bkR T n a j)
noncomputable def bkO : Nat := rowO (bkL T n a j) (bkE T n a j) (bkR T n a j)
noncomputable def bkDY : Nat := 3 + hdB (bkL T n a j) (bkE T n a j) (bkR T n a j) + xB (aM T n) (dI T n) a j + sN (fun i => bkD T n a j i * LNf (bkD T n a j) 30 15 i) 30 + sN (fun i => bkC T n a j i * bkL T n a j i) 286
noncomputable def bkFX : Nat := 3 + xB (aM T n) (dI T n) a j + sN (fun i => bkC T n a j i * fxL i) 286 + sN (fun i => bkD T n a j i * fxD i) 30
noncomputable def bkY : Nat := bY (aM T n) (dI T n) a j
noncomputable def bkST (z : Nat) : Nat := 3 + (8 - (z + 3) % 8) % 8 + 32 + 8 * bkY T n a j
noncomputable def bkW (z : Nat) : Nat := if bkST T n a j z ≤ bkFX T n a j ∧ bkST T n a j z ≤ bkDY T n a j then 0 else if bkFX T n a j ≤ bkDY T n a j then 1 else 2
noncomputable def bkB (z : Nat) : Nat := if bkST T n a j z ≤ bkFX T n a j ∧ bkST T n a j z ≤ bkDY T n a j then bkST T n a j z else if bkFX T n a j ≤ bkDY T n a j then bkFX T n a j else bkDY T n a j
noncomputable def bk1 (l : Nat) (s : Nat × Nat) : Nat × Nat := wr (wr s l 1) (bkW T n a j s.2) 2
noncomputable def bkS0 (s1 : Nat × Nat) : Nat × Nat := bS T (ptP T n a) (wr (wr (s1.1, (s1.2 + 7) / 8 * 8) (bkY T n a j) 16) (65535 - bkY T n a j) 16) (bkY T n a j)
noncomputable def bkP (L E : Nat → Nat) (s : Nat × Nat) : Nat × Nat := wr (wps (aM T n) (dI T n) (cdN L 288) L (cdN E 288) E s a j) (cdN L 288 256) (L 256)
noncomputable def bkH (s1 : Nat × Nat) : Nat × Nat := sS (cdN (bkA T n a j) 288) (bkA T n a j) (rowF (bkL T n a j) (bkE T n a j)) (rowM (bkL T n a j) (bkE T n a j)) (oS (bkA T n a j) (hdS (tdM (bkL T n a j) 257 29) (tdM (bkE T n a j) 1 29) (bkO T n a j) s1) (bkO T n a j)) (bkR T n a j)
noncomputable def bkS (l : Nat) (s : Nat × Nat) : Nat × Nat := if bkW T n a j s.2 = 0 then bkS0 T n a j (bk1 T n a j l s) else if bkW T n a j s.2 = 1 then bkP T n a j fxL fxD (bk1 T n a j l s) else bkP T n a j (bkL T n a j) (bkE T n a j) (bkH T n a j (bk1 T n a j l s))
end BK
/-- the parts' words that agree where they are used -/
theorem wps_eq {am di wl wl' ll ll' wd wd' ld ld' : Nat → Nat} {s : Nat × Nat} {a : Nat} : ∀ j, (∀ i, i < j → wl (lSy am di (a + i)) = wl' (lSy am di (a + i)) ∧ ll (lSy am di (a + i)) = ll' (lSy am di (a + i)) ∧ (di (a + i) ≠ 0 → wd (kD (di (a + i))) = wd' (kD (di (a + i))) ∧ ld (kD (di (a + i))) = ld' (kD (di (a + i))))) → wps am di wl ll wd ld s a j = wps am di wl' ll' wd' ld' s a j := by
  intro j
  induction j with
  | zero => intro _; rfl
  | succ j ih =>
    intro h
    have h1 := ih (fun i hi => h i (by omega))
    have h2 := h j (by omega)
    show wpt am di wl ll wd ld (wps am di wl ll wd ld s a j) (a + j) = wpt am di wl' ll' wd' ld' (wps am di wl' ll' wd' ld' s a j) (a + j)
    rw [h1]
    unfold wpt
    unfold lSy at h2
    by_cases c : di (a + j) = 0
    · rw [if_pos c] at h2
      rw [if_pos c, if_pos c, h2.1, h2.2.1]
    · rw [if_neg c] at h2
      rw [if_neg c, if_neg c, h2.1, h2.2.1, (h2.2.2 c).1, (h2.2.2 c).2]
theorem oS_eq {LA LA' : Nat → Nat} {s : Nat × Nat} : ∀ c, (∀ i, i < c → LA (ORf i) = LA' (ORf i)) → oS LA s c = oS LA' s c := by
  intro c
  induction c with
  | zero => intro _; rfl
  | succ c ih =>
    intro h
    show wr (oS LA s c) (LA (ORf c)) 3 = wr (oS LA' s c) (LA' (ORf c)) 3
    rw [ih (fun i hi => h i (by omega)), h c (by omega)]
/-- how many bits -/
theorem bkP_2 {T : Nat → Int} {n c a j : Nat} {L E : Nat → Nat} {s : Nat × Nat} (hT : ∀ i, i < n → 0 ≤ T i ∧ T i ≤ 255) (h : ltP T n c) (hj : a + j ≤ c) : (bkP T n a j L E s).2 = s.2 + (xB (aM T n) (dI T n) a j + sN (fun i => bkC T n a j i * L i) 286 + sN (fun i => bkD T n a j i * E i) 30) := by
  have h1 := ib_sum (am := aM T n) (di := dI T n) (a := a) (j := j) L E (fun i hi => (lSy_lt hT h (k := a + i) (by omega)).1) (fun i hi => (lSy_lt hT h (k := a + i) (by omega)).2)
  have h2 := wps_2 (aM T n) (dI T n) (cdN L 288) L (cdN E 288) E s a j
  show (wps (aM T n) (dI T n) (cdN L 288) L (cdN E 288) E s a j).2 + L 256 = _
  rw [h2]
  unfold bkC bkD
  omega
theorem LD_sum (c : Nat → Nat) : sN (fun i => c i * LDx c i) 30 = sN (fun i => c i * LNf c 30 15 i) 30 := by
  by_cases h : sN c 30 = 0
  · refine sN_congr 30 (fun k hk => ?_)
    show c k * LDx c k = c k * LNf c 30 15 k
    rw [sN_0 30 h k hk, Nat.zero_mul, Nat.zero_mul]
  · refine sN_congr 30 (fun k hk => ?_)
    show c k * LDx c k = c k * LNf c 30 15 k
    unfold LDx
    rw [if_neg h]
theorem rE_sum (t : Nat → Nat) : sN (fun s => t s * rEf s) 19 = t 16 * 2 + t 17 * 3 + t 18 * 7 := by
  have z : ∀ n, n ≤ 16 → sN (fun s => t s * rEf s) n = 0 := by
    intro n
    induction n with
    | zero => intro _; rfl
    | succ n ih =>
      intro h
      show sN (fun s => t s * rEf s) n + t n * rEf n = 0
      rw [ih (by omega), show rEf n = 0 from if_neg (by omega)]
      omega
  show sN (fun s => t s * rEf s) 16 + t 16 * rEf 16 + t 17 * rEf 17 + t 18 * rEf 18 = _
  rw [z 16 (by omega)]
  have e1 : rEf 16 = 2 := rfl
  have e2 : rEf 17 = 3 := rfl
  have e3 : rEf 18 = 7 := rfl
  rw [e1, e2, e3]
  omega
theorem bkH_2 {T : Nat → Int} {n a j : Nat} {s : Nat × Nat} (ht : ∀ i, i < bkR T n a j → tS (rowF (bkL T n a j) (bkE T n a j)) (rowM (bkL T n a j) (bkE T n a j)) i < 19) : (bkH T n a j s).2 = s.2 + hdB (bkL T n a j) (bkE T n a j) (bkR T n a j) := by
  unfold bkH
  rw [sS_2, oS_2]
  have h1 := tC_sum (f := rowF (bkL T n a j) (bkE T n a j)) (N := rowM (bkL T n a j) (bkE T n a j)) (fun s => bkA T n a j s) (bkR T n a j) ht
  have h2 := tC_sum (f := rowF (bkL T n a j) (bkE T n a j)) (N := rowM (bkL T n a j) (bkE T n a j)) rEf (bkR T n a j) ht
  have h3 := rE_sum (tC (rowF (bkL T n a j) (bkE T n a j)) (rowM (bkL T n a j) (bkE T n a j)) (bkR T n a j))
  have h4 := sN_add (f := fun k => bkA T n a j (tS (rowF (bkL T n a j) (bkE T n a j)) (rowM (bkL T n a j) (bkE T n a j)) k)) (g := fun k => rEf (tS (rowF (bkL T n a j) (bkE T n a j)) (rowM (bkL T n a j) (bkE T n a j)) k)) (bkR T n a j)
  show s.2 + 5 + 5 + 4 + 3 * bkO T n a j + _ = _
  rw [h4, ← h1, ← h2, h3]
  unfold hdB bkO
  show _ = s.2 + (14 + 3 * rowO (bkL T n a j) (bkE T n a j) (bkR T n a j) + (tC (rowF (bkL T n a j) (bkE T n a j)) (rowM (bkL T n a j) (bkE T n a j)) (bkR T n a j) 16 * 2 + tC (rowF (bkL T n a j) (bkE T n a j)) (rowM (bkL T n a j) (bkE T n a j)) (bkR T n a j) 17 * 3 + tC (rowF (bkL T n a j) (bkE T n a j)) (rowM (bkL T n a j) (bkE T n a j)) (bkR T n a j) 18 * 7) + sN (fun k => tC (rowF (bkL T n a j) (bkE T n a j)) (rowM (bkL T n a j) (bkE T n a j)) (bkR T n a j) k * bkA T n a j k) 19)
  omega
theorem bkS_2 {T : Nat → Int} {n c a j l : Nat} {s : Nat × Nat} (hT : ∀ i, i < n → 0 ≤ T i ∧ T i ≤ 255) (h : ltP T n c) (hj : a + j ≤ c) (ht : ∀ i, i < bkR T n a j → tS (rowF (bkL T n a j) (bkE T n a j)) (rowM (bkL T n a j) (bkE T n a j)) i < 19) : (bkS T n a j l s).2 = s.2 + bkB T n a j s.2 := by
  have e1 : (bk1 T n a j l s).2 = s.2 + 3 := rfl
  by_cases c0 : bkST T n a j s.2 ≤ bkFX T n a j ∧ bkST T n a j s.2 ≤ bkDY T n a j
  · have w : bkW T n a j s.2 = 0 := if_pos c0
    unfold bkS bkB
    rw [if_pos w, if_pos c0]
    unfold bkS0
    rw [bS_2, wr_2, wr_2, e1]
    unfold bkST
    show (s.2 + 3 + 7) / 8 * 8 + 16 + 16 + 8 * bkY T n a j = _
    omega
  · by_cases c1 : bkFX T n a j ≤ bkDY T n a j
    · have w : bkW T n a j s.2 = 1 := (if_neg c0).trans (if_pos c1)
      unfold bkS bkB
      rw [if_neg (by omega), if_pos w, if_neg c0, if_pos c1, bkP_2 hT h hj, e1]
      unfold bkFX
      omega
    · have w : bkW T n a j s.2 = 2 := (if_neg c0).trans (if_neg c1)
      unfold bkS bkB
      rw [if_neg (by omega), if_neg (by omega), if_neg c0, if_neg c1, bkP_2 hT h hj, bkH_2 ht, e1]
      unfold bkDY
      have := LD_sum (bkD T n a j)
      unfold bkE
      omega
theorem bkB_le {T : Nat → Int} {n a j z : Nat} : bkB T n a j z ≤ 42 + 8 * bkY T n a j := by
  have h : bkST T n a j z ≤ 42 + 8 * bkY T n a j := by unfold bkST; omega
  unfold bkB
  by_cases c0 : bkST T n a j z ≤ bkFX T n a j ∧ bkST T n a j z ≤ bkDY T n a j
  · rw [if_pos c0]; exact h
  · rw [if_neg c0]
    by_cases c1 : bkFX T n a j ≤ bkDY T n a j
    · rw [if_pos c1]; omega
    · rw [if_neg c1]; omega
/-- all blocks: c parts, the first k blocks of b -/
noncomputable def pkS (T : Nat → Int) (n c b : Nat) : Nat → Nat × Nat
  | 0 => (0, 0)
  | k + 1 => bkS T n (600 * k) (min 600 (c - 600 * k)) (if k + 1 = b then 1 else 0) (pkS T n c b k)
/-! the class's block against the block told by the parts -/
theorem cL_pos (am di : Nat → Nat) (a : Nat) : ∀ j i, i < j → 1 ≤ cL am di a j (lSy am di (a + i)) := by
  intro j
  induction j with
  | zero => intro i h; omega
  | succ j ih =>
    intro i h
    show 1 ≤ cL am di a j (lSy am di (a + i)) + if lSy am di (a + j) = lSy am di (a + i) then 1 else 0
    by_cases e : i = j
    · subst e; rw [if_pos rfl]; omega
    · have := ih i (by omega); omega
theorem cD_pos (di : Nat → Nat) (a : Nat) : ∀ j i, i < j → di (a + i) ≠ 0 → 1 ≤ cD di a j (kD (di (a + i))) := by
  intro j
  induction j with
  | zero => intro i h; omega
  | succ j ih =>
    intro i h h0
    show 1 ≤ cD di a j (kD (di (a + i))) + if di (a + j) ≠ 0 ∧ kD (di (a + j)) = kD (di (a + i)) then 1 else 0
    by_cases e : i = j
    · subst e; rw [if_pos ⟨h0, rfl⟩]; omega
    · have := ih i (by omega) h0; omega
theorem row_eq {L1 L2 M1 M2 : Nat → Nat} {c : Nat} (h1 : ∀ k, k < 286 → L1 k = M1 k) (h2 : ∀ k, k < 30 → L2 k = M2 k) (A : ltT (rowF L1 L2) (rowM L1 L2) c) : (tdM L1 257 29 = tdM M1 257 29 ∧ tdM L2 1 29 = tdM M2 1 29 ∧ rowM L1 L2 = rowM M1 M2) ∧ (∀ i, i ≤ c → tp (rowF L1 L2) (rowM L1 L2) i = tp (rowF M1 M2) (rowM M1 M2) i) ∧ ltT (rowF M1 M2) (rowM M1 M2) c ∧ (∀ i, i < c → tS (rowF L1 L2) (rowM L1 L2) i = tS (rowF M1 M2) (rowM M1 M2) i ∧ tX (rowF L1 L2) (rowM L1 L2) i = tX (rowF M1 M2) (rowM M1 M2) i) ∧ tC (rowF L1 L2) (rowM L1 L2) c = tC (rowF M1 M2) (rowM M1 M2) c := by
  have a1 := tdM_rng L1 257 29
  have b1 := tdM_rng L2 1 29
  have e1 : tdM L1 257 29 = tdM M1 257 29 := tdM_congr 29 (fun k hk => h1 _ (by omega))
  have e2 : tdM L2 1 29 = tdM M2 1 29 := tdM_congr 29 (fun k hk => h2 _ (by omega))
  have e3 : rowM L1 L2 = rowM M1 M2 := by unfold rowM; rw [e1, e2]
  have hf : ∀ k, k < rowM L1 L2 → rowF L1 L2 k = rowF M1 M2 k := fun k hk => by
    unfold rowM at hk
    unfold rowF rwF
    rw [← e1]
    by_cases q : k < tdM L1 257 29
    · rw [if_pos q, if_pos q]; exact h1 k (by omega)
    · rw [if_neg q, if_neg q]; exact h2 _ (by omega)
  rw [← e3]
  exact ⟨⟨e1, e2, rfl⟩, tp_congr hf c A, ltT_congr hf A, fun i hi => tSX_congr hf A hi, funext fun s => tC_congr hf A c s (Nat.le_refl c)⟩
theorem row_A {L1 L2 M1 M2 : Nat → Nat} {c : Nat} (h1 : ∀ k, k < 286 → L1 k = M1 k) (h2 : ∀ k, k < 30 → L2 k = M2 k) (A : ltT (rowF L1 L2) (rowM L1 L2) c) : rowA L1 L2 c = rowA M1 M2 c ∧ rowO L1 L2 c = rowO M1 M2 c ∧ hdB L1 L2 c = hdB M1 M2 c := by
  have h := (row_eq h1 h2 A).2.2.2.2
  have ha : rowA L1 L2 c = rowA M1 M2 c := by unfold rowA; rw [h]
  have ho : rowO L1 L2 c = rowO M1 M2 c := by unfold rowO; rw [ha]
  refine ⟨ha, ho, ?_⟩
  unfold hdB
  rw [ho, h, ha]
theorem row_R {L1 L2 M1 M2 : Nat → Nat} {c : Nat} (h1 : ∀ k, k < 286 → L1 k = M1 k) (h2 : ∀ k, k < 30 → L2 k = M2 k) (A : ltT (rowF L1 L2) (rowM L1 L2) c) (B : tp (rowF L1 L2) (rowM L1 L2) c = rowM L1 L2) (hc : c ≤ 400) : c = rowC M1 M2 := by
  have h := row_eq h1 h2 A
  refine rowC_is ?_ h.2.2.1 hc
  rw [← h.2.1 c (Nat.le_refl c), B, h.1.2.2]
theorem sS_eq2 {wa wa' LA LA' f g : Nat → Nat} {N M : Nat} {s : Nat × Nat} : ∀ c, (∀ i, i < c → tS f N i = tS g M i ∧ tX f N i = tX g M i) → (∀ i, i < c → wa (tS g M i) = wa' (tS g M i) ∧ LA (tS g M i) = LA' (tS g M i)) → sS wa LA f N s c = sS wa' LA' g M s c := by
  intro c
  induction c with
  | zero => intro _ _; rfl
  | succ c ih =>
    intro h h2
    show wr (wr (sS wa LA f N s c) (wa (tS f N c)) (LA (tS f N c))) (tX f N c) (rEf (tS f N c)) = wr (wr (sS wa' LA' g M s c) (wa' (tS g M c)) (LA' (tS g M c))) (tX g M c) (rEf (tS g M c))
    rw [ih (fun i hi => h i (by omega)) (fun i hi => h2 i (by omega)), (h c (by omega)).1, (h c (by omega)).2, (h2 c (by omega)).1, (h2 c (by omega)).2]
/-- words -/
theorem wd_hW {f g : Nat → Int32} {N n : Nat} (A : wdI f (nL g) N n) : ∀ k, k < n → 1 ≤ nL g k → 0 ≤ (f k).toInt ∧ (f k).toInt < 2 ^ (g k).toInt.toNat := fun k hk h1 => by
  have h2 := A k hk h1
  have h3 := cdN_lt (nL g) N k
  rw [n_pow, h2]
  have h4 : nL g k = (g k).toInt.toNat := rfl
  rw [← h4]
  omega
theorem wd_nL {f g : Nat → Int32} {L : Nat → Nat} {N M n : Nat} (A : wdI f (nL g) N n) (hn : n ≤ N) (hM : n ≤ M) (h : ∀ k, k < n → nL g k = L k) (hc : ∀ l, l ≠ 0 → ctN (nL g) l N = ctN L l M) : ∀ k, k < n → 1 ≤ L k → nL f k = cdN L M k := fun k hk h1 => by
  have h2 := A k hk (by rw [h k hk]; exact h1)
  show (f k).toInt.toNat = _
  rw [h2, cdN_congr hc (fun j hj => h j (by omega))]
  omega
theorem bkP_cl {T : Nat → Int} {n c a j N M : Nat} {W1 L1 W2 L2 L E : Nat → Nat} {s : Nat × Nat} (hT : ∀ i, i < n → 0 ≤ T i ∧ T i ≤ 255) (h : ltP T n c) (hj : a + j ≤ c) (hL : ∀ k, k < 286 → L1 k = L k) (hW : ∀ k, k < 286 → 1 ≤ L k → W1 k = cdN L 288 k) (hE : ∀ k, k < 30 → L2 k = E k) (hV : ∀ k, k < 30 → 1 ≤ E k → W2 k = cdN E 288 k) (u1 : ∀ i, i < j → 1 ≤ L (lSy (aM T n) (dI T n) (a + i))) (u2 : ∀ i, i < j → dI T n (a + i) ≠ 0 → 1 ≤ E (kD (dI T n (a + i)))) (u3 : 1 ≤ L 256) : wr (wps (aM T n) (dI T n) W1 L1 W2 L2 s a j) (W1 256) (L1 256) = bkP T n a j L E s := by
  unfold bkP
  rw [hW 256 (by decide) u3, hL 256 (by decide), wps_eq j (fun i hi => ?_)]
  have h1 := lSy_lt hT h (k := a + i) (by omega)
  exact ⟨hW _ h1.1 (u1 i hi), hL _ h1.1, fun q => ⟨hV _ (h1.2 q) (u2 i hi q), hE _ (h1.2 q)⟩⟩
theorem fxL_1 (k : Nat) : 1 ≤ fxL k ∧ fxL k ≤ 15 := by
  unfold fxL
  by_cases c1 : k < 144
  · rw [if_pos c1]; decide
  · rw [if_neg c1]
    by_cases c2 : k < 256
    · rw [if_pos c2]; decide
    · rw [if_neg c2]
      by_cases c3 : k < 280
      · rw [if_pos c3]; decide
      · rw [if_neg c3]; decide
theorem fxD_1 {k : Nat} (h : k < 30) : 1 ≤ fxD k := by
  unfold fxD
  rw [if_pos (by omega)]
  decide
theorem bkC_pos {T : Nat → Int} {n a j i : Nat} (h : i < j) : 1 ≤ bkC T n a j (lSy (aM T n) (dI T n) (a + i)) := cL_pos _ _ a j i h
theorem bkD_pos {T : Nat → Int} {n a j i : Nat} (h : i < j) (h0 : dI T n (a + i) ≠ 0) : 1 ≤ bkD T n a j (kD (dI T n (a + i))) := cD_pos _ a j i h h0
theorem bkW_2 (T : Nat → Int) (n a j z : Nat) : bkW T n a j z ≤ 2 := by
  unfold bkW
  split
  · omega
  · split <;> omega
theorem bk_w0 {T : Nat → Int} {n a j l : Nat} {s : Nat × Nat} (h : bkW T n a j s.2 = 0) : bkS T n a j l s = bkS0 T n a j (bk1 T n a j l s) ∧ bkB T n a j s.2 = bkST T n a j s.2 := by
  refine ⟨if_pos h, ?_⟩
  by_cases c0 : bkST T n a j s.2 ≤ bkFX T n a j ∧ bkST T n a j s.2 ≤ bkDY T n a j
  · exact if_pos c0
  · unfold bkW at h
    rw [if_neg c0] at h
    by_cases c1 : bkFX T n a j ≤ bkDY T n a j
    · rw [if_pos c1] at h; omega
    · rw [if_neg c1] at h; omega
theorem bk_w1 {T : Nat → Int} {n a j l : Nat} {s : Nat × Nat} (h : bkW T n a j s.2 = 1) : bkS T n a j l s = bkP T n a j fxL fxD (bk1 T n a j l s) ∧ bkB T n a j s.2 = bkFX T n a j := by
  refine ⟨(if_neg (by omega)).trans (if_pos h), ?_⟩
  by_cases c0 : bkST T n a j s.2 ≤ bkFX T n a j ∧ bkST T n a j s.2 ≤ bkDY T n a j
  · unfold bkW at h
    rw [if_pos c0] at h; omega
  · by_cases c1 : bkFX T n a j ≤ bkDY T n a j
    · exact (if_neg c0).trans (if_pos c1)
    · unfold bkW at h
      rw [if_neg c0, if_neg c1] at h; omega
theorem bk_w2 {T : Nat → Int} {n a j l : Nat} {s : Nat × Nat} (h : bkW T n a j s.2 = 2) : bkS T n a j l s = bkP T n a j (bkL T n a j) (bkE T n a j) (bkH T n a j (bk1 T n a j l s)) ∧ bkB T n a j s.2 = bkDY T n a j := by
  refine ⟨(if_neg (by omega)).trans (if_neg (by omega)), ?_⟩
  by_cases c0 : bkST T n a j s.2 ≤ bkFX T n a j ∧ bkST T n a j s.2 ≤ bkDY T n a j
  · unfold bkW at h
    rw [if_pos c0] at h; omega
  · by_cases c1 : bkFX T n a j ≤ bkDY T n a j
    · unfold bkW at h
      rw [if_neg c0, if_pos c1] at h; omega
    · exact (if_neg c0).trans (if_neg c1)
theorem bk1_2 (T : Nat → Int) (n a j l : Nat) (s : Nat × Nat) : (bk1 T n a j l s).2 = s.2 + 3 := rfl
theorem tSX_ok {f : Nat → Nat} {N c i : Nat} (A : ltT f N c) (hf : ∀ j, j < N → f j ≤ 15) (hi : i < c) : tS f N i ≤ 18 ∧ tX f N i < 2 ^ rEf (tS f N i) := by
  have h := tk_ok (A i hi) hf
  refine ⟨h.1, ?_⟩
  have h2 : (tk f N (tp f N i)).2.1 < 2 ^ rEf (tk f N (tp f N i)).1 := by
    by_cases c1 : (tk f N (tp f N i)).1 < 16
    · have := h.2.2.2.2.1 c1
      rw [this, show rEf (tk f N (tp f N i)).1 = 0 from if_neg (by omega)]
      decide
    · rcases (by omega : (tk f N (tp f N i)).1 = 16 ∨ (tk f N (tp f N i)).1 = 17 ∨ (tk f N (tp f N i)).1 = 18) with q | q | q
      · have := h.2.2.2.2.2.1 q; rw [q]; exact this
      · have := h.2.2.2.2.2.2 q; rw [q]; exact this
      · have := h.2.2.2.1; rw [q]; exact this
  exact h2
theorem tC_pos {f : Nat → Nat} {N : Nat} : ∀ c i, i < c → 1 ≤ tC f N c (tS f N i) := by
  intro c
  induction c with
  | zero => intro i h; omega
  | succ c ih =>
    intro i h
    show 1 ≤ tC f N c (tS f N i) + if tS f N c = tS f N i then 1 else 0
    by_cases e : i = c
    · subst e; rw [if_pos rfl]; omega
    · have := ih i (by omega); omega
theorem row15c {L1 L2 : Nat → Nat} (A : ∀ k, k < 286 → L1 k ≤ 15) (B : ∀ k, k < 30 → L2 k ≤ 15) : ∀ j, j < rowM L1 L2 → rowF L1 L2 j ≤ 15 := fun j hj => by
  have a := tdM_rng L1 257 29
  have b := tdM_rng L2 1 29
  unfold rowM at hj
  unfold rowF rwF
  by_cases q : j < tdM L1 257 29
  · rw [if_pos q]; exact A j (by omega)
  · rw [if_neg q]; exact B _ (by omega)
theorem row_c {L1 L2 : Nat → Nat} {c : Nat} (h1 : ∀ k, k < 286 → L1 k ≤ 15) (h2 : ∀ k, k < 30 → L2 k ≤ 15) (A : ltT (rowF L1 L2) (rowM L1 L2) c) : c ≤ 316 := by
  have a := tdM_rng L1 257 29
  have b := tdM_rng L2 1 29
  have e : rowM L1 L2 = tdM L1 257 29 + tdM L2 1 29 := rfl
  have t := tp_k (row15c h1 h2) c A
  omega
/-- the head's bits -/
theorem bkH_cl {T : Nat → Int} {n a j c : Nat} {L1 L2 : Nat → Nat} {s : Nat × Nat} {r1 r3 r4 r5 r6 : Nat → Int32} (P : plP r1 r3 r4 r5 r6 L1 L2 c) (h1 : ∀ k, k < 286 → L1 k = bkL T n a j k) (h2 : ∀ k, k < 30 → L2 k = bkE T n a j k) (b1 : ∀ k, k < 286 → L1 k ≤ 15) (b2 : ∀ k, k < 30 → L2 k ≤ 15) : c = bkR T n a j ∧ sS (nL r6) (nL r5) (rowF L1 L2) (rowM L1 L2) (oS (nL r5) (hdS (r1 1).toInt.toNat (r1 2).toInt.toNat (r1 7).toInt.toNat s) (r1 7).toInt.toNat) c = bkH T n a j s ∧ (∀ i, i < bkR T n a j → tS (rowF (bkL T n a j) (bkE T n a j)) (rowM (bkL T n a j) (bkE T n a j)) i < 19) := by
  obtain ⟨p1, p2, p5, p7, ptp, plt, pte, pA, pa, pu, pw⟩ := P
  have hc := row_c b1 b2 plt
  have e := row_eq h1 h2 plt
  have eA := row_A h1 h2 plt
  have eR : c = bkR T n a j := row_R h1 h2 plt ptp (by omega)
  have hA : ∀ k, k < 288 → nL r5 k = bkA T n a j k := fun k hk => by
    rw [pA k hk, eA.1, eR]; rfl
  have hW : ∀ k, k < 288 → 1 ≤ bkA T n a j k → nL r6 k = cdN (bkA T n a j) 288 k := wd_nL pw (by decide) (by decide) hA (fun l _ => ctN_congr 288 hA)
  have ht : ∀ i, i < c → tS (rowF (bkL T n a j) (bkE T n a j)) (rowM (bkL T n a j) (bkE T n a j)) i < 19 := fun i hi => by
    rw [← (e.2.2.2.1 i hi).1]
    have := (tSX_ok plt (row15c b1 b2) hi).1
    omega
  refine ⟨eR, ?_, by rw [← eR]; exact ht⟩
  have hu : ∀ i, i < c → 1 ≤ bkA T n a j (tS (rowF (bkL T n a j) (bkE T n a j)) (rowM (bkL T n a j) (bkE T n a j)) i) := fun i hi => by
    have t := ht i hi
    rw [← hA _ (by omega)]
    refine pu _ t ?_
    rw [← (e.2.2.2.1 i hi).1]
    exact tC_pos c i hi
  have eo : (r1 7).toInt.toNat = bkO T n a j := by
    have : rowO L1 L2 c = bkO T n a j := by rw [eA.2.1, eR]; rfl
    omega
  unfold bkH
  rw [show (r1 1).toInt.toNat = tdM (bkL T n a j) 257 29 by rw [← e.1.1]; omega, show (r1 2).toInt.toNat = tdM (bkE T n a j) 1 29 by rw [← e.1.2.1]; omega, eo, oS_eq (LA := nL r5) (LA' := bkA T n a j) _ (fun i hi => hA _ (by have := OR_lt i; omega)), ← eR]
  exact sS_eq2 c e.2.2.2.1 (fun i hi => ⟨hW _ (by have := ht i hi; omega) (hu i hi), hA _ (by have := ht i hi; omega)⟩)

end
section
/-! PRINTED by wip/pack: the class: a block written -/
theorem x66_0 : ∀ q k : Nat, (q = 68 ∧ k = 1 ∨ q = 68 ∧ k = 2 ∨ q = 50 ∧ k = 1) → (q = 68 ∧ k = 1 ∨ q = 68 ∧ k = 2 ∨ q = 50 ∧ k = 1 ∨ q = 29 ∧ k = 4 ∨ q = 36 ∧ k = 4) := fun q k hk => hk.elim (fun g => (.inl g)) (fun hk => hk.elim (fun g => (.inr (.inl g))) (fun hk => (.inr (.inr (.inl hk)))))
theorem x66_1 : ∀ q : Nat, (q = 51) → (q = 51 ∨ q = 57 ∨ 31 ≤ q ∧ q ≤ 35 ∨ 38 ≤ q ∧ q ≤ 42) := fun q hk => (.inl hk)
theorem x66_2 : ∀ q : Nat, (False) → (False) := fun q hk => hk.elim
theorem x66_3 : ∀ k : Nat, ¬ (57 = 68 ∧ k = 1 ∨ 57 = 68 ∧ k = 2 ∨ 57 = 50 ∧ k = 1) := fun k c => by omega
theorem x66_4 : ¬ (55 = 51 ∨ 55 = 57 ∨ 31 ≤ 55 ∧ 55 ≤ 35 ∨ 38 ≤ 55 ∧ 55 ≤ 42) := by omega
theorem x66_5 : ¬ (55 = 68 ∧ 2 = 1 ∨ 55 = 68 ∧ 2 = 2 ∨ 55 = 50 ∧ 2 = 1 ∨ 55 = 29 ∧ 2 = 4 ∨ 55 = 36 ∧ 2 = 4) := by omega
theorem x66_6 : ¬ (30 = 51 ∨ 30 = 57 ∨ 31 ≤ 30 ∧ 30 ≤ 35 ∨ 38 ≤ 30 ∧ 30 ≤ 42) := by omega
theorem x66_7 : ∀ k : Nat, ¬ (30 = 68 ∧ k = 1 ∨ 30 = 68 ∧ k = 2 ∨ 30 = 50 ∧ k = 1 ∨ 30 = 29 ∧ k = 4 ∨ 30 = 36 ∧ k = 4) := fun k c => by omega
theorem x66_8 : ¬ (37 = 51 ∨ 37 = 57 ∨ 31 ≤ 37 ∧ 37 ≤ 35 ∨ 38 ≤ 37 ∧ 37 ≤ 42) := by omega
theorem x66_9 : ∀ k : Nat, ¬ (37 = 68 ∧ k = 1 ∨ 37 = 68 ∧ k = 2 ∨ 37 = 50 ∧ k = 1 ∨ 37 = 29 ∧ k = 4 ∨ 37 = 36 ∧ k = 4) := fun k c => by omega
theorem x66_10 : ¬ (44 = 51 ∨ 44 = 57 ∨ 31 ≤ 44 ∧ 44 ≤ 35 ∨ 38 ≤ 44 ∧ 44 ≤ 42) := by omega
theorem x66_11 : ∀ k : Nat, ¬ (44 = 68 ∧ k = 1 ∨ 44 = 68 ∧ k = 2 ∨ 44 = 50 ∧ k = 1 ∨ 44 = 29 ∧ k = 4 ∨ 44 = 36 ∧ k = 4) := fun k c => by omega
theorem x66_12 : ∀ q k : Nat, (False) → (q = 68 ∧ k = 1 ∨ q = 68 ∧ k = 2 ∨ q = 50 ∧ k = 1 ∨ q = 29 ∧ k = 4 ∨ q = 36 ∧ k = 4) := fun q k hk => hk.elim
theorem x66_13 : ∀ q : Nat, (q = 57) → (q = 51 ∨ q = 57 ∨ 31 ≤ q ∧ q ≤ 35 ∨ 38 ≤ q ∧ q ≤ 42) := fun q hk => (.inr (.inl hk))
theorem x66_14 : ∀ q k : Nat, (q = 29 ∧ k = 4) → (q = 68 ∧ k = 1 ∨ q = 68 ∧ k = 2 ∨ q = 50 ∧ k = 1 ∨ q = 29 ∧ k = 4 ∨ q = 36 ∧ k = 4) := fun q k hk => (.inr (.inr (.inr (.inl hk))))
theorem x66_15 : ∀ q : Nat, (q = 31 ∨ q = 32 ∨ q = 33 ∨ q = 34 ∨ q = 35) → (q = 51 ∨ q = 57 ∨ 31 ≤ q ∧ q ≤ 35 ∨ 38 ≤ q ∧ q ≤ 42) := fun q hk => hk.elim (fun g => (.inr (.inr (.inl (show 31 ≤ q ∧ q ≤ 35 by omega))))) (fun hk => hk.elim (fun g => (.inr (.inr (.inl (show 31 ≤ q ∧ q ≤ 35 by omega))))) (fun hk => hk.elim (fun g => (.inr (.inr (.inl (show 31 ≤ q ∧ q ≤ 35 by omega))))) (fun hk => hk.elim (fun g => (.inr (.inr (.inl (show 31 ≤ q ∧ q ≤ 35 by omega))))) (fun hk => (.inr (.inr (.inl (show 31 ≤ q ∧ q ≤ 35 by omega))))))))
theorem x66_16 : ∀ k : Nat, ¬ (51 = 29 ∧ k = 4) := fun k c => by omega
theorem x66_17 : ∀ k : Nat, ¬ (50 = 29 ∧ k = 4) := fun k c => by omega
theorem x66_18 : ∀ k : Nat, ¬ (68 = 29 ∧ k = 4) := fun k c => by omega
theorem x66_19 : ∀ k : Nat, ¬ (57 = 29 ∧ k = 4) := fun k c => by omega
theorem x66_20 : ∀ q k : Nat, (q = 36 ∧ k = 4) → (q = 68 ∧ k = 1 ∨ q = 68 ∧ k = 2 ∨ q = 50 ∧ k = 1 ∨ q = 29 ∧ k = 4 ∨ q = 36 ∧ k = 4) := fun q k hk => (.inr (.inr (.inr (.inr hk))))
theorem x66_21 : ∀ q : Nat, (q = 38 ∨ q = 39 ∨ q = 40 ∨ q = 41 ∨ q = 42) → (q = 51 ∨ q = 57 ∨ 31 ≤ q ∧ q ≤ 35 ∨ 38 ≤ q ∧ q ≤ 42) := fun q hk => hk.elim (fun g => (.inr (.inr (.inr (show 38 ≤ q ∧ q ≤ 42 by omega))))) (fun hk => hk.elim (fun g => (.inr (.inr (.inr (show 38 ≤ q ∧ q ≤ 42 by omega))))) (fun hk => hk.elim (fun g => (.inr (.inr (.inr (show 38 ≤ q ∧ q ≤ 42 by omega))))) (fun hk => hk.elim (fun g => (.inr (.inr (.inr (show 38 ≤ q ∧ q ≤ 42 by omega))))) (fun hk => (.inr (.inr (.inr (show 38 ≤ q ∧ q ≤ 42 by omega))))))))
theorem x66_22 : ∀ k : Nat, ¬ (51 = 36 ∧ k = 4) := fun k c => by omega
theorem x66_23 : ∀ k : Nat, ¬ (50 = 36 ∧ k = 4) := fun k c => by omega
theorem x66_24 : ∀ k : Nat, ¬ (68 = 36 ∧ k = 4) := fun k c => by omega
theorem x66_25 : ∀ k : Nat, ¬ (57 = 36 ∧ k = 4) := fun k c => by omega
theorem x66_26 : ∀ k : Nat, ¬ (31 = 36 ∧ k = 4) := fun k c => by omega
theorem x66_27 : ¬ (61 = 51 ∨ 61 = 57 ∨ 31 ≤ 61 ∧ 61 ≤ 35 ∨ 38 ≤ 61 ∧ 61 ≤ 42) := by omega
theorem x66_28 : ∀ k : Nat, ¬ (61 = 68 ∧ k = 1 ∨ 61 = 68 ∧ k = 2 ∨ 61 = 50 ∧ k = 1 ∨ 61 = 29 ∧ k = 4 ∨ 61 = 36 ∧ k = 4) := fun k c => by omega
theorem x66_29 : ¬ (63 = 51 ∨ 63 = 57 ∨ 31 ≤ 63 ∧ 63 ≤ 35 ∨ 38 ≤ 63 ∧ 63 ≤ 42) := by omega
theorem x66_30 : ∀ k : Nat, ¬ (63 = 68 ∧ k = 1 ∨ 63 = 68 ∧ k = 2 ∨ 63 = 50 ∧ k = 1 ∨ 63 = 29 ∧ k = 4 ∨ 63 = 36 ∧ k = 4) := fun k c => by omega
theorem x66_31 : ¬ (64 = 51 ∨ 64 = 57 ∨ 31 ≤ 64 ∧ 64 ≤ 35 ∨ 38 ≤ 64 ∧ 64 ≤ 42) := by omega
theorem x66_32 : ∀ k : Nat, ¬ (64 = 68 ∧ k = 1 ∨ 64 = 68 ∧ k = 2 ∨ 64 = 50 ∧ k = 1 ∨ 64 = 29 ∧ k = 4 ∨ 64 = 36 ∧ k = 4) := fun k c => by omega
theorem x66_33 : ¬ (45 = 51 ∨ 45 = 57 ∨ 31 ≤ 45 ∧ 45 ≤ 35 ∨ 38 ≤ 45 ∧ 45 ≤ 42) := by omega
theorem x66_34 : ∀ k : Nat, ¬ (45 = 68 ∧ k = 1 ∨ 45 = 68 ∧ k = 2 ∨ 45 = 50 ∧ k = 1 ∨ 45 = 29 ∧ k = 4 ∨ 45 = 36 ∧ k = 4) := fun k c => by omega
theorem x66_35 : ∀ k : Nat, ¬ (31 = 68 ∧ k = 1 ∨ 31 = 68 ∧ k = 2 ∨ 31 = 50 ∧ k = 1) := fun k c => by omega
theorem x66_36 : ∀ k : Nat, ¬ (38 = 68 ∧ k = 1 ∨ 38 = 68 ∧ k = 2 ∨ 38 = 50 ∧ k = 1) := fun k c => by omega
theorem x66_37 : ¬ (53 = 51 ∨ 53 = 57 ∨ 31 ≤ 53 ∧ 53 ≤ 35 ∨ 38 ≤ 53 ∧ 53 ≤ 42) := by omega
theorem x66_38 : ¬ (53 = 68 ∧ 1 = 1 ∨ 53 = 68 ∧ 1 = 2 ∨ 53 = 50 ∧ 1 = 1 ∨ 53 = 29 ∧ 1 = 4 ∨ 53 = 36 ∧ 1 = 4) := by omega
theorem x66_39 : ¬ (54 = 51 ∨ 54 = 57 ∨ 31 ≤ 54 ∧ 54 ≤ 35 ∨ 38 ≤ 54 ∧ 54 ≤ 42) := by omega
theorem x66_40 : ∀ k : Nat, ¬ (54 = 68 ∧ k = 1 ∨ 54 = 68 ∧ k = 2 ∨ 54 = 50 ∧ k = 1 ∨ 54 = 29 ∧ k = 4 ∨ 54 = 36 ∧ k = 4) := fun k c => by omega
theorem x66_41 : ¬ (16 = 51 ∨ 16 = 57 ∨ 31 ≤ 16 ∧ 16 ≤ 35 ∨ 38 ≤ 16 ∧ 16 ≤ 42) := by omega
theorem x66_42 : ∀ k : Nat, ¬ (16 = 68 ∧ k = 1 ∨ 16 = 68 ∧ k = 2 ∨ 16 = 50 ∧ k = 1 ∨ 16 = 29 ∧ k = 4 ∨ 16 = 36 ∧ k = 4) := fun k c => by omega
theorem x66_43 : ¬ (17 = 51 ∨ 17 = 57 ∨ 31 ≤ 17 ∧ 17 ≤ 35 ∨ 38 ≤ 17 ∧ 17 ≤ 42) := by omega
theorem x66_44 : ∀ k : Nat, ¬ (17 = 68 ∧ k = 1 ∨ 17 = 68 ∧ k = 2 ∨ 17 = 50 ∧ k = 1 ∨ 17 = 29 ∧ k = 4 ∨ 17 = 36 ∧ k = 4) := fun k c => by omega
theorem x66_45 : ¬ (23 = 51 ∨ 23 = 57 ∨ 31 ≤ 23 ∧ 23 ≤ 35 ∨ 38 ≤ 23 ∧ 23 ≤ 42) := by omega
theorem x66_46 : ∀ k : Nat, ¬ (23 = 68 ∧ k = 1 ∨ 23 = 68 ∧ k = 2 ∨ 23 = 50 ∧ k = 1 ∨ 23 = 29 ∧ k = 4 ∨ 23 = 36 ∧ k = 4) := fun k c => by omega
theorem x66_47 : ¬ (24 = 51 ∨ 24 = 57 ∨ 31 ≤ 24 ∧ 24 ≤ 35 ∨ 38 ≤ 24 ∧ 24 ≤ 42) := by omega
theorem x66_48 : ∀ k : Nat, ¬ (24 = 68 ∧ k = 1 ∨ 24 = 68 ∧ k = 2 ∨ 24 = 50 ∧ k = 1 ∨ 24 = 29 ∧ k = 4 ∨ 24 = 36 ∧ k = 4) := fun k c => by omega
theorem x66_49 : ¬ (2 = 51 ∨ 2 = 57 ∨ 31 ≤ 2 ∧ 2 ≤ 35 ∨ 38 ≤ 2 ∧ 2 ≤ 42) := by omega
theorem x66_50 : ¬ (2 = 68 ∧ 1 = 1 ∨ 2 = 68 ∧ 1 = 2 ∨ 2 = 50 ∧ 1 = 1 ∨ 2 = 29 ∧ 1 = 4 ∨ 2 = 36 ∧ 1 = 4) := by omega
theorem x66_51 : ¬ (3 = 51 ∨ 3 = 57 ∨ 31 ≤ 3 ∧ 3 ≤ 35 ∨ 38 ≤ 3 ∧ 3 ≤ 42) := by omega
theorem x66_52 : ∀ k : Nat, ¬ (3 = 68 ∧ k = 1 ∨ 3 = 68 ∧ k = 2 ∨ 3 = 50 ∧ k = 1 ∨ 3 = 29 ∧ k = 4 ∨ 3 = 36 ∧ k = 4) := fun k c => by omega
theorem x66_53 : ¬ (52 = 51 ∨ 52 = 57 ∨ 31 ≤ 52 ∧ 52 ≤ 35 ∨ 38 ≤ 52 ∧ 52 ≤ 42) := by omega
theorem x66_54 : ¬ (52 = 68 ∧ 11 = 1 ∨ 52 = 68 ∧ 11 = 2 ∨ 52 = 50 ∧ 11 = 1 ∨ 52 = 29 ∧ 11 = 4 ∨ 52 = 36 ∧ 11 = 4) := by omega
set_option maxRecDepth 4000 in
set_option maxHeartbeats 2000000 in
theorem c_wBlock {E : Nat → Nat × (Nat → Int32)} {d : Nat} {Q : ez_Q} {h : ez_H} {k : Int32} {fr : Int32} {to : Int32} {pl : Int32} (S : zSh h) {l c cc : Nat} {s0 : Nat × Nat} (hE : zE E) (hs : stC (ez_I h 51) (ez_I h 50 1).toInt (ez_I h 68 1).toInt (ez_I h 68 2).toInt (wr s0 l 1)) (h7 : (ez_I h 68 2).toInt ≤ 7) (hz : 0 ≤ (ez_I h 2 1).toInt ∧ (ez_I h 2 1).toInt ≤ 6000) (hb : aR (ez_I h 3) (ez_I h 2 1).toInt.toNat 0 255) (hk : 0 ≤ k.toInt ∧ k.toInt < (ez_I h 55 2).toInt ∧ (ez_I h 55 2).toInt ≤ 10) (hW : (ez_I h 56 (6 * k.toInt).toNat).toInt = ((bkW (tI (ez_I h 3)) (ez_I h 2 1).toInt.toNat fr.toInt.toNat (to.toInt.toNat - fr.toInt.toNat) s0.2) : Nat)) (hy : (ez_I h 52 11).toInt = ((bkY (tI (ez_I h 3)) (ez_I h 2 1).toInt.toNat fr.toInt.toNat (to.toInt.toNat - fr.toInt.toNat)) : Nat)) (hpl : pl.toInt = (ptP (tI (ez_I h 3)) (ez_I h 2 1).toInt.toNat fr.toInt.toNat : Nat)) (hc : (ez_I h 53 1).toInt = c ∧ c ≤ 6000) (hlt : ltP (tI (ez_I h 3)) (ez_I h 2 1).toInt.toNat c) (hpe : ptP (tI (ez_I h 3)) (ez_I h 2 1).toInt.toNat c = (ez_I h 2 1).toInt.toNat) (hpq : pqG (ez_I h 54) (aM (tI (ez_I h 3)) (ez_I h 2 1).toInt.toNat) (dI (tI (ez_I h 3)) (ez_I h 2 1).toInt.toNat) c) (hf : 0 ≤ fr.toInt ∧ fr.toInt ≤ to.toInt ∧ to.toInt ≤ c) (a16 : aR (ez_I h 16) 288 0 15) (w17 : wdI (ez_I h 17) (nL (ez_I h 16)) 288 288) (f16 : ∀ k, k < 288 → nL (ez_I h 16) k = fxL k) (a23 : aR (ez_I h 23) 288 0 15) (w24 : wdI (ez_I h 24) (nL (ez_I h 23)) 288 288) (f23 : ∀ k, k < 288 → nL (ez_I h 23) k = fxD k) (hpp : plP (ez_I h 61) (ez_I h 63) (ez_I h 64) (ez_I h 44) (ez_I h 45) (nL (ez_I h 30)) (nL (ez_I h 37)) cc) (e30 : ∀ k, k < 288 → nL (ez_I h 30) k = (bkL (tI (ez_I h 3)) (ez_I h 2 1).toInt.toNat fr.toInt.toNat (to.toInt.toNat - fr.toInt.toNat)) k) (a30 : aR (ez_I h 30) 288 0 15) (u30 : ∀ k, k < 286 → 1 ≤ (bkC (tI (ez_I h 3)) (ez_I h 2 1).toInt.toNat fr.toInt.toNat (to.toInt.toNat - fr.toInt.toNat)) k → 1 ≤ nL (ez_I h 30) k) (e37 : ∀ k, k < 288 → nL (ez_I h 37) k = (bkE (tI (ez_I h 3)) (ez_I h 2 1).toInt.toNat fr.toInt.toNat (to.toInt.toNat - fr.toInt.toNat)) k) (a37 : aR (ez_I h 37) 288 0 15) (u37 : ∀ k, k < 30 → 1 ≤ (bkD (tI (ez_I h 3)) (ez_I h 2 1).toInt.toNat fr.toInt.toNat (to.toInt.toNat - fr.toInt.toNat)) k → 1 ≤ nL (ez_I h 37) k) (hr : s0.2 + 50 + 8 * (bkY (tI (ez_I h 3)) (ez_I h 2 1).toInt.toNat fr.toInt.toNat (to.toInt.toNat - fr.toInt.toNat)) ≤ 48800) (K : ∀ h2, zW (fun q k => q = 68 ∧ k = 1 ∨ q = 68 ∧ k = 2 ∨ q = 50 ∧ k = 1 ∨ q = 29 ∧ k = 4 ∨ q = 36 ∧ k = 4) (fun q => q = 51 ∨ q = 57 ∨ 31 ≤ q ∧ q ≤ 35 ∨ 38 ≤ q ∧ q ≤ 42) (fun _ => False) h h2 → stC (ez_I h2 51) (ez_I h2 50 1).toInt (ez_I h2 68 1).toInt (ez_I h2 68 2).toInt (bkS (tI (ez_I h 3)) (ez_I h 2 1).toInt.toNat fr.toInt.toNat (to.toInt.toNat - fr.toInt.toNat) l s0) → (ez_I h2 68 2).toInt ≤ 7 → ((bkW (tI (ez_I h 3)) (ez_I h 2 1).toInt.toNat fr.toInt.toNat (to.toInt.toNat - fr.toInt.toNat) s0.2) = 2 → (∀ s, s < 286 → ez_I h2 57 ((335 * k.toInt).toNat + s) = ez_I h 30 s) ∧ (∀ s, s < 30 → ez_I h2 57 ((335 * k.toInt).toNat + 286 + s) = ez_I h 37 s) ∧ (∀ s, s < 19 → ez_I h2 57 ((335 * k.toInt).toNat + 316 + s) = ez_I h 44 s)) → (∀ j, (j < (335 * k.toInt).toNat ∨ (335 * k.toInt).toNat + 335 ≤ j) → ez_I h2 57 j = ez_I h 57 j) → Q (.inl none) h2) : pw E (d + 4) 119 0 [some (.ref 52), some (.int k), some (.int fr), some (.int to), some (.ref 2), some (.int pl), none] [] h Q := by
  have gk := z_rng k
  have gfr := z_rng fr
  have gto := z_rng to
  have gpl := z_rng pl
  have hT : ∀ i, i < (ez_I h 2 1).toInt.toNat → 0 ≤ (tI (ez_I h 3)) i ∧ (tI (ez_I h 3)) i ≤ 255 := fun i hi => hb i hi
  have F := zW_refl (fun q k => q = 68 ∧ k = 1 ∨ q = 68 ∧ k = 2 ∨ q = 50 ∧ k = 1 ∨ q = 29 ∧ k = 4 ∨ q = 36 ∧ k = 4) (fun q => q = 51 ∨ q = 57 ∨ 31 ≤ q ∧ q ≤ 35 ∨ 38 ≤ q ∧ q ≤ 42) (fun _ => False) h
  apply ez_Wp_in
  show ez_gw _ _ _ _ _ _ (cz_119) _ _ _ _ _
  refine gw_skip _ ?_
  have r1 := z_rng (ez_I h 68 1)
  have r2 := z_rng (ez_I h 68 2)
  have r3 := z_rng (ez_I h 50 1)
  have r4 := z_rng (ez_I h 29 4)
  have r5 := z_rng (ez_I h 36 4)
  refine gw_ld rfl rfl ?_
  refine z_gR (q := 55) (zT S (by decide) rfl) (zRf S (by decide) (by decide) rfl) (by decide) ?_
  refine gw_ld rfl rfl ?_
  refine z_C (m := 0) rfl rfl (fun x6 ex6 => ?_)
  refine z_cl rfl rfl rfl rfl rfl rfl rfl rfl rfl rfl rfl (zT S (by decide) rfl) ?_
  refine c_fact (k := k) (w := x6) S (by omega) (fun x7 k8 k9 => ?_)
  have rx7 := z_rng x7
  have hwx : x7.toInt = ((bkW (tI (ez_I h 3)) (ez_I h 2 1).toInt.toNat fr.toInt.toNat (to.toInt.toNat - fr.toInt.toNat) s0.2) : Nat) := by rw [k8 (by omega), show (6 * k.toInt + x6.toInt).toNat = (6 * k.toInt).toNat by omega]; exact hW
  have hw2 := bkW_2 (tI (ez_I h 3)) (ez_I h 2 1).toInt.toNat fr.toInt.toNat (to.toInt.toNat - fr.toInt.toNat) s0.2
  refine gw_st rfl rfl rfl ?_
  show ez_gw _ _ _ _ _ _ _ _ [some (.ref 52), some (.int k), some (.int fr), some (.int to), some (.ref 2), some (.int pl), some (.int x7)] _ _ _
  refine gw_ld rfl rfl ?_
  refine z_gR (q := 68) (zT S (by decide) rfl) (zRf S (by decide) (by decide) rfl) (by decide) ?_
  refine gw_ld rfl rfl ?_
  refine z_C (m := 2) rfl rfl (fun x10 ex10 => ?_)
  refine z_cl rfl rfl rfl rfl rfl rfl rfl rfl rfl rfl rfl (zT S (by decide) rfl) ?_
  have hpw : (2 : Int) ^ x10.toInt.toNat = 4 := by rw [show x10.toInt.toNat = 2 by omega]; rfl
  refine c_put (s := wr s0 l 1) (v := x7) (n := x10) S hs h7 (by omega) (by omega) (by show s0.2 + 1 + _ ≤ _; omega) (fun h11 F12 k13 k14 => ?_)
  rw [show x7.toInt.toNat = (bkW (tI (ez_I h 3)) (ez_I h 2 1).toInt.toNat fr.toInt.toNat (to.toInt.toNat - fr.toInt.toNat) s0.2) by omega, show x10.toInt.toNat = 2 by omega] at k13
  have hst : stC (ez_I h11 51) (ez_I h11 50 1).toInt (ez_I h11 68 1).toInt (ez_I h11 68 2).toInt (bk1 (tI (ez_I h 3)) (ez_I h 2 1).toInt.toNat fr.toInt.toNat (to.toInt.toNat - fr.toInt.toNat) l s0) := k13
  have S15 := zW_sh F12 S
  have F16 := zW_tr F (zW_mono F12 (x66_0) (x66_1) (x66_2))
  have r17 := z_rng (ez_I h11 68 1)
  have r18 := z_rng (ez_I h11 68 2)
  have r19 := z_rng (ez_I h11 50 1)
  have f20 : ez_I h11 29 4 = (ez_I h 29 4) := (zW_f F12 (by decide) (by decide)).trans (rfl)
  have f21 : ez_I h11 36 4 = (ez_I h 36 4) := (zW_f F12 (by decide) (by decide)).trans (rfl)
  have A22 : ez_I h11 57 = ez_I h 57 := by rw [zW_fn F12 57 (by decide) (x66_3)]
  refine gw_ld rfl rfl ?_
  refine z_b1 (fun c23 => ?_) (fun c23 => ?_)
  · have c23 : x7.toInt ≠ 0 := c23
    refine gw_skip _ ?_
    refine gw_ld rfl rfl ?_
    refine z_C (m := 1) rfl rfl (fun x24 ex24 => ?_)
    refine z_b2 (fun c25 => ?_) (fun c25 => ?_)
    · have c25 : x7.toInt ≠ x24.toInt := c25
      refine gw_skip _ ?_
      have hw2_ : (bkW (tI (ez_I h 3)) (ez_I h 2 1).toInt.toNat fr.toInt.toNat (to.toInt.toNat - fr.toInt.toNat) s0.2) = 2 := by omega
      refine gw_ld rfl rfl ?_
      refine z_gR (q := 55) (zT S15 (by decide) rfl) (zRf S15 (by decide) (by decide) rfl) (by decide) ?_
      refine gw_ld rfl rfl ?_
      refine gw_ld rfl rfl ?_
      refine z_gR (q := 14) (zT S15 (by decide) rfl) (zRf S15 (by decide) (by decide) rfl) (by decide) ?_
      have t26 := congrArg Int32.toInt (f20)
      have t27 := congrArg Int32.toInt (f21)
      refine z_cl rfl rfl rfl rfl rfl rfl rfl rfl rfl rfl rfl (zT S15 (by decide) rfl) ?_
      refine c_keep (k := k) S15 (by rw [(show ez_I h11 55 2 = ez_I h 55 2 from zW_f F16 x66_4 x66_5)]; omega) (fun h28 F29 k30 k31 k32 k33 => ?_)
      rw [(show ez_I h11 30 = ez_I h 30 from zW_fn F16 30 x66_6 x66_7)] at k30
      rw [(show ez_I h11 37 = ez_I h 37 from zW_fn F16 37 x66_8 x66_9)] at k31
      rw [(show ez_I h11 44 = ez_I h 44 from zW_fn F16 44 x66_10 x66_11)] at k32
      rw [A22] at k33
      have S34 := zW_sh F29 S15
      have F35 := zW_tr F16 (zW_mono F29 (x66_12) (x66_13) (x66_2))
      have f36 : ez_I h28 68 1 = (ez_I h11 68 1) := (zW_f F29 (by decide) (fun c => c)).trans (rfl)
      have f37 : ez_I h28 68 2 = (ez_I h11 68 2) := (zW_f F29 (by decide) (fun c => c)).trans (rfl)
      have f38 : ez_I h28 50 1 = (ez_I h11 50 1) := (zW_f F29 (by decide) (fun c => c)).trans (rfl)
      have f39 : ez_I h28 29 4 = (ez_I h 29 4) := (zW_f F29 (by decide) (fun c => c)).trans (f20)
      have f40 : ez_I h28 36 4 = (ez_I h 36 4) := (zW_f F29 (by decide) (fun c => c)).trans (f21)
      have A41 : stC (ez_I h28 51) (ez_I h28 50 1).toInt (ez_I h28 68 1).toInt (ez_I h28 68 2).toInt (bk1 (tI (ez_I h 3)) (ez_I h 2 1).toInt.toNat fr.toInt.toNat (to.toInt.toNat - fr.toInt.toNat) l s0) := by rw [zW_fn F29 51 (by decide) (fun _ c => c), zW_fn F29 50 (by decide) (fun _ c => c), zW_fn F29 68 (by decide) (fun _ c => c)]; exact hst
      refine gw_ld rfl rfl ?_
      refine z_gR (q := 14) (zT S34 (by decide) rfl) (zRf S34 (by decide) (by decide) rfl) (by decide) ?_
      refine z_gR (q := 29) (zT S34 (by decide) rfl) (zRf S34 (by decide) (by decide) rfl) (by decide) ?_
      have t42 := congrArg Int32.toInt (f36)
      have t43 := congrArg Int32.toInt (f37)
      have t44 := congrArg Int32.toInt (f38)
      have t45 := congrArg Int32.toInt (f39)
      have t46 := congrArg Int32.toInt (f40)
      refine z_cl rfl rfl rfl rfl rfl rfl rfl rfl rfl rfl rfl (zT S34 (by decide) rfl) ?_
      have y29 := (show ez_I h28 30 = ez_I h 30 from zW_fn F35 30 x66_6 x66_7)
      refine c_settle (p := 29) S34 (by decide) (show aR (ez_I h28 30) 288 0 15 by rw [y29]; exact a30) (fun h47 F48 k49 k50 k51 k52 => ?_)
      have wd29 : wdI (ez_I h47 31) (nL (ez_I h 30)) 288 288 := by rw [← y29]; exact k51
      have S53 := zW_sh F48 S34
      have F54 := zW_tr F35 (zW_mono F48 (x66_14) (x66_15) (x66_2))
      have f55 : ez_I h47 68 1 = (ez_I h11 68 1) := (zW_f F48 (by decide) (by decide)).trans (f36)
      have f56 : ez_I h47 68 2 = (ez_I h11 68 2) := (zW_f F48 (by decide) (by decide)).trans (f37)
      have f57 : ez_I h47 50 1 = (ez_I h11 50 1) := (zW_f F48 (by decide) (by decide)).trans (f38)
      have r58 := z_rng (ez_I h47 29 4)
      have f59 : ez_I h47 36 4 = (ez_I h 36 4) := (zW_f F48 (by decide) (by decide)).trans (f40)
      have A60 : stC (ez_I h47 51) (ez_I h47 50 1).toInt (ez_I h47 68 1).toInt (ez_I h47 68 2).toInt (bk1 (tI (ez_I h 3)) (ez_I h 2 1).toInt.toNat fr.toInt.toNat (to.toInt.toNat - fr.toInt.toNat) l s0) := by rw [zW_fn F48 51 (by decide) (x66_16), zW_fn F48 50 (by decide) (x66_17), zW_fn F48 68 (by decide) (x66_18)]; exact A41
      have A61 : (∀ s, s < 286 → ez_I h47 57 ((335 * k.toInt).toNat + s) = ez_I h 30 s) := by rw [zW_fn F48 57 (by decide) (x66_19)]; exact k30
      have A62 : (∀ s, s < 30 → ez_I h47 57 ((335 * k.toInt).toNat + 286 + s) = ez_I h 37 s) := by rw [zW_fn F48 57 (by decide) (x66_19)]; exact k31
      have A63 : (∀ s, s < 19 → ez_I h47 57 ((335 * k.toInt).toNat + 316 + s) = ez_I h 44 s) := by rw [zW_fn F48 57 (by decide) (x66_19)]; exact k32
      have A64 : (∀ j, (j < (335 * k.toInt).toNat ∨ (335 * k.toInt).toNat + 335 ≤ j) → ez_I h47 57 j = ez_I h 57 j) := by rw [zW_fn F48 57 (by decide) (x66_19)]; exact k33
      clear A41
      refine gw_ld rfl rfl ?_
      refine z_gR (q := 14) (zT S53 (by decide) rfl) (zRf S53 (by decide) (by decide) rfl) (by decide) ?_
      refine z_gR (q := 36) (zT S53 (by decide) rfl) (zRf S53 (by decide) (by decide) rfl) (by decide) ?_
      have t65 := congrArg Int32.toInt (f55)
      have t66 := congrArg Int32.toInt (f56)
      have t67 := congrArg Int32.toInt (f57)
      have t68 := congrArg Int32.toInt (f59)
      refine z_cl rfl rfl rfl rfl rfl rfl rfl rfl rfl rfl rfl (zT S53 (by decide) rfl) ?_
      have y36 := (show ez_I h47 37 = ez_I h 37 from zW_fn F54 37 x66_8 x66_9)
      refine c_settle (p := 36) S53 (by decide) (show aR (ez_I h47 37) 288 0 15 by rw [y36]; exact a37) (fun h69 F70 k71 k72 k73 k74 => ?_)
      have wd36 : wdI (ez_I h69 38) (nL (ez_I h 37)) 288 288 := by rw [← y36]; exact k73
      have S75 := zW_sh F70 S53
      have F76 := zW_tr F54 (zW_mono F70 (x66_20) (x66_21) (x66_2))
      have f77 : ez_I h69 68 1 = (ez_I h11 68 1) := (zW_f F70 (by decide) (by decide)).trans (f55)
      have f78 : ez_I h69 68 2 = (ez_I h11 68 2) := (zW_f F70 (by decide) (by decide)).trans (f56)
      have f79 : ez_I h69 50 1 = (ez_I h11 50 1) := (zW_f F70 (by decide) (by decide)).trans (f57)
      have f80 : ez_I h69 29 4 = (ez_I h47 29 4) := (zW_f F70 (by decide) (by decide)).trans (rfl)
      have r81 := z_rng (ez_I h69 36 4)
      have A82 : stC (ez_I h69 51) (ez_I h69 50 1).toInt (ez_I h69 68 1).toInt (ez_I h69 68 2).toInt (bk1 (tI (ez_I h 3)) (ez_I h 2 1).toInt.toNat fr.toInt.toNat (to.toInt.toNat - fr.toInt.toNat) l s0) := by rw [zW_fn F70 51 (by decide) (x66_22), zW_fn F70 50 (by decide) (x66_23), zW_fn F70 68 (by decide) (x66_24)]; exact A60
      have A83 : (∀ s, s < 286 → ez_I h69 57 ((335 * k.toInt).toNat + s) = ez_I h 30 s) := by rw [zW_fn F70 57 (by decide) (x66_25)]; exact A61
      have A84 : (∀ s, s < 30 → ez_I h69 57 ((335 * k.toInt).toNat + 286 + s) = ez_I h 37 s) := by rw [zW_fn F70 57 (by decide) (x66_25)]; exact A62
      have A85 : (∀ s, s < 19 → ez_I h69 57 ((335 * k.toInt).toNat + 316 + s) = ez_I h 44 s) := by rw [zW_fn F70 57 (by decide) (x66_25)]; exact A63
      have A86 : (∀ j, (j < (335 * k.toInt).toNat ∨ (335 * k.toInt).toNat + 335 ≤ j) → ez_I h69 57 j = ez_I h 57 j) := by rw [zW_fn F70 57 (by decide) (x66_25)]; exact A64
      have A87 : wdI (ez_I h69 31) (nL (ez_I h 30)) 288 288 := by rw [zW_fn F70 31 (by decide) (x66_26)]; exact wd29
      clear A60
      clear A61
      clear A62
      clear A63
      clear A64
      refine gw_ld rfl rfl ?_
      refine z_gR (q := 61) (zT S75 (by decide) rfl) (zRf S75 (by decide) (by decide) rfl) (by decide) ?_
      refine gw_ld rfl rfl ?_
      refine z_gR (q := 14) (zT S75 (by decide) rfl) (zRf S75 (by decide) (by decide) rfl) (by decide) ?_
      refine z_gR (q := 43) (zT S75 (by decide) rfl) (zRf S75 (by decide) (by decide) rfl) (by decide) ?_
      refine gw_ld rfl rfl ?_
      refine z_gR (q := 68) (zT S75 (by decide) rfl) (zRf S75 (by decide) (by decide) rfl) (by decide) ?_
      have t88 := congrArg Int32.toInt (f77)
      have t89 := congrArg Int32.toInt (f78)
      have t90 := congrArg Int32.toInt (f79)
      have t91 := congrArg Int32.toInt (f80)
      refine z_cl rfl rfl rfl rfl rfl rfl rfl rfl rfl rfl rfl (zT S75 (by decide) rfl) ?_
      have g61 := (show ez_I h69 61 = ez_I h 61 from zW_fn F76 61 x66_27 x66_28)
      have g63 := (show ez_I h69 63 = ez_I h 63 from zW_fn F76 63 x66_29 x66_30)
      have g64 := (show ez_I h69 64 = ez_I h 64 from zW_fn F76 64 x66_31 x66_32)
      have g44 := (show ez_I h69 44 = ez_I h 44 from zW_fn F76 44 x66_10 x66_11)
      have g45 := (show ez_I h69 45 = ez_I h 45 from zW_fn F76 45 x66_33 x66_34)
      have g30 := (show ez_I h69 30 = ez_I h 30 from zW_fn F76 30 x66_6 x66_7)
      have g37 := (show ez_I h69 37 = ez_I h 37 from zW_fn F76 37 x66_8 x66_9)
      have b30 : ∀ k, k < 286 → nL (ez_I h 30) k ≤ 15 := fun k hk => by have := a30 k (by omega); show (ez_I h 30 k).toInt.toNat ≤ 15; omega
      have b37 : ∀ k, k < 30 → nL (ez_I h 37) k ≤ 15 := fun k hk => by have := a37 k (by omega); show (ez_I h 37 k).toInt.toNat ≤ 15; omega
      have hcl := bkH_cl (T := (tI (ez_I h 3))) (n := (ez_I h 2 1).toInt.toNat) (a := fr.toInt.toNat) (j := (to.toInt.toNat - fr.toInt.toNat)) (s := (bk1 (tI (ez_I h 3)) (ez_I h 2 1).toInt.toNat fr.toInt.toNat (to.toInt.toNat - fr.toInt.toNat) l s0)) hpp (fun k hk => e30 k (by omega)) (fun k hk => e37 k (by omega)) b30 b37
      obtain ⟨hcc, hcs, hct⟩ := hcl
      obtain ⟨p1, p2, p5, p7, ptp, plt, pte, pA, pa, pu, pw⟩ := hpp
      have hc3 := row_c b30 b37 plt
      have htd1 := tdM_rng (nL (ez_I h 30)) 257 29
      have htd2 := tdM_rng (nL (ez_I h 37)) 1 29
      have htd3 := tdM_rng (fun k => rowA (nL (ez_I h 30)) (nL (ez_I h 37)) cc (ORf k)) 4 15
      have hro : rowO (nL (ez_I h 30)) (nL (ez_I h 37)) cc = tdM (fun k => rowA (nL (ez_I h 30)) (nL (ez_I h 37)) cc (ORf k)) 4 15 := rfl
      have hh2 := bkH_2 (T := (tI (ez_I h 3))) (n := (ez_I h 2 1).toInt.toNat) (a := fr.toInt.toNat) (j := (to.toInt.toNat - fr.toInt.toNat)) (s := (bk1 (tI (ez_I h 3)) (ez_I h 2 1).toInt.toNat fr.toInt.toNat (to.toInt.toNat - fr.toInt.toNat) l s0)) hct
      have hb1 := (bk_w2 (l := l) hw2_).2
      have hb2 := bkB_le (T := (tI (ez_I h 3))) (n := (ez_I h 2 1).toInt.toNat) (a := fr.toInt.toNat) (j := (to.toInt.toNat - fr.toInt.toNat)) (z := s0.2)
      have hb3 : (bkDY (tI (ez_I h 3)) (ez_I h 2 1).toInt.toNat fr.toInt.toNat (to.toInt.toNat - fr.toInt.toNat)) = 3 + hdB (bkL (tI (ez_I h 3)) (ez_I h 2 1).toInt.toNat fr.toInt.toNat (to.toInt.toNat - fr.toInt.toNat)) (bkE (tI (ez_I h 3)) (ez_I h 2 1).toInt.toNat fr.toInt.toNat (to.toInt.toNat - fr.toInt.toNat)) (bkR (tI (ez_I h 3)) (ez_I h 2 1).toInt.toNat fr.toInt.toNat (to.toInt.toNat - fr.toInt.toNat)) + xB (aM (tI (ez_I h 3)) (ez_I h 2 1).toInt.toNat) (dI (tI (ez_I h 3)) (ez_I h 2 1).toInt.toNat) fr.toInt.toNat (to.toInt.toNat - fr.toInt.toNat) + sN (fun i => (bkD (tI (ez_I h 3)) (ez_I h 2 1).toInt.toNat fr.toInt.toNat (to.toInt.toNat - fr.toInt.toNat)) i * LNf (bkD (tI (ez_I h 3)) (ez_I h 2 1).toInt.toNat fr.toInt.toNat (to.toInt.toNat - fr.toInt.toNat)) 30 15 i) 30 + sN (fun i => (bkC (tI (ez_I h 3)) (ez_I h 2 1).toInt.toNat fr.toInt.toNat (to.toInt.toNat - fr.toInt.toNat)) i * (bkL (tI (ez_I h 3)) (ez_I h 2 1).toInt.toNat fr.toInt.toNat (to.toInt.toNat - fr.toInt.toNat)) i) 286 := rfl
      have hb4 := bk1_2 (tI (ez_I h 3)) (ez_I h 2 1).toInt.toNat fr.toInt.toNat (to.toInt.toNat - fr.toInt.toNat) l s0
      refine c_hwrite (s := (bk1 (tI (ez_I h 3)) (ez_I h 2 1).toInt.toNat fr.toInt.toNat (to.toInt.toNat - fr.toInt.toNat) l s0)) (f := (rowF (nL (ez_I h 30)) (nL (ez_I h 37)))) (M := (rowM (nL (ez_I h 30)) (nL (ez_I h 37)))) (c := cc) S75 hE A82 (by omega) (by rw [g61]; omega) (by rw [g61]; omega) (by rw [g63, g64]; exact pte) (fun i hi => tSX_ok plt (row15c b30 b37) hi) (by rw [g44]; exact fun k hk => by have := pa k hk; omega) (by rw [g44]; exact fun k hk => by have := pa k (by omega); omega) (wd_hW (f := ez_I h69 45) (g := ez_I h69 44) (by rw [g45, g44]; exact pw)) (fun i hi => by rw [g44]; exact pu _ (by have := (tSX_ok plt (row15c b30 b37) hi).1; omega) (tC_pos cc i hi)) (by rw [g61, g44, g45, hcs]; omega) (fun h92 F93 k94 k95 => ?_)
      rw [g61, g44, g45, hcs] at k94
      have S96 := zW_sh F93 S75
      have F97 := zW_tr F76 (zW_mono F93 (x66_0) (x66_1) (x66_2))
      have r98 := z_rng (ez_I h92 68 1)
      have r99 := z_rng (ez_I h92 68 2)
      have r100 := z_rng (ez_I h92 50 1)
      have f101 : ez_I h92 29 4 = (ez_I h47 29 4) := (zW_f F93 (by decide) (by decide)).trans (f80)
      have f102 : ez_I h92 36 4 = (ez_I h69 36 4) := (zW_f F93 (by decide) (by decide)).trans (rfl)
      have A103 : (∀ s, s < 286 → ez_I h92 57 ((335 * k.toInt).toNat + s) = ez_I h 30 s) := by rw [zW_fn F93 57 (by decide) (x66_3)]; exact A83
      have A104 : (∀ s, s < 30 → ez_I h92 57 ((335 * k.toInt).toNat + 286 + s) = ez_I h 37 s) := by rw [zW_fn F93 57 (by decide) (x66_3)]; exact A84
      have A105 : (∀ s, s < 19 → ez_I h92 57 ((335 * k.toInt).toNat + 316 + s) = ez_I h 44 s) := by rw [zW_fn F93 57 (by decide) (x66_3)]; exact A85
      have A106 : (∀ j, (j < (335 * k.toInt).toNat ∨ (335 * k.toInt).toNat + 335 ≤ j) → ez_I h92 57 j = ez_I h 57 j) := by rw [zW_fn F93 57 (by decide) (x66_3)]; exact A86
      have A107 : wdI (ez_I h92 31) (nL (ez_I h 30)) 288 288 := by rw [zW_fn F93 31 (by decide) (x66_35)]; exact A87
      have A108 : wdI (ez_I h92 38) (nL (ez_I h 37)) 288 288 := by rw [zW_fn F93 38 (by decide) (x66_36)]; exact wd36
      clear A83
      clear A84
      clear A85
      clear A86
      clear A87
      refine gw_ld rfl rfl ?_
      refine gw_ld rfl rfl ?_
      refine gw_ld rfl rfl ?_
      refine gw_ld rfl rfl ?_
      refine z_gR (q := 14) (zT S96 (by decide) rfl) (zRf S96 (by decide) (by decide) rfl) (by decide) ?_
      refine z_gR (q := 29) (zT S96 (by decide) rfl) (zRf S96 (by decide) (by decide) rfl) (by decide) ?_
      refine gw_ld rfl rfl ?_
      refine z_gR (q := 14) (zT S96 (by decide) rfl) (zRf S96 (by decide) (by decide) rfl) (by decide) ?_
      refine z_gR (q := 36) (zT S96 (by decide) rfl) (zRf S96 (by decide) (by decide) rfl) (by decide) ?_
      have t109 := congrArg Int32.toInt (f101)
      have t110 := congrArg Int32.toInt (f102)
      refine z_cl rfl rfl rfl rfl rfl rfl rfl rfl rfl rfl rfl (zT S96 (by decide) rfl) ?_
      have q30 := (show ez_I h92 30 = ez_I h 30 from zW_fn F97 30 x66_6 x66_7)
      have q37 := (show ez_I h92 37 = ez_I h 37 from zW_fn F97 37 x66_8 x66_9)
      have hL_ : ∀ k, k < 286 → nL (ez_I h92 30) k = (bkL (tI (ez_I h 3)) (ez_I h 2 1).toInt.toNat fr.toInt.toNat (to.toInt.toNat - fr.toInt.toNat)) k := fun k hk => by rw [q30]; exact e30 k (by omega)
      have hW_ : ∀ k, k < 286 → 1 ≤ (bkL (tI (ez_I h 3)) (ez_I h 2 1).toInt.toNat fr.toInt.toNat (to.toInt.toNat - fr.toInt.toNat)) k → nL (ez_I h92 31) k = cdN (bkL (tI (ez_I h 3)) (ez_I h 2 1).toInt.toNat fr.toInt.toNat (to.toInt.toNat - fr.toInt.toNat)) 288 k := fun k hk h1 => wd_nL A107 (by decide) (by decide) e30 (fun l _ => ctN_congr 288 e30) k (by omega) h1
      have hE_ : ∀ k, k < 30 → nL (ez_I h92 37) k = (bkE (tI (ez_I h 3)) (ez_I h 2 1).toInt.toNat fr.toInt.toNat (to.toInt.toNat - fr.toInt.toNat)) k := fun k hk => by rw [q37]; exact e37 k (by omega)
      have hV_ : ∀ k, k < 30 → 1 ≤ (bkE (tI (ez_I h 3)) (ez_I h 2 1).toInt.toNat fr.toInt.toNat (to.toInt.toNat - fr.toInt.toNat)) k → nL (ez_I h92 38) k = cdN (bkE (tI (ez_I h 3)) (ez_I h 2 1).toInt.toNat fr.toInt.toNat (to.toInt.toNat - fr.toInt.toNat)) 288 k := fun k hk h1 => wd_nL A108 (by decide) (by decide) e37 (fun l _ => ctN_congr 288 e37) k (by omega) h1
      have u1_ : ∀ i, i < (to.toInt.toNat - fr.toInt.toNat) → 1 ≤ (bkL (tI (ez_I h 3)) (ez_I h 2 1).toInt.toNat fr.toInt.toNat (to.toInt.toNat - fr.toInt.toNat)) (lSy (aM (tI (ez_I h 3)) (ez_I h 2 1).toInt.toNat) (dI (tI (ez_I h 3)) (ez_I h 2 1).toInt.toNat) (fr.toInt.toNat + i)) := fun i hi => by have h8 := (lSy_lt hT hlt (k := fr.toInt.toNat + i) (by omega)).1; rw [← e30 _ (by omega)]; exact u30 _ h8 (bkC_pos hi)
      have u2_ : ∀ i, i < (to.toInt.toNat - fr.toInt.toNat) → (dI (tI (ez_I h 3)) (ez_I h 2 1).toInt.toNat) (fr.toInt.toNat + i) ≠ 0 → 1 ≤ (bkE (tI (ez_I h 3)) (ez_I h 2 1).toInt.toNat fr.toInt.toNat (to.toInt.toNat - fr.toInt.toNat)) (kD ((dI (tI (ez_I h 3)) (ez_I h 2 1).toInt.toNat) (fr.toInt.toNat + i))) := fun i hi q => by have h8 := (lSy_lt hT hlt (k := fr.toInt.toNat + i) (by omega)).2 q; rw [← e37 _ (by omega)]; exact u37 _ h8 (bkD_pos hi q)
      have u3_ : 1 ≤ (bkL (tI (ez_I h 3)) (ez_I h 2 1).toInt.toNat fr.toInt.toNat (to.toInt.toNat - fr.toInt.toNat)) 256 := by rw [← e30 256 (by decide)]; exact u30 256 (by decide) (cL_256 _ _ _ _)
      have v1_ : ∀ i, i < (to.toInt.toNat - fr.toInt.toNat) → 1 ≤ nL (ez_I h92 30) (lSy (aM (tI (ez_I h 3)) (ez_I h 2 1).toInt.toNat) (dI (tI (ez_I h 3)) (ez_I h 2 1).toInt.toNat) (fr.toInt.toNat + i)) := fun i hi => by rw [hL_ _ ((lSy_lt hT hlt (k := fr.toInt.toNat + i) (by omega)).1)]; exact u1_ i hi
      have v2_ : ∀ i, i < (to.toInt.toNat - fr.toInt.toNat) → (dI (tI (ez_I h 3)) (ez_I h 2 1).toInt.toNat) (fr.toInt.toNat + i) ≠ 0 → 1 ≤ nL (ez_I h92 37) (kD ((dI (tI (ez_I h 3)) (ez_I h 2 1).toInt.toNat) (fr.toInt.toNat + i))) := fun i hi q => by rw [hE_ _ ((lSy_lt hT hlt (k := fr.toInt.toNat + i) (by omega)).2 q)]; exact u2_ i hi q
      have hpb := bkP_cl (s := (bkH (tI (ez_I h 3)) (ez_I h 2 1).toInt.toNat fr.toInt.toNat (to.toInt.toNat - fr.toInt.toNat) (bk1 (tI (ez_I h 3)) (ez_I h 2 1).toInt.toNat fr.toInt.toNat (to.toInt.toNat - fr.toInt.toNat) l s0))) (W1 := nL (ez_I h92 31)) (L1 := nL (ez_I h92 30)) (W2 := nL (ez_I h92 38)) (L2 := nL (ez_I h92 37)) (L := (bkL (tI (ez_I h 3)) (ez_I h 2 1).toInt.toNat fr.toInt.toNat (to.toInt.toNat - fr.toInt.toNat))) (E := (bkE (tI (ez_I h 3)) (ez_I h 2 1).toInt.toNat fr.toInt.toNat (to.toInt.toNat - fr.toInt.toNat))) (N := 0) (M := 0) hT hlt (show fr.toInt.toNat + (to.toInt.toNat - fr.toInt.toNat) ≤ c by omega) hL_ hW_ hE_ hV_ u1_ u2_ u3_
      have hp2 := bkP_2 (T := (tI (ez_I h 3))) (n := (ez_I h 2 1).toInt.toNat) (a := fr.toInt.toNat) (j := (to.toInt.toNat - fr.toInt.toNat)) (L := (bkL (tI (ez_I h 3)) (ez_I h 2 1).toInt.toNat fr.toInt.toNat (to.toInt.toNat - fr.toInt.toNat))) (E := (bkE (tI (ez_I h 3)) (ez_I h 2 1).toInt.toNat fr.toInt.toNat (to.toInt.toNat - fr.toInt.toNat))) (s := (bkH (tI (ez_I h 3)) (ez_I h 2 1).toInt.toNat fr.toInt.toNat (to.toInt.toNat - fr.toInt.toNat) (bk1 (tI (ez_I h 3)) (ez_I h 2 1).toInt.toNat fr.toInt.toNat (to.toInt.toNat - fr.toInt.toNat) l s0))) hT hlt (by omega)
      have hld := LD_sum (bkD (tI (ez_I h 3)) (ez_I h 2 1).toInt.toNat fr.toInt.toNat (to.toInt.toNat - fr.toInt.toNat))
      have hld2 : sN (fun i => (bkD (tI (ez_I h 3)) (ez_I h 2 1).toInt.toNat fr.toInt.toNat (to.toInt.toNat - fr.toInt.toNat)) i * (bkE (tI (ez_I h 3)) (ez_I h 2 1).toInt.toNat fr.toInt.toNat (to.toInt.toNat - fr.toInt.toNat)) i) 30 = sN (fun i => (bkD (tI (ez_I h 3)) (ez_I h 2 1).toInt.toNat fr.toInt.toNat (to.toInt.toNat - fr.toInt.toNat)) i * LNf (bkD (tI (ez_I h 3)) (ez_I h 2 1).toInt.toNat fr.toInt.toNat (to.toInt.toNat - fr.toInt.toNat)) 30 15 i) 30 := hld
      refine c_wParts (am := (aM (tI (ez_I h 3)) (ez_I h 2 1).toInt.toNat)) (di := (dI (tI (ez_I h 3)) (ez_I h 2 1).toInt.toNat)) (c := c) (s := (bkH (tI (ez_I h 3)) (ez_I h 2 1).toInt.toNat fr.toInt.toNat (to.toInt.toNat - fr.toInt.toNat) (bk1 (tI (ez_I h 3)) (ez_I h 2 1).toInt.toNat fr.toInt.toNat (to.toInt.toNat - fr.toInt.toNat) l s0))) (fr := fr) (to := to) (p := 29) (q := 36) S96 hE (by decide) (by decide) k94 k95 (by rw [(show ez_I h92 53 1 = ez_I h 53 1 from zW_f F97 x66_37 x66_38)]; exact hc) (by rw [(show ez_I h92 54 = ez_I h 54 from zW_fn F97 54 x66_39 x66_40)]; exact hpq) (by omega) (show aR (ez_I h92 30) 288 0 15 by rw [q30]; exact a30) (show aR (ez_I h92 37) 288 0 15 by rw [q37]; exact a37) (wd_hW (f := ez_I h92 31) (g := ez_I h92 30) (by rw [q30]; exact A107)) (wd_hW (f := ez_I h92 38) (g := ez_I h92 37) (by rw [q37]; exact A108)) (fun k hk => by have q9 := k - fr.toInt.toNat; exact ⟨by have h9 := v1_ (k - fr.toInt.toNat) (by omega); rw [show fr.toInt.toNat + (k - fr.toInt.toNat) = k by omega] at h9; exact h9, fun q => by have h9 := v2_ (k - fr.toInt.toNat) (by omega); rw [show fr.toInt.toNat + (k - fr.toInt.toNat) = k by omega] at h9; exact h9 q⟩) (show 1 ≤ nL (ez_I h92 30) 256 by rw [hL_ 256 (by decide)]; exact u3_) (by rw [hpb]; omega) (fun h111 F112 k113 k114 => ?_)
      rw [hpb] at k113
      have hsf : stC (ez_I h111 51) (ez_I h111 50 1).toInt (ez_I h111 68 1).toInt (ez_I h111 68 2).toInt (bkS (tI (ez_I h 3)) (ez_I h 2 1).toInt.toNat fr.toInt.toNat (to.toInt.toNat - fr.toInt.toNat) l s0) := by rw [(bk_w2 hw2_).1]; exact k113
      have S115 := zW_sh F112 S96
      have F116 := zW_tr F97 (zW_mono F112 (x66_0) (x66_1) (x66_2))
      have r117 := z_rng (ez_I h111 68 1)
      have r118 := z_rng (ez_I h111 68 2)
      have r119 := z_rng (ez_I h111 50 1)
      have f120 : ez_I h111 29 4 = (ez_I h47 29 4) := (zW_f F112 (by decide) (by decide)).trans (f101)
      have f121 : ez_I h111 36 4 = (ez_I h69 36 4) := (zW_f F112 (by decide) (by decide)).trans (f102)
      have A122 : (∀ s, s < 286 → ez_I h111 57 ((335 * k.toInt).toNat + s) = ez_I h 30 s) := by rw [zW_fn F112 57 (by decide) (x66_3)]; exact A103
      have A123 : (∀ s, s < 30 → ez_I h111 57 ((335 * k.toInt).toNat + 286 + s) = ez_I h 37 s) := by rw [zW_fn F112 57 (by decide) (x66_3)]; exact A104
      have A124 : (∀ s, s < 19 → ez_I h111 57 ((335 * k.toInt).toNat + 316 + s) = ez_I h 44 s) := by rw [zW_fn F112 57 (by decide) (x66_3)]; exact A105
      have A125 : (∀ j, (j < (335 * k.toInt).toNat ∨ (335 * k.toInt).toNat + 335 ≤ j) → ez_I h111 57 j = ez_I h 57 j) := by rw [zW_fn F112 57 (by decide) (x66_3)]; exact A106
      have A126 : wdI (ez_I h111 31) (nL (ez_I h 30)) 288 288 := by rw [zW_fn F112 31 (by decide) (x66_35)]; exact A107
      have A127 : wdI (ez_I h111 38) (nL (ez_I h 37)) 288 288 := by rw [zW_fn F112 38 (by decide) (x66_36)]; exact A108
      clear A103
      clear A104
      clear A105
      clear A106
      clear A107
      clear A108
      refine z_rv ?_
      have t128 := congrArg Int32.toInt (f120)
      have t129 := congrArg Int32.toInt (f121)
      exact K _ F116 hsf k114 (fun _ => ⟨A122, A123, A124⟩) A125
    · have c25 : ¬ (x7.toInt ≠ x24.toInt) := c25
      have hw1 : (bkW (tI (ez_I h 3)) (ez_I h 2 1).toInt.toNat fr.toInt.toNat (to.toInt.toNat - fr.toInt.toNat) s0.2) = 1 := by omega
      refine gw_ld rfl rfl ?_
      refine gw_ld rfl rfl ?_
      refine gw_ld rfl rfl ?_
      refine gw_ld rfl rfl ?_
      refine z_gR (q := 14) (zT S15 (by decide) rfl) (zRf S15 (by decide) (by decide) rfl) (by decide) ?_
      refine z_gR (q := 15) (zT S15 (by decide) rfl) (zRf S15 (by decide) (by decide) rfl) (by decide) ?_
      refine gw_ld rfl rfl ?_
      refine z_gR (q := 14) (zT S15 (by decide) rfl) (zRf S15 (by decide) (by decide) rfl) (by decide) ?_
      refine z_gR (q := 22) (zT S15 (by decide) rfl) (zRf S15 (by decide) (by decide) rfl) (by decide) ?_
      have t130 := congrArg Int32.toInt (f20)
      have t131 := congrArg Int32.toInt (f21)
      refine z_cl rfl rfl rfl rfl rfl rfl rfl rfl rfl rfl rfl (zT S15 (by decide) rfl) ?_
      have g16 := (show ez_I h11 16 = ez_I h 16 from zW_fn F16 16 x66_41 x66_42)
      have g17 := (show ez_I h11 17 = ez_I h 17 from zW_fn F16 17 x66_43 x66_44)
      have g23 := (show ez_I h11 23 = ez_I h 23 from zW_fn F16 23 x66_45 x66_46)
      have g24 := (show ez_I h11 24 = ez_I h 24 from zW_fn F16 24 x66_47 x66_48)
      have hL_ : ∀ k, k < 286 → nL (ez_I h11 16) k = fxL k := fun k hk => by rw [g16]; exact f16 k (by omega)
      have hW_ : ∀ k, k < 286 → 1 ≤ fxL k → nL (ez_I h11 17) k = cdN fxL 288 k := fun k hk h1 => by rw [g17]; exact wd_nL w17 (by decide) (by decide) f16 (fun l _ => ctN_congr 288 f16) k (by omega) h1
      have hE_ : ∀ k, k < 30 → nL (ez_I h11 23) k = fxD k := fun k hk => by rw [g23]; exact f23 k (by omega)
      have hV_ : ∀ k, k < 30 → 1 ≤ fxD k → nL (ez_I h11 24) k = cdN fxD 288 k := fun k hk h1 => by rw [g24]; exact wd_nL w24 (by decide) (by decide) f23 (fun l _ => ctN_congr 288 f23) k (by omega) h1
      have u1_ : ∀ i, i < (to.toInt.toNat - fr.toInt.toNat) → 1 ≤ fxL (lSy (aM (tI (ez_I h 3)) (ez_I h 2 1).toInt.toNat) (dI (tI (ez_I h 3)) (ez_I h 2 1).toInt.toNat) (fr.toInt.toNat + i)) := fun i _ => (fxL_1 _).1
      have u2_ : ∀ i, i < (to.toInt.toNat - fr.toInt.toNat) → (dI (tI (ez_I h 3)) (ez_I h 2 1).toInt.toNat) (fr.toInt.toNat + i) ≠ 0 → 1 ≤ fxD (kD ((dI (tI (ez_I h 3)) (ez_I h 2 1).toInt.toNat) (fr.toInt.toNat + i))) := fun i hi q => fxD_1 ((lSy_lt hT hlt (k := fr.toInt.toNat + i) (by omega)).2 q)
      have v1_ : ∀ i, i < (to.toInt.toNat - fr.toInt.toNat) → 1 ≤ nL (ez_I h11 16) (lSy (aM (tI (ez_I h 3)) (ez_I h 2 1).toInt.toNat) (dI (tI (ez_I h 3)) (ez_I h 2 1).toInt.toNat) (fr.toInt.toNat + i)) := fun i hi => by rw [hL_ _ ((lSy_lt hT hlt (k := fr.toInt.toNat + i) (by omega)).1)]; exact u1_ i hi
      have v2_ : ∀ i, i < (to.toInt.toNat - fr.toInt.toNat) → (dI (tI (ez_I h 3)) (ez_I h 2 1).toInt.toNat) (fr.toInt.toNat + i) ≠ 0 → 1 ≤ nL (ez_I h11 23) (kD ((dI (tI (ez_I h 3)) (ez_I h 2 1).toInt.toNat) (fr.toInt.toNat + i))) := fun i hi q => by rw [hE_ _ ((lSy_lt hT hlt (k := fr.toInt.toNat + i) (by omega)).2 q)]; exact u2_ i hi q
      have hpb := bkP_cl (s := (bk1 (tI (ez_I h 3)) (ez_I h 2 1).toInt.toNat fr.toInt.toNat (to.toInt.toNat - fr.toInt.toNat) l s0)) (W1 := nL (ez_I h11 17)) (L1 := nL (ez_I h11 16)) (W2 := nL (ez_I h11 24)) (L2 := nL (ez_I h11 23)) (L := fxL) (E := fxD) (N := 0) (M := 0) hT hlt (show fr.toInt.toNat + (to.toInt.toNat - fr.toInt.toNat) ≤ c by omega) hL_ hW_ hE_ hV_ u1_ u2_ (fxL_1 256).1
      have hp2 := bkP_2 (T := (tI (ez_I h 3))) (n := (ez_I h 2 1).toInt.toNat) (a := fr.toInt.toNat) (j := (to.toInt.toNat - fr.toInt.toNat)) (L := fxL) (E := fxD) (s := (bk1 (tI (ez_I h 3)) (ez_I h 2 1).toInt.toNat fr.toInt.toNat (to.toInt.toNat - fr.toInt.toNat) l s0)) hT hlt (by omega)
      have hb1 := (bk_w1 (l := l) hw1).2
      have hb2 := bkB_le (T := (tI (ez_I h 3))) (n := (ez_I h 2 1).toInt.toNat) (a := fr.toInt.toNat) (j := (to.toInt.toNat - fr.toInt.toNat)) (z := s0.2)
      have hb3 : (bkFX (tI (ez_I h 3)) (ez_I h 2 1).toInt.toNat fr.toInt.toNat (to.toInt.toNat - fr.toInt.toNat)) = 3 + xB (aM (tI (ez_I h 3)) (ez_I h 2 1).toInt.toNat) (dI (tI (ez_I h 3)) (ez_I h 2 1).toInt.toNat) fr.toInt.toNat (to.toInt.toNat - fr.toInt.toNat) + sN (fun i => (bkC (tI (ez_I h 3)) (ez_I h 2 1).toInt.toNat fr.toInt.toNat (to.toInt.toNat - fr.toInt.toNat)) i * fxL i) 286 + sN (fun i => (bkD (tI (ez_I h 3)) (ez_I h 2 1).toInt.toNat fr.toInt.toNat (to.toInt.toNat - fr.toInt.toNat)) i * fxD i) 30 := rfl
      have hb4 := bk1_2 (tI (ez_I h 3)) (ez_I h 2 1).toInt.toNat fr.toInt.toNat (to.toInt.toNat - fr.toInt.toNat) l s0
      refine c_wParts (am := (aM (tI (ez_I h 3)) (ez_I h 2 1).toInt.toNat)) (di := (dI (tI (ez_I h 3)) (ez_I h 2 1).toInt.toNat)) (c := c) (s := (bk1 (tI (ez_I h 3)) (ez_I h 2 1).toInt.toNat fr.toInt.toNat (to.toInt.toNat - fr.toInt.toNat) l s0)) (fr := fr) (to := to) (p := 15) (q := 22) S15 hE (by decide) (by decide) hst k14 (by rw [(show ez_I h11 53 1 = ez_I h 53 1 from zW_f F16 x66_37 x66_38)]; exact hc) (by rw [(show ez_I h11 54 = ez_I h 54 from zW_fn F16 54 x66_39 x66_40)]; exact hpq) (by omega) (show aR (ez_I h11 16) 288 0 15 by rw [g16]; exact a16) (show aR (ez_I h11 23) 288 0 15 by rw [g23]; exact a23) (wd_hW (f := ez_I h11 17) (g := ez_I h11 16) (by rw [g17, g16]; exact w17)) (wd_hW (f := ez_I h11 24) (g := ez_I h11 23) (by rw [g24, g23]; exact w24)) (fun k hk => by have q9 := k - fr.toInt.toNat; exact ⟨by have h9 := v1_ (k - fr.toInt.toNat) (by omega); rw [show fr.toInt.toNat + (k - fr.toInt.toNat) = k by omega] at h9; exact h9, fun q => by have h9 := v2_ (k - fr.toInt.toNat) (by omega); rw [show fr.toInt.toNat + (k - fr.toInt.toNat) = k by omega] at h9; exact h9 q⟩) (show 1 ≤ nL (ez_I h11 16) 256 by rw [hL_ 256 (by decide)]; exact (fxL_1 256).1) (by rw [hpb]; omega) (fun h132 F133 k134 k135 => ?_)
      rw [hpb] at k134
      have hsf : stC (ez_I h132 51) (ez_I h132 50 1).toInt (ez_I h132 68 1).toInt (ez_I h132 68 2).toInt (bkS (tI (ez_I h 3)) (ez_I h 2 1).toInt.toNat fr.toInt.toNat (to.toInt.toNat - fr.toInt.toNat) l s0) := by rw [(bk_w1 hw1).1]; exact k134
      have S136 := zW_sh F133 S15
      have F137 := zW_tr F16 (zW_mono F133 (x66_0) (x66_1) (x66_2))
      have r138 := z_rng (ez_I h132 68 1)
      have r139 := z_rng (ez_I h132 68 2)
      have r140 := z_rng (ez_I h132 50 1)
      have f141 : ez_I h132 29 4 = (ez_I h 29 4) := (zW_f F133 (by decide) (by decide)).trans (f20)
      have f142 : ez_I h132 36 4 = (ez_I h 36 4) := (zW_f F133 (by decide) (by decide)).trans (f21)
      have A143 : ez_I h132 57 = ez_I h 57 := by rw [zW_fn F133 57 (by decide) (x66_3)]; exact A22
      clear A22
      refine z_go ?_
      refine gw_skip _ ?_
      refine z_rv ?_
      have t144 := congrArg Int32.toInt (f141)
      have t145 := congrArg Int32.toInt (f142)
      exact K _ F137 hsf k135 (fun q => by exfalso; omega) (fun j _ => congrFun A143 j)
  · have c23 : ¬ (x7.toInt ≠ 0) := c23
    have hw0 : (bkW (tI (ez_I h 3)) (ez_I h 2 1).toInt.toNat fr.toInt.toNat (to.toInt.toNat - fr.toInt.toNat) s0.2) = 0 := by omega
    refine gw_ld rfl rfl ?_
    refine gw_ld rfl rfl ?_
    refine gw_ld rfl rfl ?_
    have t146 := congrArg Int32.toInt (f20)
    have t147 := congrArg Int32.toInt (f21)
    refine z_cl rfl rfl rfl rfl rfl rfl rfl rfl rfl rfl rfl (zT S15 (by decide) rfl) ?_
    have hby := bY_pt (T := (tI (ez_I h 3))) (n := (ez_I h 2 1).toInt.toNat) (a := fr.toInt.toNat) hT hlt (to.toInt.toNat - fr.toInt.toNat) (by omega)
    have hbk : (bkY (tI (ez_I h 3)) (ez_I h 2 1).toInt.toNat fr.toInt.toNat (to.toInt.toNat - fr.toInt.toNat)) = bY (aM (tI (ez_I h 3)) (ez_I h 2 1).toInt.toNat) (dI (tI (ez_I h 3)) (ez_I h 2 1).toInt.toNat) fr.toInt.toNat (to.toInt.toNat - fr.toInt.toNat) := rfl
    have hpk := ptP_k (T := (tI (ez_I h 3))) (n := (ez_I h 2 1).toInt.toNat) (fr.toInt.toNat + (to.toInt.toNat - fr.toInt.toNat)) (fun j hj => hlt j (by omega))
    refine c_wStored (s := (bk1 (tI (ez_I h 3)) (ez_I h 2 1).toInt.toNat fr.toInt.toNat (to.toInt.toNat - fr.toInt.toNat) l s0)) (b := pl) S15 hst k14 (by rw [(show ez_I h11 2 1 = ez_I h 2 1 from zW_f F16 x66_49 x66_50)]; exact hz) (by rw [(show ez_I h11 2 1 = ez_I h 2 1 from zW_f F16 x66_49 x66_50), (show ez_I h11 3 = ez_I h 3 from zW_fn F16 3 x66_51 x66_52)]; exact hb) (by rw [(show ez_I h11 52 11 = ez_I h 52 11 from zW_f F16 x66_53 x66_54), (show ez_I h11 2 1 = ez_I h 2 1 from zW_f F16 x66_49 x66_50)]; omega) (by rw [(show ez_I h11 52 11 = ez_I h 52 11 from zW_f F16 x66_53 x66_54), bk1_2]; omega) (fun h148 F149 k150 k151 => ?_)
    rw [(show ez_I h11 52 11 = ez_I h 52 11 from zW_f F16 x66_53 x66_54), (show ez_I h11 3 = ez_I h 3 from zW_fn F16 3 x66_51 x66_52), show (ez_I h 52 11).toInt.toNat = (bkY (tI (ez_I h 3)) (ez_I h 2 1).toInt.toNat fr.toInt.toNat (to.toInt.toNat - fr.toInt.toNat)) by omega, show pl.toInt.toNat = ptP (tI (ez_I h 3)) (ez_I h 2 1).toInt.toNat fr.toInt.toNat by omega] at k150
    have hsf : stC (ez_I h148 51) (ez_I h148 50 1).toInt (ez_I h148 68 1).toInt (ez_I h148 68 2).toInt (bkS (tI (ez_I h 3)) (ez_I h 2 1).toInt.toNat fr.toInt.toNat (to.toInt.toNat - fr.toInt.toNat) l s0) := by rw [(bk_w0 hw0).1]; exact k150
    have S152 := zW_sh F149 S15
    have F153 := zW_tr F16 (zW_mono F149 (x66_0) (x66_1) (x66_2))
    have r154 := z_rng (ez_I h148 68 1)
    have r155 := z_rng (ez_I h148 68 2)
    have r156 := z_rng (ez_I h148 50 1)
    have f157 : ez_I h148 29 4 = (ez_I h 29 4) := (zW_f F149 (by decide) (by decide)).trans (f20)
    have f158 : ez_I h148 36 4 = (ez_I h 36 4) := (zW_f F149 (by decide) (by decide)).trans (f21)
    have A159 : ez_I h148 57 = ez_I h 57 := by rw [zW_fn F149 57 (by decide) (x66_3)]; exact A22
    clear A22
    refine z_go ?_
    refine gw_skip _ ?_
    refine z_rv ?_
    have t160 := congrArg Int32.toInt (f157)
    have t161 := congrArg Int32.toInt (f158)
    exact K _ F153 hsf k151 (fun q => by exfalso; omega) (fun j _ => congrFun A159 j)
end
