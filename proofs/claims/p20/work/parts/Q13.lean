/-! what the ways of a block take -/
noncomputable def rowM (L1 L2 : Nat → Nat) : Nat := tdM L1 257 29 + tdM L2 1 29
noncomputable def rowF (L1 L2 : Nat → Nat) : Nat → Nat := rwF L1 L2 (tdM L1 257 29)
noncomputable def rowA (L1 L2 : Nat → Nat) (c : Nat) : Nat → Nat := LNf (tC (rowF L1 L2) (rowM L1 L2) c) 19 7
noncomputable def rowO (L1 L2 : Nat → Nat) (c : Nat) : Nat := tdM (fun k => rowA L1 L2 c (ORf k)) 4 15
noncomputable def hdB (L1 L2 : Nat → Nat) (c : Nat) : Nat := 14 + 3 * rowO L1 L2 c + (tC (rowF L1 L2) (rowM L1 L2) c 16 * 2 + tC (rowF L1 L2) (rowM L1 L2) c 17 * 3 + tC (rowF L1 L2) (rowM L1 L2) c 18 * 7) + sN (fun k => tC (rowF L1 L2) (rowM L1 L2) c k * rowA L1 L2 c k) 19
/-- the head of a block as the class has it -/
def plP (r1 r3 r4 r5 r6 : Nat → Int32) (L1 L2 : Nat → Nat) (c : Nat) : Prop := (r1 1).toInt = (tdM L1 257 29 : Nat) ∧ (r1 2).toInt = (tdM L2 1 29 : Nat) ∧ (r1 5).toInt = c ∧ (r1 7).toInt = (rowO L1 L2 c : Nat) ∧ tp (rowF L1 L2) (rowM L1 L2) c = rowM L1 L2 ∧ ltT (rowF L1 L2) (rowM L1 L2) c ∧ teI r3 r4 (rowF L1 L2) (rowM L1 L2) c ∧ (∀ k, k < 288 → nL r5 k = rowA L1 L2 c k) ∧ aR r5 288 0 7 ∧ (∀ k, k < 19 → 1 ≤ tC (rowF L1 L2) (rowM L1 L2) c k → 1 ≤ nL r5 k) ∧ wdI r6 (nL r5) 288 288
theorem sm_nat {f g : Nat → Nat} : ∀ n, sm (fun i => ((f i : Nat) : Int) * ((g i : Nat) : Int)) n = ((sN (fun i => f i * g i) n : Nat) : Int) := by
  intro n
  induction n with
  | zero => rfl
  | succ n ih =>
    show sm (fun i => ((f i : Nat) : Int) * ((g i : Nat) : Int)) n + (f n : Int) * (g n : Int) = ((sN (fun i => f i * g i) n + f n * g n : Nat) : Int)
    rw [ih, Int.natCast_add, Int.natCast_mul]
theorem wsm_eq {U R : Nat → Int32} {c L : Nat → Nat} {n m : Nat} {b : Int} (C : ctI U c n) (E : ∀ k, k < m → nL R k = L k) (A : aR R m 0 b) (hm : n ≤ m) : sm (fun i => (U i).toInt * (R i).toInt) n = ((sN (fun i => c i * L i) n : Nat) : Int) := by
  rw [← sm_nat]
  refine sm_congr (fun k hk => ?_)
  rw [C k hk, ← E k (by omega)]
  have := A k (by omega)
  show _ = _ * (((R k).toInt.toNat : Nat) : Int)
  rw [Int.toNat_of_nonneg this.1]
theorem sN_le {f : Nat → Nat} {B : Nat} : ∀ n, (∀ k, k < n → f k ≤ B) → sN f n ≤ B * n := by
  intro n
  induction n with
  | zero => intro _; exact Nat.le_refl 0
  | succ n ih =>
    intro h
    have a := ih (fun k hk => h k (by omega))
    have b := h n (by omega)
    show sN f n + f n ≤ B * (n + 1)
    rw [Nat.mul_add]
    omega
theorem wsm_le {c L : Nat → Nat} {n a b : Nat} (hc : ∀ k, k < n → c k ≤ a) (hL : ∀ k, k < n → L k ≤ b) : sN (fun i => c i * L i) n ≤ a * b * n := sN_le n (fun k hk => Nat.mul_le_mul (hc k hk) (hL k hk))
theorem wsN_0 {c L : Nat → Nat} : ∀ n, (∀ k, k < n → 1 ≤ c k → 1 ≤ L k) → (sN (fun i => c i * L i) n = 0 ↔ sN c n = 0) := by
  intro n
  induction n with
  | zero => intro _; exact ⟨fun _ => rfl, fun _ => rfl⟩
  | succ n ih =>
    intro h
    have a := ih (fun k hk => h k (by omega))
    have b := h n (by omega)
    show sN (fun i => c i * L i) n + c n * L n = 0 ↔ sN c n + c n = 0
    by_cases z : c n = 0
    · rw [z, Nat.zero_mul]; omega
    · have : 1 ≤ c n * L n := Nat.mul_pos (by omega) (b (by omega))
      omega
theorem sN_0 {c : Nat → Nat} : ∀ n, sN c n = 0 → ∀ k, k < n → c k = 0 := by
  intro n
  induction n with
  | zero => intro _ k hk; omega
  | succ n ih =>
    intro h k hk
    have h2 : sN c n + c n = 0 := h
    by_cases e : k = n
    · subst e; omega
    · exact ih (by omega) k (by omega)
/-- the distances' lengths: with none a one for 0 -/
noncomputable def LDx (c : Nat → Nat) (k : Nat) : Nat := if sN c 30 = 0 then (if k = 0 then 1 else 0) else LNf c 30 15 k
theorem LDx_1 {h h2 : ez_H} {x : Nat} {y : Int32} {c : Nat → Nat} (E : ∀ k, k < 288 → nL (ez_I h 37) k = LNf c 30 15 k) (A : aR (ez_I h 37) 288 0 15) (Z : ∀ k, k < 30 → c k = 0 → nL (ez_I h 37) k = 0) (hs : sN c 30 = 0) (e : h2 = ez_setI h 37 x y) (hx : x = 0) (hy : y.toInt = 1) : (∀ k, k < 288 → nL (ez_I h2 37) k = LDx c k) ∧ aR (ez_I h2 37) 288 0 15 ∧ (∀ k, k < 30 → 1 ≤ c k → 1 ≤ nL (ez_I h2 37) k) := by
  subst hx
  refine ⟨fun k hk => ?_, aR_up A e (by omega), fun k hk h1 => ?_⟩
  · unfold LDx
    rw [if_pos hs]
    show (ez_I h2 37 k).toInt.toNat = _
    by_cases q : k = 0
    · subst q; rw [zI_eq e, hy]; rfl
    · rw [if_neg q, zI_ne e (fun z => q z.2)]
      by_cases r : k < 30
      · exact Z k r (sN_0 30 hs k r)
      · exact (E k hk).trans (LNf_out (by omega))
  · have := sN_0 30 hs k hk
    omega
theorem LDx_2 {R : Nat → Int32} {c : Nat → Nat} (E : ∀ k, k < 288 → nL R k = LNf c 30 15 k) (hs : ¬ sN c 30 = 0) : ∀ k, k < 288 → nL R k = LDx c k := fun k hk => by
  unfold LDx
  rw [if_neg hs]
  exact E k hk
theorem row15 {R1 R2 : Nat → Int32} (A : aR R1 288 0 15) (B : aR R2 288 0 15) : ∀ j, j < rowM (nL R1) (nL R2) → rowF (nL R1) (nL R2) j ≤ 15 := fun j hj => by
  have a := tdM_rng (nL R1) 257 29
  have b := tdM_rng (nL R2) 1 29
  unfold rowM at hj
  unfold rowF rwF
  by_cases q : j < tdM (nL R1) 257 29
  · rw [if_pos q]; have := A j (by omega); show (R1 j).toInt.toNat ≤ 15; omega
  · rw [if_neg q]; have := B (j - tdM (nL R1) 257 29) (by omega); show (R2 (j - tdM (nL R1) 257 29)).toInt.toNat ≤ 15; omega
theorem hdB_le {L1 L2 : Nat → Nat} {c : Nat} (hc : c ≤ 316) (h : ∀ k, k < 19 → rowA L1 L2 c k ≤ 7) : hdB L1 L2 c ≤ 100000 := by
  have a := tdM_rng (fun k => rowA L1 L2 c (ORf k)) 4 15
  have b : rowO L1 L2 c ≤ 19 := a.2
  have t6 := tC_le (rowF L1 L2) (rowM L1 L2) c 16
  have t7 := tC_le (rowF L1 L2) (rowM L1 L2) c 17
  have t8 := tC_le (rowF L1 L2) (rowM L1 L2) c 18
  have w := wsm_le (c := tC (rowF L1 L2) (rowM L1 L2) c) (L := rowA L1 L2 c) (n := 19) (a := 316) (b := 7) (fun k _ => Nat.le_trans (tC_le _ _ c k) hc) h
  unfold hdB
  omega
/-! PRINTED by wip/pack: the class: the ways weighed -/
theorem x41_0 : ¬ (66 = 10 ∨ 66 = 13 ∨ 66 = 30 ∨ 66 = 37 ∨ 66 = 44 ∨ 66 = 45 ∨ 66 = 46 ∨ 66 = 47 ∨ 66 = 48 ∨ 66 = 49 ∨ 66 = 56 ∨ 66 = 62 ∨ 66 = 63 ∨ 66 = 64 ∨ 66 = 65) := by omega
theorem x41_1 : ∀ k : Nat, ¬ (66 = 61 ∧ k = 1 ∨ 66 = 61 ∧ k = 2 ∨ 66 = 61 ∧ k = 5 ∨ 66 = 61 ∧ k = 7 ∨ 66 = 43 ∧ k = 4) := fun k c => by omega
theorem x41_2 : ∀ q k : Nat, (False) → (q = 61 ∧ k = 1 ∨ q = 61 ∧ k = 2 ∨ q = 61 ∧ k = 5 ∨ q = 61 ∧ k = 7 ∨ q = 43 ∧ k = 4) := fun q k hk => hk.elim
theorem x41_3 : ∀ q : Nat, (q = 10 ∨ q = 13 ∨ q = 30) → (q = 10 ∨ q = 13 ∨ q = 30 ∨ q = 37 ∨ q = 44 ∨ q = 45 ∨ q = 46 ∨ q = 47 ∨ q = 48 ∨ q = 49 ∨ q = 56 ∨ q = 62 ∨ q = 63 ∨ q = 64 ∨ q = 65) := fun q hk => hk.elim (fun g => (.inl g)) (fun hk => hk.elim (fun g => (.inr (.inl g))) (fun hk => (.inr (.inr (.inl hk)))))
theorem x41_4 : ∀ q : Nat, (q = 11 ∨ q = 12) → (q = 11 ∨ q = 12) := fun q hk => hk.elim (fun g => (.inl g)) (fun hk => (.inr hk))
theorem x41_5 : ¬ (67 = 10 ∨ 67 = 13 ∨ 67 = 30 ∨ 67 = 37 ∨ 67 = 44 ∨ 67 = 45 ∨ 67 = 46 ∨ 67 = 47 ∨ 67 = 48 ∨ 67 = 49 ∨ 67 = 56 ∨ 67 = 62 ∨ 67 = 63 ∨ 67 = 64 ∨ 67 = 65) := by omega
theorem x41_6 : ∀ k : Nat, ¬ (67 = 61 ∧ k = 1 ∨ 67 = 61 ∧ k = 2 ∨ 67 = 61 ∧ k = 5 ∨ 67 = 61 ∧ k = 7 ∨ 67 = 43 ∧ k = 4) := fun k c => by omega
theorem x41_7 : ∀ q : Nat, (q = 10 ∨ q = 13 ∨ q = 37) → (q = 10 ∨ q = 13 ∨ q = 30 ∨ q = 37 ∨ q = 44 ∨ q = 45 ∨ q = 46 ∨ q = 47 ∨ q = 48 ∨ q = 49 ∨ q = 56 ∨ q = 62 ∨ q = 63 ∨ q = 64 ∨ q = 65) := fun q hk => hk.elim (fun g => (.inl g)) (fun hk => hk.elim (fun g => (.inr (.inl g))) (fun hk => (.inr (.inr (.inr (.inl hk))))))
theorem x41_8 : ∀ q k : Nat, (q = 61 ∧ k = 1 ∨ q = 61 ∧ k = 2 ∨ q = 61 ∧ k = 5 ∨ q = 61 ∧ k = 7 ∨ q = 43 ∧ k = 4) → (q = 61 ∧ k = 1 ∨ q = 61 ∧ k = 2 ∨ q = 61 ∧ k = 5 ∨ q = 61 ∧ k = 7 ∨ q = 43 ∧ k = 4) := fun q k hk => hk.elim (fun g => (.inl g)) (fun hk => hk.elim (fun g => (.inr (.inl g))) (fun hk => hk.elim (fun g => (.inr (.inr (.inl g)))) (fun hk => hk.elim (fun g => (.inr (.inr (.inr (.inl g))))) (fun hk => (.inr (.inr (.inr (.inr hk))))))))
theorem x41_9 : ∀ q : Nat, (q = 10 ∨ q = 13 ∨ q = 44 ∨ q = 45 ∨ q = 46 ∨ q = 47 ∨ q = 48 ∨ q = 49 ∨ q = 62 ∨ q = 63 ∨ q = 64 ∨ q = 65) → (q = 10 ∨ q = 13 ∨ q = 30 ∨ q = 37 ∨ q = 44 ∨ q = 45 ∨ q = 46 ∨ q = 47 ∨ q = 48 ∨ q = 49 ∨ q = 56 ∨ q = 62 ∨ q = 63 ∨ q = 64 ∨ q = 65) := fun q hk => hk.elim (fun g => (.inl g)) (fun hk => hk.elim (fun g => (.inr (.inl g))) (fun hk => hk.elim (fun g => (.inr (.inr (.inr (.inr (.inl g)))))) (fun hk => hk.elim (fun g => (.inr (.inr (.inr (.inr (.inr (.inl g))))))) (fun hk => hk.elim (fun g => (.inr (.inr (.inr (.inr (.inr (.inr (.inl g)))))))) (fun hk => hk.elim (fun g => (.inr (.inr (.inr (.inr (.inr (.inr (.inr (.inl g))))))))) (fun hk => hk.elim (fun g => (.inr (.inr (.inr (.inr (.inr (.inr (.inr (.inr (.inl g)))))))))) (fun hk => hk.elim (fun g => (.inr (.inr (.inr (.inr (.inr (.inr (.inr (.inr (.inr (.inl g))))))))))) (fun hk => hk.elim (fun g => (.inr (.inr (.inr (.inr (.inr (.inr (.inr (.inr (.inr (.inr (.inr (.inl g))))))))))))) (fun hk => hk.elim (fun g => (.inr (.inr (.inr (.inr (.inr (.inr (.inr (.inr (.inr (.inr (.inr (.inr (.inl g)))))))))))))) (fun hk => hk.elim (fun g => (.inr (.inr (.inr (.inr (.inr (.inr (.inr (.inr (.inr (.inr (.inr (.inr (.inr (.inl g))))))))))))))) (fun hk => (.inr (.inr (.inr (.inr (.inr (.inr (.inr (.inr (.inr (.inr (.inr (.inr (.inr (.inr hk)))))))))))))))))))))))))
theorem x41_10 : ∀ k : Nat, ¬ (56 = 61 ∧ k = 1 ∨ 56 = 61 ∧ k = 2 ∨ 56 = 61 ∧ k = 5 ∨ 56 = 61 ∧ k = 7 ∨ 56 = 43 ∧ k = 4) := fun k c => by omega
theorem x41_11 : ∀ k : Nat, ¬ (30 = 61 ∧ k = 1 ∨ 30 = 61 ∧ k = 2 ∨ 30 = 61 ∧ k = 5 ∨ 30 = 61 ∧ k = 7 ∨ 30 = 43 ∧ k = 4) := fun k c => by omega
theorem x41_12 : ∀ k : Nat, ¬ (37 = 61 ∧ k = 1 ∨ 37 = 61 ∧ k = 2 ∨ 37 = 61 ∧ k = 5 ∨ 37 = 61 ∧ k = 7 ∨ 37 = 43 ∧ k = 4) := fun k c => by omega
theorem x41_13 : ¬ (16 = 10 ∨ 16 = 13 ∨ 16 = 30 ∨ 16 = 37 ∨ 16 = 44 ∨ 16 = 45 ∨ 16 = 46 ∨ 16 = 47 ∨ 16 = 48 ∨ 16 = 49 ∨ 16 = 56 ∨ 16 = 62 ∨ 16 = 63 ∨ 16 = 64 ∨ 16 = 65) := by omega
theorem x41_14 : ∀ k : Nat, ¬ (16 = 61 ∧ k = 1 ∨ 16 = 61 ∧ k = 2 ∨ 16 = 61 ∧ k = 5 ∨ 16 = 61 ∧ k = 7 ∨ 16 = 43 ∧ k = 4) := fun k c => by omega
theorem x41_15 : ¬ (23 = 10 ∨ 23 = 13 ∨ 23 = 30 ∨ 23 = 37 ∨ 23 = 44 ∨ 23 = 45 ∨ 23 = 46 ∨ 23 = 47 ∨ 23 = 48 ∨ 23 = 49 ∨ 23 = 56 ∨ 23 = 62 ∨ 23 = 63 ∨ 23 = 64 ∨ 23 = 65) := by omega
theorem x41_16 : ∀ k : Nat, ¬ (23 = 61 ∧ k = 1 ∨ 23 = 61 ∧ k = 2 ∨ 23 = 61 ∧ k = 5 ∨ 23 = 61 ∧ k = 7 ∨ 23 = 43 ∧ k = 4) := fun k c => by omega
theorem x41_17 : ∀ q : Nat, (q = 56) → (q = 10 ∨ q = 13 ∨ q = 30 ∨ q = 37 ∨ q = 44 ∨ q = 45 ∨ q = 46 ∨ q = 47 ∨ q = 48 ∨ q = 49 ∨ q = 56 ∨ q = 62 ∨ q = 63 ∨ q = 64 ∨ q = 65) := fun q hk => (.inr (.inr (.inr (.inr (.inr (.inr (.inr (.inr (.inr (.inr (.inl hk)))))))))))
theorem x41_18 : ∀ q : Nat, (False) → (q = 11 ∨ q = 12) := fun q hk => hk.elim
set_option maxRecDepth 4000 in
set_option maxHeartbeats 2000000 in
theorem c_ways {E : Nat → Nat × (Nat → Int32)} {d : Nat} {Q : ez_Q} {h : ez_H} {k : Int32} (S : zSh h) {cl cd fxL fxD : Nat → Nat} (hE : zE E) (hk : 0 ≤ k.toInt ∧ k.toInt < (ez_I h 55 2).toInt ∧ (ez_I h 55 2).toInt ≤ 10) (h7 : 0 ≤ (ez_I h 68 2).toInt ∧ (ez_I h 68 2).toInt ≤ 7) (hx : 0 ≤ (ez_I h 52 10).toInt ∧ (ez_I h 52 10).toInt ≤ 100000) (hy : 0 ≤ (ez_I h 52 11).toInt ∧ (ez_I h 52 11).toInt ≤ 1000000) (hcl : ctI (ez_I h 66) cl 286) (hcd : ctI (ez_I h 67) cd 30) (hbcl : ∀ s, cl s ≤ 601) (hbcd : ∀ s, cd s ≤ 601) (h16 : (∀ k, k < 288 → nL (ez_I h 16) k = fxL k) ∧ aR (ez_I h 16) 288 0 15) (h23 : (∀ k, k < 288 → nL (ez_I h 23) k = fxD k) ∧ aR (ez_I h 23) 288 0 15) (K : ∀ h2, zW (fun q k => q = 61 ∧ k = 1 ∨ q = 61 ∧ k = 2 ∨ q = 61 ∧ k = 5 ∨ q = 61 ∧ k = 7 ∨ q = 43 ∧ k = 4) (fun q => q = 10 ∨ q = 13 ∨ q = 30 ∨ q = 37 ∨ q = 44 ∨ q = 45 ∨ q = 46 ∨ q = 47 ∨ q = 48 ∨ q = 49 ∨ q = 56 ∨ q = 62 ∨ q = 63 ∨ q = 64 ∨ q = 65) (fun q => q = 11 ∨ q = 12) h h2 → ∀ c : Nat, plP (ez_I h2 61) (ez_I h2 63) (ez_I h2 64) (ez_I h2 44) (ez_I h2 45) (nL (ez_I h2 30)) (nL (ez_I h2 37)) c → (∀ k, k < 288 → nL (ez_I h2 30) k = LNf cl 286 15 k) → aR (ez_I h2 30) 288 0 15 → (∀ k, k < 286 → 1 ≤ cl k → 1 ≤ nL (ez_I h2 30) k) → (∀ k, k < 288 → nL (ez_I h2 37) k = LDx cd k) → aR (ez_I h2 37) 288 0 15 → (∀ k, k < 30 → 1 ≤ cd k → 1 ≤ nL (ez_I h2 37) k) → ((ez_I h2 56 (6 * k.toInt + 5).toNat).toInt = (3 + (hdB (nL (ez_I h2 30)) (nL (ez_I h2 37)) c : Nat) + (ez_I h 52 10).toInt + (sN (fun i => cd i * LNf cd 30 15 i) 30 : Nat) + (sN (fun i => cl i * LNf cl 286 15 i) 286 : Nat)) ∧ (ez_I h2 56 (6 * k.toInt + 4).toNat).toInt = (3 + (ez_I h 52 10).toInt + (sN (fun i => cl i * fxL i) 286 : Nat) + (sN (fun i => cd i * fxD i) 30 : Nat)) ∧ (ez_I h2 56 (6 * k.toInt + 2).toNat).toInt = (ez_I h 52 11).toInt ∧ (ez_I h2 56 (6 * k.toInt + 3).toNat).toInt = (if (3 + (-((ez_I h 68 2).toInt + 3)) % 8 + 32 + 8 * (ez_I h 52 11).toInt) ≤ (3 + (ez_I h 52 10).toInt + (sN (fun i => cl i * fxL i) 286 : Nat) + (sN (fun i => cd i * fxD i) 30 : Nat)) ∧ (3 + (-((ez_I h 68 2).toInt + 3)) % 8 + 32 + 8 * (ez_I h 52 11).toInt) ≤ (3 + (hdB (nL (ez_I h2 30)) (nL (ez_I h2 37)) c : Nat) + (ez_I h 52 10).toInt + (sN (fun i => cd i * LNf cd 30 15 i) 30 : Nat) + (sN (fun i => cl i * LNf cl 286 15 i) 286 : Nat)) then (3 + (-((ez_I h 68 2).toInt + 3)) % 8 + 32 + 8 * (ez_I h 52 11).toInt) else if (3 + (ez_I h 52 10).toInt + (sN (fun i => cl i * fxL i) 286 : Nat) + (sN (fun i => cd i * fxD i) 30 : Nat)) ≤ (3 + (hdB (nL (ez_I h2 30)) (nL (ez_I h2 37)) c : Nat) + (ez_I h 52 10).toInt + (sN (fun i => cd i * LNf cd 30 15 i) 30 : Nat) + (sN (fun i => cl i * LNf cl 286 15 i) 286 : Nat)) then (3 + (ez_I h 52 10).toInt + (sN (fun i => cl i * fxL i) 286 : Nat) + (sN (fun i => cd i * fxD i) 30 : Nat)) else (3 + (hdB (nL (ez_I h2 30)) (nL (ez_I h2 37)) c : Nat) + (ez_I h 52 10).toInt + (sN (fun i => cd i * LNf cd 30 15 i) 30 : Nat) + (sN (fun i => cl i * LNf cl 286 15 i) 286 : Nat))) ∧ (ez_I h2 56 (6 * k.toInt + 0).toNat).toInt = (if (3 + (-((ez_I h 68 2).toInt + 3)) % 8 + 32 + 8 * (ez_I h 52 11).toInt) ≤ (3 + (ez_I h 52 10).toInt + (sN (fun i => cl i * fxL i) 286 : Nat) + (sN (fun i => cd i * fxD i) 30 : Nat)) ∧ (3 + (-((ez_I h 68 2).toInt + 3)) % 8 + 32 + 8 * (ez_I h 52 11).toInt) ≤ (3 + (hdB (nL (ez_I h2 30)) (nL (ez_I h2 37)) c : Nat) + (ez_I h 52 10).toInt + (sN (fun i => cd i * LNf cd 30 15 i) 30 : Nat) + (sN (fun i => cl i * LNf cl 286 15 i) 286 : Nat)) then 0 else if (3 + (ez_I h 52 10).toInt + (sN (fun i => cl i * fxL i) 286 : Nat) + (sN (fun i => cd i * fxD i) 30 : Nat)) ≤ (3 + (hdB (nL (ez_I h2 30)) (nL (ez_I h2 37)) c : Nat) + (ez_I h 52 10).toInt + (sN (fun i => cd i * LNf cd 30 15 i) 30 : Nat) + (sN (fun i => cl i * LNf cl 286 15 i) 286 : Nat)) then 1 else 2)) → (∀ j : Nat, (¬ (6 * k.toInt ≤ (j : Int) ∧ (j : Int) < 6 * k.toInt + 6) ∨ j = (6 * k.toInt + 1).toNat) → ez_I h2 56 j = ez_I h 56 j) → Q (.inl none) h2) : pw E (d + 4) 118 0 [some (.ref 52), some (.int k), none, none, none, none, none, none] [] h Q := by
  have gk := z_rng k
  have F0 := zW_refl (fun q k => q = 61 ∧ k = 1 ∨ q = 61 ∧ k = 2 ∨ q = 61 ∧ k = 5 ∨ q = 61 ∧ k = 7 ∨ q = 43 ∧ k = 4) (fun q => q = 10 ∨ q = 13 ∨ q = 30 ∨ q = 37 ∨ q = 44 ∨ q = 45 ∨ q = 46 ∨ q = 47 ∨ q = 48 ∨ q = 49 ∨ q = 56 ∨ q = 62 ∨ q = 63 ∨ q = 64 ∨ q = 65) (fun q => q = 11 ∨ q = 12) h
  have F := zW_refl (fun q k => q = 61 ∧ k = 1 ∨ q = 61 ∧ k = 2 ∨ q = 61 ∧ k = 5 ∨ q = 61 ∧ k = 7 ∨ q = 43 ∧ k = 4) (fun q => q = 10 ∨ q = 13 ∨ q = 30 ∨ q = 37 ∨ q = 44 ∨ q = 45 ∨ q = 46 ∨ q = 47 ∨ q = 48 ∨ q = 49 ∨ q = 56 ∨ q = 62 ∨ q = 63 ∨ q = 64 ∨ q = 65) (fun q => q = 11 ∨ q = 12) h
  apply ez_Wp_in
  show ez_gw _ _ _ _ _ _ (cz_118) _ _ _ _ _
  refine gw_skip _ ?_
  have r1 := z_rng (ez_I h 61 1)
  have r2 := z_rng (ez_I h 61 2)
  have r3 := z_rng (ez_I h 61 5)
  have r4 := z_rng (ez_I h 61 7)
  have r5 := z_rng (ez_I h 43 4)
  refine gw_ld rfl rfl ?_
  refine z_gR (q := 9) (zT S (by decide) rfl) (zRf S (by decide) (by decide) rfl) (by decide) ?_
  refine gw_ld rfl rfl ?_
  refine z_gR (q := 66) (zT S (by decide) rfl) (zRf S (by decide) (by decide) rfl) (by decide) ?_
  refine z_C (m := 286) rfl rfl (fun x6 ex6 => ?_)
  refine z_C (m := 15) rfl rfl (fun x7 ex7 => ?_)
  refine gw_ld rfl rfl ?_
  refine z_gR (q := 14) (zT S (by decide) rfl) (zRf S (by decide) (by decide) rfl) (by decide) ?_
  refine z_gR (q := 29) (zT S (by decide) rfl) (zRf S (by decide) (by decide) rfl) (by decide) ?_
  refine z_gR (q := 30) (zT S (by decide) rfl) (zRf S (by decide) (by decide) rfl) (by decide) ?_
  refine z_cl rfl rfl rfl rfl rfl rfl rfl rfl rfl rfl rfl (zT S (by decide) rfl) ?_
  refine f_makeZ (u := 66) (w := 30) (nu := 286) (nw := 288) (al := x6) (li := x7) (mx := 601) S hE (fun _ S => ⟨zT S (by decide) rfl, zN S (by decide) rfl⟩) (fun _ S => ⟨zT S (by decide) rfl, zN S (by decide) rfl⟩) (by decide) (by omega) (by omega) (by rw [show x6.toInt.toNat = 286 by omega, (show ez_I h 66 = ez_I h 66 from zW_fn F 66 x41_0 x41_1)]; exact ctI_aR hcl (fun z => by have := hbcl z; omega)) (by decide) (by rw [show x6.toInt.toNat = 286 by omega]; decide) (by rw [show x6.toInt.toNat = 286 by omega, show x7.toInt.toNat = 15 by omega]; have := poC_le2 (ez_I h 66) 286; show _ ≤ (32768 : Int); omega) (fun h8 K9 k11 k12 => ?_)
  rw [show x6.toInt.toNat = 286 by omega, show x7.toInt.toNat = 15 by omega, (show ez_I h 66 = ez_I h 66 from zW_fn F 66 x41_0 x41_1)] at k11
  rw [show x6.toInt.toNat = 286 by omega] at k12
  have F10 := zW_ofK K9
  obtain ⟨lL1, lL2, lL3, lL4⟩ := ln_all (c := cl) k11 k12 hcl (fun i _ => by have := hbcl i; omega) (by decide) (by decide)
  have S13 := zW_sh F10 S
  have F14 := zW_tr F (zW_mono F10 (x41_2) (x41_3) (x41_4))
  have f15 : ez_I h8 61 1 = (ez_I h 61 1) := (zW_f F10 (by decide) (fun c => c)).trans (rfl)
  have f16 : ez_I h8 61 2 = (ez_I h 61 2) := (zW_f F10 (by decide) (fun c => c)).trans (rfl)
  have f17 : ez_I h8 61 5 = (ez_I h 61 5) := (zW_f F10 (by decide) (fun c => c)).trans (rfl)
  have f18 : ez_I h8 61 7 = (ez_I h 61 7) := (zW_f F10 (by decide) (fun c => c)).trans (rfl)
  have f19 : ez_I h8 43 4 = (ez_I h 43 4) := (zW_f F10 (by decide) (fun c => c)).trans (rfl)
  have A20 : ez_I h8 56 = ez_I h 56 := by rw [zW_fn F10 56 (by decide) (fun _ c => c)]
  refine gw_ld rfl rfl ?_
  refine z_gR (q := 9) (zT S13 (by decide) rfl) (zRf S13 (by decide) (by decide) rfl) (by decide) ?_
  refine gw_ld rfl rfl ?_
  refine z_gR (q := 67) (zT S13 (by decide) rfl) (zRf S13 (by decide) (by decide) rfl) (by decide) ?_
  refine z_C (m := 30) rfl rfl (fun x21 ex21 => ?_)
  refine z_C (m := 15) rfl rfl (fun x22 ex22 => ?_)
  refine gw_ld rfl rfl ?_
  refine z_gR (q := 14) (zT S13 (by decide) rfl) (zRf S13 (by decide) (by decide) rfl) (by decide) ?_
  refine z_gR (q := 36) (zT S13 (by decide) rfl) (zRf S13 (by decide) (by decide) rfl) (by decide) ?_
  refine z_gR (q := 37) (zT S13 (by decide) rfl) (zRf S13 (by decide) (by decide) rfl) (by decide) ?_
  have t23 := congrArg Int32.toInt (f15)
  have t24 := congrArg Int32.toInt (f16)
  have t25 := congrArg Int32.toInt (f17)
  have t26 := congrArg Int32.toInt (f18)
  have t27 := congrArg Int32.toInt (f19)
  refine z_cl rfl rfl rfl rfl rfl rfl rfl rfl rfl rfl rfl (zT S13 (by decide) rfl) ?_
  refine f_makeZ (u := 67) (w := 37) (nu := 30) (nw := 288) (al := x21) (li := x22) (mx := 601) S13 hE (fun _ S => ⟨zT S (by decide) rfl, zN S (by decide) rfl⟩) (fun _ S => ⟨zT S (by decide) rfl, zN S (by decide) rfl⟩) (by decide) (by omega) (by omega) (by rw [show x21.toInt.toNat = 30 by omega, (show ez_I h8 67 = ez_I h 67 from zW_fn F14 67 x41_5 x41_6)]; exact ctI_aR hcd (fun z => by have := hbcd z; omega)) (by decide) (by rw [show x21.toInt.toNat = 30 by omega]; decide) (by rw [show x21.toInt.toNat = 30 by omega, show x22.toInt.toNat = 15 by omega]; have := poC_le2 (ez_I h8 67) 30; show _ ≤ (32768 : Int); omega) (fun h28 K29 k31 k32 => ?_)
  rw [show x21.toInt.toNat = 30 by omega, show x22.toInt.toNat = 15 by omega, (show ez_I h8 67 = ez_I h 67 from zW_fn F14 67 x41_5 x41_6)] at k31
  rw [show x21.toInt.toNat = 30 by omega] at k32
  have F30 := zW_ofK K29
  obtain ⟨lD1, lD2, lD3, lD4⟩ := ln_all (c := cd) k31 k32 hcd (fun i _ => by have := hbcd i; omega) (by decide) (by decide)
  have S33 := zW_sh F30 S13
  have F34 := zW_tr F14 (zW_mono F30 (x41_2) (x41_7) (x41_4))
  have f35 : ez_I h28 61 1 = (ez_I h 61 1) := (zW_f F30 (by decide) (fun c => c)).trans (f15)
  have f36 : ez_I h28 61 2 = (ez_I h 61 2) := (zW_f F30 (by decide) (fun c => c)).trans (f16)
  have f37 : ez_I h28 61 5 = (ez_I h 61 5) := (zW_f F30 (by decide) (fun c => c)).trans (f17)
  have f38 : ez_I h28 61 7 = (ez_I h 61 7) := (zW_f F30 (by decide) (fun c => c)).trans (f18)
  have f39 : ez_I h28 43 4 = (ez_I h 43 4) := (zW_f F30 (by decide) (fun c => c)).trans (f19)
  have A40 : ez_I h28 56 = ez_I h 56 := by rw [zW_fn F30 56 (by decide) (fun _ c => c)]; exact A20
  have A41 : (∀ k, k < 288 → nL (ez_I h28 30) k = LNf cl 286 15 k) := by rw [zW_fn F30 30 (by decide) (fun _ c => c)]; exact lL1
  have A42 : aR (ez_I h28 30) 288 0 15 := by rw [zW_fn F30 30 (by decide) (fun _ c => c)]; exact lL2
  have A43 : (∀ k, k < 286 → 1 ≤ cl k → 1 ≤ nL (ez_I h28 30) k) := by rw [zW_fn F30 30 (by decide) (fun _ c => c)]; exact lL3
  clear A20
  refine gw_ld rfl rfl ?_
  refine z_gR (q := 67) (zT S33 (by decide) rfl) (zRf S33 (by decide) (by decide) rfl) (by decide) ?_
  refine gw_ld rfl rfl ?_
  refine z_gR (q := 14) (zT S33 (by decide) rfl) (zRf S33 (by decide) (by decide) rfl) (by decide) ?_
  refine z_gR (q := 36) (zT S33 (by decide) rfl) (zRf S33 (by decide) (by decide) rfl) (by decide) ?_
  refine z_gR (q := 37) (zT S33 (by decide) rfl) (zRf S33 (by decide) (by decide) rfl) (by decide) ?_
  refine z_C (m := 30) rfl rfl (fun x44 ex44 => ?_)
  have t45 := congrArg Int32.toInt (f35)
  have t46 := congrArg Int32.toInt (f36)
  have t47 := congrArg Int32.toInt (f37)
  have t48 := congrArg Int32.toInt (f38)
  have t49 := congrArg Int32.toInt (f39)
  refine z_cl rfl rfl rfl rfl rfl rfl rfl rfl rfl rfl rfl (trivial) ?_
  refine c_wsum (u := 67) (w := 37) (n := x44) (nu := 30) (nw := 288) S33 (fun _ S => ⟨zT S (by decide) rfl, zN S (by decide) rfl⟩) (fun _ S => ⟨zT S (by decide) rfl, zN S (by decide) rfl⟩) (by omega) (by rw [show x44.toInt.toNat = 30 by omega, (show ez_I h28 67 = ez_I h 67 from zW_fn F34 67 x41_5 x41_6)]; exact ctI_aR hcd (fun z => by have := hbcd z; omega)) (by rw [show x44.toInt.toNat = 30 by omega]; exact aR_le lD2 (by omega)) (fun x50 k51 k52 => ?_)
  rw [show x44.toInt.toNat = 30 by omega, wsm_eq (c := cd) (L := LNf cd 30 15) (n := 30) (m := 288) (b := 15) (by rw [(show ez_I h28 67 = ez_I h 67 from zW_fn F34 67 x41_5 x41_6)]; exact hcd) lD1 lD2 (by omega)] at k51
  have rx50 := z_rng x50
  have bx50 : sN (fun i => cd i * LNf cd 30 15 i) 30 ≤ 601 * 15 * 30 := wsm_le (fun k _ => hbcd k) (fun k hk => by rw [← lD1 k (by omega)]; have := lD2 k (by omega); show (ez_I h28 37 k).toInt.toNat ≤ 15; omega)
  have hz0 := wsN_0 (c := cd) (L := LNf cd 30 15) 30 (fun k hk h1 => by rw [← lD1 k (by omega)]; exact lD3 k hk h1)
  refine gw_st rfl rfl rfl ?_
  show ez_gw _ _ _ _ _ _ _ _ [some (.ref 52), some (.int k), some (.int x50), none, none, none, none, none] _ _ _
  refine gw_ld rfl rfl ?_
  refine z_b1 (fun c53 => ?_) (fun c53 => ?_)
  · have c53 : x50.toInt ≠ 0 := c53
    refine gw_skip _ ?_
    refine gw_ld rfl rfl ?_
    refine z_gR (q := 61) (zT S33 (by decide) rfl) (zRf S33 (by decide) (by decide) rfl) (by decide) ?_
    refine gw_ld rfl rfl ?_
    refine z_gR (q := 14) (zT S33 (by decide) rfl) (zRf S33 (by decide) (by decide) rfl) (by decide) ?_
    refine gw_ld rfl rfl ?_
    refine z_gR (q := 9) (zT S33 (by decide) rfl) (zRf S33 (by decide) (by decide) rfl) (by decide) ?_
    refine z_cl rfl rfl rfl rfl rfl rfl rfl rfl rfl rfl rfl (zT S33 (by decide) rfl) ?_
    refine c_plan S33 hE A42 lD2 (fun h54 x55 F56 c57 k58 k59 k60 k61 k62 k63 k64 k65 k66 k67 k68 k69 => ?_)
    have rx55 := z_rng x55
    have e30 : ez_I h54 30 = ez_I h28 30 := zW_fn F56 30 (by decide) (fun k c => by omega)
    have e37 : ez_I h54 37 = ez_I h28 37 := zW_fn F56 37 (by decide) (fun k c => by omega)
    have hro : tdM (fun k => nL (ez_I h54 44) (ORf k)) 4 15 = rowO (nL (ez_I h28 30)) (nL (ez_I h28 37)) c57 := tdM_congr 15 (fun j _ => k64 _ (by have := OR_lt (4 + j); omega))
    have hpl : plP (ez_I h54 61) (ez_I h54 63) (ez_I h54 64) (ez_I h54 44) (ez_I h54 45) (nL (ez_I h54 30)) (nL (ez_I h54 37)) c57 := by
      rw [e30, e37]
      exact ⟨k58, k59, k60, by rw [k68, hro], k61, k62, k63, k64, k65, k66, k67⟩
    have hhb : x55.toInt = (hdB (nL (ez_I h28 30)) (nL (ez_I h28 37)) c57 : Nat) := by
      rw [k69, sm_nat, k68, hro]
      unfold hdB rowA rowF rowM
      omega
    have hrb := tdM_rng (fun k => rowA (nL (ez_I h28 30)) (nL (ez_I h28 37)) c57 (ORf k)) 4 15
    have hck : c57 ≤ 316 := by have a := tp_k (f := rowF (nL (ez_I h28 30)) (nL (ez_I h28 37))) (N := rowM (nL (ez_I h28 30)) (nL (ez_I h28 37))) (fun j hj => row15 A42 lD2 j hj) c57 k62; have b := tdM_rng (nL (ez_I h28 30)) 257 29; have d := tdM_rng (nL (ez_I h28 37)) 1 29; have e : rowM (nL (ez_I h28 30)) (nL (ez_I h28 37)) = tdM (nL (ez_I h28 30)) 257 29 + tdM (nL (ez_I h28 37)) 1 29 := rfl; omega
    have hhl : hdB (nL (ez_I h28 30)) (nL (ez_I h28 37)) c57 ≤ 100000 := hdB_le hck (fun k hk => by have a := k64 k (by omega); have b := k65 k (by omega); rw [← show nL (ez_I h54 44) k = rowA (nL (ez_I h28 30)) (nL (ez_I h28 37)) c57 k from a]; show (ez_I h54 44 k).toInt.toNat ≤ 7; omega)
    have S70 := zW_sh F56 S33
    have F71 := zW_tr F34 (zW_mono F56 (x41_8) (x41_9) (x41_4))
    have r72 := z_rng (ez_I h54 61 1)
    have r73 := z_rng (ez_I h54 61 2)
    have r74 := z_rng (ez_I h54 61 5)
    have r75 := z_rng (ez_I h54 61 7)
    have r76 := z_rng (ez_I h54 43 4)
    have A77 : ez_I h54 56 = ez_I h 56 := by rw [zW_fn F56 56 (by decide) (x41_10)]; exact A40
    have A78 : (∀ k, k < 288 → nL (ez_I h54 30) k = LNf cl 286 15 k) := by rw [zW_fn F56 30 (by decide) (x41_11)]; exact A41
    have A79 : aR (ez_I h54 30) 288 0 15 := by rw [zW_fn F56 30 (by decide) (x41_11)]; exact A42
    have A80 : (∀ k, k < 286 → 1 ≤ cl k → 1 ≤ nL (ez_I h54 30) k) := by rw [zW_fn F56 30 (by decide) (x41_11)]; exact A43
    have A81 : (∀ k, k < 288 → nL (ez_I h54 37) k = LNf cd 30 15 k) := by rw [zW_fn F56 37 (by decide) (x41_12)]; exact lD1
    have A82 : aR (ez_I h54 37) 288 0 15 := by rw [zW_fn F56 37 (by decide) (x41_12)]; exact lD2
    have A83 : (∀ k, k < 30 → 1 ≤ cd k → 1 ≤ nL (ez_I h54 37) k) := by rw [zW_fn F56 37 (by decide) (x41_12)]; exact lD3
    have A84 : (∀ k, k < 30 → cd k = 0 → nL (ez_I h54 37) k = 0) := by rw [zW_fn F56 37 (by decide) (x41_12)]; exact lD4
    have A85 : (∀ k, k < 288 → nL (ez_I h54 37) k = LDx cd k) := by rw [zW_fn F56 37 (by decide) (x41_12)]; exact (LDx_2 lD1 (fun q => by have := hz0.mpr q; omega))
    have A86 : aR (ez_I h54 37) 288 0 15 := by rw [zW_fn F56 37 (by decide) (x41_12)]; exact lD2
    have A87 : (∀ k, k < 30 → 1 ≤ cd k → 1 ≤ nL (ez_I h54 37) k) := by rw [zW_fn F56 37 (by decide) (x41_12)]; exact lD3
    clear A40
    clear A41
    clear A42
    clear A43
    have hhx : 0 ≤ x55.toInt ∧ x55.toInt ≤ 100000 := by omega
    refine gw_st rfl rfl rfl ?_
    show ez_gw _ _ _ _ _ _ _ _ [some (.ref 52), some (.int k), some (.int x50), some (.int x55), none, none, none, none] _ _ _
    refine z_C (m := 3) rfl rfl (fun x88 ex88 => ?_)
    refine gw_ld rfl rfl ?_
    refine z_add (by omega) (fun x89 ex89 => ?_)
    refine gw_ld rfl rfl ?_
    have r90 := z_rng (ez_I h 52 10)
    refine z_gI2 (by decide) (zT S70 (by decide) rfl) (zW_f F71 (by decide) (by decide)) ?_
    refine z_add (by omega) (fun x91 ex91 => ?_)
    refine gw_ld rfl rfl ?_
    refine z_add (by omega) (fun x92 ex92 => ?_)
    refine gw_ld rfl rfl ?_
    refine z_gR (q := 66) (zT S70 (by decide) rfl) (zRf S70 (by decide) (by decide) rfl) (by decide) ?_
    refine gw_ld rfl rfl ?_
    refine z_gR (q := 14) (zT S70 (by decide) rfl) (zRf S70 (by decide) (by decide) rfl) (by decide) ?_
    refine z_gR (q := 29) (zT S70 (by decide) rfl) (zRf S70 (by decide) (by decide) rfl) (by decide) ?_
    refine z_gR (q := 30) (zT S70 (by decide) rfl) (zRf S70 (by decide) (by decide) rfl) (by decide) ?_
    refine z_C (m := 286) rfl rfl (fun x93 ex93 => ?_)
    refine z_cl rfl rfl rfl rfl rfl rfl rfl rfl rfl rfl rfl (trivial) ?_
    refine c_wsum (u := 66) (w := 30) (n := x93) (nu := 286) (nw := 288) S70 (fun _ S => ⟨zT S (by decide) rfl, zN S (by decide) rfl⟩) (fun _ S => ⟨zT S (by decide) rfl, zN S (by decide) rfl⟩) (by omega) (by rw [show x93.toInt.toNat = 286 by omega, (show ez_I h54 66 = ez_I h 66 from zW_fn F71 66 x41_0 x41_1)]; exact ctI_aR hcl (fun z => by have := hbcl z; omega)) (by rw [show x93.toInt.toNat = 286 by omega]; exact aR_le A79 (by omega)) (fun x94 k95 k96 => ?_)
    rw [show x93.toInt.toNat = 286 by omega, wsm_eq (c := cl) (L := LNf cl 286 15) (n := 286) (m := 288) (b := 15) (by rw [(show ez_I h54 66 = ez_I h 66 from zW_fn F71 66 x41_0 x41_1)]; exact hcl) A78 A79 (by omega)] at k95
    have rx94 := z_rng x94
    have bx94 : sN (fun i => cl i * LNf cl 286 15 i) 286 ≤ 601 * 15 * 286 := wsm_le (fun k _ => hbcl k) (fun k hk => by rw [← A78 k (by omega)]; have := A79 k (by omega); show (ez_I h54 30 k).toInt.toNat ≤ 15; omega)
    refine z_add (by omega) (fun x97 ex97 => ?_)
    refine gw_st rfl rfl rfl ?_
    show ez_gw _ _ _ _ _ _ _ _ [some (.ref 52), some (.int k), some (.int x50), some (.int x55), some (.int x97), none, none, none] _ _ _
    refine z_C (m := 3) rfl rfl (fun x98 ex98 => ?_)
    refine gw_ld rfl rfl ?_
    refine z_gI2 (by decide) (zT S70 (by decide) rfl) (zW_f F71 (by decide) (by decide)) ?_
    refine z_add (by omega) (fun x99 ex99 => ?_)
    refine gw_ld rfl rfl ?_
    refine z_gR (q := 66) (zT S70 (by decide) rfl) (zRf S70 (by decide) (by decide) rfl) (by decide) ?_
    refine gw_ld rfl rfl ?_
    refine z_gR (q := 14) (zT S70 (by decide) rfl) (zRf S70 (by decide) (by decide) rfl) (by decide) ?_
    refine z_gR (q := 15) (zT S70 (by decide) rfl) (zRf S70 (by decide) (by decide) rfl) (by decide) ?_
    refine z_gR (q := 16) (zT S70 (by decide) rfl) (zRf S70 (by decide) (by decide) rfl) (by decide) ?_
    refine z_C (m := 286) rfl rfl (fun x100 ex100 => ?_)
    refine z_cl rfl rfl rfl rfl rfl rfl rfl rfl rfl rfl rfl (trivial) ?_
    have hE16 : ∀ k, k < 288 → nL (ez_I h54 16) k = fxL k := fun k hk => by rw [(show ez_I h54 16 = ez_I h 16 from zW_fn F71 16 x41_13 x41_14)]; exact h16.1 k hk
    have hA16 : aR (ez_I h54 16) 288 0 15 := by rw [(show ez_I h54 16 = ez_I h 16 from zW_fn F71 16 x41_13 x41_14)]; exact h16.2
    refine c_wsum (u := 66) (w := 16) (n := x100) (nu := 286) (nw := 288) S70 (fun _ S => ⟨zT S (by decide) rfl, zN S (by decide) rfl⟩) (fun _ S => ⟨zT S (by decide) rfl, zN S (by decide) rfl⟩) (by omega) (by rw [show x100.toInt.toNat = 286 by omega, (show ez_I h54 66 = ez_I h 66 from zW_fn F71 66 x41_0 x41_1)]; exact ctI_aR hcl (fun z => by have := hbcl z; omega)) (by rw [show x100.toInt.toNat = 286 by omega]; exact aR_le hA16 (by omega)) (fun x101 k102 k103 => ?_)
    rw [show x100.toInt.toNat = 286 by omega, wsm_eq (c := cl) (L := fxL) (n := 286) (m := 288) (b := 15) (by rw [(show ez_I h54 66 = ez_I h 66 from zW_fn F71 66 x41_0 x41_1)]; exact hcl) hE16 hA16 (by omega)] at k102
    have rx101 := z_rng x101
    have bx101 : sN (fun i => cl i * fxL i) 286 ≤ 601 * 15 * 286 := wsm_le (fun k _ => hbcl k) (fun k hk => by rw [← hE16 k (by omega)]; have := hA16 k (by omega); show (ez_I h54 16 k).toInt.toNat ≤ 15; omega)
    refine z_add (by omega) (fun x104 ex104 => ?_)
    refine gw_ld rfl rfl ?_
    refine z_gR (q := 67) (zT S70 (by decide) rfl) (zRf S70 (by decide) (by decide) rfl) (by decide) ?_
    refine gw_ld rfl rfl ?_
    refine z_gR (q := 14) (zT S70 (by decide) rfl) (zRf S70 (by decide) (by decide) rfl) (by decide) ?_
    refine z_gR (q := 22) (zT S70 (by decide) rfl) (zRf S70 (by decide) (by decide) rfl) (by decide) ?_
    refine z_gR (q := 23) (zT S70 (by decide) rfl) (zRf S70 (by decide) (by decide) rfl) (by decide) ?_
    refine z_C (m := 30) rfl rfl (fun x105 ex105 => ?_)
    refine z_cl rfl rfl rfl rfl rfl rfl rfl rfl rfl rfl rfl (trivial) ?_
    have hE23 : ∀ k, k < 288 → nL (ez_I h54 23) k = fxD k := fun k hk => by rw [(show ez_I h54 23 = ez_I h 23 from zW_fn F71 23 x41_15 x41_16)]; exact h23.1 k hk
    have hA23 : aR (ez_I h54 23) 288 0 15 := by rw [(show ez_I h54 23 = ez_I h 23 from zW_fn F71 23 x41_15 x41_16)]; exact h23.2
    refine c_wsum (u := 67) (w := 23) (n := x105) (nu := 30) (nw := 288) S70 (fun _ S => ⟨zT S (by decide) rfl, zN S (by decide) rfl⟩) (fun _ S => ⟨zT S (by decide) rfl, zN S (by decide) rfl⟩) (by omega) (by rw [show x105.toInt.toNat = 30 by omega, (show ez_I h54 67 = ez_I h 67 from zW_fn F71 67 x41_5 x41_6)]; exact ctI_aR hcd (fun z => by have := hbcd z; omega)) (by rw [show x105.toInt.toNat = 30 by omega]; exact aR_le hA23 (by omega)) (fun x106 k107 k108 => ?_)
    rw [show x105.toInt.toNat = 30 by omega, wsm_eq (c := cd) (L := fxD) (n := 30) (m := 288) (b := 15) (by rw [(show ez_I h54 67 = ez_I h 67 from zW_fn F71 67 x41_5 x41_6)]; exact hcd) hE23 hA23 (by omega)] at k107
    have rx106 := z_rng x106
    have bx106 : sN (fun i => cd i * fxD i) 30 ≤ 601 * 15 * 30 := wsm_le (fun k _ => hbcd k) (fun k hk => by rw [← hE23 k (by omega)]; have := hA23 k (by omega); show (ez_I h54 23 k).toInt.toNat ≤ 15; omega)
    refine z_add (by omega) (fun x109 ex109 => ?_)
    refine gw_st rfl rfl rfl ?_
    show ez_gw _ _ _ _ _ _ _ _ [some (.ref 52), some (.int k), some (.int x50), some (.int x55), some (.int x97), some (.int x109), none, none] _ _ _
    refine z_C (m := 3) rfl rfl (fun x110 ex110 => ?_)
    refine gw_ld rfl rfl ?_
    refine z_gR (q := 68) (zT S70 (by decide) rfl) (zRf S70 (by decide) (by decide) rfl) (by decide) ?_
    refine z_C (m := 3) rfl rfl (fun x111 ex111 => ?_)
    refine z_cl rfl rfl rfl rfl rfl rfl rfl rfl rfl rfl rfl (zT S70 (by decide) rfl) ?_
    refine c_miss (m := x111) S70 (by rw [(show ez_I h54 68 2 = ez_I h 68 2 from zW_f F71 (by decide) (by decide))]; exact h7) (by omega) (fun x112 k113 => ?_)
    rw [(show ez_I h54 68 2 = ez_I h 68 2 from zW_f F71 (by decide) (by decide))] at k113
    have rx112 := z_rng x112
    refine z_add (by omega) (fun x114 ex114 => ?_)
    refine z_C (m := 32) rfl rfl (fun x115 ex115 => ?_)
    refine z_add (by omega) (fun x116 ex116 => ?_)
    refine z_C (m := 8) rfl rfl (fun x117 ex117 => ?_)
    refine gw_ld rfl rfl ?_
    have r118 := z_rng (ez_I h 52 11)
    refine z_gI2 (by decide) (zT S70 (by decide) rfl) (zW_f F71 (by decide) (by decide)) ?_
    refine z_mulL (c := 8) ex117 (by omega) (fun x119 ex119 => ?_)
    refine z_add (by omega) (fun x120 ex120 => ?_)
    refine gw_st rfl rfl rfl ?_
    show ez_gw _ _ _ _ _ _ _ _ [some (.ref 52), some (.int k), some (.int x50), some (.int x55), some (.int x97), some (.int x109), some (.int x120), none] _ _ _
    refine gw_ld rfl rfl ?_
    refine gw_ld rfl rfl ?_
    refine gw_ld rfl rfl ?_
    refine z_min rfl (fun x121 ex121 => ?_)
    refine z_min rfl (fun x122 ex122 => ?_)
    refine gw_st rfl rfl rfl ?_
    show ez_gw _ _ _ _ _ _ _ _ [some (.ref 52), some (.int k), some (.int x50), some (.int x55), some (.int x97), some (.int x109), some (.int x120), some (.int x122)] _ _ _
    refine gw_ld rfl rfl ?_
    refine z_gR (q := 55) (zT S70 (by decide) rfl) (zRf S70 (by decide) (by decide) rfl) (by decide) ?_
    refine gw_ld rfl rfl ?_
    refine z_C (m := 0) rfl rfl (fun x123 ex123 => ?_)
    refine gw_ld rfl rfl ?_
    refine gw_ld rfl rfl ?_
    refine z_b2 (fun c124 => ?_) (fun c124 => ?_)
    · have c124 : x122.toInt ≠ x120.toInt := c124
      refine gw_skip _ ?_
      refine gw_ld rfl rfl ?_
      refine gw_ld rfl rfl ?_
      refine z_b2 (fun c125 => ?_) (fun c125 => ?_)
      · have c125 : x122.toInt ≠ x109.toInt := c125
        refine gw_skip _ ?_
        refine z_C (m := 2) rfl rfl (fun x126 ex126 => ?_)
        refine z_cl rfl rfl rfl rfl rfl rfl rfl rfl rfl rfl rfl (zT S70 (by decide) rfl) ?_
        refine c_note (k := k) (w := x123) (v := x126) S70 (by rw [(show ez_I h54 55 2 = ez_I h 55 2 from zW_f F71 (by decide) (by decide))]; omega) (by omega) (fun h127 F128 k129 k130 => ?_)
        rw [show (6 * k.toInt + x123.toInt).toNat = (6 * k.toInt + 0).toNat by omega] at k129 k130
        have S131 := zW_sh F128 S70
        have F132 := zW_tr F71 (zW_mono F128 (x41_2) (x41_17) (x41_18))
        have f133 : ez_I h127 61 1 = (ez_I h54 61 1) := (zW_f F128 (by decide) (fun c => c)).trans (rfl)
        have f134 : ez_I h127 61 2 = (ez_I h54 61 2) := (zW_f F128 (by decide) (fun c => c)).trans (rfl)
        have f135 : ez_I h127 61 5 = (ez_I h54 61 5) := (zW_f F128 (by decide) (fun c => c)).trans (rfl)
        have f136 : ez_I h127 61 7 = (ez_I h54 61 7) := (zW_f F128 (by decide) (fun c => c)).trans (rfl)
        have f137 : ez_I h127 43 4 = (ez_I h54 43 4) := (zW_f F128 (by decide) (fun c => c)).trans (rfl)
        have A138 : (∀ k, k < 288 → nL (ez_I h127 30) k = LNf cl 286 15 k) := by rw [zW_fn F128 30 (by decide) (fun _ c => c)]; exact A78
        have A139 : aR (ez_I h127 30) 288 0 15 := by rw [zW_fn F128 30 (by decide) (fun _ c => c)]; exact A79
        have A140 : (∀ k, k < 286 → 1 ≤ cl k → 1 ≤ nL (ez_I h127 30) k) := by rw [zW_fn F128 30 (by decide) (fun _ c => c)]; exact A80
        have A141 : (∀ k, k < 288 → nL (ez_I h127 37) k = LNf cd 30 15 k) := by rw [zW_fn F128 37 (by decide) (fun _ c => c)]; exact A81
        have A142 : aR (ez_I h127 37) 288 0 15 := by rw [zW_fn F128 37 (by decide) (fun _ c => c)]; exact A82
        have A143 : (∀ k, k < 30 → 1 ≤ cd k → 1 ≤ nL (ez_I h127 37) k) := by rw [zW_fn F128 37 (by decide) (fun _ c => c)]; exact A83
        have A144 : (∀ k, k < 30 → cd k = 0 → nL (ez_I h127 37) k = 0) := by rw [zW_fn F128 37 (by decide) (fun _ c => c)]; exact A84
        have A145 : (∀ k, k < 288 → nL (ez_I h127 37) k = LDx cd k) := by rw [zW_fn F128 37 (by decide) (fun _ c => c)]; exact A85
        have A146 : aR (ez_I h127 37) 288 0 15 := by rw [zW_fn F128 37 (by decide) (fun _ c => c)]; exact A86
        have A147 : (∀ k, k < 30 → 1 ≤ cd k → 1 ≤ nL (ez_I h127 37) k) := by rw [zW_fn F128 37 (by decide) (fun _ c => c)]; exact A87
        have A148 : plP (ez_I h127 61) (ez_I h127 63) (ez_I h127 64) (ez_I h127 44) (ez_I h127 45) (nL (ez_I h127 30)) (nL (ez_I h127 37)) c57 := by rw [zW_fn F128 61 (by decide) (fun _ c => c), zW_fn F128 63 (by decide) (fun _ c => c), zW_fn F128 64 (by decide) (fun _ c => c), zW_fn F128 44 (by decide) (fun _ c => c), zW_fn F128 45 (by decide) (fun _ c => c), zW_fn F128 30 (by decide) (fun _ c => c), zW_fn F128 37 (by decide) (fun _ c => c)]; exact hpl
        have A149 : x55.toInt = (hdB (nL (ez_I h127 30)) (nL (ez_I h127 37)) c57 : Nat) := by rw [zW_fn F128 30 (by decide) (fun _ c => c), zW_fn F128 37 (by decide) (fun _ c => c)]; exact (by rw [e30, e37]; exact hhb)
        clear A78
        clear A79
        clear A80
        clear A81
        clear A82
        clear A83
        clear A84
        clear A85
        clear A86
        clear A87
        have A150 : (ez_I h127 56 (6 * k.toInt + 0).toNat).toInt = x126.toInt := (by rw [k129])
        have A151 : (∀ j : Nat, (¬ (6 * k.toInt ≤ (j : Int) ∧ (j : Int) < 6 * k.toInt + 6) ∨ j = (6 * k.toInt + 1).toNat) → ez_I h127 56 j = ez_I h 56 j) := (fun j hj => (k130 j (by omega)).trans (congrFun A77 j))
        refine gw_ld rfl rfl ?_
        refine z_gR (q := 55) (zT S131 (by decide) rfl) (zRf S131 (by decide) (by decide) rfl) (by decide) ?_
        refine gw_ld rfl rfl ?_
        refine z_C (m := 2) rfl rfl (fun x152 ex152 => ?_)
        refine gw_ld rfl rfl ?_
        refine z_gI2 (by decide) (zT S131 (by decide) rfl) (zW_f F132 (by decide) (by decide)) ?_
        have t153 := congrArg Int32.toInt (f133)
        have t154 := congrArg Int32.toInt (f134)
        have t155 := congrArg Int32.toInt (f135)
        have t156 := congrArg Int32.toInt (f136)
        have t157 := congrArg Int32.toInt (f137)
        refine z_cl rfl rfl rfl rfl rfl rfl rfl rfl rfl rfl rfl (zT S131 (by decide) rfl) ?_
        refine c_note (k := k) (w := x152) (v := (ez_I h 52 11)) S131 (by rw [(show ez_I h127 55 2 = ez_I h 55 2 from zW_f F132 (by decide) (by decide))]; omega) (by omega) (fun h158 F159 k160 k161 => ?_)
        rw [show (6 * k.toInt + x152.toInt).toNat = (6 * k.toInt + 2).toNat by omega] at k160 k161
        have S162 := zW_sh F159 S131
        have F163 := zW_tr F132 (zW_mono F159 (x41_2) (x41_17) (x41_18))
        have f164 : ez_I h158 61 1 = (ez_I h54 61 1) := (zW_f F159 (by decide) (fun c => c)).trans (f133)
        have f165 : ez_I h158 61 2 = (ez_I h54 61 2) := (zW_f F159 (by decide) (fun c => c)).trans (f134)
        have f166 : ez_I h158 61 5 = (ez_I h54 61 5) := (zW_f F159 (by decide) (fun c => c)).trans (f135)
        have f167 : ez_I h158 61 7 = (ez_I h54 61 7) := (zW_f F159 (by decide) (fun c => c)).trans (f136)
        have f168 : ez_I h158 43 4 = (ez_I h54 43 4) := (zW_f F159 (by decide) (fun c => c)).trans (f137)
        have A169 : (∀ k, k < 288 → nL (ez_I h158 30) k = LNf cl 286 15 k) := by rw [zW_fn F159 30 (by decide) (fun _ c => c)]; exact A138
        have A170 : aR (ez_I h158 30) 288 0 15 := by rw [zW_fn F159 30 (by decide) (fun _ c => c)]; exact A139
        have A171 : (∀ k, k < 286 → 1 ≤ cl k → 1 ≤ nL (ez_I h158 30) k) := by rw [zW_fn F159 30 (by decide) (fun _ c => c)]; exact A140
        have A172 : (∀ k, k < 288 → nL (ez_I h158 37) k = LNf cd 30 15 k) := by rw [zW_fn F159 37 (by decide) (fun _ c => c)]; exact A141
        have A173 : aR (ez_I h158 37) 288 0 15 := by rw [zW_fn F159 37 (by decide) (fun _ c => c)]; exact A142
        have A174 : (∀ k, k < 30 → 1 ≤ cd k → 1 ≤ nL (ez_I h158 37) k) := by rw [zW_fn F159 37 (by decide) (fun _ c => c)]; exact A143
        have A175 : (∀ k, k < 30 → cd k = 0 → nL (ez_I h158 37) k = 0) := by rw [zW_fn F159 37 (by decide) (fun _ c => c)]; exact A144
        have A176 : (∀ k, k < 288 → nL (ez_I h158 37) k = LDx cd k) := by rw [zW_fn F159 37 (by decide) (fun _ c => c)]; exact A145
        have A177 : aR (ez_I h158 37) 288 0 15 := by rw [zW_fn F159 37 (by decide) (fun _ c => c)]; exact A146
        have A178 : (∀ k, k < 30 → 1 ≤ cd k → 1 ≤ nL (ez_I h158 37) k) := by rw [zW_fn F159 37 (by decide) (fun _ c => c)]; exact A147
        have A179 : plP (ez_I h158 61) (ez_I h158 63) (ez_I h158 64) (ez_I h158 44) (ez_I h158 45) (nL (ez_I h158 30)) (nL (ez_I h158 37)) c57 := by rw [zW_fn F159 61 (by decide) (fun _ c => c), zW_fn F159 63 (by decide) (fun _ c => c), zW_fn F159 64 (by decide) (fun _ c => c), zW_fn F159 44 (by decide) (fun _ c => c), zW_fn F159 45 (by decide) (fun _ c => c), zW_fn F159 30 (by decide) (fun _ c => c), zW_fn F159 37 (by decide) (fun _ c => c)]; exact A148
        have A180 : x55.toInt = (hdB (nL (ez_I h158 30)) (nL (ez_I h158 37)) c57 : Nat) := by rw [zW_fn F159 30 (by decide) (fun _ c => c), zW_fn F159 37 (by decide) (fun _ c => c)]; exact A149
        clear A138
        clear A139
        clear A140
        clear A141
        clear A142
        clear A143
        clear A144
        clear A145
        clear A146
        clear A147
        clear A148
        clear A149
        have A181 : (ez_I h158 56 (6 * k.toInt + 0).toNat).toInt = x126.toInt := (by rw [k161 _ (by omega)]; exact A150)
        have A182 : (ez_I h158 56 (6 * k.toInt + 2).toNat).toInt = ((ez_I h 52 11)).toInt := (by rw [k160])
        have A183 : (∀ j : Nat, (¬ (6 * k.toInt ≤ (j : Int) ∧ (j : Int) < 6 * k.toInt + 6) ∨ j = (6 * k.toInt + 1).toNat) → ez_I h158 56 j = ez_I h 56 j) := (fun j hj => (k161 j (by omega)).trans (A151 j hj))
        refine gw_ld rfl rfl ?_
        refine z_gR (q := 55) (zT S162 (by decide) rfl) (zRf S162 (by decide) (by decide) rfl) (by decide) ?_
        refine gw_ld rfl rfl ?_
        refine z_C (m := 3) rfl rfl (fun x184 ex184 => ?_)
        refine gw_ld rfl rfl ?_
        have t185 := congrArg Int32.toInt (f164)
        have t186 := congrArg Int32.toInt (f165)
        have t187 := congrArg Int32.toInt (f166)
        have t188 := congrArg Int32.toInt (f167)
        have t189 := congrArg Int32.toInt (f168)
        refine z_cl rfl rfl rfl rfl rfl rfl rfl rfl rfl rfl rfl (zT S162 (by decide) rfl) ?_
        refine c_note (k := k) (w := x184) (v := x122) S162 (by rw [(show ez_I h158 55 2 = ez_I h 55 2 from zW_f F163 (by decide) (by decide))]; omega) (by omega) (fun h190 F191 k192 k193 => ?_)
        rw [show (6 * k.toInt + x184.toInt).toNat = (6 * k.toInt + 3).toNat by omega] at k192 k193
        have S194 := zW_sh F191 S162
        have F195 := zW_tr F163 (zW_mono F191 (x41_2) (x41_17) (x41_18))
        have f196 : ez_I h190 61 1 = (ez_I h54 61 1) := (zW_f F191 (by decide) (fun c => c)).trans (f164)
        have f197 : ez_I h190 61 2 = (ez_I h54 61 2) := (zW_f F191 (by decide) (fun c => c)).trans (f165)
        have f198 : ez_I h190 61 5 = (ez_I h54 61 5) := (zW_f F191 (by decide) (fun c => c)).trans (f166)
        have f199 : ez_I h190 61 7 = (ez_I h54 61 7) := (zW_f F191 (by decide) (fun c => c)).trans (f167)
        have f200 : ez_I h190 43 4 = (ez_I h54 43 4) := (zW_f F191 (by decide) (fun c => c)).trans (f168)
        have A201 : (∀ k, k < 288 → nL (ez_I h190 30) k = LNf cl 286 15 k) := by rw [zW_fn F191 30 (by decide) (fun _ c => c)]; exact A169
        have A202 : aR (ez_I h190 30) 288 0 15 := by rw [zW_fn F191 30 (by decide) (fun _ c => c)]; exact A170
        have A203 : (∀ k, k < 286 → 1 ≤ cl k → 1 ≤ nL (ez_I h190 30) k) := by rw [zW_fn F191 30 (by decide) (fun _ c => c)]; exact A171
        have A204 : (∀ k, k < 288 → nL (ez_I h190 37) k = LNf cd 30 15 k) := by rw [zW_fn F191 37 (by decide) (fun _ c => c)]; exact A172
        have A205 : aR (ez_I h190 37) 288 0 15 := by rw [zW_fn F191 37 (by decide) (fun _ c => c)]; exact A173
        have A206 : (∀ k, k < 30 → 1 ≤ cd k → 1 ≤ nL (ez_I h190 37) k) := by rw [zW_fn F191 37 (by decide) (fun _ c => c)]; exact A174
        have A207 : (∀ k, k < 30 → cd k = 0 → nL (ez_I h190 37) k = 0) := by rw [zW_fn F191 37 (by decide) (fun _ c => c)]; exact A175
        have A208 : (∀ k, k < 288 → nL (ez_I h190 37) k = LDx cd k) := by rw [zW_fn F191 37 (by decide) (fun _ c => c)]; exact A176
        have A209 : aR (ez_I h190 37) 288 0 15 := by rw [zW_fn F191 37 (by decide) (fun _ c => c)]; exact A177
        have A210 : (∀ k, k < 30 → 1 ≤ cd k → 1 ≤ nL (ez_I h190 37) k) := by rw [zW_fn F191 37 (by decide) (fun _ c => c)]; exact A178
        have A211 : plP (ez_I h190 61) (ez_I h190 63) (ez_I h190 64) (ez_I h190 44) (ez_I h190 45) (nL (ez_I h190 30)) (nL (ez_I h190 37)) c57 := by rw [zW_fn F191 61 (by decide) (fun _ c => c), zW_fn F191 63 (by decide) (fun _ c => c), zW_fn F191 64 (by decide) (fun _ c => c), zW_fn F191 44 (by decide) (fun _ c => c), zW_fn F191 45 (by decide) (fun _ c => c), zW_fn F191 30 (by decide) (fun _ c => c), zW_fn F191 37 (by decide) (fun _ c => c)]; exact A179
        have A212 : x55.toInt = (hdB (nL (ez_I h190 30)) (nL (ez_I h190 37)) c57 : Nat) := by rw [zW_fn F191 30 (by decide) (fun _ c => c), zW_fn F191 37 (by decide) (fun _ c => c)]; exact A180
        clear A169
        clear A170
        clear A171
        clear A172
        clear A173
        clear A174
        clear A175
        clear A176
        clear A177
        clear A178
        clear A179
        clear A180
        have A213 : (ez_I h190 56 (6 * k.toInt + 0).toNat).toInt = x126.toInt := (by rw [k193 _ (by omega)]; exact A181)
        have A214 : (ez_I h190 56 (6 * k.toInt + 2).toNat).toInt = ((ez_I h 52 11)).toInt := (by rw [k193 _ (by omega)]; exact A182)
        have A215 : (ez_I h190 56 (6 * k.toInt + 3).toNat).toInt = x122.toInt := (by rw [k192])
        have A216 : (∀ j : Nat, (¬ (6 * k.toInt ≤ (j : Int) ∧ (j : Int) < 6 * k.toInt + 6) ∨ j = (6 * k.toInt + 1).toNat) → ez_I h190 56 j = ez_I h 56 j) := (fun j hj => (k193 j (by omega)).trans (A183 j hj))
        refine gw_ld rfl rfl ?_
        refine z_gR (q := 55) (zT S194 (by decide) rfl) (zRf S194 (by decide) (by decide) rfl) (by decide) ?_
        refine gw_ld rfl rfl ?_
        refine z_C (m := 4) rfl rfl (fun x217 ex217 => ?_)
        refine gw_ld rfl rfl ?_
        have t218 := congrArg Int32.toInt (f196)
        have t219 := congrArg Int32.toInt (f197)
        have t220 := congrArg Int32.toInt (f198)
        have t221 := congrArg Int32.toInt (f199)
        have t222 := congrArg Int32.toInt (f200)
        refine z_cl rfl rfl rfl rfl rfl rfl rfl rfl rfl rfl rfl (zT S194 (by decide) rfl) ?_
        refine c_note (k := k) (w := x217) (v := x109) S194 (by rw [(show ez_I h190 55 2 = ez_I h 55 2 from zW_f F195 (by decide) (by decide))]; omega) (by omega) (fun h223 F224 k225 k226 => ?_)
        rw [show (6 * k.toInt + x217.toInt).toNat = (6 * k.toInt + 4).toNat by omega] at k225 k226
        have S227 := zW_sh F224 S194
        have F228 := zW_tr F195 (zW_mono F224 (x41_2) (x41_17) (x41_18))
        have f229 : ez_I h223 61 1 = (ez_I h54 61 1) := (zW_f F224 (by decide) (fun c => c)).trans (f196)
        have f230 : ez_I h223 61 2 = (ez_I h54 61 2) := (zW_f F224 (by decide) (fun c => c)).trans (f197)
        have f231 : ez_I h223 61 5 = (ez_I h54 61 5) := (zW_f F224 (by decide) (fun c => c)).trans (f198)
        have f232 : ez_I h223 61 7 = (ez_I h54 61 7) := (zW_f F224 (by decide) (fun c => c)).trans (f199)
        have f233 : ez_I h223 43 4 = (ez_I h54 43 4) := (zW_f F224 (by decide) (fun c => c)).trans (f200)
        have A234 : (∀ k, k < 288 → nL (ez_I h223 30) k = LNf cl 286 15 k) := by rw [zW_fn F224 30 (by decide) (fun _ c => c)]; exact A201
        have A235 : aR (ez_I h223 30) 288 0 15 := by rw [zW_fn F224 30 (by decide) (fun _ c => c)]; exact A202
        have A236 : (∀ k, k < 286 → 1 ≤ cl k → 1 ≤ nL (ez_I h223 30) k) := by rw [zW_fn F224 30 (by decide) (fun _ c => c)]; exact A203
        have A237 : (∀ k, k < 288 → nL (ez_I h223 37) k = LNf cd 30 15 k) := by rw [zW_fn F224 37 (by decide) (fun _ c => c)]; exact A204
        have A238 : aR (ez_I h223 37) 288 0 15 := by rw [zW_fn F224 37 (by decide) (fun _ c => c)]; exact A205
        have A239 : (∀ k, k < 30 → 1 ≤ cd k → 1 ≤ nL (ez_I h223 37) k) := by rw [zW_fn F224 37 (by decide) (fun _ c => c)]; exact A206
        have A240 : (∀ k, k < 30 → cd k = 0 → nL (ez_I h223 37) k = 0) := by rw [zW_fn F224 37 (by decide) (fun _ c => c)]; exact A207
        have A241 : (∀ k, k < 288 → nL (ez_I h223 37) k = LDx cd k) := by rw [zW_fn F224 37 (by decide) (fun _ c => c)]; exact A208
        have A242 : aR (ez_I h223 37) 288 0 15 := by rw [zW_fn F224 37 (by decide) (fun _ c => c)]; exact A209
        have A243 : (∀ k, k < 30 → 1 ≤ cd k → 1 ≤ nL (ez_I h223 37) k) := by rw [zW_fn F224 37 (by decide) (fun _ c => c)]; exact A210
        have A244 : plP (ez_I h223 61) (ez_I h223 63) (ez_I h223 64) (ez_I h223 44) (ez_I h223 45) (nL (ez_I h223 30)) (nL (ez_I h223 37)) c57 := by rw [zW_fn F224 61 (by decide) (fun _ c => c), zW_fn F224 63 (by decide) (fun _ c => c), zW_fn F224 64 (by decide) (fun _ c => c), zW_fn F224 44 (by decide) (fun _ c => c), zW_fn F224 45 (by decide) (fun _ c => c), zW_fn F224 30 (by decide) (fun _ c => c), zW_fn F224 37 (by decide) (fun _ c => c)]; exact A211
        have A245 : x55.toInt = (hdB (nL (ez_I h223 30)) (nL (ez_I h223 37)) c57 : Nat) := by rw [zW_fn F224 30 (by decide) (fun _ c => c), zW_fn F224 37 (by decide) (fun _ c => c)]; exact A212
        clear A201
        clear A202
        clear A203
        clear A204
        clear A205
        clear A206
        clear A207
        clear A208
        clear A209
        clear A210
        clear A211
        clear A212
        have A246 : (ez_I h223 56 (6 * k.toInt + 0).toNat).toInt = x126.toInt := (by rw [k226 _ (by omega)]; exact A213)
        have A247 : (ez_I h223 56 (6 * k.toInt + 2).toNat).toInt = ((ez_I h 52 11)).toInt := (by rw [k226 _ (by omega)]; exact A214)
        have A248 : (ez_I h223 56 (6 * k.toInt + 3).toNat).toInt = x122.toInt := (by rw [k226 _ (by omega)]; exact A215)
        have A249 : (ez_I h223 56 (6 * k.toInt + 4).toNat).toInt = x109.toInt := (by rw [k225])
        have A250 : (∀ j : Nat, (¬ (6 * k.toInt ≤ (j : Int) ∧ (j : Int) < 6 * k.toInt + 6) ∨ j = (6 * k.toInt + 1).toNat) → ez_I h223 56 j = ez_I h 56 j) := (fun j hj => (k226 j (by omega)).trans (A216 j hj))
        refine gw_ld rfl rfl ?_
        refine z_gR (q := 55) (zT S227 (by decide) rfl) (zRf S227 (by decide) (by decide) rfl) (by decide) ?_
        refine gw_ld rfl rfl ?_
        refine z_C (m := 5) rfl rfl (fun x251 ex251 => ?_)
        refine gw_ld rfl rfl ?_
        have t252 := congrArg Int32.toInt (f229)
        have t253 := congrArg Int32.toInt (f230)
        have t254 := congrArg Int32.toInt (f231)
        have t255 := congrArg Int32.toInt (f232)
        have t256 := congrArg Int32.toInt (f233)
        refine z_cl rfl rfl rfl rfl rfl rfl rfl rfl rfl rfl rfl (zT S227 (by decide) rfl) ?_
        refine c_note (k := k) (w := x251) (v := x97) S227 (by rw [(show ez_I h223 55 2 = ez_I h 55 2 from zW_f F228 (by decide) (by decide))]; omega) (by omega) (fun h257 F258 k259 k260 => ?_)
        rw [show (6 * k.toInt + x251.toInt).toNat = (6 * k.toInt + 5).toNat by omega] at k259 k260
        have S261 := zW_sh F258 S227
        have F262 := zW_tr F228 (zW_mono F258 (x41_2) (x41_17) (x41_18))
        have f263 : ez_I h257 61 1 = (ez_I h54 61 1) := (zW_f F258 (by decide) (fun c => c)).trans (f229)
        have f264 : ez_I h257 61 2 = (ez_I h54 61 2) := (zW_f F258 (by decide) (fun c => c)).trans (f230)
        have f265 : ez_I h257 61 5 = (ez_I h54 61 5) := (zW_f F258 (by decide) (fun c => c)).trans (f231)
        have f266 : ez_I h257 61 7 = (ez_I h54 61 7) := (zW_f F258 (by decide) (fun c => c)).trans (f232)
        have f267 : ez_I h257 43 4 = (ez_I h54 43 4) := (zW_f F258 (by decide) (fun c => c)).trans (f233)
        have A268 : (∀ k, k < 288 → nL (ez_I h257 30) k = LNf cl 286 15 k) := by rw [zW_fn F258 30 (by decide) (fun _ c => c)]; exact A234
        have A269 : aR (ez_I h257 30) 288 0 15 := by rw [zW_fn F258 30 (by decide) (fun _ c => c)]; exact A235
        have A270 : (∀ k, k < 286 → 1 ≤ cl k → 1 ≤ nL (ez_I h257 30) k) := by rw [zW_fn F258 30 (by decide) (fun _ c => c)]; exact A236
        have A271 : (∀ k, k < 288 → nL (ez_I h257 37) k = LNf cd 30 15 k) := by rw [zW_fn F258 37 (by decide) (fun _ c => c)]; exact A237
        have A272 : aR (ez_I h257 37) 288 0 15 := by rw [zW_fn F258 37 (by decide) (fun _ c => c)]; exact A238
        have A273 : (∀ k, k < 30 → 1 ≤ cd k → 1 ≤ nL (ez_I h257 37) k) := by rw [zW_fn F258 37 (by decide) (fun _ c => c)]; exact A239
        have A274 : (∀ k, k < 30 → cd k = 0 → nL (ez_I h257 37) k = 0) := by rw [zW_fn F258 37 (by decide) (fun _ c => c)]; exact A240
        have A275 : (∀ k, k < 288 → nL (ez_I h257 37) k = LDx cd k) := by rw [zW_fn F258 37 (by decide) (fun _ c => c)]; exact A241
        have A276 : aR (ez_I h257 37) 288 0 15 := by rw [zW_fn F258 37 (by decide) (fun _ c => c)]; exact A242
        have A277 : (∀ k, k < 30 → 1 ≤ cd k → 1 ≤ nL (ez_I h257 37) k) := by rw [zW_fn F258 37 (by decide) (fun _ c => c)]; exact A243
        have A278 : plP (ez_I h257 61) (ez_I h257 63) (ez_I h257 64) (ez_I h257 44) (ez_I h257 45) (nL (ez_I h257 30)) (nL (ez_I h257 37)) c57 := by rw [zW_fn F258 61 (by decide) (fun _ c => c), zW_fn F258 63 (by decide) (fun _ c => c), zW_fn F258 64 (by decide) (fun _ c => c), zW_fn F258 44 (by decide) (fun _ c => c), zW_fn F258 45 (by decide) (fun _ c => c), zW_fn F258 30 (by decide) (fun _ c => c), zW_fn F258 37 (by decide) (fun _ c => c)]; exact A244
        have A279 : x55.toInt = (hdB (nL (ez_I h257 30)) (nL (ez_I h257 37)) c57 : Nat) := by rw [zW_fn F258 30 (by decide) (fun _ c => c), zW_fn F258 37 (by decide) (fun _ c => c)]; exact A245
        clear A234
        clear A235
        clear A236
        clear A237
        clear A238
        clear A239
        clear A240
        clear A241
        clear A242
        clear A243
        clear A244
        clear A245
        have A280 : (ez_I h257 56 (6 * k.toInt + 0).toNat).toInt = x126.toInt := (by rw [k260 _ (by omega)]; exact A246)
        have A281 : (ez_I h257 56 (6 * k.toInt + 2).toNat).toInt = ((ez_I h 52 11)).toInt := (by rw [k260 _ (by omega)]; exact A247)
        have A282 : (ez_I h257 56 (6 * k.toInt + 3).toNat).toInt = x122.toInt := (by rw [k260 _ (by omega)]; exact A248)
        have A283 : (ez_I h257 56 (6 * k.toInt + 4).toNat).toInt = x109.toInt := (by rw [k260 _ (by omega)]; exact A249)
        have A284 : (ez_I h257 56 (6 * k.toInt + 5).toNat).toInt = x97.toInt := (by rw [k259])
        have A285 : (∀ j : Nat, (¬ (6 * k.toInt ≤ (j : Int) ∧ (j : Int) < 6 * k.toInt + 6) ∨ j = (6 * k.toInt + 1).toNat) → ez_I h257 56 j = ez_I h 56 j) := (fun j hj => (k260 j (by omega)).trans (A250 j hj))
        refine z_rv ?_
        have t286 := congrArg Int32.toInt (f263)
        have t287 := congrArg Int32.toInt (f264)
        have t288 := congrArg Int32.toInt (f265)
        have t289 := congrArg Int32.toInt (f266)
        have t290 := congrArg Int32.toInt (f267)
        have K2 := K _ F262 c57
        have hDY : x97.toInt = (3 + (hdB (nL (ez_I h257 30)) (nL (ez_I h257 37)) c57 : Nat) + (ez_I h 52 10).toInt + (sN (fun i => cd i * LNf cd 30 15 i) 30 : Nat) + (sN (fun i => cl i * LNf cl 286 15 i) 286 : Nat)) := by have := A279; omega
        have hFI : x109.toInt = (3 + (ez_I h 52 10).toInt + (sN (fun i => cl i * fxL i) 286 : Nat) + (sN (fun i => cd i * fxD i) 30 : Nat)) := by omega
        have hST : x120.toInt = (3 + (-((ez_I h 68 2).toInt + 3)) % 8 + 32 + 8 * (ez_I h 52 11).toInt) := by omega
        rw [← hDY, ← hFI, ← hST] at K2
        exact K2 A278 A268 A269 A270 A275 A276 A277 ⟨by rw [A284], by rw [A283], by rw [A281], by rw [A282]; split <;> (try split) <;> omega, by rw [A280]; split <;> (try split) <;> omega⟩ A285
      · have c125 : ¬ (x122.toInt ≠ x109.toInt) := c125
        refine z_C (m := 1) rfl rfl (fun x291 ex291 => ?_)
        refine z_go ?_
        refine gw_skip _ ?_
        refine z_cl rfl rfl rfl rfl rfl rfl rfl rfl rfl rfl rfl (zT S70 (by decide) rfl) ?_
        refine c_note (k := k) (w := x123) (v := x291) S70 (by rw [(show ez_I h54 55 2 = ez_I h 55 2 from zW_f F71 (by decide) (by decide))]; omega) (by omega) (fun h292 F293 k294 k295 => ?_)
        rw [show (6 * k.toInt + x123.toInt).toNat = (6 * k.toInt + 0).toNat by omega] at k294 k295
        have S296 := zW_sh F293 S70
        have F297 := zW_tr F71 (zW_mono F293 (x41_2) (x41_17) (x41_18))
        have f298 : ez_I h292 61 1 = (ez_I h54 61 1) := (zW_f F293 (by decide) (fun c => c)).trans (rfl)
        have f299 : ez_I h292 61 2 = (ez_I h54 61 2) := (zW_f F293 (by decide) (fun c => c)).trans (rfl)
        have f300 : ez_I h292 61 5 = (ez_I h54 61 5) := (zW_f F293 (by decide) (fun c => c)).trans (rfl)
        have f301 : ez_I h292 61 7 = (ez_I h54 61 7) := (zW_f F293 (by decide) (fun c => c)).trans (rfl)
        have f302 : ez_I h292 43 4 = (ez_I h54 43 4) := (zW_f F293 (by decide) (fun c => c)).trans (rfl)
        have A303 : (∀ k, k < 288 → nL (ez_I h292 30) k = LNf cl 286 15 k) := by rw [zW_fn F293 30 (by decide) (fun _ c => c)]; exact A78
        have A304 : aR (ez_I h292 30) 288 0 15 := by rw [zW_fn F293 30 (by decide) (fun _ c => c)]; exact A79
        have A305 : (∀ k, k < 286 → 1 ≤ cl k → 1 ≤ nL (ez_I h292 30) k) := by rw [zW_fn F293 30 (by decide) (fun _ c => c)]; exact A80
        have A306 : (∀ k, k < 288 → nL (ez_I h292 37) k = LNf cd 30 15 k) := by rw [zW_fn F293 37 (by decide) (fun _ c => c)]; exact A81
        have A307 : aR (ez_I h292 37) 288 0 15 := by rw [zW_fn F293 37 (by decide) (fun _ c => c)]; exact A82
        have A308 : (∀ k, k < 30 → 1 ≤ cd k → 1 ≤ nL (ez_I h292 37) k) := by rw [zW_fn F293 37 (by decide) (fun _ c => c)]; exact A83
        have A309 : (∀ k, k < 30 → cd k = 0 → nL (ez_I h292 37) k = 0) := by rw [zW_fn F293 37 (by decide) (fun _ c => c)]; exact A84
        have A310 : (∀ k, k < 288 → nL (ez_I h292 37) k = LDx cd k) := by rw [zW_fn F293 37 (by decide) (fun _ c => c)]; exact A85
        have A311 : aR (ez_I h292 37) 288 0 15 := by rw [zW_fn F293 37 (by decide) (fun _ c => c)]; exact A86
        have A312 : (∀ k, k < 30 → 1 ≤ cd k → 1 ≤ nL (ez_I h292 37) k) := by rw [zW_fn F293 37 (by decide) (fun _ c => c)]; exact A87
        have A313 : plP (ez_I h292 61) (ez_I h292 63) (ez_I h292 64) (ez_I h292 44) (ez_I h292 45) (nL (ez_I h292 30)) (nL (ez_I h292 37)) c57 := by rw [zW_fn F293 61 (by decide) (fun _ c => c), zW_fn F293 63 (by decide) (fun _ c => c), zW_fn F293 64 (by decide) (fun _ c => c), zW_fn F293 44 (by decide) (fun _ c => c), zW_fn F293 45 (by decide) (fun _ c => c), zW_fn F293 30 (by decide) (fun _ c => c), zW_fn F293 37 (by decide) (fun _ c => c)]; exact hpl
        have A314 : x55.toInt = (hdB (nL (ez_I h292 30)) (nL (ez_I h292 37)) c57 : Nat) := by rw [zW_fn F293 30 (by decide) (fun _ c => c), zW_fn F293 37 (by decide) (fun _ c => c)]; exact (by rw [e30, e37]; exact hhb)
        clear A78
        clear A79
        clear A80
        clear A81
        clear A82
        clear A83
        clear A84
        clear A85
        clear A86
        clear A87
        have A315 : (ez_I h292 56 (6 * k.toInt + 0).toNat).toInt = x291.toInt := (by rw [k294])
        have A316 : (∀ j : Nat, (¬ (6 * k.toInt ≤ (j : Int) ∧ (j : Int) < 6 * k.toInt + 6) ∨ j = (6 * k.toInt + 1).toNat) → ez_I h292 56 j = ez_I h 56 j) := (fun j hj => (k295 j (by omega)).trans (congrFun A77 j))
        refine gw_ld rfl rfl ?_
        refine z_gR (q := 55) (zT S296 (by decide) rfl) (zRf S296 (by decide) (by decide) rfl) (by decide) ?_
        refine gw_ld rfl rfl ?_
        refine z_C (m := 2) rfl rfl (fun x317 ex317 => ?_)
        refine gw_ld rfl rfl ?_
        refine z_gI2 (by decide) (zT S296 (by decide) rfl) (zW_f F297 (by decide) (by decide)) ?_
        have t318 := congrArg Int32.toInt (f298)
        have t319 := congrArg Int32.toInt (f299)
        have t320 := congrArg Int32.toInt (f300)
        have t321 := congrArg Int32.toInt (f301)
        have t322 := congrArg Int32.toInt (f302)
        refine z_cl rfl rfl rfl rfl rfl rfl rfl rfl rfl rfl rfl (zT S296 (by decide) rfl) ?_
        refine c_note (k := k) (w := x317) (v := (ez_I h 52 11)) S296 (by rw [(show ez_I h292 55 2 = ez_I h 55 2 from zW_f F297 (by decide) (by decide))]; omega) (by omega) (fun h323 F324 k325 k326 => ?_)
        rw [show (6 * k.toInt + x317.toInt).toNat = (6 * k.toInt + 2).toNat by omega] at k325 k326
        have S327 := zW_sh F324 S296
        have F328 := zW_tr F297 (zW_mono F324 (x41_2) (x41_17) (x41_18))
        have f329 : ez_I h323 61 1 = (ez_I h54 61 1) := (zW_f F324 (by decide) (fun c => c)).trans (f298)
        have f330 : ez_I h323 61 2 = (ez_I h54 61 2) := (zW_f F324 (by decide) (fun c => c)).trans (f299)
        have f331 : ez_I h323 61 5 = (ez_I h54 61 5) := (zW_f F324 (by decide) (fun c => c)).trans (f300)
        have f332 : ez_I h323 61 7 = (ez_I h54 61 7) := (zW_f F324 (by decide) (fun c => c)).trans (f301)
        have f333 : ez_I h323 43 4 = (ez_I h54 43 4) := (zW_f F324 (by decide) (fun c => c)).trans (f302)
        have A334 : (∀ k, k < 288 → nL (ez_I h323 30) k = LNf cl 286 15 k) := by rw [zW_fn F324 30 (by decide) (fun _ c => c)]; exact A303
        have A335 : aR (ez_I h323 30) 288 0 15 := by rw [zW_fn F324 30 (by decide) (fun _ c => c)]; exact A304
        have A336 : (∀ k, k < 286 → 1 ≤ cl k → 1 ≤ nL (ez_I h323 30) k) := by rw [zW_fn F324 30 (by decide) (fun _ c => c)]; exact A305
        have A337 : (∀ k, k < 288 → nL (ez_I h323 37) k = LNf cd 30 15 k) := by rw [zW_fn F324 37 (by decide) (fun _ c => c)]; exact A306
        have A338 : aR (ez_I h323 37) 288 0 15 := by rw [zW_fn F324 37 (by decide) (fun _ c => c)]; exact A307
        have A339 : (∀ k, k < 30 → 1 ≤ cd k → 1 ≤ nL (ez_I h323 37) k) := by rw [zW_fn F324 37 (by decide) (fun _ c => c)]; exact A308
        have A340 : (∀ k, k < 30 → cd k = 0 → nL (ez_I h323 37) k = 0) := by rw [zW_fn F324 37 (by decide) (fun _ c => c)]; exact A309
        have A341 : (∀ k, k < 288 → nL (ez_I h323 37) k = LDx cd k) := by rw [zW_fn F324 37 (by decide) (fun _ c => c)]; exact A310
        have A342 : aR (ez_I h323 37) 288 0 15 := by rw [zW_fn F324 37 (by decide) (fun _ c => c)]; exact A311
        have A343 : (∀ k, k < 30 → 1 ≤ cd k → 1 ≤ nL (ez_I h323 37) k) := by rw [zW_fn F324 37 (by decide) (fun _ c => c)]; exact A312
        have A344 : plP (ez_I h323 61) (ez_I h323 63) (ez_I h323 64) (ez_I h323 44) (ez_I h323 45) (nL (ez_I h323 30)) (nL (ez_I h323 37)) c57 := by rw [zW_fn F324 61 (by decide) (fun _ c => c), zW_fn F324 63 (by decide) (fun _ c => c), zW_fn F324 64 (by decide) (fun _ c => c), zW_fn F324 44 (by decide) (fun _ c => c), zW_fn F324 45 (by decide) (fun _ c => c), zW_fn F324 30 (by decide) (fun _ c => c), zW_fn F324 37 (by decide) (fun _ c => c)]; exact A313
        have A345 : x55.toInt = (hdB (nL (ez_I h323 30)) (nL (ez_I h323 37)) c57 : Nat) := by rw [zW_fn F324 30 (by decide) (fun _ c => c), zW_fn F324 37 (by decide) (fun _ c => c)]; exact A314
        clear A303
        clear A304
        clear A305
        clear A306
        clear A307
        clear A308
        clear A309
        clear A310
        clear A311
        clear A312
        clear A313
        clear A314
        have A346 : (ez_I h323 56 (6 * k.toInt + 0).toNat).toInt = x291.toInt := (by rw [k326 _ (by omega)]; exact A315)
        have A347 : (ez_I h323 56 (6 * k.toInt + 2).toNat).toInt = ((ez_I h 52 11)).toInt := (by rw [k325])
        have A348 : (∀ j : Nat, (¬ (6 * k.toInt ≤ (j : Int) ∧ (j : Int) < 6 * k.toInt + 6) ∨ j = (6 * k.toInt + 1).toNat) → ez_I h323 56 j = ez_I h 56 j) := (fun j hj => (k326 j (by omega)).trans (A316 j hj))
        refine gw_ld rfl rfl ?_
        refine z_gR (q := 55) (zT S327 (by decide) rfl) (zRf S327 (by decide) (by decide) rfl) (by decide) ?_
        refine gw_ld rfl rfl ?_
        refine z_C (m := 3) rfl rfl (fun x349 ex349 => ?_)
        refine gw_ld rfl rfl ?_
        have t350 := congrArg Int32.toInt (f329)
        have t351 := congrArg Int32.toInt (f330)
        have t352 := congrArg Int32.toInt (f331)
        have t353 := congrArg Int32.toInt (f332)
        have t354 := congrArg Int32.toInt (f333)
        refine z_cl rfl rfl rfl rfl rfl rfl rfl rfl rfl rfl rfl (zT S327 (by decide) rfl) ?_
        refine c_note (k := k) (w := x349) (v := x122) S327 (by rw [(show ez_I h323 55 2 = ez_I h 55 2 from zW_f F328 (by decide) (by decide))]; omega) (by omega) (fun h355 F356 k357 k358 => ?_)
        rw [show (6 * k.toInt + x349.toInt).toNat = (6 * k.toInt + 3).toNat by omega] at k357 k358
        have S359 := zW_sh F356 S327
        have F360 := zW_tr F328 (zW_mono F356 (x41_2) (x41_17) (x41_18))
        have f361 : ez_I h355 61 1 = (ez_I h54 61 1) := (zW_f F356 (by decide) (fun c => c)).trans (f329)
        have f362 : ez_I h355 61 2 = (ez_I h54 61 2) := (zW_f F356 (by decide) (fun c => c)).trans (f330)
        have f363 : ez_I h355 61 5 = (ez_I h54 61 5) := (zW_f F356 (by decide) (fun c => c)).trans (f331)
        have f364 : ez_I h355 61 7 = (ez_I h54 61 7) := (zW_f F356 (by decide) (fun c => c)).trans (f332)
        have f365 : ez_I h355 43 4 = (ez_I h54 43 4) := (zW_f F356 (by decide) (fun c => c)).trans (f333)
        have A366 : (∀ k, k < 288 → nL (ez_I h355 30) k = LNf cl 286 15 k) := by rw [zW_fn F356 30 (by decide) (fun _ c => c)]; exact A334
        have A367 : aR (ez_I h355 30) 288 0 15 := by rw [zW_fn F356 30 (by decide) (fun _ c => c)]; exact A335
        have A368 : (∀ k, k < 286 → 1 ≤ cl k → 1 ≤ nL (ez_I h355 30) k) := by rw [zW_fn F356 30 (by decide) (fun _ c => c)]; exact A336
        have A369 : (∀ k, k < 288 → nL (ez_I h355 37) k = LNf cd 30 15 k) := by rw [zW_fn F356 37 (by decide) (fun _ c => c)]; exact A337
        have A370 : aR (ez_I h355 37) 288 0 15 := by rw [zW_fn F356 37 (by decide) (fun _ c => c)]; exact A338
        have A371 : (∀ k, k < 30 → 1 ≤ cd k → 1 ≤ nL (ez_I h355 37) k) := by rw [zW_fn F356 37 (by decide) (fun _ c => c)]; exact A339
        have A372 : (∀ k, k < 30 → cd k = 0 → nL (ez_I h355 37) k = 0) := by rw [zW_fn F356 37 (by decide) (fun _ c => c)]; exact A340
        have A373 : (∀ k, k < 288 → nL (ez_I h355 37) k = LDx cd k) := by rw [zW_fn F356 37 (by decide) (fun _ c => c)]; exact A341
        have A374 : aR (ez_I h355 37) 288 0 15 := by rw [zW_fn F356 37 (by decide) (fun _ c => c)]; exact A342
        have A375 : (∀ k, k < 30 → 1 ≤ cd k → 1 ≤ nL (ez_I h355 37) k) := by rw [zW_fn F356 37 (by decide) (fun _ c => c)]; exact A343
        have A376 : plP (ez_I h355 61) (ez_I h355 63) (ez_I h355 64) (ez_I h355 44) (ez_I h355 45) (nL (ez_I h355 30)) (nL (ez_I h355 37)) c57 := by rw [zW_fn F356 61 (by decide) (fun _ c => c), zW_fn F356 63 (by decide) (fun _ c => c), zW_fn F356 64 (by decide) (fun _ c => c), zW_fn F356 44 (by decide) (fun _ c => c), zW_fn F356 45 (by decide) (fun _ c => c), zW_fn F356 30 (by decide) (fun _ c => c), zW_fn F356 37 (by decide) (fun _ c => c)]; exact A344
        have A377 : x55.toInt = (hdB (nL (ez_I h355 30)) (nL (ez_I h355 37)) c57 : Nat) := by rw [zW_fn F356 30 (by decide) (fun _ c => c), zW_fn F356 37 (by decide) (fun _ c => c)]; exact A345
        clear A334
        clear A335
        clear A336
        clear A337
        clear A338
        clear A339
        clear A340
        clear A341
        clear A342
        clear A343
        clear A344
        clear A345
        have A378 : (ez_I h355 56 (6 * k.toInt + 0).toNat).toInt = x291.toInt := (by rw [k358 _ (by omega)]; exact A346)
        have A379 : (ez_I h355 56 (6 * k.toInt + 2).toNat).toInt = ((ez_I h 52 11)).toInt := (by rw [k358 _ (by omega)]; exact A347)
        have A380 : (ez_I h355 56 (6 * k.toInt + 3).toNat).toInt = x122.toInt := (by rw [k357])
        have A381 : (∀ j : Nat, (¬ (6 * k.toInt ≤ (j : Int) ∧ (j : Int) < 6 * k.toInt + 6) ∨ j = (6 * k.toInt + 1).toNat) → ez_I h355 56 j = ez_I h 56 j) := (fun j hj => (k358 j (by omega)).trans (A348 j hj))
        refine gw_ld rfl rfl ?_
        refine z_gR (q := 55) (zT S359 (by decide) rfl) (zRf S359 (by decide) (by decide) rfl) (by decide) ?_
        refine gw_ld rfl rfl ?_
        refine z_C (m := 4) rfl rfl (fun x382 ex382 => ?_)
        refine gw_ld rfl rfl ?_
        have t383 := congrArg Int32.toInt (f361)
        have t384 := congrArg Int32.toInt (f362)
        have t385 := congrArg Int32.toInt (f363)
        have t386 := congrArg Int32.toInt (f364)
        have t387 := congrArg Int32.toInt (f365)
        refine z_cl rfl rfl rfl rfl rfl rfl rfl rfl rfl rfl rfl (zT S359 (by decide) rfl) ?_
        refine c_note (k := k) (w := x382) (v := x109) S359 (by rw [(show ez_I h355 55 2 = ez_I h 55 2 from zW_f F360 (by decide) (by decide))]; omega) (by omega) (fun h388 F389 k390 k391 => ?_)
        rw [show (6 * k.toInt + x382.toInt).toNat = (6 * k.toInt + 4).toNat by omega] at k390 k391
        have S392 := zW_sh F389 S359
        have F393 := zW_tr F360 (zW_mono F389 (x41_2) (x41_17) (x41_18))
        have f394 : ez_I h388 61 1 = (ez_I h54 61 1) := (zW_f F389 (by decide) (fun c => c)).trans (f361)
        have f395 : ez_I h388 61 2 = (ez_I h54 61 2) := (zW_f F389 (by decide) (fun c => c)).trans (f362)
        have f396 : ez_I h388 61 5 = (ez_I h54 61 5) := (zW_f F389 (by decide) (fun c => c)).trans (f363)
        have f397 : ez_I h388 61 7 = (ez_I h54 61 7) := (zW_f F389 (by decide) (fun c => c)).trans (f364)
        have f398 : ez_I h388 43 4 = (ez_I h54 43 4) := (zW_f F389 (by decide) (fun c => c)).trans (f365)
        have A399 : (∀ k, k < 288 → nL (ez_I h388 30) k = LNf cl 286 15 k) := by rw [zW_fn F389 30 (by decide) (fun _ c => c)]; exact A366
        have A400 : aR (ez_I h388 30) 288 0 15 := by rw [zW_fn F389 30 (by decide) (fun _ c => c)]; exact A367
        have A401 : (∀ k, k < 286 → 1 ≤ cl k → 1 ≤ nL (ez_I h388 30) k) := by rw [zW_fn F389 30 (by decide) (fun _ c => c)]; exact A368
        have A402 : (∀ k, k < 288 → nL (ez_I h388 37) k = LNf cd 30 15 k) := by rw [zW_fn F389 37 (by decide) (fun _ c => c)]; exact A369
        have A403 : aR (ez_I h388 37) 288 0 15 := by rw [zW_fn F389 37 (by decide) (fun _ c => c)]; exact A370
        have A404 : (∀ k, k < 30 → 1 ≤ cd k → 1 ≤ nL (ez_I h388 37) k) := by rw [zW_fn F389 37 (by decide) (fun _ c => c)]; exact A371
        have A405 : (∀ k, k < 30 → cd k = 0 → nL (ez_I h388 37) k = 0) := by rw [zW_fn F389 37 (by decide) (fun _ c => c)]; exact A372
        have A406 : (∀ k, k < 288 → nL (ez_I h388 37) k = LDx cd k) := by rw [zW_fn F389 37 (by decide) (fun _ c => c)]; exact A373
        have A407 : aR (ez_I h388 37) 288 0 15 := by rw [zW_fn F389 37 (by decide) (fun _ c => c)]; exact A374
        have A408 : (∀ k, k < 30 → 1 ≤ cd k → 1 ≤ nL (ez_I h388 37) k) := by rw [zW_fn F389 37 (by decide) (fun _ c => c)]; exact A375
        have A409 : plP (ez_I h388 61) (ez_I h388 63) (ez_I h388 64) (ez_I h388 44) (ez_I h388 45) (nL (ez_I h388 30)) (nL (ez_I h388 37)) c57 := by rw [zW_fn F389 61 (by decide) (fun _ c => c), zW_fn F389 63 (by decide) (fun _ c => c), zW_fn F389 64 (by decide) (fun _ c => c), zW_fn F389 44 (by decide) (fun _ c => c), zW_fn F389 45 (by decide) (fun _ c => c), zW_fn F389 30 (by decide) (fun _ c => c), zW_fn F389 37 (by decide) (fun _ c => c)]; exact A376
        have A410 : x55.toInt = (hdB (nL (ez_I h388 30)) (nL (ez_I h388 37)) c57 : Nat) := by rw [zW_fn F389 30 (by decide) (fun _ c => c), zW_fn F389 37 (by decide) (fun _ c => c)]; exact A377
        clear A366
        clear A367
        clear A368
        clear A369
        clear A370
        clear A371
        clear A372
        clear A373
        clear A374
        clear A375
        clear A376
        clear A377
        have A411 : (ez_I h388 56 (6 * k.toInt + 0).toNat).toInt = x291.toInt := (by rw [k391 _ (by omega)]; exact A378)
        have A412 : (ez_I h388 56 (6 * k.toInt + 2).toNat).toInt = ((ez_I h 52 11)).toInt := (by rw [k391 _ (by omega)]; exact A379)
        have A413 : (ez_I h388 56 (6 * k.toInt + 3).toNat).toInt = x122.toInt := (by rw [k391 _ (by omega)]; exact A380)
        have A414 : (ez_I h388 56 (6 * k.toInt + 4).toNat).toInt = x109.toInt := (by rw [k390])
        have A415 : (∀ j : Nat, (¬ (6 * k.toInt ≤ (j : Int) ∧ (j : Int) < 6 * k.toInt + 6) ∨ j = (6 * k.toInt + 1).toNat) → ez_I h388 56 j = ez_I h 56 j) := (fun j hj => (k391 j (by omega)).trans (A381 j hj))
        refine gw_ld rfl rfl ?_
        refine z_gR (q := 55) (zT S392 (by decide) rfl) (zRf S392 (by decide) (by decide) rfl) (by decide) ?_
        refine gw_ld rfl rfl ?_
        refine z_C (m := 5) rfl rfl (fun x416 ex416 => ?_)
        refine gw_ld rfl rfl ?_
        have t417 := congrArg Int32.toInt (f394)
        have t418 := congrArg Int32.toInt (f395)
        have t419 := congrArg Int32.toInt (f396)
        have t420 := congrArg Int32.toInt (f397)
        have t421 := congrArg Int32.toInt (f398)
        refine z_cl rfl rfl rfl rfl rfl rfl rfl rfl rfl rfl rfl (zT S392 (by decide) rfl) ?_
        refine c_note (k := k) (w := x416) (v := x97) S392 (by rw [(show ez_I h388 55 2 = ez_I h 55 2 from zW_f F393 (by decide) (by decide))]; omega) (by omega) (fun h422 F423 k424 k425 => ?_)
        rw [show (6 * k.toInt + x416.toInt).toNat = (6 * k.toInt + 5).toNat by omega] at k424 k425
        have S426 := zW_sh F423 S392
        have F427 := zW_tr F393 (zW_mono F423 (x41_2) (x41_17) (x41_18))
        have f428 : ez_I h422 61 1 = (ez_I h54 61 1) := (zW_f F423 (by decide) (fun c => c)).trans (f394)
        have f429 : ez_I h422 61 2 = (ez_I h54 61 2) := (zW_f F423 (by decide) (fun c => c)).trans (f395)
        have f430 : ez_I h422 61 5 = (ez_I h54 61 5) := (zW_f F423 (by decide) (fun c => c)).trans (f396)
        have f431 : ez_I h422 61 7 = (ez_I h54 61 7) := (zW_f F423 (by decide) (fun c => c)).trans (f397)
        have f432 : ez_I h422 43 4 = (ez_I h54 43 4) := (zW_f F423 (by decide) (fun c => c)).trans (f398)
        have A433 : (∀ k, k < 288 → nL (ez_I h422 30) k = LNf cl 286 15 k) := by rw [zW_fn F423 30 (by decide) (fun _ c => c)]; exact A399
        have A434 : aR (ez_I h422 30) 288 0 15 := by rw [zW_fn F423 30 (by decide) (fun _ c => c)]; exact A400
        have A435 : (∀ k, k < 286 → 1 ≤ cl k → 1 ≤ nL (ez_I h422 30) k) := by rw [zW_fn F423 30 (by decide) (fun _ c => c)]; exact A401
        have A436 : (∀ k, k < 288 → nL (ez_I h422 37) k = LNf cd 30 15 k) := by rw [zW_fn F423 37 (by decide) (fun _ c => c)]; exact A402
        have A437 : aR (ez_I h422 37) 288 0 15 := by rw [zW_fn F423 37 (by decide) (fun _ c => c)]; exact A403
        have A438 : (∀ k, k < 30 → 1 ≤ cd k → 1 ≤ nL (ez_I h422 37) k) := by rw [zW_fn F423 37 (by decide) (fun _ c => c)]; exact A404
        have A439 : (∀ k, k < 30 → cd k = 0 → nL (ez_I h422 37) k = 0) := by rw [zW_fn F423 37 (by decide) (fun _ c => c)]; exact A405
        have A440 : (∀ k, k < 288 → nL (ez_I h422 37) k = LDx cd k) := by rw [zW_fn F423 37 (by decide) (fun _ c => c)]; exact A406
        have A441 : aR (ez_I h422 37) 288 0 15 := by rw [zW_fn F423 37 (by decide) (fun _ c => c)]; exact A407
        have A442 : (∀ k, k < 30 → 1 ≤ cd k → 1 ≤ nL (ez_I h422 37) k) := by rw [zW_fn F423 37 (by decide) (fun _ c => c)]; exact A408
        have A443 : plP (ez_I h422 61) (ez_I h422 63) (ez_I h422 64) (ez_I h422 44) (ez_I h422 45) (nL (ez_I h422 30)) (nL (ez_I h422 37)) c57 := by rw [zW_fn F423 61 (by decide) (fun _ c => c), zW_fn F423 63 (by decide) (fun _ c => c), zW_fn F423 64 (by decide) (fun _ c => c), zW_fn F423 44 (by decide) (fun _ c => c), zW_fn F423 45 (by decide) (fun _ c => c), zW_fn F423 30 (by decide) (fun _ c => c), zW_fn F423 37 (by decide) (fun _ c => c)]; exact A409
        have A444 : x55.toInt = (hdB (nL (ez_I h422 30)) (nL (ez_I h422 37)) c57 : Nat) := by rw [zW_fn F423 30 (by decide) (fun _ c => c), zW_fn F423 37 (by decide) (fun _ c => c)]; exact A410
        clear A399
        clear A400
        clear A401
        clear A402
        clear A403
        clear A404
        clear A405
        clear A406
        clear A407
        clear A408
        clear A409
        clear A410
        have A445 : (ez_I h422 56 (6 * k.toInt + 0).toNat).toInt = x291.toInt := (by rw [k425 _ (by omega)]; exact A411)
        have A446 : (ez_I h422 56 (6 * k.toInt + 2).toNat).toInt = ((ez_I h 52 11)).toInt := (by rw [k425 _ (by omega)]; exact A412)
        have A447 : (ez_I h422 56 (6 * k.toInt + 3).toNat).toInt = x122.toInt := (by rw [k425 _ (by omega)]; exact A413)
        have A448 : (ez_I h422 56 (6 * k.toInt + 4).toNat).toInt = x109.toInt := (by rw [k425 _ (by omega)]; exact A414)
        have A449 : (ez_I h422 56 (6 * k.toInt + 5).toNat).toInt = x97.toInt := (by rw [k424])
        have A450 : (∀ j : Nat, (¬ (6 * k.toInt ≤ (j : Int) ∧ (j : Int) < 6 * k.toInt + 6) ∨ j = (6 * k.toInt + 1).toNat) → ez_I h422 56 j = ez_I h 56 j) := (fun j hj => (k425 j (by omega)).trans (A415 j hj))
        refine z_rv ?_
        have t451 := congrArg Int32.toInt (f428)
        have t452 := congrArg Int32.toInt (f429)
        have t453 := congrArg Int32.toInt (f430)
        have t454 := congrArg Int32.toInt (f431)
        have t455 := congrArg Int32.toInt (f432)
        have K2 := K _ F427 c57
        have hDY : x97.toInt = (3 + (hdB (nL (ez_I h422 30)) (nL (ez_I h422 37)) c57 : Nat) + (ez_I h 52 10).toInt + (sN (fun i => cd i * LNf cd 30 15 i) 30 : Nat) + (sN (fun i => cl i * LNf cl 286 15 i) 286 : Nat)) := by have := A444; omega
        have hFI : x109.toInt = (3 + (ez_I h 52 10).toInt + (sN (fun i => cl i * fxL i) 286 : Nat) + (sN (fun i => cd i * fxD i) 30 : Nat)) := by omega
        have hST : x120.toInt = (3 + (-((ez_I h 68 2).toInt + 3)) % 8 + 32 + 8 * (ez_I h 52 11).toInt) := by omega
        rw [← hDY, ← hFI, ← hST] at K2
        exact K2 A443 A433 A434 A435 A440 A441 A442 ⟨by rw [A449], by rw [A448], by rw [A446], by rw [A447]; split <;> (try split) <;> omega, by rw [A445]; split <;> (try split) <;> omega⟩ A450
    · have c124 : ¬ (x122.toInt ≠ x120.toInt) := c124
      refine z_C (m := 0) rfl rfl (fun x456 ex456 => ?_)
      refine z_go ?_
      refine gw_skip _ ?_
      refine z_cl rfl rfl rfl rfl rfl rfl rfl rfl rfl rfl rfl (zT S70 (by decide) rfl) ?_
      refine c_note (k := k) (w := x123) (v := x456) S70 (by rw [(show ez_I h54 55 2 = ez_I h 55 2 from zW_f F71 (by decide) (by decide))]; omega) (by omega) (fun h457 F458 k459 k460 => ?_)
      rw [show (6 * k.toInt + x123.toInt).toNat = (6 * k.toInt + 0).toNat by omega] at k459 k460
      have S461 := zW_sh F458 S70
      have F462 := zW_tr F71 (zW_mono F458 (x41_2) (x41_17) (x41_18))
      have f463 : ez_I h457 61 1 = (ez_I h54 61 1) := (zW_f F458 (by decide) (fun c => c)).trans (rfl)
      have f464 : ez_I h457 61 2 = (ez_I h54 61 2) := (zW_f F458 (by decide) (fun c => c)).trans (rfl)
      have f465 : ez_I h457 61 5 = (ez_I h54 61 5) := (zW_f F458 (by decide) (fun c => c)).trans (rfl)
      have f466 : ez_I h457 61 7 = (ez_I h54 61 7) := (zW_f F458 (by decide) (fun c => c)).trans (rfl)
      have f467 : ez_I h457 43 4 = (ez_I h54 43 4) := (zW_f F458 (by decide) (fun c => c)).trans (rfl)
      have A468 : (∀ k, k < 288 → nL (ez_I h457 30) k = LNf cl 286 15 k) := by rw [zW_fn F458 30 (by decide) (fun _ c => c)]; exact A78
      have A469 : aR (ez_I h457 30) 288 0 15 := by rw [zW_fn F458 30 (by decide) (fun _ c => c)]; exact A79
      have A470 : (∀ k, k < 286 → 1 ≤ cl k → 1 ≤ nL (ez_I h457 30) k) := by rw [zW_fn F458 30 (by decide) (fun _ c => c)]; exact A80
      have A471 : (∀ k, k < 288 → nL (ez_I h457 37) k = LNf cd 30 15 k) := by rw [zW_fn F458 37 (by decide) (fun _ c => c)]; exact A81
      have A472 : aR (ez_I h457 37) 288 0 15 := by rw [zW_fn F458 37 (by decide) (fun _ c => c)]; exact A82
      have A473 : (∀ k, k < 30 → 1 ≤ cd k → 1 ≤ nL (ez_I h457 37) k) := by rw [zW_fn F458 37 (by decide) (fun _ c => c)]; exact A83
      have A474 : (∀ k, k < 30 → cd k = 0 → nL (ez_I h457 37) k = 0) := by rw [zW_fn F458 37 (by decide) (fun _ c => c)]; exact A84
      have A475 : (∀ k, k < 288 → nL (ez_I h457 37) k = LDx cd k) := by rw [zW_fn F458 37 (by decide) (fun _ c => c)]; exact A85
      have A476 : aR (ez_I h457 37) 288 0 15 := by rw [zW_fn F458 37 (by decide) (fun _ c => c)]; exact A86
      have A477 : (∀ k, k < 30 → 1 ≤ cd k → 1 ≤ nL (ez_I h457 37) k) := by rw [zW_fn F458 37 (by decide) (fun _ c => c)]; exact A87
      have A478 : plP (ez_I h457 61) (ez_I h457 63) (ez_I h457 64) (ez_I h457 44) (ez_I h457 45) (nL (ez_I h457 30)) (nL (ez_I h457 37)) c57 := by rw [zW_fn F458 61 (by decide) (fun _ c => c), zW_fn F458 63 (by decide) (fun _ c => c), zW_fn F458 64 (by decide) (fun _ c => c), zW_fn F458 44 (by decide) (fun _ c => c), zW_fn F458 45 (by decide) (fun _ c => c), zW_fn F458 30 (by decide) (fun _ c => c), zW_fn F458 37 (by decide) (fun _ c => c)]; exact hpl
      have A479 : x55.toInt = (hdB (nL (ez_I h457 30)) (nL (ez_I h457 37)) c57 : Nat) := by rw [zW_fn F458 30 (by decide) (fun _ c => c), zW_fn F458 37 (by decide) (fun _ c => c)]; exact (by rw [e30, e37]; exact hhb)
      clear A78
      clear A79
      clear A80
      clear A81
      clear A82
      clear A83
      clear A84
      clear A85
      clear A86
      clear A87
      have A480 : (ez_I h457 56 (6 * k.toInt + 0).toNat).toInt = x456.toInt := (by rw [k459])
      have A481 : (∀ j : Nat, (¬ (6 * k.toInt ≤ (j : Int) ∧ (j : Int) < 6 * k.toInt + 6) ∨ j = (6 * k.toInt + 1).toNat) → ez_I h457 56 j = ez_I h 56 j) := (fun j hj => (k460 j (by omega)).trans (congrFun A77 j))
      refine gw_ld rfl rfl ?_
      refine z_gR (q := 55) (zT S461 (by decide) rfl) (zRf S461 (by decide) (by decide) rfl) (by decide) ?_
      refine gw_ld rfl rfl ?_
      refine z_C (m := 2) rfl rfl (fun x482 ex482 => ?_)
      refine gw_ld rfl rfl ?_
      refine z_gI2 (by decide) (zT S461 (by decide) rfl) (zW_f F462 (by decide) (by decide)) ?_
      have t483 := congrArg Int32.toInt (f463)
      have t484 := congrArg Int32.toInt (f464)
      have t485 := congrArg Int32.toInt (f465)
      have t486 := congrArg Int32.toInt (f466)
      have t487 := congrArg Int32.toInt (f467)
      refine z_cl rfl rfl rfl rfl rfl rfl rfl rfl rfl rfl rfl (zT S461 (by decide) rfl) ?_
      refine c_note (k := k) (w := x482) (v := (ez_I h 52 11)) S461 (by rw [(show ez_I h457 55 2 = ez_I h 55 2 from zW_f F462 (by decide) (by decide))]; omega) (by omega) (fun h488 F489 k490 k491 => ?_)
      rw [show (6 * k.toInt + x482.toInt).toNat = (6 * k.toInt + 2).toNat by omega] at k490 k491
      have S492 := zW_sh F489 S461
      have F493 := zW_tr F462 (zW_mono F489 (x41_2) (x41_17) (x41_18))
      have f494 : ez_I h488 61 1 = (ez_I h54 61 1) := (zW_f F489 (by decide) (fun c => c)).trans (f463)
      have f495 : ez_I h488 61 2 = (ez_I h54 61 2) := (zW_f F489 (by decide) (fun c => c)).trans (f464)
      have f496 : ez_I h488 61 5 = (ez_I h54 61 5) := (zW_f F489 (by decide) (fun c => c)).trans (f465)
      have f497 : ez_I h488 61 7 = (ez_I h54 61 7) := (zW_f F489 (by decide) (fun c => c)).trans (f466)
      have f498 : ez_I h488 43 4 = (ez_I h54 43 4) := (zW_f F489 (by decide) (fun c => c)).trans (f467)
      have A499 : (∀ k, k < 288 → nL (ez_I h488 30) k = LNf cl 286 15 k) := by rw [zW_fn F489 30 (by decide) (fun _ c => c)]; exact A468
      have A500 : aR (ez_I h488 30) 288 0 15 := by rw [zW_fn F489 30 (by decide) (fun _ c => c)]; exact A469
      have A501 : (∀ k, k < 286 → 1 ≤ cl k → 1 ≤ nL (ez_I h488 30) k) := by rw [zW_fn F489 30 (by decide) (fun _ c => c)]; exact A470
      have A502 : (∀ k, k < 288 → nL (ez_I h488 37) k = LNf cd 30 15 k) := by rw [zW_fn F489 37 (by decide) (fun _ c => c)]; exact A471
      have A503 : aR (ez_I h488 37) 288 0 15 := by rw [zW_fn F489 37 (by decide) (fun _ c => c)]; exact A472
      have A504 : (∀ k, k < 30 → 1 ≤ cd k → 1 ≤ nL (ez_I h488 37) k) := by rw [zW_fn F489 37 (by decide) (fun _ c => c)]; exact A473
      have A505 : (∀ k, k < 30 → cd k = 0 → nL (ez_I h488 37) k = 0) := by rw [zW_fn F489 37 (by decide) (fun _ c => c)]; exact A474
      have A506 : (∀ k, k < 288 → nL (ez_I h488 37) k = LDx cd k) := by rw [zW_fn F489 37 (by decide) (fun _ c => c)]; exact A475
      have A507 : aR (ez_I h488 37) 288 0 15 := by rw [zW_fn F489 37 (by decide) (fun _ c => c)]; exact A476
      have A508 : (∀ k, k < 30 → 1 ≤ cd k → 1 ≤ nL (ez_I h488 37) k) := by rw [zW_fn F489 37 (by decide) (fun _ c => c)]; exact A477
      have A509 : plP (ez_I h488 61) (ez_I h488 63) (ez_I h488 64) (ez_I h488 44) (ez_I h488 45) (nL (ez_I h488 30)) (nL (ez_I h488 37)) c57 := by rw [zW_fn F489 61 (by decide) (fun _ c => c), zW_fn F489 63 (by decide) (fun _ c => c), zW_fn F489 64 (by decide) (fun _ c => c), zW_fn F489 44 (by decide) (fun _ c => c), zW_fn F489 45 (by decide) (fun _ c => c), zW_fn F489 30 (by decide) (fun _ c => c), zW_fn F489 37 (by decide) (fun _ c => c)]; exact A478
      have A510 : x55.toInt = (hdB (nL (ez_I h488 30)) (nL (ez_I h488 37)) c57 : Nat) := by rw [zW_fn F489 30 (by decide) (fun _ c => c), zW_fn F489 37 (by decide) (fun _ c => c)]; exact A479
      clear A468
      clear A469
      clear A470
      clear A471
      clear A472
      clear A473
      clear A474
      clear A475
      clear A476
      clear A477
      clear A478
      clear A479
      have A511 : (ez_I h488 56 (6 * k.toInt + 0).toNat).toInt = x456.toInt := (by rw [k491 _ (by omega)]; exact A480)
      have A512 : (ez_I h488 56 (6 * k.toInt + 2).toNat).toInt = ((ez_I h 52 11)).toInt := (by rw [k490])
      have A513 : (∀ j : Nat, (¬ (6 * k.toInt ≤ (j : Int) ∧ (j : Int) < 6 * k.toInt + 6) ∨ j = (6 * k.toInt + 1).toNat) → ez_I h488 56 j = ez_I h 56 j) := (fun j hj => (k491 j (by omega)).trans (A481 j hj))
      refine gw_ld rfl rfl ?_
      refine z_gR (q := 55) (zT S492 (by decide) rfl) (zRf S492 (by decide) (by decide) rfl) (by decide) ?_
      refine gw_ld rfl rfl ?_
      refine z_C (m := 3) rfl rfl (fun x514 ex514 => ?_)
      refine gw_ld rfl rfl ?_
      have t515 := congrArg Int32.toInt (f494)
      have t516 := congrArg Int32.toInt (f495)
      have t517 := congrArg Int32.toInt (f496)
      have t518 := congrArg Int32.toInt (f497)
      have t519 := congrArg Int32.toInt (f498)
      refine z_cl rfl rfl rfl rfl rfl rfl rfl rfl rfl rfl rfl (zT S492 (by decide) rfl) ?_
      refine c_note (k := k) (w := x514) (v := x122) S492 (by rw [(show ez_I h488 55 2 = ez_I h 55 2 from zW_f F493 (by decide) (by decide))]; omega) (by omega) (fun h520 F521 k522 k523 => ?_)
      rw [show (6 * k.toInt + x514.toInt).toNat = (6 * k.toInt + 3).toNat by omega] at k522 k523
      have S524 := zW_sh F521 S492
      have F525 := zW_tr F493 (zW_mono F521 (x41_2) (x41_17) (x41_18))
      have f526 : ez_I h520 61 1 = (ez_I h54 61 1) := (zW_f F521 (by decide) (fun c => c)).trans (f494)
      have f527 : ez_I h520 61 2 = (ez_I h54 61 2) := (zW_f F521 (by decide) (fun c => c)).trans (f495)
      have f528 : ez_I h520 61 5 = (ez_I h54 61 5) := (zW_f F521 (by decide) (fun c => c)).trans (f496)
      have f529 : ez_I h520 61 7 = (ez_I h54 61 7) := (zW_f F521 (by decide) (fun c => c)).trans (f497)
      have f530 : ez_I h520 43 4 = (ez_I h54 43 4) := (zW_f F521 (by decide) (fun c => c)).trans (f498)
      have A531 : (∀ k, k < 288 → nL (ez_I h520 30) k = LNf cl 286 15 k) := by rw [zW_fn F521 30 (by decide) (fun _ c => c)]; exact A499
      have A532 : aR (ez_I h520 30) 288 0 15 := by rw [zW_fn F521 30 (by decide) (fun _ c => c)]; exact A500
      have A533 : (∀ k, k < 286 → 1 ≤ cl k → 1 ≤ nL (ez_I h520 30) k) := by rw [zW_fn F521 30 (by decide) (fun _ c => c)]; exact A501
      have A534 : (∀ k, k < 288 → nL (ez_I h520 37) k = LNf cd 30 15 k) := by rw [zW_fn F521 37 (by decide) (fun _ c => c)]; exact A502
      have A535 : aR (ez_I h520 37) 288 0 15 := by rw [zW_fn F521 37 (by decide) (fun _ c => c)]; exact A503
      have A536 : (∀ k, k < 30 → 1 ≤ cd k → 1 ≤ nL (ez_I h520 37) k) := by rw [zW_fn F521 37 (by decide) (fun _ c => c)]; exact A504
      have A537 : (∀ k, k < 30 → cd k = 0 → nL (ez_I h520 37) k = 0) := by rw [zW_fn F521 37 (by decide) (fun _ c => c)]; exact A505
      have A538 : (∀ k, k < 288 → nL (ez_I h520 37) k = LDx cd k) := by rw [zW_fn F521 37 (by decide) (fun _ c => c)]; exact A506
      have A539 : aR (ez_I h520 37) 288 0 15 := by rw [zW_fn F521 37 (by decide) (fun _ c => c)]; exact A507
      have A540 : (∀ k, k < 30 → 1 ≤ cd k → 1 ≤ nL (ez_I h520 37) k) := by rw [zW_fn F521 37 (by decide) (fun _ c => c)]; exact A508
      have A541 : plP (ez_I h520 61) (ez_I h520 63) (ez_I h520 64) (ez_I h520 44) (ez_I h520 45) (nL (ez_I h520 30)) (nL (ez_I h520 37)) c57 := by rw [zW_fn F521 61 (by decide) (fun _ c => c), zW_fn F521 63 (by decide) (fun _ c => c), zW_fn F521 64 (by decide) (fun _ c => c), zW_fn F521 44 (by decide) (fun _ c => c), zW_fn F521 45 (by decide) (fun _ c => c), zW_fn F521 30 (by decide) (fun _ c => c), zW_fn F521 37 (by decide) (fun _ c => c)]; exact A509
      have A542 : x55.toInt = (hdB (nL (ez_I h520 30)) (nL (ez_I h520 37)) c57 : Nat) := by rw [zW_fn F521 30 (by decide) (fun _ c => c), zW_fn F521 37 (by decide) (fun _ c => c)]; exact A510
      clear A499
      clear A500
      clear A501
      clear A502
      clear A503
      clear A504
      clear A505
      clear A506
      clear A507
      clear A508
      clear A509
      clear A510
      have A543 : (ez_I h520 56 (6 * k.toInt + 0).toNat).toInt = x456.toInt := (by rw [k523 _ (by omega)]; exact A511)
      have A544 : (ez_I h520 56 (6 * k.toInt + 2).toNat).toInt = ((ez_I h 52 11)).toInt := (by rw [k523 _ (by omega)]; exact A512)
      have A545 : (ez_I h520 56 (6 * k.toInt + 3).toNat).toInt = x122.toInt := (by rw [k522])
      have A546 : (∀ j : Nat, (¬ (6 * k.toInt ≤ (j : Int) ∧ (j : Int) < 6 * k.toInt + 6) ∨ j = (6 * k.toInt + 1).toNat) → ez_I h520 56 j = ez_I h 56 j) := (fun j hj => (k523 j (by omega)).trans (A513 j hj))
      refine gw_ld rfl rfl ?_
      refine z_gR (q := 55) (zT S524 (by decide) rfl) (zRf S524 (by decide) (by decide) rfl) (by decide) ?_
      refine gw_ld rfl rfl ?_
      refine z_C (m := 4) rfl rfl (fun x547 ex547 => ?_)
      refine gw_ld rfl rfl ?_
      have t548 := congrArg Int32.toInt (f526)
      have t549 := congrArg Int32.toInt (f527)
      have t550 := congrArg Int32.toInt (f528)
      have t551 := congrArg Int32.toInt (f529)
      have t552 := congrArg Int32.toInt (f530)
      refine z_cl rfl rfl rfl rfl rfl rfl rfl rfl rfl rfl rfl (zT S524 (by decide) rfl) ?_
      refine c_note (k := k) (w := x547) (v := x109) S524 (by rw [(show ez_I h520 55 2 = ez_I h 55 2 from zW_f F525 (by decide) (by decide))]; omega) (by omega) (fun h553 F554 k555 k556 => ?_)
      rw [show (6 * k.toInt + x547.toInt).toNat = (6 * k.toInt + 4).toNat by omega] at k555 k556
      have S557 := zW_sh F554 S524
      have F558 := zW_tr F525 (zW_mono F554 (x41_2) (x41_17) (x41_18))
      have f559 : ez_I h553 61 1 = (ez_I h54 61 1) := (zW_f F554 (by decide) (fun c => c)).trans (f526)
      have f560 : ez_I h553 61 2 = (ez_I h54 61 2) := (zW_f F554 (by decide) (fun c => c)).trans (f527)
      have f561 : ez_I h553 61 5 = (ez_I h54 61 5) := (zW_f F554 (by decide) (fun c => c)).trans (f528)
      have f562 : ez_I h553 61 7 = (ez_I h54 61 7) := (zW_f F554 (by decide) (fun c => c)).trans (f529)
      have f563 : ez_I h553 43 4 = (ez_I h54 43 4) := (zW_f F554 (by decide) (fun c => c)).trans (f530)
      have A564 : (∀ k, k < 288 → nL (ez_I h553 30) k = LNf cl 286 15 k) := by rw [zW_fn F554 30 (by decide) (fun _ c => c)]; exact A531
      have A565 : aR (ez_I h553 30) 288 0 15 := by rw [zW_fn F554 30 (by decide) (fun _ c => c)]; exact A532
      have A566 : (∀ k, k < 286 → 1 ≤ cl k → 1 ≤ nL (ez_I h553 30) k) := by rw [zW_fn F554 30 (by decide) (fun _ c => c)]; exact A533
      have A567 : (∀ k, k < 288 → nL (ez_I h553 37) k = LNf cd 30 15 k) := by rw [zW_fn F554 37 (by decide) (fun _ c => c)]; exact A534
      have A568 : aR (ez_I h553 37) 288 0 15 := by rw [zW_fn F554 37 (by decide) (fun _ c => c)]; exact A535
      have A569 : (∀ k, k < 30 → 1 ≤ cd k → 1 ≤ nL (ez_I h553 37) k) := by rw [zW_fn F554 37 (by decide) (fun _ c => c)]; exact A536
      have A570 : (∀ k, k < 30 → cd k = 0 → nL (ez_I h553 37) k = 0) := by rw [zW_fn F554 37 (by decide) (fun _ c => c)]; exact A537
      have A571 : (∀ k, k < 288 → nL (ez_I h553 37) k = LDx cd k) := by rw [zW_fn F554 37 (by decide) (fun _ c => c)]; exact A538
      have A572 : aR (ez_I h553 37) 288 0 15 := by rw [zW_fn F554 37 (by decide) (fun _ c => c)]; exact A539
      have A573 : (∀ k, k < 30 → 1 ≤ cd k → 1 ≤ nL (ez_I h553 37) k) := by rw [zW_fn F554 37 (by decide) (fun _ c => c)]; exact A540
      have A574 : plP (ez_I h553 61) (ez_I h553 63) (ez_I h553 64) (ez_I h553 44) (ez_I h553 45) (nL (ez_I h553 30)) (nL (ez_I h553 37)) c57 := by rw [zW_fn F554 61 (by decide) (fun _ c => c), zW_fn F554 63 (by decide) (fun _ c => c), zW_fn F554 64 (by decide) (fun _ c => c), zW_fn F554 44 (by decide) (fun _ c => c), zW_fn F554 45 (by decide) (fun _ c => c), zW_fn F554 30 (by decide) (fun _ c => c), zW_fn F554 37 (by decide) (fun _ c => c)]; exact A541
      have A575 : x55.toInt = (hdB (nL (ez_I h553 30)) (nL (ez_I h553 37)) c57 : Nat) := by rw [zW_fn F554 30 (by decide) (fun _ c => c), zW_fn F554 37 (by decide) (fun _ c => c)]; exact A542
      clear A531
      clear A532
      clear A533
      clear A534
      clear A535
      clear A536
      clear A537
      clear A538
      clear A539
      clear A540
      clear A541
      clear A542
      have A576 : (ez_I h553 56 (6 * k.toInt + 0).toNat).toInt = x456.toInt := (by rw [k556 _ (by omega)]; exact A543)
      have A577 : (ez_I h553 56 (6 * k.toInt + 2).toNat).toInt = ((ez_I h 52 11)).toInt := (by rw [k556 _ (by omega)]; exact A544)
      have A578 : (ez_I h553 56 (6 * k.toInt + 3).toNat).toInt = x122.toInt := (by rw [k556 _ (by omega)]; exact A545)
      have A579 : (ez_I h553 56 (6 * k.toInt + 4).toNat).toInt = x109.toInt := (by rw [k555])
      have A580 : (∀ j : Nat, (¬ (6 * k.toInt ≤ (j : Int) ∧ (j : Int) < 6 * k.toInt + 6) ∨ j = (6 * k.toInt + 1).toNat) → ez_I h553 56 j = ez_I h 56 j) := (fun j hj => (k556 j (by omega)).trans (A546 j hj))
      refine gw_ld rfl rfl ?_
      refine z_gR (q := 55) (zT S557 (by decide) rfl) (zRf S557 (by decide) (by decide) rfl) (by decide) ?_
      refine gw_ld rfl rfl ?_
      refine z_C (m := 5) rfl rfl (fun x581 ex581 => ?_)
      refine gw_ld rfl rfl ?_
      have t582 := congrArg Int32.toInt (f559)
      have t583 := congrArg Int32.toInt (f560)
      have t584 := congrArg Int32.toInt (f561)
      have t585 := congrArg Int32.toInt (f562)
      have t586 := congrArg Int32.toInt (f563)
      refine z_cl rfl rfl rfl rfl rfl rfl rfl rfl rfl rfl rfl (zT S557 (by decide) rfl) ?_
      refine c_note (k := k) (w := x581) (v := x97) S557 (by rw [(show ez_I h553 55 2 = ez_I h 55 2 from zW_f F558 (by decide) (by decide))]; omega) (by omega) (fun h587 F588 k589 k590 => ?_)
      rw [show (6 * k.toInt + x581.toInt).toNat = (6 * k.toInt + 5).toNat by omega] at k589 k590
      have S591 := zW_sh F588 S557
      have F592 := zW_tr F558 (zW_mono F588 (x41_2) (x41_17) (x41_18))
      have f593 : ez_I h587 61 1 = (ez_I h54 61 1) := (zW_f F588 (by decide) (fun c => c)).trans (f559)
      have f594 : ez_I h587 61 2 = (ez_I h54 61 2) := (zW_f F588 (by decide) (fun c => c)).trans (f560)
      have f595 : ez_I h587 61 5 = (ez_I h54 61 5) := (zW_f F588 (by decide) (fun c => c)).trans (f561)
      have f596 : ez_I h587 61 7 = (ez_I h54 61 7) := (zW_f F588 (by decide) (fun c => c)).trans (f562)
      have f597 : ez_I h587 43 4 = (ez_I h54 43 4) := (zW_f F588 (by decide) (fun c => c)).trans (f563)
      have A598 : (∀ k, k < 288 → nL (ez_I h587 30) k = LNf cl 286 15 k) := by rw [zW_fn F588 30 (by decide) (fun _ c => c)]; exact A564
      have A599 : aR (ez_I h587 30) 288 0 15 := by rw [zW_fn F588 30 (by decide) (fun _ c => c)]; exact A565
      have A600 : (∀ k, k < 286 → 1 ≤ cl k → 1 ≤ nL (ez_I h587 30) k) := by rw [zW_fn F588 30 (by decide) (fun _ c => c)]; exact A566
      have A601 : (∀ k, k < 288 → nL (ez_I h587 37) k = LNf cd 30 15 k) := by rw [zW_fn F588 37 (by decide) (fun _ c => c)]; exact A567
      have A602 : aR (ez_I h587 37) 288 0 15 := by rw [zW_fn F588 37 (by decide) (fun _ c => c)]; exact A568
      have A603 : (∀ k, k < 30 → 1 ≤ cd k → 1 ≤ nL (ez_I h587 37) k) := by rw [zW_fn F588 37 (by decide) (fun _ c => c)]; exact A569
      have A604 : (∀ k, k < 30 → cd k = 0 → nL (ez_I h587 37) k = 0) := by rw [zW_fn F588 37 (by decide) (fun _ c => c)]; exact A570
      have A605 : (∀ k, k < 288 → nL (ez_I h587 37) k = LDx cd k) := by rw [zW_fn F588 37 (by decide) (fun _ c => c)]; exact A571
      have A606 : aR (ez_I h587 37) 288 0 15 := by rw [zW_fn F588 37 (by decide) (fun _ c => c)]; exact A572
      have A607 : (∀ k, k < 30 → 1 ≤ cd k → 1 ≤ nL (ez_I h587 37) k) := by rw [zW_fn F588 37 (by decide) (fun _ c => c)]; exact A573
      have A608 : plP (ez_I h587 61) (ez_I h587 63) (ez_I h587 64) (ez_I h587 44) (ez_I h587 45) (nL (ez_I h587 30)) (nL (ez_I h587 37)) c57 := by rw [zW_fn F588 61 (by decide) (fun _ c => c), zW_fn F588 63 (by decide) (fun _ c => c), zW_fn F588 64 (by decide) (fun _ c => c), zW_fn F588 44 (by decide) (fun _ c => c), zW_fn F588 45 (by decide) (fun _ c => c), zW_fn F588 30 (by decide) (fun _ c => c), zW_fn F588 37 (by decide) (fun _ c => c)]; exact A574
      have A609 : x55.toInt = (hdB (nL (ez_I h587 30)) (nL (ez_I h587 37)) c57 : Nat) := by rw [zW_fn F588 30 (by decide) (fun _ c => c), zW_fn F588 37 (by decide) (fun _ c => c)]; exact A575
      clear A564
      clear A565
      clear A566
      clear A567
      clear A568
      clear A569
      clear A570
      clear A571
      clear A572
      clear A573
      clear A574
      clear A575
      have A610 : (ez_I h587 56 (6 * k.toInt + 0).toNat).toInt = x456.toInt := (by rw [k590 _ (by omega)]; exact A576)
      have A611 : (ez_I h587 56 (6 * k.toInt + 2).toNat).toInt = ((ez_I h 52 11)).toInt := (by rw [k590 _ (by omega)]; exact A577)
      have A612 : (ez_I h587 56 (6 * k.toInt + 3).toNat).toInt = x122.toInt := (by rw [k590 _ (by omega)]; exact A578)
      have A613 : (ez_I h587 56 (6 * k.toInt + 4).toNat).toInt = x109.toInt := (by rw [k590 _ (by omega)]; exact A579)
      have A614 : (ez_I h587 56 (6 * k.toInt + 5).toNat).toInt = x97.toInt := (by rw [k589])
      have A615 : (∀ j : Nat, (¬ (6 * k.toInt ≤ (j : Int) ∧ (j : Int) < 6 * k.toInt + 6) ∨ j = (6 * k.toInt + 1).toNat) → ez_I h587 56 j = ez_I h 56 j) := (fun j hj => (k590 j (by omega)).trans (A580 j hj))
      refine z_rv ?_
      have t616 := congrArg Int32.toInt (f593)
      have t617 := congrArg Int32.toInt (f594)
      have t618 := congrArg Int32.toInt (f595)
      have t619 := congrArg Int32.toInt (f596)
      have t620 := congrArg Int32.toInt (f597)
      have K2 := K _ F592 c57
      have hDY : x97.toInt = (3 + (hdB (nL (ez_I h587 30)) (nL (ez_I h587 37)) c57 : Nat) + (ez_I h 52 10).toInt + (sN (fun i => cd i * LNf cd 30 15 i) 30 : Nat) + (sN (fun i => cl i * LNf cl 286 15 i) 286 : Nat)) := by have := A609; omega
      have hFI : x109.toInt = (3 + (ez_I h 52 10).toInt + (sN (fun i => cl i * fxL i) 286 : Nat) + (sN (fun i => cd i * fxD i) 30 : Nat)) := by omega
      have hST : x120.toInt = (3 + (-((ez_I h 68 2).toInt + 3)) % 8 + 32 + 8 * (ez_I h 52 11).toInt) := by omega
      rw [← hDY, ← hFI, ← hST] at K2
      exact K2 A608 A598 A599 A600 A605 A606 A607 ⟨by rw [A614], by rw [A613], by rw [A611], by rw [A612]; split <;> (try split) <;> omega, by rw [A610]; split <;> (try split) <;> omega⟩ A615
  · have c53 : ¬ (x50.toInt ≠ 0) := c53
    refine gw_ld rfl rfl ?_
    refine z_gR (q := 14) (zT S33 (by decide) rfl) (zRf S33 (by decide) (by decide) rfl) (by decide) ?_
    refine z_gR (q := 36) (zT S33 (by decide) rfl) (zRf S33 (by decide) (by decide) rfl) (by decide) ?_
    refine z_gR (q := 37) (zT S33 (by decide) rfl) (zRf S33 (by decide) (by decide) rfl) (by decide) ?_
    refine z_C (m := 0) rfl rfl (fun x621 ex621 => ?_)
    refine z_C (m := 1) rfl rfl (fun x622 ex622 => ?_)
    refine z_is (n := 288) (zT S33 (by decide) rfl) (zN S33 (by decide) rfl) (by omega) (fun h623 e624 => ?_)
    have S625 := zSh_set S33 e624
    have F626 := zW_setA F34 e624 (by decide)
    have f627 : ez_I h623 61 1 = (ez_I h 61 1) := (zI_ne e624 (by omega)).trans (f35)
    have f628 : ez_I h623 61 2 = (ez_I h 61 2) := (zI_ne e624 (by omega)).trans (f36)
    have f629 : ez_I h623 61 5 = (ez_I h 61 5) := (zI_ne e624 (by omega)).trans (f37)
    have f630 : ez_I h623 61 7 = (ez_I h 61 7) := (zI_ne e624 (by omega)).trans (f38)
    have f631 : ez_I h623 43 4 = (ez_I h 43 4) := (zI_ne e624 (by omega)).trans (f39)
    have A632 : ez_I h623 56 = ez_I h 56 := by rw [zI_fn e624 56 (by decide)]; exact A40
    have A633 : (∀ k, k < 288 → nL (ez_I h623 30) k = LNf cl 286 15 k) := by rw [zI_fn e624 30 (by decide)]; exact A41
    have A634 : aR (ez_I h623 30) 288 0 15 := by rw [zI_fn e624 30 (by decide)]; exact A42
    have A635 : (∀ k, k < 286 → 1 ≤ cl k → 1 ≤ nL (ez_I h623 30) k) := by rw [zI_fn e624 30 (by decide)]; exact A43
    have A636 : ((∀ k, k < 288 → nL (ez_I h623 37) k = LDx cd k) ∧ aR (ez_I h623 37) 288 0 15 ∧ (∀ k, k < 30 → 1 ≤ cd k → 1 ≤ nL (ez_I h623 37) k)) := LDx_1 lD1 lD2 lD4 (hz0.mp (by omega)) e624 (by omega) (by omega)
    clear A40
    clear A41
    clear A42
    clear A43
    refine gw_ld rfl rfl ?_
    refine z_gR (q := 61) (zT S625 (by decide) rfl) (zRf S625 (by decide) (by decide) rfl) (by decide) ?_
    refine gw_ld rfl rfl ?_
    refine z_gR (q := 14) (zT S625 (by decide) rfl) (zRf S625 (by decide) (by decide) rfl) (by decide) ?_
    refine gw_ld rfl rfl ?_
    refine z_gR (q := 9) (zT S625 (by decide) rfl) (zRf S625 (by decide) (by decide) rfl) (by decide) ?_
    have t637 := congrArg Int32.toInt (f627)
    have t638 := congrArg Int32.toInt (f628)
    have t639 := congrArg Int32.toInt (f629)
    have t640 := congrArg Int32.toInt (f630)
    have t641 := congrArg Int32.toInt (f631)
    refine z_cl rfl rfl rfl rfl rfl rfl rfl rfl rfl rfl rfl (zT S625 (by decide) rfl) ?_
    refine c_plan S625 hE A634 A636.2.1 (fun h642 x643 F644 c645 k646 k647 k648 k649 k650 k651 k652 k653 k654 k655 k656 k657 => ?_)
    have rx643 := z_rng x643
    have e30 : ez_I h642 30 = ez_I h623 30 := zW_fn F644 30 (by decide) (fun k c => by omega)
    have e37 : ez_I h642 37 = ez_I h623 37 := zW_fn F644 37 (by decide) (fun k c => by omega)
    have hro : tdM (fun k => nL (ez_I h642 44) (ORf k)) 4 15 = rowO (nL (ez_I h623 30)) (nL (ez_I h623 37)) c645 := tdM_congr 15 (fun j _ => k652 _ (by have := OR_lt (4 + j); omega))
    have hpl : plP (ez_I h642 61) (ez_I h642 63) (ez_I h642 64) (ez_I h642 44) (ez_I h642 45) (nL (ez_I h642 30)) (nL (ez_I h642 37)) c645 := by
      rw [e30, e37]
      exact ⟨k646, k647, k648, by rw [k656, hro], k649, k650, k651, k652, k653, k654, k655⟩
    have hhb : x643.toInt = (hdB (nL (ez_I h623 30)) (nL (ez_I h623 37)) c645 : Nat) := by
      rw [k657, sm_nat, k656, hro]
      unfold hdB rowA rowF rowM
      omega
    have hrb := tdM_rng (fun k => rowA (nL (ez_I h623 30)) (nL (ez_I h623 37)) c645 (ORf k)) 4 15
    have hck : c645 ≤ 316 := by have a := tp_k (f := rowF (nL (ez_I h623 30)) (nL (ez_I h623 37))) (N := rowM (nL (ez_I h623 30)) (nL (ez_I h623 37))) (fun j hj => row15 A634 A636.2.1 j hj) c645 k650; have b := tdM_rng (nL (ez_I h623 30)) 257 29; have d := tdM_rng (nL (ez_I h623 37)) 1 29; have e : rowM (nL (ez_I h623 30)) (nL (ez_I h623 37)) = tdM (nL (ez_I h623 30)) 257 29 + tdM (nL (ez_I h623 37)) 1 29 := rfl; omega
    have hhl : hdB (nL (ez_I h623 30)) (nL (ez_I h623 37)) c645 ≤ 100000 := hdB_le hck (fun k hk => by have a := k652 k (by omega); have b := k653 k (by omega); rw [← show nL (ez_I h642 44) k = rowA (nL (ez_I h623 30)) (nL (ez_I h623 37)) c645 k from a]; show (ez_I h642 44 k).toInt.toNat ≤ 7; omega)
    have S658 := zW_sh F644 S625
    have F659 := zW_tr F626 (zW_mono F644 (x41_8) (x41_9) (x41_4))
    have r660 := z_rng (ez_I h642 61 1)
    have r661 := z_rng (ez_I h642 61 2)
    have r662 := z_rng (ez_I h642 61 5)
    have r663 := z_rng (ez_I h642 61 7)
    have r664 := z_rng (ez_I h642 43 4)
    have A665 : ez_I h642 56 = ez_I h 56 := by rw [zW_fn F644 56 (by decide) (x41_10)]; exact A632
    have A666 : (∀ k, k < 288 → nL (ez_I h642 30) k = LNf cl 286 15 k) := by rw [zW_fn F644 30 (by decide) (x41_11)]; exact A633
    have A667 : aR (ez_I h642 30) 288 0 15 := by rw [zW_fn F644 30 (by decide) (x41_11)]; exact A634
    have A668 : (∀ k, k < 286 → 1 ≤ cl k → 1 ≤ nL (ez_I h642 30) k) := by rw [zW_fn F644 30 (by decide) (x41_11)]; exact A635
    have A669 : (∀ k, k < 288 → nL (ez_I h642 37) k = LDx cd k) := by rw [zW_fn F644 37 (by decide) (x41_12)]; exact A636.1
    have A670 : aR (ez_I h642 37) 288 0 15 := by rw [zW_fn F644 37 (by decide) (x41_12)]; exact A636.2.1
    have A671 : (∀ k, k < 30 → 1 ≤ cd k → 1 ≤ nL (ez_I h642 37) k) := by rw [zW_fn F644 37 (by decide) (x41_12)]; exact A636.2.2
    clear A632
    clear A633
    clear A634
    clear A635
    have hhx : 0 ≤ x643.toInt ∧ x643.toInt ≤ 100000 := by omega
    refine gw_st rfl rfl rfl ?_
    show ez_gw _ _ _ _ _ _ _ _ [some (.ref 52), some (.int k), some (.int x50), some (.int x643), none, none, none, none] _ _ _
    refine z_C (m := 3) rfl rfl (fun x672 ex672 => ?_)
    refine gw_ld rfl rfl ?_
    refine z_add (by omega) (fun x673 ex673 => ?_)
    refine gw_ld rfl rfl ?_
    have r674 := z_rng (ez_I h 52 10)
    refine z_gI2 (by decide) (zT S658 (by decide) rfl) (zW_f F659 (by decide) (by decide)) ?_
    refine z_add (by omega) (fun x675 ex675 => ?_)
    refine gw_ld rfl rfl ?_
    refine z_add (by omega) (fun x676 ex676 => ?_)
    refine gw_ld rfl rfl ?_
    refine z_gR (q := 66) (zT S658 (by decide) rfl) (zRf S658 (by decide) (by decide) rfl) (by decide) ?_
    refine gw_ld rfl rfl ?_
    refine z_gR (q := 14) (zT S658 (by decide) rfl) (zRf S658 (by decide) (by decide) rfl) (by decide) ?_
    refine z_gR (q := 29) (zT S658 (by decide) rfl) (zRf S658 (by decide) (by decide) rfl) (by decide) ?_
    refine z_gR (q := 30) (zT S658 (by decide) rfl) (zRf S658 (by decide) (by decide) rfl) (by decide) ?_
    refine z_C (m := 286) rfl rfl (fun x677 ex677 => ?_)
    refine z_cl rfl rfl rfl rfl rfl rfl rfl rfl rfl rfl rfl (trivial) ?_
    refine c_wsum (u := 66) (w := 30) (n := x677) (nu := 286) (nw := 288) S658 (fun _ S => ⟨zT S (by decide) rfl, zN S (by decide) rfl⟩) (fun _ S => ⟨zT S (by decide) rfl, zN S (by decide) rfl⟩) (by omega) (by rw [show x677.toInt.toNat = 286 by omega, (show ez_I h642 66 = ez_I h 66 from zW_fn F659 66 x41_0 x41_1)]; exact ctI_aR hcl (fun z => by have := hbcl z; omega)) (by rw [show x677.toInt.toNat = 286 by omega]; exact aR_le A667 (by omega)) (fun x678 k679 k680 => ?_)
    rw [show x677.toInt.toNat = 286 by omega, wsm_eq (c := cl) (L := LNf cl 286 15) (n := 286) (m := 288) (b := 15) (by rw [(show ez_I h642 66 = ez_I h 66 from zW_fn F659 66 x41_0 x41_1)]; exact hcl) A666 A667 (by omega)] at k679
    have rx678 := z_rng x678
    have bx678 : sN (fun i => cl i * LNf cl 286 15 i) 286 ≤ 601 * 15 * 286 := wsm_le (fun k _ => hbcl k) (fun k hk => by rw [← A666 k (by omega)]; have := A667 k (by omega); show (ez_I h642 30 k).toInt.toNat ≤ 15; omega)
    refine z_add (by omega) (fun x681 ex681 => ?_)
    refine gw_st rfl rfl rfl ?_
    show ez_gw _ _ _ _ _ _ _ _ [some (.ref 52), some (.int k), some (.int x50), some (.int x643), some (.int x681), none, none, none] _ _ _
    refine z_C (m := 3) rfl rfl (fun x682 ex682 => ?_)
    refine gw_ld rfl rfl ?_
    refine z_gI2 (by decide) (zT S658 (by decide) rfl) (zW_f F659 (by decide) (by decide)) ?_
    refine z_add (by omega) (fun x683 ex683 => ?_)
    refine gw_ld rfl rfl ?_
    refine z_gR (q := 66) (zT S658 (by decide) rfl) (zRf S658 (by decide) (by decide) rfl) (by decide) ?_
    refine gw_ld rfl rfl ?_
    refine z_gR (q := 14) (zT S658 (by decide) rfl) (zRf S658 (by decide) (by decide) rfl) (by decide) ?_
    refine z_gR (q := 15) (zT S658 (by decide) rfl) (zRf S658 (by decide) (by decide) rfl) (by decide) ?_
    refine z_gR (q := 16) (zT S658 (by decide) rfl) (zRf S658 (by decide) (by decide) rfl) (by decide) ?_
    refine z_C (m := 286) rfl rfl (fun x684 ex684 => ?_)
    refine z_cl rfl rfl rfl rfl rfl rfl rfl rfl rfl rfl rfl (trivial) ?_
    have hE16 : ∀ k, k < 288 → nL (ez_I h642 16) k = fxL k := fun k hk => by rw [(show ez_I h642 16 = ez_I h 16 from zW_fn F659 16 x41_13 x41_14)]; exact h16.1 k hk
    have hA16 : aR (ez_I h642 16) 288 0 15 := by rw [(show ez_I h642 16 = ez_I h 16 from zW_fn F659 16 x41_13 x41_14)]; exact h16.2
    refine c_wsum (u := 66) (w := 16) (n := x684) (nu := 286) (nw := 288) S658 (fun _ S => ⟨zT S (by decide) rfl, zN S (by decide) rfl⟩) (fun _ S => ⟨zT S (by decide) rfl, zN S (by decide) rfl⟩) (by omega) (by rw [show x684.toInt.toNat = 286 by omega, (show ez_I h642 66 = ez_I h 66 from zW_fn F659 66 x41_0 x41_1)]; exact ctI_aR hcl (fun z => by have := hbcl z; omega)) (by rw [show x684.toInt.toNat = 286 by omega]; exact aR_le hA16 (by omega)) (fun x685 k686 k687 => ?_)
    rw [show x684.toInt.toNat = 286 by omega, wsm_eq (c := cl) (L := fxL) (n := 286) (m := 288) (b := 15) (by rw [(show ez_I h642 66 = ez_I h 66 from zW_fn F659 66 x41_0 x41_1)]; exact hcl) hE16 hA16 (by omega)] at k686
    have rx685 := z_rng x685
    have bx685 : sN (fun i => cl i * fxL i) 286 ≤ 601 * 15 * 286 := wsm_le (fun k _ => hbcl k) (fun k hk => by rw [← hE16 k (by omega)]; have := hA16 k (by omega); show (ez_I h642 16 k).toInt.toNat ≤ 15; omega)
    refine z_add (by omega) (fun x688 ex688 => ?_)
    refine gw_ld rfl rfl ?_
    refine z_gR (q := 67) (zT S658 (by decide) rfl) (zRf S658 (by decide) (by decide) rfl) (by decide) ?_
    refine gw_ld rfl rfl ?_
    refine z_gR (q := 14) (zT S658 (by decide) rfl) (zRf S658 (by decide) (by decide) rfl) (by decide) ?_
    refine z_gR (q := 22) (zT S658 (by decide) rfl) (zRf S658 (by decide) (by decide) rfl) (by decide) ?_
    refine z_gR (q := 23) (zT S658 (by decide) rfl) (zRf S658 (by decide) (by decide) rfl) (by decide) ?_
    refine z_C (m := 30) rfl rfl (fun x689 ex689 => ?_)
    refine z_cl rfl rfl rfl rfl rfl rfl rfl rfl rfl rfl rfl (trivial) ?_
    have hE23 : ∀ k, k < 288 → nL (ez_I h642 23) k = fxD k := fun k hk => by rw [(show ez_I h642 23 = ez_I h 23 from zW_fn F659 23 x41_15 x41_16)]; exact h23.1 k hk
    have hA23 : aR (ez_I h642 23) 288 0 15 := by rw [(show ez_I h642 23 = ez_I h 23 from zW_fn F659 23 x41_15 x41_16)]; exact h23.2
    refine c_wsum (u := 67) (w := 23) (n := x689) (nu := 30) (nw := 288) S658 (fun _ S => ⟨zT S (by decide) rfl, zN S (by decide) rfl⟩) (fun _ S => ⟨zT S (by decide) rfl, zN S (by decide) rfl⟩) (by omega) (by rw [show x689.toInt.toNat = 30 by omega, (show ez_I h642 67 = ez_I h 67 from zW_fn F659 67 x41_5 x41_6)]; exact ctI_aR hcd (fun z => by have := hbcd z; omega)) (by rw [show x689.toInt.toNat = 30 by omega]; exact aR_le hA23 (by omega)) (fun x690 k691 k692 => ?_)
    rw [show x689.toInt.toNat = 30 by omega, wsm_eq (c := cd) (L := fxD) (n := 30) (m := 288) (b := 15) (by rw [(show ez_I h642 67 = ez_I h 67 from zW_fn F659 67 x41_5 x41_6)]; exact hcd) hE23 hA23 (by omega)] at k691
    have rx690 := z_rng x690
    have bx690 : sN (fun i => cd i * fxD i) 30 ≤ 601 * 15 * 30 := wsm_le (fun k _ => hbcd k) (fun k hk => by rw [← hE23 k (by omega)]; have := hA23 k (by omega); show (ez_I h642 23 k).toInt.toNat ≤ 15; omega)
    refine z_add (by omega) (fun x693 ex693 => ?_)
    refine gw_st rfl rfl rfl ?_
    show ez_gw _ _ _ _ _ _ _ _ [some (.ref 52), some (.int k), some (.int x50), some (.int x643), some (.int x681), some (.int x693), none, none] _ _ _
    refine z_C (m := 3) rfl rfl (fun x694 ex694 => ?_)
    refine gw_ld rfl rfl ?_
    refine z_gR (q := 68) (zT S658 (by decide) rfl) (zRf S658 (by decide) (by decide) rfl) (by decide) ?_
    refine z_C (m := 3) rfl rfl (fun x695 ex695 => ?_)
    refine z_cl rfl rfl rfl rfl rfl rfl rfl rfl rfl rfl rfl (zT S658 (by decide) rfl) ?_
    refine c_miss (m := x695) S658 (by rw [(show ez_I h642 68 2 = ez_I h 68 2 from zW_f F659 (by decide) (by decide))]; exact h7) (by omega) (fun x696 k697 => ?_)
    rw [(show ez_I h642 68 2 = ez_I h 68 2 from zW_f F659 (by decide) (by decide))] at k697
    have rx696 := z_rng x696
    refine z_add (by omega) (fun x698 ex698 => ?_)
    refine z_C (m := 32) rfl rfl (fun x699 ex699 => ?_)
    refine z_add (by omega) (fun x700 ex700 => ?_)
    refine z_C (m := 8) rfl rfl (fun x701 ex701 => ?_)
    refine gw_ld rfl rfl ?_
    have r702 := z_rng (ez_I h 52 11)
    refine z_gI2 (by decide) (zT S658 (by decide) rfl) (zW_f F659 (by decide) (by decide)) ?_
    refine z_mulL (c := 8) ex701 (by omega) (fun x703 ex703 => ?_)
    refine z_add (by omega) (fun x704 ex704 => ?_)
    refine gw_st rfl rfl rfl ?_
    show ez_gw _ _ _ _ _ _ _ _ [some (.ref 52), some (.int k), some (.int x50), some (.int x643), some (.int x681), some (.int x693), some (.int x704), none] _ _ _
    refine gw_ld rfl rfl ?_
    refine gw_ld rfl rfl ?_
    refine gw_ld rfl rfl ?_
    refine z_min rfl (fun x705 ex705 => ?_)
    refine z_min rfl (fun x706 ex706 => ?_)
    refine gw_st rfl rfl rfl ?_
    show ez_gw _ _ _ _ _ _ _ _ [some (.ref 52), some (.int k), some (.int x50), some (.int x643), some (.int x681), some (.int x693), some (.int x704), some (.int x706)] _ _ _
    refine gw_ld rfl rfl ?_
    refine z_gR (q := 55) (zT S658 (by decide) rfl) (zRf S658 (by decide) (by decide) rfl) (by decide) ?_
    refine gw_ld rfl rfl ?_
    refine z_C (m := 0) rfl rfl (fun x707 ex707 => ?_)
    refine gw_ld rfl rfl ?_
    refine gw_ld rfl rfl ?_
    refine z_b2 (fun c708 => ?_) (fun c708 => ?_)
    · have c708 : x706.toInt ≠ x704.toInt := c708
      refine gw_skip _ ?_
      refine gw_ld rfl rfl ?_
      refine gw_ld rfl rfl ?_
      refine z_b2 (fun c709 => ?_) (fun c709 => ?_)
      · have c709 : x706.toInt ≠ x693.toInt := c709
        refine gw_skip _ ?_
        refine z_C (m := 2) rfl rfl (fun x710 ex710 => ?_)
        refine z_cl rfl rfl rfl rfl rfl rfl rfl rfl rfl rfl rfl (zT S658 (by decide) rfl) ?_
        refine c_note (k := k) (w := x707) (v := x710) S658 (by rw [(show ez_I h642 55 2 = ez_I h 55 2 from zW_f F659 (by decide) (by decide))]; omega) (by omega) (fun h711 F712 k713 k714 => ?_)
        rw [show (6 * k.toInt + x707.toInt).toNat = (6 * k.toInt + 0).toNat by omega] at k713 k714
        have S715 := zW_sh F712 S658
        have F716 := zW_tr F659 (zW_mono F712 (x41_2) (x41_17) (x41_18))
        have f717 : ez_I h711 61 1 = (ez_I h642 61 1) := (zW_f F712 (by decide) (fun c => c)).trans (rfl)
        have f718 : ez_I h711 61 2 = (ez_I h642 61 2) := (zW_f F712 (by decide) (fun c => c)).trans (rfl)
        have f719 : ez_I h711 61 5 = (ez_I h642 61 5) := (zW_f F712 (by decide) (fun c => c)).trans (rfl)
        have f720 : ez_I h711 61 7 = (ez_I h642 61 7) := (zW_f F712 (by decide) (fun c => c)).trans (rfl)
        have f721 : ez_I h711 43 4 = (ez_I h642 43 4) := (zW_f F712 (by decide) (fun c => c)).trans (rfl)
        have A722 : (∀ k, k < 288 → nL (ez_I h711 30) k = LNf cl 286 15 k) := by rw [zW_fn F712 30 (by decide) (fun _ c => c)]; exact A666
        have A723 : aR (ez_I h711 30) 288 0 15 := by rw [zW_fn F712 30 (by decide) (fun _ c => c)]; exact A667
        have A724 : (∀ k, k < 286 → 1 ≤ cl k → 1 ≤ nL (ez_I h711 30) k) := by rw [zW_fn F712 30 (by decide) (fun _ c => c)]; exact A668
        have A725 : (∀ k, k < 288 → nL (ez_I h711 37) k = LDx cd k) := by rw [zW_fn F712 37 (by decide) (fun _ c => c)]; exact A669
        have A726 : aR (ez_I h711 37) 288 0 15 := by rw [zW_fn F712 37 (by decide) (fun _ c => c)]; exact A670
        have A727 : (∀ k, k < 30 → 1 ≤ cd k → 1 ≤ nL (ez_I h711 37) k) := by rw [zW_fn F712 37 (by decide) (fun _ c => c)]; exact A671
        have A728 : plP (ez_I h711 61) (ez_I h711 63) (ez_I h711 64) (ez_I h711 44) (ez_I h711 45) (nL (ez_I h711 30)) (nL (ez_I h711 37)) c645 := by rw [zW_fn F712 61 (by decide) (fun _ c => c), zW_fn F712 63 (by decide) (fun _ c => c), zW_fn F712 64 (by decide) (fun _ c => c), zW_fn F712 44 (by decide) (fun _ c => c), zW_fn F712 45 (by decide) (fun _ c => c), zW_fn F712 30 (by decide) (fun _ c => c), zW_fn F712 37 (by decide) (fun _ c => c)]; exact hpl
        have A729 : x643.toInt = (hdB (nL (ez_I h711 30)) (nL (ez_I h711 37)) c645 : Nat) := by rw [zW_fn F712 30 (by decide) (fun _ c => c), zW_fn F712 37 (by decide) (fun _ c => c)]; exact (by rw [e30, e37]; exact hhb)
        clear A666
        clear A667
        clear A668
        clear A669
        clear A670
        clear A671
        have A730 : (ez_I h711 56 (6 * k.toInt + 0).toNat).toInt = x710.toInt := (by rw [k713])
        have A731 : (∀ j : Nat, (¬ (6 * k.toInt ≤ (j : Int) ∧ (j : Int) < 6 * k.toInt + 6) ∨ j = (6 * k.toInt + 1).toNat) → ez_I h711 56 j = ez_I h 56 j) := (fun j hj => (k714 j (by omega)).trans (congrFun A665 j))
        refine gw_ld rfl rfl ?_
        refine z_gR (q := 55) (zT S715 (by decide) rfl) (zRf S715 (by decide) (by decide) rfl) (by decide) ?_
        refine gw_ld rfl rfl ?_
        refine z_C (m := 2) rfl rfl (fun x732 ex732 => ?_)
        refine gw_ld rfl rfl ?_
        refine z_gI2 (by decide) (zT S715 (by decide) rfl) (zW_f F716 (by decide) (by decide)) ?_
        have t733 := congrArg Int32.toInt (f717)
        have t734 := congrArg Int32.toInt (f718)
        have t735 := congrArg Int32.toInt (f719)
        have t736 := congrArg Int32.toInt (f720)
        have t737 := congrArg Int32.toInt (f721)
        refine z_cl rfl rfl rfl rfl rfl rfl rfl rfl rfl rfl rfl (zT S715 (by decide) rfl) ?_
        refine c_note (k := k) (w := x732) (v := (ez_I h 52 11)) S715 (by rw [(show ez_I h711 55 2 = ez_I h 55 2 from zW_f F716 (by decide) (by decide))]; omega) (by omega) (fun h738 F739 k740 k741 => ?_)
        rw [show (6 * k.toInt + x732.toInt).toNat = (6 * k.toInt + 2).toNat by omega] at k740 k741
        have S742 := zW_sh F739 S715
        have F743 := zW_tr F716 (zW_mono F739 (x41_2) (x41_17) (x41_18))
        have f744 : ez_I h738 61 1 = (ez_I h642 61 1) := (zW_f F739 (by decide) (fun c => c)).trans (f717)
        have f745 : ez_I h738 61 2 = (ez_I h642 61 2) := (zW_f F739 (by decide) (fun c => c)).trans (f718)
        have f746 : ez_I h738 61 5 = (ez_I h642 61 5) := (zW_f F739 (by decide) (fun c => c)).trans (f719)
        have f747 : ez_I h738 61 7 = (ez_I h642 61 7) := (zW_f F739 (by decide) (fun c => c)).trans (f720)
        have f748 : ez_I h738 43 4 = (ez_I h642 43 4) := (zW_f F739 (by decide) (fun c => c)).trans (f721)
        have A749 : (∀ k, k < 288 → nL (ez_I h738 30) k = LNf cl 286 15 k) := by rw [zW_fn F739 30 (by decide) (fun _ c => c)]; exact A722
        have A750 : aR (ez_I h738 30) 288 0 15 := by rw [zW_fn F739 30 (by decide) (fun _ c => c)]; exact A723
        have A751 : (∀ k, k < 286 → 1 ≤ cl k → 1 ≤ nL (ez_I h738 30) k) := by rw [zW_fn F739 30 (by decide) (fun _ c => c)]; exact A724
        have A752 : (∀ k, k < 288 → nL (ez_I h738 37) k = LDx cd k) := by rw [zW_fn F739 37 (by decide) (fun _ c => c)]; exact A725
        have A753 : aR (ez_I h738 37) 288 0 15 := by rw [zW_fn F739 37 (by decide) (fun _ c => c)]; exact A726
        have A754 : (∀ k, k < 30 → 1 ≤ cd k → 1 ≤ nL (ez_I h738 37) k) := by rw [zW_fn F739 37 (by decide) (fun _ c => c)]; exact A727
        have A755 : plP (ez_I h738 61) (ez_I h738 63) (ez_I h738 64) (ez_I h738 44) (ez_I h738 45) (nL (ez_I h738 30)) (nL (ez_I h738 37)) c645 := by rw [zW_fn F739 61 (by decide) (fun _ c => c), zW_fn F739 63 (by decide) (fun _ c => c), zW_fn F739 64 (by decide) (fun _ c => c), zW_fn F739 44 (by decide) (fun _ c => c), zW_fn F739 45 (by decide) (fun _ c => c), zW_fn F739 30 (by decide) (fun _ c => c), zW_fn F739 37 (by decide) (fun _ c => c)]; exact A728
        have A756 : x643.toInt = (hdB (nL (ez_I h738 30)) (nL (ez_I h738 37)) c645 : Nat) := by rw [zW_fn F739 30 (by decide) (fun _ c => c), zW_fn F739 37 (by decide) (fun _ c => c)]; exact A729
        clear A722
        clear A723
        clear A724
        clear A725
        clear A726
        clear A727
        clear A728
        clear A729
        have A757 : (ez_I h738 56 (6 * k.toInt + 0).toNat).toInt = x710.toInt := (by rw [k741 _ (by omega)]; exact A730)
        have A758 : (ez_I h738 56 (6 * k.toInt + 2).toNat).toInt = ((ez_I h 52 11)).toInt := (by rw [k740])
        have A759 : (∀ j : Nat, (¬ (6 * k.toInt ≤ (j : Int) ∧ (j : Int) < 6 * k.toInt + 6) ∨ j = (6 * k.toInt + 1).toNat) → ez_I h738 56 j = ez_I h 56 j) := (fun j hj => (k741 j (by omega)).trans (A731 j hj))
        refine gw_ld rfl rfl ?_
        refine z_gR (q := 55) (zT S742 (by decide) rfl) (zRf S742 (by decide) (by decide) rfl) (by decide) ?_
        refine gw_ld rfl rfl ?_
        refine z_C (m := 3) rfl rfl (fun x760 ex760 => ?_)
        refine gw_ld rfl rfl ?_
        have t761 := congrArg Int32.toInt (f744)
        have t762 := congrArg Int32.toInt (f745)
        have t763 := congrArg Int32.toInt (f746)
        have t764 := congrArg Int32.toInt (f747)
        have t765 := congrArg Int32.toInt (f748)
        refine z_cl rfl rfl rfl rfl rfl rfl rfl rfl rfl rfl rfl (zT S742 (by decide) rfl) ?_
        refine c_note (k := k) (w := x760) (v := x706) S742 (by rw [(show ez_I h738 55 2 = ez_I h 55 2 from zW_f F743 (by decide) (by decide))]; omega) (by omega) (fun h766 F767 k768 k769 => ?_)
        rw [show (6 * k.toInt + x760.toInt).toNat = (6 * k.toInt + 3).toNat by omega] at k768 k769
        have S770 := zW_sh F767 S742
        have F771 := zW_tr F743 (zW_mono F767 (x41_2) (x41_17) (x41_18))
        have f772 : ez_I h766 61 1 = (ez_I h642 61 1) := (zW_f F767 (by decide) (fun c => c)).trans (f744)
        have f773 : ez_I h766 61 2 = (ez_I h642 61 2) := (zW_f F767 (by decide) (fun c => c)).trans (f745)
        have f774 : ez_I h766 61 5 = (ez_I h642 61 5) := (zW_f F767 (by decide) (fun c => c)).trans (f746)
        have f775 : ez_I h766 61 7 = (ez_I h642 61 7) := (zW_f F767 (by decide) (fun c => c)).trans (f747)
        have f776 : ez_I h766 43 4 = (ez_I h642 43 4) := (zW_f F767 (by decide) (fun c => c)).trans (f748)
        have A777 : (∀ k, k < 288 → nL (ez_I h766 30) k = LNf cl 286 15 k) := by rw [zW_fn F767 30 (by decide) (fun _ c => c)]; exact A749
        have A778 : aR (ez_I h766 30) 288 0 15 := by rw [zW_fn F767 30 (by decide) (fun _ c => c)]; exact A750
        have A779 : (∀ k, k < 286 → 1 ≤ cl k → 1 ≤ nL (ez_I h766 30) k) := by rw [zW_fn F767 30 (by decide) (fun _ c => c)]; exact A751
        have A780 : (∀ k, k < 288 → nL (ez_I h766 37) k = LDx cd k) := by rw [zW_fn F767 37 (by decide) (fun _ c => c)]; exact A752
        have A781 : aR (ez_I h766 37) 288 0 15 := by rw [zW_fn F767 37 (by decide) (fun _ c => c)]; exact A753
        have A782 : (∀ k, k < 30 → 1 ≤ cd k → 1 ≤ nL (ez_I h766 37) k) := by rw [zW_fn F767 37 (by decide) (fun _ c => c)]; exact A754
        have A783 : plP (ez_I h766 61) (ez_I h766 63) (ez_I h766 64) (ez_I h766 44) (ez_I h766 45) (nL (ez_I h766 30)) (nL (ez_I h766 37)) c645 := by rw [zW_fn F767 61 (by decide) (fun _ c => c), zW_fn F767 63 (by decide) (fun _ c => c), zW_fn F767 64 (by decide) (fun _ c => c), zW_fn F767 44 (by decide) (fun _ c => c), zW_fn F767 45 (by decide) (fun _ c => c), zW_fn F767 30 (by decide) (fun _ c => c), zW_fn F767 37 (by decide) (fun _ c => c)]; exact A755
        have A784 : x643.toInt = (hdB (nL (ez_I h766 30)) (nL (ez_I h766 37)) c645 : Nat) := by rw [zW_fn F767 30 (by decide) (fun _ c => c), zW_fn F767 37 (by decide) (fun _ c => c)]; exact A756
        clear A749
        clear A750
        clear A751
        clear A752
        clear A753
        clear A754
        clear A755
        clear A756
        have A785 : (ez_I h766 56 (6 * k.toInt + 0).toNat).toInt = x710.toInt := (by rw [k769 _ (by omega)]; exact A757)
        have A786 : (ez_I h766 56 (6 * k.toInt + 2).toNat).toInt = ((ez_I h 52 11)).toInt := (by rw [k769 _ (by omega)]; exact A758)
        have A787 : (ez_I h766 56 (6 * k.toInt + 3).toNat).toInt = x706.toInt := (by rw [k768])
        have A788 : (∀ j : Nat, (¬ (6 * k.toInt ≤ (j : Int) ∧ (j : Int) < 6 * k.toInt + 6) ∨ j = (6 * k.toInt + 1).toNat) → ez_I h766 56 j = ez_I h 56 j) := (fun j hj => (k769 j (by omega)).trans (A759 j hj))
        refine gw_ld rfl rfl ?_
        refine z_gR (q := 55) (zT S770 (by decide) rfl) (zRf S770 (by decide) (by decide) rfl) (by decide) ?_
        refine gw_ld rfl rfl ?_
        refine z_C (m := 4) rfl rfl (fun x789 ex789 => ?_)
        refine gw_ld rfl rfl ?_
        have t790 := congrArg Int32.toInt (f772)
        have t791 := congrArg Int32.toInt (f773)
        have t792 := congrArg Int32.toInt (f774)
        have t793 := congrArg Int32.toInt (f775)
        have t794 := congrArg Int32.toInt (f776)
        refine z_cl rfl rfl rfl rfl rfl rfl rfl rfl rfl rfl rfl (zT S770 (by decide) rfl) ?_
        refine c_note (k := k) (w := x789) (v := x693) S770 (by rw [(show ez_I h766 55 2 = ez_I h 55 2 from zW_f F771 (by decide) (by decide))]; omega) (by omega) (fun h795 F796 k797 k798 => ?_)
        rw [show (6 * k.toInt + x789.toInt).toNat = (6 * k.toInt + 4).toNat by omega] at k797 k798
        have S799 := zW_sh F796 S770
        have F800 := zW_tr F771 (zW_mono F796 (x41_2) (x41_17) (x41_18))
        have f801 : ez_I h795 61 1 = (ez_I h642 61 1) := (zW_f F796 (by decide) (fun c => c)).trans (f772)
        have f802 : ez_I h795 61 2 = (ez_I h642 61 2) := (zW_f F796 (by decide) (fun c => c)).trans (f773)
        have f803 : ez_I h795 61 5 = (ez_I h642 61 5) := (zW_f F796 (by decide) (fun c => c)).trans (f774)
        have f804 : ez_I h795 61 7 = (ez_I h642 61 7) := (zW_f F796 (by decide) (fun c => c)).trans (f775)
        have f805 : ez_I h795 43 4 = (ez_I h642 43 4) := (zW_f F796 (by decide) (fun c => c)).trans (f776)
        have A806 : (∀ k, k < 288 → nL (ez_I h795 30) k = LNf cl 286 15 k) := by rw [zW_fn F796 30 (by decide) (fun _ c => c)]; exact A777
        have A807 : aR (ez_I h795 30) 288 0 15 := by rw [zW_fn F796 30 (by decide) (fun _ c => c)]; exact A778
        have A808 : (∀ k, k < 286 → 1 ≤ cl k → 1 ≤ nL (ez_I h795 30) k) := by rw [zW_fn F796 30 (by decide) (fun _ c => c)]; exact A779
        have A809 : (∀ k, k < 288 → nL (ez_I h795 37) k = LDx cd k) := by rw [zW_fn F796 37 (by decide) (fun _ c => c)]; exact A780
        have A810 : aR (ez_I h795 37) 288 0 15 := by rw [zW_fn F796 37 (by decide) (fun _ c => c)]; exact A781
        have A811 : (∀ k, k < 30 → 1 ≤ cd k → 1 ≤ nL (ez_I h795 37) k) := by rw [zW_fn F796 37 (by decide) (fun _ c => c)]; exact A782
        have A812 : plP (ez_I h795 61) (ez_I h795 63) (ez_I h795 64) (ez_I h795 44) (ez_I h795 45) (nL (ez_I h795 30)) (nL (ez_I h795 37)) c645 := by rw [zW_fn F796 61 (by decide) (fun _ c => c), zW_fn F796 63 (by decide) (fun _ c => c), zW_fn F796 64 (by decide) (fun _ c => c), zW_fn F796 44 (by decide) (fun _ c => c), zW_fn F796 45 (by decide) (fun _ c => c), zW_fn F796 30 (by decide) (fun _ c => c), zW_fn F796 37 (by decide) (fun _ c => c)]; exact A783
        have A813 : x643.toInt = (hdB (nL (ez_I h795 30)) (nL (ez_I h795 37)) c645 : Nat) := by rw [zW_fn F796 30 (by decide) (fun _ c => c), zW_fn F796 37 (by decide) (fun _ c => c)]; exact A784
        clear A777
        clear A778
        clear A779
        clear A780
        clear A781
        clear A782
        clear A783
        clear A784
        have A814 : (ez_I h795 56 (6 * k.toInt + 0).toNat).toInt = x710.toInt := (by rw [k798 _ (by omega)]; exact A785)
        have A815 : (ez_I h795 56 (6 * k.toInt + 2).toNat).toInt = ((ez_I h 52 11)).toInt := (by rw [k798 _ (by omega)]; exact A786)
        have A816 : (ez_I h795 56 (6 * k.toInt + 3).toNat).toInt = x706.toInt := (by rw [k798 _ (by omega)]; exact A787)
        have A817 : (ez_I h795 56 (6 * k.toInt + 4).toNat).toInt = x693.toInt := (by rw [k797])
        have A818 : (∀ j : Nat, (¬ (6 * k.toInt ≤ (j : Int) ∧ (j : Int) < 6 * k.toInt + 6) ∨ j = (6 * k.toInt + 1).toNat) → ez_I h795 56 j = ez_I h 56 j) := (fun j hj => (k798 j (by omega)).trans (A788 j hj))
        refine gw_ld rfl rfl ?_
        refine z_gR (q := 55) (zT S799 (by decide) rfl) (zRf S799 (by decide) (by decide) rfl) (by decide) ?_
        refine gw_ld rfl rfl ?_
        refine z_C (m := 5) rfl rfl (fun x819 ex819 => ?_)
        refine gw_ld rfl rfl ?_
        have t820 := congrArg Int32.toInt (f801)
        have t821 := congrArg Int32.toInt (f802)
        have t822 := congrArg Int32.toInt (f803)
        have t823 := congrArg Int32.toInt (f804)
        have t824 := congrArg Int32.toInt (f805)
        refine z_cl rfl rfl rfl rfl rfl rfl rfl rfl rfl rfl rfl (zT S799 (by decide) rfl) ?_
        refine c_note (k := k) (w := x819) (v := x681) S799 (by rw [(show ez_I h795 55 2 = ez_I h 55 2 from zW_f F800 (by decide) (by decide))]; omega) (by omega) (fun h825 F826 k827 k828 => ?_)
        rw [show (6 * k.toInt + x819.toInt).toNat = (6 * k.toInt + 5).toNat by omega] at k827 k828
        have S829 := zW_sh F826 S799
        have F830 := zW_tr F800 (zW_mono F826 (x41_2) (x41_17) (x41_18))
        have f831 : ez_I h825 61 1 = (ez_I h642 61 1) := (zW_f F826 (by decide) (fun c => c)).trans (f801)
        have f832 : ez_I h825 61 2 = (ez_I h642 61 2) := (zW_f F826 (by decide) (fun c => c)).trans (f802)
        have f833 : ez_I h825 61 5 = (ez_I h642 61 5) := (zW_f F826 (by decide) (fun c => c)).trans (f803)
        have f834 : ez_I h825 61 7 = (ez_I h642 61 7) := (zW_f F826 (by decide) (fun c => c)).trans (f804)
        have f835 : ez_I h825 43 4 = (ez_I h642 43 4) := (zW_f F826 (by decide) (fun c => c)).trans (f805)
        have A836 : (∀ k, k < 288 → nL (ez_I h825 30) k = LNf cl 286 15 k) := by rw [zW_fn F826 30 (by decide) (fun _ c => c)]; exact A806
        have A837 : aR (ez_I h825 30) 288 0 15 := by rw [zW_fn F826 30 (by decide) (fun _ c => c)]; exact A807
        have A838 : (∀ k, k < 286 → 1 ≤ cl k → 1 ≤ nL (ez_I h825 30) k) := by rw [zW_fn F826 30 (by decide) (fun _ c => c)]; exact A808
        have A839 : (∀ k, k < 288 → nL (ez_I h825 37) k = LDx cd k) := by rw [zW_fn F826 37 (by decide) (fun _ c => c)]; exact A809
        have A840 : aR (ez_I h825 37) 288 0 15 := by rw [zW_fn F826 37 (by decide) (fun _ c => c)]; exact A810
        have A841 : (∀ k, k < 30 → 1 ≤ cd k → 1 ≤ nL (ez_I h825 37) k) := by rw [zW_fn F826 37 (by decide) (fun _ c => c)]; exact A811
        have A842 : plP (ez_I h825 61) (ez_I h825 63) (ez_I h825 64) (ez_I h825 44) (ez_I h825 45) (nL (ez_I h825 30)) (nL (ez_I h825 37)) c645 := by rw [zW_fn F826 61 (by decide) (fun _ c => c), zW_fn F826 63 (by decide) (fun _ c => c), zW_fn F826 64 (by decide) (fun _ c => c), zW_fn F826 44 (by decide) (fun _ c => c), zW_fn F826 45 (by decide) (fun _ c => c), zW_fn F826 30 (by decide) (fun _ c => c), zW_fn F826 37 (by decide) (fun _ c => c)]; exact A812
        have A843 : x643.toInt = (hdB (nL (ez_I h825 30)) (nL (ez_I h825 37)) c645 : Nat) := by rw [zW_fn F826 30 (by decide) (fun _ c => c), zW_fn F826 37 (by decide) (fun _ c => c)]; exact A813
        clear A806
        clear A807
        clear A808
        clear A809
        clear A810
        clear A811
        clear A812
        clear A813
        have A844 : (ez_I h825 56 (6 * k.toInt + 0).toNat).toInt = x710.toInt := (by rw [k828 _ (by omega)]; exact A814)
        have A845 : (ez_I h825 56 (6 * k.toInt + 2).toNat).toInt = ((ez_I h 52 11)).toInt := (by rw [k828 _ (by omega)]; exact A815)
        have A846 : (ez_I h825 56 (6 * k.toInt + 3).toNat).toInt = x706.toInt := (by rw [k828 _ (by omega)]; exact A816)
        have A847 : (ez_I h825 56 (6 * k.toInt + 4).toNat).toInt = x693.toInt := (by rw [k828 _ (by omega)]; exact A817)
        have A848 : (ez_I h825 56 (6 * k.toInt + 5).toNat).toInt = x681.toInt := (by rw [k827])
        have A849 : (∀ j : Nat, (¬ (6 * k.toInt ≤ (j : Int) ∧ (j : Int) < 6 * k.toInt + 6) ∨ j = (6 * k.toInt + 1).toNat) → ez_I h825 56 j = ez_I h 56 j) := (fun j hj => (k828 j (by omega)).trans (A818 j hj))
        refine z_rv ?_
        have t850 := congrArg Int32.toInt (f831)
        have t851 := congrArg Int32.toInt (f832)
        have t852 := congrArg Int32.toInt (f833)
        have t853 := congrArg Int32.toInt (f834)
        have t854 := congrArg Int32.toInt (f835)
        have K2 := K _ F830 c645
        have hDY : x681.toInt = (3 + (hdB (nL (ez_I h825 30)) (nL (ez_I h825 37)) c645 : Nat) + (ez_I h 52 10).toInt + (sN (fun i => cd i * LNf cd 30 15 i) 30 : Nat) + (sN (fun i => cl i * LNf cl 286 15 i) 286 : Nat)) := by have := A843; omega
        have hFI : x693.toInt = (3 + (ez_I h 52 10).toInt + (sN (fun i => cl i * fxL i) 286 : Nat) + (sN (fun i => cd i * fxD i) 30 : Nat)) := by omega
        have hST : x704.toInt = (3 + (-((ez_I h 68 2).toInt + 3)) % 8 + 32 + 8 * (ez_I h 52 11).toInt) := by omega
        rw [← hDY, ← hFI, ← hST] at K2
        exact K2 A842 A836 A837 A838 A839 A840 A841 ⟨by rw [A848], by rw [A847], by rw [A845], by rw [A846]; split <;> (try split) <;> omega, by rw [A844]; split <;> (try split) <;> omega⟩ A849
      · have c709 : ¬ (x706.toInt ≠ x693.toInt) := c709
        refine z_C (m := 1) rfl rfl (fun x855 ex855 => ?_)
        refine z_go ?_
        refine gw_skip _ ?_
        refine z_cl rfl rfl rfl rfl rfl rfl rfl rfl rfl rfl rfl (zT S658 (by decide) rfl) ?_
        refine c_note (k := k) (w := x707) (v := x855) S658 (by rw [(show ez_I h642 55 2 = ez_I h 55 2 from zW_f F659 (by decide) (by decide))]; omega) (by omega) (fun h856 F857 k858 k859 => ?_)
        rw [show (6 * k.toInt + x707.toInt).toNat = (6 * k.toInt + 0).toNat by omega] at k858 k859
        have S860 := zW_sh F857 S658
        have F861 := zW_tr F659 (zW_mono F857 (x41_2) (x41_17) (x41_18))
        have f862 : ez_I h856 61 1 = (ez_I h642 61 1) := (zW_f F857 (by decide) (fun c => c)).trans (rfl)
        have f863 : ez_I h856 61 2 = (ez_I h642 61 2) := (zW_f F857 (by decide) (fun c => c)).trans (rfl)
        have f864 : ez_I h856 61 5 = (ez_I h642 61 5) := (zW_f F857 (by decide) (fun c => c)).trans (rfl)
        have f865 : ez_I h856 61 7 = (ez_I h642 61 7) := (zW_f F857 (by decide) (fun c => c)).trans (rfl)
        have f866 : ez_I h856 43 4 = (ez_I h642 43 4) := (zW_f F857 (by decide) (fun c => c)).trans (rfl)
        have A867 : (∀ k, k < 288 → nL (ez_I h856 30) k = LNf cl 286 15 k) := by rw [zW_fn F857 30 (by decide) (fun _ c => c)]; exact A666
        have A868 : aR (ez_I h856 30) 288 0 15 := by rw [zW_fn F857 30 (by decide) (fun _ c => c)]; exact A667
        have A869 : (∀ k, k < 286 → 1 ≤ cl k → 1 ≤ nL (ez_I h856 30) k) := by rw [zW_fn F857 30 (by decide) (fun _ c => c)]; exact A668
        have A870 : (∀ k, k < 288 → nL (ez_I h856 37) k = LDx cd k) := by rw [zW_fn F857 37 (by decide) (fun _ c => c)]; exact A669
        have A871 : aR (ez_I h856 37) 288 0 15 := by rw [zW_fn F857 37 (by decide) (fun _ c => c)]; exact A670
        have A872 : (∀ k, k < 30 → 1 ≤ cd k → 1 ≤ nL (ez_I h856 37) k) := by rw [zW_fn F857 37 (by decide) (fun _ c => c)]; exact A671
        have A873 : plP (ez_I h856 61) (ez_I h856 63) (ez_I h856 64) (ez_I h856 44) (ez_I h856 45) (nL (ez_I h856 30)) (nL (ez_I h856 37)) c645 := by rw [zW_fn F857 61 (by decide) (fun _ c => c), zW_fn F857 63 (by decide) (fun _ c => c), zW_fn F857 64 (by decide) (fun _ c => c), zW_fn F857 44 (by decide) (fun _ c => c), zW_fn F857 45 (by decide) (fun _ c => c), zW_fn F857 30 (by decide) (fun _ c => c), zW_fn F857 37 (by decide) (fun _ c => c)]; exact hpl
        have A874 : x643.toInt = (hdB (nL (ez_I h856 30)) (nL (ez_I h856 37)) c645 : Nat) := by rw [zW_fn F857 30 (by decide) (fun _ c => c), zW_fn F857 37 (by decide) (fun _ c => c)]; exact (by rw [e30, e37]; exact hhb)
        clear A666
        clear A667
        clear A668
        clear A669
        clear A670
        clear A671
        have A875 : (ez_I h856 56 (6 * k.toInt + 0).toNat).toInt = x855.toInt := (by rw [k858])
        have A876 : (∀ j : Nat, (¬ (6 * k.toInt ≤ (j : Int) ∧ (j : Int) < 6 * k.toInt + 6) ∨ j = (6 * k.toInt + 1).toNat) → ez_I h856 56 j = ez_I h 56 j) := (fun j hj => (k859 j (by omega)).trans (congrFun A665 j))
        refine gw_ld rfl rfl ?_
        refine z_gR (q := 55) (zT S860 (by decide) rfl) (zRf S860 (by decide) (by decide) rfl) (by decide) ?_
        refine gw_ld rfl rfl ?_
        refine z_C (m := 2) rfl rfl (fun x877 ex877 => ?_)
        refine gw_ld rfl rfl ?_
        refine z_gI2 (by decide) (zT S860 (by decide) rfl) (zW_f F861 (by decide) (by decide)) ?_
        have t878 := congrArg Int32.toInt (f862)
        have t879 := congrArg Int32.toInt (f863)
        have t880 := congrArg Int32.toInt (f864)
        have t881 := congrArg Int32.toInt (f865)
        have t882 := congrArg Int32.toInt (f866)
        refine z_cl rfl rfl rfl rfl rfl rfl rfl rfl rfl rfl rfl (zT S860 (by decide) rfl) ?_
        refine c_note (k := k) (w := x877) (v := (ez_I h 52 11)) S860 (by rw [(show ez_I h856 55 2 = ez_I h 55 2 from zW_f F861 (by decide) (by decide))]; omega) (by omega) (fun h883 F884 k885 k886 => ?_)
        rw [show (6 * k.toInt + x877.toInt).toNat = (6 * k.toInt + 2).toNat by omega] at k885 k886
        have S887 := zW_sh F884 S860
        have F888 := zW_tr F861 (zW_mono F884 (x41_2) (x41_17) (x41_18))
        have f889 : ez_I h883 61 1 = (ez_I h642 61 1) := (zW_f F884 (by decide) (fun c => c)).trans (f862)
        have f890 : ez_I h883 61 2 = (ez_I h642 61 2) := (zW_f F884 (by decide) (fun c => c)).trans (f863)
        have f891 : ez_I h883 61 5 = (ez_I h642 61 5) := (zW_f F884 (by decide) (fun c => c)).trans (f864)
        have f892 : ez_I h883 61 7 = (ez_I h642 61 7) := (zW_f F884 (by decide) (fun c => c)).trans (f865)
        have f893 : ez_I h883 43 4 = (ez_I h642 43 4) := (zW_f F884 (by decide) (fun c => c)).trans (f866)
        have A894 : (∀ k, k < 288 → nL (ez_I h883 30) k = LNf cl 286 15 k) := by rw [zW_fn F884 30 (by decide) (fun _ c => c)]; exact A867
        have A895 : aR (ez_I h883 30) 288 0 15 := by rw [zW_fn F884 30 (by decide) (fun _ c => c)]; exact A868
        have A896 : (∀ k, k < 286 → 1 ≤ cl k → 1 ≤ nL (ez_I h883 30) k) := by rw [zW_fn F884 30 (by decide) (fun _ c => c)]; exact A869
        have A897 : (∀ k, k < 288 → nL (ez_I h883 37) k = LDx cd k) := by rw [zW_fn F884 37 (by decide) (fun _ c => c)]; exact A870
        have A898 : aR (ez_I h883 37) 288 0 15 := by rw [zW_fn F884 37 (by decide) (fun _ c => c)]; exact A871
        have A899 : (∀ k, k < 30 → 1 ≤ cd k → 1 ≤ nL (ez_I h883 37) k) := by rw [zW_fn F884 37 (by decide) (fun _ c => c)]; exact A872
        have A900 : plP (ez_I h883 61) (ez_I h883 63) (ez_I h883 64) (ez_I h883 44) (ez_I h883 45) (nL (ez_I h883 30)) (nL (ez_I h883 37)) c645 := by rw [zW_fn F884 61 (by decide) (fun _ c => c), zW_fn F884 63 (by decide) (fun _ c => c), zW_fn F884 64 (by decide) (fun _ c => c), zW_fn F884 44 (by decide) (fun _ c => c), zW_fn F884 45 (by decide) (fun _ c => c), zW_fn F884 30 (by decide) (fun _ c => c), zW_fn F884 37 (by decide) (fun _ c => c)]; exact A873
        have A901 : x643.toInt = (hdB (nL (ez_I h883 30)) (nL (ez_I h883 37)) c645 : Nat) := by rw [zW_fn F884 30 (by decide) (fun _ c => c), zW_fn F884 37 (by decide) (fun _ c => c)]; exact A874
        clear A867
        clear A868
        clear A869
        clear A870
        clear A871
        clear A872
        clear A873
        clear A874
        have A902 : (ez_I h883 56 (6 * k.toInt + 0).toNat).toInt = x855.toInt := (by rw [k886 _ (by omega)]; exact A875)
        have A903 : (ez_I h883 56 (6 * k.toInt + 2).toNat).toInt = ((ez_I h 52 11)).toInt := (by rw [k885])
        have A904 : (∀ j : Nat, (¬ (6 * k.toInt ≤ (j : Int) ∧ (j : Int) < 6 * k.toInt + 6) ∨ j = (6 * k.toInt + 1).toNat) → ez_I h883 56 j = ez_I h 56 j) := (fun j hj => (k886 j (by omega)).trans (A876 j hj))
        refine gw_ld rfl rfl ?_
        refine z_gR (q := 55) (zT S887 (by decide) rfl) (zRf S887 (by decide) (by decide) rfl) (by decide) ?_
        refine gw_ld rfl rfl ?_
        refine z_C (m := 3) rfl rfl (fun x905 ex905 => ?_)
        refine gw_ld rfl rfl ?_
        have t906 := congrArg Int32.toInt (f889)
        have t907 := congrArg Int32.toInt (f890)
        have t908 := congrArg Int32.toInt (f891)
        have t909 := congrArg Int32.toInt (f892)
        have t910 := congrArg Int32.toInt (f893)
        refine z_cl rfl rfl rfl rfl rfl rfl rfl rfl rfl rfl rfl (zT S887 (by decide) rfl) ?_
        refine c_note (k := k) (w := x905) (v := x706) S887 (by rw [(show ez_I h883 55 2 = ez_I h 55 2 from zW_f F888 (by decide) (by decide))]; omega) (by omega) (fun h911 F912 k913 k914 => ?_)
        rw [show (6 * k.toInt + x905.toInt).toNat = (6 * k.toInt + 3).toNat by omega] at k913 k914
        have S915 := zW_sh F912 S887
        have F916 := zW_tr F888 (zW_mono F912 (x41_2) (x41_17) (x41_18))
        have f917 : ez_I h911 61 1 = (ez_I h642 61 1) := (zW_f F912 (by decide) (fun c => c)).trans (f889)
        have f918 : ez_I h911 61 2 = (ez_I h642 61 2) := (zW_f F912 (by decide) (fun c => c)).trans (f890)
        have f919 : ez_I h911 61 5 = (ez_I h642 61 5) := (zW_f F912 (by decide) (fun c => c)).trans (f891)
        have f920 : ez_I h911 61 7 = (ez_I h642 61 7) := (zW_f F912 (by decide) (fun c => c)).trans (f892)
        have f921 : ez_I h911 43 4 = (ez_I h642 43 4) := (zW_f F912 (by decide) (fun c => c)).trans (f893)
        have A922 : (∀ k, k < 288 → nL (ez_I h911 30) k = LNf cl 286 15 k) := by rw [zW_fn F912 30 (by decide) (fun _ c => c)]; exact A894
        have A923 : aR (ez_I h911 30) 288 0 15 := by rw [zW_fn F912 30 (by decide) (fun _ c => c)]; exact A895
        have A924 : (∀ k, k < 286 → 1 ≤ cl k → 1 ≤ nL (ez_I h911 30) k) := by rw [zW_fn F912 30 (by decide) (fun _ c => c)]; exact A896
        have A925 : (∀ k, k < 288 → nL (ez_I h911 37) k = LDx cd k) := by rw [zW_fn F912 37 (by decide) (fun _ c => c)]; exact A897
        have A926 : aR (ez_I h911 37) 288 0 15 := by rw [zW_fn F912 37 (by decide) (fun _ c => c)]; exact A898
        have A927 : (∀ k, k < 30 → 1 ≤ cd k → 1 ≤ nL (ez_I h911 37) k) := by rw [zW_fn F912 37 (by decide) (fun _ c => c)]; exact A899
        have A928 : plP (ez_I h911 61) (ez_I h911 63) (ez_I h911 64) (ez_I h911 44) (ez_I h911 45) (nL (ez_I h911 30)) (nL (ez_I h911 37)) c645 := by rw [zW_fn F912 61 (by decide) (fun _ c => c), zW_fn F912 63 (by decide) (fun _ c => c), zW_fn F912 64 (by decide) (fun _ c => c), zW_fn F912 44 (by decide) (fun _ c => c), zW_fn F912 45 (by decide) (fun _ c => c), zW_fn F912 30 (by decide) (fun _ c => c), zW_fn F912 37 (by decide) (fun _ c => c)]; exact A900
        have A929 : x643.toInt = (hdB (nL (ez_I h911 30)) (nL (ez_I h911 37)) c645 : Nat) := by rw [zW_fn F912 30 (by decide) (fun _ c => c), zW_fn F912 37 (by decide) (fun _ c => c)]; exact A901
        clear A894
        clear A895
        clear A896
        clear A897
        clear A898
        clear A899
        clear A900
        clear A901
        have A930 : (ez_I h911 56 (6 * k.toInt + 0).toNat).toInt = x855.toInt := (by rw [k914 _ (by omega)]; exact A902)
        have A931 : (ez_I h911 56 (6 * k.toInt + 2).toNat).toInt = ((ez_I h 52 11)).toInt := (by rw [k914 _ (by omega)]; exact A903)
        have A932 : (ez_I h911 56 (6 * k.toInt + 3).toNat).toInt = x706.toInt := (by rw [k913])
        have A933 : (∀ j : Nat, (¬ (6 * k.toInt ≤ (j : Int) ∧ (j : Int) < 6 * k.toInt + 6) ∨ j = (6 * k.toInt + 1).toNat) → ez_I h911 56 j = ez_I h 56 j) := (fun j hj => (k914 j (by omega)).trans (A904 j hj))
        refine gw_ld rfl rfl ?_
        refine z_gR (q := 55) (zT S915 (by decide) rfl) (zRf S915 (by decide) (by decide) rfl) (by decide) ?_
        refine gw_ld rfl rfl ?_
        refine z_C (m := 4) rfl rfl (fun x934 ex934 => ?_)
        refine gw_ld rfl rfl ?_
        have t935 := congrArg Int32.toInt (f917)
        have t936 := congrArg Int32.toInt (f918)
        have t937 := congrArg Int32.toInt (f919)
        have t938 := congrArg Int32.toInt (f920)
        have t939 := congrArg Int32.toInt (f921)
        refine z_cl rfl rfl rfl rfl rfl rfl rfl rfl rfl rfl rfl (zT S915 (by decide) rfl) ?_
        refine c_note (k := k) (w := x934) (v := x693) S915 (by rw [(show ez_I h911 55 2 = ez_I h 55 2 from zW_f F916 (by decide) (by decide))]; omega) (by omega) (fun h940 F941 k942 k943 => ?_)
        rw [show (6 * k.toInt + x934.toInt).toNat = (6 * k.toInt + 4).toNat by omega] at k942 k943
        have S944 := zW_sh F941 S915
        have F945 := zW_tr F916 (zW_mono F941 (x41_2) (x41_17) (x41_18))
        have f946 : ez_I h940 61 1 = (ez_I h642 61 1) := (zW_f F941 (by decide) (fun c => c)).trans (f917)
        have f947 : ez_I h940 61 2 = (ez_I h642 61 2) := (zW_f F941 (by decide) (fun c => c)).trans (f918)
        have f948 : ez_I h940 61 5 = (ez_I h642 61 5) := (zW_f F941 (by decide) (fun c => c)).trans (f919)
        have f949 : ez_I h940 61 7 = (ez_I h642 61 7) := (zW_f F941 (by decide) (fun c => c)).trans (f920)
        have f950 : ez_I h940 43 4 = (ez_I h642 43 4) := (zW_f F941 (by decide) (fun c => c)).trans (f921)
        have A951 : (∀ k, k < 288 → nL (ez_I h940 30) k = LNf cl 286 15 k) := by rw [zW_fn F941 30 (by decide) (fun _ c => c)]; exact A922
        have A952 : aR (ez_I h940 30) 288 0 15 := by rw [zW_fn F941 30 (by decide) (fun _ c => c)]; exact A923
        have A953 : (∀ k, k < 286 → 1 ≤ cl k → 1 ≤ nL (ez_I h940 30) k) := by rw [zW_fn F941 30 (by decide) (fun _ c => c)]; exact A924
        have A954 : (∀ k, k < 288 → nL (ez_I h940 37) k = LDx cd k) := by rw [zW_fn F941 37 (by decide) (fun _ c => c)]; exact A925
        have A955 : aR (ez_I h940 37) 288 0 15 := by rw [zW_fn F941 37 (by decide) (fun _ c => c)]; exact A926
        have A956 : (∀ k, k < 30 → 1 ≤ cd k → 1 ≤ nL (ez_I h940 37) k) := by rw [zW_fn F941 37 (by decide) (fun _ c => c)]; exact A927
        have A957 : plP (ez_I h940 61) (ez_I h940 63) (ez_I h940 64) (ez_I h940 44) (ez_I h940 45) (nL (ez_I h940 30)) (nL (ez_I h940 37)) c645 := by rw [zW_fn F941 61 (by decide) (fun _ c => c), zW_fn F941 63 (by decide) (fun _ c => c), zW_fn F941 64 (by decide) (fun _ c => c), zW_fn F941 44 (by decide) (fun _ c => c), zW_fn F941 45 (by decide) (fun _ c => c), zW_fn F941 30 (by decide) (fun _ c => c), zW_fn F941 37 (by decide) (fun _ c => c)]; exact A928
        have A958 : x643.toInt = (hdB (nL (ez_I h940 30)) (nL (ez_I h940 37)) c645 : Nat) := by rw [zW_fn F941 30 (by decide) (fun _ c => c), zW_fn F941 37 (by decide) (fun _ c => c)]; exact A929
        clear A922
        clear A923
        clear A924
        clear A925
        clear A926
        clear A927
        clear A928
        clear A929
        have A959 : (ez_I h940 56 (6 * k.toInt + 0).toNat).toInt = x855.toInt := (by rw [k943 _ (by omega)]; exact A930)
        have A960 : (ez_I h940 56 (6 * k.toInt + 2).toNat).toInt = ((ez_I h 52 11)).toInt := (by rw [k943 _ (by omega)]; exact A931)
        have A961 : (ez_I h940 56 (6 * k.toInt + 3).toNat).toInt = x706.toInt := (by rw [k943 _ (by omega)]; exact A932)
        have A962 : (ez_I h940 56 (6 * k.toInt + 4).toNat).toInt = x693.toInt := (by rw [k942])
        have A963 : (∀ j : Nat, (¬ (6 * k.toInt ≤ (j : Int) ∧ (j : Int) < 6 * k.toInt + 6) ∨ j = (6 * k.toInt + 1).toNat) → ez_I h940 56 j = ez_I h 56 j) := (fun j hj => (k943 j (by omega)).trans (A933 j hj))
        refine gw_ld rfl rfl ?_
        refine z_gR (q := 55) (zT S944 (by decide) rfl) (zRf S944 (by decide) (by decide) rfl) (by decide) ?_
        refine gw_ld rfl rfl ?_
        refine z_C (m := 5) rfl rfl (fun x964 ex964 => ?_)
        refine gw_ld rfl rfl ?_
        have t965 := congrArg Int32.toInt (f946)
        have t966 := congrArg Int32.toInt (f947)
        have t967 := congrArg Int32.toInt (f948)
        have t968 := congrArg Int32.toInt (f949)
        have t969 := congrArg Int32.toInt (f950)
        refine z_cl rfl rfl rfl rfl rfl rfl rfl rfl rfl rfl rfl (zT S944 (by decide) rfl) ?_
        refine c_note (k := k) (w := x964) (v := x681) S944 (by rw [(show ez_I h940 55 2 = ez_I h 55 2 from zW_f F945 (by decide) (by decide))]; omega) (by omega) (fun h970 F971 k972 k973 => ?_)
        rw [show (6 * k.toInt + x964.toInt).toNat = (6 * k.toInt + 5).toNat by omega] at k972 k973
        have S974 := zW_sh F971 S944
        have F975 := zW_tr F945 (zW_mono F971 (x41_2) (x41_17) (x41_18))
        have f976 : ez_I h970 61 1 = (ez_I h642 61 1) := (zW_f F971 (by decide) (fun c => c)).trans (f946)
        have f977 : ez_I h970 61 2 = (ez_I h642 61 2) := (zW_f F971 (by decide) (fun c => c)).trans (f947)
        have f978 : ez_I h970 61 5 = (ez_I h642 61 5) := (zW_f F971 (by decide) (fun c => c)).trans (f948)
        have f979 : ez_I h970 61 7 = (ez_I h642 61 7) := (zW_f F971 (by decide) (fun c => c)).trans (f949)
        have f980 : ez_I h970 43 4 = (ez_I h642 43 4) := (zW_f F971 (by decide) (fun c => c)).trans (f950)
        have A981 : (∀ k, k < 288 → nL (ez_I h970 30) k = LNf cl 286 15 k) := by rw [zW_fn F971 30 (by decide) (fun _ c => c)]; exact A951
        have A982 : aR (ez_I h970 30) 288 0 15 := by rw [zW_fn F971 30 (by decide) (fun _ c => c)]; exact A952
        have A983 : (∀ k, k < 286 → 1 ≤ cl k → 1 ≤ nL (ez_I h970 30) k) := by rw [zW_fn F971 30 (by decide) (fun _ c => c)]; exact A953
        have A984 : (∀ k, k < 288 → nL (ez_I h970 37) k = LDx cd k) := by rw [zW_fn F971 37 (by decide) (fun _ c => c)]; exact A954
        have A985 : aR (ez_I h970 37) 288 0 15 := by rw [zW_fn F971 37 (by decide) (fun _ c => c)]; exact A955
        have A986 : (∀ k, k < 30 → 1 ≤ cd k → 1 ≤ nL (ez_I h970 37) k) := by rw [zW_fn F971 37 (by decide) (fun _ c => c)]; exact A956
        have A987 : plP (ez_I h970 61) (ez_I h970 63) (ez_I h970 64) (ez_I h970 44) (ez_I h970 45) (nL (ez_I h970 30)) (nL (ez_I h970 37)) c645 := by rw [zW_fn F971 61 (by decide) (fun _ c => c), zW_fn F971 63 (by decide) (fun _ c => c), zW_fn F971 64 (by decide) (fun _ c => c), zW_fn F971 44 (by decide) (fun _ c => c), zW_fn F971 45 (by decide) (fun _ c => c), zW_fn F971 30 (by decide) (fun _ c => c), zW_fn F971 37 (by decide) (fun _ c => c)]; exact A957
        have A988 : x643.toInt = (hdB (nL (ez_I h970 30)) (nL (ez_I h970 37)) c645 : Nat) := by rw [zW_fn F971 30 (by decide) (fun _ c => c), zW_fn F971 37 (by decide) (fun _ c => c)]; exact A958
        clear A951
        clear A952
        clear A953
        clear A954
        clear A955
        clear A956
        clear A957
        clear A958
        have A989 : (ez_I h970 56 (6 * k.toInt + 0).toNat).toInt = x855.toInt := (by rw [k973 _ (by omega)]; exact A959)
        have A990 : (ez_I h970 56 (6 * k.toInt + 2).toNat).toInt = ((ez_I h 52 11)).toInt := (by rw [k973 _ (by omega)]; exact A960)
        have A991 : (ez_I h970 56 (6 * k.toInt + 3).toNat).toInt = x706.toInt := (by rw [k973 _ (by omega)]; exact A961)
        have A992 : (ez_I h970 56 (6 * k.toInt + 4).toNat).toInt = x693.toInt := (by rw [k973 _ (by omega)]; exact A962)
        have A993 : (ez_I h970 56 (6 * k.toInt + 5).toNat).toInt = x681.toInt := (by rw [k972])
        have A994 : (∀ j : Nat, (¬ (6 * k.toInt ≤ (j : Int) ∧ (j : Int) < 6 * k.toInt + 6) ∨ j = (6 * k.toInt + 1).toNat) → ez_I h970 56 j = ez_I h 56 j) := (fun j hj => (k973 j (by omega)).trans (A963 j hj))
        refine z_rv ?_
        have t995 := congrArg Int32.toInt (f976)
        have t996 := congrArg Int32.toInt (f977)
        have t997 := congrArg Int32.toInt (f978)
        have t998 := congrArg Int32.toInt (f979)
        have t999 := congrArg Int32.toInt (f980)
        have K2 := K _ F975 c645
        have hDY : x681.toInt = (3 + (hdB (nL (ez_I h970 30)) (nL (ez_I h970 37)) c645 : Nat) + (ez_I h 52 10).toInt + (sN (fun i => cd i * LNf cd 30 15 i) 30 : Nat) + (sN (fun i => cl i * LNf cl 286 15 i) 286 : Nat)) := by have := A988; omega
        have hFI : x693.toInt = (3 + (ez_I h 52 10).toInt + (sN (fun i => cl i * fxL i) 286 : Nat) + (sN (fun i => cd i * fxD i) 30 : Nat)) := by omega
        have hST : x704.toInt = (3 + (-((ez_I h 68 2).toInt + 3)) % 8 + 32 + 8 * (ez_I h 52 11).toInt) := by omega
        rw [← hDY, ← hFI, ← hST] at K2
        exact K2 A987 A981 A982 A983 A984 A985 A986 ⟨by rw [A993], by rw [A992], by rw [A990], by rw [A991]; split <;> (try split) <;> omega, by rw [A989]; split <;> (try split) <;> omega⟩ A994
    · have c708 : ¬ (x706.toInt ≠ x704.toInt) := c708
      refine z_C (m := 0) rfl rfl (fun x1000 ex1000 => ?_)
      refine z_go ?_
      refine gw_skip _ ?_
      refine z_cl rfl rfl rfl rfl rfl rfl rfl rfl rfl rfl rfl (zT S658 (by decide) rfl) ?_
      refine c_note (k := k) (w := x707) (v := x1000) S658 (by rw [(show ez_I h642 55 2 = ez_I h 55 2 from zW_f F659 (by decide) (by decide))]; omega) (by omega) (fun h1001 F1002 k1003 k1004 => ?_)
      rw [show (6 * k.toInt + x707.toInt).toNat = (6 * k.toInt + 0).toNat by omega] at k1003 k1004
      have S1005 := zW_sh F1002 S658
      have F1006 := zW_tr F659 (zW_mono F1002 (x41_2) (x41_17) (x41_18))
      have f1007 : ez_I h1001 61 1 = (ez_I h642 61 1) := (zW_f F1002 (by decide) (fun c => c)).trans (rfl)
      have f1008 : ez_I h1001 61 2 = (ez_I h642 61 2) := (zW_f F1002 (by decide) (fun c => c)).trans (rfl)
      have f1009 : ez_I h1001 61 5 = (ez_I h642 61 5) := (zW_f F1002 (by decide) (fun c => c)).trans (rfl)
      have f1010 : ez_I h1001 61 7 = (ez_I h642 61 7) := (zW_f F1002 (by decide) (fun c => c)).trans (rfl)
      have f1011 : ez_I h1001 43 4 = (ez_I h642 43 4) := (zW_f F1002 (by decide) (fun c => c)).trans (rfl)
      have A1012 : (∀ k, k < 288 → nL (ez_I h1001 30) k = LNf cl 286 15 k) := by rw [zW_fn F1002 30 (by decide) (fun _ c => c)]; exact A666
      have A1013 : aR (ez_I h1001 30) 288 0 15 := by rw [zW_fn F1002 30 (by decide) (fun _ c => c)]; exact A667
      have A1014 : (∀ k, k < 286 → 1 ≤ cl k → 1 ≤ nL (ez_I h1001 30) k) := by rw [zW_fn F1002 30 (by decide) (fun _ c => c)]; exact A668
      have A1015 : (∀ k, k < 288 → nL (ez_I h1001 37) k = LDx cd k) := by rw [zW_fn F1002 37 (by decide) (fun _ c => c)]; exact A669
      have A1016 : aR (ez_I h1001 37) 288 0 15 := by rw [zW_fn F1002 37 (by decide) (fun _ c => c)]; exact A670
      have A1017 : (∀ k, k < 30 → 1 ≤ cd k → 1 ≤ nL (ez_I h1001 37) k) := by rw [zW_fn F1002 37 (by decide) (fun _ c => c)]; exact A671
      have A1018 : plP (ez_I h1001 61) (ez_I h1001 63) (ez_I h1001 64) (ez_I h1001 44) (ez_I h1001 45) (nL (ez_I h1001 30)) (nL (ez_I h1001 37)) c645 := by rw [zW_fn F1002 61 (by decide) (fun _ c => c), zW_fn F1002 63 (by decide) (fun _ c => c), zW_fn F1002 64 (by decide) (fun _ c => c), zW_fn F1002 44 (by decide) (fun _ c => c), zW_fn F1002 45 (by decide) (fun _ c => c), zW_fn F1002 30 (by decide) (fun _ c => c), zW_fn F1002 37 (by decide) (fun _ c => c)]; exact hpl
      have A1019 : x643.toInt = (hdB (nL (ez_I h1001 30)) (nL (ez_I h1001 37)) c645 : Nat) := by rw [zW_fn F1002 30 (by decide) (fun _ c => c), zW_fn F1002 37 (by decide) (fun _ c => c)]; exact (by rw [e30, e37]; exact hhb)
      clear A666
      clear A667
      clear A668
      clear A669
      clear A670
      clear A671
      have A1020 : (ez_I h1001 56 (6 * k.toInt + 0).toNat).toInt = x1000.toInt := (by rw [k1003])
      have A1021 : (∀ j : Nat, (¬ (6 * k.toInt ≤ (j : Int) ∧ (j : Int) < 6 * k.toInt + 6) ∨ j = (6 * k.toInt + 1).toNat) → ez_I h1001 56 j = ez_I h 56 j) := (fun j hj => (k1004 j (by omega)).trans (congrFun A665 j))
      refine gw_ld rfl rfl ?_
      refine z_gR (q := 55) (zT S1005 (by decide) rfl) (zRf S1005 (by decide) (by decide) rfl) (by decide) ?_
      refine gw_ld rfl rfl ?_
      refine z_C (m := 2) rfl rfl (fun x1022 ex1022 => ?_)
      refine gw_ld rfl rfl ?_
      refine z_gI2 (by decide) (zT S1005 (by decide) rfl) (zW_f F1006 (by decide) (by decide)) ?_
      have t1023 := congrArg Int32.toInt (f1007)
      have t1024 := congrArg Int32.toInt (f1008)
      have t1025 := congrArg Int32.toInt (f1009)
      have t1026 := congrArg Int32.toInt (f1010)
      have t1027 := congrArg Int32.toInt (f1011)
      refine z_cl rfl rfl rfl rfl rfl rfl rfl rfl rfl rfl rfl (zT S1005 (by decide) rfl) ?_
      refine c_note (k := k) (w := x1022) (v := (ez_I h 52 11)) S1005 (by rw [(show ez_I h1001 55 2 = ez_I h 55 2 from zW_f F1006 (by decide) (by decide))]; omega) (by omega) (fun h1028 F1029 k1030 k1031 => ?_)
      rw [show (6 * k.toInt + x1022.toInt).toNat = (6 * k.toInt + 2).toNat by omega] at k1030 k1031
      have S1032 := zW_sh F1029 S1005
      have F1033 := zW_tr F1006 (zW_mono F1029 (x41_2) (x41_17) (x41_18))
      have f1034 : ez_I h1028 61 1 = (ez_I h642 61 1) := (zW_f F1029 (by decide) (fun c => c)).trans (f1007)
      have f1035 : ez_I h1028 61 2 = (ez_I h642 61 2) := (zW_f F1029 (by decide) (fun c => c)).trans (f1008)
      have f1036 : ez_I h1028 61 5 = (ez_I h642 61 5) := (zW_f F1029 (by decide) (fun c => c)).trans (f1009)
      have f1037 : ez_I h1028 61 7 = (ez_I h642 61 7) := (zW_f F1029 (by decide) (fun c => c)).trans (f1010)
      have f1038 : ez_I h1028 43 4 = (ez_I h642 43 4) := (zW_f F1029 (by decide) (fun c => c)).trans (f1011)
      have A1039 : (∀ k, k < 288 → nL (ez_I h1028 30) k = LNf cl 286 15 k) := by rw [zW_fn F1029 30 (by decide) (fun _ c => c)]; exact A1012
      have A1040 : aR (ez_I h1028 30) 288 0 15 := by rw [zW_fn F1029 30 (by decide) (fun _ c => c)]; exact A1013
      have A1041 : (∀ k, k < 286 → 1 ≤ cl k → 1 ≤ nL (ez_I h1028 30) k) := by rw [zW_fn F1029 30 (by decide) (fun _ c => c)]; exact A1014
      have A1042 : (∀ k, k < 288 → nL (ez_I h1028 37) k = LDx cd k) := by rw [zW_fn F1029 37 (by decide) (fun _ c => c)]; exact A1015
      have A1043 : aR (ez_I h1028 37) 288 0 15 := by rw [zW_fn F1029 37 (by decide) (fun _ c => c)]; exact A1016
      have A1044 : (∀ k, k < 30 → 1 ≤ cd k → 1 ≤ nL (ez_I h1028 37) k) := by rw [zW_fn F1029 37 (by decide) (fun _ c => c)]; exact A1017
      have A1045 : plP (ez_I h1028 61) (ez_I h1028 63) (ez_I h1028 64) (ez_I h1028 44) (ez_I h1028 45) (nL (ez_I h1028 30)) (nL (ez_I h1028 37)) c645 := by rw [zW_fn F1029 61 (by decide) (fun _ c => c), zW_fn F1029 63 (by decide) (fun _ c => c), zW_fn F1029 64 (by decide) (fun _ c => c), zW_fn F1029 44 (by decide) (fun _ c => c), zW_fn F1029 45 (by decide) (fun _ c => c), zW_fn F1029 30 (by decide) (fun _ c => c), zW_fn F1029 37 (by decide) (fun _ c => c)]; exact A1018
      have A1046 : x643.toInt = (hdB (nL (ez_I h1028 30)) (nL (ez_I h1028 37)) c645 : Nat) := by rw [zW_fn F1029 30 (by decide) (fun _ c => c), zW_fn F1029 37 (by decide) (fun _ c => c)]; exact A1019
      clear A1012
      clear A1013
      clear A1014
      clear A1015
      clear A1016
      clear A1017
      clear A1018
      clear A1019
      have A1047 : (ez_I h1028 56 (6 * k.toInt + 0).toNat).toInt = x1000.toInt := (by rw [k1031 _ (by omega)]; exact A1020)
      have A1048 : (ez_I h1028 56 (6 * k.toInt + 2).toNat).toInt = ((ez_I h 52 11)).toInt := (by rw [k1030])
      have A1049 : (∀ j : Nat, (¬ (6 * k.toInt ≤ (j : Int) ∧ (j : Int) < 6 * k.toInt + 6) ∨ j = (6 * k.toInt + 1).toNat) → ez_I h1028 56 j = ez_I h 56 j) := (fun j hj => (k1031 j (by omega)).trans (A1021 j hj))
      refine gw_ld rfl rfl ?_
      refine z_gR (q := 55) (zT S1032 (by decide) rfl) (zRf S1032 (by decide) (by decide) rfl) (by decide) ?_
      refine gw_ld rfl rfl ?_
      refine z_C (m := 3) rfl rfl (fun x1050 ex1050 => ?_)
      refine gw_ld rfl rfl ?_
      have t1051 := congrArg Int32.toInt (f1034)
      have t1052 := congrArg Int32.toInt (f1035)
      have t1053 := congrArg Int32.toInt (f1036)
      have t1054 := congrArg Int32.toInt (f1037)
      have t1055 := congrArg Int32.toInt (f1038)
      refine z_cl rfl rfl rfl rfl rfl rfl rfl rfl rfl rfl rfl (zT S1032 (by decide) rfl) ?_
      refine c_note (k := k) (w := x1050) (v := x706) S1032 (by rw [(show ez_I h1028 55 2 = ez_I h 55 2 from zW_f F1033 (by decide) (by decide))]; omega) (by omega) (fun h1056 F1057 k1058 k1059 => ?_)
      rw [show (6 * k.toInt + x1050.toInt).toNat = (6 * k.toInt + 3).toNat by omega] at k1058 k1059
      have S1060 := zW_sh F1057 S1032
      have F1061 := zW_tr F1033 (zW_mono F1057 (x41_2) (x41_17) (x41_18))
      have f1062 : ez_I h1056 61 1 = (ez_I h642 61 1) := (zW_f F1057 (by decide) (fun c => c)).trans (f1034)
      have f1063 : ez_I h1056 61 2 = (ez_I h642 61 2) := (zW_f F1057 (by decide) (fun c => c)).trans (f1035)
      have f1064 : ez_I h1056 61 5 = (ez_I h642 61 5) := (zW_f F1057 (by decide) (fun c => c)).trans (f1036)
      have f1065 : ez_I h1056 61 7 = (ez_I h642 61 7) := (zW_f F1057 (by decide) (fun c => c)).trans (f1037)
      have f1066 : ez_I h1056 43 4 = (ez_I h642 43 4) := (zW_f F1057 (by decide) (fun c => c)).trans (f1038)
      have A1067 : (∀ k, k < 288 → nL (ez_I h1056 30) k = LNf cl 286 15 k) := by rw [zW_fn F1057 30 (by decide) (fun _ c => c)]; exact A1039
      have A1068 : aR (ez_I h1056 30) 288 0 15 := by rw [zW_fn F1057 30 (by decide) (fun _ c => c)]; exact A1040
      have A1069 : (∀ k, k < 286 → 1 ≤ cl k → 1 ≤ nL (ez_I h1056 30) k) := by rw [zW_fn F1057 30 (by decide) (fun _ c => c)]; exact A1041
      have A1070 : (∀ k, k < 288 → nL (ez_I h1056 37) k = LDx cd k) := by rw [zW_fn F1057 37 (by decide) (fun _ c => c)]; exact A1042
      have A1071 : aR (ez_I h1056 37) 288 0 15 := by rw [zW_fn F1057 37 (by decide) (fun _ c => c)]; exact A1043
      have A1072 : (∀ k, k < 30 → 1 ≤ cd k → 1 ≤ nL (ez_I h1056 37) k) := by rw [zW_fn F1057 37 (by decide) (fun _ c => c)]; exact A1044
      have A1073 : plP (ez_I h1056 61) (ez_I h1056 63) (ez_I h1056 64) (ez_I h1056 44) (ez_I h1056 45) (nL (ez_I h1056 30)) (nL (ez_I h1056 37)) c645 := by rw [zW_fn F1057 61 (by decide) (fun _ c => c), zW_fn F1057 63 (by decide) (fun _ c => c), zW_fn F1057 64 (by decide) (fun _ c => c), zW_fn F1057 44 (by decide) (fun _ c => c), zW_fn F1057 45 (by decide) (fun _ c => c), zW_fn F1057 30 (by decide) (fun _ c => c), zW_fn F1057 37 (by decide) (fun _ c => c)]; exact A1045
      have A1074 : x643.toInt = (hdB (nL (ez_I h1056 30)) (nL (ez_I h1056 37)) c645 : Nat) := by rw [zW_fn F1057 30 (by decide) (fun _ c => c), zW_fn F1057 37 (by decide) (fun _ c => c)]; exact A1046
      clear A1039
      clear A1040
      clear A1041
      clear A1042
      clear A1043
      clear A1044
      clear A1045
      clear A1046
      have A1075 : (ez_I h1056 56 (6 * k.toInt + 0).toNat).toInt = x1000.toInt := (by rw [k1059 _ (by omega)]; exact A1047)
      have A1076 : (ez_I h1056 56 (6 * k.toInt + 2).toNat).toInt = ((ez_I h 52 11)).toInt := (by rw [k1059 _ (by omega)]; exact A1048)
      have A1077 : (ez_I h1056 56 (6 * k.toInt + 3).toNat).toInt = x706.toInt := (by rw [k1058])
      have A1078 : (∀ j : Nat, (¬ (6 * k.toInt ≤ (j : Int) ∧ (j : Int) < 6 * k.toInt + 6) ∨ j = (6 * k.toInt + 1).toNat) → ez_I h1056 56 j = ez_I h 56 j) := (fun j hj => (k1059 j (by omega)).trans (A1049 j hj))
      refine gw_ld rfl rfl ?_
      refine z_gR (q := 55) (zT S1060 (by decide) rfl) (zRf S1060 (by decide) (by decide) rfl) (by decide) ?_
      refine gw_ld rfl rfl ?_
      refine z_C (m := 4) rfl rfl (fun x1079 ex1079 => ?_)
      refine gw_ld rfl rfl ?_
      have t1080 := congrArg Int32.toInt (f1062)
      have t1081 := congrArg Int32.toInt (f1063)
      have t1082 := congrArg Int32.toInt (f1064)
      have t1083 := congrArg Int32.toInt (f1065)
      have t1084 := congrArg Int32.toInt (f1066)
      refine z_cl rfl rfl rfl rfl rfl rfl rfl rfl rfl rfl rfl (zT S1060 (by decide) rfl) ?_
      refine c_note (k := k) (w := x1079) (v := x693) S1060 (by rw [(show ez_I h1056 55 2 = ez_I h 55 2 from zW_f F1061 (by decide) (by decide))]; omega) (by omega) (fun h1085 F1086 k1087 k1088 => ?_)
      rw [show (6 * k.toInt + x1079.toInt).toNat = (6 * k.toInt + 4).toNat by omega] at k1087 k1088
      have S1089 := zW_sh F1086 S1060
      have F1090 := zW_tr F1061 (zW_mono F1086 (x41_2) (x41_17) (x41_18))
      have f1091 : ez_I h1085 61 1 = (ez_I h642 61 1) := (zW_f F1086 (by decide) (fun c => c)).trans (f1062)
      have f1092 : ez_I h1085 61 2 = (ez_I h642 61 2) := (zW_f F1086 (by decide) (fun c => c)).trans (f1063)
      have f1093 : ez_I h1085 61 5 = (ez_I h642 61 5) := (zW_f F1086 (by decide) (fun c => c)).trans (f1064)
      have f1094 : ez_I h1085 61 7 = (ez_I h642 61 7) := (zW_f F1086 (by decide) (fun c => c)).trans (f1065)
      have f1095 : ez_I h1085 43 4 = (ez_I h642 43 4) := (zW_f F1086 (by decide) (fun c => c)).trans (f1066)
      have A1096 : (∀ k, k < 288 → nL (ez_I h1085 30) k = LNf cl 286 15 k) := by rw [zW_fn F1086 30 (by decide) (fun _ c => c)]; exact A1067
      have A1097 : aR (ez_I h1085 30) 288 0 15 := by rw [zW_fn F1086 30 (by decide) (fun _ c => c)]; exact A1068
      have A1098 : (∀ k, k < 286 → 1 ≤ cl k → 1 ≤ nL (ez_I h1085 30) k) := by rw [zW_fn F1086 30 (by decide) (fun _ c => c)]; exact A1069
      have A1099 : (∀ k, k < 288 → nL (ez_I h1085 37) k = LDx cd k) := by rw [zW_fn F1086 37 (by decide) (fun _ c => c)]; exact A1070
      have A1100 : aR (ez_I h1085 37) 288 0 15 := by rw [zW_fn F1086 37 (by decide) (fun _ c => c)]; exact A1071
      have A1101 : (∀ k, k < 30 → 1 ≤ cd k → 1 ≤ nL (ez_I h1085 37) k) := by rw [zW_fn F1086 37 (by decide) (fun _ c => c)]; exact A1072
      have A1102 : plP (ez_I h1085 61) (ez_I h1085 63) (ez_I h1085 64) (ez_I h1085 44) (ez_I h1085 45) (nL (ez_I h1085 30)) (nL (ez_I h1085 37)) c645 := by rw [zW_fn F1086 61 (by decide) (fun _ c => c), zW_fn F1086 63 (by decide) (fun _ c => c), zW_fn F1086 64 (by decide) (fun _ c => c), zW_fn F1086 44 (by decide) (fun _ c => c), zW_fn F1086 45 (by decide) (fun _ c => c), zW_fn F1086 30 (by decide) (fun _ c => c), zW_fn F1086 37 (by decide) (fun _ c => c)]; exact A1073
      have A1103 : x643.toInt = (hdB (nL (ez_I h1085 30)) (nL (ez_I h1085 37)) c645 : Nat) := by rw [zW_fn F1086 30 (by decide) (fun _ c => c), zW_fn F1086 37 (by decide) (fun _ c => c)]; exact A1074
      clear A1067
      clear A1068
      clear A1069
      clear A1070
      clear A1071
      clear A1072
      clear A1073
      clear A1074
      have A1104 : (ez_I h1085 56 (6 * k.toInt + 0).toNat).toInt = x1000.toInt := (by rw [k1088 _ (by omega)]; exact A1075)
      have A1105 : (ez_I h1085 56 (6 * k.toInt + 2).toNat).toInt = ((ez_I h 52 11)).toInt := (by rw [k1088 _ (by omega)]; exact A1076)
      have A1106 : (ez_I h1085 56 (6 * k.toInt + 3).toNat).toInt = x706.toInt := (by rw [k1088 _ (by omega)]; exact A1077)
      have A1107 : (ez_I h1085 56 (6 * k.toInt + 4).toNat).toInt = x693.toInt := (by rw [k1087])
      have A1108 : (∀ j : Nat, (¬ (6 * k.toInt ≤ (j : Int) ∧ (j : Int) < 6 * k.toInt + 6) ∨ j = (6 * k.toInt + 1).toNat) → ez_I h1085 56 j = ez_I h 56 j) := (fun j hj => (k1088 j (by omega)).trans (A1078 j hj))
      refine gw_ld rfl rfl ?_
      refine z_gR (q := 55) (zT S1089 (by decide) rfl) (zRf S1089 (by decide) (by decide) rfl) (by decide) ?_
      refine gw_ld rfl rfl ?_
      refine z_C (m := 5) rfl rfl (fun x1109 ex1109 => ?_)
      refine gw_ld rfl rfl ?_
      have t1110 := congrArg Int32.toInt (f1091)
      have t1111 := congrArg Int32.toInt (f1092)
      have t1112 := congrArg Int32.toInt (f1093)
      have t1113 := congrArg Int32.toInt (f1094)
      have t1114 := congrArg Int32.toInt (f1095)
      refine z_cl rfl rfl rfl rfl rfl rfl rfl rfl rfl rfl rfl (zT S1089 (by decide) rfl) ?_
      refine c_note (k := k) (w := x1109) (v := x681) S1089 (by rw [(show ez_I h1085 55 2 = ez_I h 55 2 from zW_f F1090 (by decide) (by decide))]; omega) (by omega) (fun h1115 F1116 k1117 k1118 => ?_)
      rw [show (6 * k.toInt + x1109.toInt).toNat = (6 * k.toInt + 5).toNat by omega] at k1117 k1118
      have S1119 := zW_sh F1116 S1089
      have F1120 := zW_tr F1090 (zW_mono F1116 (x41_2) (x41_17) (x41_18))
      have f1121 : ez_I h1115 61 1 = (ez_I h642 61 1) := (zW_f F1116 (by decide) (fun c => c)).trans (f1091)
      have f1122 : ez_I h1115 61 2 = (ez_I h642 61 2) := (zW_f F1116 (by decide) (fun c => c)).trans (f1092)
      have f1123 : ez_I h1115 61 5 = (ez_I h642 61 5) := (zW_f F1116 (by decide) (fun c => c)).trans (f1093)
      have f1124 : ez_I h1115 61 7 = (ez_I h642 61 7) := (zW_f F1116 (by decide) (fun c => c)).trans (f1094)
      have f1125 : ez_I h1115 43 4 = (ez_I h642 43 4) := (zW_f F1116 (by decide) (fun c => c)).trans (f1095)
      have A1126 : (∀ k, k < 288 → nL (ez_I h1115 30) k = LNf cl 286 15 k) := by rw [zW_fn F1116 30 (by decide) (fun _ c => c)]; exact A1096
      have A1127 : aR (ez_I h1115 30) 288 0 15 := by rw [zW_fn F1116 30 (by decide) (fun _ c => c)]; exact A1097
      have A1128 : (∀ k, k < 286 → 1 ≤ cl k → 1 ≤ nL (ez_I h1115 30) k) := by rw [zW_fn F1116 30 (by decide) (fun _ c => c)]; exact A1098
      have A1129 : (∀ k, k < 288 → nL (ez_I h1115 37) k = LDx cd k) := by rw [zW_fn F1116 37 (by decide) (fun _ c => c)]; exact A1099
      have A1130 : aR (ez_I h1115 37) 288 0 15 := by rw [zW_fn F1116 37 (by decide) (fun _ c => c)]; exact A1100
      have A1131 : (∀ k, k < 30 → 1 ≤ cd k → 1 ≤ nL (ez_I h1115 37) k) := by rw [zW_fn F1116 37 (by decide) (fun _ c => c)]; exact A1101
      have A1132 : plP (ez_I h1115 61) (ez_I h1115 63) (ez_I h1115 64) (ez_I h1115 44) (ez_I h1115 45) (nL (ez_I h1115 30)) (nL (ez_I h1115 37)) c645 := by rw [zW_fn F1116 61 (by decide) (fun _ c => c), zW_fn F1116 63 (by decide) (fun _ c => c), zW_fn F1116 64 (by decide) (fun _ c => c), zW_fn F1116 44 (by decide) (fun _ c => c), zW_fn F1116 45 (by decide) (fun _ c => c), zW_fn F1116 30 (by decide) (fun _ c => c), zW_fn F1116 37 (by decide) (fun _ c => c)]; exact A1102
      have A1133 : x643.toInt = (hdB (nL (ez_I h1115 30)) (nL (ez_I h1115 37)) c645 : Nat) := by rw [zW_fn F1116 30 (by decide) (fun _ c => c), zW_fn F1116 37 (by decide) (fun _ c => c)]; exact A1103
      clear A1096
      clear A1097
      clear A1098
      clear A1099
      clear A1100
      clear A1101
      clear A1102
      clear A1103
      have A1134 : (ez_I h1115 56 (6 * k.toInt + 0).toNat).toInt = x1000.toInt := (by rw [k1118 _ (by omega)]; exact A1104)
      have A1135 : (ez_I h1115 56 (6 * k.toInt + 2).toNat).toInt = ((ez_I h 52 11)).toInt := (by rw [k1118 _ (by omega)]; exact A1105)
      have A1136 : (ez_I h1115 56 (6 * k.toInt + 3).toNat).toInt = x706.toInt := (by rw [k1118 _ (by omega)]; exact A1106)
      have A1137 : (ez_I h1115 56 (6 * k.toInt + 4).toNat).toInt = x693.toInt := (by rw [k1118 _ (by omega)]; exact A1107)
      have A1138 : (ez_I h1115 56 (6 * k.toInt + 5).toNat).toInt = x681.toInt := (by rw [k1117])
      have A1139 : (∀ j : Nat, (¬ (6 * k.toInt ≤ (j : Int) ∧ (j : Int) < 6 * k.toInt + 6) ∨ j = (6 * k.toInt + 1).toNat) → ez_I h1115 56 j = ez_I h 56 j) := (fun j hj => (k1118 j (by omega)).trans (A1108 j hj))
      refine z_rv ?_
      have t1140 := congrArg Int32.toInt (f1121)
      have t1141 := congrArg Int32.toInt (f1122)
      have t1142 := congrArg Int32.toInt (f1123)
      have t1143 := congrArg Int32.toInt (f1124)
      have t1144 := congrArg Int32.toInt (f1125)
      have K2 := K _ F1120 c645
      have hDY : x681.toInt = (3 + (hdB (nL (ez_I h1115 30)) (nL (ez_I h1115 37)) c645 : Nat) + (ez_I h 52 10).toInt + (sN (fun i => cd i * LNf cd 30 15 i) 30 : Nat) + (sN (fun i => cl i * LNf cl 286 15 i) 286 : Nat)) := by have := A1133; omega
      have hFI : x693.toInt = (3 + (ez_I h 52 10).toInt + (sN (fun i => cl i * fxL i) 286 : Nat) + (sN (fun i => cd i * fxD i) 30 : Nat)) := by omega
      have hST : x704.toInt = (3 + (-((ez_I h 68 2).toInt + 3)) % 8 + 32 + 8 * (ez_I h 52 11).toInt) := by omega
      rw [← hDY, ← hFI, ← hST] at K2
      exact K2 A1132 A1126 A1127 A1128 A1129 A1130 A1131 ⟨by rw [A1138], by rw [A1137], by rw [A1135], by rw [A1136]; split <;> (try split) <;> omega, by rw [A1134]; split <;> (try split) <;> omega⟩ A1139
