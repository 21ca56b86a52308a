/-! all blocks -/
def bnP (c b : Nat) : Prop := c = 0 ∧ b = 1 ∨ 0 < c ∧ b = (c + 599) / 600
theorem bn_k {c b k : Nat} (h : bnP c b) (hk : k < b) : 600 * k ≤ c ∧ min (600 * k) c = 600 * k ∧ min (600 * (k + 1)) c = 600 * k + min 600 (c - 600 * k) := by unfold bnP at h; omega
noncomputable def blJ (c i : Nat) : Nat := min 600 (c - 600 * i)
/-- what the book holds of a block -/
def bfC (f g : Nat → Int32) (T : Nat → Int) (n c b i : Nat) : Prop := (f (6 * i)).toInt = (bkW T n (600 * i) (blJ c i) (pkS T n c b i).2 : Nat) ∧ (f (6 * i + 1)).toInt = (blJ c i : Nat) ∧ (f (6 * i + 2)).toInt = (bkY T n (600 * i) (blJ c i) : Nat) ∧ (f (6 * i + 3)).toInt = (bkB T n (600 * i) (blJ c i) (pkS T n c b i).2 : Nat) ∧ (f (6 * i + 4)).toInt = (bkFX T n (600 * i) (blJ c i) : Nat) ∧ (f (6 * i + 5)).toInt = (bkDY T n (600 * i) (blJ c i) : Nat) ∧ (bkW T n (600 * i) (blJ c i) (pkS T n c b i).2 = 2 → (∀ s, s < 286 → (g (335 * i + s)).toInt = (bkL T n (600 * i) (blJ c i) s : Nat)) ∧ (∀ s, s < 30 → (g (335 * i + 286 + s)).toInt = (bkE T n (600 * i) (blJ c i) s : Nat)) ∧ ∀ s, s < 19 → (g (335 * i + 316 + s)).toInt = (bkA T n (600 * i) (blJ c i) s : Nat))
theorem bfC_fr {f f2 g g2 : Nat → Int32} {T : Nat → Int} {n c b i : Nat} (A : bfC f g T n c b i) (h1 : ∀ j, 6 * i ≤ j → j < 6 * i + 6 → f2 j = f j) (h2 : ∀ j, 335 * i ≤ j → j < 335 * i + 335 → g2 j = g j) : bfC f2 g2 T n c b i := by
  obtain ⟨a0, a1, a2, a3, a4, a5, a6⟩ := A
  refine ⟨by rw [h1 _ (by omega) (by omega)]; exact a0, by rw [h1 _ (by omega) (by omega)]; exact a1, by rw [h1 _ (by omega) (by omega)]; exact a2, by rw [h1 _ (by omega) (by omega)]; exact a3, by rw [h1 _ (by omega) (by omega)]; exact a4, by rw [h1 _ (by omega) (by omega)]; exact a5, fun q => ?_⟩
  obtain ⟨b0, b1, b2⟩ := a6 q
  exact ⟨fun s hs => by rw [h2 _ (by omega) (by omega)]; exact b0 s hs, fun s hs => by rw [h2 _ (by omega) (by omega)]; exact b1 s hs, fun s hs => by rw [h2 _ (by omega) (by omega)]; exact b2 s hs⟩
theorem pk_s (T : Nat → Int) (n c b k : Nat) : pkS T n c b (k + 1) = bkS T n (600 * k) (blJ c k) (if k + 1 = b then 1 else 0) (pkS T n c b k) := rfl
/-- the ways and costs as ints -/
theorem bk_int {T : Nat → Int} {n a j z : Nat} {st fx dy w b : Int} (h1 : st = (bkST T n a j z : Nat)) (h2 : fx = (bkFX T n a j : Nat)) (h3 : dy = (bkDY T n a j : Nat)) (hb : b = (if st ≤ fx ∧ st ≤ dy then st else if fx ≤ dy then fx else dy)) (hw : w = (if st ≤ fx ∧ st ≤ dy then 0 else if fx ≤ dy then 1 else 2)) : w = (bkW T n a j z : Nat) ∧ b = (bkB T n a j z : Nat) := by
  unfold bkW bkB
  by_cases c0 : bkST T n a j z ≤ bkFX T n a j ∧ bkST T n a j z ≤ bkDY T n a j
  · rw [if_pos (by omega)] at hb hw
    rw [if_pos c0, if_pos c0]
    exact ⟨hw, by omega⟩
  · rw [if_neg (by omega)] at hb hw
    rw [if_neg c0, if_neg c0]
    by_cases c1 : bkFX T n a j ≤ bkDY T n a j
    · rw [if_pos (by omega)] at hb hw
      rw [if_pos c1, if_pos c1]
      exact ⟨hw, by omega⟩
    · rw [if_neg (by omega)] at hb hw
      rw [if_neg c1, if_neg c1]
      exact ⟨hw, by omega⟩
def mnP (c k j : Nat) : Prop := min (600 * (k + 1)) c = 600 * k + j
/-! PRINTED by wip/pack: the class packs -/
theorem x67_0 : ∀ q k : Nat, (q = 68 ∧ k = 1 ∨ q = 68 ∧ k = 2 ∨ q = 50 ∧ k = 1) → (q = 53 ∧ k = 1 ∨ q = 58 ∧ k = 2 ∨ q = 68 ∧ k = 1 ∨ q = 68 ∧ k = 2 ∨ q = 50 ∧ k = 1 ∨ q = 55 ∧ k = 2 ∨ q = 52 ∧ k = 10 ∨ q = 52 ∧ k = 11 ∨ q = 61 ∧ k = 1 ∨ q = 61 ∧ k = 2 ∨ q = 61 ∧ k = 5 ∨ q = 61 ∧ k = 7 ∨ q = 43 ∧ k = 4 ∨ q = 29 ∧ k = 4 ∨ q = 36 ∧ k = 4) := fun q k hk => hk.elim (fun g => (.inr (.inr (.inl g)))) (fun hk => hk.elim (fun g => (.inr (.inr (.inr (.inl g))))) (fun hk => (.inr (.inr (.inr (.inr (.inl hk)))))))
theorem x67_1 : ∀ q : Nat, (q = 51) → (q = 54 ∨ q = 59 ∨ q = 60 ∨ q = 51 ∨ q = 66 ∨ q = 67 ∨ q = 10 ∨ q = 13 ∨ 30 ≤ q ∧ q ≤ 35 ∨ 37 ≤ q ∧ q ≤ 42 ∨ 44 ≤ q ∧ q ≤ 49 ∨ q = 56 ∨ q = 57 ∨ 62 ≤ q ∧ q ≤ 65) := fun q hk => (.inr (.inr (.inr (.inl hk))))
theorem x67_2 : ∀ q : Nat, (False) → (q = 11 ∨ q = 12) := fun q hk => hk.elim
theorem x67_3 : ∀ k : Nat, ¬ (54 = 68 ∧ k = 1 ∨ 54 = 68 ∧ k = 2 ∨ 54 = 50 ∧ k = 1) := fun k c => by omega
theorem x67_4 : ∀ k : Nat, ¬ (56 = 68 ∧ k = 1 ∨ 56 = 68 ∧ k = 2 ∨ 56 = 50 ∧ k = 1) := fun k c => by omega
theorem x67_5 : ∀ k : Nat, ¬ (57 = 68 ∧ k = 1 ∨ 57 = 68 ∧ k = 2 ∨ 57 = 50 ∧ k = 1) := fun k c => by omega
theorem x67_6 : ∀ q k : Nat, (q = 52 ∧ k = 10 ∨ q = 52 ∧ k = 11) → (q = 53 ∧ k = 1 ∨ q = 58 ∧ k = 2 ∨ q = 68 ∧ k = 1 ∨ q = 68 ∧ k = 2 ∨ q = 50 ∧ k = 1 ∨ q = 55 ∧ k = 2 ∨ q = 52 ∧ k = 10 ∨ q = 52 ∧ k = 11 ∨ q = 61 ∧ k = 1 ∨ q = 61 ∧ k = 2 ∨ q = 61 ∧ k = 5 ∨ q = 61 ∧ k = 7 ∨ q = 43 ∧ k = 4 ∨ q = 29 ∧ k = 4 ∨ q = 36 ∧ k = 4) := fun q k hk => hk.elim (fun g => (.inr (.inr (.inr (.inr (.inr (.inr (.inl g)))))))) (fun hk => (.inr (.inr (.inr (.inr (.inr (.inr (.inr (.inl hk)))))))))
theorem x67_7 : ∀ q : Nat, (q = 66 ∨ q = 67) → (q = 54 ∨ q = 59 ∨ q = 60 ∨ q = 51 ∨ q = 66 ∨ q = 67 ∨ q = 10 ∨ q = 13 ∨ 30 ≤ q ∧ q ≤ 35 ∨ 37 ≤ q ∧ q ≤ 42 ∨ 44 ≤ q ∧ q ≤ 49 ∨ q = 56 ∨ q = 57 ∨ 62 ≤ q ∧ q ≤ 65) := fun q hk => hk.elim (fun g => (.inr (.inr (.inr (.inr (.inl g)))))) (fun hk => (.inr (.inr (.inr (.inr (.inr (.inl hk)))))))
theorem x67_8 : ∀ k : Nat, ¬ (54 = 52 ∧ k = 10 ∨ 54 = 52 ∧ k = 11) := fun k c => by omega
theorem x67_9 : ∀ k : Nat, ¬ (51 = 52 ∧ k = 10 ∨ 51 = 52 ∧ k = 11) := fun k c => by omega
theorem x67_10 : ∀ k : Nat, ¬ (50 = 52 ∧ k = 10 ∨ 50 = 52 ∧ k = 11) := fun k c => by omega
theorem x67_11 : ∀ k : Nat, ¬ (68 = 52 ∧ k = 10 ∨ 68 = 52 ∧ k = 11) := fun k c => by omega
theorem x67_12 : ∀ k : Nat, ¬ (56 = 52 ∧ k = 10 ∨ 56 = 52 ∧ k = 11) := fun k c => by omega
theorem x67_13 : ∀ k : Nat, ¬ (57 = 52 ∧ k = 10 ∨ 57 = 52 ∧ k = 11) := fun k c => by omega
theorem x67_14 : ∀ q k : Nat, (False) → (q = 53 ∧ k = 1 ∨ q = 58 ∧ k = 2 ∨ q = 68 ∧ k = 1 ∨ q = 68 ∧ k = 2 ∨ q = 50 ∧ k = 1 ∨ q = 55 ∧ k = 2 ∨ q = 52 ∧ k = 10 ∨ q = 52 ∧ k = 11 ∨ q = 61 ∧ k = 1 ∨ q = 61 ∧ k = 2 ∨ q = 61 ∧ k = 5 ∨ q = 61 ∧ k = 7 ∨ q = 43 ∧ k = 4 ∨ q = 29 ∧ k = 4 ∨ q = 36 ∧ k = 4) := fun q k hk => hk.elim
theorem x67_15 : ∀ q : Nat, (q = 56) → (q = 54 ∨ q = 59 ∨ q = 60 ∨ q = 51 ∨ q = 66 ∨ q = 67 ∨ q = 10 ∨ q = 13 ∨ 30 ≤ q ∧ q ≤ 35 ∨ 37 ≤ q ∧ q ≤ 42 ∨ 44 ≤ q ∧ q ≤ 49 ∨ q = 56 ∨ q = 57 ∨ 62 ≤ q ∧ q ≤ 65) := fun q hk => (.inr (.inr (.inr (.inr (.inr (.inr (.inr (.inr (.inr (.inr (.inr (.inl hk))))))))))))
theorem x67_16 : ¬ (16 = 54 ∨ 16 = 59 ∨ 16 = 60 ∨ 16 = 51 ∨ 16 = 66 ∨ 16 = 67 ∨ 16 = 10 ∨ 16 = 13 ∨ 30 ≤ 16 ∧ 16 ≤ 35 ∨ 37 ≤ 16 ∧ 16 ≤ 42 ∨ 44 ≤ 16 ∧ 16 ≤ 49 ∨ 16 = 56 ∨ 16 = 57 ∨ 62 ≤ 16 ∧ 16 ≤ 65) := by omega
theorem x67_17 : ∀ k : Nat, ¬ (16 = 53 ∧ k = 1 ∨ 16 = 58 ∧ k = 2 ∨ 16 = 68 ∧ k = 1 ∨ 16 = 68 ∧ k = 2 ∨ 16 = 50 ∧ k = 1 ∨ 16 = 55 ∧ k = 2 ∨ 16 = 52 ∧ k = 10 ∨ 16 = 52 ∧ k = 11 ∨ 16 = 61 ∧ k = 1 ∨ 16 = 61 ∧ k = 2 ∨ 16 = 61 ∧ k = 5 ∨ 16 = 61 ∧ k = 7 ∨ 16 = 43 ∧ k = 4 ∨ 16 = 29 ∧ k = 4 ∨ 16 = 36 ∧ k = 4) := fun k c => by omega
theorem x67_18 : ¬ (23 = 54 ∨ 23 = 59 ∨ 23 = 60 ∨ 23 = 51 ∨ 23 = 66 ∨ 23 = 67 ∨ 23 = 10 ∨ 23 = 13 ∨ 30 ≤ 23 ∧ 23 ≤ 35 ∨ 37 ≤ 23 ∧ 23 ≤ 42 ∨ 44 ≤ 23 ∧ 23 ≤ 49 ∨ 23 = 56 ∨ 23 = 57 ∨ 62 ≤ 23 ∧ 23 ≤ 65) := by omega
theorem x67_19 : ∀ k : Nat, ¬ (23 = 53 ∧ k = 1 ∨ 23 = 58 ∧ k = 2 ∨ 23 = 68 ∧ k = 1 ∨ 23 = 68 ∧ k = 2 ∨ 23 = 50 ∧ k = 1 ∨ 23 = 55 ∧ k = 2 ∨ 23 = 52 ∧ k = 10 ∨ 23 = 52 ∧ k = 11 ∨ 23 = 61 ∧ k = 1 ∨ 23 = 61 ∧ k = 2 ∨ 23 = 61 ∧ k = 5 ∨ 23 = 61 ∧ k = 7 ∨ 23 = 43 ∧ k = 4 ∨ 23 = 29 ∧ k = 4 ∨ 23 = 36 ∧ k = 4) := fun k c => by omega
theorem x67_20 : ∀ q k : Nat, (q = 61 ∧ k = 1 ∨ q = 61 ∧ k = 2 ∨ q = 61 ∧ k = 5 ∨ q = 61 ∧ k = 7 ∨ q = 43 ∧ k = 4) → (q = 53 ∧ k = 1 ∨ q = 58 ∧ k = 2 ∨ q = 68 ∧ k = 1 ∨ q = 68 ∧ k = 2 ∨ q = 50 ∧ k = 1 ∨ q = 55 ∧ k = 2 ∨ q = 52 ∧ k = 10 ∨ q = 52 ∧ k = 11 ∨ q = 61 ∧ k = 1 ∨ q = 61 ∧ k = 2 ∨ q = 61 ∧ k = 5 ∨ q = 61 ∧ k = 7 ∨ q = 43 ∧ k = 4 ∨ q = 29 ∧ k = 4 ∨ q = 36 ∧ k = 4) := fun q k hk => hk.elim (fun g => (.inr (.inr (.inr (.inr (.inr (.inr (.inr (.inr (.inl g)))))))))) (fun hk => hk.elim (fun g => (.inr (.inr (.inr (.inr (.inr (.inr (.inr (.inr (.inr (.inl g))))))))))) (fun hk => hk.elim (fun g => (.inr (.inr (.inr (.inr (.inr (.inr (.inr (.inr (.inr (.inr (.inl g)))))))))))) (fun hk => hk.elim (fun g => (.inr (.inr (.inr (.inr (.inr (.inr (.inr (.inr (.inr (.inr (.inr (.inl g))))))))))))) (fun hk => (.inr (.inr (.inr (.inr (.inr (.inr (.inr (.inr (.inr (.inr (.inr (.inr (.inl hk)))))))))))))))))
theorem x67_21 : ∀ q : Nat, (q = 10 ∨ q = 13 ∨ q = 30 ∨ q = 37 ∨ q = 44 ∨ q = 45 ∨ q = 46 ∨ q = 47 ∨ q = 48 ∨ q = 49 ∨ q = 56 ∨ q = 62 ∨ q = 63 ∨ q = 64 ∨ q = 65) → (q = 54 ∨ q = 59 ∨ q = 60 ∨ q = 51 ∨ q = 66 ∨ q = 67 ∨ q = 10 ∨ q = 13 ∨ 30 ≤ q ∧ q ≤ 35 ∨ 37 ≤ q ∧ q ≤ 42 ∨ 44 ≤ q ∧ q ≤ 49 ∨ q = 56 ∨ q = 57 ∨ 62 ≤ q ∧ q ≤ 65) := fun q hk => hk.elim (fun g => (.inr (.inr (.inr (.inr (.inr (.inr (.inl g)))))))) (fun hk => hk.elim (fun g => (.inr (.inr (.inr (.inr (.inr (.inr (.inr (.inl g))))))))) (fun hk => hk.elim (fun g => (.inr (.inr (.inr (.inr (.inr (.inr (.inr (.inr (.inl (show 30 ≤ q ∧ q ≤ 35 by omega))))))))))) (fun hk => hk.elim (fun g => (.inr (.inr (.inr (.inr (.inr (.inr (.inr (.inr (.inr (.inl (show 37 ≤ q ∧ q ≤ 42 by omega)))))))))))) (fun hk => hk.elim (fun g => (.inr (.inr (.inr (.inr (.inr (.inr (.inr (.inr (.inr (.inr (.inl (show 44 ≤ q ∧ q ≤ 49 by omega))))))))))))) (fun hk => hk.elim (fun g => (.inr (.inr (.inr (.inr (.inr (.inr (.inr (.inr (.inr (.inr (.inl (show 44 ≤ q ∧ q ≤ 49 by omega))))))))))))) (fun hk => hk.elim (fun g => (.inr (.inr (.inr (.inr (.inr (.inr (.inr (.inr (.inr (.inr (.inl (show 44 ≤ q ∧ q ≤ 49 by omega))))))))))))) (fun hk => hk.elim (fun g => (.inr (.inr (.inr (.inr (.inr (.inr (.inr (.inr (.inr (.inr (.inl (show 44 ≤ q ∧ q ≤ 49 by omega))))))))))))) (fun hk => hk.elim (fun g => (.inr (.inr (.inr (.inr (.inr (.inr (.inr (.inr (.inr (.inr (.inl (show 44 ≤ q ∧ q ≤ 49 by omega))))))))))))) (fun hk => hk.elim (fun g => (.inr (.inr (.inr (.inr (.inr (.inr (.inr (.inr (.inr (.inr (.inl (show 44 ≤ q ∧ q ≤ 49 by omega))))))))))))) (fun hk => hk.elim (fun g => (.inr (.inr (.inr (.inr (.inr (.inr (.inr (.inr (.inr (.inr (.inr (.inl g))))))))))))) (fun hk => hk.elim (fun g => (.inr (.inr (.inr (.inr (.inr (.inr (.inr (.inr (.inr (.inr (.inr (.inr (.inr (show 62 ≤ q ∧ q ≤ 65 by omega))))))))))))))) (fun hk => hk.elim (fun g => (.inr (.inr (.inr (.inr (.inr (.inr (.inr (.inr (.inr (.inr (.inr (.inr (.inr (show 62 ≤ q ∧ q ≤ 65 by omega))))))))))))))) (fun hk => hk.elim (fun g => (.inr (.inr (.inr (.inr (.inr (.inr (.inr (.inr (.inr (.inr (.inr (.inr (.inr (show 62 ≤ q ∧ q ≤ 65 by omega))))))))))))))) (fun hk => (.inr (.inr (.inr (.inr (.inr (.inr (.inr (.inr (.inr (.inr (.inr (.inr (.inr (show 62 ≤ q ∧ q ≤ 65 by omega))))))))))))))))))))))))))))
theorem x67_22 : ∀ q : Nat, (q = 11 ∨ q = 12) → (q = 11 ∨ q = 12) := fun q hk => hk.elim (fun g => (.inl g)) (fun hk => (.inr hk))
theorem x67_23 : ∀ k : Nat, ¬ (54 = 61 ∧ k = 1 ∨ 54 = 61 ∧ k = 2 ∨ 54 = 61 ∧ k = 5 ∨ 54 = 61 ∧ k = 7 ∨ 54 = 43 ∧ k = 4) := fun k c => by omega
theorem x67_24 : ∀ k : Nat, ¬ (51 = 61 ∧ k = 1 ∨ 51 = 61 ∧ k = 2 ∨ 51 = 61 ∧ k = 5 ∨ 51 = 61 ∧ k = 7 ∨ 51 = 43 ∧ k = 4) := fun k c => by omega
theorem x67_25 : ∀ k : Nat, ¬ (50 = 61 ∧ k = 1 ∨ 50 = 61 ∧ k = 2 ∨ 50 = 61 ∧ k = 5 ∨ 50 = 61 ∧ k = 7 ∨ 50 = 43 ∧ k = 4) := fun k c => by omega
theorem x67_26 : ∀ k : Nat, ¬ (68 = 61 ∧ k = 1 ∨ 68 = 61 ∧ k = 2 ∨ 68 = 61 ∧ k = 5 ∨ 68 = 61 ∧ k = 7 ∨ 68 = 43 ∧ k = 4) := fun k c => by omega
theorem x67_27 : ∀ k : Nat, ¬ (66 = 61 ∧ k = 1 ∨ 66 = 61 ∧ k = 2 ∨ 66 = 61 ∧ k = 5 ∨ 66 = 61 ∧ k = 7 ∨ 66 = 43 ∧ k = 4) := fun k c => by omega
theorem x67_28 : ∀ k : Nat, ¬ (67 = 61 ∧ k = 1 ∨ 67 = 61 ∧ k = 2 ∨ 67 = 61 ∧ k = 5 ∨ 67 = 61 ∧ k = 7 ∨ 67 = 43 ∧ k = 4) := fun k c => by omega
theorem x67_29 : ∀ k : Nat, ¬ (61 = 68 ∧ k = 1 ∨ 61 = 68 ∧ k = 2 ∨ 61 = 50 ∧ k = 1) := fun k c => by omega
theorem x67_30 : ∀ k : Nat, ¬ (63 = 68 ∧ k = 1 ∨ 63 = 68 ∧ k = 2 ∨ 63 = 50 ∧ k = 1) := fun k c => by omega
theorem x67_31 : ∀ k : Nat, ¬ (64 = 68 ∧ k = 1 ∨ 64 = 68 ∧ k = 2 ∨ 64 = 50 ∧ k = 1) := fun k c => by omega
theorem x67_32 : ∀ k : Nat, ¬ (44 = 68 ∧ k = 1 ∨ 44 = 68 ∧ k = 2 ∨ 44 = 50 ∧ k = 1) := fun k c => by omega
theorem x67_33 : ∀ k : Nat, ¬ (45 = 68 ∧ k = 1 ∨ 45 = 68 ∧ k = 2 ∨ 45 = 50 ∧ k = 1) := fun k c => by omega
theorem x67_34 : ∀ k : Nat, ¬ (30 = 68 ∧ k = 1 ∨ 30 = 68 ∧ k = 2 ∨ 30 = 50 ∧ k = 1) := fun k c => by omega
theorem x67_35 : ∀ k : Nat, ¬ (37 = 68 ∧ k = 1 ∨ 37 = 68 ∧ k = 2 ∨ 37 = 50 ∧ k = 1) := fun k c => by omega
theorem x67_36 : ¬ (2 = 54 ∨ 2 = 59 ∨ 2 = 60 ∨ 2 = 51 ∨ 2 = 66 ∨ 2 = 67 ∨ 2 = 10 ∨ 2 = 13 ∨ 30 ≤ 2 ∧ 2 ≤ 35 ∨ 37 ≤ 2 ∧ 2 ≤ 42 ∨ 44 ≤ 2 ∧ 2 ≤ 49 ∨ 2 = 56 ∨ 2 = 57 ∨ 62 ≤ 2 ∧ 2 ≤ 65) := by omega
theorem x67_37 : ¬ (2 = 53 ∧ 1 = 1 ∨ 2 = 58 ∧ 1 = 2 ∨ 2 = 68 ∧ 1 = 1 ∨ 2 = 68 ∧ 1 = 2 ∨ 2 = 50 ∧ 1 = 1 ∨ 2 = 55 ∧ 1 = 2 ∨ 2 = 52 ∧ 1 = 10 ∨ 2 = 52 ∧ 1 = 11 ∨ 2 = 61 ∧ 1 = 1 ∨ 2 = 61 ∧ 1 = 2 ∨ 2 = 61 ∧ 1 = 5 ∨ 2 = 61 ∧ 1 = 7 ∨ 2 = 43 ∧ 1 = 4 ∨ 2 = 29 ∧ 1 = 4 ∨ 2 = 36 ∧ 1 = 4) := by omega
theorem x67_38 : ¬ (3 = 54 ∨ 3 = 59 ∨ 3 = 60 ∨ 3 = 51 ∨ 3 = 66 ∨ 3 = 67 ∨ 3 = 10 ∨ 3 = 13 ∨ 30 ≤ 3 ∧ 3 ≤ 35 ∨ 37 ≤ 3 ∧ 3 ≤ 42 ∨ 44 ≤ 3 ∧ 3 ≤ 49 ∨ 3 = 56 ∨ 3 = 57 ∨ 62 ≤ 3 ∧ 3 ≤ 65) := by omega
theorem x67_39 : ∀ k : Nat, ¬ (3 = 53 ∧ k = 1 ∨ 3 = 58 ∧ k = 2 ∨ 3 = 68 ∧ k = 1 ∨ 3 = 68 ∧ k = 2 ∨ 3 = 50 ∧ k = 1 ∨ 3 = 55 ∧ k = 2 ∨ 3 = 52 ∧ k = 10 ∨ 3 = 52 ∧ k = 11 ∨ 3 = 61 ∧ k = 1 ∨ 3 = 61 ∧ k = 2 ∨ 3 = 61 ∧ k = 5 ∨ 3 = 61 ∧ k = 7 ∨ 3 = 43 ∧ k = 4 ∨ 3 = 29 ∧ k = 4 ∨ 3 = 36 ∧ k = 4) := fun k c => by omega
theorem x67_40 : ¬ (17 = 54 ∨ 17 = 59 ∨ 17 = 60 ∨ 17 = 51 ∨ 17 = 66 ∨ 17 = 67 ∨ 17 = 10 ∨ 17 = 13 ∨ 30 ≤ 17 ∧ 17 ≤ 35 ∨ 37 ≤ 17 ∧ 17 ≤ 42 ∨ 44 ≤ 17 ∧ 17 ≤ 49 ∨ 17 = 56 ∨ 17 = 57 ∨ 62 ≤ 17 ∧ 17 ≤ 65) := by omega
theorem x67_41 : ∀ k : Nat, ¬ (17 = 53 ∧ k = 1 ∨ 17 = 58 ∧ k = 2 ∨ 17 = 68 ∧ k = 1 ∨ 17 = 68 ∧ k = 2 ∨ 17 = 50 ∧ k = 1 ∨ 17 = 55 ∧ k = 2 ∨ 17 = 52 ∧ k = 10 ∨ 17 = 52 ∧ k = 11 ∨ 17 = 61 ∧ k = 1 ∨ 17 = 61 ∧ k = 2 ∨ 17 = 61 ∧ k = 5 ∨ 17 = 61 ∧ k = 7 ∨ 17 = 43 ∧ k = 4 ∨ 17 = 29 ∧ k = 4 ∨ 17 = 36 ∧ k = 4) := fun k c => by omega
theorem x67_42 : ¬ (24 = 54 ∨ 24 = 59 ∨ 24 = 60 ∨ 24 = 51 ∨ 24 = 66 ∨ 24 = 67 ∨ 24 = 10 ∨ 24 = 13 ∨ 30 ≤ 24 ∧ 24 ≤ 35 ∨ 37 ≤ 24 ∧ 24 ≤ 42 ∨ 44 ≤ 24 ∧ 24 ≤ 49 ∨ 24 = 56 ∨ 24 = 57 ∨ 62 ≤ 24 ∧ 24 ≤ 65) := by omega
theorem x67_43 : ∀ k : Nat, ¬ (24 = 53 ∧ k = 1 ∨ 24 = 58 ∧ k = 2 ∨ 24 = 68 ∧ k = 1 ∨ 24 = 68 ∧ k = 2 ∨ 24 = 50 ∧ k = 1 ∨ 24 = 55 ∧ k = 2 ∨ 24 = 52 ∧ k = 10 ∨ 24 = 52 ∧ k = 11 ∨ 24 = 61 ∧ k = 1 ∨ 24 = 61 ∧ k = 2 ∨ 24 = 61 ∧ k = 5 ∨ 24 = 61 ∧ k = 7 ∨ 24 = 43 ∧ k = 4 ∨ 24 = 29 ∧ k = 4 ∨ 24 = 36 ∧ k = 4) := fun k c => by omega
theorem x67_44 : ∀ q k : Nat, (q = 68 ∧ k = 1 ∨ q = 68 ∧ k = 2 ∨ q = 50 ∧ k = 1 ∨ q = 29 ∧ k = 4 ∨ q = 36 ∧ k = 4) → (q = 53 ∧ k = 1 ∨ q = 58 ∧ k = 2 ∨ q = 68 ∧ k = 1 ∨ q = 68 ∧ k = 2 ∨ q = 50 ∧ k = 1 ∨ q = 55 ∧ k = 2 ∨ q = 52 ∧ k = 10 ∨ q = 52 ∧ k = 11 ∨ q = 61 ∧ k = 1 ∨ q = 61 ∧ k = 2 ∨ q = 61 ∧ k = 5 ∨ q = 61 ∧ k = 7 ∨ q = 43 ∧ k = 4 ∨ q = 29 ∧ k = 4 ∨ q = 36 ∧ k = 4) := fun q k hk => hk.elim (fun g => (.inr (.inr (.inl g)))) (fun hk => hk.elim (fun g => (.inr (.inr (.inr (.inl g))))) (fun hk => hk.elim (fun g => (.inr (.inr (.inr (.inr (.inl g)))))) (fun hk => hk.elim (fun g => (.inr (.inr (.inr (.inr (.inr (.inr (.inr (.inr (.inr (.inr (.inr (.inr (.inr (.inl g))))))))))))))) (fun hk => (.inr (.inr (.inr (.inr (.inr (.inr (.inr (.inr (.inr (.inr (.inr (.inr (.inr (.inr hk))))))))))))))))))
theorem x67_45 : ∀ q : Nat, (q = 51 ∨ q = 57 ∨ 31 ≤ q ∧ q ≤ 35 ∨ 38 ≤ q ∧ q ≤ 42) → (q = 54 ∨ q = 59 ∨ q = 60 ∨ q = 51 ∨ q = 66 ∨ q = 67 ∨ q = 10 ∨ q = 13 ∨ 30 ≤ q ∧ q ≤ 35 ∨ 37 ≤ q ∧ q ≤ 42 ∨ 44 ≤ q ∧ q ≤ 49 ∨ q = 56 ∨ q = 57 ∨ 62 ≤ q ∧ q ≤ 65) := fun q hk => hk.elim (fun g => (.inr (.inr (.inr (.inl g))))) (fun hk => hk.elim (fun g => (.inr (.inr (.inr (.inr (.inr (.inr (.inr (.inr (.inr (.inr (.inr (.inr (.inl g)))))))))))))) (fun hk => hk.elim (fun g => (.inr (.inr (.inr (.inr (.inr (.inr (.inr (.inr (.inl (show 30 ≤ q ∧ q ≤ 35 by omega))))))))))) (fun hk => (.inr (.inr (.inr (.inr (.inr (.inr (.inr (.inr (.inr (.inl (show 37 ≤ q ∧ q ≤ 42 by omega))))))))))))))
theorem x67_46 : ∀ k : Nat, ¬ (54 = 68 ∧ k = 1 ∨ 54 = 68 ∧ k = 2 ∨ 54 = 50 ∧ k = 1 ∨ 54 = 29 ∧ k = 4 ∨ 54 = 36 ∧ k = 4) := fun k c => by omega
theorem x67_47 : ∀ k : Nat, ¬ (56 = 68 ∧ k = 1 ∨ 56 = 68 ∧ k = 2 ∨ 56 = 50 ∧ k = 1 ∨ 56 = 29 ∧ k = 4 ∨ 56 = 36 ∧ k = 4) := fun k c => by omega
theorem x67_48 : ∀ k : Nat, ¬ (61 = 68 ∧ k = 1 ∨ 61 = 68 ∧ k = 2 ∨ 61 = 50 ∧ k = 1 ∨ 61 = 29 ∧ k = 4 ∨ 61 = 36 ∧ k = 4) := fun k c => by omega
theorem x67_49 : ∀ k : Nat, ¬ (63 = 68 ∧ k = 1 ∨ 63 = 68 ∧ k = 2 ∨ 63 = 50 ∧ k = 1 ∨ 63 = 29 ∧ k = 4 ∨ 63 = 36 ∧ k = 4) := fun k c => by omega
theorem x67_50 : ∀ k : Nat, ¬ (64 = 68 ∧ k = 1 ∨ 64 = 68 ∧ k = 2 ∨ 64 = 50 ∧ k = 1 ∨ 64 = 29 ∧ k = 4 ∨ 64 = 36 ∧ k = 4) := fun k c => by omega
theorem x67_51 : ∀ k : Nat, ¬ (44 = 68 ∧ k = 1 ∨ 44 = 68 ∧ k = 2 ∨ 44 = 50 ∧ k = 1 ∨ 44 = 29 ∧ k = 4 ∨ 44 = 36 ∧ k = 4) := fun k c => by omega
theorem x67_52 : ∀ k : Nat, ¬ (45 = 68 ∧ k = 1 ∨ 45 = 68 ∧ k = 2 ∨ 45 = 50 ∧ k = 1 ∨ 45 = 29 ∧ k = 4 ∨ 45 = 36 ∧ k = 4) := fun k c => by omega
theorem x67_53 : ∀ k : Nat, ¬ (30 = 68 ∧ k = 1 ∨ 30 = 68 ∧ k = 2 ∨ 30 = 50 ∧ k = 1 ∨ 30 = 29 ∧ k = 4 ∨ 30 = 36 ∧ k = 4) := fun k c => by omega
theorem x67_54 : ∀ k : Nat, ¬ (37 = 68 ∧ k = 1 ∨ 37 = 68 ∧ k = 2 ∨ 37 = 50 ∧ k = 1 ∨ 37 = 29 ∧ k = 4 ∨ 37 = 36 ∧ k = 4) := fun k c => by omega
set_option maxRecDepth 4000 in
set_option maxHeartbeats 4000000 in
theorem c_run_L0 {E : Nat → Nat × (Nat → Int32)} {d : Nat} {Q : ez_Q} {h : ez_H}  (S : zSh h) (hE : zE E) (hz : 0 ≤ (ez_I h 2 1).toInt ∧ (ez_I h 2 1).toInt ≤ 6000) (hb : aR (ez_I h 3) (ez_I h 2 1).toInt.toNat 0 255) (a16 : aR (ez_I h 16) 288 0 15) (w17 : wdI (ez_I h 17) (nL (ez_I h 16)) 288 288) (f16 : ∀ k, k < 288 → nL (ez_I h 16) k = fxL k) (a23 : aR (ez_I h 23) 288 0 15) (w24 : wdI (ez_I h 24) (nL (ez_I h 23)) 288 288) (f23 : ∀ k, k < 288 → nL (ez_I h 23) k = fxD k) (K : ∀ h2, zW (fun q k => q = 53 ∧ k = 1 ∨ q = 58 ∧ k = 2 ∨ q = 68 ∧ k = 1 ∨ q = 68 ∧ k = 2 ∨ q = 50 ∧ k = 1 ∨ q = 55 ∧ k = 2 ∨ q = 52 ∧ k = 10 ∨ q = 52 ∧ k = 11 ∨ q = 61 ∧ k = 1 ∨ q = 61 ∧ k = 2 ∨ q = 61 ∧ k = 5 ∨ q = 61 ∧ k = 7 ∨ q = 43 ∧ k = 4 ∨ q = 29 ∧ k = 4 ∨ q = 36 ∧ k = 4) (fun q => q = 54 ∨ q = 59 ∨ q = 60 ∨ q = 51 ∨ q = 66 ∨ q = 67 ∨ q = 10 ∨ q = 13 ∨ 30 ≤ q ∧ q ≤ 35 ∨ 37 ≤ q ∧ q ≤ 42 ∨ 44 ≤ q ∧ q ≤ 49 ∨ q = 56 ∨ q = 57 ∨ 62 ≤ q ∧ q ≤ 65) (fun q => q = 11 ∨ q = 12) h h2 → ∀ c b : Nat, (ez_I h2 53 1).toInt = c → c ≤ 6000 → ltP (tI (ez_I h 3)) (ez_I h 2 1).toInt.toNat c → ptP (tI (ez_I h 3)) (ez_I h 2 1).toInt.toNat c = (ez_I h 2 1).toInt.toNat → pqG (ez_I h2 54) (aM (tI (ez_I h 3)) (ez_I h 2 1).toInt.toNat) (dI (tI (ez_I h 3)) (ez_I h 2 1).toInt.toNat) c → (ez_I h2 55 2).toInt = b → (c = 0 ∧ b = 1 ∨ 0 < c ∧ b = (c + 599) / 600) → (ez_I h2 50 1).toInt = ((((pkS (tI (ez_I h 3)) (ez_I h 2 1).toInt.toNat c b b).2 + 7) / 8 : Nat) : Int) → (ez_I h2 50 1).toInt ≤ 6100 → (∀ i : Nat, (i : Int) < (ez_I h2 50 1).toInt → (ez_I h2 51 i).toInt = (((pkS (tI (ez_I h 3)) (ez_I h 2 1).toInt.toNat c b b).1 / 256 ^ i % 256 : Nat) : Int)) → (∀ i, i < b → bfC (ez_I h2 56) (ez_I h2 57) (tI (ez_I h 3)) (ez_I h 2 1).toInt.toNat c b i) → Q (.inl none) h2) : ∀ N : Nat, (∀ (h2 : ez_H) (p : Int32) (k : Int32) (l4 : Option Value) (l5 : Option Value) (c : Nat) (b : Nat), zW (fun q k => q = 53 ∧ k = 1 ∨ q = 58 ∧ k = 2 ∨ q = 68 ∧ k = 1 ∨ q = 68 ∧ k = 2 ∨ q = 50 ∧ k = 1 ∨ q = 55 ∧ k = 2 ∨ q = 52 ∧ k = 10 ∨ q = 52 ∧ k = 11 ∨ q = 61 ∧ k = 1 ∨ q = 61 ∧ k = 2 ∨ q = 61 ∧ k = 5 ∨ q = 61 ∧ k = 7 ∨ q = 43 ∧ k = 4 ∨ q = 29 ∧ k = 4 ∨ q = 36 ∧ k = 4) (fun q => q = 54 ∨ q = 59 ∨ q = 60 ∨ q = 51 ∨ q = 66 ∨ q = 67 ∨ q = 10 ∨ q = 13 ∨ 30 ≤ q ∧ q ≤ 35 ∨ 37 ≤ q ∧ q ≤ 42 ∨ 44 ≤ q ∧ q ≤ 49 ∨ q = 56 ∨ q = 57 ∨ 62 ≤ q ∧ q ≤ 65) (fun q => q = 11 ∨ q = 12) h h2 → (0 ≤ k.toInt ∧ k.toInt ≤ b ∧ (ez_I h2 53 1).toInt = c ∧ c ≤ 6000 ∧ (ez_I h2 55 2).toInt = b ∧ b ≤ 10 ∧ bnP c b ∧ p.toInt = (ptP (tI (ez_I h 3)) (ez_I h 2 1).toInt.toNat (min (600 * k.toInt.toNat) c) : Nat) ∧ (ez_I h2 68 2).toInt ≤ 7 ∧ (pkS (tI (ez_I h 3)) (ez_I h 2 1).toInt.toNat c b k.toInt.toNat).2 ≤ 42 * k.toInt.toNat + 8 * ptP (tI (ez_I h 3)) (ez_I h 2 1).toInt.toNat (min (600 * k.toInt.toNat) c)) → (pqG (ez_I h2 54) (aM (tI (ez_I h 3)) (ez_I h 2 1).toInt.toNat) (dI (tI (ez_I h 3)) (ez_I h 2 1).toInt.toNat) c) → (ltP (tI (ez_I h 3)) (ez_I h 2 1).toInt.toNat c) → (ptP (tI (ez_I h 3)) (ez_I h 2 1).toInt.toNat c = (ez_I h 2 1).toInt.toNat) → (stC (ez_I h2 51) (ez_I h2 50 1).toInt (ez_I h2 68 1).toInt (ez_I h2 68 2).toInt (pkS (tI (ez_I h 3)) (ez_I h 2 1).toInt.toNat c b k.toInt.toNat)) → (∀ i, i < k.toInt.toNat → bfC (ez_I h2 56) (ez_I h2 57) (tI (ez_I h 3)) (ez_I h 2 1).toInt.toNat c b i) → (10 * (100 - k.toInt)) < (N : Int) → pw E (d + 5) 114 30 [some (.ref 52), some (.ref 2), some (.int p), some (.int k), l4, l5] [] h2 Q) ∧ (∀ (h2 : ez_H) (p : Int32) (k : Int32) (f : Int32) (t : Int32) (c : Nat) (b : Nat) (cc : Nat), zW (fun q k => q = 53 ∧ k = 1 ∨ q = 58 ∧ k = 2 ∨ q = 68 ∧ k = 1 ∨ q = 68 ∧ k = 2 ∨ q = 50 ∧ k = 1 ∨ q = 55 ∧ k = 2 ∨ q = 52 ∧ k = 10 ∨ q = 52 ∧ k = 11 ∨ q = 61 ∧ k = 1 ∨ q = 61 ∧ k = 2 ∨ q = 61 ∧ k = 5 ∨ q = 61 ∧ k = 7 ∨ q = 43 ∧ k = 4 ∨ q = 29 ∧ k = 4 ∨ q = 36 ∧ k = 4) (fun q => q = 54 ∨ q = 59 ∨ q = 60 ∨ q = 51 ∨ q = 66 ∨ q = 67 ∨ q = 10 ∨ q = 13 ∨ 30 ≤ q ∧ q ≤ 35 ∨ 37 ≤ q ∧ q ≤ 42 ∨ 44 ≤ q ∧ q ≤ 49 ∨ q = 56 ∨ q = 57 ∨ 62 ≤ q ∧ q ≤ 65) (fun q => q = 11 ∨ q = 12) h h2 → (0 ≤ k.toInt ∧ k.toInt < b ∧ (ez_I h2 53 1).toInt = c ∧ c ≤ 6000 ∧ (ez_I h2 55 2).toInt = b ∧ b ≤ 10 ∧ bnP c b ∧ p.toInt = (ptP (tI (ez_I h 3)) (ez_I h 2 1).toInt.toNat (600 * k.toInt.toNat) : Nat) ∧ (ez_I h2 68 2).toInt ≤ 7 ∧ (pkS (tI (ez_I h 3)) (ez_I h 2 1).toInt.toNat c b k.toInt.toNat).2 ≤ 42 * k.toInt.toNat + 8 * ptP (tI (ez_I h 3)) (ez_I h 2 1).toInt.toNat (600 * k.toInt.toNat) ∧ f.toInt = (((600 * k.toInt.toNat) : Nat) : Int) ∧ t.toInt = (((600 * k.toInt.toNat) + (blJ c k.toInt.toNat) : Nat) : Int) ∧ (blJ c k.toInt.toNat) ≤ 600 ∧ (600 * k.toInt.toNat) + (blJ c k.toInt.toNat) ≤ c ∧ (ez_I h2 52 11).toInt = ((bkY (tI (ez_I h 3)) (ez_I h 2 1).toInt.toNat (600 * k.toInt.toNat) (blJ c k.toInt.toNat)) : Nat) ∧ mnP c k.toInt.toNat (blJ c k.toInt.toNat)) → (pqG (ez_I h2 54) (aM (tI (ez_I h 3)) (ez_I h 2 1).toInt.toNat) (dI (tI (ez_I h 3)) (ez_I h 2 1).toInt.toNat) c) → (ltP (tI (ez_I h 3)) (ez_I h 2 1).toInt.toNat c) → (ptP (tI (ez_I h 3)) (ez_I h 2 1).toInt.toNat c = (ez_I h 2 1).toInt.toNat) → (stC (ez_I h2 51) (ez_I h2 50 1).toInt (ez_I h2 68 1).toInt (ez_I h2 68 2).toInt (pkS (tI (ez_I h 3)) (ez_I h 2 1).toInt.toNat c b k.toInt.toNat)) → (∀ i, i < k.toInt.toNat → bfC (ez_I h2 56) (ez_I h2 57) (tI (ez_I h 3)) (ez_I h 2 1).toInt.toNat c b i) → (((ez_I h2 56 (6 * k.toInt.toNat)).toInt = (bkW (tI (ez_I h 3)) (ez_I h 2 1).toInt.toNat (600 * k.toInt.toNat) (blJ c k.toInt.toNat) (pkS (tI (ez_I h 3)) (ez_I h 2 1).toInt.toNat c b k.toInt.toNat).2 : Nat) ∧ (ez_I h2 56 (6 * k.toInt.toNat + 1)).toInt = ((blJ c k.toInt.toNat) : Nat) ∧ (ez_I h2 56 (6 * k.toInt.toNat + 2)).toInt = ((bkY (tI (ez_I h 3)) (ez_I h 2 1).toInt.toNat (600 * k.toInt.toNat) (blJ c k.toInt.toNat)) : Nat) ∧ (ez_I h2 56 (6 * k.toInt.toNat + 3)).toInt = (bkB (tI (ez_I h 3)) (ez_I h 2 1).toInt.toNat (600 * k.toInt.toNat) (blJ c k.toInt.toNat) (pkS (tI (ez_I h 3)) (ez_I h 2 1).toInt.toNat c b k.toInt.toNat).2 : Nat) ∧ (ez_I h2 56 (6 * k.toInt.toNat + 4)).toInt = ((bkFX (tI (ez_I h 3)) (ez_I h 2 1).toInt.toNat (600 * k.toInt.toNat) (blJ c k.toInt.toNat)) : Nat) ∧ (ez_I h2 56 (6 * k.toInt.toNat + 5)).toInt = ((bkDY (tI (ez_I h 3)) (ez_I h 2 1).toInt.toNat (600 * k.toInt.toNat) (blJ c k.toInt.toNat)) : Nat))) → (plP (ez_I h2 61) (ez_I h2 63) (ez_I h2 64) (ez_I h2 44) (ez_I h2 45) (nL (ez_I h2 30)) (nL (ez_I h2 37)) cc) → ((∀ q, q < 288 → nL (ez_I h2 30) q = (bkL (tI (ez_I h 3)) (ez_I h 2 1).toInt.toNat (600 * k.toInt.toNat) (blJ c k.toInt.toNat)) q)) → (aR (ez_I h2 30) 288 0 15) → ((∀ q, q < 286 → 1 ≤ (bkC (tI (ez_I h 3)) (ez_I h 2 1).toInt.toNat (600 * k.toInt.toNat) (blJ c k.toInt.toNat)) q → 1 ≤ nL (ez_I h2 30) q)) → ((∀ q, q < 288 → nL (ez_I h2 37) q = (bkE (tI (ez_I h 3)) (ez_I h 2 1).toInt.toNat (600 * k.toInt.toNat) (blJ c k.toInt.toNat)) q)) → (aR (ez_I h2 37) 288 0 15) → ((∀ q, q < 30 → 1 ≤ (bkD (tI (ez_I h 3)) (ez_I h 2 1).toInt.toNat (600 * k.toInt.toNat) (blJ c k.toInt.toNat)) q → 1 ≤ nL (ez_I h2 37) q)) → (10 * (100 - k.toInt) - 1) < (N : Int) → pw E (d + 5) 114 93 [some (.ref 52), some (.ref 2), some (.int p), some (.int k), some (.int f), some (.int t)] [] h2 Q) ∧ (∀ (h2 : ez_H) (p : Int32) (k : Int32) (f : Int32) (t : Int32) (c : Nat) (b : Nat) (cc : Nat), zW (fun q k => q = 53 ∧ k = 1 ∨ q = 58 ∧ k = 2 ∨ q = 68 ∧ k = 1 ∨ q = 68 ∧ k = 2 ∨ q = 50 ∧ k = 1 ∨ q = 55 ∧ k = 2 ∨ q = 52 ∧ k = 10 ∨ q = 52 ∧ k = 11 ∨ q = 61 ∧ k = 1 ∨ q = 61 ∧ k = 2 ∨ q = 61 ∧ k = 5 ∨ q = 61 ∧ k = 7 ∨ q = 43 ∧ k = 4 ∨ q = 29 ∧ k = 4 ∨ q = 36 ∧ k = 4) (fun q => q = 54 ∨ q = 59 ∨ q = 60 ∨ q = 51 ∨ q = 66 ∨ q = 67 ∨ q = 10 ∨ q = 13 ∨ 30 ≤ q ∧ q ≤ 35 ∨ 37 ≤ q ∧ q ≤ 42 ∨ 44 ≤ q ∧ q ≤ 49 ∨ q = 56 ∨ q = 57 ∨ 62 ≤ q ∧ q ≤ 65) (fun q => q = 11 ∨ q = 12) h h2 → (0 ≤ k.toInt ∧ k.toInt < b ∧ (ez_I h2 53 1).toInt = c ∧ c ≤ 6000 ∧ (ez_I h2 55 2).toInt = b ∧ b ≤ 10 ∧ bnP c b ∧ p.toInt = (ptP (tI (ez_I h 3)) (ez_I h 2 1).toInt.toNat (600 * k.toInt.toNat) : Nat) ∧ (ez_I h2 68 2).toInt ≤ 7 ∧ (pkS (tI (ez_I h 3)) (ez_I h 2 1).toInt.toNat c b k.toInt.toNat).2 ≤ 42 * k.toInt.toNat + 8 * ptP (tI (ez_I h 3)) (ez_I h 2 1).toInt.toNat (600 * k.toInt.toNat) ∧ f.toInt = (((600 * k.toInt.toNat) : Nat) : Int) ∧ t.toInt = (((600 * k.toInt.toNat) + (blJ c k.toInt.toNat) : Nat) : Int) ∧ (blJ c k.toInt.toNat) ≤ 600 ∧ (600 * k.toInt.toNat) + (blJ c k.toInt.toNat) ≤ c ∧ (ez_I h2 52 11).toInt = ((bkY (tI (ez_I h 3)) (ez_I h 2 1).toInt.toNat (600 * k.toInt.toNat) (blJ c k.toInt.toNat)) : Nat) ∧ mnP c k.toInt.toNat (blJ c k.toInt.toNat)) → (pqG (ez_I h2 54) (aM (tI (ez_I h 3)) (ez_I h 2 1).toInt.toNat) (dI (tI (ez_I h 3)) (ez_I h 2 1).toInt.toNat) c) → (ltP (tI (ez_I h 3)) (ez_I h 2 1).toInt.toNat c) → (ptP (tI (ez_I h 3)) (ez_I h 2 1).toInt.toNat c = (ez_I h 2 1).toInt.toNat) → (stC (ez_I h2 51) (ez_I h2 50 1).toInt (ez_I h2 68 1).toInt (ez_I h2 68 2).toInt (wr (pkS (tI (ez_I h 3)) (ez_I h 2 1).toInt.toNat c b k.toInt.toNat) (if k.toInt.toNat + 1 = b then 1 else 0) 1)) → (∀ i, i < k.toInt.toNat → bfC (ez_I h2 56) (ez_I h2 57) (tI (ez_I h 3)) (ez_I h 2 1).toInt.toNat c b i) → (((ez_I h2 56 (6 * k.toInt.toNat)).toInt = (bkW (tI (ez_I h 3)) (ez_I h 2 1).toInt.toNat (600 * k.toInt.toNat) (blJ c k.toInt.toNat) (pkS (tI (ez_I h 3)) (ez_I h 2 1).toInt.toNat c b k.toInt.toNat).2 : Nat) ∧ (ez_I h2 56 (6 * k.toInt.toNat + 1)).toInt = ((blJ c k.toInt.toNat) : Nat) ∧ (ez_I h2 56 (6 * k.toInt.toNat + 2)).toInt = ((bkY (tI (ez_I h 3)) (ez_I h 2 1).toInt.toNat (600 * k.toInt.toNat) (blJ c k.toInt.toNat)) : Nat) ∧ (ez_I h2 56 (6 * k.toInt.toNat + 3)).toInt = (bkB (tI (ez_I h 3)) (ez_I h 2 1).toInt.toNat (600 * k.toInt.toNat) (blJ c k.toInt.toNat) (pkS (tI (ez_I h 3)) (ez_I h 2 1).toInt.toNat c b k.toInt.toNat).2 : Nat) ∧ (ez_I h2 56 (6 * k.toInt.toNat + 4)).toInt = ((bkFX (tI (ez_I h 3)) (ez_I h 2 1).toInt.toNat (600 * k.toInt.toNat) (blJ c k.toInt.toNat)) : Nat) ∧ (ez_I h2 56 (6 * k.toInt.toNat + 5)).toInt = ((bkDY (tI (ez_I h 3)) (ez_I h 2 1).toInt.toNat (600 * k.toInt.toNat) (blJ c k.toInt.toNat)) : Nat))) → (plP (ez_I h2 61) (ez_I h2 63) (ez_I h2 64) (ez_I h2 44) (ez_I h2 45) (nL (ez_I h2 30)) (nL (ez_I h2 37)) cc) → ((∀ q, q < 288 → nL (ez_I h2 30) q = (bkL (tI (ez_I h 3)) (ez_I h 2 1).toInt.toNat (600 * k.toInt.toNat) (blJ c k.toInt.toNat)) q)) → (aR (ez_I h2 30) 288 0 15) → ((∀ q, q < 286 → 1 ≤ (bkC (tI (ez_I h 3)) (ez_I h 2 1).toInt.toNat (600 * k.toInt.toNat) (blJ c k.toInt.toNat)) q → 1 ≤ nL (ez_I h2 30) q)) → ((∀ q, q < 288 → nL (ez_I h2 37) q = (bkE (tI (ez_I h 3)) (ez_I h 2 1).toInt.toNat (600 * k.toInt.toNat) (blJ c k.toInt.toNat)) q)) → (aR (ez_I h2 37) 288 0 15) → ((∀ q, q < 30 → 1 ≤ (bkD (tI (ez_I h 3)) (ez_I h 2 1).toInt.toNat (600 * k.toInt.toNat) (blJ c k.toInt.toNat)) q → 1 ≤ nL (ez_I h2 37) q)) → (10 * (100 - k.toInt) - 2) < (N : Int) → pw E (d + 5) 114 119 [some (.ref 52), some (.ref 2), some (.int p), some (.int k), some (.int f), some (.int t)] [] h2 Q) := by
  intro N
  induction N with
  | zero => exact ⟨fun h2 p k l4 l5 c b F hinv A_pq A_lt A_pe A_st A_bk hm => absurd hm (by have w_p := z_rng p; have w_k := z_rng k; have hT : ∀ i, i < (ez_I h 2 1).toInt.toNat → 0 ≤ (tI (ez_I h 3)) i ∧ (tI (ez_I h 3)) i ≤ 255 := fun i hi => hb i hi; omega), fun h2 p k f t c b cc F hinv A_pq A_lt A_pe A_st A_bk A_nn A_pl A_e30 A_a30 A_u30 A_e37 A_a37 A_u37 hm => absurd hm (by have w_p := z_rng p; have w_k := z_rng k; have w_f := z_rng f; have w_t := z_rng t; have hT : ∀ i, i < (ez_I h 2 1).toInt.toNat → 0 ≤ (tI (ez_I h 3)) i ∧ (tI (ez_I h 3)) i ≤ 255 := fun i hi => hb i hi; omega), fun h2 p k f t c b cc F hinv A_pq A_lt A_pe A_st A_bk A_nn A_pl A_e30 A_a30 A_u30 A_e37 A_a37 A_u37 hm => absurd hm (by have w_p := z_rng p; have w_k := z_rng k; have w_f := z_rng f; have w_t := z_rng t; have hT : ∀ i, i < (ez_I h 2 1).toInt.toNat → 0 ≤ (tI (ez_I h 3)) i ∧ (tI (ez_I h 3)) i ≤ 255 := fun i hi => hb i hi; omega)⟩
  | succ N ih =>
    refine ⟨fun h2 p k l4 l5 c b F hinv A_pq A_lt A_pe A_st A_bk hm => ?_, fun h2 p k f t c b cc F hinv A_pq A_lt A_pe A_st A_bk A_nn A_pl A_e30 A_a30 A_u30 A_e37 A_a37 A_u37 hm => ?_, fun h2 p k f t c b cc F hinv A_pq A_lt A_pe A_st A_bk A_nn A_pl A_e30 A_a30 A_u30 A_e37 A_a37 A_u37 hm => ?_⟩
    · skip
      have w_p := z_rng p
      have w_k := z_rng k
      have hT : ∀ i, i < (ez_I h 2 1).toInt.toNat → 0 ≤ (tI (ez_I h 3)) i ∧ (tI (ez_I h 3)) i ≤ 255 := fun i hi => hb i hi
      have S2 := zW_sh F S
      have hpc := ptP_k (T := (tI (ez_I h 3))) (n := (ez_I h 2 1).toInt.toNat) (min (600 * k.toInt.toNat) c) (fun j hj => A_lt j (by omega))
      apply ez_Wp_in
      show ez_gw _ _ _ _ _ _ (cz_114) _ _ _ _ _
      refine gw_skip _ ?_
      have r1 := z_rng (ez_I h2 53 1)
      have r2 := z_rng (ez_I h2 58 2)
      have r3 := z_rng (ez_I h2 68 1)
      have r4 := z_rng (ez_I h2 68 2)
      have r5 := z_rng (ez_I h2 50 1)
      have r6 := z_rng (ez_I h2 55 2)
      have r7 := z_rng (ez_I h2 52 10)
      have r8 := z_rng (ez_I h2 52 11)
      have r9 := z_rng (ez_I h2 61 1)
      have r10 := z_rng (ez_I h2 61 2)
      have r11 := z_rng (ez_I h2 61 5)
      have r12 := z_rng (ez_I h2 61 7)
      have r13 := z_rng (ez_I h2 43 4)
      have r14 := z_rng (ez_I h2 29 4)
      have r15 := z_rng (ez_I h2 36 4)
      refine gw_ld rfl rfl ?_
      refine gw_ld rfl rfl ?_
      refine z_gR (q := 55) (zT S2 (by decide) rfl) (zRf S2 (by decide) (by decide) rfl) (by decide) ?_
      refine z_gI2 (by decide) (zT S2 (by decide) rfl) (rfl) ?_
      refine z_b2 (fun c16 => ?_) (fun c16 => ?_)
      · have c16 : ((ez_I h2 55 2)).toInt ≤ k.toInt := c16
        refine gw_skip _ ?_
        refine gw_ld rfl rfl ?_
        refine z_gR (q := 68) (zT S2 (by decide) rfl) (zRf S2 (by decide) (by decide) rfl) (by decide) ?_
        refine z_cl rfl rfl rfl rfl rfl rfl rfl rfl rfl rfl rfl (zT S2 (by decide) rfl) ?_
        refine c_fillB (s := (pkS (tI (ez_I h 3)) (ez_I h 2 1).toInt.toNat c b k.toInt.toNat)) S2 A_st (by omega) (by omega) (fun h17 F18 k19 k20 => ?_)
        have S21 := zW_sh F18 S2
        have F22 := zW_tr F (zW_mono F18 (x67_0) (x67_1) (x67_2))
        have f23 : ez_I h17 53 1 = (ez_I h2 53 1) := (zW_f F18 (by decide) (by decide)).trans (rfl)
        have f24 : ez_I h17 58 2 = (ez_I h2 58 2) := (zW_f F18 (by decide) (by decide)).trans (rfl)
        have r25 := z_rng (ez_I h17 68 1)
        have r26 := z_rng (ez_I h17 68 2)
        have r27 := z_rng (ez_I h17 50 1)
        have f28 : ez_I h17 55 2 = (ez_I h2 55 2) := (zW_f F18 (by decide) (by decide)).trans (rfl)
        have f29 : ez_I h17 52 10 = (ez_I h2 52 10) := (zW_f F18 (by decide) (by decide)).trans (rfl)
        have f30 : ez_I h17 52 11 = (ez_I h2 52 11) := (zW_f F18 (by decide) (by decide)).trans (rfl)
        have f31 : ez_I h17 61 1 = (ez_I h2 61 1) := (zW_f F18 (by decide) (by decide)).trans (rfl)
        have f32 : ez_I h17 61 2 = (ez_I h2 61 2) := (zW_f F18 (by decide) (by decide)).trans (rfl)
        have f33 : ez_I h17 61 5 = (ez_I h2 61 5) := (zW_f F18 (by decide) (by decide)).trans (rfl)
        have f34 : ez_I h17 61 7 = (ez_I h2 61 7) := (zW_f F18 (by decide) (by decide)).trans (rfl)
        have f35 : ez_I h17 43 4 = (ez_I h2 43 4) := (zW_f F18 (by decide) (by decide)).trans (rfl)
        have f36 : ez_I h17 29 4 = (ez_I h2 29 4) := (zW_f F18 (by decide) (by decide)).trans (rfl)
        have f37 : ez_I h17 36 4 = (ez_I h2 36 4) := (zW_f F18 (by decide) (by decide)).trans (rfl)
        have A38 : pqG (ez_I h17 54) (aM (tI (ez_I h 3)) (ez_I h 2 1).toInt.toNat) (dI (tI (ez_I h 3)) (ez_I h 2 1).toInt.toNat) c := by rw [zW_fn F18 54 (by decide) (x67_3)]; exact A_pq
        have A39 : ∀ i, i < k.toInt.toNat → bfC (ez_I h17 56) (ez_I h17 57) (tI (ez_I h 3)) (ez_I h 2 1).toInt.toNat c b i := by rw [zW_fn F18 56 (by decide) (x67_4), zW_fn F18 57 (by decide) (x67_5)]; exact A_bk
        refine z_rv ?_
        have t40 := congrArg Int32.toInt (f23)
        have t41 := congrArg Int32.toInt (f24)
        have t42 := congrArg Int32.toInt (f28)
        have t43 := congrArg Int32.toInt (f29)
        have t44 := congrArg Int32.toInt (f30)
        have t45 := congrArg Int32.toInt (f31)
        have t46 := congrArg Int32.toInt (f32)
        have t47 := congrArg Int32.toInt (f33)
        have t48 := congrArg Int32.toInt (f34)
        have t49 := congrArg Int32.toInt (f35)
        have t50 := congrArg Int32.toInt (f36)
        have t51 := congrArg Int32.toInt (f37)
        have hkb : k.toInt.toNat = b := by omega
        have hf1 := k19
        rw [hkb] at hf1 hinv hpc
        obtain ⟨f1, f2, f3, f4, f5⟩ := hf1
        have f2b : ((pkS (tI (ez_I h 3)) (ez_I h 2 1).toInt.toNat c b b).2 + 7) / 8 * 8 = 8 * (ez_I h17 50 1).toInt.toNat + (ez_I h17 68 2).toInt.toNat := f2
        have f5b : ∀ i : Nat, (i : Int) < (ez_I h17 50 1).toInt → (ez_I h17 51 i).toInt = (((pkS (tI (ez_I h 3)) (ez_I h 2 1).toInt.toNat c b b).1 / 256 ^ i % 256 : Nat) : Int) := f5
        exact K _ F22 c b (by omega) (by omega) A_lt A_pe A38 (by omega) hinv.2.2.2.2.2.2.1 (by omega) (by omega) f5b (by have b9 := A39; rw [hkb] at b9; exact b9)
      · have c16 : ¬ (((ez_I h2 55 2)).toInt ≤ k.toInt) := c16
        obtain ⟨hm0, hmc2, hmn1⟩ := bn_k (k := k.toInt.toNat) hinv.2.2.2.2.2.2.1 (by omega)
        have hmn2 : mnP c k.toInt.toNat (blJ c k.toInt.toNat) := hmn1
        clear hmn1
        rw [hmc2] at hinv hpc
        have hj9 : (blJ c k.toInt.toNat) = min 600 (c - (600 * k.toInt.toNat)) := rfl
        refine gw_ld rfl rfl ?_
        refine z_C (m := 600) rfl rfl (fun x52 ex52 => ?_)
        refine z_mulR (c := 600) ex52 (by omega) (fun x53 ex53 => ?_)
        refine gw_st rfl rfl rfl ?_
        show ez_gw _ _ _ _ _ _ _ _ [some (.ref 52), some (.ref 2), some (.int p), some (.int k), some (.int x53), l5] _ _ _
        refine gw_ld rfl rfl ?_
        refine z_C (m := 600) rfl rfl (fun x54 ex54 => ?_)
        refine z_add (by omega) (fun x55 ex55 => ?_)
        refine gw_ld rfl rfl ?_
        refine z_gR (q := 53) (zT S2 (by decide) rfl) (zRf S2 (by decide) (by decide) rfl) (by decide) ?_
        refine z_gI2 (by decide) (zT S2 (by decide) rfl) (rfl) ?_
        refine z_min rfl (fun x56 ex56 => ?_)
        refine gw_st rfl rfl rfl ?_
        show ez_gw _ _ _ _ _ _ _ _ [some (.ref 52), some (.ref 2), some (.int p), some (.int k), some (.int x53), some (.int x56)] _ _ _
        refine gw_ld rfl rfl ?_
        refine gw_ld rfl rfl ?_
        refine gw_ld rfl rfl ?_
        refine z_cl rfl rfl rfl rfl rfl rfl rfl rfl rfl rfl rfl (zT S2 (by decide) rfl) ?_
        have hjk : x56.toInt.toNat - x53.toInt.toNat = (blJ c k.toInt.toNat) := by omega
        have hfk : x53.toInt.toNat = (600 * k.toInt.toNat) := by omega
        have hj6 : (blJ c k.toInt.toNat) ≤ 600 ∧ (600 * k.toInt.toNat) + (blJ c k.toInt.toNat) ≤ c := by omega
        have htl : x56.toInt = (600 * k.toInt.toNat) + (blJ c k.toInt.toNat) := by omega
        clear hj9 ex56
        refine c_cBlock (am := (aM (tI (ez_I h 3)) (ez_I h 2 1).toInt.toNat)) (di := (dI (tI (ez_I h 3)) (ez_I h 2 1).toInt.toNat)) (c := c) (fr := x53) (to := x56) S2 hE (by omega) A_pq (by omega) (fun h57 F58 k59 k60 k61 k62 => ?_)
        rw [hjk, hfk] at k59 k60 k61 k62
        have S63 := zW_sh F58 S2
        have F64 := zW_tr F (zW_mono F58 (x67_6) (x67_7) (x67_2))
        have f65 : ez_I h57 53 1 = (ez_I h2 53 1) := (zW_f F58 (by decide) (by decide)).trans (rfl)
        have f66 : ez_I h57 58 2 = (ez_I h2 58 2) := (zW_f F58 (by decide) (by decide)).trans (rfl)
        have f67 : ez_I h57 68 1 = (ez_I h2 68 1) := (zW_f F58 (by decide) (by decide)).trans (rfl)
        have f68 : ez_I h57 68 2 = (ez_I h2 68 2) := (zW_f F58 (by decide) (by decide)).trans (rfl)
        have f69 : ez_I h57 50 1 = (ez_I h2 50 1) := (zW_f F58 (by decide) (by decide)).trans (rfl)
        have f70 : ez_I h57 55 2 = (ez_I h2 55 2) := (zW_f F58 (by decide) (by decide)).trans (rfl)
        have r71 := z_rng (ez_I h57 52 10)
        have r72 := z_rng (ez_I h57 52 11)
        have f73 : ez_I h57 61 1 = (ez_I h2 61 1) := (zW_f F58 (by decide) (by decide)).trans (rfl)
        have f74 : ez_I h57 61 2 = (ez_I h2 61 2) := (zW_f F58 (by decide) (by decide)).trans (rfl)
        have f75 : ez_I h57 61 5 = (ez_I h2 61 5) := (zW_f F58 (by decide) (by decide)).trans (rfl)
        have f76 : ez_I h57 61 7 = (ez_I h2 61 7) := (zW_f F58 (by decide) (by decide)).trans (rfl)
        have f77 : ez_I h57 43 4 = (ez_I h2 43 4) := (zW_f F58 (by decide) (by decide)).trans (rfl)
        have f78 : ez_I h57 29 4 = (ez_I h2 29 4) := (zW_f F58 (by decide) (by decide)).trans (rfl)
        have f79 : ez_I h57 36 4 = (ez_I h2 36 4) := (zW_f F58 (by decide) (by decide)).trans (rfl)
        have A80 : pqG (ez_I h57 54) (aM (tI (ez_I h 3)) (ez_I h 2 1).toInt.toNat) (dI (tI (ez_I h 3)) (ez_I h 2 1).toInt.toNat) c := by rw [zW_fn F58 54 (by decide) (x67_8)]; exact A_pq
        have A81 : stC (ez_I h57 51) (ez_I h57 50 1).toInt (ez_I h57 68 1).toInt (ez_I h57 68 2).toInt (pkS (tI (ez_I h 3)) (ez_I h 2 1).toInt.toNat c b k.toInt.toNat) := by rw [zW_fn F58 51 (by decide) (x67_9), zW_fn F58 50 (by decide) (x67_10), zW_fn F58 68 (by decide) (x67_11)]; exact A_st
        have A82 : ∀ i, i < k.toInt.toNat → bfC (ez_I h57 56) (ez_I h57 57) (tI (ez_I h 3)) (ez_I h 2 1).toInt.toNat c b i := by rw [zW_fn F58 56 (by decide) (x67_12), zW_fn F58 57 (by decide) (x67_13)]; exact A_bk
        have hxb := xB_le (aM (tI (ez_I h 3)) (ez_I h 2 1).toInt.toNat) (dI (tI (ez_I h 3)) (ez_I h 2 1).toInt.toNat) (600 * k.toInt.toNat) (blJ c k.toInt.toNat)
        have hby := bY_pt (T := (tI (ez_I h 3))) (n := (ez_I h 2 1).toInt.toNat) (a := (600 * k.toInt.toNat)) hT A_lt (blJ c k.toInt.toNat) (by omega)
        have hyk : (bkY (tI (ez_I h 3)) (ez_I h 2 1).toInt.toNat (600 * k.toInt.toNat) (blJ c k.toInt.toNat)) = bY (aM (tI (ez_I h 3)) (ez_I h 2 1).toInt.toNat) (dI (tI (ez_I h 3)) (ez_I h 2 1).toInt.toNat) (600 * k.toInt.toNat) (blJ c k.toInt.toNat) := rfl
        have hpk := ptP_k (T := (tI (ez_I h 3))) (n := (ez_I h 2 1).toInt.toNat) ((600 * k.toInt.toNat) + (blJ c k.toInt.toNat)) (fun j hj => A_lt j (by omega))
        refine gw_ld rfl rfl ?_
        refine z_gR (q := 55) (zT S63 (by decide) rfl) (zRf S63 (by decide) (by decide) rfl) (by decide) ?_
        refine gw_ld rfl rfl ?_
        refine z_C (m := 1) rfl rfl (fun x83 ex83 => ?_)
        refine gw_ld rfl rfl ?_
        refine gw_ld rfl rfl ?_
        refine z_sub (by omega) (fun x84 ex84 => ?_)
        have t85 := congrArg Int32.toInt (f65)
        have t86 := congrArg Int32.toInt (f66)
        have t87 := congrArg Int32.toInt (f67)
        have t88 := congrArg Int32.toInt (f68)
        have t89 := congrArg Int32.toInt (f69)
        have t90 := congrArg Int32.toInt (f70)
        have t91 := congrArg Int32.toInt (f73)
        have t92 := congrArg Int32.toInt (f74)
        have t93 := congrArg Int32.toInt (f75)
        have t94 := congrArg Int32.toInt (f76)
        have t95 := congrArg Int32.toInt (f77)
        have t96 := congrArg Int32.toInt (f78)
        have t97 := congrArg Int32.toInt (f79)
        refine z_cl rfl rfl rfl rfl rfl rfl rfl rfl rfl rfl rfl (zT S63 (by decide) rfl) ?_
        refine c_note (k := k) (w := x83) (v := x84) S63 (by omega) (by omega) (fun h98 F99 k100 k101 => ?_)
        rw [show (6 * k.toInt + x83.toInt).toNat = 6 * k.toInt.toNat + 1 by omega] at k100 k101
        have e57 : ez_I h98 57 = ez_I h57 57 := zW_fn F99 57 (by omega) (fun k c => by omega)
        have A102 : ∀ i, i < k.toInt.toNat → bfC (ez_I h98 56) (ez_I h98 57) (tI (ez_I h 3)) (ez_I h 2 1).toInt.toNat c b i := fun i hi => bfC_fr (A82 i hi) (fun j a b => k101 j (by omega)) (fun j _ _ => by rw [e57])
        have A103 : (ez_I h98 56 (6 * k.toInt.toNat + 1)).toInt = ((blJ c k.toInt.toNat) : Nat) := by rw [k100]; omega
        have S104 := zW_sh F99 S63
        have F105 := zW_tr F64 (zW_mono F99 (x67_14) (x67_15) (x67_2))
        have f106 : ez_I h98 53 1 = (ez_I h2 53 1) := (zW_f F99 (by decide) (fun c => c)).trans (f65)
        have f107 : ez_I h98 58 2 = (ez_I h2 58 2) := (zW_f F99 (by decide) (fun c => c)).trans (f66)
        have f108 : ez_I h98 68 1 = (ez_I h2 68 1) := (zW_f F99 (by decide) (fun c => c)).trans (f67)
        have f109 : ez_I h98 68 2 = (ez_I h2 68 2) := (zW_f F99 (by decide) (fun c => c)).trans (f68)
        have f110 : ez_I h98 50 1 = (ez_I h2 50 1) := (zW_f F99 (by decide) (fun c => c)).trans (f69)
        have f111 : ez_I h98 55 2 = (ez_I h2 55 2) := (zW_f F99 (by decide) (fun c => c)).trans (f70)
        have f112 : ez_I h98 52 10 = (ez_I h57 52 10) := (zW_f F99 (by decide) (fun c => c)).trans (rfl)
        have f113 : ez_I h98 52 11 = (ez_I h57 52 11) := (zW_f F99 (by decide) (fun c => c)).trans (rfl)
        have f114 : ez_I h98 61 1 = (ez_I h2 61 1) := (zW_f F99 (by decide) (fun c => c)).trans (f73)
        have f115 : ez_I h98 61 2 = (ez_I h2 61 2) := (zW_f F99 (by decide) (fun c => c)).trans (f74)
        have f116 : ez_I h98 61 5 = (ez_I h2 61 5) := (zW_f F99 (by decide) (fun c => c)).trans (f75)
        have f117 : ez_I h98 61 7 = (ez_I h2 61 7) := (zW_f F99 (by decide) (fun c => c)).trans (f76)
        have f118 : ez_I h98 43 4 = (ez_I h2 43 4) := (zW_f F99 (by decide) (fun c => c)).trans (f77)
        have f119 : ez_I h98 29 4 = (ez_I h2 29 4) := (zW_f F99 (by decide) (fun c => c)).trans (f78)
        have f120 : ez_I h98 36 4 = (ez_I h2 36 4) := (zW_f F99 (by decide) (fun c => c)).trans (f79)
        have A121 : pqG (ez_I h98 54) (aM (tI (ez_I h 3)) (ez_I h 2 1).toInt.toNat) (dI (tI (ez_I h 3)) (ez_I h 2 1).toInt.toNat) c := by rw [zW_fn F99 54 (by decide) (fun _ c => c)]; exact A80
        have A122 : stC (ez_I h98 51) (ez_I h98 50 1).toInt (ez_I h98 68 1).toInt (ez_I h98 68 2).toInt (pkS (tI (ez_I h 3)) (ez_I h 2 1).toInt.toNat c b k.toInt.toNat) := by rw [zW_fn F99 51 (by decide) (fun _ c => c), zW_fn F99 50 (by decide) (fun _ c => c), zW_fn F99 68 (by decide) (fun _ c => c)]; exact A81
        have A123 : ctI (ez_I h98 66) (bkC (tI (ez_I h 3)) (ez_I h 2 1).toInt.toNat (600 * k.toInt.toNat) (blJ c k.toInt.toNat)) 286 := by rw [zW_fn F99 66 (by decide) (fun _ c => c)]; exact k59
        have A124 : ctI (ez_I h98 67) (bkD (tI (ez_I h 3)) (ez_I h 2 1).toInt.toNat (600 * k.toInt.toNat) (blJ c k.toInt.toNat)) 30 := by rw [zW_fn F99 67 (by decide) (fun _ c => c)]; exact k60
        clear A80
        clear A81
        refine gw_ld rfl rfl ?_
        refine gw_ld rfl rfl ?_
        have t125 := congrArg Int32.toInt (f106)
        have t126 := congrArg Int32.toInt (f107)
        have t127 := congrArg Int32.toInt (f108)
        have t128 := congrArg Int32.toInt (f109)
        have t129 := congrArg Int32.toInt (f110)
        have t130 := congrArg Int32.toInt (f111)
        have t131 := congrArg Int32.toInt (f112)
        have t132 := congrArg Int32.toInt (f113)
        have t133 := congrArg Int32.toInt (f114)
        have t134 := congrArg Int32.toInt (f115)
        have t135 := congrArg Int32.toInt (f116)
        have t136 := congrArg Int32.toInt (f117)
        have t137 := congrArg Int32.toInt (f118)
        have t138 := congrArg Int32.toInt (f119)
        have t139 := congrArg Int32.toInt (f120)
        refine z_cl rfl rfl rfl rfl rfl rfl rfl rfl rfl rfl rfl (zT S104 (by decide) rfl) ?_
        have hstk := A122.1
        have hstl := A122.2.1
        refine c_ways (k := k) (cl := (bkC (tI (ez_I h 3)) (ez_I h 2 1).toInt.toNat (600 * k.toInt.toNat) (blJ c k.toInt.toNat))) (cd := (bkD (tI (ez_I h 3)) (ez_I h 2 1).toInt.toNat (600 * k.toInt.toNat) (blJ c k.toInt.toNat))) (fxL := fxL) (fxD := fxD) S104 hE (by omega) (by omega) (by omega) (by omega) A123 A124 (fun z => by have h9 := cL_le (aM (tI (ez_I h 3)) (ez_I h 2 1).toInt.toNat) (dI (tI (ez_I h 3)) (ez_I h 2 1).toInt.toNat) (600 * k.toInt.toNat) (blJ c k.toInt.toNat) z; have h8 : (bkC (tI (ez_I h 3)) (ez_I h 2 1).toInt.toNat (600 * k.toInt.toNat) (blJ c k.toInt.toNat)) z = cL (aM (tI (ez_I h 3)) (ez_I h 2 1).toInt.toNat) (dI (tI (ez_I h 3)) (ez_I h 2 1).toInt.toNat) (600 * k.toInt.toNat) (blJ c k.toInt.toNat) z := rfl; omega) (fun z => by have h9 := cD_le (dI (tI (ez_I h 3)) (ez_I h 2 1).toInt.toNat) (600 * k.toInt.toNat) (blJ c k.toInt.toNat) z; have h8 : (bkD (tI (ez_I h 3)) (ez_I h 2 1).toInt.toNat (600 * k.toInt.toNat) (blJ c k.toInt.toNat)) z = cD (dI (tI (ez_I h 3)) (ez_I h 2 1).toInt.toNat) (600 * k.toInt.toNat) (blJ c k.toInt.toNat) z := rfl; omega) ⟨by rw [(show ez_I h98 16 = ez_I h 16 from zW_fn F105 16 x67_16 x67_17)]; exact f16, by rw [(show ez_I h98 16 = ez_I h 16 from zW_fn F105 16 x67_16 x67_17)]; exact a16⟩ ⟨by rw [(show ez_I h98 23 = ez_I h 23 from zW_fn F105 23 x67_18 x67_19)]; exact f23, by rw [(show ez_I h98 23 = ez_I h 23 from zW_fn F105 23 x67_18 x67_19)]; exact a23⟩ (fun h140 F141 cc142 k143 k144 k145 k146 k147 k148 k149 k150 k151 => ?_)
        have e30b : ∀ q, q < 286 → nL (ez_I h140 30) q = (bkL (tI (ez_I h 3)) (ez_I h 2 1).toInt.toNat (600 * k.toInt.toNat) (blJ c k.toInt.toNat)) q := fun q hq => k144 q (by omega)
        have e37b : ∀ q, q < 30 → nL (ez_I h140 37) q = (bkE (tI (ez_I h 3)) (ez_I h 2 1).toInt.toNat (600 * k.toInt.toNat) (blJ c k.toInt.toNat)) q := fun q hq => k147 q (by omega)
        have b30 : ∀ q, q < 286 → nL (ez_I h140 30) q ≤ 15 := fun q hq => by have := k145 q (by omega); show (ez_I h140 30 q).toInt.toNat ≤ 15; omega
        have b37 : ∀ q, q < 30 → nL (ez_I h140 37) q ≤ 15 := fun q hq => by have := k148 q (by omega); show (ez_I h140 37 q).toInt.toNat ≤ 15; omega
        have hccr : cc142 = (bkR (tI (ez_I h 3)) (ez_I h 2 1).toInt.toNat (600 * k.toInt.toNat) (blJ c k.toInt.toNat)) := row_R e30b e37b k143.2.2.2.2.2.1 k143.2.2.2.2.1 (by have := row_c b30 b37 k143.2.2.2.2.2.1; omega)
        have hhd : hdB (nL (ez_I h140 30)) (nL (ez_I h140 37)) cc142 = hdB (bkL (tI (ez_I h 3)) (ez_I h 2 1).toInt.toNat (600 * k.toInt.toNat) (blJ c k.toInt.toNat)) (bkE (tI (ez_I h 3)) (ez_I h 2 1).toInt.toNat (600 * k.toInt.toNat) (blJ c k.toInt.toNat)) (bkR (tI (ez_I h 3)) (ez_I h 2 1).toInt.toNat (600 * k.toInt.toNat) (blJ c k.toInt.toNat)) := by rw [(row_A e30b e37b k143.2.2.2.2.2.1).2.2, hccr]
        obtain ⟨n5, n4, n2, n3, n0⟩ := k150
        rw [hhd] at n5 n3 n0
        have hDY : (bkDY (tI (ez_I h 3)) (ez_I h 2 1).toInt.toNat (600 * k.toInt.toNat) (blJ c k.toInt.toNat)) = 3 + hdB (bkL (tI (ez_I h 3)) (ez_I h 2 1).toInt.toNat (600 * k.toInt.toNat) (blJ c k.toInt.toNat)) (bkE (tI (ez_I h 3)) (ez_I h 2 1).toInt.toNat (600 * k.toInt.toNat) (blJ c k.toInt.toNat)) (bkR (tI (ez_I h 3)) (ez_I h 2 1).toInt.toNat (600 * k.toInt.toNat) (blJ c k.toInt.toNat)) + xB (aM (tI (ez_I h 3)) (ez_I h 2 1).toInt.toNat) (dI (tI (ez_I h 3)) (ez_I h 2 1).toInt.toNat) (600 * k.toInt.toNat) (blJ c k.toInt.toNat) + sN (fun i => (bkD (tI (ez_I h 3)) (ez_I h 2 1).toInt.toNat (600 * k.toInt.toNat) (blJ c k.toInt.toNat)) i * LNf (bkD (tI (ez_I h 3)) (ez_I h 2 1).toInt.toNat (600 * k.toInt.toNat) (blJ c k.toInt.toNat)) 30 15 i) 30 + sN (fun i => (bkC (tI (ez_I h 3)) (ez_I h 2 1).toInt.toNat (600 * k.toInt.toNat) (blJ c k.toInt.toNat)) i * (bkL (tI (ez_I h 3)) (ez_I h 2 1).toInt.toNat (600 * k.toInt.toNat) (blJ c k.toInt.toNat)) i) 286 := rfl
        have hFX : (bkFX (tI (ez_I h 3)) (ez_I h 2 1).toInt.toNat (600 * k.toInt.toNat) (blJ c k.toInt.toNat)) = 3 + xB (aM (tI (ez_I h 3)) (ez_I h 2 1).toInt.toNat) (dI (tI (ez_I h 3)) (ez_I h 2 1).toInt.toNat) (600 * k.toInt.toNat) (blJ c k.toInt.toNat) + sN (fun i => (bkC (tI (ez_I h 3)) (ez_I h 2 1).toInt.toNat (600 * k.toInt.toNat) (blJ c k.toInt.toNat)) i * fxL i) 286 + sN (fun i => (bkD (tI (ez_I h 3)) (ez_I h 2 1).toInt.toNat (600 * k.toInt.toNat) (blJ c k.toInt.toNat)) i * fxD i) 30 := rfl
        have hST : bkST (tI (ez_I h 3)) (ez_I h 2 1).toInt.toNat (600 * k.toInt.toNat) (blJ c k.toInt.toNat) (pkS (tI (ez_I h 3)) (ez_I h 2 1).toInt.toNat c b k.toInt.toNat).2 = 3 + (8 - ((pkS (tI (ez_I h 3)) (ez_I h 2 1).toInt.toNat c b k.toInt.toNat).2 + 3) % 8) % 8 + 32 + 8 * (bkY (tI (ez_I h 3)) (ez_I h 2 1).toInt.toNat (600 * k.toInt.toNat) (blJ c k.toInt.toNat)) := rfl
        have hLL : sN (fun i => (bkC (tI (ez_I h 3)) (ez_I h 2 1).toInt.toNat (600 * k.toInt.toNat) (blJ c k.toInt.toNat)) i * LNf (bkC (tI (ez_I h 3)) (ez_I h 2 1).toInt.toNat (600 * k.toInt.toNat) (blJ c k.toInt.toNat)) 286 15 i) 286 = sN (fun i => (bkC (tI (ez_I h 3)) (ez_I h 2 1).toInt.toNat (600 * k.toInt.toNat) (blJ c k.toInt.toNat)) i * (bkL (tI (ez_I h 3)) (ez_I h 2 1).toInt.toNat (600 * k.toInt.toNat) (blJ c k.toInt.toNat)) i) 286 := rfl
        have hbi := bk_int (T := (tI (ez_I h 3))) (n := (ez_I h 2 1).toInt.toNat) (a := (600 * k.toInt.toNat)) (j := (blJ c k.toInt.toNat)) (z := (pkS (tI (ez_I h 3)) (ez_I h 2 1).toInt.toNat c b k.toInt.toNat).2) (by rw [hST]; omega) (by rw [hFX]; omega) (by rw [hDY]; omega) n3 n0
        have e57 : ez_I h140 57 = ez_I h98 57 := zW_fn F141 57 (by omega) (fun k c => by omega)
        have A152 : ∀ i, i < k.toInt.toNat → bfC (ez_I h140 56) (ez_I h140 57) (tI (ez_I h 3)) (ez_I h 2 1).toInt.toNat c b i := fun i hi => bfC_fr (A102 i hi) (fun j a b => k151 j (by omega)) (fun j _ _ => by rw [e57])
        have A153 : ((ez_I h140 56 (6 * k.toInt.toNat)).toInt = (bkW (tI (ez_I h 3)) (ez_I h 2 1).toInt.toNat (600 * k.toInt.toNat) (blJ c k.toInt.toNat) (pkS (tI (ez_I h 3)) (ez_I h 2 1).toInt.toNat c b k.toInt.toNat).2 : Nat) ∧ (ez_I h140 56 (6 * k.toInt.toNat + 1)).toInt = ((blJ c k.toInt.toNat) : Nat) ∧ (ez_I h140 56 (6 * k.toInt.toNat + 2)).toInt = ((bkY (tI (ez_I h 3)) (ez_I h 2 1).toInt.toNat (600 * k.toInt.toNat) (blJ c k.toInt.toNat)) : Nat) ∧ (ez_I h140 56 (6 * k.toInt.toNat + 3)).toInt = (bkB (tI (ez_I h 3)) (ez_I h 2 1).toInt.toNat (600 * k.toInt.toNat) (blJ c k.toInt.toNat) (pkS (tI (ez_I h 3)) (ez_I h 2 1).toInt.toNat c b k.toInt.toNat).2 : Nat) ∧ (ez_I h140 56 (6 * k.toInt.toNat + 4)).toInt = ((bkFX (tI (ez_I h 3)) (ez_I h 2 1).toInt.toNat (600 * k.toInt.toNat) (blJ c k.toInt.toNat)) : Nat) ∧ (ez_I h140 56 (6 * k.toInt.toNat + 5)).toInt = ((bkDY (tI (ez_I h 3)) (ez_I h 2 1).toInt.toNat (600 * k.toInt.toNat) (blJ c k.toInt.toNat)) : Nat)) := ⟨by rw [show 6 * k.toInt.toNat = (6 * k.toInt + 0).toNat by omega]; exact hbi.1, by rw [k151 _ (.inr (by omega))]; exact A103, by rw [show 6 * k.toInt.toNat + 2 = (6 * k.toInt + 2).toNat by omega]; omega, by rw [show 6 * k.toInt.toNat + 3 = (6 * k.toInt + 3).toNat by omega]; exact hbi.2, by rw [show 6 * k.toInt.toNat + 4 = (6 * k.toInt + 4).toNat by omega, hFX]; omega, by rw [show 6 * k.toInt.toNat + 5 = (6 * k.toInt + 5).toNat by omega, hDY]; omega⟩
        clear n5 n4 n2 n3 n0 hbi hDY hFX hST hLL hhd
        have S154 := zW_sh F141 S104
        have F155 := zW_tr F105 (zW_mono F141 (x67_20) (x67_21) (x67_22))
        have f156 : ez_I h140 53 1 = (ez_I h2 53 1) := (zW_f F141 (by decide) (by decide)).trans (f106)
        have f157 : ez_I h140 58 2 = (ez_I h2 58 2) := (zW_f F141 (by decide) (by decide)).trans (f107)
        have f158 : ez_I h140 68 1 = (ez_I h2 68 1) := (zW_f F141 (by decide) (by decide)).trans (f108)
        have f159 : ez_I h140 68 2 = (ez_I h2 68 2) := (zW_f F141 (by decide) (by decide)).trans (f109)
        have f160 : ez_I h140 50 1 = (ez_I h2 50 1) := (zW_f F141 (by decide) (by decide)).trans (f110)
        have f161 : ez_I h140 55 2 = (ez_I h2 55 2) := (zW_f F141 (by decide) (by decide)).trans (f111)
        have f162 : ez_I h140 52 10 = (ez_I h57 52 10) := (zW_f F141 (by decide) (by decide)).trans (f112)
        have f163 : ez_I h140 52 11 = (ez_I h57 52 11) := (zW_f F141 (by decide) (by decide)).trans (f113)
        have r164 := z_rng (ez_I h140 61 1)
        have r165 := z_rng (ez_I h140 61 2)
        have r166 := z_rng (ez_I h140 61 5)
        have r167 := z_rng (ez_I h140 61 7)
        have r168 := z_rng (ez_I h140 43 4)
        have f169 : ez_I h140 29 4 = (ez_I h2 29 4) := (zW_f F141 (by decide) (by decide)).trans (f119)
        have f170 : ez_I h140 36 4 = (ez_I h2 36 4) := (zW_f F141 (by decide) (by decide)).trans (f120)
        have A171 : pqG (ez_I h140 54) (aM (tI (ez_I h 3)) (ez_I h 2 1).toInt.toNat) (dI (tI (ez_I h 3)) (ez_I h 2 1).toInt.toNat) c := by rw [zW_fn F141 54 (by decide) (x67_23)]; exact A121
        have A172 : stC (ez_I h140 51) (ez_I h140 50 1).toInt (ez_I h140 68 1).toInt (ez_I h140 68 2).toInt (pkS (tI (ez_I h 3)) (ez_I h 2 1).toInt.toNat c b k.toInt.toNat) := by rw [zW_fn F141 51 (by decide) (x67_24), zW_fn F141 50 (by decide) (x67_25), zW_fn F141 68 (by decide) (x67_26)]; exact A122
        have A173 : ctI (ez_I h140 66) (bkC (tI (ez_I h 3)) (ez_I h 2 1).toInt.toNat (600 * k.toInt.toNat) (blJ c k.toInt.toNat)) 286 := by rw [zW_fn F141 66 (by decide) (x67_27)]; exact A123
        have A174 : ctI (ez_I h140 67) (bkD (tI (ez_I h 3)) (ez_I h 2 1).toInt.toNat (600 * k.toInt.toNat) (blJ c k.toInt.toNat)) 30 := by rw [zW_fn F141 67 (by decide) (x67_28)]; exact A124
        clear A121
        clear A122
        clear A123
        clear A124
        have t175 := congrArg Int32.toInt (f156)
        have t176 := congrArg Int32.toInt (f157)
        have t177 := congrArg Int32.toInt (f158)
        have t178 := congrArg Int32.toInt (f159)
        have t179 := congrArg Int32.toInt (f160)
        have t180 := congrArg Int32.toInt (f161)
        have t181 := congrArg Int32.toInt (f162)
        have t182 := congrArg Int32.toInt (f163)
        have t183 := congrArg Int32.toInt (f169)
        have t184 := congrArg Int32.toInt (f170)
        exact ez_Wp_at (ih.2.1 h140 p k x53 x56 c b cc142 F155 (⟨by omega, by omega, by omega, by omega, by omega, by omega, hinv.2.2.2.2.2.2.1, by omega, by omega, by omega, by omega, by omega, by omega, by omega, by omega, hmn2⟩) A171 (A_lt) (A_pe) A172 A152 A153 k143 k144 k145 k146 k147 k148 k149 (by omega)) rfl
    · skip
      have w_p := z_rng p
      have w_k := z_rng k
      have w_f := z_rng f
      have w_t := z_rng t
      have hT : ∀ i, i < (ez_I h 2 1).toInt.toNat → 0 ≤ (tI (ez_I h 3)) i ∧ (tI (ez_I h 3)) i ≤ 255 := fun i hi => hb i hi
      have S2 := zW_sh F S
      have hmn2 := hinv.2.2.2.2.2.2.2.2.2.2.2.2.2.2.2
      have hfk : f.toInt.toNat = (600 * k.toInt.toNat) := by omega
      have hjk : t.toInt.toNat - f.toInt.toNat = (blJ c k.toInt.toNat) := by omega
      have hj6 : (blJ c k.toInt.toNat) ≤ 600 ∧ (600 * k.toInt.toNat) + (blJ c k.toInt.toNat) ≤ c := by omega
      have hby := bY_pt (T := (tI (ez_I h 3))) (n := (ez_I h 2 1).toInt.toNat) (a := (600 * k.toInt.toNat)) hT A_lt (blJ c k.toInt.toNat) (by omega)
      have hyk : (bkY (tI (ez_I h 3)) (ez_I h 2 1).toInt.toNat (600 * k.toInt.toNat) (blJ c k.toInt.toNat)) = bY (aM (tI (ez_I h 3)) (ez_I h 2 1).toInt.toNat) (dI (tI (ez_I h 3)) (ez_I h 2 1).toInt.toNat) (600 * k.toInt.toNat) (blJ c k.toInt.toNat) := rfl
      have hpk := ptP_k (T := (tI (ez_I h 3))) (n := (ez_I h 2 1).toInt.toNat) ((600 * k.toInt.toNat) + (blJ c k.toInt.toNat)) (fun j hj => A_lt j (by omega))
      have hinv0 := hinv.2.2.2.2.2.2.1
      have hi1 : 0 ≤ k.toInt ∧ k.toInt < b ∧ (ez_I h2 53 1).toInt = c ∧ c ≤ 6000 ∧ (ez_I h2 55 2).toInt = b ∧ b ≤ 10 ∧ p.toInt = (ptP (tI (ez_I h 3)) (ez_I h 2 1).toInt.toNat (600 * k.toInt.toNat) : Nat) ∧ (ez_I h2 68 2).toInt ≤ 7 ∧ (pkS (tI (ez_I h 3)) (ez_I h 2 1).toInt.toNat c b k.toInt.toNat).2 ≤ 42 * k.toInt.toNat + 8 * ptP (tI (ez_I h 3)) (ez_I h 2 1).toInt.toNat (600 * k.toInt.toNat) ∧ f.toInt = (((600 * k.toInt.toNat) : Nat) : Int) ∧ t.toInt = (((600 * k.toInt.toNat) + (blJ c k.toInt.toNat) : Nat) : Int) ∧ (ez_I h2 52 11).toInt = ((bkY (tI (ez_I h 3)) (ez_I h 2 1).toInt.toNat (600 * k.toInt.toNat) (blJ c k.toInt.toNat)) : Nat) := by omega
      clear hinv
      apply ez_Wp_in
      show ez_gw _ _ _ _ _ _ (cz_114) _ _ _ _ _
      refine gw_skip _ ?_
      have r185 := z_rng (ez_I h2 53 1)
      have r186 := z_rng (ez_I h2 58 2)
      have r187 := z_rng (ez_I h2 68 1)
      have r188 := z_rng (ez_I h2 68 2)
      have r189 := z_rng (ez_I h2 50 1)
      have r190 := z_rng (ez_I h2 55 2)
      have r191 := z_rng (ez_I h2 52 10)
      have r192 := z_rng (ez_I h2 52 11)
      have r193 := z_rng (ez_I h2 61 1)
      have r194 := z_rng (ez_I h2 61 2)
      have r195 := z_rng (ez_I h2 61 5)
      have r196 := z_rng (ez_I h2 61 7)
      have r197 := z_rng (ez_I h2 43 4)
      have r198 := z_rng (ez_I h2 29 4)
      have r199 := z_rng (ez_I h2 36 4)
      refine gw_ld rfl rfl ?_
      refine z_gR (q := 68) (zT S2 (by decide) rfl) (zRf S2 (by decide) (by decide) rfl) (by decide) ?_
      refine gw_ld rfl rfl ?_
      refine gw_ld rfl rfl ?_
      refine z_gR (q := 55) (zT S2 (by decide) rfl) (zRf S2 (by decide) (by decide) rfl) (by decide) ?_
      refine z_gI2 (by decide) (zT S2 (by decide) rfl) (rfl) ?_
      refine z_C (m := 1) rfl rfl (fun x200 ex200 => ?_)
      refine z_sub (by omega) (fun x201 ex201 => ?_)
      refine z_b2 (fun c202 => ?_) (fun c202 => ?_)
      · have c202 : k.toInt ≠ x201.toInt := c202
        refine gw_skip _ ?_
        refine z_C (m := 0) rfl rfl (fun x203 ex203 => ?_)
        refine z_C (m := 1) rfl rfl (fun x204 ex204 => ?_)
        refine z_cl rfl rfl rfl rfl rfl rfl rfl rfl rfl rfl rfl (zT S2 (by decide) rfl) ?_
        have hpw : (2 : Int) ^ x204.toInt.toNat = 2 := by rw [show x204.toInt.toNat = 1 by omega]; rfl
        have hlb : x203.toInt.toNat = (if k.toInt.toNat + 1 = b then 1 else 0) := by
          by_cases q : k.toInt.toNat + 1 = b
          · rw [if_pos q]; omega
          · rw [if_neg q]; omega
        refine c_put (s := (pkS (tI (ez_I h 3)) (ez_I h 2 1).toInt.toNat c b k.toInt.toNat)) (v := x203) (n := x204) S2 A_st (by omega) (by omega) (by omega) (by omega) (fun h205 F206 k207 k208 => ?_)
        rw [hlb, show x204.toInt.toNat = 1 by omega] at k207
        have S209 := zW_sh F206 S2
        have F210 := zW_tr F (zW_mono F206 (x67_0) (x67_1) (x67_2))
        have f211 : ez_I h205 53 1 = (ez_I h2 53 1) := (zW_f F206 (by decide) (by decide)).trans (rfl)
        have f212 : ez_I h205 58 2 = (ez_I h2 58 2) := (zW_f F206 (by decide) (by decide)).trans (rfl)
        have r213 := z_rng (ez_I h205 68 1)
        have r214 := z_rng (ez_I h205 68 2)
        have r215 := z_rng (ez_I h205 50 1)
        have f216 : ez_I h205 55 2 = (ez_I h2 55 2) := (zW_f F206 (by decide) (by decide)).trans (rfl)
        have f217 : ez_I h205 52 10 = (ez_I h2 52 10) := (zW_f F206 (by decide) (by decide)).trans (rfl)
        have f218 : ez_I h205 52 11 = (ez_I h2 52 11) := (zW_f F206 (by decide) (by decide)).trans (rfl)
        have f219 : ez_I h205 61 1 = (ez_I h2 61 1) := (zW_f F206 (by decide) (by decide)).trans (rfl)
        have f220 : ez_I h205 61 2 = (ez_I h2 61 2) := (zW_f F206 (by decide) (by decide)).trans (rfl)
        have f221 : ez_I h205 61 5 = (ez_I h2 61 5) := (zW_f F206 (by decide) (by decide)).trans (rfl)
        have f222 : ez_I h205 61 7 = (ez_I h2 61 7) := (zW_f F206 (by decide) (by decide)).trans (rfl)
        have f223 : ez_I h205 43 4 = (ez_I h2 43 4) := (zW_f F206 (by decide) (by decide)).trans (rfl)
        have f224 : ez_I h205 29 4 = (ez_I h2 29 4) := (zW_f F206 (by decide) (by decide)).trans (rfl)
        have f225 : ez_I h205 36 4 = (ez_I h2 36 4) := (zW_f F206 (by decide) (by decide)).trans (rfl)
        have A226 : pqG (ez_I h205 54) (aM (tI (ez_I h 3)) (ez_I h 2 1).toInt.toNat) (dI (tI (ez_I h 3)) (ez_I h 2 1).toInt.toNat) c := by rw [zW_fn F206 54 (by decide) (x67_3)]; exact A_pq
        have A227 : ∀ i, i < k.toInt.toNat → bfC (ez_I h205 56) (ez_I h205 57) (tI (ez_I h 3)) (ez_I h 2 1).toInt.toNat c b i := by rw [zW_fn F206 56 (by decide) (x67_4), zW_fn F206 57 (by decide) (x67_5)]; exact A_bk
        have A228 : ((ez_I h205 56 (6 * k.toInt.toNat)).toInt = (bkW (tI (ez_I h 3)) (ez_I h 2 1).toInt.toNat (600 * k.toInt.toNat) (blJ c k.toInt.toNat) (pkS (tI (ez_I h 3)) (ez_I h 2 1).toInt.toNat c b k.toInt.toNat).2 : Nat) ∧ (ez_I h205 56 (6 * k.toInt.toNat + 1)).toInt = ((blJ c k.toInt.toNat) : Nat) ∧ (ez_I h205 56 (6 * k.toInt.toNat + 2)).toInt = ((bkY (tI (ez_I h 3)) (ez_I h 2 1).toInt.toNat (600 * k.toInt.toNat) (blJ c k.toInt.toNat)) : Nat) ∧ (ez_I h205 56 (6 * k.toInt.toNat + 3)).toInt = (bkB (tI (ez_I h 3)) (ez_I h 2 1).toInt.toNat (600 * k.toInt.toNat) (blJ c k.toInt.toNat) (pkS (tI (ez_I h 3)) (ez_I h 2 1).toInt.toNat c b k.toInt.toNat).2 : Nat) ∧ (ez_I h205 56 (6 * k.toInt.toNat + 4)).toInt = ((bkFX (tI (ez_I h 3)) (ez_I h 2 1).toInt.toNat (600 * k.toInt.toNat) (blJ c k.toInt.toNat)) : Nat) ∧ (ez_I h205 56 (6 * k.toInt.toNat + 5)).toInt = ((bkDY (tI (ez_I h 3)) (ez_I h 2 1).toInt.toNat (600 * k.toInt.toNat) (blJ c k.toInt.toNat)) : Nat)) := by rw [zW_fn F206 56 (by decide) (x67_4)]; exact A_nn
        have A229 : plP (ez_I h205 61) (ez_I h205 63) (ez_I h205 64) (ez_I h205 44) (ez_I h205 45) (nL (ez_I h205 30)) (nL (ez_I h205 37)) cc := by rw [zW_fn F206 61 (by decide) (x67_29), zW_fn F206 63 (by decide) (x67_30), zW_fn F206 64 (by decide) (x67_31), zW_fn F206 44 (by decide) (x67_32), zW_fn F206 45 (by decide) (x67_33), zW_fn F206 30 (by decide) (x67_34), zW_fn F206 37 (by decide) (x67_35)]; exact A_pl
        have A230 : (∀ q, q < 288 → nL (ez_I h205 30) q = (bkL (tI (ez_I h 3)) (ez_I h 2 1).toInt.toNat (600 * k.toInt.toNat) (blJ c k.toInt.toNat)) q) := by rw [zW_fn F206 30 (by decide) (x67_34)]; exact A_e30
        have A231 : aR (ez_I h205 30) 288 0 15 := by rw [zW_fn F206 30 (by decide) (x67_34)]; exact A_a30
        have A232 : (∀ q, q < 286 → 1 ≤ (bkC (tI (ez_I h 3)) (ez_I h 2 1).toInt.toNat (600 * k.toInt.toNat) (blJ c k.toInt.toNat)) q → 1 ≤ nL (ez_I h205 30) q) := by rw [zW_fn F206 30 (by decide) (x67_34)]; exact A_u30
        have A233 : (∀ q, q < 288 → nL (ez_I h205 37) q = (bkE (tI (ez_I h 3)) (ez_I h 2 1).toInt.toNat (600 * k.toInt.toNat) (blJ c k.toInt.toNat)) q) := by rw [zW_fn F206 37 (by decide) (x67_35)]; exact A_e37
        have A234 : aR (ez_I h205 37) 288 0 15 := by rw [zW_fn F206 37 (by decide) (x67_35)]; exact A_a37
        have A235 : (∀ q, q < 30 → 1 ≤ (bkD (tI (ez_I h 3)) (ez_I h 2 1).toInt.toNat (600 * k.toInt.toNat) (blJ c k.toInt.toNat)) q → 1 ≤ nL (ez_I h205 37) q) := by rw [zW_fn F206 37 (by decide) (x67_35)]; exact A_u37
        have t236 := congrArg Int32.toInt (f211)
        have t237 := congrArg Int32.toInt (f212)
        have t238 := congrArg Int32.toInt (f216)
        have t239 := congrArg Int32.toInt (f217)
        have t240 := congrArg Int32.toInt (f218)
        have t241 := congrArg Int32.toInt (f219)
        have t242 := congrArg Int32.toInt (f220)
        have t243 := congrArg Int32.toInt (f221)
        have t244 := congrArg Int32.toInt (f222)
        have t245 := congrArg Int32.toInt (f223)
        have t246 := congrArg Int32.toInt (f224)
        have t247 := congrArg Int32.toInt (f225)
        exact ez_Wp_at (ih.2.2 h205 p k f t c b cc F210 (⟨by omega, by omega, by omega, by omega, by omega, by omega, hinv0, by omega, by omega, by omega, by omega, by omega, by omega, by omega, by omega, hmn2⟩) A226 (A_lt) (A_pe) k207 A227 A228 A229 A230 A231 A232 A233 A234 A235 (by omega)) rfl
      · have c202 : ¬ (k.toInt ≠ x201.toInt) := c202
        refine z_C (m := 1) rfl rfl (fun x248 ex248 => ?_)
        refine z_go ?_
        refine gw_skip _ ?_
        refine z_C (m := 1) rfl rfl (fun x249 ex249 => ?_)
        refine z_cl rfl rfl rfl rfl rfl rfl rfl rfl rfl rfl rfl (zT S2 (by decide) rfl) ?_
        have hpw : (2 : Int) ^ x249.toInt.toNat = 2 := by rw [show x249.toInt.toNat = 1 by omega]; rfl
        have hlb : x248.toInt.toNat = (if k.toInt.toNat + 1 = b then 1 else 0) := by
          by_cases q : k.toInt.toNat + 1 = b
          · rw [if_pos q]; omega
          · rw [if_neg q]; omega
        refine c_put (s := (pkS (tI (ez_I h 3)) (ez_I h 2 1).toInt.toNat c b k.toInt.toNat)) (v := x248) (n := x249) S2 A_st (by omega) (by omega) (by omega) (by omega) (fun h250 F251 k252 k253 => ?_)
        rw [hlb, show x249.toInt.toNat = 1 by omega] at k252
        have S254 := zW_sh F251 S2
        have F255 := zW_tr F (zW_mono F251 (x67_0) (x67_1) (x67_2))
        have f256 : ez_I h250 53 1 = (ez_I h2 53 1) := (zW_f F251 (by decide) (by decide)).trans (rfl)
        have f257 : ez_I h250 58 2 = (ez_I h2 58 2) := (zW_f F251 (by decide) (by decide)).trans (rfl)
        have r258 := z_rng (ez_I h250 68 1)
        have r259 := z_rng (ez_I h250 68 2)
        have r260 := z_rng (ez_I h250 50 1)
        have f261 : ez_I h250 55 2 = (ez_I h2 55 2) := (zW_f F251 (by decide) (by decide)).trans (rfl)
        have f262 : ez_I h250 52 10 = (ez_I h2 52 10) := (zW_f F251 (by decide) (by decide)).trans (rfl)
        have f263 : ez_I h250 52 11 = (ez_I h2 52 11) := (zW_f F251 (by decide) (by decide)).trans (rfl)
        have f264 : ez_I h250 61 1 = (ez_I h2 61 1) := (zW_f F251 (by decide) (by decide)).trans (rfl)
        have f265 : ez_I h250 61 2 = (ez_I h2 61 2) := (zW_f F251 (by decide) (by decide)).trans (rfl)
        have f266 : ez_I h250 61 5 = (ez_I h2 61 5) := (zW_f F251 (by decide) (by decide)).trans (rfl)
        have f267 : ez_I h250 61 7 = (ez_I h2 61 7) := (zW_f F251 (by decide) (by decide)).trans (rfl)
        have f268 : ez_I h250 43 4 = (ez_I h2 43 4) := (zW_f F251 (by decide) (by decide)).trans (rfl)
        have f269 : ez_I h250 29 4 = (ez_I h2 29 4) := (zW_f F251 (by decide) (by decide)).trans (rfl)
        have f270 : ez_I h250 36 4 = (ez_I h2 36 4) := (zW_f F251 (by decide) (by decide)).trans (rfl)
        have A271 : pqG (ez_I h250 54) (aM (tI (ez_I h 3)) (ez_I h 2 1).toInt.toNat) (dI (tI (ez_I h 3)) (ez_I h 2 1).toInt.toNat) c := by rw [zW_fn F251 54 (by decide) (x67_3)]; exact A_pq
        have A272 : ∀ i, i < k.toInt.toNat → bfC (ez_I h250 56) (ez_I h250 57) (tI (ez_I h 3)) (ez_I h 2 1).toInt.toNat c b i := by rw [zW_fn F251 56 (by decide) (x67_4), zW_fn F251 57 (by decide) (x67_5)]; exact A_bk
        have A273 : ((ez_I h250 56 (6 * k.toInt.toNat)).toInt = (bkW (tI (ez_I h 3)) (ez_I h 2 1).toInt.toNat (600 * k.toInt.toNat) (blJ c k.toInt.toNat) (pkS (tI (ez_I h 3)) (ez_I h 2 1).toInt.toNat c b k.toInt.toNat).2 : Nat) ∧ (ez_I h250 56 (6 * k.toInt.toNat + 1)).toInt = ((blJ c k.toInt.toNat) : Nat) ∧ (ez_I h250 56 (6 * k.toInt.toNat + 2)).toInt = ((bkY (tI (ez_I h 3)) (ez_I h 2 1).toInt.toNat (600 * k.toInt.toNat) (blJ c k.toInt.toNat)) : Nat) ∧ (ez_I h250 56 (6 * k.toInt.toNat + 3)).toInt = (bkB (tI (ez_I h 3)) (ez_I h 2 1).toInt.toNat (600 * k.toInt.toNat) (blJ c k.toInt.toNat) (pkS (tI (ez_I h 3)) (ez_I h 2 1).toInt.toNat c b k.toInt.toNat).2 : Nat) ∧ (ez_I h250 56 (6 * k.toInt.toNat + 4)).toInt = ((bkFX (tI (ez_I h 3)) (ez_I h 2 1).toInt.toNat (600 * k.toInt.toNat) (blJ c k.toInt.toNat)) : Nat) ∧ (ez_I h250 56 (6 * k.toInt.toNat + 5)).toInt = ((bkDY (tI (ez_I h 3)) (ez_I h 2 1).toInt.toNat (600 * k.toInt.toNat) (blJ c k.toInt.toNat)) : Nat)) := by rw [zW_fn F251 56 (by decide) (x67_4)]; exact A_nn
        have A274 : plP (ez_I h250 61) (ez_I h250 63) (ez_I h250 64) (ez_I h250 44) (ez_I h250 45) (nL (ez_I h250 30)) (nL (ez_I h250 37)) cc := by rw [zW_fn F251 61 (by decide) (x67_29), zW_fn F251 63 (by decide) (x67_30), zW_fn F251 64 (by decide) (x67_31), zW_fn F251 44 (by decide) (x67_32), zW_fn F251 45 (by decide) (x67_33), zW_fn F251 30 (by decide) (x67_34), zW_fn F251 37 (by decide) (x67_35)]; exact A_pl
        have A275 : (∀ q, q < 288 → nL (ez_I h250 30) q = (bkL (tI (ez_I h 3)) (ez_I h 2 1).toInt.toNat (600 * k.toInt.toNat) (blJ c k.toInt.toNat)) q) := by rw [zW_fn F251 30 (by decide) (x67_34)]; exact A_e30
        have A276 : aR (ez_I h250 30) 288 0 15 := by rw [zW_fn F251 30 (by decide) (x67_34)]; exact A_a30
        have A277 : (∀ q, q < 286 → 1 ≤ (bkC (tI (ez_I h 3)) (ez_I h 2 1).toInt.toNat (600 * k.toInt.toNat) (blJ c k.toInt.toNat)) q → 1 ≤ nL (ez_I h250 30) q) := by rw [zW_fn F251 30 (by decide) (x67_34)]; exact A_u30
        have A278 : (∀ q, q < 288 → nL (ez_I h250 37) q = (bkE (tI (ez_I h 3)) (ez_I h 2 1).toInt.toNat (600 * k.toInt.toNat) (blJ c k.toInt.toNat)) q) := by rw [zW_fn F251 37 (by decide) (x67_35)]; exact A_e37
        have A279 : aR (ez_I h250 37) 288 0 15 := by rw [zW_fn F251 37 (by decide) (x67_35)]; exact A_a37
        have A280 : (∀ q, q < 30 → 1 ≤ (bkD (tI (ez_I h 3)) (ez_I h 2 1).toInt.toNat (600 * k.toInt.toNat) (blJ c k.toInt.toNat)) q → 1 ≤ nL (ez_I h250 37) q) := by rw [zW_fn F251 37 (by decide) (x67_35)]; exact A_u37
        have t281 := congrArg Int32.toInt (f256)
        have t282 := congrArg Int32.toInt (f257)
        have t283 := congrArg Int32.toInt (f261)
        have t284 := congrArg Int32.toInt (f262)
        have t285 := congrArg Int32.toInt (f263)
        have t286 := congrArg Int32.toInt (f264)
        have t287 := congrArg Int32.toInt (f265)
        have t288 := congrArg Int32.toInt (f266)
        have t289 := congrArg Int32.toInt (f267)
        have t290 := congrArg Int32.toInt (f268)
        have t291 := congrArg Int32.toInt (f269)
        have t292 := congrArg Int32.toInt (f270)
        exact ez_Wp_at (ih.2.2 h250 p k f t c b cc F255 (⟨by omega, by omega, by omega, by omega, by omega, by omega, hinv0, by omega, by omega, by omega, by omega, by omega, by omega, by omega, by omega, hmn2⟩) A271 (A_lt) (A_pe) k252 A272 A273 A274 A275 A276 A277 A278 A279 A280 (by omega)) rfl
    · skip
      have w_p := z_rng p
      have w_k := z_rng k
      have w_f := z_rng f
      have w_t := z_rng t
      have hT : ∀ i, i < (ez_I h 2 1).toInt.toNat → 0 ≤ (tI (ez_I h 3)) i ∧ (tI (ez_I h 3)) i ≤ 255 := fun i hi => hb i hi
      have S2 := zW_sh F S
      have hmn2 := hinv.2.2.2.2.2.2.2.2.2.2.2.2.2.2.2
      have hfk : f.toInt.toNat = (600 * k.toInt.toNat) := by omega
      have hjk : t.toInt.toNat - f.toInt.toNat = (blJ c k.toInt.toNat) := by omega
      have hj6 : (blJ c k.toInt.toNat) ≤ 600 ∧ (600 * k.toInt.toNat) + (blJ c k.toInt.toNat) ≤ c := by omega
      have hby := bY_pt (T := (tI (ez_I h 3))) (n := (ez_I h 2 1).toInt.toNat) (a := (600 * k.toInt.toNat)) hT A_lt (blJ c k.toInt.toNat) (by omega)
      have hyk : (bkY (tI (ez_I h 3)) (ez_I h 2 1).toInt.toNat (600 * k.toInt.toNat) (blJ c k.toInt.toNat)) = bY (aM (tI (ez_I h 3)) (ez_I h 2 1).toInt.toNat) (dI (tI (ez_I h 3)) (ez_I h 2 1).toInt.toNat) (600 * k.toInt.toNat) (blJ c k.toInt.toNat) := rfl
      have hpk := ptP_k (T := (tI (ez_I h 3))) (n := (ez_I h 2 1).toInt.toNat) ((600 * k.toInt.toNat) + (blJ c k.toInt.toNat)) (fun j hj => A_lt j (by omega))
      have hinv0 := hinv.2.2.2.2.2.2.1
      have hi1 : 0 ≤ k.toInt ∧ k.toInt < b ∧ (ez_I h2 53 1).toInt = c ∧ c ≤ 6000 ∧ (ez_I h2 55 2).toInt = b ∧ b ≤ 10 ∧ p.toInt = (ptP (tI (ez_I h 3)) (ez_I h 2 1).toInt.toNat (600 * k.toInt.toNat) : Nat) ∧ (ez_I h2 68 2).toInt ≤ 7 ∧ (pkS (tI (ez_I h 3)) (ez_I h 2 1).toInt.toNat c b k.toInt.toNat).2 ≤ 42 * k.toInt.toNat + 8 * ptP (tI (ez_I h 3)) (ez_I h 2 1).toInt.toNat (600 * k.toInt.toNat) ∧ f.toInt = (((600 * k.toInt.toNat) : Nat) : Int) ∧ t.toInt = (((600 * k.toInt.toNat) + (blJ c k.toInt.toNat) : Nat) : Int) ∧ (ez_I h2 52 11).toInt = ((bkY (tI (ez_I h 3)) (ez_I h 2 1).toInt.toNat (600 * k.toInt.toNat) (blJ c k.toInt.toNat)) : Nat) := by omega
      clear hinv
      apply ez_Wp_in
      show ez_gw _ _ _ _ _ _ (cz_114) _ _ _ _ _
      refine gw_skip _ ?_
      have r293 := z_rng (ez_I h2 53 1)
      have r294 := z_rng (ez_I h2 58 2)
      have r295 := z_rng (ez_I h2 68 1)
      have r296 := z_rng (ez_I h2 68 2)
      have r297 := z_rng (ez_I h2 50 1)
      have r298 := z_rng (ez_I h2 55 2)
      have r299 := z_rng (ez_I h2 52 10)
      have r300 := z_rng (ez_I h2 52 11)
      have r301 := z_rng (ez_I h2 61 1)
      have r302 := z_rng (ez_I h2 61 2)
      have r303 := z_rng (ez_I h2 61 5)
      have r304 := z_rng (ez_I h2 61 7)
      have r305 := z_rng (ez_I h2 43 4)
      have r306 := z_rng (ez_I h2 29 4)
      have r307 := z_rng (ez_I h2 36 4)
      refine gw_ld rfl rfl ?_
      refine gw_ld rfl rfl ?_
      refine gw_ld rfl rfl ?_
      refine gw_ld rfl rfl ?_
      refine gw_ld rfl rfl ?_
      refine gw_ld rfl rfl ?_
      refine z_cl rfl rfl rfl rfl rfl rfl rfl rfl rfl rfl rfl (zT S2 (by decide) rfl) ?_
      have b30w : ∀ q, q < 286 → nL (ez_I h2 30) q ≤ 15 := fun q hq => by have := A_a30 q (by omega); show (ez_I h2 30 q).toInt.toNat ≤ 15; omega
      have b37w : ∀ q, q < 30 → nL (ez_I h2 37) q ≤ 15 := fun q hq => by have := A_a37 q (by omega); show (ez_I h2 37 q).toInt.toNat ≤ 15; omega
      have hccr : cc = (bkR (tI (ez_I h 3)) (ez_I h 2 1).toInt.toNat (600 * k.toInt.toNat) (blJ c k.toInt.toNat)) := row_R (fun q hq => A_e30 q (by omega)) (fun q hq => A_e37 q (by omega)) A_pl.2.2.2.2.2.1 A_pl.2.2.2.2.1 (by have := row_c b30w b37w A_pl.2.2.2.2.2.1; omega)
      have x2 := (show ez_I h2 2 1 = ez_I h 2 1 from zW_f F x67_36 x67_37)
      have x3 := (show ez_I h2 3 = ez_I h 3 from zW_fn F 3 x67_38 x67_39)
      have x16 := (show ez_I h2 16 = ez_I h 16 from zW_fn F 16 x67_16 x67_17)
      have x17 := (show ez_I h2 17 = ez_I h 17 from zW_fn F 17 x67_40 x67_41)
      have x23 := (show ez_I h2 23 = ez_I h 23 from zW_fn F 23 x67_18 x67_19)
      have x24 := (show ez_I h2 24 = ez_I h 24 from zW_fn F 24 x67_42 x67_43)
      refine c_wBlock (k := k) (fr := f) (to := t) (pl := p) (l := (if k.toInt.toNat + 1 = b then 1 else 0)) (c := c) (cc := cc) (s0 := (pkS (tI (ez_I h 3)) (ez_I h 2 1).toInt.toNat c b k.toInt.toNat)) S2 hE A_st (by omega) (by rw [x2]; exact hz) (by rw [x2, x3]; exact hb) (by omega) (by rw [x3, x2, hjk, hfk]; rw [show (6 * k.toInt).toNat = 6 * k.toInt.toNat by omega]; exact A_nn.1) (by rw [x3, x2, hjk, hfk]; omega) (by rw [x3, x2, hfk]; omega) (by omega) (by rw [x3, x2]; exact A_lt) (by rw [x3, x2]; exact A_pe) (by rw [x3, x2]; exact A_pq) (by omega) (by rw [x16]; exact a16) (by rw [x17, x16]; exact w17) (by rw [x16]; exact f16) (by rw [x23]; exact a23) (by rw [x24, x23]; exact w24) (by rw [x23]; exact f23) A_pl (by rw [x3, x2, hjk, hfk]; exact A_e30) A_a30 (by rw [x3, x2, hjk, hfk]; exact A_u30) (by rw [x3, x2, hjk, hfk]; exact A_e37) A_a37 (by rw [x3, x2, hjk, hfk]; exact A_u37) (by rw [x3, x2, hjk, hfk]; omega) (fun h308 F309 k310 k311 k312 k313 => ?_)
      rw [x3, x2, hjk, hfk] at k310 k312
      rw [show (335 * k.toInt).toNat = 335 * k.toInt.toNat by omega] at k312 k313
      have e56 : ez_I h308 56 = ez_I h2 56 := zW_fn F309 56 (by omega) (fun k c => by omega)
      have nnw := A_nn
      have hP := A_pl
      have hAk : ∀ q, q < 288 → nL (ez_I h2 44) q = (bkA (tI (ez_I h 3)) (ez_I h 2 1).toInt.toNat (600 * k.toInt.toNat) (blJ c k.toInt.toNat)) q := fun q hq => by rw [hP.2.2.2.2.2.2.2.1 q hq, (row_A (fun q hq => A_e30 q (by omega)) (fun q hq => A_e37 q (by omega)) hP.2.2.2.2.2.1).1, hccr]; rfl
      have A314 : ∀ i, i < k.toInt.toNat + 1 → bfC (ez_I h308 56) (ez_I h308 57) (tI (ez_I h 3)) (ez_I h 2 1).toInt.toNat c b i := fun i hi => by
        rw [e56]
        by_cases qi : i = k.toInt.toNat
        · subst qi
          refine ⟨nnw.1, nnw.2.1, nnw.2.2.1, nnw.2.2.2.1, nnw.2.2.2.2.1, nnw.2.2.2.2.2, fun q => ?_⟩
          obtain ⟨m1, m2, m3⟩ := k312 q
          exact ⟨fun z hz9 => by rw [m1 z hz9, ← A_e30 z (by omega)]; have := A_a30 z (by omega); show _ = (((ez_I h2 30 z).toInt.toNat : Nat) : Int); omega, fun z hz9 => by rw [m2 z hz9, ← A_e37 z (by omega)]; have := A_a37 z (by omega); show _ = (((ez_I h2 37 z).toInt.toNat : Nat) : Int); omega, fun z hz9 => by rw [m3 z hz9, ← hAk z (by omega)]; have := hP.2.2.2.2.2.2.2.2.1 z (by omega); show _ = (((ez_I h2 44 z).toInt.toNat : Nat) : Int); omega⟩
        · exact bfC_fr (A_bk i (by omega)) (fun j _ _ => rfl) (fun j a b => k313 j (by omega))
      have hcl9 := bkH_cl (T := (tI (ez_I h 3))) (n := (ez_I h 2 1).toInt.toNat) (a := (600 * k.toInt.toNat)) (j := (blJ c k.toInt.toNat)) (s := (0, 0)) hP (fun q hq => A_e30 q (by omega)) (fun q hq => A_e37 q (by omega)) b30w b37w
      have hb2 := bkS_2 (T := (tI (ez_I h 3))) (n := (ez_I h 2 1).toInt.toNat) (c := c) (a := (600 * k.toInt.toNat)) (j := (blJ c k.toInt.toNat)) (l := (if k.toInt.toNat + 1 = b then 1 else 0)) (s := (pkS (tI (ez_I h 3)) (ez_I h 2 1).toInt.toNat c b k.toInt.toNat)) hT A_lt (by omega) hcl9.2.2
      have hbl := bkB_le (T := (tI (ez_I h 3))) (n := (ez_I h 2 1).toInt.toNat) (a := (600 * k.toInt.toNat)) (j := (blJ c k.toInt.toNat)) (z := (pkS (tI (ez_I h 3)) (ez_I h 2 1).toInt.toNat c b k.toInt.toNat).2)
      have S315 := zW_sh F309 S2
      have F316 := zW_tr F (zW_mono F309 (x67_44) (x67_45) (x67_2))
      have f317 : ez_I h308 53 1 = (ez_I h2 53 1) := (zW_f F309 (by decide) (by decide)).trans (rfl)
      have f318 : ez_I h308 58 2 = (ez_I h2 58 2) := (zW_f F309 (by decide) (by decide)).trans (rfl)
      have r319 := z_rng (ez_I h308 68 1)
      have r320 := z_rng (ez_I h308 68 2)
      have r321 := z_rng (ez_I h308 50 1)
      have f322 : ez_I h308 55 2 = (ez_I h2 55 2) := (zW_f F309 (by decide) (by decide)).trans (rfl)
      have f323 : ez_I h308 52 10 = (ez_I h2 52 10) := (zW_f F309 (by decide) (by decide)).trans (rfl)
      have f324 : ez_I h308 52 11 = (ez_I h2 52 11) := (zW_f F309 (by decide) (by decide)).trans (rfl)
      have f325 : ez_I h308 61 1 = (ez_I h2 61 1) := (zW_f F309 (by decide) (by decide)).trans (rfl)
      have f326 : ez_I h308 61 2 = (ez_I h2 61 2) := (zW_f F309 (by decide) (by decide)).trans (rfl)
      have f327 : ez_I h308 61 5 = (ez_I h2 61 5) := (zW_f F309 (by decide) (by decide)).trans (rfl)
      have f328 : ez_I h308 61 7 = (ez_I h2 61 7) := (zW_f F309 (by decide) (by decide)).trans (rfl)
      have f329 : ez_I h308 43 4 = (ez_I h2 43 4) := (zW_f F309 (by decide) (by decide)).trans (rfl)
      have r330 := z_rng (ez_I h308 29 4)
      have r331 := z_rng (ez_I h308 36 4)
      have A332 : pqG (ez_I h308 54) (aM (tI (ez_I h 3)) (ez_I h 2 1).toInt.toNat) (dI (tI (ez_I h 3)) (ez_I h 2 1).toInt.toNat) c := by rw [zW_fn F309 54 (by decide) (x67_46)]; exact A_pq
      have A333 : ((ez_I h308 56 (6 * k.toInt.toNat)).toInt = (bkW (tI (ez_I h 3)) (ez_I h 2 1).toInt.toNat (600 * k.toInt.toNat) (blJ c k.toInt.toNat) (pkS (tI (ez_I h 3)) (ez_I h 2 1).toInt.toNat c b k.toInt.toNat).2 : Nat) ∧ (ez_I h308 56 (6 * k.toInt.toNat + 1)).toInt = ((blJ c k.toInt.toNat) : Nat) ∧ (ez_I h308 56 (6 * k.toInt.toNat + 2)).toInt = ((bkY (tI (ez_I h 3)) (ez_I h 2 1).toInt.toNat (600 * k.toInt.toNat) (blJ c k.toInt.toNat)) : Nat) ∧ (ez_I h308 56 (6 * k.toInt.toNat + 3)).toInt = (bkB (tI (ez_I h 3)) (ez_I h 2 1).toInt.toNat (600 * k.toInt.toNat) (blJ c k.toInt.toNat) (pkS (tI (ez_I h 3)) (ez_I h 2 1).toInt.toNat c b k.toInt.toNat).2 : Nat) ∧ (ez_I h308 56 (6 * k.toInt.toNat + 4)).toInt = ((bkFX (tI (ez_I h 3)) (ez_I h 2 1).toInt.toNat (600 * k.toInt.toNat) (blJ c k.toInt.toNat)) : Nat) ∧ (ez_I h308 56 (6 * k.toInt.toNat + 5)).toInt = ((bkDY (tI (ez_I h 3)) (ez_I h 2 1).toInt.toNat (600 * k.toInt.toNat) (blJ c k.toInt.toNat)) : Nat)) := by rw [zW_fn F309 56 (by decide) (x67_47)]; exact A_nn
      have A334 : plP (ez_I h308 61) (ez_I h308 63) (ez_I h308 64) (ez_I h308 44) (ez_I h308 45) (nL (ez_I h308 30)) (nL (ez_I h308 37)) cc := by rw [zW_fn F309 61 (by decide) (x67_48), zW_fn F309 63 (by decide) (x67_49), zW_fn F309 64 (by decide) (x67_50), zW_fn F309 44 (by decide) (x67_51), zW_fn F309 45 (by decide) (x67_52), zW_fn F309 30 (by decide) (x67_53), zW_fn F309 37 (by decide) (x67_54)]; exact A_pl
      have A335 : (∀ q, q < 288 → nL (ez_I h308 30) q = (bkL (tI (ez_I h 3)) (ez_I h 2 1).toInt.toNat (600 * k.toInt.toNat) (blJ c k.toInt.toNat)) q) := by rw [zW_fn F309 30 (by decide) (x67_53)]; exact A_e30
      have A336 : aR (ez_I h308 30) 288 0 15 := by rw [zW_fn F309 30 (by decide) (x67_53)]; exact A_a30
      have A337 : (∀ q, q < 286 → 1 ≤ (bkC (tI (ez_I h 3)) (ez_I h 2 1).toInt.toNat (600 * k.toInt.toNat) (blJ c k.toInt.toNat)) q → 1 ≤ nL (ez_I h308 30) q) := by rw [zW_fn F309 30 (by decide) (x67_53)]; exact A_u30
      have A338 : (∀ q, q < 288 → nL (ez_I h308 37) q = (bkE (tI (ez_I h 3)) (ez_I h 2 1).toInt.toNat (600 * k.toInt.toNat) (blJ c k.toInt.toNat)) q) := by rw [zW_fn F309 37 (by decide) (x67_54)]; exact A_e37
      have A339 : aR (ez_I h308 37) 288 0 15 := by rw [zW_fn F309 37 (by decide) (x67_54)]; exact A_a37
      have A340 : (∀ q, q < 30 → 1 ≤ (bkD (tI (ez_I h 3)) (ez_I h 2 1).toInt.toNat (600 * k.toInt.toNat) (blJ c k.toInt.toNat)) q → 1 ≤ nL (ez_I h308 37) q) := by rw [zW_fn F309 37 (by decide) (x67_54)]; exact A_u37
      refine gw_ld rfl rfl ?_
      refine gw_ld rfl rfl ?_
      refine z_gI2 (by decide) (zT S315 (by decide) rfl) (f324) ?_
      refine z_add (by omega) (fun x341 ex341 => ?_)
      refine gw_st rfl rfl rfl ?_
      show ez_gw _ _ _ _ _ _ _ _ [some (.ref 52), some (.ref 2), some (.int x341), some (.int k), some (.int f), some (.int t)] _ _ _
      refine z_inc rfl (by rw [show (1 : Int32).toInt = 1 from rfl]; omega) (fun x342 ex342 => ?_)
      rw [show (1 : Int32).toInt = 1 from rfl] at ex342
      show ez_gw _ _ _ _ _ _ _ _ [some (.ref 52), some (.ref 2), some (.int x341), some (.int x342), some (.int f), some (.int t)] _ _ _
      refine z_go ?_
      have t343 := congrArg Int32.toInt (f317)
      have t344 := congrArg Int32.toInt (f318)
      have t345 := congrArg Int32.toInt (f322)
      have t346 := congrArg Int32.toInt (f323)
      have t347 := congrArg Int32.toInt (f324)
      have t348 := congrArg Int32.toInt (f325)
      have t349 := congrArg Int32.toInt (f326)
      have t350 := congrArg Int32.toInt (f327)
      have t351 := congrArg Int32.toInt (f328)
      have t352 := congrArg Int32.toInt (f329)
      exact ih.1 h308 x341 x342 (some (.int f)) (some (.int t)) c b F316 (⟨by omega, by omega, by omega, by omega, by omega, by omega, hinv0, by rw [show x342.toInt.toNat = k.toInt.toNat + 1 by omega, show min (600 * (k.toInt.toNat + 1)) c = (600 * k.toInt.toNat) + (blJ c k.toInt.toNat) from hmn2]; omega, by omega, by rw [show x342.toInt.toNat = k.toInt.toNat + 1 by omega, show min (600 * (k.toInt.toNat + 1)) c = (600 * k.toInt.toNat) + (blJ c k.toInt.toNat) from hmn2, pk_s, hb2]; omega⟩) (A332) (A_lt) (A_pe) ((by rw [show x342.toInt.toNat = k.toInt.toNat + 1 by omega, pk_s]; exact k310)) ((by rw [show x342.toInt.toNat = k.toInt.toNat + 1 by omega]; exact A314)) (by omega)
theorem x67_55 : ∀ q k : Nat, (q = 53 ∧ k = 1 ∨ q = 58 ∧ k = 2) → (q = 53 ∧ k = 1 ∨ q = 58 ∧ k = 2 ∨ q = 68 ∧ k = 1 ∨ q = 68 ∧ k = 2 ∨ q = 50 ∧ k = 1 ∨ q = 55 ∧ k = 2 ∨ q = 52 ∧ k = 10 ∨ q = 52 ∧ k = 11 ∨ q = 61 ∧ k = 1 ∨ q = 61 ∧ k = 2 ∨ q = 61 ∧ k = 5 ∨ q = 61 ∧ k = 7 ∨ q = 43 ∧ k = 4 ∨ q = 29 ∧ k = 4 ∨ q = 36 ∧ k = 4) := fun q k hk => hk.elim (fun g => (.inl g)) (fun hk => (.inr (.inl hk)))
theorem x67_56 : ∀ q : Nat, (q = 54 ∨ q = 59 ∨ q = 60) → (q = 54 ∨ q = 59 ∨ q = 60 ∨ q = 51 ∨ q = 66 ∨ q = 67 ∨ q = 10 ∨ q = 13 ∨ 30 ≤ q ∧ q ≤ 35 ∨ 37 ≤ q ∧ q ≤ 42 ∨ 44 ≤ q ∧ q ≤ 49 ∨ q = 56 ∨ q = 57 ∨ 62 ≤ q ∧ q ≤ 65) := fun q hk => hk.elim (fun g => (.inl g)) (fun hk => hk.elim (fun g => (.inr (.inl g))) (fun hk => (.inr (.inr (.inl hk)))))
theorem x67_57 : ∀ q : Nat, (False) → (q = 54 ∨ q = 59 ∨ q = 60 ∨ q = 51 ∨ q = 66 ∨ q = 67 ∨ q = 10 ∨ q = 13 ∨ 30 ≤ q ∧ q ≤ 35 ∨ 37 ≤ q ∧ q ≤ 42 ∨ 44 ≤ q ∧ q ≤ 49 ∨ q = 56 ∨ q = 57 ∨ 62 ≤ q ∧ q ≤ 65) := fun q hk => hk.elim
theorem x67_58 : ∀ q k : Nat, (q = 55 ∧ k = 2) → (q = 53 ∧ k = 1 ∨ q = 58 ∧ k = 2 ∨ q = 68 ∧ k = 1 ∨ q = 68 ∧ k = 2 ∨ q = 50 ∧ k = 1 ∨ q = 55 ∧ k = 2 ∨ q = 52 ∧ k = 10 ∨ q = 52 ∧ k = 11 ∨ q = 61 ∧ k = 1 ∨ q = 61 ∧ k = 2 ∨ q = 61 ∧ k = 5 ∨ q = 61 ∧ k = 7 ∨ q = 43 ∧ k = 4 ∨ q = 29 ∧ k = 4 ∨ q = 36 ∧ k = 4) := fun q k hk => (.inr (.inr (.inr (.inr (.inr (.inl hk))))))
theorem x67_59 : ∀ k : Nat, ¬ (54 = 55 ∧ k = 2) := fun k c => by omega
theorem x67_60 : ∀ k : Nat, ¬ (51 = 55 ∧ k = 2) := fun k c => by omega
theorem x67_61 : ∀ k : Nat, ¬ (50 = 55 ∧ k = 2) := fun k c => by omega
theorem x67_62 : ∀ k : Nat, ¬ (68 = 55 ∧ k = 2) := fun k c => by omega
set_option maxRecDepth 4000 in
set_option maxHeartbeats 4000000 in
theorem c_run {E : Nat → Nat × (Nat → Int32)} {d : Nat} {Q : ez_Q} {h : ez_H}  (S : zSh h) (hE : zE E) (hz : 0 ≤ (ez_I h 2 1).toInt ∧ (ez_I h 2 1).toInt ≤ 6000) (hb : aR (ez_I h 3) (ez_I h 2 1).toInt.toNat 0 255) (a16 : aR (ez_I h 16) 288 0 15) (w17 : wdI (ez_I h 17) (nL (ez_I h 16)) 288 288) (f16 : ∀ k, k < 288 → nL (ez_I h 16) k = fxL k) (a23 : aR (ez_I h 23) 288 0 15) (w24 : wdI (ez_I h 24) (nL (ez_I h 23)) 288 288) (f23 : ∀ k, k < 288 → nL (ez_I h 23) k = fxD k) (K : ∀ h2, zW (fun q k => q = 53 ∧ k = 1 ∨ q = 58 ∧ k = 2 ∨ q = 68 ∧ k = 1 ∨ q = 68 ∧ k = 2 ∨ q = 50 ∧ k = 1 ∨ q = 55 ∧ k = 2 ∨ q = 52 ∧ k = 10 ∨ q = 52 ∧ k = 11 ∨ q = 61 ∧ k = 1 ∨ q = 61 ∧ k = 2 ∨ q = 61 ∧ k = 5 ∨ q = 61 ∧ k = 7 ∨ q = 43 ∧ k = 4 ∨ q = 29 ∧ k = 4 ∨ q = 36 ∧ k = 4) (fun q => q = 54 ∨ q = 59 ∨ q = 60 ∨ q = 51 ∨ q = 66 ∨ q = 67 ∨ q = 10 ∨ q = 13 ∨ 30 ≤ q ∧ q ≤ 35 ∨ 37 ≤ q ∧ q ≤ 42 ∨ 44 ≤ q ∧ q ≤ 49 ∨ q = 56 ∨ q = 57 ∨ 62 ≤ q ∧ q ≤ 65) (fun q => q = 11 ∨ q = 12) h h2 → ∀ c b : Nat, (ez_I h2 53 1).toInt = c → c ≤ 6000 → ltP (tI (ez_I h 3)) (ez_I h 2 1).toInt.toNat c → ptP (tI (ez_I h 3)) (ez_I h 2 1).toInt.toNat c = (ez_I h 2 1).toInt.toNat → pqG (ez_I h2 54) (aM (tI (ez_I h 3)) (ez_I h 2 1).toInt.toNat) (dI (tI (ez_I h 3)) (ez_I h 2 1).toInt.toNat) c → (ez_I h2 55 2).toInt = b → (c = 0 ∧ b = 1 ∨ 0 < c ∧ b = (c + 599) / 600) → (ez_I h2 50 1).toInt = ((((pkS (tI (ez_I h 3)) (ez_I h 2 1).toInt.toNat c b b).2 + 7) / 8 : Nat) : Int) → (ez_I h2 50 1).toInt ≤ 6100 → (∀ i : Nat, (i : Int) < (ez_I h2 50 1).toInt → (ez_I h2 51 i).toInt = (((pkS (tI (ez_I h 3)) (ez_I h 2 1).toInt.toNat c b b).1 / 256 ^ i % 256 : Nat) : Int)) → (∀ i, i < b → bfC (ez_I h2 56) (ez_I h2 57) (tI (ez_I h 3)) (ez_I h 2 1).toInt.toNat c b i) → Q (.inl none) h2) : pw E (d + 5) 114 0 [some (.ref 52), some (.ref 2), none, none, none, none] [] h Q := by
  have hT : ∀ i, i < (ez_I h 2 1).toInt.toNat → 0 ≤ (tI (ez_I h 3)) i ∧ (tI (ez_I h 3)) i ≤ 255 := fun i hi => hb i hi
  have F := zW_refl (fun q k => q = 53 ∧ k = 1 ∨ q = 58 ∧ k = 2 ∨ q = 68 ∧ k = 1 ∨ q = 68 ∧ k = 2 ∨ q = 50 ∧ k = 1 ∨ q = 55 ∧ k = 2 ∨ q = 52 ∧ k = 10 ∨ q = 52 ∧ k = 11 ∨ q = 61 ∧ k = 1 ∨ q = 61 ∧ k = 2 ∨ q = 61 ∧ k = 5 ∨ q = 61 ∧ k = 7 ∨ q = 43 ∧ k = 4 ∨ q = 29 ∧ k = 4 ∨ q = 36 ∧ k = 4) (fun q => q = 54 ∨ q = 59 ∨ q = 60 ∨ q = 51 ∨ q = 66 ∨ q = 67 ∨ q = 10 ∨ q = 13 ∨ 30 ≤ q ∧ q ≤ 35 ∨ 37 ≤ q ∧ q ≤ 42 ∨ 44 ≤ q ∧ q ≤ 49 ∨ q = 56 ∨ q = 57 ∨ 62 ≤ q ∧ q ≤ 65) (fun q => q = 11 ∨ q = 12) h
  apply ez_Wp_in
  show ez_gw _ _ _ _ _ _ (cz_114) _ _ _ _ _
  refine gw_skip _ ?_
  have r1 := z_rng (ez_I h 53 1)
  have r2 := z_rng (ez_I h 58 2)
  have r3 := z_rng (ez_I h 68 1)
  have r4 := z_rng (ez_I h 68 2)
  have r5 := z_rng (ez_I h 50 1)
  have r6 := z_rng (ez_I h 55 2)
  have r7 := z_rng (ez_I h 52 10)
  have r8 := z_rng (ez_I h 52 11)
  have r9 := z_rng (ez_I h 61 1)
  have r10 := z_rng (ez_I h 61 2)
  have r11 := z_rng (ez_I h 61 5)
  have r12 := z_rng (ez_I h 61 7)
  have r13 := z_rng (ez_I h 43 4)
  have r14 := z_rng (ez_I h 29 4)
  have r15 := z_rng (ez_I h 36 4)
  refine gw_ld rfl rfl ?_
  refine gw_ld rfl rfl ?_
  refine z_cl rfl rfl rfl rfl rfl rfl rfl rfl rfl rfl rfl (zT S (by decide) rfl) ?_
  refine c_split S hz hb (fun h16 F17 c18 k19 k20 k21 k22 => ?_)
  have hpg : pqG (ez_I h16 54) (aM (tI (ez_I h 3)) (ez_I h 2 1).toInt.toNat) (dI (tI (ez_I h 3)) (ez_I h 2 1).toInt.toNat) c18 := pq_G hT k21 k22
  have hck := ptP_k (T := (tI (ez_I h 3))) (n := (ez_I h 2 1).toInt.toNat) c18 (fun j hj => k21 j hj)
  have S23 := zW_sh F17 S
  have F24 := zW_tr F (zW_mono F17 (x67_55) (x67_56) (x67_2))
  have r25 := z_rng (ez_I h16 53 1)
  have r26 := z_rng (ez_I h16 58 2)
  have f27 : ez_I h16 68 1 = (ez_I h 68 1) := (zW_f F17 (by decide) (by decide)).trans (rfl)
  have f28 : ez_I h16 68 2 = (ez_I h 68 2) := (zW_f F17 (by decide) (by decide)).trans (rfl)
  have f29 : ez_I h16 50 1 = (ez_I h 50 1) := (zW_f F17 (by decide) (by decide)).trans (rfl)
  have f30 : ez_I h16 55 2 = (ez_I h 55 2) := (zW_f F17 (by decide) (by decide)).trans (rfl)
  have f31 : ez_I h16 52 10 = (ez_I h 52 10) := (zW_f F17 (by decide) (by decide)).trans (rfl)
  have f32 : ez_I h16 52 11 = (ez_I h 52 11) := (zW_f F17 (by decide) (by decide)).trans (rfl)
  have f33 : ez_I h16 61 1 = (ez_I h 61 1) := (zW_f F17 (by decide) (by decide)).trans (rfl)
  have f34 : ez_I h16 61 2 = (ez_I h 61 2) := (zW_f F17 (by decide) (by decide)).trans (rfl)
  have f35 : ez_I h16 61 5 = (ez_I h 61 5) := (zW_f F17 (by decide) (by decide)).trans (rfl)
  have f36 : ez_I h16 61 7 = (ez_I h 61 7) := (zW_f F17 (by decide) (by decide)).trans (rfl)
  have f37 : ez_I h16 43 4 = (ez_I h 43 4) := (zW_f F17 (by decide) (by decide)).trans (rfl)
  have f38 : ez_I h16 29 4 = (ez_I h 29 4) := (zW_f F17 (by decide) (by decide)).trans (rfl)
  have f39 : ez_I h16 36 4 = (ez_I h 36 4) := (zW_f F17 (by decide) (by decide)).trans (rfl)
  refine gw_ld rfl rfl ?_
  refine z_gR (q := 68) (zT S23 (by decide) rfl) (zRf S23 (by decide) (by decide) rfl) (by decide) ?_
  have t40 := congrArg Int32.toInt (f27)
  have t41 := congrArg Int32.toInt (f28)
  have t42 := congrArg Int32.toInt (f29)
  have t43 := congrArg Int32.toInt (f30)
  have t44 := congrArg Int32.toInt (f31)
  have t45 := congrArg Int32.toInt (f32)
  have t46 := congrArg Int32.toInt (f33)
  have t47 := congrArg Int32.toInt (f34)
  have t48 := congrArg Int32.toInt (f35)
  have t49 := congrArg Int32.toInt (f36)
  have t50 := congrArg Int32.toInt (f37)
  have t51 := congrArg Int32.toInt (f38)
  have t52 := congrArg Int32.toInt (f39)
  refine z_cl rfl rfl rfl rfl rfl rfl rfl rfl rfl rfl rfl (zT S23 (by decide) rfl) ?_
  refine c_wbegin S23 (fun h53 F54 k55 k56 => ?_)
  have S57 := zW_sh F54 S23
  have F58 := zW_tr F24 (zW_mono F54 (x67_0) (x67_57) (x67_2))
  have f59 : ez_I h53 53 1 = (ez_I h16 53 1) := (zW_f F54 (fun c => c) (by decide)).trans (rfl)
  have f60 : ez_I h53 58 2 = (ez_I h16 58 2) := (zW_f F54 (fun c => c) (by decide)).trans (rfl)
  have r61 := z_rng (ez_I h53 68 1)
  have r62 := z_rng (ez_I h53 68 2)
  have r63 := z_rng (ez_I h53 50 1)
  have f64 : ez_I h53 55 2 = (ez_I h 55 2) := (zW_f F54 (fun c => c) (by decide)).trans (f30)
  have f65 : ez_I h53 52 10 = (ez_I h 52 10) := (zW_f F54 (fun c => c) (by decide)).trans (f31)
  have f66 : ez_I h53 52 11 = (ez_I h 52 11) := (zW_f F54 (fun c => c) (by decide)).trans (f32)
  have f67 : ez_I h53 61 1 = (ez_I h 61 1) := (zW_f F54 (fun c => c) (by decide)).trans (f33)
  have f68 : ez_I h53 61 2 = (ez_I h 61 2) := (zW_f F54 (fun c => c) (by decide)).trans (f34)
  have f69 : ez_I h53 61 5 = (ez_I h 61 5) := (zW_f F54 (fun c => c) (by decide)).trans (f35)
  have f70 : ez_I h53 61 7 = (ez_I h 61 7) := (zW_f F54 (fun c => c) (by decide)).trans (f36)
  have f71 : ez_I h53 43 4 = (ez_I h 43 4) := (zW_f F54 (fun c => c) (by decide)).trans (f37)
  have f72 : ez_I h53 29 4 = (ez_I h 29 4) := (zW_f F54 (fun c => c) (by decide)).trans (f38)
  have f73 : ez_I h53 36 4 = (ez_I h 36 4) := (zW_f F54 (fun c => c) (by decide)).trans (f39)
  have A74 : pqG (ez_I h53 54) (aM (tI (ez_I h 3)) (ez_I h 2 1).toInt.toNat) (dI (tI (ez_I h 3)) (ez_I h 2 1).toInt.toNat) c18 := by rw [zW_fn F54 54 (fun c => c) (x67_3)]; exact hpg
  refine gw_ld rfl rfl ?_
  refine z_gR (q := 55) (zT S57 (by decide) rfl) (zRf S57 (by decide) (by decide) rfl) (by decide) ?_
  refine gw_ld rfl rfl ?_
  refine z_gR (q := 53) (zT S57 (by decide) rfl) (zRf S57 (by decide) (by decide) rfl) (by decide) ?_
  refine z_gI2 (by decide) (zT S57 (by decide) rfl) (f59) ?_
  have t75 := congrArg Int32.toInt (f59)
  have t76 := congrArg Int32.toInt (f60)
  have t77 := congrArg Int32.toInt (f64)
  have t78 := congrArg Int32.toInt (f65)
  have t79 := congrArg Int32.toInt (f66)
  have t80 := congrArg Int32.toInt (f67)
  have t81 := congrArg Int32.toInt (f68)
  have t82 := congrArg Int32.toInt (f69)
  have t83 := congrArg Int32.toInt (f70)
  have t84 := congrArg Int32.toInt (f71)
  have t85 := congrArg Int32.toInt (f72)
  have t86 := congrArg Int32.toInt (f73)
  refine z_cl rfl rfl rfl rfl rfl rfl rfl rfl rfl rfl rfl (zT S57 (by decide) rfl) ?_
  refine c_bbegin (n := (ez_I h16 53 1)) S57 (by omega) (fun h87 F88 k89 => ?_)
  have S90 := zW_sh F88 S57
  have F91 := zW_tr F58 (zW_mono F88 (x67_58) (x67_57) (x67_2))
  have f92 : ez_I h87 53 1 = (ez_I h16 53 1) := (zW_f F88 (fun c => c) (by decide)).trans (f59)
  have f93 : ez_I h87 58 2 = (ez_I h16 58 2) := (zW_f F88 (fun c => c) (by decide)).trans (f60)
  have f94 : ez_I h87 68 1 = (ez_I h53 68 1) := (zW_f F88 (fun c => c) (by decide)).trans (rfl)
  have f95 : ez_I h87 68 2 = (ez_I h53 68 2) := (zW_f F88 (fun c => c) (by decide)).trans (rfl)
  have f96 : ez_I h87 50 1 = (ez_I h53 50 1) := (zW_f F88 (fun c => c) (by decide)).trans (rfl)
  have r97 := z_rng (ez_I h87 55 2)
  have f98 : ez_I h87 52 10 = (ez_I h 52 10) := (zW_f F88 (fun c => c) (by decide)).trans (f65)
  have f99 : ez_I h87 52 11 = (ez_I h 52 11) := (zW_f F88 (fun c => c) (by decide)).trans (f66)
  have f100 : ez_I h87 61 1 = (ez_I h 61 1) := (zW_f F88 (fun c => c) (by decide)).trans (f67)
  have f101 : ez_I h87 61 2 = (ez_I h 61 2) := (zW_f F88 (fun c => c) (by decide)).trans (f68)
  have f102 : ez_I h87 61 5 = (ez_I h 61 5) := (zW_f F88 (fun c => c) (by decide)).trans (f69)
  have f103 : ez_I h87 61 7 = (ez_I h 61 7) := (zW_f F88 (fun c => c) (by decide)).trans (f70)
  have f104 : ez_I h87 43 4 = (ez_I h 43 4) := (zW_f F88 (fun c => c) (by decide)).trans (f71)
  have f105 : ez_I h87 29 4 = (ez_I h 29 4) := (zW_f F88 (fun c => c) (by decide)).trans (f72)
  have f106 : ez_I h87 36 4 = (ez_I h 36 4) := (zW_f F88 (fun c => c) (by decide)).trans (f73)
  have A107 : pqG (ez_I h87 54) (aM (tI (ez_I h 3)) (ez_I h 2 1).toInt.toNat) (dI (tI (ez_I h 3)) (ez_I h 2 1).toInt.toNat) c18 := by rw [zW_fn F88 54 (fun c => c) (x67_59)]; exact A74
  have A108 : stC (ez_I h87 51) (ez_I h87 50 1).toInt (ez_I h87 68 1).toInt (ez_I h87 68 2).toInt (0, 0) := by rw [zW_fn F88 51 (fun c => c) (x67_60), zW_fn F88 50 (fun c => c) (x67_61), zW_fn F88 68 (fun c => c) (x67_62)]; exact k55
  clear A74
  refine z_C (m := 0) rfl rfl (fun x109 ex109 => ?_)
  refine gw_st rfl rfl rfl ?_
  show ez_gw _ _ _ _ _ _ _ _ [some (.ref 52), some (.ref 2), some (.int x109), none, none, none] _ _ _
  refine z_C (m := 0) rfl rfl (fun x110 ex110 => ?_)
  refine gw_st rfl rfl rfl ?_
  show ez_gw _ _ _ _ _ _ _ _ [some (.ref 52), some (.ref 2), some (.int x109), some (.int x110), none, none] _ _ _
  have t111 := congrArg Int32.toInt (f92)
  have t112 := congrArg Int32.toInt (f93)
  have t113 := congrArg Int32.toInt (f94)
  have t114 := congrArg Int32.toInt (f95)
  have t115 := congrArg Int32.toInt (f96)
  have t116 := congrArg Int32.toInt (f98)
  have t117 := congrArg Int32.toInt (f99)
  have t118 := congrArg Int32.toInt (f100)
  have t119 := congrArg Int32.toInt (f101)
  have t120 := congrArg Int32.toInt (f102)
  have t121 := congrArg Int32.toInt (f103)
  have t122 := congrArg Int32.toInt (f104)
  have t123 := congrArg Int32.toInt (f105)
  have t124 := congrArg Int32.toInt (f106)
  exact ez_Wp_at ((c_run_L0  S hE hz hb a16 w17 f16 a23 w24 f23 K (((10 * (100 - x110.toInt))).toNat + 1)).1 h87 x109 x110 (none) (none) c18 (ez_I h87 55 2).toInt.toNat F91 (⟨by omega, by omega, by omega, by omega, by omega, by omega, by unfold bnP; omega, by rw [show x110.toInt.toNat = 0 by omega, show min (600 * 0) c18 = 0 by omega]; show _ = ((0 : Nat) : Int); omega, by omega, by rw [show x110.toInt.toNat = 0 by omega]; show 0 ≤ _; omega⟩) (A107) (k21) (k20) ((by rw [show x110.toInt.toNat = 0 by omega]; exact A108)) ((fun i hi => by omega)) (by omega)) rfl
theorem x67_63 : ∀ q k : Nat, (q = 53 ∧ k = 1 ∨ q = 58 ∧ k = 2 ∨ q = 68 ∧ k = 1 ∨ q = 68 ∧ k = 2 ∨ q = 50 ∧ k = 1 ∨ q = 55 ∧ k = 2 ∨ q = 52 ∧ k = 10 ∨ q = 52 ∧ k = 11 ∨ q = 61 ∧ k = 1 ∨ q = 61 ∧ k = 2 ∨ q = 61 ∧ k = 5 ∨ q = 61 ∧ k = 7 ∨ q = 43 ∧ k = 4 ∨ q = 29 ∧ k = 4 ∨ q = 36 ∧ k = 4) → (q = 53 ∧ k = 1 ∨ q = 58 ∧ k = 2 ∨ q = 68 ∧ k = 1 ∨ q = 68 ∧ k = 2 ∨ q = 50 ∧ k = 1 ∨ q = 55 ∧ k = 2 ∨ q = 52 ∧ k = 10 ∨ q = 52 ∧ k = 11 ∨ q = 61 ∧ k = 1 ∨ q = 61 ∧ k = 2 ∨ q = 61 ∧ k = 5 ∨ q = 61 ∧ k = 7 ∨ q = 43 ∧ k = 4 ∨ q = 29 ∧ k = 4 ∨ q = 36 ∧ k = 4 ∨ q = 4 ∧ k = 1) := fun q k hk => hk.elim (fun g => (.inl g)) (fun hk => hk.elim (fun g => (.inr (.inl g))) (fun hk => hk.elim (fun g => (.inr (.inr (.inl g)))) (fun hk => hk.elim (fun g => (.inr (.inr (.inr (.inl g))))) (fun hk => hk.elim (fun g => (.inr (.inr (.inr (.inr (.inl g)))))) (fun hk => hk.elim (fun g => (.inr (.inr (.inr (.inr (.inr (.inl g))))))) (fun hk => hk.elim (fun g => (.inr (.inr (.inr (.inr (.inr (.inr (.inl g)))))))) (fun hk => hk.elim (fun g => (.inr (.inr (.inr (.inr (.inr (.inr (.inr (.inl g))))))))) (fun hk => hk.elim (fun g => (.inr (.inr (.inr (.inr (.inr (.inr (.inr (.inr (.inl g)))))))))) (fun hk => hk.elim (fun g => (.inr (.inr (.inr (.inr (.inr (.inr (.inr (.inr (.inr (.inl g))))))))))) (fun hk => hk.elim (fun g => (.inr (.inr (.inr (.inr (.inr (.inr (.inr (.inr (.inr (.inr (.inl g)))))))))))) (fun hk => hk.elim (fun g => (.inr (.inr (.inr (.inr (.inr (.inr (.inr (.inr (.inr (.inr (.inr (.inl g))))))))))))) (fun hk => hk.elim (fun g => (.inr (.inr (.inr (.inr (.inr (.inr (.inr (.inr (.inr (.inr (.inr (.inr (.inl g)))))))))))))) (fun hk => hk.elim (fun g => (.inr (.inr (.inr (.inr (.inr (.inr (.inr (.inr (.inr (.inr (.inr (.inr (.inr (.inl g))))))))))))))) (fun hk => (.inr (.inr (.inr (.inr (.inr (.inr (.inr (.inr (.inr (.inr (.inr (.inr (.inr (.inr (.inl hk)))))))))))))))))))))))))))))
theorem x67_64 : ∀ q : Nat, (q = 54 ∨ q = 59 ∨ q = 60 ∨ q = 51 ∨ q = 66 ∨ q = 67 ∨ q = 10 ∨ q = 13 ∨ 30 ≤ q ∧ q ≤ 35 ∨ 37 ≤ q ∧ q ≤ 42 ∨ 44 ≤ q ∧ q ≤ 49 ∨ q = 56 ∨ q = 57 ∨ 62 ≤ q ∧ q ≤ 65) → (q = 54 ∨ q = 59 ∨ q = 60 ∨ q = 51 ∨ q = 66 ∨ q = 67 ∨ q = 10 ∨ q = 13 ∨ 30 ≤ q ∧ q ≤ 35 ∨ 37 ≤ q ∧ q ≤ 42 ∨ 44 ≤ q ∧ q ≤ 49 ∨ q = 56 ∨ q = 57 ∨ 62 ≤ q ∧ q ≤ 65 ∨ q = 5) := fun q hk => hk.elim (fun g => (.inl g)) (fun hk => hk.elim (fun g => (.inr (.inl g))) (fun hk => hk.elim (fun g => (.inr (.inr (.inl g)))) (fun hk => hk.elim (fun g => (.inr (.inr (.inr (.inl g))))) (fun hk => hk.elim (fun g => (.inr (.inr (.inr (.inr (.inl g)))))) (fun hk => hk.elim (fun g => (.inr (.inr (.inr (.inr (.inr (.inl g))))))) (fun hk => hk.elim (fun g => (.inr (.inr (.inr (.inr (.inr (.inr (.inl g)))))))) (fun hk => hk.elim (fun g => (.inr (.inr (.inr (.inr (.inr (.inr (.inr (.inl g))))))))) (fun hk => hk.elim (fun g => (.inr (.inr (.inr (.inr (.inr (.inr (.inr (.inr (.inl g)))))))))) (fun hk => hk.elim (fun g => (.inr (.inr (.inr (.inr (.inr (.inr (.inr (.inr (.inr (.inl g))))))))))) (fun hk => hk.elim (fun g => (.inr (.inr (.inr (.inr (.inr (.inr (.inr (.inr (.inr (.inr (.inl g)))))))))))) (fun hk => hk.elim (fun g => (.inr (.inr (.inr (.inr (.inr (.inr (.inr (.inr (.inr (.inr (.inr (.inl g))))))))))))) (fun hk => hk.elim (fun g => (.inr (.inr (.inr (.inr (.inr (.inr (.inr (.inr (.inr (.inr (.inr (.inr (.inl g)))))))))))))) (fun hk => (.inr (.inr (.inr (.inr (.inr (.inr (.inr (.inr (.inr (.inr (.inr (.inr (.inr (.inl hk)))))))))))))))))))))))))))
theorem x67_65 : ∀ q k : Nat, (q = 4 ∧ k = 1) → (q = 53 ∧ k = 1 ∨ q = 58 ∧ k = 2 ∨ q = 68 ∧ k = 1 ∨ q = 68 ∧ k = 2 ∨ q = 50 ∧ k = 1 ∨ q = 55 ∧ k = 2 ∨ q = 52 ∧ k = 10 ∨ q = 52 ∧ k = 11 ∨ q = 61 ∧ k = 1 ∨ q = 61 ∧ k = 2 ∨ q = 61 ∧ k = 5 ∨ q = 61 ∧ k = 7 ∨ q = 43 ∧ k = 4 ∨ q = 29 ∧ k = 4 ∨ q = 36 ∧ k = 4 ∨ q = 4 ∧ k = 1) := fun q k hk => (.inr (.inr (.inr (.inr (.inr (.inr (.inr (.inr (.inr (.inr (.inr (.inr (.inr (.inr (.inr hk)))))))))))))))
theorem x67_66 : ∀ q : Nat, (q = 5) → (q = 54 ∨ q = 59 ∨ q = 60 ∨ q = 51 ∨ q = 66 ∨ q = 67 ∨ q = 10 ∨ q = 13 ∨ 30 ≤ q ∧ q ≤ 35 ∨ 37 ≤ q ∧ q ≤ 42 ∨ 44 ≤ q ∧ q ≤ 49 ∨ q = 56 ∨ q = 57 ∨ 62 ≤ q ∧ q ≤ 65 ∨ q = 5) := fun q hk => (.inr (.inr (.inr (.inr (.inr (.inr (.inr (.inr (.inr (.inr (.inr (.inr (.inr (.inr hk))))))))))))))
theorem x67_67 : ∀ k : Nat, ¬ (54 = 4 ∧ k = 1) := fun k c => by omega
theorem x67_68 : ∀ k : Nat, ¬ (56 = 4 ∧ k = 1) := fun k c => by omega
theorem x67_69 : ∀ k : Nat, ¬ (57 = 4 ∧ k = 1) := fun k c => by omega
set_option maxRecDepth 4000 in
set_option maxHeartbeats 4000000 in
theorem x_packF {E : Nat → Nat × (Nat → Int32)} {d : Nat} {Q : ez_Q} {h : ez_H}  (S : zSh h) (hE : zE E) (hz : 0 ≤ (ez_I h 2 1).toInt ∧ (ez_I h 2 1).toInt ≤ 6000) (hb : aR (ez_I h 3) (ez_I h 2 1).toInt.toNat 0 255) (a16 : aR (ez_I h 16) 288 0 15) (w17 : wdI (ez_I h 17) (nL (ez_I h 16)) 288 288) (f16 : ∀ k, k < 288 → nL (ez_I h 16) k = fxL k) (a23 : aR (ez_I h 23) 288 0 15) (w24 : wdI (ez_I h 24) (nL (ez_I h 23)) 288 288) (f23 : ∀ k, k < 288 → nL (ez_I h 23) k = fxD k) (K : ∀ h2 (x : Int32), zW (fun q k => q = 53 ∧ k = 1 ∨ q = 58 ∧ k = 2 ∨ q = 68 ∧ k = 1 ∨ q = 68 ∧ k = 2 ∨ q = 50 ∧ k = 1 ∨ q = 55 ∧ k = 2 ∨ q = 52 ∧ k = 10 ∨ q = 52 ∧ k = 11 ∨ q = 61 ∧ k = 1 ∨ q = 61 ∧ k = 2 ∨ q = 61 ∧ k = 5 ∨ q = 61 ∧ k = 7 ∨ q = 43 ∧ k = 4 ∨ q = 29 ∧ k = 4 ∨ q = 36 ∧ k = 4 ∨ q = 4 ∧ k = 1) (fun q => q = 54 ∨ q = 59 ∨ q = 60 ∨ q = 51 ∨ q = 66 ∨ q = 67 ∨ q = 10 ∨ q = 13 ∨ 30 ≤ q ∧ q ≤ 35 ∨ 37 ≤ q ∧ q ≤ 42 ∨ 44 ≤ q ∧ q ≤ 49 ∨ q = 56 ∨ q = 57 ∨ 62 ≤ q ∧ q ≤ 65 ∨ q = 5) (fun q => q = 11 ∨ q = 12) h h2 → ∀ c b : Nat, (ez_I h2 53 1).toInt = c → c ≤ 6000 → ltP (tI (ez_I h 3)) (ez_I h 2 1).toInt.toNat c → ptP (tI (ez_I h 3)) (ez_I h 2 1).toInt.toNat c = (ez_I h 2 1).toInt.toNat → pqG (ez_I h2 54) (aM (tI (ez_I h 3)) (ez_I h 2 1).toInt.toNat) (dI (tI (ez_I h 3)) (ez_I h 2 1).toInt.toNat) c → (ez_I h2 55 2).toInt = b → (c = 0 ∧ b = 1 ∨ 0 < c ∧ b = (c + 599) / 600) → x.toInt = ((((pkS (tI (ez_I h 3)) (ez_I h 2 1).toInt.toNat c b b).2 + 7) / 8 : Nat) : Int) → (ez_I h2 4 1).toInt = x.toInt → x.toInt ≤ 6100 → (∀ i : Nat, (i : Int) < x.toInt → (ez_I h2 5 i).toInt = (((pkS (tI (ez_I h 3)) (ez_I h 2 1).toInt.toNat c b b).1 / 256 ^ i % 256 : Nat) : Int)) → (∀ i, i < b → bfC (ez_I h2 56) (ez_I h2 57) (tI (ez_I h 3)) (ez_I h 2 1).toInt.toNat c b i) → Q (.inl (some (.int x))) h2) : pw E (d + 6) 7 0 [some (.ref 1)] [] h Q := by
  have F := zW_refl (fun q k => q = 53 ∧ k = 1 ∨ q = 58 ∧ k = 2 ∨ q = 68 ∧ k = 1 ∨ q = 68 ∧ k = 2 ∨ q = 50 ∧ k = 1 ∨ q = 55 ∧ k = 2 ∨ q = 52 ∧ k = 10 ∨ q = 52 ∧ k = 11 ∨ q = 61 ∧ k = 1 ∨ q = 61 ∧ k = 2 ∨ q = 61 ∧ k = 5 ∨ q = 61 ∧ k = 7 ∨ q = 43 ∧ k = 4 ∨ q = 29 ∧ k = 4 ∨ q = 36 ∧ k = 4 ∨ q = 4 ∧ k = 1) (fun q => q = 54 ∨ q = 59 ∨ q = 60 ∨ q = 51 ∨ q = 66 ∨ q = 67 ∨ q = 10 ∨ q = 13 ∨ 30 ≤ q ∧ q ≤ 35 ∨ 37 ≤ q ∧ q ≤ 42 ∨ 44 ≤ q ∧ q ≤ 49 ∨ q = 56 ∨ q = 57 ∨ 62 ≤ q ∧ q ≤ 65 ∨ q = 5) (fun q => q = 11 ∨ q = 12) h
  apply ez_Wp_in
  show ez_gw _ _ _ _ _ _ (cz_7) _ _ _ _ _
  refine gw_skip _ ?_
  have r1 := z_rng (ez_I h 53 1)
  have r2 := z_rng (ez_I h 58 2)
  have r3 := z_rng (ez_I h 68 1)
  have r4 := z_rng (ez_I h 68 2)
  have r5 := z_rng (ez_I h 50 1)
  have r6 := z_rng (ez_I h 55 2)
  have r7 := z_rng (ez_I h 52 10)
  have r8 := z_rng (ez_I h 52 11)
  have r9 := z_rng (ez_I h 61 1)
  have r10 := z_rng (ez_I h 61 2)
  have r11 := z_rng (ez_I h 61 5)
  have r12 := z_rng (ez_I h 61 7)
  have r13 := z_rng (ez_I h 43 4)
  have r14 := z_rng (ez_I h 29 4)
  have r15 := z_rng (ez_I h 36 4)
  have r16 := z_rng (ez_I h 4 1)
  refine gw_ld rfl rfl ?_
  refine z_gR (q := 52) (zT S (by decide) rfl) (zRf S (by decide) (by decide) rfl) (by decide) ?_
  refine gw_ld rfl rfl ?_
  refine z_gR (q := 2) (zT S (by decide) rfl) (zRf S (by decide) (by decide) rfl) (by decide) ?_
  refine z_cl rfl rfl rfl rfl rfl rfl rfl rfl rfl rfl rfl (zT S (by decide) rfl) ?_
  refine c_run S hE hz hb a16 w17 f16 a23 w24 f23 (fun h17 F18 c19 b20 k21 k22 k23 k24 k25 k26 k27 k28 k29 k30 k31 => ?_)
  have S32 := zW_sh F18 S
  have F33 := zW_tr F (zW_mono F18 (x67_63) (x67_64) (x67_22))
  have r34 := z_rng (ez_I h17 53 1)
  have r35 := z_rng (ez_I h17 58 2)
  have r36 := z_rng (ez_I h17 68 1)
  have r37 := z_rng (ez_I h17 68 2)
  have r38 := z_rng (ez_I h17 50 1)
  have r39 := z_rng (ez_I h17 55 2)
  have r40 := z_rng (ez_I h17 52 10)
  have r41 := z_rng (ez_I h17 52 11)
  have r42 := z_rng (ez_I h17 61 1)
  have r43 := z_rng (ez_I h17 61 2)
  have r44 := z_rng (ez_I h17 61 5)
  have r45 := z_rng (ez_I h17 61 7)
  have r46 := z_rng (ez_I h17 43 4)
  have r47 := z_rng (ez_I h17 29 4)
  have r48 := z_rng (ez_I h17 36 4)
  have f49 : ez_I h17 4 1 = (ez_I h 4 1) := (zW_f F18 (by decide) (by decide)).trans (rfl)
  refine gw_ld rfl rfl ?_
  refine z_gR (q := 4) (zT S32 (by decide) rfl) (zRf S32 (by decide) (by decide) rfl) (by decide) ?_
  refine gw_ld rfl rfl ?_
  refine z_gR (q := 52) (zT S32 (by decide) rfl) (zRf S32 (by decide) (by decide) rfl) (by decide) ?_
  refine z_gR (q := 50) (zT S32 (by decide) rfl) (zRf S32 (by decide) (by decide) rfl) (by decide) ?_
  have t50 := congrArg Int32.toInt (f49)
  refine z_cl rfl rfl rfl rfl rfl rfl rfl rfl rfl rfl rfl (zT S32 (by decide) rfl) ?_
  refine c_become (p := 4) (q := 50) S32 (by decide) (by decide) (by decide) (by omega) (fun h51 F52 k53 k54 => ?_)
  have hout : ∀ i : Nat, (i : Int) < (ez_I h17 50 1).toInt → (ez_I h51 5 i).toInt = (((pkS (tI (ez_I h 3)) (ez_I h 2 1).toInt.toNat c19 b20 b20).1 / 256 ^ i % 256 : Nat) : Int) := fun i hi => by rw [show ez_I h51 5 i = ez_I h17 51 i from k54 i hi]; exact k30 i hi
  have S55 := zW_sh F52 S32
  have F56 := zW_tr F33 (zW_mono F52 (x67_65) (x67_66) (x67_2))
  have f57 : ez_I h51 53 1 = (ez_I h17 53 1) := (zW_f F52 (by decide) (by decide)).trans (rfl)
  have f58 : ez_I h51 58 2 = (ez_I h17 58 2) := (zW_f F52 (by decide) (by decide)).trans (rfl)
  have f59 : ez_I h51 68 1 = (ez_I h17 68 1) := (zW_f F52 (by decide) (by decide)).trans (rfl)
  have f60 : ez_I h51 68 2 = (ez_I h17 68 2) := (zW_f F52 (by decide) (by decide)).trans (rfl)
  have f61 : ez_I h51 50 1 = (ez_I h17 50 1) := (zW_f F52 (by decide) (by decide)).trans (rfl)
  have f62 : ez_I h51 55 2 = (ez_I h17 55 2) := (zW_f F52 (by decide) (by decide)).trans (rfl)
  have f63 : ez_I h51 52 10 = (ez_I h17 52 10) := (zW_f F52 (by decide) (by decide)).trans (rfl)
  have f64 : ez_I h51 52 11 = (ez_I h17 52 11) := (zW_f F52 (by decide) (by decide)).trans (rfl)
  have f65 : ez_I h51 61 1 = (ez_I h17 61 1) := (zW_f F52 (by decide) (by decide)).trans (rfl)
  have f66 : ez_I h51 61 2 = (ez_I h17 61 2) := (zW_f F52 (by decide) (by decide)).trans (rfl)
  have f67 : ez_I h51 61 5 = (ez_I h17 61 5) := (zW_f F52 (by decide) (by decide)).trans (rfl)
  have f68 : ez_I h51 61 7 = (ez_I h17 61 7) := (zW_f F52 (by decide) (by decide)).trans (rfl)
  have f69 : ez_I h51 43 4 = (ez_I h17 43 4) := (zW_f F52 (by decide) (by decide)).trans (rfl)
  have f70 : ez_I h51 29 4 = (ez_I h17 29 4) := (zW_f F52 (by decide) (by decide)).trans (rfl)
  have f71 : ez_I h51 36 4 = (ez_I h17 36 4) := (zW_f F52 (by decide) (by decide)).trans (rfl)
  have r72 := z_rng (ez_I h51 4 1)
  have A73 : pqG (ez_I h51 54) (aM (tI (ez_I h 3)) (ez_I h 2 1).toInt.toNat) (dI (tI (ez_I h 3)) (ez_I h 2 1).toInt.toNat) c19 := by rw [zW_fn F52 54 (by decide) (x67_67)]; exact k25
  have A74 : (∀ i, i < b20 → bfC (ez_I h51 56) (ez_I h51 57) (tI (ez_I h 3)) (ez_I h 2 1).toInt.toNat c19 b20 i) := by rw [zW_fn F52 56 (by decide) (x67_68), zW_fn F52 57 (by decide) (x67_69)]; exact k31
  refine gw_ld rfl rfl ?_
  refine z_gR (q := 4) (zT S55 (by decide) rfl) (zRf S55 (by decide) (by decide) rfl) (by decide) ?_
  refine z_gI2 (by decide) (zT S55 (by decide) rfl) (rfl) ?_
  refine z_ri ?_
  have t75 := congrArg Int32.toInt (f57)
  have t76 := congrArg Int32.toInt (f58)
  have t77 := congrArg Int32.toInt (f59)
  have t78 := congrArg Int32.toInt (f60)
  have t79 := congrArg Int32.toInt (f61)
  have t80 := congrArg Int32.toInt (f62)
  have t81 := congrArg Int32.toInt (f63)
  have t82 := congrArg Int32.toInt (f64)
  have t83 := congrArg Int32.toInt (f65)
  have t84 := congrArg Int32.toInt (f66)
  have t85 := congrArg Int32.toInt (f67)
  have t86 := congrArg Int32.toInt (f68)
  have t87 := congrArg Int32.toInt (f69)
  have t88 := congrArg Int32.toInt (f70)
  have t89 := congrArg Int32.toInt (f71)
  exact K _ _ F56 c19 b20 (by omega) (by omega) k23 k24 A73 (by omega) k27 (by omega) rfl (by omega) (fun i hi => hout i (by omega)) A74

