/-! PRINTED by wip/pack: the model writes a block: the row -/
theorem x71_238 : ¬ (97 = 99 ∨ 97 = 101 ∨ 97 = 102 ∨ 110 ≤ 97 ∧ 97 ≤ 114 ∨ 117 ≤ 97 ∧ 97 ≤ 119) := by omega
theorem x71_239 : ∀ k : Nat, ¬ (97 = 71 ∧ k = 56 ∨ 97 = 71 ∧ k = 57 ∨ 97 = 71 ∧ k = 58) := fun k c => by omega
theorem x71_240 : ¬ (98 = 99 ∨ 98 = 101 ∨ 98 = 102 ∨ 110 ≤ 98 ∧ 98 ≤ 114 ∨ 117 ≤ 98 ∧ 98 ≤ 119) := by omega
theorem x71_241 : ∀ k : Nat, ¬ (98 = 71 ∧ k = 56 ∨ 98 = 71 ∧ k = 57 ∨ 98 = 71 ∧ k = 58) := fun k c => by omega
theorem x71_242 : ¬ (93 = 99 ∨ 93 = 101 ∨ 93 = 102 ∨ 110 ≤ 93 ∧ 93 ≤ 114 ∨ 117 ≤ 93 ∧ 93 ≤ 119) := by omega
theorem x71_243 : ∀ k : Nat, ¬ (93 = 71 ∧ k = 56 ∨ 93 = 71 ∧ k = 57 ∨ 93 = 71 ∧ k = 58) := fun k c => by omega
theorem x71_244 : ¬ (95 = 99 ∨ 95 = 101 ∨ 95 = 102 ∨ 110 ≤ 95 ∧ 95 ≤ 114 ∨ 117 ≤ 95 ∧ 95 ≤ 119) := by omega
theorem x71_245 : ∀ k : Nat, ¬ (95 = 71 ∧ k = 56 ∨ 95 = 71 ∧ k = 57 ∨ 95 = 71 ∧ k = 58) := fun k c => by omega
theorem x71_246 : ¬ (100 = 99 ∨ 100 = 101 ∨ 100 = 102 ∨ 110 ≤ 100 ∧ 100 ≤ 114 ∨ 117 ≤ 100 ∧ 100 ≤ 119) := by omega
theorem x71_247 : ∀ k : Nat, ¬ (100 = 71 ∧ k = 56 ∨ 100 = 71 ∧ k = 57 ∨ 100 = 71 ∧ k = 58) := fun k c => by omega
theorem x71_248 : ∀ q k : Nat, (q = 71 ∧ k = 56 ∨ q = 71 ∧ k = 57 ∨ q = 71 ∧ k = 58) → (q = 71 ∧ k = 56 ∨ q = 71 ∧ k = 57 ∨ q = 71 ∧ k = 58) := fun q k hk => hk.elim (fun g => (.inl g)) (fun hk => hk.elim (fun g => (.inr (.inl g))) (fun hk => (.inr (.inr hk))))
theorem x71_249 : ∀ q : Nat, (q = 99 ∨ q = 117 ∨ q = 118 ∨ q = 119) → (q = 99 ∨ q = 101 ∨ q = 102 ∨ 110 ≤ q ∧ q ≤ 114 ∨ 117 ≤ q ∧ q ≤ 119) := fun q hk => hk.elim (fun g => (.inl g)) (fun hk => hk.elim (fun g => (.inr (.inr (.inr (.inr (show 117 ≤ q ∧ q ≤ 119 by omega)))))) (fun hk => hk.elim (fun g => (.inr (.inr (.inr (.inr (show 117 ≤ q ∧ q ≤ 119 by omega)))))) (fun hk => (.inr (.inr (.inr (.inr (show 117 ≤ q ∧ q ≤ 119 by omega))))))))
theorem x71_250 : ∀ q : Nat, (False) → (False) := fun q hk => hk.elim
theorem x71_251 : ∀ k : Nat, ¬ (101 = 71 ∧ k = 56 ∨ 101 = 71 ∧ k = 57 ∨ 101 = 71 ∧ k = 58) := fun k c => by omega
theorem x71_252 : ∀ q k : Nat, (False) → (q = 71 ∧ k = 56 ∨ q = 71 ∧ k = 57 ∨ q = 71 ∧ k = 58) := fun q k hk => hk.elim
theorem x71_253 : ∀ q : Nat, (110 ≤ q ∧ q ≤ 114 ∨ q = 102) → (q = 99 ∨ q = 101 ∨ q = 102 ∨ 110 ≤ q ∧ q ≤ 114 ∨ 117 ≤ q ∧ q ≤ 119) := fun q hk => hk.elim (fun g => (.inr (.inr (.inr (.inl g))))) (fun hk => (.inr (.inr (.inl hk))))
theorem x71_254 : ¬ (72 = 99 ∨ 72 = 101 ∨ 72 = 102 ∨ 110 ≤ 72 ∧ 72 ≤ 114 ∨ 117 ≤ 72 ∧ 72 ≤ 119) := by omega
theorem x71_255 : ∀ k : Nat, ¬ (72 = 71 ∧ k = 56 ∨ 72 = 71 ∧ k = 57 ∨ 72 = 71 ∧ k = 58) := fun k c => by omega
theorem x71_256 : ¬ (77 = 99 ∨ 77 = 101 ∨ 77 = 102 ∨ 110 ≤ 77 ∧ 77 ≤ 114 ∨ 117 ≤ 77 ∧ 77 ≤ 119) := by omega
theorem x71_257 : ∀ k : Nat, ¬ (77 = 71 ∧ k = 56 ∨ 77 = 71 ∧ k = 57 ∨ 77 = 71 ∧ k = 58) := fun k c => by omega
theorem x71_258 : ¬ (78 = 99 ∨ 78 = 101 ∨ 78 = 102 ∨ 110 ≤ 78 ∧ 78 ≤ 114 ∨ 117 ≤ 78 ∧ 78 ≤ 119) := by omega
theorem x71_259 : ∀ k : Nat, ¬ (78 = 71 ∧ k = 56 ∨ 78 = 71 ∧ k = 57 ∨ 78 = 71 ∧ k = 58) := fun k c => by omega
theorem x71_260 : ¬ (79 = 99 ∨ 79 = 101 ∨ 79 = 102 ∨ 110 ≤ 79 ∧ 79 ≤ 114 ∨ 117 ≤ 79 ∧ 79 ≤ 119) := by omega
theorem x71_261 : ∀ k : Nat, ¬ (79 = 71 ∧ k = 56 ∨ 79 = 71 ∧ k = 57 ∨ 79 = 71 ∧ k = 58) := fun k c => by omega
theorem x71_262 : ¬ (80 = 99 ∨ 80 = 101 ∨ 80 = 102 ∨ 110 ≤ 80 ∧ 80 ≤ 114 ∨ 117 ≤ 80 ∧ 80 ≤ 119) := by omega
theorem x71_263 : ∀ k : Nat, ¬ (80 = 71 ∧ k = 56 ∨ 80 = 71 ∧ k = 57 ∨ 80 = 71 ∧ k = 58) := fun k c => by omega
theorem x71_264 : ¬ (92 = 99 ∨ 92 = 101 ∨ 92 = 102 ∨ 110 ≤ 92 ∧ 92 ≤ 114 ∨ 117 ≤ 92 ∧ 92 ≤ 119) := by omega
theorem x71_265 : ∀ k : Nat, ¬ (92 = 71 ∧ k = 56 ∨ 92 = 71 ∧ k = 57 ∨ 92 = 71 ∧ k = 58) := fun k c => by omega
theorem x71_266 : ¬ (94 = 99 ∨ 94 = 101 ∨ 94 = 102 ∨ 110 ≤ 94 ∧ 94 ≤ 114 ∨ 117 ≤ 94 ∧ 94 ≤ 119) := by omega
theorem x71_267 : ∀ k : Nat, ¬ (94 = 71 ∧ k = 56 ∨ 94 = 71 ∧ k = 57 ∨ 94 = 71 ∧ k = 58) := fun k c => by omega
theorem x71_268 : ¬ (96 = 99 ∨ 96 = 101 ∨ 96 = 102 ∨ 110 ≤ 96 ∧ 96 ≤ 114 ∨ 117 ≤ 96 ∧ 96 ≤ 119) := by omega
theorem x71_269 : ∀ k : Nat, ¬ (96 = 71 ∧ k = 56 ∨ 96 = 71 ∧ k = 57 ∨ 96 = 71 ∧ k = 58) := fun k c => by omega
theorem x71_270 : ¬ (75 = 99 ∨ 75 = 101 ∨ 75 = 102 ∨ 110 ≤ 75 ∧ 75 ≤ 114 ∨ 117 ≤ 75 ∧ 75 ≤ 119) := by omega
theorem x71_271 : ∀ k : Nat, ¬ (75 = 71 ∧ k = 56 ∨ 75 = 71 ∧ k = 57 ∨ 75 = 71 ∧ k = 58) := fun k c => by omega
theorem x71_272 : ¬ (71 = 99 ∨ 71 = 101 ∨ 71 = 102 ∨ 110 ≤ 71 ∧ 71 ≤ 114 ∨ 117 ≤ 71 ∧ 71 ≤ 119) := by omega
theorem x71_273 : ¬ (71 = 71 ∧ 16 = 56 ∨ 71 = 71 ∧ 16 = 57 ∨ 71 = 71 ∧ 16 = 58) := by omega
theorem x71_274 : ¬ (71 = 71 ∧ 15 = 56 ∨ 71 = 71 ∧ 15 = 57 ∨ 71 = 71 ∧ 15 = 58) := by omega
theorem x71_275 : ∀ q k : Nat, (q = 71 ∧ k = 56 ∨ q = 71 ∧ k = 57 ∨ q = 71 ∧ k = 58) → (q = 71 ∧ k = 15 ∨ q = 71 ∧ k = 16 ∨ q = 71 ∧ k = 56 ∨ q = 71 ∧ k = 57 ∨ q = 71 ∧ k = 58) := fun q k hk => hk.elim (fun g => (.inr (.inr (.inl g)))) (fun hk => hk.elim (fun g => (.inr (.inr (.inr (.inl g))))) (fun hk => (.inr (.inr (.inr (.inr hk))))))
theorem x71_276 : ∀ q : Nat, (q = 99 ∨ q = 101 ∨ q = 102 ∨ 110 ≤ q ∧ q ≤ 114 ∨ 117 ≤ q ∧ q ≤ 119) → (q = 75 ∨ 83 ≤ q ∧ q ≤ 91 ∨ q = 99 ∨ 101 ≤ q ∧ q ≤ 119) := fun q hk => hk.elim (fun g => (.inr (.inr (.inl g)))) (fun hk => hk.elim (fun g => (.inr (.inr (.inr (show 101 ≤ q ∧ q ≤ 119 by omega))))) (fun hk => hk.elim (fun g => (.inr (.inr (.inr (show 101 ≤ q ∧ q ≤ 119 by omega))))) (fun hk => hk.elim (fun g => (.inr (.inr (.inr (show 101 ≤ q ∧ q ≤ 119 by omega))))) (fun hk => (.inr (.inr (.inr (show 101 ≤ q ∧ q ≤ 119 by omega))))))))
theorem x71_277 : ∀ q k : Nat, (q = 71 ∧ k = 15 ∨ q = 71 ∧ k = 16) → (q = 71 ∧ k = 15 ∨ q = 71 ∧ k = 16 ∨ q = 71 ∧ k = 56 ∨ q = 71 ∧ k = 57 ∨ q = 71 ∧ k = 58) := fun q k hk => hk.elim (fun g => (.inl g)) (fun hk => (.inr (.inl hk)))
theorem x71_278 : ∀ q : Nat, (q = 75 ∨ 83 ≤ q ∧ q ≤ 91 ∨ 103 ≤ q ∧ q ≤ 109 ∨ q = 115 ∨ q = 116) → (q = 75 ∨ 83 ≤ q ∧ q ≤ 91 ∨ q = 99 ∨ 101 ≤ q ∧ q ≤ 119) := fun q hk => hk.elim (fun g => (.inl g)) (fun hk => hk.elim (fun g => (.inr (.inl g))) (fun hk => hk.elim (fun g => (.inr (.inr (.inr (show 101 ≤ q ∧ q ≤ 119 by omega))))) (fun hk => hk.elim (fun g => (.inr (.inr (.inr (show 101 ≤ q ∧ q ≤ 119 by omega))))) (fun hk => (.inr (.inr (.inr (show 101 ≤ q ∧ q ≤ 119 by omega))))))))
theorem x71_279 : ¬ (83 = 99 ∨ 83 = 101 ∨ 83 = 102 ∨ 110 ≤ 83 ∧ 83 ≤ 114 ∨ 117 ≤ 83 ∧ 83 ≤ 119) := by omega
theorem x71_280 : ∀ k : Nat, ¬ (83 = 71 ∧ k = 56 ∨ 83 = 71 ∧ k = 57 ∨ 83 = 71 ∧ k = 58) := fun k c => by omega
theorem x71_281 : ¬ (84 = 99 ∨ 84 = 101 ∨ 84 = 102 ∨ 110 ≤ 84 ∧ 84 ≤ 114 ∨ 117 ≤ 84 ∧ 84 ≤ 119) := by omega
theorem x71_282 : ∀ k : Nat, ¬ (84 = 71 ∧ k = 56 ∨ 84 = 71 ∧ k = 57 ∨ 84 = 71 ∧ k = 58) := fun k c => by omega
theorem x71_283 : ¬ (85 = 99 ∨ 85 = 101 ∨ 85 = 102 ∨ 110 ≤ 85 ∧ 85 ≤ 114 ∨ 117 ≤ 85 ∧ 85 ≤ 119) := by omega
theorem x71_284 : ∀ k : Nat, ¬ (85 = 71 ∧ k = 56 ∨ 85 = 71 ∧ k = 57 ∨ 85 = 71 ∧ k = 58) := fun k c => by omega
theorem x71_285 : ¬ (86 = 99 ∨ 86 = 101 ∨ 86 = 102 ∨ 110 ≤ 86 ∧ 86 ≤ 114 ∨ 117 ≤ 86 ∧ 86 ≤ 119) := by omega
theorem x71_286 : ∀ k : Nat, ¬ (86 = 71 ∧ k = 56 ∨ 86 = 71 ∧ k = 57 ∨ 86 = 71 ∧ k = 58) := fun k c => by omega
theorem x71_287 : ¬ (87 = 99 ∨ 87 = 101 ∨ 87 = 102 ∨ 110 ≤ 87 ∧ 87 ≤ 114 ∨ 117 ≤ 87 ∧ 87 ≤ 119) := by omega
theorem x71_288 : ∀ k : Nat, ¬ (87 = 71 ∧ k = 56 ∨ 87 = 71 ∧ k = 57 ∨ 87 = 71 ∧ k = 58) := fun k c => by omega
theorem x71_289 : ¬ (88 = 99 ∨ 88 = 101 ∨ 88 = 102 ∨ 110 ≤ 88 ∧ 88 ≤ 114 ∨ 117 ≤ 88 ∧ 88 ≤ 119) := by omega
theorem x71_290 : ∀ k : Nat, ¬ (88 = 71 ∧ k = 56 ∨ 88 = 71 ∧ k = 57 ∨ 88 = 71 ∧ k = 58) := fun k c => by omega
theorem x71_291 : ¬ (89 = 99 ∨ 89 = 101 ∨ 89 = 102 ∨ 110 ≤ 89 ∧ 89 ≤ 114 ∨ 117 ≤ 89 ∧ 89 ≤ 119) := by omega
theorem x71_292 : ∀ k : Nat, ¬ (89 = 71 ∧ k = 56 ∨ 89 = 71 ∧ k = 57 ∨ 89 = 71 ∧ k = 58) := fun k c => by omega
theorem x71_293 : ¬ (90 = 99 ∨ 90 = 101 ∨ 90 = 102 ∨ 110 ≤ 90 ∧ 90 ≤ 114 ∨ 117 ≤ 90 ∧ 90 ≤ 119) := by omega
theorem x71_294 : ∀ k : Nat, ¬ (90 = 71 ∧ k = 56 ∨ 90 = 71 ∧ k = 57 ∨ 90 = 71 ∧ k = 58) := fun k c => by omega
theorem x71_295 : ¬ (91 = 99 ∨ 91 = 101 ∨ 91 = 102 ∨ 110 ≤ 91 ∧ 91 ≤ 114 ∨ 117 ≤ 91 ∧ 91 ≤ 119) := by omega
theorem x71_296 : ∀ k : Nat, ¬ (91 = 71 ∧ k = 56 ∨ 91 = 71 ∧ k = 57 ∨ 91 = 71 ∧ k = 58) := fun k c => by omega
set_option maxRecDepth 4000 in
set_option maxHeartbeats 2000000 in
theorem w_B2 {E : Nat → Nat × (Nat → Int32)} {d : Nat} {Q : ez_Q} {h : ez_H} {fr : Int32} {to : Int32} {pl : Int32} {my : Int32} {ls : Int32} {nn : Int32} {l7 : Option Value} {l8 : Option Value} {l9 : Option Value} {l10 : Option Value} {l11 : Option Value} {l12 : Option Value} {l13 : Option Value} {l14 : Option Value} {l15 : Option Value} {l16 : Option Value} (S : zSh h) {T : Nat → Int} {n c a J : Nat} {l bn : Nat} {s0 : Nat × Nat} (hC : mbC (ez_I h 72) (ez_I h 77) (ez_I h 78) (ez_I h 79) (ez_I h 80) (ez_I h 92) (ez_I h 93) (ez_I h 94) (ez_I h 95) (ez_I h 96) T n c) (hA : mbA fr to pl my T n c a J) (c7 : ctI (ez_I h 97) (bkC T n a J) 286) (c8 : ctI (ez_I h 98) (bkD T n a J) 30) (hlb : lbP (ez_I h 100) (bkL T n a J) (bkC T n a J) 286 15) (hdb : dbP (ez_I h 101) (bkD T n a J)) (hno : (nn.toInt = 1 → sN (bkD T n a J) 30 = 0) ∧ (nn.toInt = 0 → sN (bkD T n a J) 30 ≠ 0)) (hn01 : nn.toInt = 0 ∨ nn.toInt = 1) (hls : ls.toInt = (l : Nat) ∧ l ≤ 1) (hs : mS (ez_I h 75) s0) (hb : (ez_I h 71 16).toInt = (s0.2 : Nat)) (hg : aR (ez_I h 75) 8000 (-128) 127) (hbn : (ez_I h 71 15).toInt = (bn : Nat) ∧ bn ≤ 9) (hr : s0.2 + 50 + 8 * (bkY T n a J) ≤ 48800) (K : ∀ h2, zW (fun q k => q = 71 ∧ k = 15 ∨ q = 71 ∧ k = 16 ∨ q = 71 ∧ k = 56 ∨ q = 71 ∧ k = 57 ∨ q = 71 ∧ k = 58) (fun q => q = 75 ∨ 83 ≤ q ∧ q ≤ 91 ∨ q = 99 ∨ 101 ≤ q ∧ q ≤ 119) (fun _ => False) h h2 → (bkS T n a J l s0).2 ≤ s0.2 + 42 + 8 * (bkY T n a J) → mst (ez_I h2 75) (ez_I h2 71 16).toInt (bkS T n a J l s0) → aR (ez_I h2 75) 8000 (-128) 127 → (ez_I h2 71 15).toInt = (bn : Int) + 1 → mbk (ez_I h2 83) (ez_I h2 84) (ez_I h2 85) (ez_I h2 86) (ez_I h2 87) (ez_I h2 88) (ez_I h2 89) (ez_I h2 90) (ez_I h2 91) (ez_I h 83) (ez_I h 84) (ez_I h 85) (ez_I h 86) (ez_I h 87) (ez_I h 88) (ez_I h 89) (ez_I h 90) (ez_I h 91) T n a J s0.2 bn → Q (.inl none) h2) : pw E (d + 2) 44 223 [some (.ref 71), some (.int fr), some (.int to), some (.int pl), some (.int my), some (.int ls), some (.int nn), l7, l8, l9, l10, l11, l12, l13, l14, l15, l16] [] h Q := by
  have gfr := z_rng fr
  have gto := z_rng to
  have gpl := z_rng pl
  have gmy := z_rng my
  have gls := z_rng ls
  have gnn := z_rng nn
  have t93 := hC.2.2.2.2.2.2.2.2.1
  have t95 := hC.2.2.2.2.2.2.2.2.2.2.1
  obtain ⟨_, _, _, aj6, _⟩ := id hA
  have hbc : ∀ z, (bkC T n a J) z ≤ 601 := fun z => by have h9 := cL_le (aM T n) (dI T n) a J z; have h8 : (bkC T n a J) z = cL (aM T n) (dI T n) a J z := rfl; omega
  have hbd : ∀ z, (bkD T n a J) z ≤ 601 := fun z => by have h9 := cD_le (dI T n) a J z; have h8 : (bkD T n a J) z = cD (dI T n) a J z := rfl; omega
  obtain ⟨hn1, hn0⟩ := hno
  have F := zW_refl (fun q k => q = 71 ∧ k = 56 ∨ q = 71 ∧ k = 57 ∨ q = 71 ∧ k = 58) (fun q => q = 99 ∨ q = 101 ∨ q = 102 ∨ 110 ≤ q ∧ q ≤ 114 ∨ 117 ≤ q ∧ q ≤ 119) (fun _ => False) h
  apply ez_Wp_in
  show ez_gw _ _ _ _ _ _ (cz_44) _ _ _ _ _
  refine gw_skip _ ?_
  have r1 := z_rng (ez_I h 71 56)
  have r2 := z_rng (ez_I h 71 57)
  have r3 := z_rng (ez_I h 71 58)
  refine gw_ld rfl rfl ?_
  refine gw_ld rfl rfl ?_
  refine z_gR (q := 100) (zT S (by decide) rfl) (zRf S (by decide) (by decide) rfl) (by decide) ?_
  refine gw_ld rfl rfl ?_
  refine z_gR (q := 101) (zT S (by decide) rfl) (zRf S (by decide) (by decide) rfl) (by decide) ?_
  refine z_cl rfl rfl rfl rfl rfl rfl rfl rfl rfl rfl rfl (zT S (by decide) rfl) ?_
  refine d_cost (u := 100) (w := 101) (cl := (bkC T n a J)) (cd := (bkD T n a J)) S (nu := 288) (nw := 30) (fun _ S => ⟨zT S (by decide) rfl, zN S (by decide) rfl⟩) (fun _ S => ⟨zT S (by decide) rfl, zN S (by decide) rfl⟩) (by omega) (by rw [(show ez_I h 97 = ez_I h 97 from zW_fn F 97 x71_238 x71_239)]; exact c7) (by rw [(show ez_I h 98 = ez_I h 98 from zW_fn F 98 x71_240 x71_241)]; exact c8) hbc hbd (hlb.2.1) (hdb.2.1) (by rw [(show ez_I h 93 = ez_I h 93 from zW_fn F 93 x71_242 x71_243)]; exact t93) (by rw [(show ez_I h 95 = ez_I h 95 from zW_fn F 95 x71_244 x71_245)]; exact t95) (fun lg4 k5 => ?_)
  rw [sNm_eq (c := (bkC T n a J)) (f := fun i => nL (ez_I h 100) i + exL i) (g := fun i => (bkL T n a J) i + exL i) (n := 286) (fun q hq => by show nL (ez_I h 100) q + exL q = _; rw [hlb.1 q hq]), sNm_eq (c := (bkD T n a J)) (f := fun i => nL (ez_I h 101) i + DEf i) (g := fun i => LNf (bkD T n a J) 30 15 i + DEf i) (n := 30) (fun q hq => by show nL (ez_I h 101) q + DEf q = _; rw [hdb.1 q hq])] at k5
  refine gw_st rfl rfl rfl ?_
  show ez_gw _ _ _ _ _ _ _ _ [some (.ref 71), some (.int fr), some (.int to), some (.int pl), some (.int my), some (.int ls), some (.int nn), some (.long lg4), none, l9, l10, l11, l12, l13, l14, l15, l16] _ _ _
  refine gw_ld rfl rfl ?_
  refine z_b1 (fun c6 => ?_) (fun c6 => ?_)
  · have c6 : nn.toInt = 0 := c6
    refine gw_skip _ ?_
    have A_eb : lbP (ez_I h 101) (bkE T n a J) (bkD T n a J) 30 15 := dbP_z hdb (hn0 (by omega))
    refine gw_ld rfl rfl ?_
    refine z_cl rfl rfl rfl rfl rfl rfl rfl rfl rfl rfl rfl (zT S (by decide) rfl) ?_
    have hl0 : lbP (ez_I h 100) (bkL T n a J) (bkC T n a J) 286 15 := by rw [(show ez_I h 100 = ez_I h 100 from zW_fn F 100 x71_246 x71_247)]; exact hlb
    refine d_tellL S hl0.2.1 A_eb.2.1 (fun h7 F8 c9 k10 k11 k12 k13 k14 k15 k16 k17 => ?_)
    have hre := row_eq (L1 := nL (ez_I h 100)) (L2 := nL (ez_I h 101)) (M1 := (bkL T n a J)) (M2 := (bkE T n a J)) hl0.1 A_eb.1 k14
    have hcr : c9 = (bkR T n a J) := row_R hl0.1 A_eb.1 k14 k13 (by omega)
    rw [hre.2.2.2.2, hcr] at k16
    have hte : teI (ez_I h7 117) (ez_I h7 118) (rowF (bkL T n a J) (bkE T n a J)) (rowM (bkL T n a J) (bkE T n a J)) (bkR T n a J) := by
      rw [← hcr]
      exact fun i hi => by rw [← (hre.2.2.2.1 i hi).1, ← (hre.2.2.2.1 i hi).2]; exact k15 i hi
    have hltr : ltrP (rowF (bkL T n a J) (bkE T n a J)) (rowM (bkL T n a J) (bkE T n a J)) (bkR T n a J) := ⟨by rw [← hcr]; exact hre.2.2.1, by omega⟩
    have hmt : mbT (ez_I h7 71 56) (ez_I h7 71 57) (ez_I h7 71 58) T n a J := ⟨by omega, k11.trans (by rw [hre.1.1]), k12.trans (by rw [hre.1.2.1])⟩
    clear hre k11 k12 k13 k14 k15
    have S18 := zW_sh F8 S
    have F19 := zW_tr F (zW_mono F8 (x71_248) (x71_249) (x71_250))
    have r20 := z_rng (ez_I h7 71 56)
    have r21 := z_rng (ez_I h7 71 57)
    have r22 := z_rng (ez_I h7 71 58)
    have A23 : dbP (ez_I h7 101) (bkD T n a J) := by rw [zW_fn F8 101 (by decide) (x71_251)]; exact hdb
    have A24 : lbP (ez_I h7 101) (bkE T n a J) (bkD T n a J) 30 15 := by rw [zW_fn F8 101 (by decide) (x71_251)]; exact A_eb
    have htc9 : ∀ z, (tC (rowF (bkL T n a J) (bkE T n a J)) (rowM (bkL T n a J) (bkE T n a J)) (bkR T n a J)) z ≤ 316 := fun z => Nat.le_trans (tC_le _ _ _ z) hltr.2
    refine gw_ld rfl rfl ?_
    refine gw_ld rfl rfl ?_
    refine z_gR (q := 99) (zT S18 (by decide) rfl) (zRf S18 (by decide) (by decide) rfl) (by decide) ?_
    refine z_C (m := 19) rfl rfl (fun x25 ex25 => ?_)
    refine z_C (m := 7) rfl rfl (fun x26 ex26 => ?_)
    refine gw_ld rfl rfl ?_
    refine z_gR (q := 102) (zT S18 (by decide) rfl) (zRf S18 (by decide) (by decide) rfl) (by decide) ?_
    refine z_cl rfl rfl rfl rfl rfl rfl rfl rfl rfl rfl rfl (zT S18 (by decide) rfl) ?_
    have hct : ctI (ez_I h7 99) (tC (rowF (bkL T n a J) (bkE T n a J)) (rowM (bkL T n a J) (bkE T n a J)) (bkR T n a J)) 19 := k16
    refine m_lenF (u := 99) (w := 102) (al := x25) (li := x26) (mx := 1000) S18 (nu := 19) (nw := 19) (fun _ S => ⟨zT S (by decide) rfl, zN S (by decide) rfl⟩) (fun _ S => ⟨zT S (by decide) rfl, zN S (by decide) rfl⟩) (by decide) (by omega) (by omega) (by rw [show x25.toInt.toNat = 19 by omega]; exact ctI_aR hct (fun z => by have := htc9 z; omega)) (by decide) (by rw [show x25.toInt.toNat = 19 by omega]; decide) (by rw [show x25.toInt.toNat = 19 by omega, show x26.toInt.toNat = 7 by omega]; have := poC_le2 (ez_I h7 99) 19; show _ ≤ (128 : Int); omega) (fun h27 K28 k30 => ?_)
    rw [show x25.toInt.toNat = 19 by omega, show x26.toInt.toNat = 7 by omega] at k30
    have F29 := zW_ofG K28
    obtain ⟨ln31, ln32, ln33, ln34⟩ := ln_all (nw := 19) k30 (fun q a b => by omega) hct (fun q _ => by have := htc9 q; omega) (by decide) (by decide)
    clear hct
    have F35 : zW (fun _ _ => False) (fun q => 110 ≤ q ∧ q ≤ 114 ∨ q = 102) (fun _ => False) h7 h27 := zW_mono F29 (fun q k hk => hk.2.elim) (fun q hk => hk) (fun q hk => hk)
    have S36 := zW_sh F35 S18
    have F37 := zW_tr F19 (zW_mono F35 (x71_252) (x71_253) (x71_250))
    have f38 : ez_I h27 71 56 = (ez_I h7 71 56) := (zW_f F35 (by decide) (fun c => c)).trans (rfl)
    have f39 : ez_I h27 71 57 = (ez_I h7 71 57) := (zW_f F35 (by decide) (fun c => c)).trans (rfl)
    have f40 : ez_I h27 71 58 = (ez_I h7 71 58) := (zW_f F35 (by decide) (fun c => c)).trans (rfl)
    have A41 : dbP (ez_I h27 101) (bkD T n a J) := by rw [zW_fn F35 101 (by decide) (fun _ c => c)]; exact A23
    have A42 : lbP (ez_I h27 101) (bkE T n a J) (bkD T n a J) 30 15 := by rw [zW_fn F35 101 (by decide) (fun _ c => c)]; exact A24
    have A43 : teI (ez_I h27 117) (ez_I h27 118) (rowF (bkL T n a J) (bkE T n a J)) (rowM (bkL T n a J) (bkE T n a J)) (bkR T n a J) := by rw [zW_fn F35 117 (by decide) (fun _ c => c), zW_fn F35 118 (by decide) (fun _ c => c)]; exact hte
    have A44 : ctI (ez_I h27 99) (tC (rowF (bkL T n a J) (bkE T n a J)) (rowM (bkL T n a J) (bkE T n a J)) (bkR T n a J)) 19 := by rw [zW_fn F35 99 (by decide) (fun _ c => c)]; exact k16
    clear A23
    clear A24
    have A_rb : lbP (ez_I h27 102) (bkA T n a J) (tC (rowF (bkL T n a J) (bkE T n a J)) (rowM (bkL T n a J) (bkE T n a J)) (bkR T n a J)) 19 7 := ⟨ln31, ln32, ln33⟩
    have t45 := congrArg Int32.toInt (f38)
    have t46 := congrArg Int32.toInt (f39)
    have t47 := congrArg Int32.toInt (f40)
    suffices tl : pw E (d + 2) 44 269 [some (.ref 71), some (.int fr), some (.int to), some (.int pl), some (.int my), some (.int ls), some (.int nn), some (.long lg4), none, l9, l10, l11, l12, l13, l14, l15, l16] [] h27 Q from ez_Wp_at tl rfl
    refine w_C1 (T := T) (n := n) (c := c) (a := a) (J := J) (l := l) (bn := bn) (s0 := s0) (fr := fr) (to := to) (pl := pl) (my := my) (ls := ls) (nn6 := nn) (dy := lg4) (l9 := l9) (l10 := l10) (l11 := l11) (l12 := l12) (l13 := l13) (l14 := l14) (l15 := l15) (l16 := l16) S36 (by rw [(show ez_I h27 72 = ez_I h 72 from zW_fn F37 72 x71_254 x71_255), (show ez_I h27 77 = ez_I h 77 from zW_fn F37 77 x71_256 x71_257), (show ez_I h27 78 = ez_I h 78 from zW_fn F37 78 x71_258 x71_259), (show ez_I h27 79 = ez_I h 79 from zW_fn F37 79 x71_260 x71_261), (show ez_I h27 80 = ez_I h 80 from zW_fn F37 80 x71_262 x71_263), (show ez_I h27 92 = ez_I h 92 from zW_fn F37 92 x71_264 x71_265), (show ez_I h27 93 = ez_I h 93 from zW_fn F37 93 x71_242 x71_243), (show ez_I h27 94 = ez_I h 94 from zW_fn F37 94 x71_266 x71_267), (show ez_I h27 95 = ez_I h 95 from zW_fn F37 95 x71_244 x71_245), (show ez_I h27 96 = ez_I h 96 from zW_fn F37 96 x71_268 x71_269)]; exact hC) hA (show mbF (ez_I h27 100) (ez_I h27 101) (ez_I h27 102) (ez_I h27 117) (ez_I h27 118) T n a J from ⟨by rw [(show ez_I h27 100 = ez_I h 100 from zW_fn F37 100 x71_246 x71_247)]; exact hlb, A42, A_rb, A43, hltr⟩) (by rw [(show ez_I h27 71 56 = (ez_I h7 71 56) from f38), (show ez_I h27 71 57 = (ez_I h7 71 57) from f39), (show ez_I h27 71 58 = (ez_I h7 71 58) from f40)]; exact hmt) (by omega) A44 (by rw [(show ez_I h27 97 = ez_I h 97 from zW_fn F37 97 x71_238 x71_239)]; exact c7) (by rw [(show ez_I h27 98 = ez_I h 98 from zW_fn F37 98 x71_240 x71_241)]; exact c8) hls (by rw [(show ez_I h27 75 = ez_I h 75 from zW_fn F37 75 x71_270 x71_271)]; exact hs) (by rw [(show ez_I h27 71 16 = ez_I h 71 16 from zW_f F37 x71_272 x71_273)]; exact hb) (by rw [(show ez_I h27 75 = ez_I h 75 from zW_fn F37 75 x71_270 x71_271)]; exact hg) (by rw [(show ez_I h27 71 15 = ez_I h 71 15 from zW_f F37 x71_272 x71_274)]; exact hbn) hr (fun h48 F49 k50 k51 k52 k53 k54 => ?_)
    have F55 := zW_tr (zW_mono F37 x71_275 x71_276 x71_250) (zW_mono F49 x71_277 x71_278 x71_250)
    exact K _ F55 k50 k51 k52 k53 (by have b1 := k54; rw [(show ez_I h27 83 = ez_I h 83 from zW_fn F37 83 x71_279 x71_280), (show ez_I h27 84 = ez_I h 84 from zW_fn F37 84 x71_281 x71_282), (show ez_I h27 85 = ez_I h 85 from zW_fn F37 85 x71_283 x71_284), (show ez_I h27 86 = ez_I h 86 from zW_fn F37 86 x71_285 x71_286), (show ez_I h27 87 = ez_I h 87 from zW_fn F37 87 x71_287 x71_288), (show ez_I h27 88 = ez_I h 88 from zW_fn F37 88 x71_289 x71_290), (show ez_I h27 89 = ez_I h 89 from zW_fn F37 89 x71_291 x71_292), (show ez_I h27 90 = ez_I h 90 from zW_fn F37 90 x71_293 x71_294), (show ez_I h27 91 = ez_I h 91 from zW_fn F37 91 x71_295 x71_296)] at b1; exact b1)
  · have c6 : ¬ (nn.toInt = 0) := c6
    refine gw_ld rfl rfl ?_
    refine z_gR (q := 101) (zT S (by decide) rfl) (zRf S (by decide) (by decide) rfl) (by decide) ?_
    refine z_C (m := 0) rfl rfl (fun x56 ex56 => ?_)
    refine z_C (m := 1) rfl rfl (fun x57 ex57 => ?_)
    refine z_is (n := 30) (zT S (by decide) rfl) (zN S (by decide) rfl) (by omega) (fun h58 e59 => ?_)
    have S60 := zSh_set S e59
    have F61 := zW_setA F e59 (by decide)
    have f62 : ez_I h58 71 56 = (ez_I h 71 56) := (zI_ne e59 (by omega)).trans (rfl)
    have f63 : ez_I h58 71 57 = (ez_I h 71 57) := (zI_ne e59 (by omega)).trans (rfl)
    have f64 : ez_I h58 71 58 = (ez_I h 71 58) := (zI_ne e59 (by omega)).trans (rfl)
    have A65 : lbP (ez_I h58 101) (bkE T n a J) (bkD T n a J) 30 15 := eb_1 hdb (hn1 (by omega)) e59 (by omega) (by omega)
    refine gw_ld rfl rfl ?_
    have t66 := congrArg Int32.toInt (f62)
    have t67 := congrArg Int32.toInt (f63)
    have t68 := congrArg Int32.toInt (f64)
    refine z_cl rfl rfl rfl rfl rfl rfl rfl rfl rfl rfl rfl (zT S60 (by decide) rfl) ?_
    have hl0 : lbP (ez_I h58 100) (bkL T n a J) (bkC T n a J) 286 15 := by rw [(show ez_I h58 100 = ez_I h 100 from zW_fn F61 100 x71_246 x71_247)]; exact hlb
    refine d_tellL S60 hl0.2.1 A65.2.1 (fun h69 F70 c71 k72 k73 k74 k75 k76 k77 k78 k79 => ?_)
    have hre := row_eq (L1 := nL (ez_I h58 100)) (L2 := nL (ez_I h58 101)) (M1 := (bkL T n a J)) (M2 := (bkE T n a J)) hl0.1 A65.1 k76
    have hcr : c71 = (bkR T n a J) := row_R hl0.1 A65.1 k76 k75 (by omega)
    rw [hre.2.2.2.2, hcr] at k78
    have hte : teI (ez_I h69 117) (ez_I h69 118) (rowF (bkL T n a J) (bkE T n a J)) (rowM (bkL T n a J) (bkE T n a J)) (bkR T n a J) := by
      rw [← hcr]
      exact fun i hi => by rw [← (hre.2.2.2.1 i hi).1, ← (hre.2.2.2.1 i hi).2]; exact k77 i hi
    have hltr : ltrP (rowF (bkL T n a J) (bkE T n a J)) (rowM (bkL T n a J) (bkE T n a J)) (bkR T n a J) := ⟨by rw [← hcr]; exact hre.2.2.1, by omega⟩
    have hmt : mbT (ez_I h69 71 56) (ez_I h69 71 57) (ez_I h69 71 58) T n a J := ⟨by omega, k73.trans (by rw [hre.1.1]), k74.trans (by rw [hre.1.2.1])⟩
    clear hre k73 k74 k75 k76 k77
    have S80 := zW_sh F70 S60
    have F81 := zW_tr F61 (zW_mono F70 (x71_248) (x71_249) (x71_250))
    have r82 := z_rng (ez_I h69 71 56)
    have r83 := z_rng (ez_I h69 71 57)
    have r84 := z_rng (ez_I h69 71 58)
    have A85 : lbP (ez_I h69 101) (bkE T n a J) (bkD T n a J) 30 15 := by rw [zW_fn F70 101 (by decide) (x71_251)]; exact A65
    clear A65
    have htc9 : ∀ z, (tC (rowF (bkL T n a J) (bkE T n a J)) (rowM (bkL T n a J) (bkE T n a J)) (bkR T n a J)) z ≤ 316 := fun z => Nat.le_trans (tC_le _ _ _ z) hltr.2
    refine gw_ld rfl rfl ?_
    refine gw_ld rfl rfl ?_
    refine z_gR (q := 99) (zT S80 (by decide) rfl) (zRf S80 (by decide) (by decide) rfl) (by decide) ?_
    refine z_C (m := 19) rfl rfl (fun x86 ex86 => ?_)
    refine z_C (m := 7) rfl rfl (fun x87 ex87 => ?_)
    refine gw_ld rfl rfl ?_
    refine z_gR (q := 102) (zT S80 (by decide) rfl) (zRf S80 (by decide) (by decide) rfl) (by decide) ?_
    refine z_cl rfl rfl rfl rfl rfl rfl rfl rfl rfl rfl rfl (zT S80 (by decide) rfl) ?_
    have hct : ctI (ez_I h69 99) (tC (rowF (bkL T n a J) (bkE T n a J)) (rowM (bkL T n a J) (bkE T n a J)) (bkR T n a J)) 19 := k78
    refine m_lenF (u := 99) (w := 102) (al := x86) (li := x87) (mx := 1000) S80 (nu := 19) (nw := 19) (fun _ S => ⟨zT S (by decide) rfl, zN S (by decide) rfl⟩) (fun _ S => ⟨zT S (by decide) rfl, zN S (by decide) rfl⟩) (by decide) (by omega) (by omega) (by rw [show x86.toInt.toNat = 19 by omega]; exact ctI_aR hct (fun z => by have := htc9 z; omega)) (by decide) (by rw [show x86.toInt.toNat = 19 by omega]; decide) (by rw [show x86.toInt.toNat = 19 by omega, show x87.toInt.toNat = 7 by omega]; have := poC_le2 (ez_I h69 99) 19; show _ ≤ (128 : Int); omega) (fun h88 K89 k91 => ?_)
    rw [show x86.toInt.toNat = 19 by omega, show x87.toInt.toNat = 7 by omega] at k91
    have F90 := zW_ofG K89
    obtain ⟨ln92, ln93, ln94, ln95⟩ := ln_all (nw := 19) k91 (fun q a b => by omega) hct (fun q _ => by have := htc9 q; omega) (by decide) (by decide)
    clear hct
    have F96 : zW (fun _ _ => False) (fun q => 110 ≤ q ∧ q ≤ 114 ∨ q = 102) (fun _ => False) h69 h88 := zW_mono F90 (fun q k hk => hk.2.elim) (fun q hk => hk) (fun q hk => hk)
    have S97 := zW_sh F96 S80
    have F98 := zW_tr F81 (zW_mono F96 (x71_252) (x71_253) (x71_250))
    have f99 : ez_I h88 71 56 = (ez_I h69 71 56) := (zW_f F96 (by decide) (fun c => c)).trans (rfl)
    have f100 : ez_I h88 71 57 = (ez_I h69 71 57) := (zW_f F96 (by decide) (fun c => c)).trans (rfl)
    have f101 : ez_I h88 71 58 = (ez_I h69 71 58) := (zW_f F96 (by decide) (fun c => c)).trans (rfl)
    have A102 : lbP (ez_I h88 101) (bkE T n a J) (bkD T n a J) 30 15 := by rw [zW_fn F96 101 (by decide) (fun _ c => c)]; exact A85
    have A103 : teI (ez_I h88 117) (ez_I h88 118) (rowF (bkL T n a J) (bkE T n a J)) (rowM (bkL T n a J) (bkE T n a J)) (bkR T n a J) := by rw [zW_fn F96 117 (by decide) (fun _ c => c), zW_fn F96 118 (by decide) (fun _ c => c)]; exact hte
    have A104 : ctI (ez_I h88 99) (tC (rowF (bkL T n a J) (bkE T n a J)) (rowM (bkL T n a J) (bkE T n a J)) (bkR T n a J)) 19 := by rw [zW_fn F96 99 (by decide) (fun _ c => c)]; exact k78
    clear A85
    have A_rb : lbP (ez_I h88 102) (bkA T n a J) (tC (rowF (bkL T n a J) (bkE T n a J)) (rowM (bkL T n a J) (bkE T n a J)) (bkR T n a J)) 19 7 := ⟨ln92, ln93, ln94⟩
    have t105 := congrArg Int32.toInt (f99)
    have t106 := congrArg Int32.toInt (f100)
    have t107 := congrArg Int32.toInt (f101)
    suffices tl : pw E (d + 2) 44 269 [some (.ref 71), some (.int fr), some (.int to), some (.int pl), some (.int my), some (.int ls), some (.int nn), some (.long lg4), none, l9, l10, l11, l12, l13, l14, l15, l16] [] h88 Q from ez_Wp_at tl rfl
    refine w_C1 (T := T) (n := n) (c := c) (a := a) (J := J) (l := l) (bn := bn) (s0 := s0) (fr := fr) (to := to) (pl := pl) (my := my) (ls := ls) (nn6 := nn) (dy := lg4) (l9 := l9) (l10 := l10) (l11 := l11) (l12 := l12) (l13 := l13) (l14 := l14) (l15 := l15) (l16 := l16) S97 (by rw [(show ez_I h88 72 = ez_I h 72 from zW_fn F98 72 x71_254 x71_255), (show ez_I h88 77 = ez_I h 77 from zW_fn F98 77 x71_256 x71_257), (show ez_I h88 78 = ez_I h 78 from zW_fn F98 78 x71_258 x71_259), (show ez_I h88 79 = ez_I h 79 from zW_fn F98 79 x71_260 x71_261), (show ez_I h88 80 = ez_I h 80 from zW_fn F98 80 x71_262 x71_263), (show ez_I h88 92 = ez_I h 92 from zW_fn F98 92 x71_264 x71_265), (show ez_I h88 93 = ez_I h 93 from zW_fn F98 93 x71_242 x71_243), (show ez_I h88 94 = ez_I h 94 from zW_fn F98 94 x71_266 x71_267), (show ez_I h88 95 = ez_I h 95 from zW_fn F98 95 x71_244 x71_245), (show ez_I h88 96 = ez_I h 96 from zW_fn F98 96 x71_268 x71_269)]; exact hC) hA (show mbF (ez_I h88 100) (ez_I h88 101) (ez_I h88 102) (ez_I h88 117) (ez_I h88 118) T n a J from ⟨by rw [(show ez_I h88 100 = ez_I h 100 from zW_fn F98 100 x71_246 x71_247)]; exact hlb, A102, A_rb, A103, hltr⟩) (by rw [(show ez_I h88 71 56 = (ez_I h69 71 56) from f99), (show ez_I h88 71 57 = (ez_I h69 71 57) from f100), (show ez_I h88 71 58 = (ez_I h69 71 58) from f101)]; exact hmt) (by omega) A104 (by rw [(show ez_I h88 97 = ez_I h 97 from zW_fn F98 97 x71_238 x71_239)]; exact c7) (by rw [(show ez_I h88 98 = ez_I h 98 from zW_fn F98 98 x71_240 x71_241)]; exact c8) hls (by rw [(show ez_I h88 75 = ez_I h 75 from zW_fn F98 75 x71_270 x71_271)]; exact hs) (by rw [(show ez_I h88 71 16 = ez_I h 71 16 from zW_f F98 x71_272 x71_273)]; exact hb) (by rw [(show ez_I h88 75 = ez_I h 75 from zW_fn F98 75 x71_270 x71_271)]; exact hg) (by rw [(show ez_I h88 71 15 = ez_I h 71 15 from zW_f F98 x71_272 x71_274)]; exact hbn) hr (fun h108 F109 k110 k111 k112 k113 k114 => ?_)
    have F115 := zW_tr (zW_mono F98 x71_275 x71_276 x71_250) (zW_mono F109 x71_277 x71_278 x71_250)
    exact K _ F115 k110 k111 k112 k113 (by have b1 := k114; rw [(show ez_I h88 83 = ez_I h 83 from zW_fn F98 83 x71_279 x71_280), (show ez_I h88 84 = ez_I h 84 from zW_fn F98 84 x71_281 x71_282), (show ez_I h88 85 = ez_I h 85 from zW_fn F98 85 x71_283 x71_284), (show ez_I h88 86 = ez_I h 86 from zW_fn F98 86 x71_285 x71_286), (show ez_I h88 87 = ez_I h 87 from zW_fn F98 87 x71_287 x71_288), (show ez_I h88 88 = ez_I h 88 from zW_fn F98 88 x71_289 x71_290), (show ez_I h88 89 = ez_I h 89 from zW_fn F98 89 x71_291 x71_292), (show ez_I h88 90 = ez_I h 90 from zW_fn F98 90 x71_293 x71_294), (show ez_I h88 91 = ez_I h 91 from zW_fn F98 91 x71_295 x71_296)] at b1; exact b1)
