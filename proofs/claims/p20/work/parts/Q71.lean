section
/-! PRINTED by wip/pack: one step of both objects -/
theorem x76_0 : ¬ (15 = 71 ∧ 4 = 0) := by omega
theorem x76_1 : ∀ k : Nat, ¬ (16 = 71 ∧ k = 0) := fun k c => by omega
theorem x76_2 : ∀ k : Nat, ¬ (17 = 71 ∧ k = 0) := fun k c => by omega
theorem x76_3 : ∀ k : Nat, ¬ (18 = 71 ∧ k = 0) := fun k c => by omega
theorem x76_4 : ∀ k : Nat, ¬ (19 = 71 ∧ k = 0) := fun k c => by omega
theorem x76_5 : ¬ (22 = 71 ∧ 4 = 0) := by omega
theorem x76_6 : ∀ k : Nat, ¬ (23 = 71 ∧ k = 0) := fun k c => by omega
theorem x76_7 : ∀ k : Nat, ¬ (24 = 71 ∧ k = 0) := fun k c => by omega
theorem x76_8 : ∀ k : Nat, ¬ (25 = 71 ∧ k = 0) := fun k c => by omega
theorem x76_9 : ∀ k : Nat, ¬ (26 = 71 ∧ k = 0) := fun k c => by omega
theorem x76_10 : ∀ k : Nat, ¬ (75 = 71 ∧ k = 0) := fun k c => by omega
theorem x76_11 : ∀ k : Nat, ¬ (92 = 71 ∧ k = 0) := fun k c => by omega
theorem x76_12 : ∀ k : Nat, ¬ (93 = 71 ∧ k = 0) := fun k c => by omega
theorem x76_13 : ∀ k : Nat, ¬ (94 = 71 ∧ k = 0) := fun k c => by omega
theorem x76_14 : ∀ k : Nat, ¬ (95 = 71 ∧ k = 0) := fun k c => by omega
theorem x76_15 : ∀ k : Nat, ¬ (96 = 71 ∧ k = 0) := fun k c => by omega
theorem x76_16 : ∀ k : Nat, ¬ (7 = 71 ∧ k = 0) := fun k c => by omega
theorem x76_17 : ∀ k : Nat, ¬ (124 = 71 ∧ k = 0) := fun k c => by omega
theorem x76_18 : ¬ (2 = 71 ∧ 1 = 0) := by omega
theorem x76_19 : ∀ k : Nat, ¬ (3 = 71 ∧ k = 0) := fun k c => by omega
theorem x76_20 : ¬ (71 = 71 ∧ 6 = 0) := by omega
theorem x76_21 : ∀ k : Nat, ¬ (72 = 71 ∧ k = 0) := fun k c => by omega
theorem x76_22 : ¬ (4 = 71 ∧ 1 = 0) := by omega
theorem x76_23 : ∀ k : Nat, ¬ (5 = 71 ∧ k = 0) := fun k c => by omega
theorem x76_24 : ¬ (71 = 71 ∧ 7 = 0) := by omega
theorem x76_25 : ∀ k : Nat, ¬ (73 = 71 ∧ k = 0) := fun k c => by omega
theorem x76_26 : ∀ k : Nat, ¬ (6 = 71 ∧ k = 0) := fun k c => by omega
theorem x76_27 : ∀ k : Nat, ¬ (74 = 71 ∧ k = 0) := fun k c => by omega
theorem x76_28 : ¬ (53 = 71 ∧ 1 = 0) := by omega
theorem x76_29 : ∀ k : Nat, ¬ (54 = 71 ∧ k = 0) := fun k c => by omega
theorem x76_30 : ¬ (71 = 71 ∧ 14 = 0) := by omega
theorem x76_31 : ∀ k : Nat, ¬ (77 = 71 ∧ k = 0) := fun k c => by omega
theorem x76_32 : ∀ k : Nat, ¬ (78 = 71 ∧ k = 0) := fun k c => by omega
theorem x76_33 : ∀ k : Nat, ¬ (79 = 71 ∧ k = 0) := fun k c => by omega
theorem x76_34 : ∀ k : Nat, ¬ (80 = 71 ∧ k = 0) := fun k c => by omega
theorem x76_35 : ¬ (55 = 71 ∧ 2 = 0) := by omega
theorem x76_36 : ∀ k : Nat, ¬ (56 = 71 ∧ k = 0) := fun k c => by omega
theorem x76_37 : ∀ k : Nat, ¬ (57 = 71 ∧ k = 0) := fun k c => by omega
theorem x76_38 : ¬ (71 = 71 ∧ 15 = 0) := by omega
theorem x76_39 : ∀ k : Nat, ¬ (83 = 71 ∧ k = 0) := fun k c => by omega
theorem x76_40 : ∀ k : Nat, ¬ (84 = 71 ∧ k = 0) := fun k c => by omega
theorem x76_41 : ∀ k : Nat, ¬ (85 = 71 ∧ k = 0) := fun k c => by omega
theorem x76_42 : ∀ k : Nat, ¬ (86 = 71 ∧ k = 0) := fun k c => by omega
theorem x76_43 : ∀ k : Nat, ¬ (87 = 71 ∧ k = 0) := fun k c => by omega
theorem x76_44 : ∀ k : Nat, ¬ (88 = 71 ∧ k = 0) := fun k c => by omega
theorem x76_45 : ∀ k : Nat, ¬ (89 = 71 ∧ k = 0) := fun k c => by omega
theorem x76_46 : ∀ k : Nat, ¬ (90 = 71 ∧ k = 0) := fun k c => by omega
theorem x76_47 : ∀ k : Nat, ¬ (91 = 71 ∧ k = 0) := fun k c => by omega
theorem st_0 {h h2 : ez_H}  (R : RR h)  (V2 : zV (fun q k => q = 71 ∧ k = 0) (fun _ => False) h h2)  : RR h2 := by
  exact ⟨V2.1, (by rw [(show ez_I h2 15 4 = ez_I h 15 4 from zV_f V2 15 4 (fun c => c) x76_0), (show ez_I h2 16 = ez_I h 16 from zV_fn V2 16 (fun c => c) x76_1), (show ez_I h2 17 = ez_I h 17 from zV_fn V2 17 (fun c => c) x76_2), (show ez_I h2 18 = ez_I h 18 from zV_fn V2 18 (fun c => c) x76_3), (show ez_I h2 19 = ez_I h 19 from zV_fn V2 19 (fun c => c) x76_4), (show ez_I h2 22 4 = ez_I h 22 4 from zV_f V2 22 4 (fun c => c) x76_5), (show ez_I h2 23 = ez_I h 23 from zV_fn V2 23 (fun c => c) x76_6), (show ez_I h2 24 = ez_I h 24 from zV_fn V2 24 (fun c => c) x76_7), (show ez_I h2 25 = ez_I h 25 from zV_fn V2 25 (fun c => c) x76_8), (show ez_I h2 26 = ez_I h 26 from zV_fn V2 26 (fun c => c) x76_9)]; exact R.2.1), (by rw [(show ez_I h2 75 = ez_I h 75 from zV_fn V2 75 (fun c => c) x76_10), (show ez_I h2 92 = ez_I h 92 from zV_fn V2 92 (fun c => c) x76_11), (show ez_I h2 93 = ez_I h 93 from zV_fn V2 93 (fun c => c) x76_12), (show ez_I h2 94 = ez_I h 94 from zV_fn V2 94 (fun c => c) x76_13), (show ez_I h2 95 = ez_I h 95 from zV_fn V2 95 (fun c => c) x76_14), (show ez_I h2 96 = ez_I h 96 from zV_fn V2 96 (fun c => c) x76_15)]; exact R.2.2.1), (by rw [(show ez_I h2 7 = ez_I h 7 from zV_fn V2 7 (fun c => c) x76_16), (show ez_I h2 124 = ez_I h 124 from zV_fn V2 124 (fun c => c) x76_17)]; exact R.2.2.2.1), (by rw [(show ez_I h2 2 1 = ez_I h 2 1 from zV_f V2 2 1 (fun c => c) x76_18), (show ez_I h2 3 = ez_I h 3 from zV_fn V2 3 (fun c => c) x76_19), (show ez_I h2 71 6 = ez_I h 71 6 from zV_f V2 71 6 (fun c => c) x76_20), (show ez_I h2 72 = ez_I h 72 from zV_fn V2 72 (fun c => c) x76_21)]; exact R.2.2.2.2.1), (by rw [(show ez_I h2 4 1 = ez_I h 4 1 from zV_f V2 4 1 (fun c => c) x76_22), (show ez_I h2 5 = ez_I h 5 from zV_fn V2 5 (fun c => c) x76_23), (show ez_I h2 71 7 = ez_I h 71 7 from zV_f V2 71 7 (fun c => c) x76_24), (show ez_I h2 73 = ez_I h 73 from zV_fn V2 73 (fun c => c) x76_25)]; exact R.2.2.2.2.2.1), (by rw [(show ez_I h2 6 = ez_I h 6 from zV_fn V2 6 (fun c => c) x76_26), (show ez_I h2 74 = ez_I h 74 from zV_fn V2 74 (fun c => c) x76_27)]; exact R.2.2.2.2.2.2.1), (by rw [(show ez_I h2 53 1 = ez_I h 53 1 from zV_f V2 53 1 (fun c => c) x76_28), (show ez_I h2 54 = ez_I h 54 from zV_fn V2 54 (fun c => c) x76_29), (show ez_I h2 71 14 = ez_I h 71 14 from zV_f V2 71 14 (fun c => c) x76_30), (show ez_I h2 77 = ez_I h 77 from zV_fn V2 77 (fun c => c) x76_31), (show ez_I h2 78 = ez_I h 78 from zV_fn V2 78 (fun c => c) x76_32), (show ez_I h2 79 = ez_I h 79 from zV_fn V2 79 (fun c => c) x76_33), (show ez_I h2 80 = ez_I h 80 from zV_fn V2 80 (fun c => c) x76_34)]; exact R.2.2.2.2.2.2.2.1), (by rw [(show ez_I h2 55 2 = ez_I h 55 2 from zV_f V2 55 2 (fun c => c) x76_35), (show ez_I h2 56 = ez_I h 56 from zV_fn V2 56 (fun c => c) x76_36), (show ez_I h2 57 = ez_I h 57 from zV_fn V2 57 (fun c => c) x76_37), (show ez_I h2 71 15 = ez_I h 71 15 from zV_f V2 71 15 (fun c => c) x76_38), (show ez_I h2 83 = ez_I h 83 from zV_fn V2 83 (fun c => c) x76_39), (show ez_I h2 84 = ez_I h 84 from zV_fn V2 84 (fun c => c) x76_40), (show ez_I h2 85 = ez_I h 85 from zV_fn V2 85 (fun c => c) x76_41), (show ez_I h2 86 = ez_I h 86 from zV_fn V2 86 (fun c => c) x76_42), (show ez_I h2 87 = ez_I h 87 from zV_fn V2 87 (fun c => c) x76_43), (show ez_I h2 88 = ez_I h 88 from zV_fn V2 88 (fun c => c) x76_44), (show ez_I h2 89 = ez_I h 89 from zV_fn V2 89 (fun c => c) x76_45), (show ez_I h2 90 = ez_I h 90 from zV_fn V2 90 (fun c => c) x76_46), (show ez_I h2 91 = ez_I h 91 from zV_fn V2 91 (fun c => c) x76_47)]; exact R.2.2.2.2.2.2.2.2)⟩
theorem x76_48 : ¬ (15 = 74) := by omega
theorem x76_49 : ¬ (15 = 6) := by omega
theorem x76_50 : ¬ (16 = 74) := by omega
theorem x76_51 : ¬ (16 = 6) := by omega
theorem x76_52 : ¬ (17 = 74) := by omega
theorem x76_53 : ¬ (17 = 6) := by omega
theorem x76_54 : ¬ (18 = 74) := by omega
theorem x76_55 : ¬ (18 = 6) := by omega
theorem x76_56 : ¬ (19 = 74) := by omega
theorem x76_57 : ¬ (19 = 6) := by omega
theorem x76_58 : ¬ (22 = 74) := by omega
theorem x76_59 : ¬ (22 = 6) := by omega
theorem x76_60 : ¬ (23 = 74) := by omega
theorem x76_61 : ¬ (23 = 6) := by omega
theorem x76_62 : ¬ (24 = 74) := by omega
theorem x76_63 : ¬ (24 = 6) := by omega
theorem x76_64 : ¬ (25 = 74) := by omega
theorem x76_65 : ¬ (25 = 6) := by omega
theorem x76_66 : ¬ (26 = 74) := by omega
theorem x76_67 : ¬ (26 = 6) := by omega
theorem x76_68 : ¬ (75 = 74) := by omega
theorem x76_69 : ¬ (75 = 6) := by omega
theorem x76_70 : ¬ (92 = 74) := by omega
theorem x76_71 : ¬ (92 = 6) := by omega
theorem x76_72 : ¬ (93 = 74) := by omega
theorem x76_73 : ¬ (93 = 6) := by omega
theorem x76_74 : ¬ (94 = 74) := by omega
theorem x76_75 : ¬ (94 = 6) := by omega
theorem x76_76 : ¬ (95 = 74) := by omega
theorem x76_77 : ¬ (95 = 6) := by omega
theorem x76_78 : ¬ (96 = 74) := by omega
theorem x76_79 : ¬ (96 = 6) := by omega
theorem x76_80 : ¬ (7 = 74) := by omega
theorem x76_81 : ¬ (7 = 6) := by omega
theorem x76_82 : ¬ (124 = 74) := by omega
theorem x76_83 : ¬ (124 = 6) := by omega
theorem x76_84 : ¬ (2 = 74) := by omega
theorem x76_85 : ¬ (2 = 6) := by omega
theorem x76_86 : ¬ (3 = 74) := by omega
theorem x76_87 : ¬ (3 = 6) := by omega
theorem x76_88 : ¬ (71 = 74) := by omega
theorem x76_89 : ¬ (71 = 6) := by omega
theorem x76_90 : ¬ (72 = 74) := by omega
theorem x76_91 : ¬ (72 = 6) := by omega
theorem x76_92 : ¬ (4 = 74) := by omega
theorem x76_93 : ¬ (4 = 6) := by omega
theorem x76_94 : ¬ (5 = 74) := by omega
theorem x76_95 : ¬ (5 = 6) := by omega
theorem x76_96 : ¬ (73 = 74) := by omega
theorem x76_97 : ¬ (73 = 6) := by omega
theorem x76_98 : ¬ (6 = 74) := by omega
theorem x76_99 : ¬ (53 = 74) := by omega
theorem x76_100 : ¬ (53 = 6) := by omega
theorem x76_101 : ¬ (54 = 74) := by omega
theorem x76_102 : ¬ (54 = 6) := by omega
theorem x76_103 : ¬ (77 = 74) := by omega
theorem x76_104 : ¬ (77 = 6) := by omega
theorem x76_105 : ¬ (78 = 74) := by omega
theorem x76_106 : ¬ (78 = 6) := by omega
theorem x76_107 : ¬ (79 = 74) := by omega
theorem x76_108 : ¬ (79 = 6) := by omega
theorem x76_109 : ¬ (80 = 74) := by omega
theorem x76_110 : ¬ (80 = 6) := by omega
theorem x76_111 : ¬ (55 = 74) := by omega
theorem x76_112 : ¬ (55 = 6) := by omega
theorem x76_113 : ¬ (56 = 74) := by omega
theorem x76_114 : ¬ (56 = 6) := by omega
theorem x76_115 : ¬ (57 = 74) := by omega
theorem x76_116 : ¬ (57 = 6) := by omega
theorem x76_117 : ¬ (83 = 74) := by omega
theorem x76_118 : ¬ (83 = 6) := by omega
theorem x76_119 : ¬ (84 = 74) := by omega
theorem x76_120 : ¬ (84 = 6) := by omega
theorem x76_121 : ¬ (85 = 74) := by omega
theorem x76_122 : ¬ (85 = 6) := by omega
theorem x76_123 : ¬ (86 = 74) := by omega
theorem x76_124 : ¬ (86 = 6) := by omega
theorem x76_125 : ¬ (87 = 74) := by omega
theorem x76_126 : ¬ (87 = 6) := by omega
theorem x76_127 : ¬ (88 = 74) := by omega
theorem x76_128 : ¬ (88 = 6) := by omega
theorem x76_129 : ¬ (89 = 74) := by omega
theorem x76_130 : ¬ (89 = 6) := by omega
theorem x76_131 : ¬ (90 = 74) := by omega
theorem x76_132 : ¬ (90 = 6) := by omega
theorem x76_133 : ¬ (91 = 74) := by omega
theorem x76_134 : ¬ (91 = 6) := by omega
theorem st_feed {h h1 h2 : ez_H} {a0 a1 a2 a3 a4 : Int32} (R : RR h) (V1 : zV (fun _ _ => False) (fun q => q = 6) h h1) (c0 : rdC (ez_I h1 6) 0 a0 4) (c1 : rdC (ez_I h1 6) 4 a1 4) (c2 : rdC (ez_I h1 6) 8 a2 4) (c3 : rdC (ez_I h1 6) 12 a3 4) (c4 : rdC (ez_I h1 6) 16 a4 4) (V2 : zV (fun q k => q = 71 ∧ k = 0) (fun q => q = 74) h1 h2) (m0 : rdM (ez_I h2 74) 0 a0 4) (m1 : rdM (ez_I h2 74) 4 a1 4) (m2 : rdM (ez_I h2 74) 8 a2 4) (m3 : rdM (ez_I h2 74) 12 a3 4) (m4 : rdM (ez_I h2 74) 16 a4 4) (hg : aR (ez_I h2 74) 20 (-128) 127) : RR h2 := by
  exact ⟨V2.1, (by rw [(show ez_I h2 15 4 = ez_I h1 15 4 from zV_f V2 15 4 x76_48 x76_0), (show ez_I h1 15 4 = ez_I h 15 4 from zV_f V1 15 4 x76_49 (fun c => c)), (show ez_I h2 16 = ez_I h1 16 from zV_fn V2 16 x76_50 x76_1), (show ez_I h1 16 = ez_I h 16 from zV_fn V1 16 x76_51 (fun _ c => c)), (show ez_I h2 17 = ez_I h1 17 from zV_fn V2 17 x76_52 x76_2), (show ez_I h1 17 = ez_I h 17 from zV_fn V1 17 x76_53 (fun _ c => c)), (show ez_I h2 18 = ez_I h1 18 from zV_fn V2 18 x76_54 x76_3), (show ez_I h1 18 = ez_I h 18 from zV_fn V1 18 x76_55 (fun _ c => c)), (show ez_I h2 19 = ez_I h1 19 from zV_fn V2 19 x76_56 x76_4), (show ez_I h1 19 = ez_I h 19 from zV_fn V1 19 x76_57 (fun _ c => c)), (show ez_I h2 22 4 = ez_I h1 22 4 from zV_f V2 22 4 x76_58 x76_5), (show ez_I h1 22 4 = ez_I h 22 4 from zV_f V1 22 4 x76_59 (fun c => c)), (show ez_I h2 23 = ez_I h1 23 from zV_fn V2 23 x76_60 x76_6), (show ez_I h1 23 = ez_I h 23 from zV_fn V1 23 x76_61 (fun _ c => c)), (show ez_I h2 24 = ez_I h1 24 from zV_fn V2 24 x76_62 x76_7), (show ez_I h1 24 = ez_I h 24 from zV_fn V1 24 x76_63 (fun _ c => c)), (show ez_I h2 25 = ez_I h1 25 from zV_fn V2 25 x76_64 x76_8), (show ez_I h1 25 = ez_I h 25 from zV_fn V1 25 x76_65 (fun _ c => c)), (show ez_I h2 26 = ez_I h1 26 from zV_fn V2 26 x76_66 x76_9), (show ez_I h1 26 = ez_I h 26 from zV_fn V1 26 x76_67 (fun _ c => c))]; exact R.2.1), (by rw [(show ez_I h2 75 = ez_I h1 75 from zV_fn V2 75 x76_68 x76_10), (show ez_I h1 75 = ez_I h 75 from zV_fn V1 75 x76_69 (fun _ c => c)), (show ez_I h2 92 = ez_I h1 92 from zV_fn V2 92 x76_70 x76_11), (show ez_I h1 92 = ez_I h 92 from zV_fn V1 92 x76_71 (fun _ c => c)), (show ez_I h2 93 = ez_I h1 93 from zV_fn V2 93 x76_72 x76_12), (show ez_I h1 93 = ez_I h 93 from zV_fn V1 93 x76_73 (fun _ c => c)), (show ez_I h2 94 = ez_I h1 94 from zV_fn V2 94 x76_74 x76_13), (show ez_I h1 94 = ez_I h 94 from zV_fn V1 94 x76_75 (fun _ c => c)), (show ez_I h2 95 = ez_I h1 95 from zV_fn V2 95 x76_76 x76_14), (show ez_I h1 95 = ez_I h 95 from zV_fn V1 95 x76_77 (fun _ c => c)), (show ez_I h2 96 = ez_I h1 96 from zV_fn V2 96 x76_78 x76_15), (show ez_I h1 96 = ez_I h 96 from zV_fn V1 96 x76_79 (fun _ c => c))]; exact R.2.2.1), (by rw [(show ez_I h2 7 = ez_I h1 7 from zV_fn V2 7 x76_80 x76_16), (show ez_I h1 7 = ez_I h 7 from zV_fn V1 7 x76_81 (fun _ c => c)), (show ez_I h2 124 = ez_I h1 124 from zV_fn V2 124 x76_82 x76_17), (show ez_I h1 124 = ez_I h 124 from zV_fn V1 124 x76_83 (fun _ c => c))]; exact R.2.2.2.1), (by rw [(show ez_I h2 2 1 = ez_I h1 2 1 from zV_f V2 2 1 x76_84 x76_18), (show ez_I h1 2 1 = ez_I h 2 1 from zV_f V1 2 1 x76_85 (fun c => c)), (show ez_I h2 3 = ez_I h1 3 from zV_fn V2 3 x76_86 x76_19), (show ez_I h1 3 = ez_I h 3 from zV_fn V1 3 x76_87 (fun _ c => c)), (show ez_I h2 71 6 = ez_I h1 71 6 from zV_f V2 71 6 x76_88 x76_20), (show ez_I h1 71 6 = ez_I h 71 6 from zV_f V1 71 6 x76_89 (fun c => c)), (show ez_I h2 72 = ez_I h1 72 from zV_fn V2 72 x76_90 x76_21), (show ez_I h1 72 = ez_I h 72 from zV_fn V1 72 x76_91 (fun _ c => c))]; exact R.2.2.2.2.1), (by rw [(show ez_I h2 4 1 = ez_I h1 4 1 from zV_f V2 4 1 x76_92 x76_22), (show ez_I h1 4 1 = ez_I h 4 1 from zV_f V1 4 1 x76_93 (fun c => c)), (show ez_I h2 5 = ez_I h1 5 from zV_fn V2 5 x76_94 x76_23), (show ez_I h1 5 = ez_I h 5 from zV_fn V1 5 x76_95 (fun _ c => c)), (show ez_I h2 71 7 = ez_I h1 71 7 from zV_f V2 71 7 x76_88 x76_24), (show ez_I h1 71 7 = ez_I h 71 7 from zV_f V1 71 7 x76_89 (fun c => c)), (show ez_I h2 73 = ez_I h1 73 from zV_fn V2 73 x76_96 x76_25), (show ez_I h1 73 = ez_I h 73 from zV_fn V1 73 x76_97 (fun _ c => c))]; exact R.2.2.2.2.2.1), (by rw [(show ez_I h2 6 = ez_I h1 6 from zV_fn V2 6 x76_98 x76_26)]; exact rY_f c0 c1 c2 c3 c4 m0 m1 m2 m3 m4 hg), (by rw [(show ez_I h2 53 1 = ez_I h1 53 1 from zV_f V2 53 1 x76_99 x76_28), (show ez_I h1 53 1 = ez_I h 53 1 from zV_f V1 53 1 x76_100 (fun c => c)), (show ez_I h2 54 = ez_I h1 54 from zV_fn V2 54 x76_101 x76_29), (show ez_I h1 54 = ez_I h 54 from zV_fn V1 54 x76_102 (fun _ c => c)), (show ez_I h2 71 14 = ez_I h1 71 14 from zV_f V2 71 14 x76_88 x76_30), (show ez_I h1 71 14 = ez_I h 71 14 from zV_f V1 71 14 x76_89 (fun c => c)), (show ez_I h2 77 = ez_I h1 77 from zV_fn V2 77 x76_103 x76_31), (show ez_I h1 77 = ez_I h 77 from zV_fn V1 77 x76_104 (fun _ c => c)), (show ez_I h2 78 = ez_I h1 78 from zV_fn V2 78 x76_105 x76_32), (show ez_I h1 78 = ez_I h 78 from zV_fn V1 78 x76_106 (fun _ c => c)), (show ez_I h2 79 = ez_I h1 79 from zV_fn V2 79 x76_107 x76_33), (show ez_I h1 79 = ez_I h 79 from zV_fn V1 79 x76_108 (fun _ c => c)), (show ez_I h2 80 = ez_I h1 80 from zV_fn V2 80 x76_109 x76_34), (show ez_I h1 80 = ez_I h 80 from zV_fn V1 80 x76_110 (fun _ c => c))]; exact R.2.2.2.2.2.2.2.1), (by rw [(show ez_I h2 55 2 = ez_I h1 55 2 from zV_f V2 55 2 x76_111 x76_35), (show ez_I h1 55 2 = ez_I h 55 2 from zV_f V1 55 2 x76_112 (fun c => c)), (show ez_I h2 56 = ez_I h1 56 from zV_fn V2 56 x76_113 x76_36), (show ez_I h1 56 = ez_I h 56 from zV_fn V1 56 x76_114 (fun _ c => c)), (show ez_I h2 57 = ez_I h1 57 from zV_fn V2 57 x76_115 x76_37), (show ez_I h1 57 = ez_I h 57 from zV_fn V1 57 x76_116 (fun _ c => c)), (show ez_I h2 71 15 = ez_I h1 71 15 from zV_f V2 71 15 x76_88 x76_38), (show ez_I h1 71 15 = ez_I h 71 15 from zV_f V1 71 15 x76_89 (fun c => c)), (show ez_I h2 83 = ez_I h1 83 from zV_fn V2 83 x76_117 x76_39), (show ez_I h1 83 = ez_I h 83 from zV_fn V1 83 x76_118 (fun _ c => c)), (show ez_I h2 84 = ez_I h1 84 from zV_fn V2 84 x76_119 x76_40), (show ez_I h1 84 = ez_I h 84 from zV_fn V1 84 x76_120 (fun _ c => c)), (show ez_I h2 85 = ez_I h1 85 from zV_fn V2 85 x76_121 x76_41), (show ez_I h1 85 = ez_I h 85 from zV_fn V1 85 x76_122 (fun _ c => c)), (show ez_I h2 86 = ez_I h1 86 from zV_fn V2 86 x76_123 x76_42), (show ez_I h1 86 = ez_I h 86 from zV_fn V1 86 x76_124 (fun _ c => c)), (show ez_I h2 87 = ez_I h1 87 from zV_fn V2 87 x76_125 x76_43), (show ez_I h1 87 = ez_I h 87 from zV_fn V1 87 x76_126 (fun _ c => c)), (show ez_I h2 88 = ez_I h1 88 from zV_fn V2 88 x76_127 x76_44), (show ez_I h1 88 = ez_I h 88 from zV_fn V1 88 x76_128 (fun _ c => c)), (show ez_I h2 89 = ez_I h1 89 from zV_fn V2 89 x76_129 x76_45), (show ez_I h1 89 = ez_I h 89 from zV_fn V1 89 x76_130 (fun _ c => c)), (show ez_I h2 90 = ez_I h1 90 from zV_fn V2 90 x76_131 x76_46), (show ez_I h1 90 = ez_I h 90 from zV_fn V1 90 x76_132 (fun _ c => c)), (show ez_I h2 91 = ez_I h1 91 from zV_fn V2 91 x76_133 x76_47), (show ez_I h1 91 = ez_I h 91 from zV_fn V1 91 x76_134 (fun _ c => c))]; exact R.2.2.2.2.2.2.2.2)⟩
theorem x76_135 : ¬ (71 = 2 ∧ 6 = 1) := by omega
theorem x76_136 : ¬ (15 = 71 ∧ 4 = 0 ∨ 15 = 71 ∧ 4 = 6) := by omega
theorem x76_137 : ¬ (15 = 2 ∧ 4 = 1) := by omega
theorem x76_138 : ∀ k : Nat, ¬ (16 = 71 ∧ k = 0 ∨ 16 = 71 ∧ k = 6) := fun k c => by omega
theorem x76_139 : ∀ k : Nat, ¬ (16 = 2 ∧ k = 1) := fun k c => by omega
theorem x76_140 : ∀ k : Nat, ¬ (17 = 71 ∧ k = 0 ∨ 17 = 71 ∧ k = 6) := fun k c => by omega
theorem x76_141 : ∀ k : Nat, ¬ (17 = 2 ∧ k = 1) := fun k c => by omega
theorem x76_142 : ∀ k : Nat, ¬ (18 = 71 ∧ k = 0 ∨ 18 = 71 ∧ k = 6) := fun k c => by omega
theorem x76_143 : ∀ k : Nat, ¬ (18 = 2 ∧ k = 1) := fun k c => by omega
theorem x76_144 : ∀ k : Nat, ¬ (19 = 71 ∧ k = 0 ∨ 19 = 71 ∧ k = 6) := fun k c => by omega
theorem x76_145 : ∀ k : Nat, ¬ (19 = 2 ∧ k = 1) := fun k c => by omega
theorem x76_146 : ¬ (22 = 71 ∧ 4 = 0 ∨ 22 = 71 ∧ 4 = 6) := by omega
theorem x76_147 : ¬ (22 = 2 ∧ 4 = 1) := by omega
theorem x76_148 : ∀ k : Nat, ¬ (23 = 71 ∧ k = 0 ∨ 23 = 71 ∧ k = 6) := fun k c => by omega
theorem x76_149 : ∀ k : Nat, ¬ (23 = 2 ∧ k = 1) := fun k c => by omega
theorem x76_150 : ∀ k : Nat, ¬ (24 = 71 ∧ k = 0 ∨ 24 = 71 ∧ k = 6) := fun k c => by omega
theorem x76_151 : ∀ k : Nat, ¬ (24 = 2 ∧ k = 1) := fun k c => by omega
theorem x76_152 : ∀ k : Nat, ¬ (25 = 71 ∧ k = 0 ∨ 25 = 71 ∧ k = 6) := fun k c => by omega
theorem x76_153 : ∀ k : Nat, ¬ (25 = 2 ∧ k = 1) := fun k c => by omega
theorem x76_154 : ∀ k : Nat, ¬ (26 = 71 ∧ k = 0 ∨ 26 = 71 ∧ k = 6) := fun k c => by omega
theorem x76_155 : ∀ k : Nat, ¬ (26 = 2 ∧ k = 1) := fun k c => by omega
theorem x76_156 : ∀ k : Nat, ¬ (75 = 71 ∧ k = 0 ∨ 75 = 71 ∧ k = 6) := fun k c => by omega
theorem x76_157 : ∀ k : Nat, ¬ (75 = 2 ∧ k = 1) := fun k c => by omega
theorem x76_158 : ∀ k : Nat, ¬ (92 = 71 ∧ k = 0 ∨ 92 = 71 ∧ k = 6) := fun k c => by omega
theorem x76_159 : ∀ k : Nat, ¬ (92 = 2 ∧ k = 1) := fun k c => by omega
theorem x76_160 : ∀ k : Nat, ¬ (93 = 71 ∧ k = 0 ∨ 93 = 71 ∧ k = 6) := fun k c => by omega
theorem x76_161 : ∀ k : Nat, ¬ (93 = 2 ∧ k = 1) := fun k c => by omega
theorem x76_162 : ∀ k : Nat, ¬ (94 = 71 ∧ k = 0 ∨ 94 = 71 ∧ k = 6) := fun k c => by omega
theorem x76_163 : ∀ k : Nat, ¬ (94 = 2 ∧ k = 1) := fun k c => by omega
theorem x76_164 : ∀ k : Nat, ¬ (95 = 71 ∧ k = 0 ∨ 95 = 71 ∧ k = 6) := fun k c => by omega
theorem x76_165 : ∀ k : Nat, ¬ (95 = 2 ∧ k = 1) := fun k c => by omega
theorem x76_166 : ∀ k : Nat, ¬ (96 = 71 ∧ k = 0 ∨ 96 = 71 ∧ k = 6) := fun k c => by omega
theorem x76_167 : ∀ k : Nat, ¬ (96 = 2 ∧ k = 1) := fun k c => by omega
theorem x76_168 : ∀ k : Nat, ¬ (7 = 71 ∧ k = 0 ∨ 7 = 71 ∧ k = 6) := fun k c => by omega
theorem x76_169 : ∀ k : Nat, ¬ (7 = 2 ∧ k = 1) := fun k c => by omega
theorem x76_170 : ∀ k : Nat, ¬ (124 = 71 ∧ k = 0 ∨ 124 = 71 ∧ k = 6) := fun k c => by omega
theorem x76_171 : ∀ k : Nat, ¬ (124 = 2 ∧ k = 1) := fun k c => by omega
theorem x76_172 : ¬ (2 = 71 ∧ 1 = 0 ∨ 2 = 71 ∧ 1 = 6) := by omega
theorem x76_173 : ∀ k : Nat, ¬ (3 = 71 ∧ k = 0 ∨ 3 = 71 ∧ k = 6) := fun k c => by omega
theorem x76_174 : ∀ k : Nat, ¬ (3 = 2 ∧ k = 1) := fun k c => by omega
theorem x76_175 : ∀ k : Nat, ¬ (72 = 71 ∧ k = 0 ∨ 72 = 71 ∧ k = 6) := fun k c => by omega
theorem x76_176 : ∀ k : Nat, ¬ (72 = 2 ∧ k = 1) := fun k c => by omega
theorem x76_177 : ¬ (4 = 71 ∧ 1 = 0 ∨ 4 = 71 ∧ 1 = 6) := by omega
theorem x76_178 : ¬ (4 = 2 ∧ 1 = 1) := by omega
theorem x76_179 : ∀ k : Nat, ¬ (5 = 71 ∧ k = 0 ∨ 5 = 71 ∧ k = 6) := fun k c => by omega
theorem x76_180 : ∀ k : Nat, ¬ (5 = 2 ∧ k = 1) := fun k c => by omega
theorem x76_181 : ¬ (71 = 71 ∧ 7 = 0 ∨ 71 = 71 ∧ 7 = 6) := by omega
theorem x76_182 : ¬ (71 = 2 ∧ 7 = 1) := by omega
theorem x76_183 : ∀ k : Nat, ¬ (73 = 71 ∧ k = 0 ∨ 73 = 71 ∧ k = 6) := fun k c => by omega
theorem x76_184 : ∀ k : Nat, ¬ (73 = 2 ∧ k = 1) := fun k c => by omega
theorem x76_185 : ∀ k : Nat, ¬ (6 = 71 ∧ k = 0 ∨ 6 = 71 ∧ k = 6) := fun k c => by omega
theorem x76_186 : ∀ k : Nat, ¬ (6 = 2 ∧ k = 1) := fun k c => by omega
theorem x76_187 : ∀ k : Nat, ¬ (74 = 71 ∧ k = 0 ∨ 74 = 71 ∧ k = 6) := fun k c => by omega
theorem x76_188 : ∀ k : Nat, ¬ (74 = 2 ∧ k = 1) := fun k c => by omega
theorem x76_189 : ¬ (53 = 71 ∧ 1 = 0 ∨ 53 = 71 ∧ 1 = 6) := by omega
theorem x76_190 : ¬ (53 = 2 ∧ 1 = 1) := by omega
theorem x76_191 : ∀ k : Nat, ¬ (54 = 71 ∧ k = 0 ∨ 54 = 71 ∧ k = 6) := fun k c => by omega
theorem x76_192 : ∀ k : Nat, ¬ (54 = 2 ∧ k = 1) := fun k c => by omega
theorem x76_193 : ¬ (71 = 71 ∧ 14 = 0 ∨ 71 = 71 ∧ 14 = 6) := by omega
theorem x76_194 : ¬ (71 = 2 ∧ 14 = 1) := by omega
theorem x76_195 : ∀ k : Nat, ¬ (77 = 71 ∧ k = 0 ∨ 77 = 71 ∧ k = 6) := fun k c => by omega
theorem x76_196 : ∀ k : Nat, ¬ (77 = 2 ∧ k = 1) := fun k c => by omega
theorem x76_197 : ∀ k : Nat, ¬ (78 = 71 ∧ k = 0 ∨ 78 = 71 ∧ k = 6) := fun k c => by omega
theorem x76_198 : ∀ k : Nat, ¬ (78 = 2 ∧ k = 1) := fun k c => by omega
theorem x76_199 : ∀ k : Nat, ¬ (79 = 71 ∧ k = 0 ∨ 79 = 71 ∧ k = 6) := fun k c => by omega
theorem x76_200 : ∀ k : Nat, ¬ (79 = 2 ∧ k = 1) := fun k c => by omega
theorem x76_201 : ∀ k : Nat, ¬ (80 = 71 ∧ k = 0 ∨ 80 = 71 ∧ k = 6) := fun k c => by omega
theorem x76_202 : ∀ k : Nat, ¬ (80 = 2 ∧ k = 1) := fun k c => by omega
theorem x76_203 : ¬ (55 = 71 ∧ 2 = 0 ∨ 55 = 71 ∧ 2 = 6) := by omega
theorem x76_204 : ¬ (55 = 2 ∧ 2 = 1) := by omega
theorem x76_205 : ∀ k : Nat, ¬ (56 = 71 ∧ k = 0 ∨ 56 = 71 ∧ k = 6) := fun k c => by omega
theorem x76_206 : ∀ k : Nat, ¬ (56 = 2 ∧ k = 1) := fun k c => by omega
theorem x76_207 : ∀ k : Nat, ¬ (57 = 71 ∧ k = 0 ∨ 57 = 71 ∧ k = 6) := fun k c => by omega
theorem x76_208 : ∀ k : Nat, ¬ (57 = 2 ∧ k = 1) := fun k c => by omega
theorem x76_209 : ¬ (71 = 71 ∧ 15 = 0 ∨ 71 = 71 ∧ 15 = 6) := by omega
theorem x76_210 : ¬ (71 = 2 ∧ 15 = 1) := by omega
theorem x76_211 : ∀ k : Nat, ¬ (83 = 71 ∧ k = 0 ∨ 83 = 71 ∧ k = 6) := fun k c => by omega
theorem x76_212 : ∀ k : Nat, ¬ (83 = 2 ∧ k = 1) := fun k c => by omega
theorem x76_213 : ∀ k : Nat, ¬ (84 = 71 ∧ k = 0 ∨ 84 = 71 ∧ k = 6) := fun k c => by omega
theorem x76_214 : ∀ k : Nat, ¬ (84 = 2 ∧ k = 1) := fun k c => by omega
theorem x76_215 : ∀ k : Nat, ¬ (85 = 71 ∧ k = 0 ∨ 85 = 71 ∧ k = 6) := fun k c => by omega
theorem x76_216 : ∀ k : Nat, ¬ (85 = 2 ∧ k = 1) := fun k c => by omega
theorem x76_217 : ∀ k : Nat, ¬ (86 = 71 ∧ k = 0 ∨ 86 = 71 ∧ k = 6) := fun k c => by omega
theorem x76_218 : ∀ k : Nat, ¬ (86 = 2 ∧ k = 1) := fun k c => by omega
theorem x76_219 : ∀ k : Nat, ¬ (87 = 71 ∧ k = 0 ∨ 87 = 71 ∧ k = 6) := fun k c => by omega
theorem x76_220 : ∀ k : Nat, ¬ (87 = 2 ∧ k = 1) := fun k c => by omega
theorem x76_221 : ∀ k : Nat, ¬ (88 = 71 ∧ k = 0 ∨ 88 = 71 ∧ k = 6) := fun k c => by omega
theorem x76_222 : ∀ k : Nat, ¬ (88 = 2 ∧ k = 1) := fun k c => by omega
theorem x76_223 : ∀ k : Nat, ¬ (89 = 71 ∧ k = 0 ∨ 89 = 71 ∧ k = 6) := fun k c => by omega
theorem x76_224 : ∀ k : Nat, ¬ (89 = 2 ∧ k = 1) := fun k c => by omega
theorem x76_225 : ∀ k : Nat, ¬ (90 = 71 ∧ k = 0 ∨ 90 = 71 ∧ k = 6) := fun k c => by omega
theorem x76_226 : ∀ k : Nat, ¬ (90 = 2 ∧ k = 1) := fun k c => by omega
theorem x76_227 : ∀ k : Nat, ¬ (91 = 71 ∧ k = 0 ∨ 91 = 71 ∧ k = 6) := fun k c => by omega
theorem x76_228 : ∀ k : Nat, ¬ (91 = 2 ∧ k = 1) := fun k c => by omega
theorem st_cut {h h1 h2 : ez_H} {n a b : Int32} (R : RR h) (V1 : zV (fun q k => q = 2 ∧ k = 1) (fun _ => False) h h1) (k1 : (0 ≤ n.toInt ∧ n.toInt ≤ (ez_I h 2 1).toInt) ∧ a.toInt = 1 ∧ ez_I h1 2 1 = n ∨ ¬ (0 ≤ n.toInt ∧ n.toInt ≤ (ez_I h 2 1).toInt) ∧ a.toInt = 0 ∧ ez_I h1 2 1 = ez_I h 2 1) (V2 : zV (fun q k => q = 71 ∧ k = 0 ∨ q = 71 ∧ k = 6) (fun _ => False) h1 h2) (k2 : (0 ≤ n.toInt ∧ n.toInt ≤ (ez_I h1 71 6).toInt) ∧ b.toInt = 1 ∧ ez_I h2 71 6 = n ∨ ¬ (0 ≤ n.toInt ∧ n.toInt ≤ (ez_I h1 71 6).toInt) ∧ b.toInt = 0 ∧ ez_I h2 71 6 = ez_I h1 71 6) : RR h2 ∧ a.toInt = b.toInt := by
  rw [(show ez_I h1 71 6 = ez_I h 71 6 from zV_f V1 71 6 (fun c => c) x76_135)] at k2
  have Z := rT_cut R.2.2.2.2.1 k1 k2
  exact ⟨⟨V2.1, (by rw [(show ez_I h2 15 4 = ez_I h1 15 4 from zV_f V2 15 4 (fun c => c) x76_136), (show ez_I h1 15 4 = ez_I h 15 4 from zV_f V1 15 4 (fun c => c) x76_137), (show ez_I h2 16 = ez_I h1 16 from zV_fn V2 16 (fun c => c) x76_138), (show ez_I h1 16 = ez_I h 16 from zV_fn V1 16 (fun c => c) x76_139), (show ez_I h2 17 = ez_I h1 17 from zV_fn V2 17 (fun c => c) x76_140), (show ez_I h1 17 = ez_I h 17 from zV_fn V1 17 (fun c => c) x76_141), (show ez_I h2 18 = ez_I h1 18 from zV_fn V2 18 (fun c => c) x76_142), (show ez_I h1 18 = ez_I h 18 from zV_fn V1 18 (fun c => c) x76_143), (show ez_I h2 19 = ez_I h1 19 from zV_fn V2 19 (fun c => c) x76_144), (show ez_I h1 19 = ez_I h 19 from zV_fn V1 19 (fun c => c) x76_145), (show ez_I h2 22 4 = ez_I h1 22 4 from zV_f V2 22 4 (fun c => c) x76_146), (show ez_I h1 22 4 = ez_I h 22 4 from zV_f V1 22 4 (fun c => c) x76_147), (show ez_I h2 23 = ez_I h1 23 from zV_fn V2 23 (fun c => c) x76_148), (show ez_I h1 23 = ez_I h 23 from zV_fn V1 23 (fun c => c) x76_149), (show ez_I h2 24 = ez_I h1 24 from zV_fn V2 24 (fun c => c) x76_150), (show ez_I h1 24 = ez_I h 24 from zV_fn V1 24 (fun c => c) x76_151), (show ez_I h2 25 = ez_I h1 25 from zV_fn V2 25 (fun c => c) x76_152), (show ez_I h1 25 = ez_I h 25 from zV_fn V1 25 (fun c => c) x76_153), (show ez_I h2 26 = ez_I h1 26 from zV_fn V2 26 (fun c => c) x76_154), (show ez_I h1 26 = ez_I h 26 from zV_fn V1 26 (fun c => c) x76_155)]; exact R.2.1), (by rw [(show ez_I h2 75 = ez_I h1 75 from zV_fn V2 75 (fun c => c) x76_156), (show ez_I h1 75 = ez_I h 75 from zV_fn V1 75 (fun c => c) x76_157), (show ez_I h2 92 = ez_I h1 92 from zV_fn V2 92 (fun c => c) x76_158), (show ez_I h1 92 = ez_I h 92 from zV_fn V1 92 (fun c => c) x76_159), (show ez_I h2 93 = ez_I h1 93 from zV_fn V2 93 (fun c => c) x76_160), (show ez_I h1 93 = ez_I h 93 from zV_fn V1 93 (fun c => c) x76_161), (show ez_I h2 94 = ez_I h1 94 from zV_fn V2 94 (fun c => c) x76_162), (show ez_I h1 94 = ez_I h 94 from zV_fn V1 94 (fun c => c) x76_163), (show ez_I h2 95 = ez_I h1 95 from zV_fn V2 95 (fun c => c) x76_164), (show ez_I h1 95 = ez_I h 95 from zV_fn V1 95 (fun c => c) x76_165), (show ez_I h2 96 = ez_I h1 96 from zV_fn V2 96 (fun c => c) x76_166), (show ez_I h1 96 = ez_I h 96 from zV_fn V1 96 (fun c => c) x76_167)]; exact R.2.2.1), (by rw [(show ez_I h2 7 = ez_I h1 7 from zV_fn V2 7 (fun c => c) x76_168), (show ez_I h1 7 = ez_I h 7 from zV_fn V1 7 (fun c => c) x76_169), (show ez_I h2 124 = ez_I h1 124 from zV_fn V2 124 (fun c => c) x76_170), (show ez_I h1 124 = ez_I h 124 from zV_fn V1 124 (fun c => c) x76_171)]; exact R.2.2.2.1), (by rw [(show ez_I h2 2 1 = ez_I h1 2 1 from zV_f V2 2 1 (fun c => c) x76_172), (show ez_I h2 3 = ez_I h1 3 from zV_fn V2 3 (fun c => c) x76_173), (show ez_I h1 3 = ez_I h 3 from zV_fn V1 3 (fun c => c) x76_174), (show ez_I h2 72 = ez_I h1 72 from zV_fn V2 72 (fun c => c) x76_175), (show ez_I h1 72 = ez_I h 72 from zV_fn V1 72 (fun c => c) x76_176)]; exact Z.1), (by rw [(show ez_I h2 4 1 = ez_I h1 4 1 from zV_f V2 4 1 (fun c => c) x76_177), (show ez_I h1 4 1 = ez_I h 4 1 from zV_f V1 4 1 (fun c => c) x76_178), (show ez_I h2 5 = ez_I h1 5 from zV_fn V2 5 (fun c => c) x76_179), (show ez_I h1 5 = ez_I h 5 from zV_fn V1 5 (fun c => c) x76_180), (show ez_I h2 71 7 = ez_I h1 71 7 from zV_f V2 71 7 (fun c => c) x76_181), (show ez_I h1 71 7 = ez_I h 71 7 from zV_f V1 71 7 (fun c => c) x76_182), (show ez_I h2 73 = ez_I h1 73 from zV_fn V2 73 (fun c => c) x76_183), (show ez_I h1 73 = ez_I h 73 from zV_fn V1 73 (fun c => c) x76_184)]; exact R.2.2.2.2.2.1), (by rw [(show ez_I h2 6 = ez_I h1 6 from zV_fn V2 6 (fun c => c) x76_185), (show ez_I h1 6 = ez_I h 6 from zV_fn V1 6 (fun c => c) x76_186), (show ez_I h2 74 = ez_I h1 74 from zV_fn V2 74 (fun c => c) x76_187), (show ez_I h1 74 = ez_I h 74 from zV_fn V1 74 (fun c => c) x76_188)]; exact R.2.2.2.2.2.2.1), (by rw [(show ez_I h2 53 1 = ez_I h1 53 1 from zV_f V2 53 1 (fun c => c) x76_189), (show ez_I h1 53 1 = ez_I h 53 1 from zV_f V1 53 1 (fun c => c) x76_190), (show ez_I h2 54 = ez_I h1 54 from zV_fn V2 54 (fun c => c) x76_191), (show ez_I h1 54 = ez_I h 54 from zV_fn V1 54 (fun c => c) x76_192), (show ez_I h2 71 14 = ez_I h1 71 14 from zV_f V2 71 14 (fun c => c) x76_193), (show ez_I h1 71 14 = ez_I h 71 14 from zV_f V1 71 14 (fun c => c) x76_194), (show ez_I h2 77 = ez_I h1 77 from zV_fn V2 77 (fun c => c) x76_195), (show ez_I h1 77 = ez_I h 77 from zV_fn V1 77 (fun c => c) x76_196), (show ez_I h2 78 = ez_I h1 78 from zV_fn V2 78 (fun c => c) x76_197), (show ez_I h1 78 = ez_I h 78 from zV_fn V1 78 (fun c => c) x76_198), (show ez_I h2 79 = ez_I h1 79 from zV_fn V2 79 (fun c => c) x76_199), (show ez_I h1 79 = ez_I h 79 from zV_fn V1 79 (fun c => c) x76_200), (show ez_I h2 80 = ez_I h1 80 from zV_fn V2 80 (fun c => c) x76_201), (show ez_I h1 80 = ez_I h 80 from zV_fn V1 80 (fun c => c) x76_202)]; exact R.2.2.2.2.2.2.2.1), (by rw [(show ez_I h2 55 2 = ez_I h1 55 2 from zV_f V2 55 2 (fun c => c) x76_203), (show ez_I h1 55 2 = ez_I h 55 2 from zV_f V1 55 2 (fun c => c) x76_204), (show ez_I h2 56 = ez_I h1 56 from zV_fn V2 56 (fun c => c) x76_205), (show ez_I h1 56 = ez_I h 56 from zV_fn V1 56 (fun c => c) x76_206), (show ez_I h2 57 = ez_I h1 57 from zV_fn V2 57 (fun c => c) x76_207), (show ez_I h1 57 = ez_I h 57 from zV_fn V1 57 (fun c => c) x76_208), (show ez_I h2 71 15 = ez_I h1 71 15 from zV_f V2 71 15 (fun c => c) x76_209), (show ez_I h1 71 15 = ez_I h 71 15 from zV_f V1 71 15 (fun c => c) x76_210), (show ez_I h2 83 = ez_I h1 83 from zV_fn V2 83 (fun c => c) x76_211), (show ez_I h1 83 = ez_I h 83 from zV_fn V1 83 (fun c => c) x76_212), (show ez_I h2 84 = ez_I h1 84 from zV_fn V2 84 (fun c => c) x76_213), (show ez_I h1 84 = ez_I h 84 from zV_fn V1 84 (fun c => c) x76_214), (show ez_I h2 85 = ez_I h1 85 from zV_fn V2 85 (fun c => c) x76_215), (show ez_I h1 85 = ez_I h 85 from zV_fn V1 85 (fun c => c) x76_216), (show ez_I h2 86 = ez_I h1 86 from zV_fn V2 86 (fun c => c) x76_217), (show ez_I h1 86 = ez_I h 86 from zV_fn V1 86 (fun c => c) x76_218), (show ez_I h2 87 = ez_I h1 87 from zV_fn V2 87 (fun c => c) x76_219), (show ez_I h1 87 = ez_I h 87 from zV_fn V1 87 (fun c => c) x76_220), (show ez_I h2 88 = ez_I h1 88 from zV_fn V2 88 (fun c => c) x76_221), (show ez_I h1 88 = ez_I h 88 from zV_fn V1 88 (fun c => c) x76_222), (show ez_I h2 89 = ez_I h1 89 from zV_fn V2 89 (fun c => c) x76_223), (show ez_I h1 89 = ez_I h 89 from zV_fn V1 89 (fun c => c) x76_224), (show ez_I h2 90 = ez_I h1 90 from zV_fn V2 90 (fun c => c) x76_225), (show ez_I h1 90 = ez_I h 90 from zV_fn V1 90 (fun c => c) x76_226), (show ez_I h2 91 = ez_I h1 91 from zV_fn V2 91 (fun c => c) x76_227), (show ez_I h1 91 = ez_I h 91 from zV_fn V1 91 (fun c => c) x76_228)]; exact R.2.2.2.2.2.2.2.2)⟩, Z.2⟩
theorem x76_229 : ¬ (71 = 3) := by omega
theorem x76_230 : ¬ (72 = 3) := by omega
theorem x76_231 : ¬ (15 = 72) := by omega
theorem x76_232 : ¬ (15 = 3) := by omega
theorem x76_233 : ¬ (16 = 72) := by omega
theorem x76_234 : ¬ (16 = 3) := by omega
theorem x76_235 : ¬ (17 = 72) := by omega
theorem x76_236 : ¬ (17 = 3) := by omega
theorem x76_237 : ¬ (18 = 72) := by omega
theorem x76_238 : ¬ (18 = 3) := by omega
theorem x76_239 : ¬ (19 = 72) := by omega
theorem x76_240 : ¬ (19 = 3) := by omega
theorem x76_241 : ¬ (22 = 72) := by omega
theorem x76_242 : ¬ (22 = 3) := by omega
theorem x76_243 : ¬ (23 = 72) := by omega
theorem x76_244 : ¬ (23 = 3) := by omega
theorem x76_245 : ¬ (24 = 72) := by omega
theorem x76_246 : ¬ (24 = 3) := by omega
theorem x76_247 : ¬ (25 = 72) := by omega
theorem x76_248 : ¬ (25 = 3) := by omega
theorem x76_249 : ¬ (26 = 72) := by omega
theorem x76_250 : ¬ (26 = 3) := by omega
theorem x76_251 : ¬ (75 = 72) := by omega
theorem x76_252 : ¬ (75 = 3) := by omega
theorem x76_253 : ¬ (92 = 72) := by omega
theorem x76_254 : ¬ (92 = 3) := by omega
theorem x76_255 : ¬ (93 = 72) := by omega
theorem x76_256 : ¬ (93 = 3) := by omega
theorem x76_257 : ¬ (94 = 72) := by omega
theorem x76_258 : ¬ (94 = 3) := by omega
theorem x76_259 : ¬ (95 = 72) := by omega
theorem x76_260 : ¬ (95 = 3) := by omega
theorem x76_261 : ¬ (96 = 72) := by omega
theorem x76_262 : ¬ (96 = 3) := by omega
theorem x76_263 : ¬ (7 = 72) := by omega
theorem x76_264 : ¬ (7 = 3) := by omega
theorem x76_265 : ¬ (124 = 72) := by omega
theorem x76_266 : ¬ (124 = 3) := by omega
theorem x76_267 : ¬ (2 = 72) := by omega
theorem x76_268 : ¬ (2 = 3) := by omega
theorem x76_269 : ¬ (3 = 72) := by omega
theorem x76_270 : ¬ (71 = 72) := by omega
theorem x76_271 : ¬ (4 = 72) := by omega
theorem x76_272 : ¬ (4 = 3) := by omega
theorem x76_273 : ¬ (5 = 72) := by omega
theorem x76_274 : ¬ (5 = 3) := by omega
theorem x76_275 : ¬ (73 = 72) := by omega
theorem x76_276 : ¬ (73 = 3) := by omega
theorem x76_277 : ¬ (6 = 72) := by omega
theorem x76_278 : ¬ (6 = 3) := by omega
theorem x76_279 : ¬ (74 = 72) := by omega
theorem x76_280 : ¬ (74 = 3) := by omega
theorem x76_281 : ¬ (53 = 72) := by omega
theorem x76_282 : ¬ (53 = 3) := by omega
theorem x76_283 : ¬ (54 = 72) := by omega
theorem x76_284 : ¬ (54 = 3) := by omega
theorem x76_285 : ¬ (77 = 72) := by omega
theorem x76_286 : ¬ (77 = 3) := by omega
theorem x76_287 : ¬ (78 = 72) := by omega
theorem x76_288 : ¬ (78 = 3) := by omega
theorem x76_289 : ¬ (79 = 72) := by omega
theorem x76_290 : ¬ (79 = 3) := by omega
theorem x76_291 : ¬ (80 = 72) := by omega
theorem x76_292 : ¬ (80 = 3) := by omega
theorem x76_293 : ¬ (55 = 72) := by omega
theorem x76_294 : ¬ (55 = 3) := by omega
theorem x76_295 : ¬ (56 = 72) := by omega
theorem x76_296 : ¬ (56 = 3) := by omega
theorem x76_297 : ¬ (57 = 72) := by omega
theorem x76_298 : ¬ (57 = 3) := by omega
theorem x76_299 : ¬ (83 = 72) := by omega
theorem x76_300 : ¬ (83 = 3) := by omega
theorem x76_301 : ¬ (84 = 72) := by omega
theorem x76_302 : ¬ (84 = 3) := by omega
theorem x76_303 : ¬ (85 = 72) := by omega
theorem x76_304 : ¬ (85 = 3) := by omega
theorem x76_305 : ¬ (86 = 72) := by omega
theorem x76_306 : ¬ (86 = 3) := by omega
theorem x76_307 : ¬ (87 = 72) := by omega
theorem x76_308 : ¬ (87 = 3) := by omega
theorem x76_309 : ¬ (88 = 72) := by omega
theorem x76_310 : ¬ (88 = 3) := by omega
theorem x76_311 : ¬ (89 = 72) := by omega
theorem x76_312 : ¬ (89 = 3) := by omega
theorem x76_313 : ¬ (90 = 72) := by omega
theorem x76_314 : ¬ (90 = 3) := by omega
theorem x76_315 : ¬ (91 = 72) := by omega
theorem x76_316 : ¬ (91 = 3) := by omega
theorem st_flip {h h1 h2 : ez_H} {i b a d : Int32} (R : RR h) (V1 : zV (fun _ _ => False) (fun q => q = 3) h h1) (k1 : (0 ≤ i.toInt ∧ i.toInt < (ez_I h 2 1).toInt ∧ 0 ≤ b.toInt ∧ b.toInt ≤ 7) ∧ a.toInt = 1 ∧ ez_I h1 3 i.toInt.toNat = flF b (ez_I h 3 i.toInt.toNat) ∧ (∀ k, k ≠ i.toInt.toNat → ez_I h1 3 k = ez_I h 3 k) ∨ ¬ (0 ≤ i.toInt ∧ i.toInt < (ez_I h 2 1).toInt ∧ 0 ≤ b.toInt ∧ b.toInt ≤ 7) ∧ a.toInt = 0 ∧ ez_I h1 3 = ez_I h 3) (V2 : zV (fun q k => q = 71 ∧ k = 0) (fun q => q = 72) h1 h2) (k2 : (0 ≤ i.toInt ∧ i.toInt < (ez_I h1 71 6).toInt ∧ 0 ≤ b.toInt ∧ b.toInt ≤ 7) ∧ d.toInt = 1 ∧ ez_I h2 72 i.toInt.toNat = (flF b (ez_I h1 72 i.toInt.toNat)).toInt8.toInt32 ∧ (∀ k, k ≠ i.toInt.toNat → ez_I h2 72 k = ez_I h1 72 k) ∨ ¬ (0 ≤ i.toInt ∧ i.toInt < (ez_I h1 71 6).toInt ∧ 0 ≤ b.toInt ∧ b.toInt ≤ 7) ∧ d.toInt = 0 ∧ ez_I h2 72 = ez_I h1 72) : RR h2 ∧ a.toInt = d.toInt := by
  rw [(show ez_I h1 71 6 = ez_I h 71 6 from zV_f V1 71 6 x76_229 (fun c => c)), (show ez_I h1 72 = ez_I h 72 from zV_fn V1 72 x76_230 (fun _ c => c))] at k2
  have Z := rT_flip R.2.2.2.2.1 k1 k2
  exact ⟨⟨V2.1, (by rw [(show ez_I h2 15 4 = ez_I h1 15 4 from zV_f V2 15 4 x76_231 x76_0), (show ez_I h1 15 4 = ez_I h 15 4 from zV_f V1 15 4 x76_232 (fun c => c)), (show ez_I h2 16 = ez_I h1 16 from zV_fn V2 16 x76_233 x76_1), (show ez_I h1 16 = ez_I h 16 from zV_fn V1 16 x76_234 (fun _ c => c)), (show ez_I h2 17 = ez_I h1 17 from zV_fn V2 17 x76_235 x76_2), (show ez_I h1 17 = ez_I h 17 from zV_fn V1 17 x76_236 (fun _ c => c)), (show ez_I h2 18 = ez_I h1 18 from zV_fn V2 18 x76_237 x76_3), (show ez_I h1 18 = ez_I h 18 from zV_fn V1 18 x76_238 (fun _ c => c)), (show ez_I h2 19 = ez_I h1 19 from zV_fn V2 19 x76_239 x76_4), (show ez_I h1 19 = ez_I h 19 from zV_fn V1 19 x76_240 (fun _ c => c)), (show ez_I h2 22 4 = ez_I h1 22 4 from zV_f V2 22 4 x76_241 x76_5), (show ez_I h1 22 4 = ez_I h 22 4 from zV_f V1 22 4 x76_242 (fun c => c)), (show ez_I h2 23 = ez_I h1 23 from zV_fn V2 23 x76_243 x76_6), (show ez_I h1 23 = ez_I h 23 from zV_fn V1 23 x76_244 (fun _ c => c)), (show ez_I h2 24 = ez_I h1 24 from zV_fn V2 24 x76_245 x76_7), (show ez_I h1 24 = ez_I h 24 from zV_fn V1 24 x76_246 (fun _ c => c)), (show ez_I h2 25 = ez_I h1 25 from zV_fn V2 25 x76_247 x76_8), (show ez_I h1 25 = ez_I h 25 from zV_fn V1 25 x76_248 (fun _ c => c)), (show ez_I h2 26 = ez_I h1 26 from zV_fn V2 26 x76_249 x76_9), (show ez_I h1 26 = ez_I h 26 from zV_fn V1 26 x76_250 (fun _ c => c))]; exact R.2.1), (by rw [(show ez_I h2 75 = ez_I h1 75 from zV_fn V2 75 x76_251 x76_10), (show ez_I h1 75 = ez_I h 75 from zV_fn V1 75 x76_252 (fun _ c => c)), (show ez_I h2 92 = ez_I h1 92 from zV_fn V2 92 x76_253 x76_11), (show ez_I h1 92 = ez_I h 92 from zV_fn V1 92 x76_254 (fun _ c => c)), (show ez_I h2 93 = ez_I h1 93 from zV_fn V2 93 x76_255 x76_12), (show ez_I h1 93 = ez_I h 93 from zV_fn V1 93 x76_256 (fun _ c => c)), (show ez_I h2 94 = ez_I h1 94 from zV_fn V2 94 x76_257 x76_13), (show ez_I h1 94 = ez_I h 94 from zV_fn V1 94 x76_258 (fun _ c => c)), (show ez_I h2 95 = ez_I h1 95 from zV_fn V2 95 x76_259 x76_14), (show ez_I h1 95 = ez_I h 95 from zV_fn V1 95 x76_260 (fun _ c => c)), (show ez_I h2 96 = ez_I h1 96 from zV_fn V2 96 x76_261 x76_15), (show ez_I h1 96 = ez_I h 96 from zV_fn V1 96 x76_262 (fun _ c => c))]; exact R.2.2.1), (by rw [(show ez_I h2 7 = ez_I h1 7 from zV_fn V2 7 x76_263 x76_16), (show ez_I h1 7 = ez_I h 7 from zV_fn V1 7 x76_264 (fun _ c => c)), (show ez_I h2 124 = ez_I h1 124 from zV_fn V2 124 x76_265 x76_17), (show ez_I h1 124 = ez_I h 124 from zV_fn V1 124 x76_266 (fun _ c => c))]; exact R.2.2.2.1), (by rw [(show ez_I h2 2 1 = ez_I h1 2 1 from zV_f V2 2 1 x76_267 x76_18), (show ez_I h1 2 1 = ez_I h 2 1 from zV_f V1 2 1 x76_268 (fun c => c)), (show ez_I h2 3 = ez_I h1 3 from zV_fn V2 3 x76_269 x76_19), (show ez_I h2 71 6 = ez_I h1 71 6 from zV_f V2 71 6 x76_270 x76_20), (show ez_I h1 71 6 = ez_I h 71 6 from zV_f V1 71 6 x76_229 (fun c => c))]; exact Z.1), (by rw [(show ez_I h2 4 1 = ez_I h1 4 1 from zV_f V2 4 1 x76_271 x76_22), (show ez_I h1 4 1 = ez_I h 4 1 from zV_f V1 4 1 x76_272 (fun c => c)), (show ez_I h2 5 = ez_I h1 5 from zV_fn V2 5 x76_273 x76_23), (show ez_I h1 5 = ez_I h 5 from zV_fn V1 5 x76_274 (fun _ c => c)), (show ez_I h2 71 7 = ez_I h1 71 7 from zV_f V2 71 7 x76_270 x76_24), (show ez_I h1 71 7 = ez_I h 71 7 from zV_f V1 71 7 x76_229 (fun c => c)), (show ez_I h2 73 = ez_I h1 73 from zV_fn V2 73 x76_275 x76_25), (show ez_I h1 73 = ez_I h 73 from zV_fn V1 73 x76_276 (fun _ c => c))]; exact R.2.2.2.2.2.1), (by rw [(show ez_I h2 6 = ez_I h1 6 from zV_fn V2 6 x76_277 x76_26), (show ez_I h1 6 = ez_I h 6 from zV_fn V1 6 x76_278 (fun _ c => c)), (show ez_I h2 74 = ez_I h1 74 from zV_fn V2 74 x76_279 x76_27), (show ez_I h1 74 = ez_I h 74 from zV_fn V1 74 x76_280 (fun _ c => c))]; exact R.2.2.2.2.2.2.1), (by rw [(show ez_I h2 53 1 = ez_I h1 53 1 from zV_f V2 53 1 x76_281 x76_28), (show ez_I h1 53 1 = ez_I h 53 1 from zV_f V1 53 1 x76_282 (fun c => c)), (show ez_I h2 54 = ez_I h1 54 from zV_fn V2 54 x76_283 x76_29), (show ez_I h1 54 = ez_I h 54 from zV_fn V1 54 x76_284 (fun _ c => c)), (show ez_I h2 71 14 = ez_I h1 71 14 from zV_f V2 71 14 x76_270 x76_30), (show ez_I h1 71 14 = ez_I h 71 14 from zV_f V1 71 14 x76_229 (fun c => c)), (show ez_I h2 77 = ez_I h1 77 from zV_fn V2 77 x76_285 x76_31), (show ez_I h1 77 = ez_I h 77 from zV_fn V1 77 x76_286 (fun _ c => c)), (show ez_I h2 78 = ez_I h1 78 from zV_fn V2 78 x76_287 x76_32), (show ez_I h1 78 = ez_I h 78 from zV_fn V1 78 x76_288 (fun _ c => c)), (show ez_I h2 79 = ez_I h1 79 from zV_fn V2 79 x76_289 x76_33), (show ez_I h1 79 = ez_I h 79 from zV_fn V1 79 x76_290 (fun _ c => c)), (show ez_I h2 80 = ez_I h1 80 from zV_fn V2 80 x76_291 x76_34), (show ez_I h1 80 = ez_I h 80 from zV_fn V1 80 x76_292 (fun _ c => c))]; exact R.2.2.2.2.2.2.2.1), (by rw [(show ez_I h2 55 2 = ez_I h1 55 2 from zV_f V2 55 2 x76_293 x76_35), (show ez_I h1 55 2 = ez_I h 55 2 from zV_f V1 55 2 x76_294 (fun c => c)), (show ez_I h2 56 = ez_I h1 56 from zV_fn V2 56 x76_295 x76_36), (show ez_I h1 56 = ez_I h 56 from zV_fn V1 56 x76_296 (fun _ c => c)), (show ez_I h2 57 = ez_I h1 57 from zV_fn V2 57 x76_297 x76_37), (show ez_I h1 57 = ez_I h 57 from zV_fn V1 57 x76_298 (fun _ c => c)), (show ez_I h2 71 15 = ez_I h1 71 15 from zV_f V2 71 15 x76_270 x76_38), (show ez_I h1 71 15 = ez_I h 71 15 from zV_f V1 71 15 x76_229 (fun c => c)), (show ez_I h2 83 = ez_I h1 83 from zV_fn V2 83 x76_299 x76_39), (show ez_I h1 83 = ez_I h 83 from zV_fn V1 83 x76_300 (fun _ c => c)), (show ez_I h2 84 = ez_I h1 84 from zV_fn V2 84 x76_301 x76_40), (show ez_I h1 84 = ez_I h 84 from zV_fn V1 84 x76_302 (fun _ c => c)), (show ez_I h2 85 = ez_I h1 85 from zV_fn V2 85 x76_303 x76_41), (show ez_I h1 85 = ez_I h 85 from zV_fn V1 85 x76_304 (fun _ c => c)), (show ez_I h2 86 = ez_I h1 86 from zV_fn V2 86 x76_305 x76_42), (show ez_I h1 86 = ez_I h 86 from zV_fn V1 86 x76_306 (fun _ c => c)), (show ez_I h2 87 = ez_I h1 87 from zV_fn V2 87 x76_307 x76_43), (show ez_I h1 87 = ez_I h 87 from zV_fn V1 87 x76_308 (fun _ c => c)), (show ez_I h2 88 = ez_I h1 88 from zV_fn V2 88 x76_309 x76_44), (show ez_I h1 88 = ez_I h 88 from zV_fn V1 88 x76_310 (fun _ c => c)), (show ez_I h2 89 = ez_I h1 89 from zV_fn V2 89 x76_311 x76_45), (show ez_I h1 89 = ez_I h 89 from zV_fn V1 89 x76_312 (fun _ c => c)), (show ez_I h2 90 = ez_I h1 90 from zV_fn V2 90 x76_313 x76_46), (show ez_I h1 90 = ez_I h 90 from zV_fn V1 90 x76_314 (fun _ c => c)), (show ez_I h2 91 = ez_I h1 91 from zV_fn V2 91 x76_315 x76_47), (show ez_I h1 91 = ez_I h 91 from zV_fn V1 91 x76_316 (fun _ c => c))]; exact R.2.2.2.2.2.2.2.2)⟩, Z.2⟩
theorem x76_317 : ¬ (71 = 3 ∨ 71 = 6) := by omega
theorem x76_318 : ¬ (72 = 3 ∨ 72 = 6) := by omega
theorem x76_319 : ¬ (74 = 3 ∨ 74 = 6) := by omega
theorem x76_320 : ¬ (15 = 72 ∨ 15 = 74) := by omega
theorem x76_321 : ¬ (15 = 3 ∨ 15 = 6) := by omega
theorem x76_322 : ¬ (16 = 72 ∨ 16 = 74) := by omega
theorem x76_323 : ¬ (16 = 3 ∨ 16 = 6) := by omega
theorem x76_324 : ¬ (17 = 72 ∨ 17 = 74) := by omega
theorem x76_325 : ¬ (17 = 3 ∨ 17 = 6) := by omega
theorem x76_326 : ¬ (18 = 72 ∨ 18 = 74) := by omega
theorem x76_327 : ¬ (18 = 3 ∨ 18 = 6) := by omega
theorem x76_328 : ¬ (19 = 72 ∨ 19 = 74) := by omega
theorem x76_329 : ¬ (19 = 3 ∨ 19 = 6) := by omega
theorem x76_330 : ¬ (22 = 72 ∨ 22 = 74) := by omega
theorem x76_331 : ¬ (22 = 3 ∨ 22 = 6) := by omega
theorem x76_332 : ¬ (23 = 72 ∨ 23 = 74) := by omega
theorem x76_333 : ¬ (23 = 3 ∨ 23 = 6) := by omega
theorem x76_334 : ¬ (24 = 72 ∨ 24 = 74) := by omega
theorem x76_335 : ¬ (24 = 3 ∨ 24 = 6) := by omega
theorem x76_336 : ¬ (25 = 72 ∨ 25 = 74) := by omega
theorem x76_337 : ¬ (25 = 3 ∨ 25 = 6) := by omega
theorem x76_338 : ¬ (26 = 72 ∨ 26 = 74) := by omega
theorem x76_339 : ¬ (26 = 3 ∨ 26 = 6) := by omega
theorem x76_340 : ¬ (75 = 72 ∨ 75 = 74) := by omega
theorem x76_341 : ¬ (75 = 3 ∨ 75 = 6) := by omega
theorem x76_342 : ¬ (92 = 72 ∨ 92 = 74) := by omega
theorem x76_343 : ¬ (92 = 3 ∨ 92 = 6) := by omega
theorem x76_344 : ¬ (93 = 72 ∨ 93 = 74) := by omega
theorem x76_345 : ¬ (93 = 3 ∨ 93 = 6) := by omega
theorem x76_346 : ¬ (94 = 72 ∨ 94 = 74) := by omega
theorem x76_347 : ¬ (94 = 3 ∨ 94 = 6) := by omega
theorem x76_348 : ¬ (95 = 72 ∨ 95 = 74) := by omega
theorem x76_349 : ¬ (95 = 3 ∨ 95 = 6) := by omega
theorem x76_350 : ¬ (96 = 72 ∨ 96 = 74) := by omega
theorem x76_351 : ¬ (96 = 3 ∨ 96 = 6) := by omega
theorem x76_352 : ¬ (7 = 72 ∨ 7 = 74) := by omega
theorem x76_353 : ¬ (7 = 3 ∨ 7 = 6) := by omega
theorem x76_354 : ¬ (124 = 72 ∨ 124 = 74) := by omega
theorem x76_355 : ¬ (124 = 3 ∨ 124 = 6) := by omega
theorem x76_356 : ¬ (2 = 72 ∨ 2 = 74) := by omega
theorem x76_357 : ¬ (3 = 72 ∨ 3 = 74) := by omega
theorem x76_358 : ¬ (4 = 72 ∨ 4 = 74) := by omega
theorem x76_359 : ¬ (4 = 3 ∨ 4 = 6) := by omega
theorem x76_360 : ¬ (5 = 72 ∨ 5 = 74) := by omega
theorem x76_361 : ¬ (5 = 3 ∨ 5 = 6) := by omega
theorem x76_362 : ¬ (71 = 72 ∨ 71 = 74) := by omega
theorem x76_363 : ¬ (73 = 72 ∨ 73 = 74) := by omega
theorem x76_364 : ¬ (73 = 3 ∨ 73 = 6) := by omega
theorem x76_365 : ¬ (6 = 72 ∨ 6 = 74) := by omega
theorem x76_366 : ¬ (53 = 72 ∨ 53 = 74) := by omega
theorem x76_367 : ¬ (53 = 3 ∨ 53 = 6) := by omega
theorem x76_368 : ¬ (54 = 72 ∨ 54 = 74) := by omega
theorem x76_369 : ¬ (54 = 3 ∨ 54 = 6) := by omega
theorem x76_370 : ¬ (77 = 72 ∨ 77 = 74) := by omega
theorem x76_371 : ¬ (77 = 3 ∨ 77 = 6) := by omega
theorem x76_372 : ¬ (78 = 72 ∨ 78 = 74) := by omega
theorem x76_373 : ¬ (78 = 3 ∨ 78 = 6) := by omega
theorem x76_374 : ¬ (79 = 72 ∨ 79 = 74) := by omega
theorem x76_375 : ¬ (79 = 3 ∨ 79 = 6) := by omega
theorem x76_376 : ¬ (80 = 72 ∨ 80 = 74) := by omega
theorem x76_377 : ¬ (80 = 3 ∨ 80 = 6) := by omega
theorem x76_378 : ¬ (55 = 72 ∨ 55 = 74) := by omega
theorem x76_379 : ¬ (55 = 3 ∨ 55 = 6) := by omega
theorem x76_380 : ¬ (56 = 72 ∨ 56 = 74) := by omega
theorem x76_381 : ¬ (56 = 3 ∨ 56 = 6) := by omega
theorem x76_382 : ¬ (57 = 72 ∨ 57 = 74) := by omega
theorem x76_383 : ¬ (57 = 3 ∨ 57 = 6) := by omega
theorem x76_384 : ¬ (83 = 72 ∨ 83 = 74) := by omega
theorem x76_385 : ¬ (83 = 3 ∨ 83 = 6) := by omega
theorem x76_386 : ¬ (84 = 72 ∨ 84 = 74) := by omega
theorem x76_387 : ¬ (84 = 3 ∨ 84 = 6) := by omega
theorem x76_388 : ¬ (85 = 72 ∨ 85 = 74) := by omega
theorem x76_389 : ¬ (85 = 3 ∨ 85 = 6) := by omega
theorem x76_390 : ¬ (86 = 72 ∨ 86 = 74) := by omega
theorem x76_391 : ¬ (86 = 3 ∨ 86 = 6) := by omega
theorem x76_392 : ¬ (87 = 72 ∨ 87 = 74) := by omega
theorem x76_393 : ¬ (87 = 3 ∨ 87 = 6) := by omega
theorem x76_394 : ¬ (88 = 72 ∨ 88 = 74) := by omega
theorem x76_395 : ¬ (88 = 3 ∨ 88 = 6) := by omega
theorem x76_396 : ¬ (89 = 72 ∨ 89 = 74) := by omega
theorem x76_397 : ¬ (89 = 3 ∨ 89 = 6) := by omega
theorem x76_398 : ¬ (90 = 72 ∨ 90 = 74) := by omega
theorem x76_399 : ¬ (90 = 3 ∨ 90 = 6) := by omega
theorem x76_400 : ¬ (91 = 72 ∨ 91 = 74) := by omega
theorem x76_401 : ¬ (91 = 3 ∨ 91 = 6) := by omega
theorem st_end {h h1 h2 : ez_H} {n t a b : Int32} (R : RR h) (V1 : zV (fun q k => q = 2 ∧ k = 1) (fun q => q = 3 ∨ q = 6) h h1) (k1 : ((0 ≤ n.toInt ∧ n.toInt ≤ 20 ∧ 1 ≤ t.toInt ∧ t.toInt ≤ 100 ∧ (ez_I h 2 1).toInt + n.toInt * t.toInt ≤ 6000) ∧ a.toInt = (ez_I h 2 1).toInt + n.toInt * t.toInt ∧ (ez_I h1 2 1).toInt = (ez_I h 2 1).toInt + n.toInt * t.toInt ∧ (∀ i : Nat, (i : Int) < (ez_I h 2 1).toInt + n.toInt * t.toInt → ez_I h1 3 i = enT (ez_I h 3) (ez_I h 6) (ez_I h 2 1).toInt.toNat n.toInt.toNat i) ∧ (∀ k, k < 20 → (ez_I h1 6 k).toInt = 0)) ∨ (¬ (0 ≤ n.toInt ∧ n.toInt ≤ 20 ∧ 1 ≤ t.toInt ∧ t.toInt ≤ 100 ∧ (ez_I h 2 1).toInt + n.toInt * t.toInt ≤ 6000) ∧ a.toInt = -1 ∧ ez_I h1 2 1 = ez_I h 2 1 ∧ ez_I h1 3 = ez_I h 3 ∧ ez_I h1 6 = ez_I h 6)) (V2 : zV (fun q k => q = 71 ∧ k = 0 ∨ q = 71 ∧ k = 6) (fun q => q = 72 ∨ q = 74) h1 h2) (k2 : ((0 ≤ n.toInt ∧ n.toInt ≤ 20 ∧ 1 ≤ t.toInt ∧ t.toInt ≤ 100 ∧ (ez_I h1 71 6).toInt + n.toInt * t.toInt ≤ 6000) ∧ b.toInt = (ez_I h1 71 6).toInt + n.toInt * t.toInt ∧ (ez_I h2 71 6).toInt = (ez_I h1 71 6).toInt + n.toInt * t.toInt ∧ (∀ i : Nat, (i : Int) < (ez_I h1 71 6).toInt + n.toInt * t.toInt → ez_I h2 72 i = enM (ez_I h1 72) (ez_I h1 74) (ez_I h1 71 6).toInt.toNat n.toInt.toNat i) ∧ aR (ez_I h2 72) 6000 (-128) 127 ∧ (∀ k, k < 20 → (ez_I h2 74 k).toInt = 0)) ∨ (¬ (0 ≤ n.toInt ∧ n.toInt ≤ 20 ∧ 1 ≤ t.toInt ∧ t.toInt ≤ 100 ∧ (ez_I h1 71 6).toInt + n.toInt * t.toInt ≤ 6000) ∧ b.toInt = -1 ∧ ez_I h2 71 6 = ez_I h1 71 6 ∧ ez_I h2 72 = ez_I h1 72 ∧ ez_I h2 74 = ez_I h1 74)) : RR h2 ∧ a.toInt = b.toInt := by
  rw [(show ez_I h1 71 6 = ez_I h 71 6 from zV_f V1 71 6 x76_317 x76_135), (show ez_I h1 72 = ez_I h 72 from zV_fn V1 72 x76_318 x76_176), (show ez_I h1 74 = ez_I h 74 from zV_fn V1 74 x76_319 x76_188)] at k2
  have Z := rT_end R.2.2.2.2.1 R.2.2.2.2.2.2.1 k1 k2
  exact ⟨⟨V2.1, (by rw [(show ez_I h2 15 4 = ez_I h1 15 4 from zV_f V2 15 4 x76_320 x76_136), (show ez_I h1 15 4 = ez_I h 15 4 from zV_f V1 15 4 x76_321 x76_137), (show ez_I h2 16 = ez_I h1 16 from zV_fn V2 16 x76_322 x76_138), (show ez_I h1 16 = ez_I h 16 from zV_fn V1 16 x76_323 x76_139), (show ez_I h2 17 = ez_I h1 17 from zV_fn V2 17 x76_324 x76_140), (show ez_I h1 17 = ez_I h 17 from zV_fn V1 17 x76_325 x76_141), (show ez_I h2 18 = ez_I h1 18 from zV_fn V2 18 x76_326 x76_142), (show ez_I h1 18 = ez_I h 18 from zV_fn V1 18 x76_327 x76_143), (show ez_I h2 19 = ez_I h1 19 from zV_fn V2 19 x76_328 x76_144), (show ez_I h1 19 = ez_I h 19 from zV_fn V1 19 x76_329 x76_145), (show ez_I h2 22 4 = ez_I h1 22 4 from zV_f V2 22 4 x76_330 x76_146), (show ez_I h1 22 4 = ez_I h 22 4 from zV_f V1 22 4 x76_331 x76_147), (show ez_I h2 23 = ez_I h1 23 from zV_fn V2 23 x76_332 x76_148), (show ez_I h1 23 = ez_I h 23 from zV_fn V1 23 x76_333 x76_149), (show ez_I h2 24 = ez_I h1 24 from zV_fn V2 24 x76_334 x76_150), (show ez_I h1 24 = ez_I h 24 from zV_fn V1 24 x76_335 x76_151), (show ez_I h2 25 = ez_I h1 25 from zV_fn V2 25 x76_336 x76_152), (show ez_I h1 25 = ez_I h 25 from zV_fn V1 25 x76_337 x76_153), (show ez_I h2 26 = ez_I h1 26 from zV_fn V2 26 x76_338 x76_154), (show ez_I h1 26 = ez_I h 26 from zV_fn V1 26 x76_339 x76_155)]; exact R.2.1), (by rw [(show ez_I h2 75 = ez_I h1 75 from zV_fn V2 75 x76_340 x76_156), (show ez_I h1 75 = ez_I h 75 from zV_fn V1 75 x76_341 x76_157), (show ez_I h2 92 = ez_I h1 92 from zV_fn V2 92 x76_342 x76_158), (show ez_I h1 92 = ez_I h 92 from zV_fn V1 92 x76_343 x76_159), (show ez_I h2 93 = ez_I h1 93 from zV_fn V2 93 x76_344 x76_160), (show ez_I h1 93 = ez_I h 93 from zV_fn V1 93 x76_345 x76_161), (show ez_I h2 94 = ez_I h1 94 from zV_fn V2 94 x76_346 x76_162), (show ez_I h1 94 = ez_I h 94 from zV_fn V1 94 x76_347 x76_163), (show ez_I h2 95 = ez_I h1 95 from zV_fn V2 95 x76_348 x76_164), (show ez_I h1 95 = ez_I h 95 from zV_fn V1 95 x76_349 x76_165), (show ez_I h2 96 = ez_I h1 96 from zV_fn V2 96 x76_350 x76_166), (show ez_I h1 96 = ez_I h 96 from zV_fn V1 96 x76_351 x76_167)]; exact R.2.2.1), (by rw [(show ez_I h2 7 = ez_I h1 7 from zV_fn V2 7 x76_352 x76_168), (show ez_I h1 7 = ez_I h 7 from zV_fn V1 7 x76_353 x76_169), (show ez_I h2 124 = ez_I h1 124 from zV_fn V2 124 x76_354 x76_170), (show ez_I h1 124 = ez_I h 124 from zV_fn V1 124 x76_355 x76_171)]; exact R.2.2.2.1), (by rw [(show ez_I h2 2 1 = ez_I h1 2 1 from zV_f V2 2 1 x76_356 x76_172), (show ez_I h2 3 = ez_I h1 3 from zV_fn V2 3 x76_357 x76_173)]; exact Z.1.1), (by rw [(show ez_I h2 4 1 = ez_I h1 4 1 from zV_f V2 4 1 x76_358 x76_177), (show ez_I h1 4 1 = ez_I h 4 1 from zV_f V1 4 1 x76_359 x76_178), (show ez_I h2 5 = ez_I h1 5 from zV_fn V2 5 x76_360 x76_179), (show ez_I h1 5 = ez_I h 5 from zV_fn V1 5 x76_361 x76_180), (show ez_I h2 71 7 = ez_I h1 71 7 from zV_f V2 71 7 x76_362 x76_181), (show ez_I h1 71 7 = ez_I h 71 7 from zV_f V1 71 7 x76_317 x76_182), (show ez_I h2 73 = ez_I h1 73 from zV_fn V2 73 x76_363 x76_183), (show ez_I h1 73 = ez_I h 73 from zV_fn V1 73 x76_364 x76_184)]; exact R.2.2.2.2.2.1), (by rw [(show ez_I h2 6 = ez_I h1 6 from zV_fn V2 6 x76_365 x76_185)]; exact Z.1.2), (by rw [(show ez_I h2 53 1 = ez_I h1 53 1 from zV_f V2 53 1 x76_366 x76_189), (show ez_I h1 53 1 = ez_I h 53 1 from zV_f V1 53 1 x76_367 x76_190), (show ez_I h2 54 = ez_I h1 54 from zV_fn V2 54 x76_368 x76_191), (show ez_I h1 54 = ez_I h 54 from zV_fn V1 54 x76_369 x76_192), (show ez_I h2 71 14 = ez_I h1 71 14 from zV_f V2 71 14 x76_362 x76_193), (show ez_I h1 71 14 = ez_I h 71 14 from zV_f V1 71 14 x76_317 x76_194), (show ez_I h2 77 = ez_I h1 77 from zV_fn V2 77 x76_370 x76_195), (show ez_I h1 77 = ez_I h 77 from zV_fn V1 77 x76_371 x76_196), (show ez_I h2 78 = ez_I h1 78 from zV_fn V2 78 x76_372 x76_197), (show ez_I h1 78 = ez_I h 78 from zV_fn V1 78 x76_373 x76_198), (show ez_I h2 79 = ez_I h1 79 from zV_fn V2 79 x76_374 x76_199), (show ez_I h1 79 = ez_I h 79 from zV_fn V1 79 x76_375 x76_200), (show ez_I h2 80 = ez_I h1 80 from zV_fn V2 80 x76_376 x76_201), (show ez_I h1 80 = ez_I h 80 from zV_fn V1 80 x76_377 x76_202)]; exact R.2.2.2.2.2.2.2.1), (by rw [(show ez_I h2 55 2 = ez_I h1 55 2 from zV_f V2 55 2 x76_378 x76_203), (show ez_I h1 55 2 = ez_I h 55 2 from zV_f V1 55 2 x76_379 x76_204), (show ez_I h2 56 = ez_I h1 56 from zV_fn V2 56 x76_380 x76_205), (show ez_I h1 56 = ez_I h 56 from zV_fn V1 56 x76_381 x76_206), (show ez_I h2 57 = ez_I h1 57 from zV_fn V2 57 x76_382 x76_207), (show ez_I h1 57 = ez_I h 57 from zV_fn V1 57 x76_383 x76_208), (show ez_I h2 71 15 = ez_I h1 71 15 from zV_f V2 71 15 x76_362 x76_209), (show ez_I h1 71 15 = ez_I h 71 15 from zV_f V1 71 15 x76_317 x76_210), (show ez_I h2 83 = ez_I h1 83 from zV_fn V2 83 x76_384 x76_211), (show ez_I h1 83 = ez_I h 83 from zV_fn V1 83 x76_385 x76_212), (show ez_I h2 84 = ez_I h1 84 from zV_fn V2 84 x76_386 x76_213), (show ez_I h1 84 = ez_I h 84 from zV_fn V1 84 x76_387 x76_214), (show ez_I h2 85 = ez_I h1 85 from zV_fn V2 85 x76_388 x76_215), (show ez_I h1 85 = ez_I h 85 from zV_fn V1 85 x76_389 x76_216), (show ez_I h2 86 = ez_I h1 86 from zV_fn V2 86 x76_390 x76_217), (show ez_I h1 86 = ez_I h 86 from zV_fn V1 86 x76_391 x76_218), (show ez_I h2 87 = ez_I h1 87 from zV_fn V2 87 x76_392 x76_219), (show ez_I h1 87 = ez_I h 87 from zV_fn V1 87 x76_393 x76_220), (show ez_I h2 88 = ez_I h1 88 from zV_fn V2 88 x76_394 x76_221), (show ez_I h1 88 = ez_I h 88 from zV_fn V1 88 x76_395 x76_222), (show ez_I h2 89 = ez_I h1 89 from zV_fn V2 89 x76_396 x76_223), (show ez_I h1 89 = ez_I h 89 from zV_fn V1 89 x76_397 x76_224), (show ez_I h2 90 = ez_I h1 90 from zV_fn V2 90 x76_398 x76_225), (show ez_I h1 90 = ez_I h 90 from zV_fn V1 90 x76_399 x76_226), (show ez_I h2 91 = ez_I h1 91 from zV_fn V2 91 x76_400 x76_227), (show ez_I h1 91 = ez_I h 91 from zV_fn V1 91 x76_401 x76_228)]; exact R.2.2.2.2.2.2.2.2)⟩, Z.2⟩
theorem st_take {h h1 h2 : ez_H} {b : Int32} (R : RR h) (V1 : zV (fun q k => q = 2 ∧ k = 1) (fun q => q = 3) h h1) (k1 : (6000 < (ez_I h 4 1).toInt ∧ ez_I h1 2 1 = ez_I h 2 1 ∧ ez_I h1 3 = ez_I h 3) ∨ ((ez_I h 4 1).toInt ≤ 6000 ∧ (ez_I h1 2 1).toInt = (ez_I h 4 1).toInt ∧ (∀ k : Nat, (k : Int) < (ez_I h 4 1).toInt → ez_I h1 3 k = ez_I h 5 k))) (V2 : zV (fun q k => q = 71 ∧ k = 0 ∨ q = 71 ∧ k = 6) (fun q => q = 72) h1 h2) (q1 : 6000 < (ez_I h1 71 7).toInt → ez_I h2 71 6 = ez_I h1 71 6 ∧ ez_I h2 72 = ez_I h1 72 ∧ (ez_I h2 71 0).toInt = 1) (q2 : (ez_I h1 71 7).toInt ≤ 6000 → b = ez_I h2 71 6 ∧ (ez_I h2 71 6).toInt = (ez_I h1 71 7).toInt ∧ (∀ j : Nat, (j : Int) < (ez_I h1 71 7).toInt → ez_I h2 72 j = (ez_I h1 73 j).toInt8.toInt32) ∧ (ez_I h2 71 0).toInt = 0) (q3 : aR (ez_I h2 72) 6000 (-128) 127) : RR h2 := by
  rw [(show ez_I h1 71 7 = ez_I h 71 7 from zV_f V1 71 7 x76_229 x76_182), (show ez_I h1 71 6 = ez_I h 71 6 from zV_f V1 71 6 x76_229 x76_135), (show ez_I h1 72 = ez_I h 72 from zV_fn V1 72 x76_230 x76_176)] at q1
  rw [(show ez_I h1 71 7 = ez_I h 71 7 from zV_f V1 71 7 x76_229 x76_182), (show ez_I h1 73 = ez_I h 73 from zV_fn V1 73 x76_276 x76_184)] at q2
  have O := R.2.2.2.2.2.1
  have Z : rTp (ez_I h1 2 1) (ez_I h1 3) (ez_I h2 71 6) (ez_I h2 72) := by
    rcases k1 with ⟨p1, p2, p3⟩ | ⟨p1, p2, p3⟩
    · obtain ⟨a1, a2, _⟩ := q1 (by have := O.1; omega)
      rw [p2, p3, a1, a2]; exact R.2.2.2.2.1
    · obtain ⟨a1, a2, a3, _⟩ := q2 (by have := O.1; omega)
      exact (rT_take O p1 rfl p2 p3 a1 a2 a3 q3).1
  exact ⟨V2.1, (by rw [(show ez_I h2 15 4 = ez_I h1 15 4 from zV_f V2 15 4 x76_231 x76_136), (show ez_I h1 15 4 = ez_I h 15 4 from zV_f V1 15 4 x76_232 x76_137), (show ez_I h2 16 = ez_I h1 16 from zV_fn V2 16 x76_233 x76_138), (show ez_I h1 16 = ez_I h 16 from zV_fn V1 16 x76_234 x76_139), (show ez_I h2 17 = ez_I h1 17 from zV_fn V2 17 x76_235 x76_140), (show ez_I h1 17 = ez_I h 17 from zV_fn V1 17 x76_236 x76_141), (show ez_I h2 18 = ez_I h1 18 from zV_fn V2 18 x76_237 x76_142), (show ez_I h1 18 = ez_I h 18 from zV_fn V1 18 x76_238 x76_143), (show ez_I h2 19 = ez_I h1 19 from zV_fn V2 19 x76_239 x76_144), (show ez_I h1 19 = ez_I h 19 from zV_fn V1 19 x76_240 x76_145), (show ez_I h2 22 4 = ez_I h1 22 4 from zV_f V2 22 4 x76_241 x76_146), (show ez_I h1 22 4 = ez_I h 22 4 from zV_f V1 22 4 x76_242 x76_147), (show ez_I h2 23 = ez_I h1 23 from zV_fn V2 23 x76_243 x76_148), (show ez_I h1 23 = ez_I h 23 from zV_fn V1 23 x76_244 x76_149), (show ez_I h2 24 = ez_I h1 24 from zV_fn V2 24 x76_245 x76_150), (show ez_I h1 24 = ez_I h 24 from zV_fn V1 24 x76_246 x76_151), (show ez_I h2 25 = ez_I h1 25 from zV_fn V2 25 x76_247 x76_152), (show ez_I h1 25 = ez_I h 25 from zV_fn V1 25 x76_248 x76_153), (show ez_I h2 26 = ez_I h1 26 from zV_fn V2 26 x76_249 x76_154), (show ez_I h1 26 = ez_I h 26 from zV_fn V1 26 x76_250 x76_155)]; exact R.2.1), (by rw [(show ez_I h2 75 = ez_I h1 75 from zV_fn V2 75 x76_251 x76_156), (show ez_I h1 75 = ez_I h 75 from zV_fn V1 75 x76_252 x76_157), (show ez_I h2 92 = ez_I h1 92 from zV_fn V2 92 x76_253 x76_158), (show ez_I h1 92 = ez_I h 92 from zV_fn V1 92 x76_254 x76_159), (show ez_I h2 93 = ez_I h1 93 from zV_fn V2 93 x76_255 x76_160), (show ez_I h1 93 = ez_I h 93 from zV_fn V1 93 x76_256 x76_161), (show ez_I h2 94 = ez_I h1 94 from zV_fn V2 94 x76_257 x76_162), (show ez_I h1 94 = ez_I h 94 from zV_fn V1 94 x76_258 x76_163), (show ez_I h2 95 = ez_I h1 95 from zV_fn V2 95 x76_259 x76_164), (show ez_I h1 95 = ez_I h 95 from zV_fn V1 95 x76_260 x76_165), (show ez_I h2 96 = ez_I h1 96 from zV_fn V2 96 x76_261 x76_166), (show ez_I h1 96 = ez_I h 96 from zV_fn V1 96 x76_262 x76_167)]; exact R.2.2.1), (by rw [(show ez_I h2 7 = ez_I h1 7 from zV_fn V2 7 x76_263 x76_168), (show ez_I h1 7 = ez_I h 7 from zV_fn V1 7 x76_264 x76_169), (show ez_I h2 124 = ez_I h1 124 from zV_fn V2 124 x76_265 x76_170), (show ez_I h1 124 = ez_I h 124 from zV_fn V1 124 x76_266 x76_171)]; exact R.2.2.2.1), (by rw [(show ez_I h2 2 1 = ez_I h1 2 1 from zV_f V2 2 1 x76_267 x76_172), (show ez_I h2 3 = ez_I h1 3 from zV_fn V2 3 x76_269 x76_173)]; exact Z), (by rw [(show ez_I h2 4 1 = ez_I h1 4 1 from zV_f V2 4 1 x76_271 x76_177), (show ez_I h1 4 1 = ez_I h 4 1 from zV_f V1 4 1 x76_272 x76_178), (show ez_I h2 5 = ez_I h1 5 from zV_fn V2 5 x76_273 x76_179), (show ez_I h1 5 = ez_I h 5 from zV_fn V1 5 x76_274 x76_180), (show ez_I h2 71 7 = ez_I h1 71 7 from zV_f V2 71 7 x76_270 x76_181), (show ez_I h1 71 7 = ez_I h 71 7 from zV_f V1 71 7 x76_229 x76_182), (show ez_I h2 73 = ez_I h1 73 from zV_fn V2 73 x76_275 x76_183), (show ez_I h1 73 = ez_I h 73 from zV_fn V1 73 x76_276 x76_184)]; exact R.2.2.2.2.2.1), (by rw [(show ez_I h2 6 = ez_I h1 6 from zV_fn V2 6 x76_277 x76_185), (show ez_I h1 6 = ez_I h 6 from zV_fn V1 6 x76_278 x76_186), (show ez_I h2 74 = ez_I h1 74 from zV_fn V2 74 x76_279 x76_187), (show ez_I h1 74 = ez_I h 74 from zV_fn V1 74 x76_280 x76_188)]; exact R.2.2.2.2.2.2.1), (by rw [(show ez_I h2 53 1 = ez_I h1 53 1 from zV_f V2 53 1 x76_281 x76_189), (show ez_I h1 53 1 = ez_I h 53 1 from zV_f V1 53 1 x76_282 x76_190), (show ez_I h2 54 = ez_I h1 54 from zV_fn V2 54 x76_283 x76_191), (show ez_I h1 54 = ez_I h 54 from zV_fn V1 54 x76_284 x76_192), (show ez_I h2 71 14 = ez_I h1 71 14 from zV_f V2 71 14 x76_270 x76_193), (show ez_I h1 71 14 = ez_I h 71 14 from zV_f V1 71 14 x76_229 x76_194), (show ez_I h2 77 = ez_I h1 77 from zV_fn V2 77 x76_285 x76_195), (show ez_I h1 77 = ez_I h 77 from zV_fn V1 77 x76_286 x76_196), (show ez_I h2 78 = ez_I h1 78 from zV_fn V2 78 x76_287 x76_197), (show ez_I h1 78 = ez_I h 78 from zV_fn V1 78 x76_288 x76_198), (show ez_I h2 79 = ez_I h1 79 from zV_fn V2 79 x76_289 x76_199), (show ez_I h1 79 = ez_I h 79 from zV_fn V1 79 x76_290 x76_200), (show ez_I h2 80 = ez_I h1 80 from zV_fn V2 80 x76_291 x76_201), (show ez_I h1 80 = ez_I h 80 from zV_fn V1 80 x76_292 x76_202)]; exact R.2.2.2.2.2.2.2.1), (by rw [(show ez_I h2 55 2 = ez_I h1 55 2 from zV_f V2 55 2 x76_293 x76_203), (show ez_I h1 55 2 = ez_I h 55 2 from zV_f V1 55 2 x76_294 x76_204), (show ez_I h2 56 = ez_I h1 56 from zV_fn V2 56 x76_295 x76_205), (show ez_I h1 56 = ez_I h 56 from zV_fn V1 56 x76_296 x76_206), (show ez_I h2 57 = ez_I h1 57 from zV_fn V2 57 x76_297 x76_207), (show ez_I h1 57 = ez_I h 57 from zV_fn V1 57 x76_298 x76_208), (show ez_I h2 71 15 = ez_I h1 71 15 from zV_f V2 71 15 x76_270 x76_209), (show ez_I h1 71 15 = ez_I h 71 15 from zV_f V1 71 15 x76_229 x76_210), (show ez_I h2 83 = ez_I h1 83 from zV_fn V2 83 x76_299 x76_211), (show ez_I h1 83 = ez_I h 83 from zV_fn V1 83 x76_300 x76_212), (show ez_I h2 84 = ez_I h1 84 from zV_fn V2 84 x76_301 x76_213), (show ez_I h1 84 = ez_I h 84 from zV_fn V1 84 x76_302 x76_214), (show ez_I h2 85 = ez_I h1 85 from zV_fn V2 85 x76_303 x76_215), (show ez_I h1 85 = ez_I h 85 from zV_fn V1 85 x76_304 x76_216), (show ez_I h2 86 = ez_I h1 86 from zV_fn V2 86 x76_305 x76_217), (show ez_I h1 86 = ez_I h 86 from zV_fn V1 86 x76_306 x76_218), (show ez_I h2 87 = ez_I h1 87 from zV_fn V2 87 x76_307 x76_219), (show ez_I h1 87 = ez_I h 87 from zV_fn V1 87 x76_308 x76_220), (show ez_I h2 88 = ez_I h1 88 from zV_fn V2 88 x76_309 x76_221), (show ez_I h1 88 = ez_I h 88 from zV_fn V1 88 x76_310 x76_222), (show ez_I h2 89 = ez_I h1 89 from zV_fn V2 89 x76_311 x76_223), (show ez_I h1 89 = ez_I h 89 from zV_fn V1 89 x76_312 x76_224), (show ez_I h2 90 = ez_I h1 90 from zV_fn V2 90 x76_313 x76_225), (show ez_I h1 90 = ez_I h 90 from zV_fn V1 90 x76_314 x76_226), (show ez_I h2 91 = ez_I h1 91 from zV_fn V2 91 x76_315 x76_227), (show ez_I h1 91 = ez_I h 91 from zV_fn V1 91 x76_316 x76_228)]; exact R.2.2.2.2.2.2.2.2)⟩
theorem x76_402 : ¬ (30 ≤ 71 ∧ 71 ≤ 35 ∨ 37 ≤ 71 ∧ 71 ≤ 42 ∨ 44 ≤ 71 ∧ 71 ≤ 49 ∨ 71 = 70 ∨ 71 = 51 ∨ 71 = 5) := by omega
theorem x76_403 : ¬ (71 = 69 ∧ 6 = 2 ∨ 71 = 69 ∧ 6 = 3 ∨ 71 = 69 ∧ 6 = 6 ∨ 71 = 29 ∧ 6 = 4 ∨ 71 = 36 ∧ 6 = 4 ∨ 71 = 43 ∧ 6 = 4 ∨ 71 = 50 ∧ 6 = 1 ∨ 71 = 69 ∧ 6 = 1 ∨ 71 = 4 ∧ 6 = 1) := by omega
theorem x76_404 : ¬ (30 ≤ 72 ∧ 72 ≤ 35 ∨ 37 ≤ 72 ∧ 72 ≤ 42 ∨ 44 ≤ 72 ∧ 72 ≤ 49 ∨ 72 = 70 ∨ 72 = 51 ∨ 72 = 5) := by omega
theorem x76_405 : ∀ k : Nat, ¬ (72 = 69 ∧ k = 2 ∨ 72 = 69 ∧ k = 3 ∨ 72 = 69 ∧ k = 6 ∨ 72 = 29 ∧ k = 4 ∨ 72 = 36 ∧ k = 4 ∨ 72 = 43 ∧ k = 4 ∨ 72 = 50 ∧ k = 1 ∨ 72 = 69 ∧ k = 1 ∨ 72 = 4 ∧ k = 1) := fun k c => by omega
theorem x76_406 : ¬ (71 = 69 ∧ 7 = 2 ∨ 71 = 69 ∧ 7 = 3 ∨ 71 = 69 ∧ 7 = 6 ∨ 71 = 29 ∧ 7 = 4 ∨ 71 = 36 ∧ 7 = 4 ∨ 71 = 43 ∧ 7 = 4 ∨ 71 = 50 ∧ 7 = 1 ∨ 71 = 69 ∧ 7 = 1 ∨ 71 = 4 ∧ 7 = 1) := by omega
theorem x76_407 : ¬ (30 ≤ 73 ∧ 73 ≤ 35 ∨ 37 ≤ 73 ∧ 73 ≤ 42 ∨ 44 ≤ 73 ∧ 73 ≤ 49 ∨ 73 = 70 ∨ 73 = 51 ∨ 73 = 5) := by omega
theorem x76_408 : ∀ k : Nat, ¬ (73 = 69 ∧ k = 2 ∨ 73 = 69 ∧ k = 3 ∨ 73 = 69 ∧ k = 6 ∨ 73 = 29 ∧ k = 4 ∨ 73 = 36 ∧ k = 4 ∨ 73 = 43 ∧ k = 4 ∨ 73 = 50 ∧ k = 1 ∨ 73 = 69 ∧ k = 1 ∨ 73 = 4 ∧ k = 1) := fun k c => by omega
theorem x76_409 : ¬ (15 = 73 ∨ 15 = 76 ∨ 15 = 115 ∨ 15 = 120 ∨ 15 = 121 ∨ 15 = 122 ∨ 15 = 123) := by omega
theorem x76_410 : ¬ (15 = 71 ∧ 4 = 59 ∨ 15 = 71 ∧ 4 = 61 ∨ 15 = 71 ∧ 4 = 60 ∨ 15 = 71 ∧ 4 = 62 ∨ 15 = 71 ∧ 4 = 63 ∨ 15 = 71 ∧ 4 = 0 ∨ 15 = 71 ∧ 4 = 7) := by omega
theorem x76_411 : ¬ (30 ≤ 15 ∧ 15 ≤ 35 ∨ 37 ≤ 15 ∧ 15 ≤ 42 ∨ 44 ≤ 15 ∧ 15 ≤ 49 ∨ 15 = 70 ∨ 15 = 51 ∨ 15 = 5) := by omega
theorem x76_412 : ¬ (15 = 69 ∧ 4 = 2 ∨ 15 = 69 ∧ 4 = 3 ∨ 15 = 69 ∧ 4 = 6 ∨ 15 = 29 ∧ 4 = 4 ∨ 15 = 36 ∧ 4 = 4 ∨ 15 = 43 ∧ 4 = 4 ∨ 15 = 50 ∧ 4 = 1 ∨ 15 = 69 ∧ 4 = 1 ∨ 15 = 4 ∧ 4 = 1) := by omega
theorem x76_413 : ¬ (16 = 73 ∨ 16 = 76 ∨ 16 = 115 ∨ 16 = 120 ∨ 16 = 121 ∨ 16 = 122 ∨ 16 = 123) := by omega
theorem x76_414 : ∀ k : Nat, ¬ (16 = 71 ∧ k = 59 ∨ 16 = 71 ∧ k = 61 ∨ 16 = 71 ∧ k = 60 ∨ 16 = 71 ∧ k = 62 ∨ 16 = 71 ∧ k = 63 ∨ 16 = 71 ∧ k = 0 ∨ 16 = 71 ∧ k = 7) := fun k c => by omega
theorem x76_415 : ¬ (30 ≤ 16 ∧ 16 ≤ 35 ∨ 37 ≤ 16 ∧ 16 ≤ 42 ∨ 44 ≤ 16 ∧ 16 ≤ 49 ∨ 16 = 70 ∨ 16 = 51 ∨ 16 = 5) := by omega
theorem x76_416 : ∀ k : Nat, ¬ (16 = 69 ∧ k = 2 ∨ 16 = 69 ∧ k = 3 ∨ 16 = 69 ∧ k = 6 ∨ 16 = 29 ∧ k = 4 ∨ 16 = 36 ∧ k = 4 ∨ 16 = 43 ∧ k = 4 ∨ 16 = 50 ∧ k = 1 ∨ 16 = 69 ∧ k = 1 ∨ 16 = 4 ∧ k = 1) := fun k c => by omega
theorem x76_417 : ¬ (17 = 73 ∨ 17 = 76 ∨ 17 = 115 ∨ 17 = 120 ∨ 17 = 121 ∨ 17 = 122 ∨ 17 = 123) := by omega
theorem x76_418 : ∀ k : Nat, ¬ (17 = 71 ∧ k = 59 ∨ 17 = 71 ∧ k = 61 ∨ 17 = 71 ∧ k = 60 ∨ 17 = 71 ∧ k = 62 ∨ 17 = 71 ∧ k = 63 ∨ 17 = 71 ∧ k = 0 ∨ 17 = 71 ∧ k = 7) := fun k c => by omega
theorem x76_419 : ¬ (30 ≤ 17 ∧ 17 ≤ 35 ∨ 37 ≤ 17 ∧ 17 ≤ 42 ∨ 44 ≤ 17 ∧ 17 ≤ 49 ∨ 17 = 70 ∨ 17 = 51 ∨ 17 = 5) := by omega
theorem x76_420 : ∀ k : Nat, ¬ (17 = 69 ∧ k = 2 ∨ 17 = 69 ∧ k = 3 ∨ 17 = 69 ∧ k = 6 ∨ 17 = 29 ∧ k = 4 ∨ 17 = 36 ∧ k = 4 ∨ 17 = 43 ∧ k = 4 ∨ 17 = 50 ∧ k = 1 ∨ 17 = 69 ∧ k = 1 ∨ 17 = 4 ∧ k = 1) := fun k c => by omega
theorem x76_421 : ¬ (18 = 73 ∨ 18 = 76 ∨ 18 = 115 ∨ 18 = 120 ∨ 18 = 121 ∨ 18 = 122 ∨ 18 = 123) := by omega
theorem x76_422 : ∀ k : Nat, ¬ (18 = 71 ∧ k = 59 ∨ 18 = 71 ∧ k = 61 ∨ 18 = 71 ∧ k = 60 ∨ 18 = 71 ∧ k = 62 ∨ 18 = 71 ∧ k = 63 ∨ 18 = 71 ∧ k = 0 ∨ 18 = 71 ∧ k = 7) := fun k c => by omega
theorem x76_423 : ¬ (30 ≤ 18 ∧ 18 ≤ 35 ∨ 37 ≤ 18 ∧ 18 ≤ 42 ∨ 44 ≤ 18 ∧ 18 ≤ 49 ∨ 18 = 70 ∨ 18 = 51 ∨ 18 = 5) := by omega
theorem x76_424 : ∀ k : Nat, ¬ (18 = 69 ∧ k = 2 ∨ 18 = 69 ∧ k = 3 ∨ 18 = 69 ∧ k = 6 ∨ 18 = 29 ∧ k = 4 ∨ 18 = 36 ∧ k = 4 ∨ 18 = 43 ∧ k = 4 ∨ 18 = 50 ∧ k = 1 ∨ 18 = 69 ∧ k = 1 ∨ 18 = 4 ∧ k = 1) := fun k c => by omega
theorem x76_425 : ¬ (19 = 73 ∨ 19 = 76 ∨ 19 = 115 ∨ 19 = 120 ∨ 19 = 121 ∨ 19 = 122 ∨ 19 = 123) := by omega
theorem x76_426 : ∀ k : Nat, ¬ (19 = 71 ∧ k = 59 ∨ 19 = 71 ∧ k = 61 ∨ 19 = 71 ∧ k = 60 ∨ 19 = 71 ∧ k = 62 ∨ 19 = 71 ∧ k = 63 ∨ 19 = 71 ∧ k = 0 ∨ 19 = 71 ∧ k = 7) := fun k c => by omega
theorem x76_427 : ¬ (30 ≤ 19 ∧ 19 ≤ 35 ∨ 37 ≤ 19 ∧ 19 ≤ 42 ∨ 44 ≤ 19 ∧ 19 ≤ 49 ∨ 19 = 70 ∨ 19 = 51 ∨ 19 = 5) := by omega
theorem x76_428 : ∀ k : Nat, ¬ (19 = 69 ∧ k = 2 ∨ 19 = 69 ∧ k = 3 ∨ 19 = 69 ∧ k = 6 ∨ 19 = 29 ∧ k = 4 ∨ 19 = 36 ∧ k = 4 ∨ 19 = 43 ∧ k = 4 ∨ 19 = 50 ∧ k = 1 ∨ 19 = 69 ∧ k = 1 ∨ 19 = 4 ∧ k = 1) := fun k c => by omega
theorem x76_429 : ¬ (22 = 73 ∨ 22 = 76 ∨ 22 = 115 ∨ 22 = 120 ∨ 22 = 121 ∨ 22 = 122 ∨ 22 = 123) := by omega
theorem x76_430 : ¬ (22 = 71 ∧ 4 = 59 ∨ 22 = 71 ∧ 4 = 61 ∨ 22 = 71 ∧ 4 = 60 ∨ 22 = 71 ∧ 4 = 62 ∨ 22 = 71 ∧ 4 = 63 ∨ 22 = 71 ∧ 4 = 0 ∨ 22 = 71 ∧ 4 = 7) := by omega
theorem x76_431 : ¬ (30 ≤ 22 ∧ 22 ≤ 35 ∨ 37 ≤ 22 ∧ 22 ≤ 42 ∨ 44 ≤ 22 ∧ 22 ≤ 49 ∨ 22 = 70 ∨ 22 = 51 ∨ 22 = 5) := by omega
theorem x76_432 : ¬ (22 = 69 ∧ 4 = 2 ∨ 22 = 69 ∧ 4 = 3 ∨ 22 = 69 ∧ 4 = 6 ∨ 22 = 29 ∧ 4 = 4 ∨ 22 = 36 ∧ 4 = 4 ∨ 22 = 43 ∧ 4 = 4 ∨ 22 = 50 ∧ 4 = 1 ∨ 22 = 69 ∧ 4 = 1 ∨ 22 = 4 ∧ 4 = 1) := by omega
theorem x76_433 : ¬ (23 = 73 ∨ 23 = 76 ∨ 23 = 115 ∨ 23 = 120 ∨ 23 = 121 ∨ 23 = 122 ∨ 23 = 123) := by omega
theorem x76_434 : ∀ k : Nat, ¬ (23 = 71 ∧ k = 59 ∨ 23 = 71 ∧ k = 61 ∨ 23 = 71 ∧ k = 60 ∨ 23 = 71 ∧ k = 62 ∨ 23 = 71 ∧ k = 63 ∨ 23 = 71 ∧ k = 0 ∨ 23 = 71 ∧ k = 7) := fun k c => by omega
theorem x76_435 : ¬ (30 ≤ 23 ∧ 23 ≤ 35 ∨ 37 ≤ 23 ∧ 23 ≤ 42 ∨ 44 ≤ 23 ∧ 23 ≤ 49 ∨ 23 = 70 ∨ 23 = 51 ∨ 23 = 5) := by omega
theorem x76_436 : ∀ k : Nat, ¬ (23 = 69 ∧ k = 2 ∨ 23 = 69 ∧ k = 3 ∨ 23 = 69 ∧ k = 6 ∨ 23 = 29 ∧ k = 4 ∨ 23 = 36 ∧ k = 4 ∨ 23 = 43 ∧ k = 4 ∨ 23 = 50 ∧ k = 1 ∨ 23 = 69 ∧ k = 1 ∨ 23 = 4 ∧ k = 1) := fun k c => by omega
theorem x76_437 : ¬ (24 = 73 ∨ 24 = 76 ∨ 24 = 115 ∨ 24 = 120 ∨ 24 = 121 ∨ 24 = 122 ∨ 24 = 123) := by omega
theorem x76_438 : ∀ k : Nat, ¬ (24 = 71 ∧ k = 59 ∨ 24 = 71 ∧ k = 61 ∨ 24 = 71 ∧ k = 60 ∨ 24 = 71 ∧ k = 62 ∨ 24 = 71 ∧ k = 63 ∨ 24 = 71 ∧ k = 0 ∨ 24 = 71 ∧ k = 7) := fun k c => by omega
theorem x76_439 : ¬ (30 ≤ 24 ∧ 24 ≤ 35 ∨ 37 ≤ 24 ∧ 24 ≤ 42 ∨ 44 ≤ 24 ∧ 24 ≤ 49 ∨ 24 = 70 ∨ 24 = 51 ∨ 24 = 5) := by omega
theorem x76_440 : ∀ k : Nat, ¬ (24 = 69 ∧ k = 2 ∨ 24 = 69 ∧ k = 3 ∨ 24 = 69 ∧ k = 6 ∨ 24 = 29 ∧ k = 4 ∨ 24 = 36 ∧ k = 4 ∨ 24 = 43 ∧ k = 4 ∨ 24 = 50 ∧ k = 1 ∨ 24 = 69 ∧ k = 1 ∨ 24 = 4 ∧ k = 1) := fun k c => by omega
theorem x76_441 : ¬ (25 = 73 ∨ 25 = 76 ∨ 25 = 115 ∨ 25 = 120 ∨ 25 = 121 ∨ 25 = 122 ∨ 25 = 123) := by omega
theorem x76_442 : ∀ k : Nat, ¬ (25 = 71 ∧ k = 59 ∨ 25 = 71 ∧ k = 61 ∨ 25 = 71 ∧ k = 60 ∨ 25 = 71 ∧ k = 62 ∨ 25 = 71 ∧ k = 63 ∨ 25 = 71 ∧ k = 0 ∨ 25 = 71 ∧ k = 7) := fun k c => by omega
theorem x76_443 : ¬ (30 ≤ 25 ∧ 25 ≤ 35 ∨ 37 ≤ 25 ∧ 25 ≤ 42 ∨ 44 ≤ 25 ∧ 25 ≤ 49 ∨ 25 = 70 ∨ 25 = 51 ∨ 25 = 5) := by omega
theorem x76_444 : ∀ k : Nat, ¬ (25 = 69 ∧ k = 2 ∨ 25 = 69 ∧ k = 3 ∨ 25 = 69 ∧ k = 6 ∨ 25 = 29 ∧ k = 4 ∨ 25 = 36 ∧ k = 4 ∨ 25 = 43 ∧ k = 4 ∨ 25 = 50 ∧ k = 1 ∨ 25 = 69 ∧ k = 1 ∨ 25 = 4 ∧ k = 1) := fun k c => by omega
theorem x76_445 : ¬ (26 = 73 ∨ 26 = 76 ∨ 26 = 115 ∨ 26 = 120 ∨ 26 = 121 ∨ 26 = 122 ∨ 26 = 123) := by omega
theorem x76_446 : ∀ k : Nat, ¬ (26 = 71 ∧ k = 59 ∨ 26 = 71 ∧ k = 61 ∨ 26 = 71 ∧ k = 60 ∨ 26 = 71 ∧ k = 62 ∨ 26 = 71 ∧ k = 63 ∨ 26 = 71 ∧ k = 0 ∨ 26 = 71 ∧ k = 7) := fun k c => by omega
theorem x76_447 : ¬ (30 ≤ 26 ∧ 26 ≤ 35 ∨ 37 ≤ 26 ∧ 26 ≤ 42 ∨ 44 ≤ 26 ∧ 26 ≤ 49 ∨ 26 = 70 ∨ 26 = 51 ∨ 26 = 5) := by omega
theorem x76_448 : ∀ k : Nat, ¬ (26 = 69 ∧ k = 2 ∨ 26 = 69 ∧ k = 3 ∨ 26 = 69 ∧ k = 6 ∨ 26 = 29 ∧ k = 4 ∨ 26 = 36 ∧ k = 4 ∨ 26 = 43 ∧ k = 4 ∨ 26 = 50 ∧ k = 1 ∨ 26 = 69 ∧ k = 1 ∨ 26 = 4 ∧ k = 1) := fun k c => by omega
theorem x76_449 : ¬ (75 = 73 ∨ 75 = 76 ∨ 75 = 115 ∨ 75 = 120 ∨ 75 = 121 ∨ 75 = 122 ∨ 75 = 123) := by omega
theorem x76_450 : ∀ k : Nat, ¬ (75 = 71 ∧ k = 59 ∨ 75 = 71 ∧ k = 61 ∨ 75 = 71 ∧ k = 60 ∨ 75 = 71 ∧ k = 62 ∨ 75 = 71 ∧ k = 63 ∨ 75 = 71 ∧ k = 0 ∨ 75 = 71 ∧ k = 7) := fun k c => by omega
theorem x76_451 : ¬ (30 ≤ 75 ∧ 75 ≤ 35 ∨ 37 ≤ 75 ∧ 75 ≤ 42 ∨ 44 ≤ 75 ∧ 75 ≤ 49 ∨ 75 = 70 ∨ 75 = 51 ∨ 75 = 5) := by omega
theorem x76_452 : ∀ k : Nat, ¬ (75 = 69 ∧ k = 2 ∨ 75 = 69 ∧ k = 3 ∨ 75 = 69 ∧ k = 6 ∨ 75 = 29 ∧ k = 4 ∨ 75 = 36 ∧ k = 4 ∨ 75 = 43 ∧ k = 4 ∨ 75 = 50 ∧ k = 1 ∨ 75 = 69 ∧ k = 1 ∨ 75 = 4 ∧ k = 1) := fun k c => by omega
theorem x76_453 : ¬ (92 = 73 ∨ 92 = 76 ∨ 92 = 115 ∨ 92 = 120 ∨ 92 = 121 ∨ 92 = 122 ∨ 92 = 123) := by omega
theorem x76_454 : ∀ k : Nat, ¬ (92 = 71 ∧ k = 59 ∨ 92 = 71 ∧ k = 61 ∨ 92 = 71 ∧ k = 60 ∨ 92 = 71 ∧ k = 62 ∨ 92 = 71 ∧ k = 63 ∨ 92 = 71 ∧ k = 0 ∨ 92 = 71 ∧ k = 7) := fun k c => by omega
theorem x76_455 : ¬ (30 ≤ 92 ∧ 92 ≤ 35 ∨ 37 ≤ 92 ∧ 92 ≤ 42 ∨ 44 ≤ 92 ∧ 92 ≤ 49 ∨ 92 = 70 ∨ 92 = 51 ∨ 92 = 5) := by omega
theorem x76_456 : ∀ k : Nat, ¬ (92 = 69 ∧ k = 2 ∨ 92 = 69 ∧ k = 3 ∨ 92 = 69 ∧ k = 6 ∨ 92 = 29 ∧ k = 4 ∨ 92 = 36 ∧ k = 4 ∨ 92 = 43 ∧ k = 4 ∨ 92 = 50 ∧ k = 1 ∨ 92 = 69 ∧ k = 1 ∨ 92 = 4 ∧ k = 1) := fun k c => by omega
theorem x76_457 : ¬ (93 = 73 ∨ 93 = 76 ∨ 93 = 115 ∨ 93 = 120 ∨ 93 = 121 ∨ 93 = 122 ∨ 93 = 123) := by omega
theorem x76_458 : ∀ k : Nat, ¬ (93 = 71 ∧ k = 59 ∨ 93 = 71 ∧ k = 61 ∨ 93 = 71 ∧ k = 60 ∨ 93 = 71 ∧ k = 62 ∨ 93 = 71 ∧ k = 63 ∨ 93 = 71 ∧ k = 0 ∨ 93 = 71 ∧ k = 7) := fun k c => by omega
theorem x76_459 : ¬ (30 ≤ 93 ∧ 93 ≤ 35 ∨ 37 ≤ 93 ∧ 93 ≤ 42 ∨ 44 ≤ 93 ∧ 93 ≤ 49 ∨ 93 = 70 ∨ 93 = 51 ∨ 93 = 5) := by omega
theorem x76_460 : ∀ k : Nat, ¬ (93 = 69 ∧ k = 2 ∨ 93 = 69 ∧ k = 3 ∨ 93 = 69 ∧ k = 6 ∨ 93 = 29 ∧ k = 4 ∨ 93 = 36 ∧ k = 4 ∨ 93 = 43 ∧ k = 4 ∨ 93 = 50 ∧ k = 1 ∨ 93 = 69 ∧ k = 1 ∨ 93 = 4 ∧ k = 1) := fun k c => by omega
theorem x76_461 : ¬ (94 = 73 ∨ 94 = 76 ∨ 94 = 115 ∨ 94 = 120 ∨ 94 = 121 ∨ 94 = 122 ∨ 94 = 123) := by omega
theorem x76_462 : ∀ k : Nat, ¬ (94 = 71 ∧ k = 59 ∨ 94 = 71 ∧ k = 61 ∨ 94 = 71 ∧ k = 60 ∨ 94 = 71 ∧ k = 62 ∨ 94 = 71 ∧ k = 63 ∨ 94 = 71 ∧ k = 0 ∨ 94 = 71 ∧ k = 7) := fun k c => by omega
theorem x76_463 : ¬ (30 ≤ 94 ∧ 94 ≤ 35 ∨ 37 ≤ 94 ∧ 94 ≤ 42 ∨ 44 ≤ 94 ∧ 94 ≤ 49 ∨ 94 = 70 ∨ 94 = 51 ∨ 94 = 5) := by omega
theorem x76_464 : ∀ k : Nat, ¬ (94 = 69 ∧ k = 2 ∨ 94 = 69 ∧ k = 3 ∨ 94 = 69 ∧ k = 6 ∨ 94 = 29 ∧ k = 4 ∨ 94 = 36 ∧ k = 4 ∨ 94 = 43 ∧ k = 4 ∨ 94 = 50 ∧ k = 1 ∨ 94 = 69 ∧ k = 1 ∨ 94 = 4 ∧ k = 1) := fun k c => by omega
theorem x76_465 : ¬ (95 = 73 ∨ 95 = 76 ∨ 95 = 115 ∨ 95 = 120 ∨ 95 = 121 ∨ 95 = 122 ∨ 95 = 123) := by omega
theorem x76_466 : ∀ k : Nat, ¬ (95 = 71 ∧ k = 59 ∨ 95 = 71 ∧ k = 61 ∨ 95 = 71 ∧ k = 60 ∨ 95 = 71 ∧ k = 62 ∨ 95 = 71 ∧ k = 63 ∨ 95 = 71 ∧ k = 0 ∨ 95 = 71 ∧ k = 7) := fun k c => by omega
theorem x76_467 : ¬ (30 ≤ 95 ∧ 95 ≤ 35 ∨ 37 ≤ 95 ∧ 95 ≤ 42 ∨ 44 ≤ 95 ∧ 95 ≤ 49 ∨ 95 = 70 ∨ 95 = 51 ∨ 95 = 5) := by omega
theorem x76_468 : ∀ k : Nat, ¬ (95 = 69 ∧ k = 2 ∨ 95 = 69 ∧ k = 3 ∨ 95 = 69 ∧ k = 6 ∨ 95 = 29 ∧ k = 4 ∨ 95 = 36 ∧ k = 4 ∨ 95 = 43 ∧ k = 4 ∨ 95 = 50 ∧ k = 1 ∨ 95 = 69 ∧ k = 1 ∨ 95 = 4 ∧ k = 1) := fun k c => by omega
theorem x76_469 : ¬ (96 = 73 ∨ 96 = 76 ∨ 96 = 115 ∨ 96 = 120 ∨ 96 = 121 ∨ 96 = 122 ∨ 96 = 123) := by omega
theorem x76_470 : ∀ k : Nat, ¬ (96 = 71 ∧ k = 59 ∨ 96 = 71 ∧ k = 61 ∨ 96 = 71 ∧ k = 60 ∨ 96 = 71 ∧ k = 62 ∨ 96 = 71 ∧ k = 63 ∨ 96 = 71 ∧ k = 0 ∨ 96 = 71 ∧ k = 7) := fun k c => by omega
theorem x76_471 : ¬ (30 ≤ 96 ∧ 96 ≤ 35 ∨ 37 ≤ 96 ∧ 96 ≤ 42 ∨ 44 ≤ 96 ∧ 96 ≤ 49 ∨ 96 = 70 ∨ 96 = 51 ∨ 96 = 5) := by omega
theorem x76_472 : ∀ k : Nat, ¬ (96 = 69 ∧ k = 2 ∨ 96 = 69 ∧ k = 3 ∨ 96 = 69 ∧ k = 6 ∨ 96 = 29 ∧ k = 4 ∨ 96 = 36 ∧ k = 4 ∨ 96 = 43 ∧ k = 4 ∨ 96 = 50 ∧ k = 1 ∨ 96 = 69 ∧ k = 1 ∨ 96 = 4 ∧ k = 1) := fun k c => by omega
theorem x76_473 : ¬ (7 = 73 ∨ 7 = 76 ∨ 7 = 115 ∨ 7 = 120 ∨ 7 = 121 ∨ 7 = 122 ∨ 7 = 123) := by omega
theorem x76_474 : ∀ k : Nat, ¬ (7 = 71 ∧ k = 59 ∨ 7 = 71 ∧ k = 61 ∨ 7 = 71 ∧ k = 60 ∨ 7 = 71 ∧ k = 62 ∨ 7 = 71 ∧ k = 63 ∨ 7 = 71 ∧ k = 0 ∨ 7 = 71 ∧ k = 7) := fun k c => by omega
theorem x76_475 : ¬ (30 ≤ 7 ∧ 7 ≤ 35 ∨ 37 ≤ 7 ∧ 7 ≤ 42 ∨ 44 ≤ 7 ∧ 7 ≤ 49 ∨ 7 = 70 ∨ 7 = 51 ∨ 7 = 5) := by omega
theorem x76_476 : ∀ k : Nat, ¬ (7 = 69 ∧ k = 2 ∨ 7 = 69 ∧ k = 3 ∨ 7 = 69 ∧ k = 6 ∨ 7 = 29 ∧ k = 4 ∨ 7 = 36 ∧ k = 4 ∨ 7 = 43 ∧ k = 4 ∨ 7 = 50 ∧ k = 1 ∨ 7 = 69 ∧ k = 1 ∨ 7 = 4 ∧ k = 1) := fun k c => by omega
theorem x76_477 : ¬ (124 = 73 ∨ 124 = 76 ∨ 124 = 115 ∨ 124 = 120 ∨ 124 = 121 ∨ 124 = 122 ∨ 124 = 123) := by omega
theorem x76_478 : ∀ k : Nat, ¬ (124 = 71 ∧ k = 59 ∨ 124 = 71 ∧ k = 61 ∨ 124 = 71 ∧ k = 60 ∨ 124 = 71 ∧ k = 62 ∨ 124 = 71 ∧ k = 63 ∨ 124 = 71 ∧ k = 0 ∨ 124 = 71 ∧ k = 7) := fun k c => by omega
theorem x76_479 : ¬ (30 ≤ 124 ∧ 124 ≤ 35 ∨ 37 ≤ 124 ∧ 124 ≤ 42 ∨ 44 ≤ 124 ∧ 124 ≤ 49 ∨ 124 = 70 ∨ 124 = 51 ∨ 124 = 5) := by omega
theorem x76_480 : ∀ k : Nat, ¬ (124 = 69 ∧ k = 2 ∨ 124 = 69 ∧ k = 3 ∨ 124 = 69 ∧ k = 6 ∨ 124 = 29 ∧ k = 4 ∨ 124 = 36 ∧ k = 4 ∨ 124 = 43 ∧ k = 4 ∨ 124 = 50 ∧ k = 1 ∨ 124 = 69 ∧ k = 1 ∨ 124 = 4 ∧ k = 1) := fun k c => by omega
theorem x76_481 : ¬ (2 = 73 ∨ 2 = 76 ∨ 2 = 115 ∨ 2 = 120 ∨ 2 = 121 ∨ 2 = 122 ∨ 2 = 123) := by omega
theorem x76_482 : ¬ (2 = 71 ∧ 1 = 59 ∨ 2 = 71 ∧ 1 = 61 ∨ 2 = 71 ∧ 1 = 60 ∨ 2 = 71 ∧ 1 = 62 ∨ 2 = 71 ∧ 1 = 63 ∨ 2 = 71 ∧ 1 = 0 ∨ 2 = 71 ∧ 1 = 7) := by omega
theorem x76_483 : ¬ (30 ≤ 2 ∧ 2 ≤ 35 ∨ 37 ≤ 2 ∧ 2 ≤ 42 ∨ 44 ≤ 2 ∧ 2 ≤ 49 ∨ 2 = 70 ∨ 2 = 51 ∨ 2 = 5) := by omega
theorem x76_484 : ¬ (2 = 69 ∧ 1 = 2 ∨ 2 = 69 ∧ 1 = 3 ∨ 2 = 69 ∧ 1 = 6 ∨ 2 = 29 ∧ 1 = 4 ∨ 2 = 36 ∧ 1 = 4 ∨ 2 = 43 ∧ 1 = 4 ∨ 2 = 50 ∧ 1 = 1 ∨ 2 = 69 ∧ 1 = 1 ∨ 2 = 4 ∧ 1 = 1) := by omega
theorem x76_485 : ¬ (3 = 73 ∨ 3 = 76 ∨ 3 = 115 ∨ 3 = 120 ∨ 3 = 121 ∨ 3 = 122 ∨ 3 = 123) := by omega
theorem x76_486 : ∀ k : Nat, ¬ (3 = 71 ∧ k = 59 ∨ 3 = 71 ∧ k = 61 ∨ 3 = 71 ∧ k = 60 ∨ 3 = 71 ∧ k = 62 ∨ 3 = 71 ∧ k = 63 ∨ 3 = 71 ∧ k = 0 ∨ 3 = 71 ∧ k = 7) := fun k c => by omega
theorem x76_487 : ¬ (30 ≤ 3 ∧ 3 ≤ 35 ∨ 37 ≤ 3 ∧ 3 ≤ 42 ∨ 44 ≤ 3 ∧ 3 ≤ 49 ∨ 3 = 70 ∨ 3 = 51 ∨ 3 = 5) := by omega
theorem x76_488 : ∀ k : Nat, ¬ (3 = 69 ∧ k = 2 ∨ 3 = 69 ∧ k = 3 ∨ 3 = 69 ∧ k = 6 ∨ 3 = 29 ∧ k = 4 ∨ 3 = 36 ∧ k = 4 ∨ 3 = 43 ∧ k = 4 ∨ 3 = 50 ∧ k = 1 ∨ 3 = 69 ∧ k = 1 ∨ 3 = 4 ∧ k = 1) := fun k c => by omega
theorem x76_489 : ¬ (71 = 73 ∨ 71 = 76 ∨ 71 = 115 ∨ 71 = 120 ∨ 71 = 121 ∨ 71 = 122 ∨ 71 = 123) := by omega
theorem x76_490 : ¬ (71 = 71 ∧ 6 = 59 ∨ 71 = 71 ∧ 6 = 61 ∨ 71 = 71 ∧ 6 = 60 ∨ 71 = 71 ∧ 6 = 62 ∨ 71 = 71 ∧ 6 = 63 ∨ 71 = 71 ∧ 6 = 0 ∨ 71 = 71 ∧ 6 = 7) := by omega
theorem x76_491 : ¬ (72 = 73 ∨ 72 = 76 ∨ 72 = 115 ∨ 72 = 120 ∨ 72 = 121 ∨ 72 = 122 ∨ 72 = 123) := by omega
theorem x76_492 : ∀ k : Nat, ¬ (72 = 71 ∧ k = 59 ∨ 72 = 71 ∧ k = 61 ∨ 72 = 71 ∧ k = 60 ∨ 72 = 71 ∧ k = 62 ∨ 72 = 71 ∧ k = 63 ∨ 72 = 71 ∧ k = 0 ∨ 72 = 71 ∧ k = 7) := fun k c => by omega
theorem x76_493 : ¬ (4 = 73 ∨ 4 = 76 ∨ 4 = 115 ∨ 4 = 120 ∨ 4 = 121 ∨ 4 = 122 ∨ 4 = 123) := by omega
theorem x76_494 : ¬ (4 = 71 ∧ 1 = 59 ∨ 4 = 71 ∧ 1 = 61 ∨ 4 = 71 ∧ 1 = 60 ∨ 4 = 71 ∧ 1 = 62 ∨ 4 = 71 ∧ 1 = 63 ∨ 4 = 71 ∧ 1 = 0 ∨ 4 = 71 ∧ 1 = 7) := by omega
theorem x76_495 : ¬ (5 = 73 ∨ 5 = 76 ∨ 5 = 115 ∨ 5 = 120 ∨ 5 = 121 ∨ 5 = 122 ∨ 5 = 123) := by omega
theorem x76_496 : ∀ k : Nat, ¬ (5 = 71 ∧ k = 59 ∨ 5 = 71 ∧ k = 61 ∨ 5 = 71 ∧ k = 60 ∨ 5 = 71 ∧ k = 62 ∨ 5 = 71 ∧ k = 63 ∨ 5 = 71 ∧ k = 0 ∨ 5 = 71 ∧ k = 7) := fun k c => by omega
theorem x76_497 : ¬ (6 = 73 ∨ 6 = 76 ∨ 6 = 115 ∨ 6 = 120 ∨ 6 = 121 ∨ 6 = 122 ∨ 6 = 123) := by omega
theorem x76_498 : ∀ k : Nat, ¬ (6 = 71 ∧ k = 59 ∨ 6 = 71 ∧ k = 61 ∨ 6 = 71 ∧ k = 60 ∨ 6 = 71 ∧ k = 62 ∨ 6 = 71 ∧ k = 63 ∨ 6 = 71 ∧ k = 0 ∨ 6 = 71 ∧ k = 7) := fun k c => by omega
theorem x76_499 : ¬ (30 ≤ 6 ∧ 6 ≤ 35 ∨ 37 ≤ 6 ∧ 6 ≤ 42 ∨ 44 ≤ 6 ∧ 6 ≤ 49 ∨ 6 = 70 ∨ 6 = 51 ∨ 6 = 5) := by omega
theorem x76_500 : ∀ k : Nat, ¬ (6 = 69 ∧ k = 2 ∨ 6 = 69 ∧ k = 3 ∨ 6 = 69 ∧ k = 6 ∨ 6 = 29 ∧ k = 4 ∨ 6 = 36 ∧ k = 4 ∨ 6 = 43 ∧ k = 4 ∨ 6 = 50 ∧ k = 1 ∨ 6 = 69 ∧ k = 1 ∨ 6 = 4 ∧ k = 1) := fun k c => by omega
theorem x76_501 : ¬ (74 = 73 ∨ 74 = 76 ∨ 74 = 115 ∨ 74 = 120 ∨ 74 = 121 ∨ 74 = 122 ∨ 74 = 123) := by omega
theorem x76_502 : ∀ k : Nat, ¬ (74 = 71 ∧ k = 59 ∨ 74 = 71 ∧ k = 61 ∨ 74 = 71 ∧ k = 60 ∨ 74 = 71 ∧ k = 62 ∨ 74 = 71 ∧ k = 63 ∨ 74 = 71 ∧ k = 0 ∨ 74 = 71 ∧ k = 7) := fun k c => by omega
theorem x76_503 : ¬ (30 ≤ 74 ∧ 74 ≤ 35 ∨ 37 ≤ 74 ∧ 74 ≤ 42 ∨ 44 ≤ 74 ∧ 74 ≤ 49 ∨ 74 = 70 ∨ 74 = 51 ∨ 74 = 5) := by omega
theorem x76_504 : ∀ k : Nat, ¬ (74 = 69 ∧ k = 2 ∨ 74 = 69 ∧ k = 3 ∨ 74 = 69 ∧ k = 6 ∨ 74 = 29 ∧ k = 4 ∨ 74 = 36 ∧ k = 4 ∨ 74 = 43 ∧ k = 4 ∨ 74 = 50 ∧ k = 1 ∨ 74 = 69 ∧ k = 1 ∨ 74 = 4 ∧ k = 1) := fun k c => by omega
theorem x76_505 : ¬ (53 = 73 ∨ 53 = 76 ∨ 53 = 115 ∨ 53 = 120 ∨ 53 = 121 ∨ 53 = 122 ∨ 53 = 123) := by omega
theorem x76_506 : ¬ (53 = 71 ∧ 1 = 59 ∨ 53 = 71 ∧ 1 = 61 ∨ 53 = 71 ∧ 1 = 60 ∨ 53 = 71 ∧ 1 = 62 ∨ 53 = 71 ∧ 1 = 63 ∨ 53 = 71 ∧ 1 = 0 ∨ 53 = 71 ∧ 1 = 7) := by omega
theorem x76_507 : ¬ (30 ≤ 53 ∧ 53 ≤ 35 ∨ 37 ≤ 53 ∧ 53 ≤ 42 ∨ 44 ≤ 53 ∧ 53 ≤ 49 ∨ 53 = 70 ∨ 53 = 51 ∨ 53 = 5) := by omega
theorem x76_508 : ¬ (53 = 69 ∧ 1 = 2 ∨ 53 = 69 ∧ 1 = 3 ∨ 53 = 69 ∧ 1 = 6 ∨ 53 = 29 ∧ 1 = 4 ∨ 53 = 36 ∧ 1 = 4 ∨ 53 = 43 ∧ 1 = 4 ∨ 53 = 50 ∧ 1 = 1 ∨ 53 = 69 ∧ 1 = 1 ∨ 53 = 4 ∧ 1 = 1) := by omega
theorem x76_509 : ¬ (54 = 73 ∨ 54 = 76 ∨ 54 = 115 ∨ 54 = 120 ∨ 54 = 121 ∨ 54 = 122 ∨ 54 = 123) := by omega
theorem x76_510 : ∀ k : Nat, ¬ (54 = 71 ∧ k = 59 ∨ 54 = 71 ∧ k = 61 ∨ 54 = 71 ∧ k = 60 ∨ 54 = 71 ∧ k = 62 ∨ 54 = 71 ∧ k = 63 ∨ 54 = 71 ∧ k = 0 ∨ 54 = 71 ∧ k = 7) := fun k c => by omega
theorem x76_511 : ¬ (30 ≤ 54 ∧ 54 ≤ 35 ∨ 37 ≤ 54 ∧ 54 ≤ 42 ∨ 44 ≤ 54 ∧ 54 ≤ 49 ∨ 54 = 70 ∨ 54 = 51 ∨ 54 = 5) := by omega
theorem x76_512 : ∀ k : Nat, ¬ (54 = 69 ∧ k = 2 ∨ 54 = 69 ∧ k = 3 ∨ 54 = 69 ∧ k = 6 ∨ 54 = 29 ∧ k = 4 ∨ 54 = 36 ∧ k = 4 ∨ 54 = 43 ∧ k = 4 ∨ 54 = 50 ∧ k = 1 ∨ 54 = 69 ∧ k = 1 ∨ 54 = 4 ∧ k = 1) := fun k c => by omega
theorem x76_513 : ¬ (71 = 71 ∧ 14 = 59 ∨ 71 = 71 ∧ 14 = 61 ∨ 71 = 71 ∧ 14 = 60 ∨ 71 = 71 ∧ 14 = 62 ∨ 71 = 71 ∧ 14 = 63 ∨ 71 = 71 ∧ 14 = 0 ∨ 71 = 71 ∧ 14 = 7) := by omega
theorem x76_514 : ¬ (71 = 69 ∧ 14 = 2 ∨ 71 = 69 ∧ 14 = 3 ∨ 71 = 69 ∧ 14 = 6 ∨ 71 = 29 ∧ 14 = 4 ∨ 71 = 36 ∧ 14 = 4 ∨ 71 = 43 ∧ 14 = 4 ∨ 71 = 50 ∧ 14 = 1 ∨ 71 = 69 ∧ 14 = 1 ∨ 71 = 4 ∧ 14 = 1) := by omega
theorem x76_515 : ¬ (77 = 73 ∨ 77 = 76 ∨ 77 = 115 ∨ 77 = 120 ∨ 77 = 121 ∨ 77 = 122 ∨ 77 = 123) := by omega
theorem x76_516 : ∀ k : Nat, ¬ (77 = 71 ∧ k = 59 ∨ 77 = 71 ∧ k = 61 ∨ 77 = 71 ∧ k = 60 ∨ 77 = 71 ∧ k = 62 ∨ 77 = 71 ∧ k = 63 ∨ 77 = 71 ∧ k = 0 ∨ 77 = 71 ∧ k = 7) := fun k c => by omega
theorem x76_517 : ¬ (30 ≤ 77 ∧ 77 ≤ 35 ∨ 37 ≤ 77 ∧ 77 ≤ 42 ∨ 44 ≤ 77 ∧ 77 ≤ 49 ∨ 77 = 70 ∨ 77 = 51 ∨ 77 = 5) := by omega
theorem x76_518 : ∀ k : Nat, ¬ (77 = 69 ∧ k = 2 ∨ 77 = 69 ∧ k = 3 ∨ 77 = 69 ∧ k = 6 ∨ 77 = 29 ∧ k = 4 ∨ 77 = 36 ∧ k = 4 ∨ 77 = 43 ∧ k = 4 ∨ 77 = 50 ∧ k = 1 ∨ 77 = 69 ∧ k = 1 ∨ 77 = 4 ∧ k = 1) := fun k c => by omega
theorem x76_519 : ¬ (78 = 73 ∨ 78 = 76 ∨ 78 = 115 ∨ 78 = 120 ∨ 78 = 121 ∨ 78 = 122 ∨ 78 = 123) := by omega
theorem x76_520 : ∀ k : Nat, ¬ (78 = 71 ∧ k = 59 ∨ 78 = 71 ∧ k = 61 ∨ 78 = 71 ∧ k = 60 ∨ 78 = 71 ∧ k = 62 ∨ 78 = 71 ∧ k = 63 ∨ 78 = 71 ∧ k = 0 ∨ 78 = 71 ∧ k = 7) := fun k c => by omega
theorem x76_521 : ¬ (30 ≤ 78 ∧ 78 ≤ 35 ∨ 37 ≤ 78 ∧ 78 ≤ 42 ∨ 44 ≤ 78 ∧ 78 ≤ 49 ∨ 78 = 70 ∨ 78 = 51 ∨ 78 = 5) := by omega
theorem x76_522 : ∀ k : Nat, ¬ (78 = 69 ∧ k = 2 ∨ 78 = 69 ∧ k = 3 ∨ 78 = 69 ∧ k = 6 ∨ 78 = 29 ∧ k = 4 ∨ 78 = 36 ∧ k = 4 ∨ 78 = 43 ∧ k = 4 ∨ 78 = 50 ∧ k = 1 ∨ 78 = 69 ∧ k = 1 ∨ 78 = 4 ∧ k = 1) := fun k c => by omega
theorem x76_523 : ¬ (79 = 73 ∨ 79 = 76 ∨ 79 = 115 ∨ 79 = 120 ∨ 79 = 121 ∨ 79 = 122 ∨ 79 = 123) := by omega
theorem x76_524 : ∀ k : Nat, ¬ (79 = 71 ∧ k = 59 ∨ 79 = 71 ∧ k = 61 ∨ 79 = 71 ∧ k = 60 ∨ 79 = 71 ∧ k = 62 ∨ 79 = 71 ∧ k = 63 ∨ 79 = 71 ∧ k = 0 ∨ 79 = 71 ∧ k = 7) := fun k c => by omega
theorem x76_525 : ¬ (30 ≤ 79 ∧ 79 ≤ 35 ∨ 37 ≤ 79 ∧ 79 ≤ 42 ∨ 44 ≤ 79 ∧ 79 ≤ 49 ∨ 79 = 70 ∨ 79 = 51 ∨ 79 = 5) := by omega
theorem x76_526 : ∀ k : Nat, ¬ (79 = 69 ∧ k = 2 ∨ 79 = 69 ∧ k = 3 ∨ 79 = 69 ∧ k = 6 ∨ 79 = 29 ∧ k = 4 ∨ 79 = 36 ∧ k = 4 ∨ 79 = 43 ∧ k = 4 ∨ 79 = 50 ∧ k = 1 ∨ 79 = 69 ∧ k = 1 ∨ 79 = 4 ∧ k = 1) := fun k c => by omega
theorem x76_527 : ¬ (80 = 73 ∨ 80 = 76 ∨ 80 = 115 ∨ 80 = 120 ∨ 80 = 121 ∨ 80 = 122 ∨ 80 = 123) := by omega
theorem x76_528 : ∀ k : Nat, ¬ (80 = 71 ∧ k = 59 ∨ 80 = 71 ∧ k = 61 ∨ 80 = 71 ∧ k = 60 ∨ 80 = 71 ∧ k = 62 ∨ 80 = 71 ∧ k = 63 ∨ 80 = 71 ∧ k = 0 ∨ 80 = 71 ∧ k = 7) := fun k c => by omega
theorem x76_529 : ¬ (30 ≤ 80 ∧ 80 ≤ 35 ∨ 37 ≤ 80 ∧ 80 ≤ 42 ∨ 44 ≤ 80 ∧ 80 ≤ 49 ∨ 80 = 70 ∨ 80 = 51 ∨ 80 = 5) := by omega
theorem x76_530 : ∀ k : Nat, ¬ (80 = 69 ∧ k = 2 ∨ 80 = 69 ∧ k = 3 ∨ 80 = 69 ∧ k = 6 ∨ 80 = 29 ∧ k = 4 ∨ 80 = 36 ∧ k = 4 ∨ 80 = 43 ∧ k = 4 ∨ 80 = 50 ∧ k = 1 ∨ 80 = 69 ∧ k = 1 ∨ 80 = 4 ∧ k = 1) := fun k c => by omega
theorem x76_531 : ¬ (55 = 73 ∨ 55 = 76 ∨ 55 = 115 ∨ 55 = 120 ∨ 55 = 121 ∨ 55 = 122 ∨ 55 = 123) := by omega
theorem x76_532 : ¬ (55 = 71 ∧ 2 = 59 ∨ 55 = 71 ∧ 2 = 61 ∨ 55 = 71 ∧ 2 = 60 ∨ 55 = 71 ∧ 2 = 62 ∨ 55 = 71 ∧ 2 = 63 ∨ 55 = 71 ∧ 2 = 0 ∨ 55 = 71 ∧ 2 = 7) := by omega
theorem x76_533 : ¬ (30 ≤ 55 ∧ 55 ≤ 35 ∨ 37 ≤ 55 ∧ 55 ≤ 42 ∨ 44 ≤ 55 ∧ 55 ≤ 49 ∨ 55 = 70 ∨ 55 = 51 ∨ 55 = 5) := by omega
theorem x76_534 : ¬ (55 = 69 ∧ 2 = 2 ∨ 55 = 69 ∧ 2 = 3 ∨ 55 = 69 ∧ 2 = 6 ∨ 55 = 29 ∧ 2 = 4 ∨ 55 = 36 ∧ 2 = 4 ∨ 55 = 43 ∧ 2 = 4 ∨ 55 = 50 ∧ 2 = 1 ∨ 55 = 69 ∧ 2 = 1 ∨ 55 = 4 ∧ 2 = 1) := by omega
theorem x76_535 : ¬ (56 = 73 ∨ 56 = 76 ∨ 56 = 115 ∨ 56 = 120 ∨ 56 = 121 ∨ 56 = 122 ∨ 56 = 123) := by omega
theorem x76_536 : ∀ k : Nat, ¬ (56 = 71 ∧ k = 59 ∨ 56 = 71 ∧ k = 61 ∨ 56 = 71 ∧ k = 60 ∨ 56 = 71 ∧ k = 62 ∨ 56 = 71 ∧ k = 63 ∨ 56 = 71 ∧ k = 0 ∨ 56 = 71 ∧ k = 7) := fun k c => by omega
theorem x76_537 : ¬ (30 ≤ 56 ∧ 56 ≤ 35 ∨ 37 ≤ 56 ∧ 56 ≤ 42 ∨ 44 ≤ 56 ∧ 56 ≤ 49 ∨ 56 = 70 ∨ 56 = 51 ∨ 56 = 5) := by omega
theorem x76_538 : ∀ k : Nat, ¬ (56 = 69 ∧ k = 2 ∨ 56 = 69 ∧ k = 3 ∨ 56 = 69 ∧ k = 6 ∨ 56 = 29 ∧ k = 4 ∨ 56 = 36 ∧ k = 4 ∨ 56 = 43 ∧ k = 4 ∨ 56 = 50 ∧ k = 1 ∨ 56 = 69 ∧ k = 1 ∨ 56 = 4 ∧ k = 1) := fun k c => by omega
theorem x76_539 : ¬ (57 = 73 ∨ 57 = 76 ∨ 57 = 115 ∨ 57 = 120 ∨ 57 = 121 ∨ 57 = 122 ∨ 57 = 123) := by omega
theorem x76_540 : ∀ k : Nat, ¬ (57 = 71 ∧ k = 59 ∨ 57 = 71 ∧ k = 61 ∨ 57 = 71 ∧ k = 60 ∨ 57 = 71 ∧ k = 62 ∨ 57 = 71 ∧ k = 63 ∨ 57 = 71 ∧ k = 0 ∨ 57 = 71 ∧ k = 7) := fun k c => by omega
theorem x76_541 : ¬ (30 ≤ 57 ∧ 57 ≤ 35 ∨ 37 ≤ 57 ∧ 57 ≤ 42 ∨ 44 ≤ 57 ∧ 57 ≤ 49 ∨ 57 = 70 ∨ 57 = 51 ∨ 57 = 5) := by omega
theorem x76_542 : ∀ k : Nat, ¬ (57 = 69 ∧ k = 2 ∨ 57 = 69 ∧ k = 3 ∨ 57 = 69 ∧ k = 6 ∨ 57 = 29 ∧ k = 4 ∨ 57 = 36 ∧ k = 4 ∨ 57 = 43 ∧ k = 4 ∨ 57 = 50 ∧ k = 1 ∨ 57 = 69 ∧ k = 1 ∨ 57 = 4 ∧ k = 1) := fun k c => by omega
theorem x76_543 : ¬ (71 = 71 ∧ 15 = 59 ∨ 71 = 71 ∧ 15 = 61 ∨ 71 = 71 ∧ 15 = 60 ∨ 71 = 71 ∧ 15 = 62 ∨ 71 = 71 ∧ 15 = 63 ∨ 71 = 71 ∧ 15 = 0 ∨ 71 = 71 ∧ 15 = 7) := by omega
theorem x76_544 : ¬ (71 = 69 ∧ 15 = 2 ∨ 71 = 69 ∧ 15 = 3 ∨ 71 = 69 ∧ 15 = 6 ∨ 71 = 29 ∧ 15 = 4 ∨ 71 = 36 ∧ 15 = 4 ∨ 71 = 43 ∧ 15 = 4 ∨ 71 = 50 ∧ 15 = 1 ∨ 71 = 69 ∧ 15 = 1 ∨ 71 = 4 ∧ 15 = 1) := by omega
theorem x76_545 : ¬ (83 = 73 ∨ 83 = 76 ∨ 83 = 115 ∨ 83 = 120 ∨ 83 = 121 ∨ 83 = 122 ∨ 83 = 123) := by omega
theorem x76_546 : ∀ k : Nat, ¬ (83 = 71 ∧ k = 59 ∨ 83 = 71 ∧ k = 61 ∨ 83 = 71 ∧ k = 60 ∨ 83 = 71 ∧ k = 62 ∨ 83 = 71 ∧ k = 63 ∨ 83 = 71 ∧ k = 0 ∨ 83 = 71 ∧ k = 7) := fun k c => by omega
theorem x76_547 : ¬ (30 ≤ 83 ∧ 83 ≤ 35 ∨ 37 ≤ 83 ∧ 83 ≤ 42 ∨ 44 ≤ 83 ∧ 83 ≤ 49 ∨ 83 = 70 ∨ 83 = 51 ∨ 83 = 5) := by omega
theorem x76_548 : ∀ k : Nat, ¬ (83 = 69 ∧ k = 2 ∨ 83 = 69 ∧ k = 3 ∨ 83 = 69 ∧ k = 6 ∨ 83 = 29 ∧ k = 4 ∨ 83 = 36 ∧ k = 4 ∨ 83 = 43 ∧ k = 4 ∨ 83 = 50 ∧ k = 1 ∨ 83 = 69 ∧ k = 1 ∨ 83 = 4 ∧ k = 1) := fun k c => by omega
theorem x76_549 : ¬ (84 = 73 ∨ 84 = 76 ∨ 84 = 115 ∨ 84 = 120 ∨ 84 = 121 ∨ 84 = 122 ∨ 84 = 123) := by omega
theorem x76_550 : ∀ k : Nat, ¬ (84 = 71 ∧ k = 59 ∨ 84 = 71 ∧ k = 61 ∨ 84 = 71 ∧ k = 60 ∨ 84 = 71 ∧ k = 62 ∨ 84 = 71 ∧ k = 63 ∨ 84 = 71 ∧ k = 0 ∨ 84 = 71 ∧ k = 7) := fun k c => by omega
theorem x76_551 : ¬ (30 ≤ 84 ∧ 84 ≤ 35 ∨ 37 ≤ 84 ∧ 84 ≤ 42 ∨ 44 ≤ 84 ∧ 84 ≤ 49 ∨ 84 = 70 ∨ 84 = 51 ∨ 84 = 5) := by omega
theorem x76_552 : ∀ k : Nat, ¬ (84 = 69 ∧ k = 2 ∨ 84 = 69 ∧ k = 3 ∨ 84 = 69 ∧ k = 6 ∨ 84 = 29 ∧ k = 4 ∨ 84 = 36 ∧ k = 4 ∨ 84 = 43 ∧ k = 4 ∨ 84 = 50 ∧ k = 1 ∨ 84 = 69 ∧ k = 1 ∨ 84 = 4 ∧ k = 1) := fun k c => by omega
theorem x76_553 : ¬ (85 = 73 ∨ 85 = 76 ∨ 85 = 115 ∨ 85 = 120 ∨ 85 = 121 ∨ 85 = 122 ∨ 85 = 123) := by omega
theorem x76_554 : ∀ k : Nat, ¬ (85 = 71 ∧ k = 59 ∨ 85 = 71 ∧ k = 61 ∨ 85 = 71 ∧ k = 60 ∨ 85 = 71 ∧ k = 62 ∨ 85 = 71 ∧ k = 63 ∨ 85 = 71 ∧ k = 0 ∨ 85 = 71 ∧ k = 7) := fun k c => by omega
theorem x76_555 : ¬ (30 ≤ 85 ∧ 85 ≤ 35 ∨ 37 ≤ 85 ∧ 85 ≤ 42 ∨ 44 ≤ 85 ∧ 85 ≤ 49 ∨ 85 = 70 ∨ 85 = 51 ∨ 85 = 5) := by omega
theorem x76_556 : ∀ k : Nat, ¬ (85 = 69 ∧ k = 2 ∨ 85 = 69 ∧ k = 3 ∨ 85 = 69 ∧ k = 6 ∨ 85 = 29 ∧ k = 4 ∨ 85 = 36 ∧ k = 4 ∨ 85 = 43 ∧ k = 4 ∨ 85 = 50 ∧ k = 1 ∨ 85 = 69 ∧ k = 1 ∨ 85 = 4 ∧ k = 1) := fun k c => by omega
theorem x76_557 : ¬ (86 = 73 ∨ 86 = 76 ∨ 86 = 115 ∨ 86 = 120 ∨ 86 = 121 ∨ 86 = 122 ∨ 86 = 123) := by omega
theorem x76_558 : ∀ k : Nat, ¬ (86 = 71 ∧ k = 59 ∨ 86 = 71 ∧ k = 61 ∨ 86 = 71 ∧ k = 60 ∨ 86 = 71 ∧ k = 62 ∨ 86 = 71 ∧ k = 63 ∨ 86 = 71 ∧ k = 0 ∨ 86 = 71 ∧ k = 7) := fun k c => by omega
theorem x76_559 : ¬ (30 ≤ 86 ∧ 86 ≤ 35 ∨ 37 ≤ 86 ∧ 86 ≤ 42 ∨ 44 ≤ 86 ∧ 86 ≤ 49 ∨ 86 = 70 ∨ 86 = 51 ∨ 86 = 5) := by omega
theorem x76_560 : ∀ k : Nat, ¬ (86 = 69 ∧ k = 2 ∨ 86 = 69 ∧ k = 3 ∨ 86 = 69 ∧ k = 6 ∨ 86 = 29 ∧ k = 4 ∨ 86 = 36 ∧ k = 4 ∨ 86 = 43 ∧ k = 4 ∨ 86 = 50 ∧ k = 1 ∨ 86 = 69 ∧ k = 1 ∨ 86 = 4 ∧ k = 1) := fun k c => by omega
theorem x76_561 : ¬ (87 = 73 ∨ 87 = 76 ∨ 87 = 115 ∨ 87 = 120 ∨ 87 = 121 ∨ 87 = 122 ∨ 87 = 123) := by omega
theorem x76_562 : ∀ k : Nat, ¬ (87 = 71 ∧ k = 59 ∨ 87 = 71 ∧ k = 61 ∨ 87 = 71 ∧ k = 60 ∨ 87 = 71 ∧ k = 62 ∨ 87 = 71 ∧ k = 63 ∨ 87 = 71 ∧ k = 0 ∨ 87 = 71 ∧ k = 7) := fun k c => by omega
theorem x76_563 : ¬ (30 ≤ 87 ∧ 87 ≤ 35 ∨ 37 ≤ 87 ∧ 87 ≤ 42 ∨ 44 ≤ 87 ∧ 87 ≤ 49 ∨ 87 = 70 ∨ 87 = 51 ∨ 87 = 5) := by omega
theorem x76_564 : ∀ k : Nat, ¬ (87 = 69 ∧ k = 2 ∨ 87 = 69 ∧ k = 3 ∨ 87 = 69 ∧ k = 6 ∨ 87 = 29 ∧ k = 4 ∨ 87 = 36 ∧ k = 4 ∨ 87 = 43 ∧ k = 4 ∨ 87 = 50 ∧ k = 1 ∨ 87 = 69 ∧ k = 1 ∨ 87 = 4 ∧ k = 1) := fun k c => by omega
theorem x76_565 : ¬ (88 = 73 ∨ 88 = 76 ∨ 88 = 115 ∨ 88 = 120 ∨ 88 = 121 ∨ 88 = 122 ∨ 88 = 123) := by omega
theorem x76_566 : ∀ k : Nat, ¬ (88 = 71 ∧ k = 59 ∨ 88 = 71 ∧ k = 61 ∨ 88 = 71 ∧ k = 60 ∨ 88 = 71 ∧ k = 62 ∨ 88 = 71 ∧ k = 63 ∨ 88 = 71 ∧ k = 0 ∨ 88 = 71 ∧ k = 7) := fun k c => by omega
theorem x76_567 : ¬ (30 ≤ 88 ∧ 88 ≤ 35 ∨ 37 ≤ 88 ∧ 88 ≤ 42 ∨ 44 ≤ 88 ∧ 88 ≤ 49 ∨ 88 = 70 ∨ 88 = 51 ∨ 88 = 5) := by omega
theorem x76_568 : ∀ k : Nat, ¬ (88 = 69 ∧ k = 2 ∨ 88 = 69 ∧ k = 3 ∨ 88 = 69 ∧ k = 6 ∨ 88 = 29 ∧ k = 4 ∨ 88 = 36 ∧ k = 4 ∨ 88 = 43 ∧ k = 4 ∨ 88 = 50 ∧ k = 1 ∨ 88 = 69 ∧ k = 1 ∨ 88 = 4 ∧ k = 1) := fun k c => by omega
theorem x76_569 : ¬ (89 = 73 ∨ 89 = 76 ∨ 89 = 115 ∨ 89 = 120 ∨ 89 = 121 ∨ 89 = 122 ∨ 89 = 123) := by omega
theorem x76_570 : ∀ k : Nat, ¬ (89 = 71 ∧ k = 59 ∨ 89 = 71 ∧ k = 61 ∨ 89 = 71 ∧ k = 60 ∨ 89 = 71 ∧ k = 62 ∨ 89 = 71 ∧ k = 63 ∨ 89 = 71 ∧ k = 0 ∨ 89 = 71 ∧ k = 7) := fun k c => by omega
theorem x76_571 : ¬ (30 ≤ 89 ∧ 89 ≤ 35 ∨ 37 ≤ 89 ∧ 89 ≤ 42 ∨ 44 ≤ 89 ∧ 89 ≤ 49 ∨ 89 = 70 ∨ 89 = 51 ∨ 89 = 5) := by omega
theorem x76_572 : ∀ k : Nat, ¬ (89 = 69 ∧ k = 2 ∨ 89 = 69 ∧ k = 3 ∨ 89 = 69 ∧ k = 6 ∨ 89 = 29 ∧ k = 4 ∨ 89 = 36 ∧ k = 4 ∨ 89 = 43 ∧ k = 4 ∨ 89 = 50 ∧ k = 1 ∨ 89 = 69 ∧ k = 1 ∨ 89 = 4 ∧ k = 1) := fun k c => by omega
theorem x76_573 : ¬ (90 = 73 ∨ 90 = 76 ∨ 90 = 115 ∨ 90 = 120 ∨ 90 = 121 ∨ 90 = 122 ∨ 90 = 123) := by omega
theorem x76_574 : ∀ k : Nat, ¬ (90 = 71 ∧ k = 59 ∨ 90 = 71 ∧ k = 61 ∨ 90 = 71 ∧ k = 60 ∨ 90 = 71 ∧ k = 62 ∨ 90 = 71 ∧ k = 63 ∨ 90 = 71 ∧ k = 0 ∨ 90 = 71 ∧ k = 7) := fun k c => by omega
theorem x76_575 : ¬ (30 ≤ 90 ∧ 90 ≤ 35 ∨ 37 ≤ 90 ∧ 90 ≤ 42 ∨ 44 ≤ 90 ∧ 90 ≤ 49 ∨ 90 = 70 ∨ 90 = 51 ∨ 90 = 5) := by omega
theorem x76_576 : ∀ k : Nat, ¬ (90 = 69 ∧ k = 2 ∨ 90 = 69 ∧ k = 3 ∨ 90 = 69 ∧ k = 6 ∨ 90 = 29 ∧ k = 4 ∨ 90 = 36 ∧ k = 4 ∨ 90 = 43 ∧ k = 4 ∨ 90 = 50 ∧ k = 1 ∨ 90 = 69 ∧ k = 1 ∨ 90 = 4 ∧ k = 1) := fun k c => by omega
theorem x76_577 : ¬ (91 = 73 ∨ 91 = 76 ∨ 91 = 115 ∨ 91 = 120 ∨ 91 = 121 ∨ 91 = 122 ∨ 91 = 123) := by omega
theorem x76_578 : ∀ k : Nat, ¬ (91 = 71 ∧ k = 59 ∨ 91 = 71 ∧ k = 61 ∨ 91 = 71 ∧ k = 60 ∨ 91 = 71 ∧ k = 62 ∨ 91 = 71 ∧ k = 63 ∨ 91 = 71 ∧ k = 0 ∨ 91 = 71 ∧ k = 7) := fun k c => by omega
theorem x76_579 : ¬ (30 ≤ 91 ∧ 91 ≤ 35 ∨ 37 ≤ 91 ∧ 91 ≤ 42 ∨ 44 ≤ 91 ∧ 91 ≤ 49 ∨ 91 = 70 ∨ 91 = 51 ∨ 91 = 5) := by omega
theorem x76_580 : ∀ k : Nat, ¬ (91 = 69 ∧ k = 2 ∨ 91 = 69 ∧ k = 3 ∨ 91 = 69 ∧ k = 6 ∨ 91 = 29 ∧ k = 4 ∨ 91 = 36 ∧ k = 4 ∨ 91 = 43 ∧ k = 4 ∨ 91 = 50 ∧ k = 1 ∨ 91 = 69 ∧ k = 1 ∨ 91 = 4 ∧ k = 1) := fun k c => by omega
theorem st_unpack {h h1 h2 : ez_H} {z : Int32} (R : RR h) (V1 : zV (fun q k => q = 69 ∧ k = 2 ∨ q = 69 ∧ k = 3 ∨ q = 69 ∧ k = 6 ∨ q = 29 ∧ k = 4 ∨ q = 36 ∧ k = 4 ∨ q = 43 ∧ k = 4 ∨ q = 50 ∧ k = 1 ∨ q = 69 ∧ k = 1 ∨ q = 4 ∧ k = 1) (fun q => 30 ≤ q ∧ q ≤ 35 ∨ 37 ≤ q ∧ q ≤ 42 ∨ 44 ≤ q ∧ q ≤ 49 ∨ q = 70 ∨ q = 51 ∨ q = 5) h h1) (k1 : ((unL (tI (ez_I h 3)) (ez_I h 2 1).toInt.toNat (8 * (ez_I h 2 1).toInt.toNat) 0 (fun _ => 0) 0) = none ∧ ez_I h1 4 1 = ez_I h 4 1 ∧ ez_I h1 5 = ez_I h 5) ∨ ∃ (o2 : Nat → Int) (m2 : Nat), (unL (tI (ez_I h 3)) (ez_I h 2 1).toInt.toNat (8 * (ez_I h 2 1).toInt.toNat) 0 (fun _ => 0) 0) = some (o2, m2) ∧ (ez_I h1 4 1).toInt = (m2 : Nat) ∧ m2 ≤ 6000 ∧ oR (ez_I h1 5) o2 m2) (V2 : zV (fun q k => q = 71 ∧ k = 59 ∨ q = 71 ∧ k = 61 ∨ q = 71 ∧ k = 60 ∨ q = 71 ∧ k = 62 ∨ q = 71 ∧ k = 63 ∨ q = 71 ∧ k = 0 ∨ q = 71 ∧ k = 7) (fun q => q = 73 ∨ q = 76 ∨ q = 115 ∨ q = 120 ∨ q = 121 ∨ q = 122 ∨ q = 123) h1 h2) (k2 : (∃ (o2 : Nat → Int) (m2 : Nat), (unL (tB (ez_I h1 72)) (ez_I h1 71 6).toInt.toNat (8 * (ez_I h1 71 6).toInt.toNat) 0 (fun _ => 0) 0) = some (o2, m2) ∧ (ez_I h2 71 0).toInt = 0 ∧ z.toInt = (m2 : Nat) ∧ (ez_I h2 71 7).toInt = (m2 : Nat) ∧ m2 ≤ 6000 ∧ oM (ez_I h2 73) o2 m2) ∨ ((unL (tB (ez_I h1 72)) (ez_I h1 71 6).toInt.toNat (8 * (ez_I h1 71 6).toInt.toNat) 0 (fun _ => 0) 0) = none ∧ (ez_I h2 71 0).toInt = 1 ∧ (ez_I h2 71 7).toInt = (ez_I h1 71 7).toInt ∧ ez_I h2 73 = ez_I h1 73)) : RR h2 := by
  rw [(show ez_I h1 71 6 = ez_I h 71 6 from zV_f V1 71 6 x76_402 x76_403), (show ez_I h1 72 = ez_I h 72 from zV_fn V1 72 x76_404 x76_405), (show ez_I h1 71 7 = ez_I h 71 7 from zV_f V1 71 7 x76_402 x76_406), (show ez_I h1 73 = ez_I h 73 from zV_fn V1 73 x76_407 x76_408)] at k2
  rw [un_eq R.2.2.2.2.1] at k1
  have Z := rO_un R.2.2.2.2.2.1 k1 k2
  exact ⟨V2.1, (by rw [(show ez_I h2 15 4 = ez_I h1 15 4 from zV_f V2 15 4 x76_409 x76_410), (show ez_I h1 15 4 = ez_I h 15 4 from zV_f V1 15 4 x76_411 x76_412), (show ez_I h2 16 = ez_I h1 16 from zV_fn V2 16 x76_413 x76_414), (show ez_I h1 16 = ez_I h 16 from zV_fn V1 16 x76_415 x76_416), (show ez_I h2 17 = ez_I h1 17 from zV_fn V2 17 x76_417 x76_418), (show ez_I h1 17 = ez_I h 17 from zV_fn V1 17 x76_419 x76_420), (show ez_I h2 18 = ez_I h1 18 from zV_fn V2 18 x76_421 x76_422), (show ez_I h1 18 = ez_I h 18 from zV_fn V1 18 x76_423 x76_424), (show ez_I h2 19 = ez_I h1 19 from zV_fn V2 19 x76_425 x76_426), (show ez_I h1 19 = ez_I h 19 from zV_fn V1 19 x76_427 x76_428), (show ez_I h2 22 4 = ez_I h1 22 4 from zV_f V2 22 4 x76_429 x76_430), (show ez_I h1 22 4 = ez_I h 22 4 from zV_f V1 22 4 x76_431 x76_432), (show ez_I h2 23 = ez_I h1 23 from zV_fn V2 23 x76_433 x76_434), (show ez_I h1 23 = ez_I h 23 from zV_fn V1 23 x76_435 x76_436), (show ez_I h2 24 = ez_I h1 24 from zV_fn V2 24 x76_437 x76_438), (show ez_I h1 24 = ez_I h 24 from zV_fn V1 24 x76_439 x76_440), (show ez_I h2 25 = ez_I h1 25 from zV_fn V2 25 x76_441 x76_442), (show ez_I h1 25 = ez_I h 25 from zV_fn V1 25 x76_443 x76_444), (show ez_I h2 26 = ez_I h1 26 from zV_fn V2 26 x76_445 x76_446), (show ez_I h1 26 = ez_I h 26 from zV_fn V1 26 x76_447 x76_448)]; exact R.2.1), (by rw [(show ez_I h2 75 = ez_I h1 75 from zV_fn V2 75 x76_449 x76_450), (show ez_I h1 75 = ez_I h 75 from zV_fn V1 75 x76_451 x76_452), (show ez_I h2 92 = ez_I h1 92 from zV_fn V2 92 x76_453 x76_454), (show ez_I h1 92 = ez_I h 92 from zV_fn V1 92 x76_455 x76_456), (show ez_I h2 93 = ez_I h1 93 from zV_fn V2 93 x76_457 x76_458), (show ez_I h1 93 = ez_I h 93 from zV_fn V1 93 x76_459 x76_460), (show ez_I h2 94 = ez_I h1 94 from zV_fn V2 94 x76_461 x76_462), (show ez_I h1 94 = ez_I h 94 from zV_fn V1 94 x76_463 x76_464), (show ez_I h2 95 = ez_I h1 95 from zV_fn V2 95 x76_465 x76_466), (show ez_I h1 95 = ez_I h 95 from zV_fn V1 95 x76_467 x76_468), (show ez_I h2 96 = ez_I h1 96 from zV_fn V2 96 x76_469 x76_470), (show ez_I h1 96 = ez_I h 96 from zV_fn V1 96 x76_471 x76_472)]; exact R.2.2.1), (by rw [(show ez_I h2 7 = ez_I h1 7 from zV_fn V2 7 x76_473 x76_474), (show ez_I h1 7 = ez_I h 7 from zV_fn V1 7 x76_475 x76_476), (show ez_I h2 124 = ez_I h1 124 from zV_fn V2 124 x76_477 x76_478), (show ez_I h1 124 = ez_I h 124 from zV_fn V1 124 x76_479 x76_480)]; exact R.2.2.2.1), (by rw [(show ez_I h2 2 1 = ez_I h1 2 1 from zV_f V2 2 1 x76_481 x76_482), (show ez_I h1 2 1 = ez_I h 2 1 from zV_f V1 2 1 x76_483 x76_484), (show ez_I h2 3 = ez_I h1 3 from zV_fn V2 3 x76_485 x76_486), (show ez_I h1 3 = ez_I h 3 from zV_fn V1 3 x76_487 x76_488), (show ez_I h2 71 6 = ez_I h1 71 6 from zV_f V2 71 6 x76_489 x76_490), (show ez_I h1 71 6 = ez_I h 71 6 from zV_f V1 71 6 x76_402 x76_403), (show ez_I h2 72 = ez_I h1 72 from zV_fn V2 72 x76_491 x76_492), (show ez_I h1 72 = ez_I h 72 from zV_fn V1 72 x76_404 x76_405)]; exact R.2.2.2.2.1), (by rw [(show ez_I h2 4 1 = ez_I h1 4 1 from zV_f V2 4 1 x76_493 x76_494), (show ez_I h2 5 = ez_I h1 5 from zV_fn V2 5 x76_495 x76_496)]; exact Z), (by rw [(show ez_I h2 6 = ez_I h1 6 from zV_fn V2 6 x76_497 x76_498), (show ez_I h1 6 = ez_I h 6 from zV_fn V1 6 x76_499 x76_500), (show ez_I h2 74 = ez_I h1 74 from zV_fn V2 74 x76_501 x76_502), (show ez_I h1 74 = ez_I h 74 from zV_fn V1 74 x76_503 x76_504)]; exact R.2.2.2.2.2.2.1), (by rw [(show ez_I h2 53 1 = ez_I h1 53 1 from zV_f V2 53 1 x76_505 x76_506), (show ez_I h1 53 1 = ez_I h 53 1 from zV_f V1 53 1 x76_507 x76_508), (show ez_I h2 54 = ez_I h1 54 from zV_fn V2 54 x76_509 x76_510), (show ez_I h1 54 = ez_I h 54 from zV_fn V1 54 x76_511 x76_512), (show ez_I h2 71 14 = ez_I h1 71 14 from zV_f V2 71 14 x76_489 x76_513), (show ez_I h1 71 14 = ez_I h 71 14 from zV_f V1 71 14 x76_402 x76_514), (show ez_I h2 77 = ez_I h1 77 from zV_fn V2 77 x76_515 x76_516), (show ez_I h1 77 = ez_I h 77 from zV_fn V1 77 x76_517 x76_518), (show ez_I h2 78 = ez_I h1 78 from zV_fn V2 78 x76_519 x76_520), (show ez_I h1 78 = ez_I h 78 from zV_fn V1 78 x76_521 x76_522), (show ez_I h2 79 = ez_I h1 79 from zV_fn V2 79 x76_523 x76_524), (show ez_I h1 79 = ez_I h 79 from zV_fn V1 79 x76_525 x76_526), (show ez_I h2 80 = ez_I h1 80 from zV_fn V2 80 x76_527 x76_528), (show ez_I h1 80 = ez_I h 80 from zV_fn V1 80 x76_529 x76_530)]; exact R.2.2.2.2.2.2.2.1), (by rw [(show ez_I h2 55 2 = ez_I h1 55 2 from zV_f V2 55 2 x76_531 x76_532), (show ez_I h1 55 2 = ez_I h 55 2 from zV_f V1 55 2 x76_533 x76_534), (show ez_I h2 56 = ez_I h1 56 from zV_fn V2 56 x76_535 x76_536), (show ez_I h1 56 = ez_I h 56 from zV_fn V1 56 x76_537 x76_538), (show ez_I h2 57 = ez_I h1 57 from zV_fn V2 57 x76_539 x76_540), (show ez_I h1 57 = ez_I h 57 from zV_fn V1 57 x76_541 x76_542), (show ez_I h2 71 15 = ez_I h1 71 15 from zV_f V2 71 15 x76_489 x76_543), (show ez_I h1 71 15 = ez_I h 71 15 from zV_f V1 71 15 x76_402 x76_544), (show ez_I h2 83 = ez_I h1 83 from zV_fn V2 83 x76_545 x76_546), (show ez_I h1 83 = ez_I h 83 from zV_fn V1 83 x76_547 x76_548), (show ez_I h2 84 = ez_I h1 84 from zV_fn V2 84 x76_549 x76_550), (show ez_I h1 84 = ez_I h 84 from zV_fn V1 84 x76_551 x76_552), (show ez_I h2 85 = ez_I h1 85 from zV_fn V2 85 x76_553 x76_554), (show ez_I h1 85 = ez_I h 85 from zV_fn V1 85 x76_555 x76_556), (show ez_I h2 86 = ez_I h1 86 from zV_fn V2 86 x76_557 x76_558), (show ez_I h1 86 = ez_I h 86 from zV_fn V1 86 x76_559 x76_560), (show ez_I h2 87 = ez_I h1 87 from zV_fn V2 87 x76_561 x76_562), (show ez_I h1 87 = ez_I h 87 from zV_fn V1 87 x76_563 x76_564), (show ez_I h2 88 = ez_I h1 88 from zV_fn V2 88 x76_565 x76_566), (show ez_I h1 88 = ez_I h 88 from zV_fn V1 88 x76_567 x76_568), (show ez_I h2 89 = ez_I h1 89 from zV_fn V2 89 x76_569 x76_570), (show ez_I h1 89 = ez_I h 89 from zV_fn V1 89 x76_571 x76_572), (show ez_I h2 90 = ez_I h1 90 from zV_fn V2 90 x76_573 x76_574), (show ez_I h1 90 = ez_I h 90 from zV_fn V1 90 x76_575 x76_576), (show ez_I h2 91 = ez_I h1 91 from zV_fn V2 91 x76_577 x76_578), (show ez_I h1 91 = ez_I h 91 from zV_fn V1 91 x76_579 x76_580)]; exact R.2.2.2.2.2.2.2.2)⟩
theorem x76_581 : ¬ (15 = 73 ∨ 15 = 75 ∨ 77 ≤ 15 ∧ 15 ≤ 82 ∨ 83 ≤ 15 ∧ 15 ≤ 91 ∨ 97 ≤ 15 ∧ 15 ≤ 119) := by omega
theorem x76_582 : ¬ (15 = 71 ∧ 4 = 0 ∨ 15 = 71 ∧ 4 = 7 ∨ 15 = 71 ∧ 4 = 14 ∨ 15 = 71 ∧ 4 = 17 ∨ 15 = 71 ∧ 4 = 18 ∨ 15 = 71 ∧ 4 = 15 ∨ 15 = 71 ∧ 4 = 16 ∨ 15 = 71 ∧ 4 = 56 ∨ 15 = 71 ∧ 4 = 57 ∨ 15 = 71 ∧ 4 = 58) := by omega
theorem x76_583 : ¬ (15 = 54 ∨ 15 = 59 ∨ 15 = 60 ∨ 15 = 51 ∨ 15 = 66 ∨ 15 = 67 ∨ 15 = 10 ∨ 15 = 13 ∨ 30 ≤ 15 ∧ 15 ≤ 35 ∨ 37 ≤ 15 ∧ 15 ≤ 42 ∨ 44 ≤ 15 ∧ 15 ≤ 49 ∨ 15 = 56 ∨ 15 = 57 ∨ 62 ≤ 15 ∧ 15 ≤ 65 ∨ 15 = 5) := by omega
theorem x76_584 : ¬ (15 = 53 ∧ 4 = 1 ∨ 15 = 58 ∧ 4 = 2 ∨ 15 = 68 ∧ 4 = 1 ∨ 15 = 68 ∧ 4 = 2 ∨ 15 = 50 ∧ 4 = 1 ∨ 15 = 55 ∧ 4 = 2 ∨ 15 = 52 ∧ 4 = 10 ∨ 15 = 52 ∧ 4 = 11 ∨ 15 = 61 ∧ 4 = 1 ∨ 15 = 61 ∧ 4 = 2 ∨ 15 = 61 ∧ 4 = 5 ∨ 15 = 61 ∧ 4 = 7 ∨ 15 = 43 ∧ 4 = 4 ∨ 15 = 29 ∧ 4 = 4 ∨ 15 = 36 ∧ 4 = 4 ∨ 15 = 4 ∧ 4 = 1) := by omega
theorem x76_585 : ¬ (16 = 73 ∨ 16 = 75 ∨ 77 ≤ 16 ∧ 16 ≤ 82 ∨ 83 ≤ 16 ∧ 16 ≤ 91 ∨ 97 ≤ 16 ∧ 16 ≤ 119) := by omega
theorem x76_586 : ∀ k : Nat, ¬ (16 = 71 ∧ k = 0 ∨ 16 = 71 ∧ k = 7 ∨ 16 = 71 ∧ k = 14 ∨ 16 = 71 ∧ k = 17 ∨ 16 = 71 ∧ k = 18 ∨ 16 = 71 ∧ k = 15 ∨ 16 = 71 ∧ k = 16 ∨ 16 = 71 ∧ k = 56 ∨ 16 = 71 ∧ k = 57 ∨ 16 = 71 ∧ k = 58) := fun k c => by omega
theorem x76_587 : ¬ (16 = 54 ∨ 16 = 59 ∨ 16 = 60 ∨ 16 = 51 ∨ 16 = 66 ∨ 16 = 67 ∨ 16 = 10 ∨ 16 = 13 ∨ 30 ≤ 16 ∧ 16 ≤ 35 ∨ 37 ≤ 16 ∧ 16 ≤ 42 ∨ 44 ≤ 16 ∧ 16 ≤ 49 ∨ 16 = 56 ∨ 16 = 57 ∨ 62 ≤ 16 ∧ 16 ≤ 65 ∨ 16 = 5) := by omega
theorem x76_588 : ∀ k : Nat, ¬ (16 = 53 ∧ k = 1 ∨ 16 = 58 ∧ k = 2 ∨ 16 = 68 ∧ k = 1 ∨ 16 = 68 ∧ k = 2 ∨ 16 = 50 ∧ k = 1 ∨ 16 = 55 ∧ k = 2 ∨ 16 = 52 ∧ k = 10 ∨ 16 = 52 ∧ k = 11 ∨ 16 = 61 ∧ k = 1 ∨ 16 = 61 ∧ k = 2 ∨ 16 = 61 ∧ k = 5 ∨ 16 = 61 ∧ k = 7 ∨ 16 = 43 ∧ k = 4 ∨ 16 = 29 ∧ k = 4 ∨ 16 = 36 ∧ k = 4 ∨ 16 = 4 ∧ k = 1) := fun k c => by omega
theorem x76_589 : ¬ (17 = 73 ∨ 17 = 75 ∨ 77 ≤ 17 ∧ 17 ≤ 82 ∨ 83 ≤ 17 ∧ 17 ≤ 91 ∨ 97 ≤ 17 ∧ 17 ≤ 119) := by omega
theorem x76_590 : ∀ k : Nat, ¬ (17 = 71 ∧ k = 0 ∨ 17 = 71 ∧ k = 7 ∨ 17 = 71 ∧ k = 14 ∨ 17 = 71 ∧ k = 17 ∨ 17 = 71 ∧ k = 18 ∨ 17 = 71 ∧ k = 15 ∨ 17 = 71 ∧ k = 16 ∨ 17 = 71 ∧ k = 56 ∨ 17 = 71 ∧ k = 57 ∨ 17 = 71 ∧ k = 58) := fun k c => by omega
theorem x76_591 : ¬ (17 = 54 ∨ 17 = 59 ∨ 17 = 60 ∨ 17 = 51 ∨ 17 = 66 ∨ 17 = 67 ∨ 17 = 10 ∨ 17 = 13 ∨ 30 ≤ 17 ∧ 17 ≤ 35 ∨ 37 ≤ 17 ∧ 17 ≤ 42 ∨ 44 ≤ 17 ∧ 17 ≤ 49 ∨ 17 = 56 ∨ 17 = 57 ∨ 62 ≤ 17 ∧ 17 ≤ 65 ∨ 17 = 5) := by omega
theorem x76_592 : ∀ k : Nat, ¬ (17 = 53 ∧ k = 1 ∨ 17 = 58 ∧ k = 2 ∨ 17 = 68 ∧ k = 1 ∨ 17 = 68 ∧ k = 2 ∨ 17 = 50 ∧ k = 1 ∨ 17 = 55 ∧ k = 2 ∨ 17 = 52 ∧ k = 10 ∨ 17 = 52 ∧ k = 11 ∨ 17 = 61 ∧ k = 1 ∨ 17 = 61 ∧ k = 2 ∨ 17 = 61 ∧ k = 5 ∨ 17 = 61 ∧ k = 7 ∨ 17 = 43 ∧ k = 4 ∨ 17 = 29 ∧ k = 4 ∨ 17 = 36 ∧ k = 4 ∨ 17 = 4 ∧ k = 1) := fun k c => by omega
theorem x76_593 : ¬ (18 = 73 ∨ 18 = 75 ∨ 77 ≤ 18 ∧ 18 ≤ 82 ∨ 83 ≤ 18 ∧ 18 ≤ 91 ∨ 97 ≤ 18 ∧ 18 ≤ 119) := by omega
theorem x76_594 : ∀ k : Nat, ¬ (18 = 71 ∧ k = 0 ∨ 18 = 71 ∧ k = 7 ∨ 18 = 71 ∧ k = 14 ∨ 18 = 71 ∧ k = 17 ∨ 18 = 71 ∧ k = 18 ∨ 18 = 71 ∧ k = 15 ∨ 18 = 71 ∧ k = 16 ∨ 18 = 71 ∧ k = 56 ∨ 18 = 71 ∧ k = 57 ∨ 18 = 71 ∧ k = 58) := fun k c => by omega
theorem x76_595 : ¬ (18 = 54 ∨ 18 = 59 ∨ 18 = 60 ∨ 18 = 51 ∨ 18 = 66 ∨ 18 = 67 ∨ 18 = 10 ∨ 18 = 13 ∨ 30 ≤ 18 ∧ 18 ≤ 35 ∨ 37 ≤ 18 ∧ 18 ≤ 42 ∨ 44 ≤ 18 ∧ 18 ≤ 49 ∨ 18 = 56 ∨ 18 = 57 ∨ 62 ≤ 18 ∧ 18 ≤ 65 ∨ 18 = 5) := by omega
theorem x76_596 : ∀ k : Nat, ¬ (18 = 53 ∧ k = 1 ∨ 18 = 58 ∧ k = 2 ∨ 18 = 68 ∧ k = 1 ∨ 18 = 68 ∧ k = 2 ∨ 18 = 50 ∧ k = 1 ∨ 18 = 55 ∧ k = 2 ∨ 18 = 52 ∧ k = 10 ∨ 18 = 52 ∧ k = 11 ∨ 18 = 61 ∧ k = 1 ∨ 18 = 61 ∧ k = 2 ∨ 18 = 61 ∧ k = 5 ∨ 18 = 61 ∧ k = 7 ∨ 18 = 43 ∧ k = 4 ∨ 18 = 29 ∧ k = 4 ∨ 18 = 36 ∧ k = 4 ∨ 18 = 4 ∧ k = 1) := fun k c => by omega
theorem x76_597 : ¬ (19 = 73 ∨ 19 = 75 ∨ 77 ≤ 19 ∧ 19 ≤ 82 ∨ 83 ≤ 19 ∧ 19 ≤ 91 ∨ 97 ≤ 19 ∧ 19 ≤ 119) := by omega
theorem x76_598 : ∀ k : Nat, ¬ (19 = 71 ∧ k = 0 ∨ 19 = 71 ∧ k = 7 ∨ 19 = 71 ∧ k = 14 ∨ 19 = 71 ∧ k = 17 ∨ 19 = 71 ∧ k = 18 ∨ 19 = 71 ∧ k = 15 ∨ 19 = 71 ∧ k = 16 ∨ 19 = 71 ∧ k = 56 ∨ 19 = 71 ∧ k = 57 ∨ 19 = 71 ∧ k = 58) := fun k c => by omega
theorem x76_599 : ¬ (19 = 54 ∨ 19 = 59 ∨ 19 = 60 ∨ 19 = 51 ∨ 19 = 66 ∨ 19 = 67 ∨ 19 = 10 ∨ 19 = 13 ∨ 30 ≤ 19 ∧ 19 ≤ 35 ∨ 37 ≤ 19 ∧ 19 ≤ 42 ∨ 44 ≤ 19 ∧ 19 ≤ 49 ∨ 19 = 56 ∨ 19 = 57 ∨ 62 ≤ 19 ∧ 19 ≤ 65 ∨ 19 = 5) := by omega
theorem x76_600 : ∀ k : Nat, ¬ (19 = 53 ∧ k = 1 ∨ 19 = 58 ∧ k = 2 ∨ 19 = 68 ∧ k = 1 ∨ 19 = 68 ∧ k = 2 ∨ 19 = 50 ∧ k = 1 ∨ 19 = 55 ∧ k = 2 ∨ 19 = 52 ∧ k = 10 ∨ 19 = 52 ∧ k = 11 ∨ 19 = 61 ∧ k = 1 ∨ 19 = 61 ∧ k = 2 ∨ 19 = 61 ∧ k = 5 ∨ 19 = 61 ∧ k = 7 ∨ 19 = 43 ∧ k = 4 ∨ 19 = 29 ∧ k = 4 ∨ 19 = 36 ∧ k = 4 ∨ 19 = 4 ∧ k = 1) := fun k c => by omega
theorem x76_601 : ¬ (22 = 73 ∨ 22 = 75 ∨ 77 ≤ 22 ∧ 22 ≤ 82 ∨ 83 ≤ 22 ∧ 22 ≤ 91 ∨ 97 ≤ 22 ∧ 22 ≤ 119) := by omega
theorem x76_602 : ¬ (22 = 71 ∧ 4 = 0 ∨ 22 = 71 ∧ 4 = 7 ∨ 22 = 71 ∧ 4 = 14 ∨ 22 = 71 ∧ 4 = 17 ∨ 22 = 71 ∧ 4 = 18 ∨ 22 = 71 ∧ 4 = 15 ∨ 22 = 71 ∧ 4 = 16 ∨ 22 = 71 ∧ 4 = 56 ∨ 22 = 71 ∧ 4 = 57 ∨ 22 = 71 ∧ 4 = 58) := by omega
theorem x76_603 : ¬ (22 = 54 ∨ 22 = 59 ∨ 22 = 60 ∨ 22 = 51 ∨ 22 = 66 ∨ 22 = 67 ∨ 22 = 10 ∨ 22 = 13 ∨ 30 ≤ 22 ∧ 22 ≤ 35 ∨ 37 ≤ 22 ∧ 22 ≤ 42 ∨ 44 ≤ 22 ∧ 22 ≤ 49 ∨ 22 = 56 ∨ 22 = 57 ∨ 62 ≤ 22 ∧ 22 ≤ 65 ∨ 22 = 5) := by omega
theorem x76_604 : ¬ (22 = 53 ∧ 4 = 1 ∨ 22 = 58 ∧ 4 = 2 ∨ 22 = 68 ∧ 4 = 1 ∨ 22 = 68 ∧ 4 = 2 ∨ 22 = 50 ∧ 4 = 1 ∨ 22 = 55 ∧ 4 = 2 ∨ 22 = 52 ∧ 4 = 10 ∨ 22 = 52 ∧ 4 = 11 ∨ 22 = 61 ∧ 4 = 1 ∨ 22 = 61 ∧ 4 = 2 ∨ 22 = 61 ∧ 4 = 5 ∨ 22 = 61 ∧ 4 = 7 ∨ 22 = 43 ∧ 4 = 4 ∨ 22 = 29 ∧ 4 = 4 ∨ 22 = 36 ∧ 4 = 4 ∨ 22 = 4 ∧ 4 = 1) := by omega
theorem x76_605 : ¬ (23 = 73 ∨ 23 = 75 ∨ 77 ≤ 23 ∧ 23 ≤ 82 ∨ 83 ≤ 23 ∧ 23 ≤ 91 ∨ 97 ≤ 23 ∧ 23 ≤ 119) := by omega
theorem x76_606 : ∀ k : Nat, ¬ (23 = 71 ∧ k = 0 ∨ 23 = 71 ∧ k = 7 ∨ 23 = 71 ∧ k = 14 ∨ 23 = 71 ∧ k = 17 ∨ 23 = 71 ∧ k = 18 ∨ 23 = 71 ∧ k = 15 ∨ 23 = 71 ∧ k = 16 ∨ 23 = 71 ∧ k = 56 ∨ 23 = 71 ∧ k = 57 ∨ 23 = 71 ∧ k = 58) := fun k c => by omega
theorem x76_607 : ¬ (23 = 54 ∨ 23 = 59 ∨ 23 = 60 ∨ 23 = 51 ∨ 23 = 66 ∨ 23 = 67 ∨ 23 = 10 ∨ 23 = 13 ∨ 30 ≤ 23 ∧ 23 ≤ 35 ∨ 37 ≤ 23 ∧ 23 ≤ 42 ∨ 44 ≤ 23 ∧ 23 ≤ 49 ∨ 23 = 56 ∨ 23 = 57 ∨ 62 ≤ 23 ∧ 23 ≤ 65 ∨ 23 = 5) := by omega
theorem x76_608 : ∀ k : Nat, ¬ (23 = 53 ∧ k = 1 ∨ 23 = 58 ∧ k = 2 ∨ 23 = 68 ∧ k = 1 ∨ 23 = 68 ∧ k = 2 ∨ 23 = 50 ∧ k = 1 ∨ 23 = 55 ∧ k = 2 ∨ 23 = 52 ∧ k = 10 ∨ 23 = 52 ∧ k = 11 ∨ 23 = 61 ∧ k = 1 ∨ 23 = 61 ∧ k = 2 ∨ 23 = 61 ∧ k = 5 ∨ 23 = 61 ∧ k = 7 ∨ 23 = 43 ∧ k = 4 ∨ 23 = 29 ∧ k = 4 ∨ 23 = 36 ∧ k = 4 ∨ 23 = 4 ∧ k = 1) := fun k c => by omega
theorem x76_609 : ¬ (24 = 73 ∨ 24 = 75 ∨ 77 ≤ 24 ∧ 24 ≤ 82 ∨ 83 ≤ 24 ∧ 24 ≤ 91 ∨ 97 ≤ 24 ∧ 24 ≤ 119) := by omega
theorem x76_610 : ∀ k : Nat, ¬ (24 = 71 ∧ k = 0 ∨ 24 = 71 ∧ k = 7 ∨ 24 = 71 ∧ k = 14 ∨ 24 = 71 ∧ k = 17 ∨ 24 = 71 ∧ k = 18 ∨ 24 = 71 ∧ k = 15 ∨ 24 = 71 ∧ k = 16 ∨ 24 = 71 ∧ k = 56 ∨ 24 = 71 ∧ k = 57 ∨ 24 = 71 ∧ k = 58) := fun k c => by omega
theorem x76_611 : ¬ (24 = 54 ∨ 24 = 59 ∨ 24 = 60 ∨ 24 = 51 ∨ 24 = 66 ∨ 24 = 67 ∨ 24 = 10 ∨ 24 = 13 ∨ 30 ≤ 24 ∧ 24 ≤ 35 ∨ 37 ≤ 24 ∧ 24 ≤ 42 ∨ 44 ≤ 24 ∧ 24 ≤ 49 ∨ 24 = 56 ∨ 24 = 57 ∨ 62 ≤ 24 ∧ 24 ≤ 65 ∨ 24 = 5) := by omega
theorem x76_612 : ∀ k : Nat, ¬ (24 = 53 ∧ k = 1 ∨ 24 = 58 ∧ k = 2 ∨ 24 = 68 ∧ k = 1 ∨ 24 = 68 ∧ k = 2 ∨ 24 = 50 ∧ k = 1 ∨ 24 = 55 ∧ k = 2 ∨ 24 = 52 ∧ k = 10 ∨ 24 = 52 ∧ k = 11 ∨ 24 = 61 ∧ k = 1 ∨ 24 = 61 ∧ k = 2 ∨ 24 = 61 ∧ k = 5 ∨ 24 = 61 ∧ k = 7 ∨ 24 = 43 ∧ k = 4 ∨ 24 = 29 ∧ k = 4 ∨ 24 = 36 ∧ k = 4 ∨ 24 = 4 ∧ k = 1) := fun k c => by omega
theorem x76_613 : ¬ (25 = 73 ∨ 25 = 75 ∨ 77 ≤ 25 ∧ 25 ≤ 82 ∨ 83 ≤ 25 ∧ 25 ≤ 91 ∨ 97 ≤ 25 ∧ 25 ≤ 119) := by omega
theorem x76_614 : ∀ k : Nat, ¬ (25 = 71 ∧ k = 0 ∨ 25 = 71 ∧ k = 7 ∨ 25 = 71 ∧ k = 14 ∨ 25 = 71 ∧ k = 17 ∨ 25 = 71 ∧ k = 18 ∨ 25 = 71 ∧ k = 15 ∨ 25 = 71 ∧ k = 16 ∨ 25 = 71 ∧ k = 56 ∨ 25 = 71 ∧ k = 57 ∨ 25 = 71 ∧ k = 58) := fun k c => by omega
theorem x76_615 : ¬ (25 = 54 ∨ 25 = 59 ∨ 25 = 60 ∨ 25 = 51 ∨ 25 = 66 ∨ 25 = 67 ∨ 25 = 10 ∨ 25 = 13 ∨ 30 ≤ 25 ∧ 25 ≤ 35 ∨ 37 ≤ 25 ∧ 25 ≤ 42 ∨ 44 ≤ 25 ∧ 25 ≤ 49 ∨ 25 = 56 ∨ 25 = 57 ∨ 62 ≤ 25 ∧ 25 ≤ 65 ∨ 25 = 5) := by omega
theorem x76_616 : ∀ k : Nat, ¬ (25 = 53 ∧ k = 1 ∨ 25 = 58 ∧ k = 2 ∨ 25 = 68 ∧ k = 1 ∨ 25 = 68 ∧ k = 2 ∨ 25 = 50 ∧ k = 1 ∨ 25 = 55 ∧ k = 2 ∨ 25 = 52 ∧ k = 10 ∨ 25 = 52 ∧ k = 11 ∨ 25 = 61 ∧ k = 1 ∨ 25 = 61 ∧ k = 2 ∨ 25 = 61 ∧ k = 5 ∨ 25 = 61 ∧ k = 7 ∨ 25 = 43 ∧ k = 4 ∨ 25 = 29 ∧ k = 4 ∨ 25 = 36 ∧ k = 4 ∨ 25 = 4 ∧ k = 1) := fun k c => by omega
theorem x76_617 : ¬ (26 = 73 ∨ 26 = 75 ∨ 77 ≤ 26 ∧ 26 ≤ 82 ∨ 83 ≤ 26 ∧ 26 ≤ 91 ∨ 97 ≤ 26 ∧ 26 ≤ 119) := by omega
theorem x76_618 : ∀ k : Nat, ¬ (26 = 71 ∧ k = 0 ∨ 26 = 71 ∧ k = 7 ∨ 26 = 71 ∧ k = 14 ∨ 26 = 71 ∧ k = 17 ∨ 26 = 71 ∧ k = 18 ∨ 26 = 71 ∧ k = 15 ∨ 26 = 71 ∧ k = 16 ∨ 26 = 71 ∧ k = 56 ∨ 26 = 71 ∧ k = 57 ∨ 26 = 71 ∧ k = 58) := fun k c => by omega
theorem x76_619 : ¬ (26 = 54 ∨ 26 = 59 ∨ 26 = 60 ∨ 26 = 51 ∨ 26 = 66 ∨ 26 = 67 ∨ 26 = 10 ∨ 26 = 13 ∨ 30 ≤ 26 ∧ 26 ≤ 35 ∨ 37 ≤ 26 ∧ 26 ≤ 42 ∨ 44 ≤ 26 ∧ 26 ≤ 49 ∨ 26 = 56 ∨ 26 = 57 ∨ 62 ≤ 26 ∧ 26 ≤ 65 ∨ 26 = 5) := by omega
theorem x76_620 : ∀ k : Nat, ¬ (26 = 53 ∧ k = 1 ∨ 26 = 58 ∧ k = 2 ∨ 26 = 68 ∧ k = 1 ∨ 26 = 68 ∧ k = 2 ∨ 26 = 50 ∧ k = 1 ∨ 26 = 55 ∧ k = 2 ∨ 26 = 52 ∧ k = 10 ∨ 26 = 52 ∧ k = 11 ∨ 26 = 61 ∧ k = 1 ∨ 26 = 61 ∧ k = 2 ∨ 26 = 61 ∧ k = 5 ∨ 26 = 61 ∧ k = 7 ∨ 26 = 43 ∧ k = 4 ∨ 26 = 29 ∧ k = 4 ∨ 26 = 36 ∧ k = 4 ∨ 26 = 4 ∧ k = 1) := fun k c => by omega
theorem x76_621 : ¬ (92 = 73 ∨ 92 = 75 ∨ 77 ≤ 92 ∧ 92 ≤ 82 ∨ 83 ≤ 92 ∧ 92 ≤ 91 ∨ 97 ≤ 92 ∧ 92 ≤ 119) := by omega
theorem x76_622 : ∀ k : Nat, ¬ (92 = 71 ∧ k = 0 ∨ 92 = 71 ∧ k = 7 ∨ 92 = 71 ∧ k = 14 ∨ 92 = 71 ∧ k = 17 ∨ 92 = 71 ∧ k = 18 ∨ 92 = 71 ∧ k = 15 ∨ 92 = 71 ∧ k = 16 ∨ 92 = 71 ∧ k = 56 ∨ 92 = 71 ∧ k = 57 ∨ 92 = 71 ∧ k = 58) := fun k c => by omega
theorem x76_623 : ¬ (92 = 54 ∨ 92 = 59 ∨ 92 = 60 ∨ 92 = 51 ∨ 92 = 66 ∨ 92 = 67 ∨ 92 = 10 ∨ 92 = 13 ∨ 30 ≤ 92 ∧ 92 ≤ 35 ∨ 37 ≤ 92 ∧ 92 ≤ 42 ∨ 44 ≤ 92 ∧ 92 ≤ 49 ∨ 92 = 56 ∨ 92 = 57 ∨ 62 ≤ 92 ∧ 92 ≤ 65 ∨ 92 = 5) := by omega
theorem x76_624 : ∀ k : Nat, ¬ (92 = 53 ∧ k = 1 ∨ 92 = 58 ∧ k = 2 ∨ 92 = 68 ∧ k = 1 ∨ 92 = 68 ∧ k = 2 ∨ 92 = 50 ∧ k = 1 ∨ 92 = 55 ∧ k = 2 ∨ 92 = 52 ∧ k = 10 ∨ 92 = 52 ∧ k = 11 ∨ 92 = 61 ∧ k = 1 ∨ 92 = 61 ∧ k = 2 ∨ 92 = 61 ∧ k = 5 ∨ 92 = 61 ∧ k = 7 ∨ 92 = 43 ∧ k = 4 ∨ 92 = 29 ∧ k = 4 ∨ 92 = 36 ∧ k = 4 ∨ 92 = 4 ∧ k = 1) := fun k c => by omega
theorem x76_625 : ¬ (93 = 73 ∨ 93 = 75 ∨ 77 ≤ 93 ∧ 93 ≤ 82 ∨ 83 ≤ 93 ∧ 93 ≤ 91 ∨ 97 ≤ 93 ∧ 93 ≤ 119) := by omega
theorem x76_626 : ∀ k : Nat, ¬ (93 = 71 ∧ k = 0 ∨ 93 = 71 ∧ k = 7 ∨ 93 = 71 ∧ k = 14 ∨ 93 = 71 ∧ k = 17 ∨ 93 = 71 ∧ k = 18 ∨ 93 = 71 ∧ k = 15 ∨ 93 = 71 ∧ k = 16 ∨ 93 = 71 ∧ k = 56 ∨ 93 = 71 ∧ k = 57 ∨ 93 = 71 ∧ k = 58) := fun k c => by omega
theorem x76_627 : ¬ (93 = 54 ∨ 93 = 59 ∨ 93 = 60 ∨ 93 = 51 ∨ 93 = 66 ∨ 93 = 67 ∨ 93 = 10 ∨ 93 = 13 ∨ 30 ≤ 93 ∧ 93 ≤ 35 ∨ 37 ≤ 93 ∧ 93 ≤ 42 ∨ 44 ≤ 93 ∧ 93 ≤ 49 ∨ 93 = 56 ∨ 93 = 57 ∨ 62 ≤ 93 ∧ 93 ≤ 65 ∨ 93 = 5) := by omega
theorem x76_628 : ∀ k : Nat, ¬ (93 = 53 ∧ k = 1 ∨ 93 = 58 ∧ k = 2 ∨ 93 = 68 ∧ k = 1 ∨ 93 = 68 ∧ k = 2 ∨ 93 = 50 ∧ k = 1 ∨ 93 = 55 ∧ k = 2 ∨ 93 = 52 ∧ k = 10 ∨ 93 = 52 ∧ k = 11 ∨ 93 = 61 ∧ k = 1 ∨ 93 = 61 ∧ k = 2 ∨ 93 = 61 ∧ k = 5 ∨ 93 = 61 ∧ k = 7 ∨ 93 = 43 ∧ k = 4 ∨ 93 = 29 ∧ k = 4 ∨ 93 = 36 ∧ k = 4 ∨ 93 = 4 ∧ k = 1) := fun k c => by omega
theorem x76_629 : ¬ (94 = 73 ∨ 94 = 75 ∨ 77 ≤ 94 ∧ 94 ≤ 82 ∨ 83 ≤ 94 ∧ 94 ≤ 91 ∨ 97 ≤ 94 ∧ 94 ≤ 119) := by omega
theorem x76_630 : ∀ k : Nat, ¬ (94 = 71 ∧ k = 0 ∨ 94 = 71 ∧ k = 7 ∨ 94 = 71 ∧ k = 14 ∨ 94 = 71 ∧ k = 17 ∨ 94 = 71 ∧ k = 18 ∨ 94 = 71 ∧ k = 15 ∨ 94 = 71 ∧ k = 16 ∨ 94 = 71 ∧ k = 56 ∨ 94 = 71 ∧ k = 57 ∨ 94 = 71 ∧ k = 58) := fun k c => by omega
theorem x76_631 : ¬ (94 = 54 ∨ 94 = 59 ∨ 94 = 60 ∨ 94 = 51 ∨ 94 = 66 ∨ 94 = 67 ∨ 94 = 10 ∨ 94 = 13 ∨ 30 ≤ 94 ∧ 94 ≤ 35 ∨ 37 ≤ 94 ∧ 94 ≤ 42 ∨ 44 ≤ 94 ∧ 94 ≤ 49 ∨ 94 = 56 ∨ 94 = 57 ∨ 62 ≤ 94 ∧ 94 ≤ 65 ∨ 94 = 5) := by omega
theorem x76_632 : ∀ k : Nat, ¬ (94 = 53 ∧ k = 1 ∨ 94 = 58 ∧ k = 2 ∨ 94 = 68 ∧ k = 1 ∨ 94 = 68 ∧ k = 2 ∨ 94 = 50 ∧ k = 1 ∨ 94 = 55 ∧ k = 2 ∨ 94 = 52 ∧ k = 10 ∨ 94 = 52 ∧ k = 11 ∨ 94 = 61 ∧ k = 1 ∨ 94 = 61 ∧ k = 2 ∨ 94 = 61 ∧ k = 5 ∨ 94 = 61 ∧ k = 7 ∨ 94 = 43 ∧ k = 4 ∨ 94 = 29 ∧ k = 4 ∨ 94 = 36 ∧ k = 4 ∨ 94 = 4 ∧ k = 1) := fun k c => by omega
theorem x76_633 : ¬ (95 = 73 ∨ 95 = 75 ∨ 77 ≤ 95 ∧ 95 ≤ 82 ∨ 83 ≤ 95 ∧ 95 ≤ 91 ∨ 97 ≤ 95 ∧ 95 ≤ 119) := by omega
theorem x76_634 : ∀ k : Nat, ¬ (95 = 71 ∧ k = 0 ∨ 95 = 71 ∧ k = 7 ∨ 95 = 71 ∧ k = 14 ∨ 95 = 71 ∧ k = 17 ∨ 95 = 71 ∧ k = 18 ∨ 95 = 71 ∧ k = 15 ∨ 95 = 71 ∧ k = 16 ∨ 95 = 71 ∧ k = 56 ∨ 95 = 71 ∧ k = 57 ∨ 95 = 71 ∧ k = 58) := fun k c => by omega
theorem x76_635 : ¬ (95 = 54 ∨ 95 = 59 ∨ 95 = 60 ∨ 95 = 51 ∨ 95 = 66 ∨ 95 = 67 ∨ 95 = 10 ∨ 95 = 13 ∨ 30 ≤ 95 ∧ 95 ≤ 35 ∨ 37 ≤ 95 ∧ 95 ≤ 42 ∨ 44 ≤ 95 ∧ 95 ≤ 49 ∨ 95 = 56 ∨ 95 = 57 ∨ 62 ≤ 95 ∧ 95 ≤ 65 ∨ 95 = 5) := by omega
theorem x76_636 : ∀ k : Nat, ¬ (95 = 53 ∧ k = 1 ∨ 95 = 58 ∧ k = 2 ∨ 95 = 68 ∧ k = 1 ∨ 95 = 68 ∧ k = 2 ∨ 95 = 50 ∧ k = 1 ∨ 95 = 55 ∧ k = 2 ∨ 95 = 52 ∧ k = 10 ∨ 95 = 52 ∧ k = 11 ∨ 95 = 61 ∧ k = 1 ∨ 95 = 61 ∧ k = 2 ∨ 95 = 61 ∧ k = 5 ∨ 95 = 61 ∧ k = 7 ∨ 95 = 43 ∧ k = 4 ∨ 95 = 29 ∧ k = 4 ∨ 95 = 36 ∧ k = 4 ∨ 95 = 4 ∧ k = 1) := fun k c => by omega
theorem x76_637 : ¬ (96 = 73 ∨ 96 = 75 ∨ 77 ≤ 96 ∧ 96 ≤ 82 ∨ 83 ≤ 96 ∧ 96 ≤ 91 ∨ 97 ≤ 96 ∧ 96 ≤ 119) := by omega
theorem x76_638 : ∀ k : Nat, ¬ (96 = 71 ∧ k = 0 ∨ 96 = 71 ∧ k = 7 ∨ 96 = 71 ∧ k = 14 ∨ 96 = 71 ∧ k = 17 ∨ 96 = 71 ∧ k = 18 ∨ 96 = 71 ∧ k = 15 ∨ 96 = 71 ∧ k = 16 ∨ 96 = 71 ∧ k = 56 ∨ 96 = 71 ∧ k = 57 ∨ 96 = 71 ∧ k = 58) := fun k c => by omega
theorem x76_639 : ¬ (96 = 54 ∨ 96 = 59 ∨ 96 = 60 ∨ 96 = 51 ∨ 96 = 66 ∨ 96 = 67 ∨ 96 = 10 ∨ 96 = 13 ∨ 30 ≤ 96 ∧ 96 ≤ 35 ∨ 37 ≤ 96 ∧ 96 ≤ 42 ∨ 44 ≤ 96 ∧ 96 ≤ 49 ∨ 96 = 56 ∨ 96 = 57 ∨ 62 ≤ 96 ∧ 96 ≤ 65 ∨ 96 = 5) := by omega
theorem x76_640 : ∀ k : Nat, ¬ (96 = 53 ∧ k = 1 ∨ 96 = 58 ∧ k = 2 ∨ 96 = 68 ∧ k = 1 ∨ 96 = 68 ∧ k = 2 ∨ 96 = 50 ∧ k = 1 ∨ 96 = 55 ∧ k = 2 ∨ 96 = 52 ∧ k = 10 ∨ 96 = 52 ∧ k = 11 ∨ 96 = 61 ∧ k = 1 ∨ 96 = 61 ∧ k = 2 ∨ 96 = 61 ∧ k = 5 ∨ 96 = 61 ∧ k = 7 ∨ 96 = 43 ∧ k = 4 ∨ 96 = 29 ∧ k = 4 ∨ 96 = 36 ∧ k = 4 ∨ 96 = 4 ∧ k = 1) := fun k c => by omega
theorem x76_641 : ¬ (7 = 73 ∨ 7 = 75 ∨ 77 ≤ 7 ∧ 7 ≤ 82 ∨ 83 ≤ 7 ∧ 7 ≤ 91 ∨ 97 ≤ 7 ∧ 7 ≤ 119) := by omega
theorem x76_642 : ∀ k : Nat, ¬ (7 = 71 ∧ k = 0 ∨ 7 = 71 ∧ k = 7 ∨ 7 = 71 ∧ k = 14 ∨ 7 = 71 ∧ k = 17 ∨ 7 = 71 ∧ k = 18 ∨ 7 = 71 ∧ k = 15 ∨ 7 = 71 ∧ k = 16 ∨ 7 = 71 ∧ k = 56 ∨ 7 = 71 ∧ k = 57 ∨ 7 = 71 ∧ k = 58) := fun k c => by omega
theorem x76_643 : ¬ (7 = 54 ∨ 7 = 59 ∨ 7 = 60 ∨ 7 = 51 ∨ 7 = 66 ∨ 7 = 67 ∨ 7 = 10 ∨ 7 = 13 ∨ 30 ≤ 7 ∧ 7 ≤ 35 ∨ 37 ≤ 7 ∧ 7 ≤ 42 ∨ 44 ≤ 7 ∧ 7 ≤ 49 ∨ 7 = 56 ∨ 7 = 57 ∨ 62 ≤ 7 ∧ 7 ≤ 65 ∨ 7 = 5) := by omega
theorem x76_644 : ∀ k : Nat, ¬ (7 = 53 ∧ k = 1 ∨ 7 = 58 ∧ k = 2 ∨ 7 = 68 ∧ k = 1 ∨ 7 = 68 ∧ k = 2 ∨ 7 = 50 ∧ k = 1 ∨ 7 = 55 ∧ k = 2 ∨ 7 = 52 ∧ k = 10 ∨ 7 = 52 ∧ k = 11 ∨ 7 = 61 ∧ k = 1 ∨ 7 = 61 ∧ k = 2 ∨ 7 = 61 ∧ k = 5 ∨ 7 = 61 ∧ k = 7 ∨ 7 = 43 ∧ k = 4 ∨ 7 = 29 ∧ k = 4 ∨ 7 = 36 ∧ k = 4 ∨ 7 = 4 ∧ k = 1) := fun k c => by omega
theorem x76_645 : ¬ (124 = 73 ∨ 124 = 75 ∨ 77 ≤ 124 ∧ 124 ≤ 82 ∨ 83 ≤ 124 ∧ 124 ≤ 91 ∨ 97 ≤ 124 ∧ 124 ≤ 119) := by omega
theorem x76_646 : ∀ k : Nat, ¬ (124 = 71 ∧ k = 0 ∨ 124 = 71 ∧ k = 7 ∨ 124 = 71 ∧ k = 14 ∨ 124 = 71 ∧ k = 17 ∨ 124 = 71 ∧ k = 18 ∨ 124 = 71 ∧ k = 15 ∨ 124 = 71 ∧ k = 16 ∨ 124 = 71 ∧ k = 56 ∨ 124 = 71 ∧ k = 57 ∨ 124 = 71 ∧ k = 58) := fun k c => by omega
theorem x76_647 : ¬ (124 = 54 ∨ 124 = 59 ∨ 124 = 60 ∨ 124 = 51 ∨ 124 = 66 ∨ 124 = 67 ∨ 124 = 10 ∨ 124 = 13 ∨ 30 ≤ 124 ∧ 124 ≤ 35 ∨ 37 ≤ 124 ∧ 124 ≤ 42 ∨ 44 ≤ 124 ∧ 124 ≤ 49 ∨ 124 = 56 ∨ 124 = 57 ∨ 62 ≤ 124 ∧ 124 ≤ 65 ∨ 124 = 5) := by omega
theorem x76_648 : ∀ k : Nat, ¬ (124 = 53 ∧ k = 1 ∨ 124 = 58 ∧ k = 2 ∨ 124 = 68 ∧ k = 1 ∨ 124 = 68 ∧ k = 2 ∨ 124 = 50 ∧ k = 1 ∨ 124 = 55 ∧ k = 2 ∨ 124 = 52 ∧ k = 10 ∨ 124 = 52 ∧ k = 11 ∨ 124 = 61 ∧ k = 1 ∨ 124 = 61 ∧ k = 2 ∨ 124 = 61 ∧ k = 5 ∨ 124 = 61 ∧ k = 7 ∨ 124 = 43 ∧ k = 4 ∨ 124 = 29 ∧ k = 4 ∨ 124 = 36 ∧ k = 4 ∨ 124 = 4 ∧ k = 1) := fun k c => by omega
theorem x76_649 : ¬ (2 = 73 ∨ 2 = 75 ∨ 77 ≤ 2 ∧ 2 ≤ 82 ∨ 83 ≤ 2 ∧ 2 ≤ 91 ∨ 97 ≤ 2 ∧ 2 ≤ 119) := by omega
theorem x76_650 : ¬ (2 = 71 ∧ 1 = 0 ∨ 2 = 71 ∧ 1 = 7 ∨ 2 = 71 ∧ 1 = 14 ∨ 2 = 71 ∧ 1 = 17 ∨ 2 = 71 ∧ 1 = 18 ∨ 2 = 71 ∧ 1 = 15 ∨ 2 = 71 ∧ 1 = 16 ∨ 2 = 71 ∧ 1 = 56 ∨ 2 = 71 ∧ 1 = 57 ∨ 2 = 71 ∧ 1 = 58) := by omega
theorem x76_651 : ¬ (2 = 54 ∨ 2 = 59 ∨ 2 = 60 ∨ 2 = 51 ∨ 2 = 66 ∨ 2 = 67 ∨ 2 = 10 ∨ 2 = 13 ∨ 30 ≤ 2 ∧ 2 ≤ 35 ∨ 37 ≤ 2 ∧ 2 ≤ 42 ∨ 44 ≤ 2 ∧ 2 ≤ 49 ∨ 2 = 56 ∨ 2 = 57 ∨ 62 ≤ 2 ∧ 2 ≤ 65 ∨ 2 = 5) := by omega
theorem x76_652 : ¬ (2 = 53 ∧ 1 = 1 ∨ 2 = 58 ∧ 1 = 2 ∨ 2 = 68 ∧ 1 = 1 ∨ 2 = 68 ∧ 1 = 2 ∨ 2 = 50 ∧ 1 = 1 ∨ 2 = 55 ∧ 1 = 2 ∨ 2 = 52 ∧ 1 = 10 ∨ 2 = 52 ∧ 1 = 11 ∨ 2 = 61 ∧ 1 = 1 ∨ 2 = 61 ∧ 1 = 2 ∨ 2 = 61 ∧ 1 = 5 ∨ 2 = 61 ∧ 1 = 7 ∨ 2 = 43 ∧ 1 = 4 ∨ 2 = 29 ∧ 1 = 4 ∨ 2 = 36 ∧ 1 = 4 ∨ 2 = 4 ∧ 1 = 1) := by omega
theorem x76_653 : ¬ (3 = 73 ∨ 3 = 75 ∨ 77 ≤ 3 ∧ 3 ≤ 82 ∨ 83 ≤ 3 ∧ 3 ≤ 91 ∨ 97 ≤ 3 ∧ 3 ≤ 119) := by omega
theorem x76_654 : ∀ k : Nat, ¬ (3 = 71 ∧ k = 0 ∨ 3 = 71 ∧ k = 7 ∨ 3 = 71 ∧ k = 14 ∨ 3 = 71 ∧ k = 17 ∨ 3 = 71 ∧ k = 18 ∨ 3 = 71 ∧ k = 15 ∨ 3 = 71 ∧ k = 16 ∨ 3 = 71 ∧ k = 56 ∨ 3 = 71 ∧ k = 57 ∨ 3 = 71 ∧ k = 58) := fun k c => by omega
theorem x76_655 : ¬ (3 = 54 ∨ 3 = 59 ∨ 3 = 60 ∨ 3 = 51 ∨ 3 = 66 ∨ 3 = 67 ∨ 3 = 10 ∨ 3 = 13 ∨ 30 ≤ 3 ∧ 3 ≤ 35 ∨ 37 ≤ 3 ∧ 3 ≤ 42 ∨ 44 ≤ 3 ∧ 3 ≤ 49 ∨ 3 = 56 ∨ 3 = 57 ∨ 62 ≤ 3 ∧ 3 ≤ 65 ∨ 3 = 5) := by omega
theorem x76_656 : ∀ k : Nat, ¬ (3 = 53 ∧ k = 1 ∨ 3 = 58 ∧ k = 2 ∨ 3 = 68 ∧ k = 1 ∨ 3 = 68 ∧ k = 2 ∨ 3 = 50 ∧ k = 1 ∨ 3 = 55 ∧ k = 2 ∨ 3 = 52 ∧ k = 10 ∨ 3 = 52 ∧ k = 11 ∨ 3 = 61 ∧ k = 1 ∨ 3 = 61 ∧ k = 2 ∨ 3 = 61 ∧ k = 5 ∨ 3 = 61 ∧ k = 7 ∨ 3 = 43 ∧ k = 4 ∨ 3 = 29 ∧ k = 4 ∨ 3 = 36 ∧ k = 4 ∨ 3 = 4 ∧ k = 1) := fun k c => by omega
theorem x76_657 : ¬ (71 = 73 ∨ 71 = 75 ∨ 77 ≤ 71 ∧ 71 ≤ 82 ∨ 83 ≤ 71 ∧ 71 ≤ 91 ∨ 97 ≤ 71 ∧ 71 ≤ 119) := by omega
theorem x76_658 : ¬ (71 = 71 ∧ 6 = 0 ∨ 71 = 71 ∧ 6 = 7 ∨ 71 = 71 ∧ 6 = 14 ∨ 71 = 71 ∧ 6 = 17 ∨ 71 = 71 ∧ 6 = 18 ∨ 71 = 71 ∧ 6 = 15 ∨ 71 = 71 ∧ 6 = 16 ∨ 71 = 71 ∧ 6 = 56 ∨ 71 = 71 ∧ 6 = 57 ∨ 71 = 71 ∧ 6 = 58) := by omega
theorem x76_659 : ¬ (71 = 54 ∨ 71 = 59 ∨ 71 = 60 ∨ 71 = 51 ∨ 71 = 66 ∨ 71 = 67 ∨ 71 = 10 ∨ 71 = 13 ∨ 30 ≤ 71 ∧ 71 ≤ 35 ∨ 37 ≤ 71 ∧ 71 ≤ 42 ∨ 44 ≤ 71 ∧ 71 ≤ 49 ∨ 71 = 56 ∨ 71 = 57 ∨ 62 ≤ 71 ∧ 71 ≤ 65 ∨ 71 = 5) := by omega
theorem x76_660 : ¬ (71 = 53 ∧ 6 = 1 ∨ 71 = 58 ∧ 6 = 2 ∨ 71 = 68 ∧ 6 = 1 ∨ 71 = 68 ∧ 6 = 2 ∨ 71 = 50 ∧ 6 = 1 ∨ 71 = 55 ∧ 6 = 2 ∨ 71 = 52 ∧ 6 = 10 ∨ 71 = 52 ∧ 6 = 11 ∨ 71 = 61 ∧ 6 = 1 ∨ 71 = 61 ∧ 6 = 2 ∨ 71 = 61 ∧ 6 = 5 ∨ 71 = 61 ∧ 6 = 7 ∨ 71 = 43 ∧ 6 = 4 ∨ 71 = 29 ∧ 6 = 4 ∨ 71 = 36 ∧ 6 = 4 ∨ 71 = 4 ∧ 6 = 1) := by omega
theorem x76_661 : ¬ (72 = 73 ∨ 72 = 75 ∨ 77 ≤ 72 ∧ 72 ≤ 82 ∨ 83 ≤ 72 ∧ 72 ≤ 91 ∨ 97 ≤ 72 ∧ 72 ≤ 119) := by omega
theorem x76_662 : ∀ k : Nat, ¬ (72 = 71 ∧ k = 0 ∨ 72 = 71 ∧ k = 7 ∨ 72 = 71 ∧ k = 14 ∨ 72 = 71 ∧ k = 17 ∨ 72 = 71 ∧ k = 18 ∨ 72 = 71 ∧ k = 15 ∨ 72 = 71 ∧ k = 16 ∨ 72 = 71 ∧ k = 56 ∨ 72 = 71 ∧ k = 57 ∨ 72 = 71 ∧ k = 58) := fun k c => by omega
theorem x76_663 : ¬ (72 = 54 ∨ 72 = 59 ∨ 72 = 60 ∨ 72 = 51 ∨ 72 = 66 ∨ 72 = 67 ∨ 72 = 10 ∨ 72 = 13 ∨ 30 ≤ 72 ∧ 72 ≤ 35 ∨ 37 ≤ 72 ∧ 72 ≤ 42 ∨ 44 ≤ 72 ∧ 72 ≤ 49 ∨ 72 = 56 ∨ 72 = 57 ∨ 62 ≤ 72 ∧ 72 ≤ 65 ∨ 72 = 5) := by omega
theorem x76_664 : ∀ k : Nat, ¬ (72 = 53 ∧ k = 1 ∨ 72 = 58 ∧ k = 2 ∨ 72 = 68 ∧ k = 1 ∨ 72 = 68 ∧ k = 2 ∨ 72 = 50 ∧ k = 1 ∨ 72 = 55 ∧ k = 2 ∨ 72 = 52 ∧ k = 10 ∨ 72 = 52 ∧ k = 11 ∨ 72 = 61 ∧ k = 1 ∨ 72 = 61 ∧ k = 2 ∨ 72 = 61 ∧ k = 5 ∨ 72 = 61 ∧ k = 7 ∨ 72 = 43 ∧ k = 4 ∨ 72 = 29 ∧ k = 4 ∨ 72 = 36 ∧ k = 4 ∨ 72 = 4 ∧ k = 1) := fun k c => by omega
theorem x76_665 : ¬ (4 = 73 ∨ 4 = 75 ∨ 77 ≤ 4 ∧ 4 ≤ 82 ∨ 83 ≤ 4 ∧ 4 ≤ 91 ∨ 97 ≤ 4 ∧ 4 ≤ 119) := by omega
theorem x76_666 : ¬ (4 = 71 ∧ 1 = 0 ∨ 4 = 71 ∧ 1 = 7 ∨ 4 = 71 ∧ 1 = 14 ∨ 4 = 71 ∧ 1 = 17 ∨ 4 = 71 ∧ 1 = 18 ∨ 4 = 71 ∧ 1 = 15 ∨ 4 = 71 ∧ 1 = 16 ∨ 4 = 71 ∧ 1 = 56 ∨ 4 = 71 ∧ 1 = 57 ∨ 4 = 71 ∧ 1 = 58) := by omega
theorem x76_667 : ¬ (5 = 73 ∨ 5 = 75 ∨ 77 ≤ 5 ∧ 5 ≤ 82 ∨ 83 ≤ 5 ∧ 5 ≤ 91 ∨ 97 ≤ 5 ∧ 5 ≤ 119) := by omega
theorem x76_668 : ∀ k : Nat, ¬ (5 = 71 ∧ k = 0 ∨ 5 = 71 ∧ k = 7 ∨ 5 = 71 ∧ k = 14 ∨ 5 = 71 ∧ k = 17 ∨ 5 = 71 ∧ k = 18 ∨ 5 = 71 ∧ k = 15 ∨ 5 = 71 ∧ k = 16 ∨ 5 = 71 ∧ k = 56 ∨ 5 = 71 ∧ k = 57 ∨ 5 = 71 ∧ k = 58) := fun k c => by omega
theorem x76_669 : ¬ (6 = 73 ∨ 6 = 75 ∨ 77 ≤ 6 ∧ 6 ≤ 82 ∨ 83 ≤ 6 ∧ 6 ≤ 91 ∨ 97 ≤ 6 ∧ 6 ≤ 119) := by omega
theorem x76_670 : ∀ k : Nat, ¬ (6 = 71 ∧ k = 0 ∨ 6 = 71 ∧ k = 7 ∨ 6 = 71 ∧ k = 14 ∨ 6 = 71 ∧ k = 17 ∨ 6 = 71 ∧ k = 18 ∨ 6 = 71 ∧ k = 15 ∨ 6 = 71 ∧ k = 16 ∨ 6 = 71 ∧ k = 56 ∨ 6 = 71 ∧ k = 57 ∨ 6 = 71 ∧ k = 58) := fun k c => by omega
theorem x76_671 : ¬ (6 = 54 ∨ 6 = 59 ∨ 6 = 60 ∨ 6 = 51 ∨ 6 = 66 ∨ 6 = 67 ∨ 6 = 10 ∨ 6 = 13 ∨ 30 ≤ 6 ∧ 6 ≤ 35 ∨ 37 ≤ 6 ∧ 6 ≤ 42 ∨ 44 ≤ 6 ∧ 6 ≤ 49 ∨ 6 = 56 ∨ 6 = 57 ∨ 62 ≤ 6 ∧ 6 ≤ 65 ∨ 6 = 5) := by omega
theorem x76_672 : ∀ k : Nat, ¬ (6 = 53 ∧ k = 1 ∨ 6 = 58 ∧ k = 2 ∨ 6 = 68 ∧ k = 1 ∨ 6 = 68 ∧ k = 2 ∨ 6 = 50 ∧ k = 1 ∨ 6 = 55 ∧ k = 2 ∨ 6 = 52 ∧ k = 10 ∨ 6 = 52 ∧ k = 11 ∨ 6 = 61 ∧ k = 1 ∨ 6 = 61 ∧ k = 2 ∨ 6 = 61 ∧ k = 5 ∨ 6 = 61 ∧ k = 7 ∨ 6 = 43 ∧ k = 4 ∨ 6 = 29 ∧ k = 4 ∨ 6 = 36 ∧ k = 4 ∨ 6 = 4 ∧ k = 1) := fun k c => by omega
theorem x76_673 : ¬ (74 = 73 ∨ 74 = 75 ∨ 77 ≤ 74 ∧ 74 ≤ 82 ∨ 83 ≤ 74 ∧ 74 ≤ 91 ∨ 97 ≤ 74 ∧ 74 ≤ 119) := by omega
theorem x76_674 : ∀ k : Nat, ¬ (74 = 71 ∧ k = 0 ∨ 74 = 71 ∧ k = 7 ∨ 74 = 71 ∧ k = 14 ∨ 74 = 71 ∧ k = 17 ∨ 74 = 71 ∧ k = 18 ∨ 74 = 71 ∧ k = 15 ∨ 74 = 71 ∧ k = 16 ∨ 74 = 71 ∧ k = 56 ∨ 74 = 71 ∧ k = 57 ∨ 74 = 71 ∧ k = 58) := fun k c => by omega
theorem x76_675 : ¬ (74 = 54 ∨ 74 = 59 ∨ 74 = 60 ∨ 74 = 51 ∨ 74 = 66 ∨ 74 = 67 ∨ 74 = 10 ∨ 74 = 13 ∨ 30 ≤ 74 ∧ 74 ≤ 35 ∨ 37 ≤ 74 ∧ 74 ≤ 42 ∨ 44 ≤ 74 ∧ 74 ≤ 49 ∨ 74 = 56 ∨ 74 = 57 ∨ 62 ≤ 74 ∧ 74 ≤ 65 ∨ 74 = 5) := by omega
theorem x76_676 : ∀ k : Nat, ¬ (74 = 53 ∧ k = 1 ∨ 74 = 58 ∧ k = 2 ∨ 74 = 68 ∧ k = 1 ∨ 74 = 68 ∧ k = 2 ∨ 74 = 50 ∧ k = 1 ∨ 74 = 55 ∧ k = 2 ∨ 74 = 52 ∧ k = 10 ∨ 74 = 52 ∧ k = 11 ∨ 74 = 61 ∧ k = 1 ∨ 74 = 61 ∧ k = 2 ∨ 74 = 61 ∧ k = 5 ∨ 74 = 61 ∧ k = 7 ∨ 74 = 43 ∧ k = 4 ∨ 74 = 29 ∧ k = 4 ∨ 74 = 36 ∧ k = 4 ∨ 74 = 4 ∧ k = 1) := fun k c => by omega
theorem x76_677 : ¬ (53 = 73 ∨ 53 = 75 ∨ 77 ≤ 53 ∧ 53 ≤ 82 ∨ 83 ≤ 53 ∧ 53 ≤ 91 ∨ 97 ≤ 53 ∧ 53 ≤ 119) := by omega
theorem x76_678 : ¬ (53 = 71 ∧ 1 = 0 ∨ 53 = 71 ∧ 1 = 7 ∨ 53 = 71 ∧ 1 = 14 ∨ 53 = 71 ∧ 1 = 17 ∨ 53 = 71 ∧ 1 = 18 ∨ 53 = 71 ∧ 1 = 15 ∨ 53 = 71 ∧ 1 = 16 ∨ 53 = 71 ∧ 1 = 56 ∨ 53 = 71 ∧ 1 = 57 ∨ 53 = 71 ∧ 1 = 58) := by omega
theorem x76_679 : ¬ (54 = 73 ∨ 54 = 75 ∨ 77 ≤ 54 ∧ 54 ≤ 82 ∨ 83 ≤ 54 ∧ 54 ≤ 91 ∨ 97 ≤ 54 ∧ 54 ≤ 119) := by omega
theorem x76_680 : ∀ k : Nat, ¬ (54 = 71 ∧ k = 0 ∨ 54 = 71 ∧ k = 7 ∨ 54 = 71 ∧ k = 14 ∨ 54 = 71 ∧ k = 17 ∨ 54 = 71 ∧ k = 18 ∨ 54 = 71 ∧ k = 15 ∨ 54 = 71 ∧ k = 16 ∨ 54 = 71 ∧ k = 56 ∨ 54 = 71 ∧ k = 57 ∨ 54 = 71 ∧ k = 58) := fun k c => by omega
theorem x76_681 : ¬ (55 = 73 ∨ 55 = 75 ∨ 77 ≤ 55 ∧ 55 ≤ 82 ∨ 83 ≤ 55 ∧ 55 ≤ 91 ∨ 97 ≤ 55 ∧ 55 ≤ 119) := by omega
theorem x76_682 : ¬ (55 = 71 ∧ 2 = 0 ∨ 55 = 71 ∧ 2 = 7 ∨ 55 = 71 ∧ 2 = 14 ∨ 55 = 71 ∧ 2 = 17 ∨ 55 = 71 ∧ 2 = 18 ∨ 55 = 71 ∧ 2 = 15 ∨ 55 = 71 ∧ 2 = 16 ∨ 55 = 71 ∧ 2 = 56 ∨ 55 = 71 ∧ 2 = 57 ∨ 55 = 71 ∧ 2 = 58) := by omega
theorem x76_683 : ¬ (56 = 73 ∨ 56 = 75 ∨ 77 ≤ 56 ∧ 56 ≤ 82 ∨ 83 ≤ 56 ∧ 56 ≤ 91 ∨ 97 ≤ 56 ∧ 56 ≤ 119) := by omega
theorem x76_684 : ∀ k : Nat, ¬ (56 = 71 ∧ k = 0 ∨ 56 = 71 ∧ k = 7 ∨ 56 = 71 ∧ k = 14 ∨ 56 = 71 ∧ k = 17 ∨ 56 = 71 ∧ k = 18 ∨ 56 = 71 ∧ k = 15 ∨ 56 = 71 ∧ k = 16 ∨ 56 = 71 ∧ k = 56 ∨ 56 = 71 ∧ k = 57 ∨ 56 = 71 ∧ k = 58) := fun k c => by omega
theorem x76_685 : ¬ (57 = 73 ∨ 57 = 75 ∨ 77 ≤ 57 ∧ 57 ≤ 82 ∨ 83 ≤ 57 ∧ 57 ≤ 91 ∨ 97 ≤ 57 ∧ 57 ≤ 119) := by omega
theorem x76_686 : ∀ k : Nat, ¬ (57 = 71 ∧ k = 0 ∨ 57 = 71 ∧ k = 7 ∨ 57 = 71 ∧ k = 14 ∨ 57 = 71 ∧ k = 17 ∨ 57 = 71 ∧ k = 18 ∨ 57 = 71 ∧ k = 15 ∨ 57 = 71 ∧ k = 16 ∨ 57 = 71 ∧ k = 56 ∨ 57 = 71 ∧ k = 57 ∨ 57 = 71 ∧ k = 58) := fun k c => by omega
theorem st_pack {h h1 h2 : ez_H} {x y : Int32} (R : RR h) (V1 : zV (fun q k => q = 53 ∧ k = 1 ∨ q = 58 ∧ k = 2 ∨ q = 68 ∧ k = 1 ∨ q = 68 ∧ k = 2 ∨ q = 50 ∧ k = 1 ∨ q = 55 ∧ k = 2 ∨ q = 52 ∧ k = 10 ∨ q = 52 ∧ k = 11 ∨ q = 61 ∧ k = 1 ∨ q = 61 ∧ k = 2 ∨ q = 61 ∧ k = 5 ∨ q = 61 ∧ k = 7 ∨ q = 43 ∧ k = 4 ∨ q = 29 ∧ k = 4 ∨ q = 36 ∧ k = 4 ∨ q = 4 ∧ k = 1) (fun q => q = 54 ∨ q = 59 ∨ q = 60 ∨ q = 51 ∨ q = 66 ∨ q = 67 ∨ q = 10 ∨ q = 13 ∨ 30 ≤ q ∧ q ≤ 35 ∨ 37 ≤ q ∧ q ≤ 42 ∨ 44 ≤ q ∧ q ≤ 49 ∨ q = 56 ∨ q = 57 ∨ 62 ≤ q ∧ q ≤ 65 ∨ q = 5) h h1) {c b : Nat} (p1 : (ez_I h1 53 1).toInt = (c : Nat)) (p2 : c ≤ 6000) (p3 : ltP (tI (ez_I h 3)) (ez_I h 2 1).toInt.toNat c) (p4 : ptP (tI (ez_I h 3)) (ez_I h 2 1).toInt.toNat c = (ez_I h 2 1).toInt.toNat) (p5 : pqG (ez_I h1 54) (aM (tI (ez_I h 3)) (ez_I h 2 1).toInt.toNat) (dI (tI (ez_I h 3)) (ez_I h 2 1).toInt.toNat) c) (p6 : (ez_I h1 55 2).toInt = (b : Nat)) (p7 : c = 0 ∧ b = 1 ∨ 0 < c ∧ b = (c + 599) / 600) (p8 : x.toInt = ((((pkS (tI (ez_I h 3)) (ez_I h 2 1).toInt.toNat c b b).2 + 7) / 8 : Nat) : Int)) (p9 : (ez_I h1 4 1).toInt = x.toInt) (p10 : x.toInt ≤ 6100) (p11 : ∀ i : Nat, (i : Int) < x.toInt → (ez_I h1 5 i).toInt = (((pkS (tI (ez_I h 3)) (ez_I h 2 1).toInt.toNat c b b).1 / 256 ^ i % 256 : Nat) : Int)) (p12 : ∀ i, i < b → bfC (ez_I h1 56) (ez_I h1 57) (tI (ez_I h 3)) (ez_I h 2 1).toInt.toNat c b i) (V2 : zV (fun q k => q = 71 ∧ k = 0 ∨ q = 71 ∧ k = 7 ∨ q = 71 ∧ k = 14 ∨ q = 71 ∧ k = 17 ∨ q = 71 ∧ k = 18 ∨ q = 71 ∧ k = 15 ∨ q = 71 ∧ k = 16 ∨ q = 71 ∧ k = 56 ∨ q = 71 ∧ k = 57 ∨ q = 71 ∧ k = 58) (fun q => q = 73 ∨ q = 75 ∨ 77 ≤ q ∧ q ≤ 82 ∨ 83 ≤ q ∧ q ≤ 91 ∨ 97 ≤ q ∧ q ≤ 119) h1 h2) {c2 b2 : Nat} (q1 : (ez_I h2 71 14).toInt = (c2 : Nat)) (q3 : ltP (tI (ez_I h 3)) (ez_I h 2 1).toInt.toNat c2) (q4 : ptP (tI (ez_I h 3)) (ez_I h 2 1).toInt.toNat c2 = (ez_I h 2 1).toInt.toNat) (q5 : pmI (ez_I h2 77) (ez_I h2 78) (ez_I h2 79) (ez_I h2 80) (tI (ez_I h 3)) (ez_I h 2 1).toInt.toNat c2) (q6 : (ez_I h2 71 15).toInt = (b2 : Nat)) (q7 : bnP c2 b2) (q8 : y.toInt = ((((pkS (tI (ez_I h 3)) (ez_I h 2 1).toInt.toNat c2 b2 b2).2 + 7) / 8 : Nat) : Int)) (q9 : (ez_I h2 71 7).toInt = y.toInt) (q11 : ∀ i : Nat, i < y.toInt.toNat → (ez_I h2 73 i).toInt % 256 = (((pkS (tI (ez_I h 3)) (ez_I h 2 1).toInt.toNat c2 b2 b2).1 / 256 ^ i % 256 : Nat) : Int)) (q12 : ∀ i, i < b2 → bfM (ez_I h2 83) (ez_I h2 84) (ez_I h2 85) (ez_I h2 86) (ez_I h2 87) (ez_I h2 88) (ez_I h2 89) (ez_I h2 90) (ez_I h2 91) (tI (ez_I h 3)) (ez_I h 2 1).toInt.toNat c2 b2 i) (q13 : aR (ez_I h2 75) 8000 (-128) 127) : RR h2 ∧ x.toInt = y.toInt := by
  have ec : c2 = c := pc_1 q3 q4 p3 p4
  subst ec
  have eb : b2 = b := bn_1 q7 p7
  subst eb
  exact ⟨⟨V2.1, (by rw [(show ez_I h2 15 4 = ez_I h1 15 4 from zV_f V2 15 4 x76_581 x76_582), (show ez_I h1 15 4 = ez_I h 15 4 from zV_f V1 15 4 x76_583 x76_584), (show ez_I h2 16 = ez_I h1 16 from zV_fn V2 16 x76_585 x76_586), (show ez_I h1 16 = ez_I h 16 from zV_fn V1 16 x76_587 x76_588), (show ez_I h2 17 = ez_I h1 17 from zV_fn V2 17 x76_589 x76_590), (show ez_I h1 17 = ez_I h 17 from zV_fn V1 17 x76_591 x76_592), (show ez_I h2 18 = ez_I h1 18 from zV_fn V2 18 x76_593 x76_594), (show ez_I h1 18 = ez_I h 18 from zV_fn V1 18 x76_595 x76_596), (show ez_I h2 19 = ez_I h1 19 from zV_fn V2 19 x76_597 x76_598), (show ez_I h1 19 = ez_I h 19 from zV_fn V1 19 x76_599 x76_600), (show ez_I h2 22 4 = ez_I h1 22 4 from zV_f V2 22 4 x76_601 x76_602), (show ez_I h1 22 4 = ez_I h 22 4 from zV_f V1 22 4 x76_603 x76_604), (show ez_I h2 23 = ez_I h1 23 from zV_fn V2 23 x76_605 x76_606), (show ez_I h1 23 = ez_I h 23 from zV_fn V1 23 x76_607 x76_608), (show ez_I h2 24 = ez_I h1 24 from zV_fn V2 24 x76_609 x76_610), (show ez_I h1 24 = ez_I h 24 from zV_fn V1 24 x76_611 x76_612), (show ez_I h2 25 = ez_I h1 25 from zV_fn V2 25 x76_613 x76_614), (show ez_I h1 25 = ez_I h 25 from zV_fn V1 25 x76_615 x76_616), (show ez_I h2 26 = ez_I h1 26 from zV_fn V2 26 x76_617 x76_618), (show ez_I h1 26 = ez_I h 26 from zV_fn V1 26 x76_619 x76_620)]; exact R.2.1), (by rw [(show ez_I h2 92 = ez_I h1 92 from zV_fn V2 92 x76_621 x76_622), (show ez_I h1 92 = ez_I h 92 from zV_fn V1 92 x76_623 x76_624), (show ez_I h2 93 = ez_I h1 93 from zV_fn V2 93 x76_625 x76_626), (show ez_I h1 93 = ez_I h 93 from zV_fn V1 93 x76_627 x76_628), (show ez_I h2 94 = ez_I h1 94 from zV_fn V2 94 x76_629 x76_630), (show ez_I h1 94 = ez_I h 94 from zV_fn V1 94 x76_631 x76_632), (show ez_I h2 95 = ez_I h1 95 from zV_fn V2 95 x76_633 x76_634), (show ez_I h1 95 = ez_I h 95 from zV_fn V1 95 x76_635 x76_636), (show ez_I h2 96 = ez_I h1 96 from zV_fn V2 96 x76_637 x76_638), (show ez_I h1 96 = ez_I h 96 from zV_fn V1 96 x76_639 x76_640)]; exact ⟨q13, R.2.2.1.2⟩), (by rw [(show ez_I h2 7 = ez_I h1 7 from zV_fn V2 7 x76_641 x76_642), (show ez_I h1 7 = ez_I h 7 from zV_fn V1 7 x76_643 x76_644), (show ez_I h2 124 = ez_I h1 124 from zV_fn V2 124 x76_645 x76_646), (show ez_I h1 124 = ez_I h 124 from zV_fn V1 124 x76_647 x76_648)]; exact R.2.2.2.1), (by rw [(show ez_I h2 2 1 = ez_I h1 2 1 from zV_f V2 2 1 x76_649 x76_650), (show ez_I h1 2 1 = ez_I h 2 1 from zV_f V1 2 1 x76_651 x76_652), (show ez_I h2 3 = ez_I h1 3 from zV_fn V2 3 x76_653 x76_654), (show ez_I h1 3 = ez_I h 3 from zV_fn V1 3 x76_655 x76_656), (show ez_I h2 71 6 = ez_I h1 71 6 from zV_f V2 71 6 x76_657 x76_658), (show ez_I h1 71 6 = ez_I h 71 6 from zV_f V1 71 6 x76_659 x76_660), (show ez_I h2 72 = ez_I h1 72 from zV_fn V2 72 x76_661 x76_662), (show ez_I h1 72 = ez_I h 72 from zV_fn V1 72 x76_663 x76_664)]; exact R.2.2.2.2.1), (by rw [(show ez_I h2 4 1 = ez_I h1 4 1 from zV_f V2 4 1 x76_665 x76_666), (show ez_I h2 5 = ez_I h1 5 from zV_fn V2 5 x76_667 x76_668)]; exact ⟨by omega, by omega, by omega, fun i hi => by rw [p11 i (by omega), q11 i (by omega)]⟩), (by rw [(show ez_I h2 6 = ez_I h1 6 from zV_fn V2 6 x76_669 x76_670), (show ez_I h1 6 = ez_I h 6 from zV_fn V1 6 x76_671 x76_672), (show ez_I h2 74 = ez_I h1 74 from zV_fn V2 74 x76_673 x76_674), (show ez_I h1 74 = ez_I h 74 from zV_fn V1 74 x76_675 x76_676)]; exact R.2.2.2.2.2.2.1), (by rw [(show ez_I h2 53 1 = ez_I h1 53 1 from zV_f V2 53 1 x76_677 x76_678), (show ez_I h2 54 = ez_I h1 54 from zV_fn V2 54 x76_679 x76_680)]; exact ⟨_, _, c2, p1, q1, p2, fun i hi => RR_b R i hi, p3, p5, q5⟩), (by rw [(show ez_I h2 55 2 = ez_I h1 55 2 from zV_f V2 55 2 x76_681 x76_682), (show ez_I h2 56 = ez_I h1 56 from zV_fn V2 56 x76_683 x76_684), (show ez_I h2 57 = ez_I h1 57 from zV_fn V2 57 x76_685 x76_686)]; exact ⟨_, _, c2, b2, b2, p6, q6, (by unfold bnP at q7; omega), p12, q12⟩)⟩, (by omega)⟩
theorem x76_687 : ¬ (110 ≤ 15 ∧ 15 ≤ 114 ∨ 15 = 124 ∨ 15 = 125) := by omega
theorem x76_688 : ¬ (15 = 7 ∨ 15 = 8 ∨ 15 = 10 ∨ 15 = 13) := by omega
theorem x76_689 : ¬ (110 ≤ 16 ∧ 16 ≤ 114 ∨ 16 = 124 ∨ 16 = 125) := by omega
theorem x76_690 : ¬ (16 = 7 ∨ 16 = 8 ∨ 16 = 10 ∨ 16 = 13) := by omega
theorem x76_691 : ¬ (110 ≤ 17 ∧ 17 ≤ 114 ∨ 17 = 124 ∨ 17 = 125) := by omega
theorem x76_692 : ¬ (17 = 7 ∨ 17 = 8 ∨ 17 = 10 ∨ 17 = 13) := by omega
theorem x76_693 : ¬ (110 ≤ 18 ∧ 18 ≤ 114 ∨ 18 = 124 ∨ 18 = 125) := by omega
theorem x76_694 : ¬ (18 = 7 ∨ 18 = 8 ∨ 18 = 10 ∨ 18 = 13) := by omega
theorem x76_695 : ¬ (110 ≤ 19 ∧ 19 ≤ 114 ∨ 19 = 124 ∨ 19 = 125) := by omega
theorem x76_696 : ¬ (19 = 7 ∨ 19 = 8 ∨ 19 = 10 ∨ 19 = 13) := by omega
theorem x76_697 : ¬ (110 ≤ 22 ∧ 22 ≤ 114 ∨ 22 = 124 ∨ 22 = 125) := by omega
theorem x76_698 : ¬ (22 = 7 ∨ 22 = 8 ∨ 22 = 10 ∨ 22 = 13) := by omega
theorem x76_699 : ¬ (110 ≤ 23 ∧ 23 ≤ 114 ∨ 23 = 124 ∨ 23 = 125) := by omega
theorem x76_700 : ¬ (23 = 7 ∨ 23 = 8 ∨ 23 = 10 ∨ 23 = 13) := by omega
theorem x76_701 : ¬ (110 ≤ 24 ∧ 24 ≤ 114 ∨ 24 = 124 ∨ 24 = 125) := by omega
theorem x76_702 : ¬ (24 = 7 ∨ 24 = 8 ∨ 24 = 10 ∨ 24 = 13) := by omega
theorem x76_703 : ¬ (110 ≤ 25 ∧ 25 ≤ 114 ∨ 25 = 124 ∨ 25 = 125) := by omega
theorem x76_704 : ¬ (25 = 7 ∨ 25 = 8 ∨ 25 = 10 ∨ 25 = 13) := by omega
theorem x76_705 : ¬ (110 ≤ 26 ∧ 26 ≤ 114 ∨ 26 = 124 ∨ 26 = 125) := by omega
theorem x76_706 : ¬ (26 = 7 ∨ 26 = 8 ∨ 26 = 10 ∨ 26 = 13) := by omega
theorem x76_707 : ¬ (110 ≤ 75 ∧ 75 ≤ 114 ∨ 75 = 124 ∨ 75 = 125) := by omega
theorem x76_708 : ¬ (75 = 7 ∨ 75 = 8 ∨ 75 = 10 ∨ 75 = 13) := by omega
theorem x76_709 : ¬ (110 ≤ 92 ∧ 92 ≤ 114 ∨ 92 = 124 ∨ 92 = 125) := by omega
theorem x76_710 : ¬ (92 = 7 ∨ 92 = 8 ∨ 92 = 10 ∨ 92 = 13) := by omega
theorem x76_711 : ¬ (110 ≤ 93 ∧ 93 ≤ 114 ∨ 93 = 124 ∨ 93 = 125) := by omega
theorem x76_712 : ¬ (93 = 7 ∨ 93 = 8 ∨ 93 = 10 ∨ 93 = 13) := by omega
theorem x76_713 : ¬ (110 ≤ 94 ∧ 94 ≤ 114 ∨ 94 = 124 ∨ 94 = 125) := by omega
theorem x76_714 : ¬ (94 = 7 ∨ 94 = 8 ∨ 94 = 10 ∨ 94 = 13) := by omega
theorem x76_715 : ¬ (110 ≤ 95 ∧ 95 ≤ 114 ∨ 95 = 124 ∨ 95 = 125) := by omega
theorem x76_716 : ¬ (95 = 7 ∨ 95 = 8 ∨ 95 = 10 ∨ 95 = 13) := by omega
theorem x76_717 : ¬ (110 ≤ 96 ∧ 96 ≤ 114 ∨ 96 = 124 ∨ 96 = 125) := by omega
theorem x76_718 : ¬ (96 = 7 ∨ 96 = 8 ∨ 96 = 10 ∨ 96 = 13) := by omega
theorem x76_719 : ¬ (110 ≤ 7 ∧ 7 ≤ 114 ∨ 7 = 124 ∨ 7 = 125) := by omega
theorem x76_720 : ¬ (110 ≤ 2 ∧ 2 ≤ 114 ∨ 2 = 124 ∨ 2 = 125) := by omega
theorem x76_721 : ¬ (2 = 7 ∨ 2 = 8 ∨ 2 = 10 ∨ 2 = 13) := by omega
theorem x76_722 : ¬ (110 ≤ 3 ∧ 3 ≤ 114 ∨ 3 = 124 ∨ 3 = 125) := by omega
theorem x76_723 : ¬ (3 = 7 ∨ 3 = 8 ∨ 3 = 10 ∨ 3 = 13) := by omega
theorem x76_724 : ¬ (110 ≤ 71 ∧ 71 ≤ 114 ∨ 71 = 124 ∨ 71 = 125) := by omega
theorem x76_725 : ¬ (71 = 7 ∨ 71 = 8 ∨ 71 = 10 ∨ 71 = 13) := by omega
theorem x76_726 : ¬ (110 ≤ 72 ∧ 72 ≤ 114 ∨ 72 = 124 ∨ 72 = 125) := by omega
theorem x76_727 : ¬ (72 = 7 ∨ 72 = 8 ∨ 72 = 10 ∨ 72 = 13) := by omega
theorem x76_728 : ¬ (110 ≤ 4 ∧ 4 ≤ 114 ∨ 4 = 124 ∨ 4 = 125) := by omega
theorem x76_729 : ¬ (4 = 7 ∨ 4 = 8 ∨ 4 = 10 ∨ 4 = 13) := by omega
theorem x76_730 : ¬ (110 ≤ 5 ∧ 5 ≤ 114 ∨ 5 = 124 ∨ 5 = 125) := by omega
theorem x76_731 : ¬ (5 = 7 ∨ 5 = 8 ∨ 5 = 10 ∨ 5 = 13) := by omega
theorem x76_732 : ¬ (110 ≤ 73 ∧ 73 ≤ 114 ∨ 73 = 124 ∨ 73 = 125) := by omega
theorem x76_733 : ¬ (73 = 7 ∨ 73 = 8 ∨ 73 = 10 ∨ 73 = 13) := by omega
theorem x76_734 : ¬ (110 ≤ 6 ∧ 6 ≤ 114 ∨ 6 = 124 ∨ 6 = 125) := by omega
theorem x76_735 : ¬ (6 = 7 ∨ 6 = 8 ∨ 6 = 10 ∨ 6 = 13) := by omega
theorem x76_736 : ¬ (110 ≤ 74 ∧ 74 ≤ 114 ∨ 74 = 124 ∨ 74 = 125) := by omega
theorem x76_737 : ¬ (74 = 7 ∨ 74 = 8 ∨ 74 = 10 ∨ 74 = 13) := by omega
theorem x76_738 : ¬ (110 ≤ 53 ∧ 53 ≤ 114 ∨ 53 = 124 ∨ 53 = 125) := by omega
theorem x76_739 : ¬ (53 = 7 ∨ 53 = 8 ∨ 53 = 10 ∨ 53 = 13) := by omega
theorem x76_740 : ¬ (110 ≤ 54 ∧ 54 ≤ 114 ∨ 54 = 124 ∨ 54 = 125) := by omega
theorem x76_741 : ¬ (54 = 7 ∨ 54 = 8 ∨ 54 = 10 ∨ 54 = 13) := by omega
theorem x76_742 : ¬ (110 ≤ 77 ∧ 77 ≤ 114 ∨ 77 = 124 ∨ 77 = 125) := by omega
theorem x76_743 : ¬ (77 = 7 ∨ 77 = 8 ∨ 77 = 10 ∨ 77 = 13) := by omega
theorem x76_744 : ¬ (110 ≤ 78 ∧ 78 ≤ 114 ∨ 78 = 124 ∨ 78 = 125) := by omega
theorem x76_745 : ¬ (78 = 7 ∨ 78 = 8 ∨ 78 = 10 ∨ 78 = 13) := by omega
theorem x76_746 : ¬ (110 ≤ 79 ∧ 79 ≤ 114 ∨ 79 = 124 ∨ 79 = 125) := by omega
theorem x76_747 : ¬ (79 = 7 ∨ 79 = 8 ∨ 79 = 10 ∨ 79 = 13) := by omega
theorem x76_748 : ¬ (110 ≤ 80 ∧ 80 ≤ 114 ∨ 80 = 124 ∨ 80 = 125) := by omega
theorem x76_749 : ¬ (80 = 7 ∨ 80 = 8 ∨ 80 = 10 ∨ 80 = 13) := by omega
theorem x76_750 : ¬ (110 ≤ 55 ∧ 55 ≤ 114 ∨ 55 = 124 ∨ 55 = 125) := by omega
theorem x76_751 : ¬ (55 = 7 ∨ 55 = 8 ∨ 55 = 10 ∨ 55 = 13) := by omega
theorem x76_752 : ¬ (110 ≤ 56 ∧ 56 ≤ 114 ∨ 56 = 124 ∨ 56 = 125) := by omega
theorem x76_753 : ¬ (56 = 7 ∨ 56 = 8 ∨ 56 = 10 ∨ 56 = 13) := by omega
theorem x76_754 : ¬ (110 ≤ 57 ∧ 57 ≤ 114 ∨ 57 = 124 ∨ 57 = 125) := by omega
theorem x76_755 : ¬ (57 = 7 ∨ 57 = 8 ∨ 57 = 10 ∨ 57 = 13) := by omega
theorem x76_756 : ¬ (110 ≤ 83 ∧ 83 ≤ 114 ∨ 83 = 124 ∨ 83 = 125) := by omega
theorem x76_757 : ¬ (83 = 7 ∨ 83 = 8 ∨ 83 = 10 ∨ 83 = 13) := by omega
theorem x76_758 : ¬ (110 ≤ 84 ∧ 84 ≤ 114 ∨ 84 = 124 ∨ 84 = 125) := by omega
theorem x76_759 : ¬ (84 = 7 ∨ 84 = 8 ∨ 84 = 10 ∨ 84 = 13) := by omega
theorem x76_760 : ¬ (110 ≤ 85 ∧ 85 ≤ 114 ∨ 85 = 124 ∨ 85 = 125) := by omega
theorem x76_761 : ¬ (85 = 7 ∨ 85 = 8 ∨ 85 = 10 ∨ 85 = 13) := by omega
theorem x76_762 : ¬ (110 ≤ 86 ∧ 86 ≤ 114 ∨ 86 = 124 ∨ 86 = 125) := by omega
theorem x76_763 : ¬ (86 = 7 ∨ 86 = 8 ∨ 86 = 10 ∨ 86 = 13) := by omega
theorem x76_764 : ¬ (110 ≤ 87 ∧ 87 ≤ 114 ∨ 87 = 124 ∨ 87 = 125) := by omega
theorem x76_765 : ¬ (87 = 7 ∨ 87 = 8 ∨ 87 = 10 ∨ 87 = 13) := by omega
theorem x76_766 : ¬ (110 ≤ 88 ∧ 88 ≤ 114 ∨ 88 = 124 ∨ 88 = 125) := by omega
theorem x76_767 : ¬ (88 = 7 ∨ 88 = 8 ∨ 88 = 10 ∨ 88 = 13) := by omega
theorem x76_768 : ¬ (110 ≤ 89 ∧ 89 ≤ 114 ∨ 89 = 124 ∨ 89 = 125) := by omega
theorem x76_769 : ¬ (89 = 7 ∨ 89 = 8 ∨ 89 = 10 ∨ 89 = 13) := by omega
theorem x76_770 : ¬ (110 ≤ 90 ∧ 90 ≤ 114 ∨ 90 = 124 ∨ 90 = 125) := by omega
theorem x76_771 : ¬ (90 = 7 ∨ 90 = 8 ∨ 90 = 10 ∨ 90 = 13) := by omega
theorem x76_772 : ¬ (110 ≤ 91 ∧ 91 ≤ 114 ∨ 91 = 124 ∨ 91 = 125) := by omega
theorem x76_773 : ¬ (91 = 7 ∨ 91 = 8 ∨ 91 = 10 ∨ 91 = 13) := by omega
theorem st_w {h h1 h2 : ez_H}  (R : RR h) (V1 : zV (fun _ _ => False) (fun q => q = 7 ∨ q = 8 ∨ q = 10 ∨ q = 13) h h1) (a1 : aR (ez_I h1 7) 64 0 1000000) (V2 : zV (fun q k => q = 71 ∧ k = 0) (fun q => 110 ≤ q ∧ q ≤ 114 ∨ q = 124 ∨ q = 125) h1 h2) (a2 : aR (ez_I h2 124) 64 0 1000000) : RR h2 := by
  exact ⟨V2.1, (by rw [(show ez_I h2 15 4 = ez_I h1 15 4 from zV_f V2 15 4 x76_687 x76_0), (show ez_I h1 15 4 = ez_I h 15 4 from zV_f V1 15 4 x76_688 (fun c => c)), (show ez_I h2 16 = ez_I h1 16 from zV_fn V2 16 x76_689 x76_1), (show ez_I h1 16 = ez_I h 16 from zV_fn V1 16 x76_690 (fun _ c => c)), (show ez_I h2 17 = ez_I h1 17 from zV_fn V2 17 x76_691 x76_2), (show ez_I h1 17 = ez_I h 17 from zV_fn V1 17 x76_692 (fun _ c => c)), (show ez_I h2 18 = ez_I h1 18 from zV_fn V2 18 x76_693 x76_3), (show ez_I h1 18 = ez_I h 18 from zV_fn V1 18 x76_694 (fun _ c => c)), (show ez_I h2 19 = ez_I h1 19 from zV_fn V2 19 x76_695 x76_4), (show ez_I h1 19 = ez_I h 19 from zV_fn V1 19 x76_696 (fun _ c => c)), (show ez_I h2 22 4 = ez_I h1 22 4 from zV_f V2 22 4 x76_697 x76_5), (show ez_I h1 22 4 = ez_I h 22 4 from zV_f V1 22 4 x76_698 (fun c => c)), (show ez_I h2 23 = ez_I h1 23 from zV_fn V2 23 x76_699 x76_6), (show ez_I h1 23 = ez_I h 23 from zV_fn V1 23 x76_700 (fun _ c => c)), (show ez_I h2 24 = ez_I h1 24 from zV_fn V2 24 x76_701 x76_7), (show ez_I h1 24 = ez_I h 24 from zV_fn V1 24 x76_702 (fun _ c => c)), (show ez_I h2 25 = ez_I h1 25 from zV_fn V2 25 x76_703 x76_8), (show ez_I h1 25 = ez_I h 25 from zV_fn V1 25 x76_704 (fun _ c => c)), (show ez_I h2 26 = ez_I h1 26 from zV_fn V2 26 x76_705 x76_9), (show ez_I h1 26 = ez_I h 26 from zV_fn V1 26 x76_706 (fun _ c => c))]; exact R.2.1), (by rw [(show ez_I h2 75 = ez_I h1 75 from zV_fn V2 75 x76_707 x76_10), (show ez_I h1 75 = ez_I h 75 from zV_fn V1 75 x76_708 (fun _ c => c)), (show ez_I h2 92 = ez_I h1 92 from zV_fn V2 92 x76_709 x76_11), (show ez_I h1 92 = ez_I h 92 from zV_fn V1 92 x76_710 (fun _ c => c)), (show ez_I h2 93 = ez_I h1 93 from zV_fn V2 93 x76_711 x76_12), (show ez_I h1 93 = ez_I h 93 from zV_fn V1 93 x76_712 (fun _ c => c)), (show ez_I h2 94 = ez_I h1 94 from zV_fn V2 94 x76_713 x76_13), (show ez_I h1 94 = ez_I h 94 from zV_fn V1 94 x76_714 (fun _ c => c)), (show ez_I h2 95 = ez_I h1 95 from zV_fn V2 95 x76_715 x76_14), (show ez_I h1 95 = ez_I h 95 from zV_fn V1 95 x76_716 (fun _ c => c)), (show ez_I h2 96 = ez_I h1 96 from zV_fn V2 96 x76_717 x76_15), (show ez_I h1 96 = ez_I h 96 from zV_fn V1 96 x76_718 (fun _ c => c))]; exact R.2.2.1), (by rw [(show ez_I h2 7 = ez_I h1 7 from zV_fn V2 7 x76_719 x76_16)]; exact ⟨a1, a2⟩), (by rw [(show ez_I h2 2 1 = ez_I h1 2 1 from zV_f V2 2 1 x76_720 x76_18), (show ez_I h1 2 1 = ez_I h 2 1 from zV_f V1 2 1 x76_721 (fun c => c)), (show ez_I h2 3 = ez_I h1 3 from zV_fn V2 3 x76_722 x76_19), (show ez_I h1 3 = ez_I h 3 from zV_fn V1 3 x76_723 (fun _ c => c)), (show ez_I h2 71 6 = ez_I h1 71 6 from zV_f V2 71 6 x76_724 x76_20), (show ez_I h1 71 6 = ez_I h 71 6 from zV_f V1 71 6 x76_725 (fun c => c)), (show ez_I h2 72 = ez_I h1 72 from zV_fn V2 72 x76_726 x76_21), (show ez_I h1 72 = ez_I h 72 from zV_fn V1 72 x76_727 (fun _ c => c))]; exact R.2.2.2.2.1), (by rw [(show ez_I h2 4 1 = ez_I h1 4 1 from zV_f V2 4 1 x76_728 x76_22), (show ez_I h1 4 1 = ez_I h 4 1 from zV_f V1 4 1 x76_729 (fun c => c)), (show ez_I h2 5 = ez_I h1 5 from zV_fn V2 5 x76_730 x76_23), (show ez_I h1 5 = ez_I h 5 from zV_fn V1 5 x76_731 (fun _ c => c)), (show ez_I h2 71 7 = ez_I h1 71 7 from zV_f V2 71 7 x76_724 x76_24), (show ez_I h1 71 7 = ez_I h 71 7 from zV_f V1 71 7 x76_725 (fun c => c)), (show ez_I h2 73 = ez_I h1 73 from zV_fn V2 73 x76_732 x76_25), (show ez_I h1 73 = ez_I h 73 from zV_fn V1 73 x76_733 (fun _ c => c))]; exact R.2.2.2.2.2.1), (by rw [(show ez_I h2 6 = ez_I h1 6 from zV_fn V2 6 x76_734 x76_26), (show ez_I h1 6 = ez_I h 6 from zV_fn V1 6 x76_735 (fun _ c => c)), (show ez_I h2 74 = ez_I h1 74 from zV_fn V2 74 x76_736 x76_27), (show ez_I h1 74 = ez_I h 74 from zV_fn V1 74 x76_737 (fun _ c => c))]; exact R.2.2.2.2.2.2.1), (by rw [(show ez_I h2 53 1 = ez_I h1 53 1 from zV_f V2 53 1 x76_738 x76_28), (show ez_I h1 53 1 = ez_I h 53 1 from zV_f V1 53 1 x76_739 (fun c => c)), (show ez_I h2 54 = ez_I h1 54 from zV_fn V2 54 x76_740 x76_29), (show ez_I h1 54 = ez_I h 54 from zV_fn V1 54 x76_741 (fun _ c => c)), (show ez_I h2 71 14 = ez_I h1 71 14 from zV_f V2 71 14 x76_724 x76_30), (show ez_I h1 71 14 = ez_I h 71 14 from zV_f V1 71 14 x76_725 (fun c => c)), (show ez_I h2 77 = ez_I h1 77 from zV_fn V2 77 x76_742 x76_31), (show ez_I h1 77 = ez_I h 77 from zV_fn V1 77 x76_743 (fun _ c => c)), (show ez_I h2 78 = ez_I h1 78 from zV_fn V2 78 x76_744 x76_32), (show ez_I h1 78 = ez_I h 78 from zV_fn V1 78 x76_745 (fun _ c => c)), (show ez_I h2 79 = ez_I h1 79 from zV_fn V2 79 x76_746 x76_33), (show ez_I h1 79 = ez_I h 79 from zV_fn V1 79 x76_747 (fun _ c => c)), (show ez_I h2 80 = ez_I h1 80 from zV_fn V2 80 x76_748 x76_34), (show ez_I h1 80 = ez_I h 80 from zV_fn V1 80 x76_749 (fun _ c => c))]; exact R.2.2.2.2.2.2.2.1), (by rw [(show ez_I h2 55 2 = ez_I h1 55 2 from zV_f V2 55 2 x76_750 x76_35), (show ez_I h1 55 2 = ez_I h 55 2 from zV_f V1 55 2 x76_751 (fun c => c)), (show ez_I h2 56 = ez_I h1 56 from zV_fn V2 56 x76_752 x76_36), (show ez_I h1 56 = ez_I h 56 from zV_fn V1 56 x76_753 (fun _ c => c)), (show ez_I h2 57 = ez_I h1 57 from zV_fn V2 57 x76_754 x76_37), (show ez_I h1 57 = ez_I h 57 from zV_fn V1 57 x76_755 (fun _ c => c)), (show ez_I h2 71 15 = ez_I h1 71 15 from zV_f V2 71 15 x76_724 x76_38), (show ez_I h1 71 15 = ez_I h 71 15 from zV_f V1 71 15 x76_725 (fun c => c)), (show ez_I h2 83 = ez_I h1 83 from zV_fn V2 83 x76_756 x76_39), (show ez_I h1 83 = ez_I h 83 from zV_fn V1 83 x76_757 (fun _ c => c)), (show ez_I h2 84 = ez_I h1 84 from zV_fn V2 84 x76_758 x76_40), (show ez_I h1 84 = ez_I h 84 from zV_fn V1 84 x76_759 (fun _ c => c)), (show ez_I h2 85 = ez_I h1 85 from zV_fn V2 85 x76_760 x76_41), (show ez_I h1 85 = ez_I h 85 from zV_fn V1 85 x76_761 (fun _ c => c)), (show ez_I h2 86 = ez_I h1 86 from zV_fn V2 86 x76_762 x76_42), (show ez_I h1 86 = ez_I h 86 from zV_fn V1 86 x76_763 (fun _ c => c)), (show ez_I h2 87 = ez_I h1 87 from zV_fn V2 87 x76_764 x76_43), (show ez_I h1 87 = ez_I h 87 from zV_fn V1 87 x76_765 (fun _ c => c)), (show ez_I h2 88 = ez_I h1 88 from zV_fn V2 88 x76_766 x76_44), (show ez_I h1 88 = ez_I h 88 from zV_fn V1 88 x76_767 (fun _ c => c)), (show ez_I h2 89 = ez_I h1 89 from zV_fn V2 89 x76_768 x76_45), (show ez_I h1 89 = ez_I h 89 from zV_fn V1 89 x76_769 (fun _ c => c)), (show ez_I h2 90 = ez_I h1 90 from zV_fn V2 90 x76_770 x76_46), (show ez_I h1 90 = ez_I h 90 from zV_fn V1 90 x76_771 (fun _ c => c)), (show ez_I h2 91 = ez_I h1 91 from zV_fn V2 91 x76_772 x76_47), (show ez_I h1 91 = ez_I h 91 from zV_fn V1 91 x76_773 (fun _ c => c))]; exact R.2.2.2.2.2.2.2.2)⟩
end
section
/-! the answers of calls that change nothing told -/
theorem an_about {h : ez_H} {w x y : Int32} (R : RR h) (k1 : w.toInt = 0 → x = ez_I h 2 1) (k2 : w.toInt = 1 → x = ez_I h 4 1) (k3 : w.toInt ≠ 0 → w.toInt ≠ 1 → x.toInt = -1) (j1 : w.toInt = 0 → y = ez_I h 71 6) (j2 : w.toInt = 1 → y = ez_I h 71 7) (j3 : w.toInt ≠ 0 → w.toInt ≠ 1 → y.toInt = -1) : x.toInt = y.toInt := by
  by_cases a : w.toInt = 0
  · rw [k1 a, j1 a]; exact R.2.2.2.2.1.1
  · by_cases b : w.toInt = 1
    · rw [k2 b, j2 b]; exact R.2.2.2.2.2.1.1
    · rw [k3 a b, j3 a b]
end
section
/-! what both objects tell behind the constructors -/
noncomputable def cq1 (S : ev_S) (p n : Nat) (f : Nat → Nat) : Bool := match ev_gc S.2.2 p with
  | .mul (.add (.num a) (.num b)) (.add ai (.add _ _)) => and (Nat.ble 1000 a) (and (Nat.ble n b) ((List.range n).all (fun k => and (Nat.beq (ev_g ai k) (f k)) (Nat.blt (f k) 2147483648))))
  | _ => false
theorem cq1_ok {S : ev_S} {h : ez_H} {p n : Nat} {f : Nat → Nat} (H : cq1 S p n f = true) (hr : ev_rel S h) (hp : p < 128) : cpN (ez_I h p) f n := by
  unfold cq1 at H
  split at H
  · rename_i a b ai al ar e
    obtain ⟨h1, h2⟩ := ev_and H
    obtain ⟨h2, h4⟩ := ev_and h2
    have hc := hr.2.2 p hp
    rw [e] at hc
    have h1 := Nat.le_of_ble_eq_true h1
    have h2 := Nat.le_of_ble_eq_true h2
    have hsz : ev_sz a b = b := by
      unfold ev_sz
      have : Nat.blt a 1000 = false := by
        cases q : Nat.blt a 1000 with
        | false => rfl
        | true => have := Nat.blt_eq.mp q; omega
      rw [this]
      rfl
    intro k hk
    have := List.all_eq_true.mp h4 k (List.mem_range.mpr hk)
    obtain ⟨b1, b2⟩ := ev_and this
    have b1 := Nat.eq_of_beq_eq_true b1
    have b2 := Nat.blt_eq.mp b2
    have v := (hc.2.2 k (by rw [hsz]; omega)).1 (by omega)
    have := z_of_u (x := ez_I h p k) (by omega)
    omega
  · cases H
noncomputable def iq1 (S : ev_S) (p n : Nat) (f : Nat → Nat) : Bool := match ev_gc S.2.2 p with
  | .mul (.add (.num a) (.num b)) (.add ai (.add _ _)) => and (Nat.ble 1000 a) (and (Nat.blt n 2147483648) ((List.range n).all (fun k => and (Nat.blt (f k) b) (Nat.beq (ev_g ai (f k)) k))))
  | _ => false
theorem iq1_ok {S : ev_S} {h : ez_H} {p n : Nat} {f : Nat → Nat} (H : iq1 S p n f = true) (hr : ev_rel S h) (hp : p < 128) : ∀ k, k < n → (ez_I h p (f k)).toInt = (k : Nat) := by
  unfold iq1 at H
  split at H
  · rename_i a b ai al ar e
    obtain ⟨h1, h2⟩ := ev_and H
    obtain ⟨h2, h4⟩ := ev_and h2
    have hc := hr.2.2 p hp
    rw [e] at hc
    have h1 := Nat.le_of_ble_eq_true h1
    have h2 := Nat.blt_eq.mp h2
    have hsz : ev_sz a b = b := by
      unfold ev_sz
      have : Nat.blt a 1000 = false := by
        cases q : Nat.blt a 1000 with
        | false => rfl
        | true => have := Nat.blt_eq.mp q; omega
      rw [this]
      rfl
    intro k hk
    have := List.all_eq_true.mp h4 k (List.mem_range.mpr hk)
    obtain ⟨b1, b2⟩ := ev_and this
    have b1 := Nat.blt_eq.mp b1
    have b2 := Nat.eq_of_beq_eq_true b2
    have v := (hc.2.2 (f k) (by rw [hsz]; omega)).1 (by omega)
    have := z_of_u (x := ez_I h p (f k)) (by omega)
    omega
  · cases H
/-- the fixed codes, told shortly -/
noncomputable def fxC (l : Nat) : Nat := if l = 8 then 48 else if l = 9 then 400 else 0
noncomputable def fxP (l : Nat) : Nat := if l = 8 then 24 else if l = 9 then 176 else 0
noncomputable def fxN (k : Nat) : Nat := if k < 144 then k else if k < 256 then k - 144 else if k < 280 then k - 256 else k - 280 + 144
theorem fx_n : ∀ k, k < 288 → ctN fxL (fxL k) k = fxN k := by
  have e : ((List.range 288).all (fun k => Nat.beq (ctN fxL (fxL k) k) (fxN k))) = true := by decide +kernel
  intro k hk
  exact Nat.eq_of_beq_eq_true (List.all_eq_true.mp e k (List.mem_range.mpr hk))
theorem fxL_v (k : Nat) : fxL k = 7 ∨ fxL k = 8 ∨ fxL k = 9 := by
  unfold fxL
  by_cases a : k < 144
  · rw [if_pos a]; omega
  · rw [if_neg a]
    by_cases b : k < 256
    · rw [if_pos b]; omega
    · rw [if_neg b]
      by_cases c : k < 280
      · rw [if_pos c]; omega
      · rw [if_neg c]; omega
theorem fx_c (k : Nat) : ncN fxL 288 (fxL k) = fxC (fxL k) := by
  have e7 : ncN fxL 288 7 = fxC 7 := by decide +kernel
  have e8 : ncN fxL 288 8 = fxC 8 := by decide +kernel
  have e9 : ncN fxL 288 9 = fxC 9 := by decide +kernel
  rcases fxL_v k with q | q | q
  · rw [q]; exact e7
  · rw [q]; exact e8
  · rw [q]; exact e9
theorem fx_p (k : Nat) : plN fxL 288 (fxL k) = fxP (fxL k) := by
  have e7 : plN fxL 288 7 = fxP 7 := by decide +kernel
  have e8 : plN fxL 288 8 = fxP 8 := by decide +kernel
  have e9 : plN fxL 288 9 = fxP 9 := by decide +kernel
  rcases fxL_v k with q | q | q
  · rw [q]; exact e7
  · rw [q]; exact e8
  · rw [q]; exact e9
theorem fx_cd {k : Nat} (hk : k < 288) : cdN fxL 288 k = rvN (fxC (fxL k) + fxN k) (fxL k) := by
  unfold cdN cwN
  rw [fx_c, fx_n k hk]
theorem fx_pc {k : Nat} (hk : k < 288) : pcN fxL 288 k = fxP (fxL k) + fxN k := by
  unfold pcN
  rw [fx_p, fx_n k hk]
theorem fd_n : ∀ k, k < 32 → ctN fxD 5 k = k := by
  have e : ((List.range 32).all (fun k => Nat.beq (ctN fxD 5 k) k)) = true := by decide +kernel
  intro k hk
  exact Nat.eq_of_beq_eq_true (List.all_eq_true.mp e k (List.mem_range.mpr hk))
theorem fd_cd {k : Nat} (hk : k < 32) : cdN fxD 288 k = rvN k 5 := by
  have h5 : fxD k = 5 := if_pos hk
  have e : ncN fxD 288 5 = 0 := by decide +kernel
  unfold cdN cwN
  rw [h5, e, fd_n k hk, Nat.zero_add]
theorem fd_pc {k : Nat} (hk : k < 32) : pcN fxD 288 k = k := by
  have h5 : fxD k = 5 := if_pos hk
  have e : plN fxD 288 5 = 0 := by decide +kernel
  unfold pcN
  rw [h5, e, fd_n k hk, Nat.zero_add]
section FXG
variable {g f : Nat → Int32} {L : Nat → Nat}
theorem wd_g (e : ∀ k, k < 288 → nL g k = L k) (A : ∀ k, k < 288 → 1 ≤ L k → (f k).toInt = (cdN L 288 k : Nat)) : wdI f (nL g) 288 288 := fun k hk h1 => by
  rw [A k hk (by rw [← e k hk]; exact h1), cdN_congr (L := nL g) (L' := L) (N := 288) (N' := 288) (fun l _ => ctN_congr 288 e) (fun j hj => e j (by omega))]
theorem ct_g (e : ∀ k, k < 288 → nL g k = L k) (A : cpN f (fun l => if l = 0 then 0 else ctN L l 288) 16) : ctC f (nL g) 288 := ⟨A 0 (by decide), fun l h1 h2 => by
  rw [A l h2, ctN_congr 288 e]
  show (((if l = 0 then 0 else ctN L l 288) : Nat) : Int) = _
  rw [if_neg (by omega)]⟩
theorem it_g (e : ∀ k, k < 288 → nL g k = L k) (A : ∀ k, k < 288 → 1 ≤ L k → (f (pcN L 288 k)).toInt = (k : Nat)) : itI f (nL g) 288 288 := fun k hk h1 => by
  have e1 : pcN (nL g) 288 k = pcN L 288 k := by
    unfold pcN
    rw [e k hk, pl_eq e, ctN_congr k (fun j hj => e j (by omega))]
  rw [e1]
  exact A k hk (by rw [← e k hk]; exact h1)
end FXG
set_option maxRecDepth 8000 in
theorem g3_F {h : ez_H} (hr : ev_rel gS3 h) : rFp (ez_I h 15 4) (ez_I h 16) (ez_I h 17) (ez_I h 18) (ez_I h 19) (ez_I h 22 4) (ez_I h 23) (ez_I h 24) (ez_I h 25) (ez_I h 26) := by
  have c16 : cpN (ez_I h 16) fxL 288 := cq1_ok (p := 16) (n := 288) (f := fxL) (by decide +kernel) hr (by decide)
  have c17 : cpN (ez_I h 17) (fun k => rvN (fxC (fxL k) + fxN k) (fxL k)) 288 := cq1_ok (p := 17) (n := 288) (by decide +kernel) hr (by decide)
  have c18 : cpN (ez_I h 18) (fun l => if l = 0 then 0 else ctN fxL l 288) 16 := cq1_ok (p := 18) (n := 16) (by decide +kernel) hr (by decide)
  have c15 : (ez_I h 15 4).toInt = ((288 : Nat) : Int) := it1_ok (p := 15) (k := 4) (n := 288) (by decide +kernel) hr (by decide)
  have c19 : ∀ k, k < 288 → (ez_I h 19 (fxP (fxL k) + fxN k)).toInt = (k : Nat) := iq1_ok (p := 19) (n := 288) (f := fun k => fxP (fxL k) + fxN k) (by decide +kernel) hr (by decide)
  have c23 : cpN (ez_I h 23) fxD 288 := cq1_ok (p := 23) (n := 288) (f := fxD) (by decide +kernel) hr (by decide)
  have c24 : cpN (ez_I h 24) (fun k => rvN k 5) 32 := cq1_ok (p := 24) (n := 32) (by decide +kernel) hr (by decide)
  have c25 : cpN (ez_I h 25) (fun l => if l = 0 then 0 else ctN fxD l 288) 16 := cq1_ok (p := 25) (n := 16) (by decide +kernel) hr (by decide)
  have c22 : (ez_I h 22 4).toInt = ((32 : Nat) : Int) := it1_ok (p := 22) (k := 4) (n := 32) (by decide +kernel) hr (by decide)
  have c26 : ∀ k, k < 32 → (ez_I h 26 k).toInt = (k : Nat) := iq1_ok (p := 26) (n := 32) (f := fun k => k) (by decide +kernel) hr (by decide)
  have e16 := cpN_nL c16
  have e23 := cpN_nL c23
  have p1 : plN fxL 288 16 = 288 := by decide +kernel
  have p2 : plN fxD 288 16 = 32 := by decide +kernel
  have hd : ∀ k, 1 ≤ fxD k → k < 32 := fun k h1 => by
    unfold fxD at h1
    by_cases c : k < 32
    · exact c
    · rw [if_neg c] at h1; omega
  refine ⟨⟨cpN_aR c16 (fun k _ => (fxL_1 k).2), wd_g e16 (fun k hk _ => by rw [fx_cd hk]; exact c17 k hk), e16, ct_g e16 c18, by rw [pl_eq e16, p1]; exact c15, it_g e16 (fun k hk _ => by rw [fx_pc hk]; exact c19 k hk)⟩, cpN_aR c23 (fun k _ => fxD_5 k), wd_g e23 (fun k _ h1 => by rw [fd_cd (hd k h1)]; exact c24 k (hd k h1)), e23, ct_g e23 c25, by rw [pl_eq e23, p2]; exact c22, it_g e23 (fun k _ h1 => by rw [fd_pc (hd k h1)]; exact c26 k (hd k h1))⟩
theorem aR_m {f : Nat → Int32} {n : Nat} {a b c d : Int} (A : aR f n a b) (h1 : c ≤ a) (h2 : b ≤ d) : aR f n c d := fun k hk => by have := A k hk; omega
set_option maxRecDepth 20000 in
theorem g3_RR {h : ez_H} (hr : ev_rel gS3 h) : RR h := by
  have z : ∀ p k, p < 128 → it1 gS3 p k 0 = true → (ez_I h p k).toInt = 0 := fun p k hp H => it1_ok H hr hp
  have a7 := ar1_ok (p := 7) (n := 64) (lo := 0) (hi := 0) (by decide +kernel) hr (by decide)
  have a124 := ar1_ok (p := 124) (n := 64) (lo := 0) (hi := 0) (by decide +kernel) hr (by decide)
  have a75 := ar1_ok (p := 75) (n := 8000) (lo := 0) (hi := 0) (by decide +kernel) hr (by decide)
  have a72 := ar1_ok (p := 72) (n := 6000) (lo := 0) (hi := 0) (by decide +kernel) hr (by decide)
  have a6 := ar1_ok (p := 6) (n := 20) (lo := 0) (hi := 0) (by decide +kernel) hr (by decide)
  have a74 := ar1_ok (p := 74) (n := 20) (lo := 0) (hi := 0) (by decide +kernel) hr (by decide)
  have z2 := z 2 1 (by decide) (by decide +kernel)
  have z4 := z 4 1 (by decide) (by decide +kernel)
  have z53 := z 53 1 (by decide) (by decide +kernel)
  have z55 := z 55 2 (by decide) (by decide +kernel)
  have y6 := z 71 6 (by decide) (by decide +kernel)
  have y7 := z 71 7 (by decide) (by decide +kernel)
  have y14 := z 71 14 (by decide) (by decide +kernel)
  have y15 := z 71 15 (by decide) (by decide +kernel)
  refine ⟨g3_sh hr, g3_F hr, ⟨aR_m a75 (by decide) (by decide), cq1_ok (p := 92) (n := 29) (f := LBf) (by decide +kernel) hr (by decide), cq1_ok (p := 93) (n := 29) (f := LEf) (by decide +kernel) hr (by decide), cq1_ok (p := 94) (n := 30) (f := DBf) (by decide +kernel) hr (by decide), cq1_ok (p := 95) (n := 30) (f := DEf) (by decide +kernel) hr (by decide), cq1_ok (p := 96) (n := 19) (f := ORf) (by decide +kernel) hr (by decide)⟩, ⟨aR_m a7 (by decide) (by decide), aR_m a124 (by decide) (by decide)⟩, ⟨by omega, by omega, by omega, fun i hi => by omega, aR_m a72 (by decide) (by decide)⟩, ⟨by omega, by omega, by omega, fun i hi => by omega⟩, ⟨fun k hk => ?_, aR_m a74 (by decide) (by decide)⟩, ⟨fun _ => 0, 0, 0, z53, y14, by decide, fun i hi => by omega, fun j hj => by omega, fun j hj => by omega, fun j hj => by omega⟩, ⟨fun _ => 0, 0, 0, 0, 0, z55, y15, by decide, fun i hi => by omega, fun i hi => by omega⟩⟩
  have h1 := a6 k hk
  have h2 := a74 k hk
  omega
end
section
/-! PRINTED by wip/pack: the law: its own helpers -/
theorem zV_m {PF PF2 : Nat → Nat → Prop} {PA PA2 : Nat → Prop} {h h2 : ez_H} (V : zV PF PA h h2) (a : ∀ q k, PF q k → PF2 q k) (b : ∀ q, PA q → PA2 q) : zV PF2 PA2 h h2 := ⟨V.1, fun p k x y => V.2 p k (fun c => x (b p c)) (fun c => y (a p k c))⟩
theorem zV_r {PF : Nat → Nat → Prop} {PA : Nat → Prop} {h : ez_H} (S : zSh h) : zV PF PA h h := ⟨S, fun _ _ _ _ => rfl⟩
theorem zV_b {PF : Nat → Nat → Prop} {PA : Nat → Prop} {h h2 : ez_H} (V : zV PF PA h h2) : zV PF PA h (ez_bump h2) := ⟨V.1, V.2⟩
theorem zV_L {PF : Nat → Nat → Prop} {PA : Nat → Prop} {h h1 h2 : ez_H} {p k : Nat} {v : Int64} (V : zV PF PA h h1) (e : h2 = ez_setL h1 p k v) : zV PF PA h h2 := by subst e; exact V
def lC (h h2 : ez_H) : Prop := ez_n h2 ≤ ez_n h + 1 ∧ ez_u h2 ≤ ez_u h + 6
theorem lC_W {PF : Nat → Nat → Prop} {PA PL : Nat → Prop} {h h2 : ez_H} (F : zW PF PA PL h h2) : lC h h2 := ⟨by rw [F.1]; omega, by rw [F.2.1]; omega⟩
theorem lC_b {PF : Nat → Nat → Prop} {PA PL : Nat → Prop} {h h2 : ez_H} (F : zW PF PA PL h h2) : lC h (ez_bump h2) := ⟨by show ez_n h2 + 1 ≤ _; rw [F.1]; omega, by show ez_u h2 + 6 ≤ _; rw [F.2.1]; omega⟩
theorem lC_b0 (h : ez_H) : lC h (ez_bump h) := ⟨Nat.le_refl _, Nat.le_refl _⟩
theorem lC_L {h h1 h2 : ez_H} {p k : Nat} {v : Int64} (A : lC h h1) (e : h2 = ez_setL h1 p k v) : lC h h2 := by subst e; exact A
theorem lC_t {PF : Nat → Nat → Prop} {PA PL : Nat → Prop} {h h1 h2 : ez_H} (A : lC h h1) (F : zW PF PA PL h1 h2) : lC h h2 := ⟨by rw [F.1]; exact A.1, by rw [F.2.1]; exact A.2⟩
theorem ez_IL {h1 h2 : ez_H} {p k : Nat} {v : Int64} (e : h2 = ez_setL h1 p k v) (q : Nat) : ez_I h2 q = ez_I h1 q := zIL_fn e q
theorem l_takeR {E : Nat → Nat × (Nat → Int32)} {d : Nat} {Q : ez_Q} {h : ez_H} (R : RR h) (hM : zMem h) (K : ∀ h2 (x : Int32), lC h h2 → zV (fun q k => q = 2 ∧ k = 1) (fun q => q = 3) h h2 → ((6000 < (ez_I h 4 1).toInt ∧ ez_I h2 2 1 = ez_I h 2 1 ∧ ez_I h2 3 = ez_I h 3) ∨ ((ez_I h 4 1).toInt ≤ 6000 ∧ (ez_I h2 2 1).toInt = (ez_I h 4 1).toInt ∧ (∀ k : Nat, (k : Int) < (ez_I h 4 1).toInt → ez_I h2 3 k = ez_I h 5 k))) → ((6000 < (ez_I h 4 1).toInt ∧ x.toInt = 1) ∨ ((ez_I h 4 1).toInt ≤ 6000 ∧ x.toInt = 0 ∧ (ez_L h2 126 0).toInt = (ez_I h 4 1).toInt)) → Q (.inl (some (.int x))) h2) : pw E (d + 2) 144 0 [some (.ref 1), some (.ref 126), none] [] h Q := by
  apply ez_Wp_in
  show ez_gw _ _ _ _ _ _ (cz_144) _ _ _ _ _
  refine gw_skip _ ?_
  refine gw_ld rfl rfl ?_
  refine z_C (m := 0) rfl rfl (fun x1 ex1 => ?_)
  refine gw_ld rfl rfl ?_
  refine z_cl rfl rfl rfl rfl rfl rfl rfl rfl rfl rfl rfl (zT R.1 (by decide) rfl) ?_
  refine x_takeF R.1 hM (RR_o R) (fun q => ?_) (fun h2 x F k1 k2 k3 k4 => ?_)
  · show ez_gw _ _ _ _ _ _ _ (12 + 1) [some (.ref 1), some (.ref 126), none] [] _ _
    refine gw_skip _ ?_
    refine z_C (m := 1) rfl rfl (fun x2 ex2 => ?_)
    refine z_ri ?_
    exact K _ _ (lC_b0 h) (zV_b (zV_r R.1)) (.inl ⟨q, rfl, rfl⟩) (.inl ⟨q, by omega⟩)
  · have S2 := zW_sh F R.1
    refine z_i2l (fun l el => ?_)
    refine z_ls (n := 1) (zT S2 (by decide) rfl) (zN S2 (by decide) rfl) (by omega) (fun h3 e3 => ?_)
    refine z_go ?_
    refine gw_skip _ ?_
    refine z_C (m := 0) rfl rfl (fun x2 ex2 => ?_)
    refine z_ri ?_
    exact K _ _ (lC_L (lC_W F) e3) (zV_L (zV_of R.1 F) e3) (.inr ⟨k1, by rw [ez_IL e3]; exact k3, fun k hk => by rw [ez_IL e3]; exact k4 k hk⟩) (.inr ⟨k1, by omega, by rw [show x1.toInt.toNat = 0 by omega] at e3; rw [zL_eq e3, el, k2]; exact k3⟩)
theorem x77_2 : ¬ (30 ≤ 4 ∧ 4 ≤ 35 ∨ 37 ≤ 4 ∧ 4 ≤ 42 ∨ 44 ≤ 4 ∧ 4 ≤ 49 ∨ 4 = 70 ∨ 4 = 51) := by omega
theorem x77_3 : ¬ (30 ≤ 5 ∧ 5 ≤ 35 ∨ 37 ≤ 5 ∧ 5 ≤ 42 ∨ 44 ≤ 5 ∧ 5 ≤ 49 ∨ 5 = 70 ∨ 5 = 51) := by omega
theorem x77_4 : ¬ (4 = 69 ∧ 1 = 2 ∨ 4 = 69 ∧ 1 = 3 ∨ 4 = 69 ∧ 1 = 6 ∨ 4 = 29 ∧ 1 = 4 ∨ 4 = 36 ∧ 1 = 4 ∨ 4 = 43 ∧ 1 = 4 ∨ 4 = 50 ∧ 1 = 1 ∨ 4 = 69 ∧ 1 = 1) := by omega
theorem x77_5 : ∀ k : Nat, ¬ (5 = 69 ∧ k = 2 ∨ 5 = 69 ∧ k = 3 ∨ 5 = 69 ∧ k = 6 ∨ 5 = 29 ∧ k = 4 ∨ 5 = 36 ∧ k = 4 ∨ 5 = 43 ∧ k = 4 ∨ 5 = 50 ∧ k = 1 ∨ 5 = 69 ∧ k = 1) := fun k c => by omega
theorem x77_6 : ∀ q k : Nat, (q = 69 ∧ k = 2 ∨ q = 69 ∧ k = 3 ∨ q = 69 ∧ k = 6 ∨ q = 29 ∧ k = 4 ∨ q = 36 ∧ k = 4 ∨ q = 43 ∧ k = 4 ∨ q = 50 ∧ k = 1 ∨ q = 69 ∧ k = 1) → (q = 69 ∧ k = 2 ∨ q = 69 ∧ k = 3 ∨ q = 69 ∧ k = 6 ∨ q = 29 ∧ k = 4 ∨ q = 36 ∧ k = 4 ∨ q = 43 ∧ k = 4 ∨ q = 50 ∧ k = 1 ∨ q = 69 ∧ k = 1 ∨ q = 4 ∧ k = 1) := fun q k hk => hk.elim (fun g => (.inl g)) (fun hk => hk.elim (fun g => (.inr (.inl g))) (fun hk => hk.elim (fun g => (.inr (.inr (.inl g)))) (fun hk => hk.elim (fun g => (.inr (.inr (.inr (.inl g))))) (fun hk => hk.elim (fun g => (.inr (.inr (.inr (.inr (.inl g)))))) (fun hk => hk.elim (fun g => (.inr (.inr (.inr (.inr (.inr (.inl g))))))) (fun hk => hk.elim (fun g => (.inr (.inr (.inr (.inr (.inr (.inr (.inl g)))))))) (fun hk => (.inr (.inr (.inr (.inr (.inr (.inr (.inr (.inl hk)))))))))))))))
theorem x77_7 : ∀ q : Nat, (30 ≤ q ∧ q ≤ 35 ∨ 37 ≤ q ∧ q ≤ 42 ∨ 44 ≤ q ∧ q ≤ 49 ∨ q = 70 ∨ q = 51) → (30 ≤ q ∧ q ≤ 35 ∨ 37 ≤ q ∧ q ≤ 42 ∨ 44 ≤ q ∧ q ≤ 49 ∨ q = 70 ∨ q = 51 ∨ q = 5) := fun q hk => hk.elim (fun g => (.inl g)) (fun hk => hk.elim (fun g => (.inr (.inl g))) (fun hk => hk.elim (fun g => (.inr (.inr (.inl g)))) (fun hk => hk.elim (fun g => (.inr (.inr (.inr (.inl g))))) (fun hk => (.inr (.inr (.inr (.inr (.inl hk)))))))))
theorem l_unpackR {E : Nat → Nat × (Nat → Int32)} {d : Nat} {Q : ez_Q} {h : ez_H} (R : RR h) (hE : zE E) (hM : zMem h) (K : ∀ h2 (x : Int32), lC h h2 → zV (fun q k => q = 69 ∧ k = 2 ∨ q = 69 ∧ k = 3 ∨ q = 69 ∧ k = 6 ∨ q = 29 ∧ k = 4 ∨ q = 36 ∧ k = 4 ∨ q = 43 ∧ k = 4 ∨ q = 50 ∧ k = 1 ∨ q = 69 ∧ k = 1 ∨ q = 4 ∧ k = 1) (fun q => 30 ≤ q ∧ q ≤ 35 ∨ 37 ≤ q ∧ q ≤ 42 ∨ 44 ≤ q ∧ q ≤ 49 ∨ q = 70 ∨ q = 51 ∨ q = 5) h h2 → (((unL (tI (ez_I h 3)) (ez_I h 2 1).toInt.toNat (8 * (ez_I h 2 1).toInt.toNat) 0 (fun _ => 0) 0) = none ∧ ez_I h2 4 1 = ez_I h 4 1 ∧ ez_I h2 5 = ez_I h 5) ∨ ∃ (o2 : Nat → Int) (m2 : Nat), (unL (tI (ez_I h 3)) (ez_I h 2 1).toInt.toNat (8 * (ez_I h 2 1).toInt.toNat) 0 (fun _ => 0) 0) = some (o2, m2) ∧ (ez_I h2 4 1).toInt = (m2 : Nat) ∧ m2 ≤ 6000 ∧ oR (ez_I h2 5) o2 m2) → (((unL (tI (ez_I h 3)) (ez_I h 2 1).toInt.toNat (8 * (ez_I h 2 1).toInt.toNat) 0 (fun _ => 0) 0) = none ∧ x.toInt = 1) ∨ ∃ (o2 : Nat → Int) (m2 : Nat), (unL (tI (ez_I h 3)) (ez_I h 2 1).toInt.toNat (8 * (ez_I h 2 1).toInt.toNat) 0 (fun _ => 0) 0) = some (o2, m2) ∧ x.toInt = 0 ∧ (ez_L h2 126 0).toInt = (m2 : Nat)) → Q (.inl (some (.int x))) h2) : pw E (d + 7) 145 0 [some (.ref 1), some (.ref 126), none] [] h Q := by
  apply ez_Wp_in
  show ez_gw _ _ _ _ _ _ (cz_145) _ _ _ _ _
  refine gw_skip _ ?_
  refine gw_ld rfl rfl ?_
  refine z_C (m := 0) rfl rfl (fun x1 ex1 => ?_)
  refine gw_ld rfl rfl ?_
  refine z_cl rfl rfl rfl rfl rfl rfl rfl rfl rfl rfl rfl (zT R.1 (by decide) rfl) ?_
  refine x_unpackF R.1 hE hM (RR_z R) (RR_b R) R.2.1.1.1 R.2.1.1.2.2.2.1 R.2.1.1.2.2.2.2.1 R.2.1.1.2.2.2.2.2 R.2.1.2.1 R.2.1.2.2.2.2.1 R.2.1.2.2.2.2.2.1 R.2.1.2.2.2.2.2.2 R.2.1.1.2.2.1 R.2.1.2.2.2.1 (fun q h2 F => ?_) (fun h2 x F o2 m2 k1 k2 k3 k4 k5 => ?_)
  · show ez_gw _ _ _ _ _ _ _ (12 + 1) [some (.ref 1), some (.ref 126), none] [] _ _
    refine gw_skip _ ?_
    refine z_C (m := 1) rfl rfl (fun x2 ex2 => ?_)
    refine z_ri ?_
    exact K _ _ (lC_b F) (zV_b (zV_m (zV_of R.1 F) x77_6 x77_7)) (.inl ⟨q, show ez_I h2 4 1 = ez_I h 4 1 from zW_f F x77_2 x77_4, show ez_I h2 5 = ez_I h 5 from zW_fn F 5 x77_3 x77_5⟩) (.inl ⟨q, by omega⟩)
  · have S2 := zW_sh F R.1
    refine z_i2l (fun l el => ?_)
    refine z_ls (n := 1) (zT S2 (by decide) rfl) (zN S2 (by decide) rfl) (by omega) (fun h3 e3 => ?_)
    refine z_go ?_
    refine gw_skip _ ?_
    refine z_C (m := 0) rfl rfl (fun x2 ex2 => ?_)
    refine z_ri ?_
    exact K _ _ (lC_L (lC_W F) e3) (zV_L (zV_of R.1 F) e3) (.inr ⟨o2, m2, k1, by rw [ez_IL e3]; exact k3, k4, by rw [ez_IL e3]; exact k5⟩) (.inr ⟨o2, m2, k1, by omega, by rw [show x1.toInt.toNat = 0 by omega] at e3; rw [zL_eq e3, el]; exact k2⟩)
theorem x77_8 : ∀ q k : Nat, (False) → (False) := fun q k hk => hk.elim
theorem x77_9 : ∀ q : Nat, (q = 7) → (q = 7 ∨ q = 8 ∨ q = 10 ∨ q = 13) := fun q hk => (.inl hk)
theorem x77_10 : ∀ q : Nat, (q = 10 ∨ q = 13 ∨ q = 8) → (q = 7 ∨ q = 8 ∨ q = 10 ∨ q = 13) := fun q hk => hk.elim (fun g => (.inr (.inr (.inl g)))) (fun hk => hk.elim (fun g => (.inr (.inr (.inr g)))) (fun hk => (.inr (.inl hk))))
theorem l_weighR {E : Nat → Nat × (Nat → Int32)} {d : Nat} {Q : ez_Q} {h : ez_H} {y w : Int32} (R : RR h) (hM : zMem h) (K : ∀ h2 (x : Int32), lC h h2 → zV (fun _ _ => False) (fun q => q = 7 ∨ q = 8 ∨ q = 10 ∨ q = 13) h h2 → aR (ez_I h2 7) 64 0 1000000 → Q (.inl (some (.int x))) h2) : pw E (d + 1) 146 0 [some (.ref 1), some (.int y), some (.int w), none] [] h Q := by
  apply ez_Wp_in
  show ez_gw _ _ _ _ _ _ (cz_146) _ _ _ _ _
  refine gw_skip _ ?_
  refine gw_ld rfl rfl ?_
  refine gw_ld rfl rfl ?_
  refine gw_ld rfl rfl ?_
  refine z_cl rfl rfl rfl rfl rfl rfl rfl rfl rfl rfl rfl (zT R.1 (by decide) rfl) ?_
  refine f_weigh R.1 hM (fun q => ?_) (fun q q2 => ?_) (fun h2 F q v => ?_)
  · show ez_gw _ _ _ _ _ _ _ (10 + 1) [some (.ref 1), some (.int y), some (.int w), none] [] _ _
    refine gw_skip _ ?_
    refine z_C (m := 1) rfl rfl (fun x2 ex2 => ?_)
    refine z_ri ?_
    exact K _ _ (lC_b0 h) (zV_b (zV_r R.1)) R.2.2.2.1.1
  · show ez_gw _ _ _ _ _ _ _ (13 + 1) [some (.ref 1), some (.int y), some (.int w), none] [] _ _
    refine gw_skip _ ?_
    refine z_C (m := 2) rfl rfl (fun x2 ex2 => ?_)
    refine z_ri ?_
    exact K _ _ (lC_b0 h) (zV_b (zV_r R.1)) R.2.2.2.1.1
  · refine z_go ?_
    refine gw_skip _ ?_
    refine z_C (m := 0) rfl rfl (fun x2 ex2 => ?_)
    refine z_ri ?_
    refine K _ _ (lC_W (zW_ofK F)) (zV_m (zV_of R.1 (zW_ofK F)) x77_8 x77_9) (fun k hk => ?_)
    by_cases e : k = y.toInt.toNat
    · rw [e, v.1]; exact ⟨q.2.2.1, q.2.2.2⟩
    · rw [v.2 k e]; exact R.2.2.2.1.1 k hk
theorem l_measureR {E : Nat → Nat × (Nat → Int32)} {d : Nat} {Q : ez_Q} {h : ez_H} {m : Int32} (R : RR h) (hE : zE E) (hM : zMem h) (K : ∀ h2 (x : Int32), lC h h2 → zV (fun _ _ => False) (fun q => q = 7 ∨ q = 8 ∨ q = 10 ∨ q = 13) h h2 → aR (ez_I h2 7) 64 0 1000000 → Q (.inl (some (.int x))) h2) : pw E (d + 4) 147 0 [some (.ref 1), some (.int m), some (.ref 126), none] [] h Q := by
  apply ez_Wp_in
  show ez_gw _ _ _ _ _ _ (cz_147) _ _ _ _ _
  refine gw_skip _ ?_
  refine gw_ld rfl rfl ?_
  refine z_C (m := 0) rfl rfl (fun x1 ex1 => ?_)
  refine gw_ld rfl rfl ?_
  refine gw_ld rfl rfl ?_
  refine z_cl rfl rfl rfl rfl rfl rfl rfl rfl rfl rfl rfl (zT R.1 (by decide) rfl) ?_
  refine f_measure R.1 hE hM R.2.2.2.1.1 (fun q => ?_) (fun q q2 => ?_) (fun h2 x F q q2 lp ws => ?_)
  · show ez_gw _ _ _ _ _ _ _ (13 + 1) [some (.ref 1), some (.int m), some (.ref 126), none] [] _ _
    refine gw_skip _ ?_
    refine z_C (m := 1) rfl rfl (fun x2 ex2 => ?_)
    refine z_ri ?_
    exact K _ _ (lC_b0 h) (zV_b (zV_r R.1)) R.2.2.2.1.1
  · show ez_gw _ _ _ _ _ _ _ (16 + 1) [some (.ref 1), some (.int m), some (.ref 126), none] [] _ _
    refine gw_skip _ ?_
    refine z_C (m := 2) rfl rfl (fun x2 ex2 => ?_)
    refine z_ri ?_
    exact K _ _ (lC_b0 h) (zV_b (zV_r R.1)) R.2.2.2.1.1
  · have FW := zW_ofK F
    have S2 := zW_sh FW R.1
    refine z_i2l (fun l el => ?_)
    refine z_ls (n := 1) (zT S2 (by decide) rfl) (zN S2 (by decide) rfl) (by omega) (fun h3 e3 => ?_)
    refine z_go ?_
    refine gw_skip _ ?_
    refine z_C (m := 0) rfl rfl (fun x2 ex2 => ?_)
    refine z_ri ?_
    exact K _ _ (lC_L (lC_W FW) e3) (zV_L (zV_m (zV_of R.1 FW) x77_8 x77_10) e3) (by rw [ez_IL e3, zW_fn FW 7 (by omega) (fun _ c => c)]; exact R.2.2.2.1.1)
theorem m_wR {h h2 : ez_H} {y w : Int32} (A : aR (ez_I h 124) 64 0 1000000) (k1 : (0 ≤ y.toInt ∧ y.toInt < 64 ∧ 0 ≤ w.toInt ∧ w.toInt ≤ 1000000) → ez_I h2 124 y.toInt.toNat = w ∧ ∀ k, k ≠ y.toInt.toNat → ez_I h2 124 k = ez_I h 124 k) (k2 : ¬ (0 ≤ y.toInt ∧ y.toInt < 64 ∧ 0 ≤ w.toInt ∧ w.toInt ≤ 1000000) → ez_I h2 124 = ez_I h 124) : aR (ez_I h2 124) 64 0 1000000 := by
  by_cases c : 0 ≤ y.toInt ∧ y.toInt < 64 ∧ 0 ≤ w.toInt ∧ w.toInt ≤ 1000000
  · intro k hk
    by_cases e : k = y.toInt.toNat
    · rw [e, (k1 c).1]; exact ⟨c.2.2.1, c.2.2.2⟩
    · rw [(k1 c).2 k e]; exact A k hk
  · rw [k2 c]; exact A
end
