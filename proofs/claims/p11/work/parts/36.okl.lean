def ez_chb : List ez_C → Bool
  | [] => true
  | q :: cs => (match cs with
    | [] => true
    | q' :: _ => ez_isSw q.2.1 || ez_isThr q.2.1 || decide (q'.1 = q.1 + ez_ln q.2.1)) && ez_chb cs
theorem tz_okb {tb : List Cond} {n : Nat} : ∀ cs : List ez_C, cs.all (tz_o1 tb n) = true → ez_chb cs = true → ez_okLb tz_nf tz_ty tz_sta tz_nm tz_by tz_ml tz_re tz_hh tb 13 149 tz_ct tz_cn "PackDesk" tz_thr n cs = true
  | [], _, _ => rfl
  | q :: cs, h1, h2 => by
    rw [List.all_cons, Bool.and_eq_true] at h1
    unfold ez_chb at h2
    rw [Bool.and_eq_true] at h2
    unfold ez_okLb
    rw [Bool.and_eq_true, Bool.and_eq_true]
    exact ⟨⟨h1.1, h2.1⟩, tz_okb cs h1.2 h2.2⟩
abbrev tz_OK (n : Nat) (cs : List ez_C) : Prop := ez_okL tz_cl tz_nf tz_ty tz_ex tz_sta tz_nm tz_by tz_ml tz_re tz_hh tz_tbl tz_str n cs
theorem tz_okl {tb : List Cond} (hs : ∀ w ∈ tb, w ∈ tz_tbl) {n : Nat} {cs : List ez_C} (h1 : cs.all (tz_o1 tb n) = true) (h2 : ez_chb cs = true) : tz_OK n cs := ez_okLb_ok _ _ _ _ _ _ _ _ _ _ _ _ _ _ _ _ _ _ _ hs tz_gen tz_cls tz_wc tz_thr_ok cs (tz_okb cs h1 h2)
theorem tz_okl_0 : tz_OK 0 cz_0 := tz_okl tz_sub_0 tz_al_0 (by decide +kernel)
theorem tz_okl_1 : tz_OK 1 cz_1 := tz_okl tz_sub_0 tz_al_1 (by decide +kernel)
theorem tz_okl_2 : tz_OK 2 cz_2 := tz_okl tz_sub_0 tz_al_2 (by decide +kernel)
theorem tz_okl_3 : tz_OK 3 cz_3 := tz_okl tz_sub_0 tz_al_3 (by decide +kernel)
theorem tz_okl_4 : tz_OK 4 cz_4 := tz_okl tz_sub_0 tz_al_4 (by decide +kernel)
theorem tz_okl_5 : tz_OK 5 cz_5 := tz_okl tz_sub_0 tz_al_5 (by decide +kernel)
theorem tz_okl_6 : tz_OK 6 cz_6 := tz_okl tz_sub_0 tz_al_6 (by decide +kernel)
theorem tz_okl_7 : tz_OK 7 cz_7 := tz_okl tz_sub_0 tz_al_7 (by decide +kernel)
theorem tz_okl_8 : tz_OK 8 cz_8 := tz_okl tz_sub_0 tz_al_8 (by decide +kernel)
theorem tz_okl_9 : tz_OK 9 cz_9 := tz_okl tz_sub_0 tz_al_9 (by decide +kernel)
theorem tz_okl_10 : tz_OK 10 cz_10 := tz_okl tz_sub_0 tz_al_10 (by decide +kernel)
theorem tz_okl_11 : tz_OK 11 cz_11 := tz_okl tz_sub_0 tz_al_11 (by decide +kernel)
theorem tz_okl_12 : tz_OK 12 cz_12 := tz_okl tz_sub_0 tz_al_12 (by decide +kernel)
theorem tz_okl_13 : tz_OK 13 cz_13 := tz_okl tz_sub_0 tz_al_13 (by decide +kernel)
theorem tz_okl_14 : tz_OK 14 cz_14 := tz_okl tz_sub_0 tz_al_14 (by decide +kernel)
theorem tz_okl_15 : tz_OK 15 cz_15 := tz_okl tz_sub_0 tz_al_15 (by decide +kernel)
theorem tz_okl_16 : tz_OK 16 cz_16 := tz_okl tz_sub_0 tz_al_16 (by decide +kernel)
theorem tz_okl_17 : tz_OK 17 cz_17 := tz_okl tz_sub_0 tz_al_17 (by decide +kernel)
theorem tz_okl_18 : tz_OK 18 cz_18 := tz_okl tz_sub_0 tz_al_18 (by decide +kernel)
theorem tz_okl_19 : tz_OK 19 cz_19 := tz_okl tz_sub_0 tz_al_19 (by decide +kernel)
theorem tz_okl_20 : tz_OK 20 cz_20 := tz_okl tz_sub_0 tz_al_20 (by decide +kernel)
theorem tz_okl_21 : tz_OK 21 cz_21 := tz_okl tz_sub_0 tz_al_21 (by decide +kernel)
theorem tz_okl_22 : tz_OK 22 cz_22 := tz_okl tz_sub_0 tz_al_22 (by decide +kernel)
theorem tz_okl_23 : tz_OK 23 cz_23 := tz_okl tz_sub_0 tz_al_23 (by decide +kernel)
theorem tz_okl_24 : tz_OK 24 cz_24 := tz_okl tz_sub_1 tz_al_24 (by decide +kernel)
theorem tz_okl_25 : tz_OK 25 cz_25 := tz_okl tz_sub_1 tz_al_25 (by decide +kernel)
theorem tz_okl_26 : tz_OK 26 cz_26 := tz_okl tz_sub_1 tz_al_26 (by decide +kernel)
theorem tz_okl_27 : tz_OK 27 cz_27 := tz_okl tz_sub_1 tz_al_27 (by decide +kernel)
theorem tz_okl_28 : tz_OK 28 cz_28 := tz_okl tz_sub_1 tz_al_28 (by decide +kernel)
theorem tz_okl_29 : tz_OK 29 cz_29 := tz_okl tz_sub_1 tz_al_29 (by decide +kernel)
theorem tz_okl_30 : tz_OK 30 cz_30 := tz_okl tz_sub_1 tz_al_30 (by decide +kernel)
theorem tz_okl_31 : tz_OK 31 cz_31 := tz_okl tz_sub_1 tz_al_31 (by decide +kernel)
theorem tz_okl_32 : tz_OK 32 cz_32 := tz_okl tz_sub_1 tz_al_32 (by decide +kernel)
theorem tz_okl_33 : tz_OK 33 cz_33 := tz_okl tz_sub_1 tz_al_33 (by decide +kernel)
theorem tz_okl_34 : tz_OK 34 cz_34 := tz_okl tz_sub_1 tz_al_34 (by decide +kernel)
theorem tz_okl_35 : tz_OK 35 cz_35 := tz_okl tz_sub_1 tz_al_35 (by decide +kernel)
theorem tz_okl_36 : tz_OK 36 cz_36 := tz_okl tz_sub_1 tz_al_36 (by decide +kernel)
theorem tz_okl_37 : tz_OK 37 cz_37 := tz_okl tz_sub_1 tz_al_37 (by decide +kernel)
theorem tz_okl_38 : tz_OK 38 cz_38 := tz_okl tz_sub_1 tz_al_38 (by decide +kernel)
theorem tz_okl_39 : tz_OK 39 cz_39 := tz_okl tz_sub_1 tz_al_39 (by decide +kernel)
theorem tz_okl_40 : tz_OK 40 cz_40 := tz_okl tz_sub_1 tz_al_40 (by decide +kernel)
theorem tz_okl_41 : tz_OK 41 cz_41 := tz_okl tz_sub_1 tz_al_41 (by decide +kernel)
theorem tz_okl_42 : tz_OK 42 cz_42 := tz_okl tz_sub_1 tz_al_42 (by decide +kernel)
theorem tz_okl_43 : tz_OK 43 cz_43 := tz_okl tz_sub_1 tz_al_43 (by decide +kernel)
theorem tz_okl_44 : tz_OK 44 cz_44 := tz_okl tz_sub_1 tz_al_44 (by decide +kernel)
theorem tz_okl_45 : tz_OK 45 cz_45 := tz_okl tz_sub_1 tz_al_45 (by decide +kernel)
theorem tz_okl_46 : tz_OK 46 cz_46 := tz_okl tz_sub_1 tz_al_46 (by decide +kernel)
theorem tz_okl_47 : tz_OK 47 cz_47 := tz_okl tz_sub_1 tz_al_47 (by decide +kernel)
theorem tz_okl_48 : tz_OK 48 cz_48 := tz_okl tz_sub_1 tz_al_48 (by decide +kernel)
theorem tz_okl_49 : tz_OK 49 cz_49 := tz_okl tz_sub_1 tz_al_49 (by decide +kernel)
theorem tz_okl_50 : tz_OK 50 cz_50 := tz_okl tz_sub_1 tz_al_50 (by decide +kernel)
theorem tz_okl_51 : tz_OK 51 cz_51 := tz_okl tz_sub_1 tz_al_51 (by decide +kernel)
theorem tz_okl_52 : tz_OK 52 cz_52 := tz_okl tz_sub_1 tz_al_52 (by decide +kernel)
theorem tz_okl_53 : tz_OK 53 cz_53 := tz_okl tz_sub_1 tz_al_53 (by decide +kernel)
theorem tz_okl_54 : tz_OK 54 cz_54 := tz_okl tz_sub_1 tz_al_54 (by decide +kernel)
theorem tz_okl_55 : tz_OK 55 cz_55 := tz_okl tz_sub_1 tz_al_55 (by decide +kernel)
theorem tz_okl_56 : tz_OK 56 cz_56 := tz_okl tz_sub_1 tz_al_56 (by decide +kernel)
theorem tz_okl_57 : tz_OK 57 cz_57 := tz_okl tz_sub_1 tz_al_57 (by decide +kernel)
theorem tz_okl_58 : tz_OK 58 cz_58 := tz_okl tz_sub_1 tz_al_58 (by decide +kernel)
theorem tz_okl_59 : tz_OK 59 cz_59 := tz_okl tz_sub_1 tz_al_59 (by decide +kernel)
theorem tz_okl_60 : tz_OK 60 cz_60 := tz_okl tz_sub_1 tz_al_60 (by decide +kernel)
theorem tz_okl_61 : tz_OK 61 cz_61 := tz_okl tz_sub_1 tz_al_61 (by decide +kernel)
theorem tz_okl_62 : tz_OK 62 cz_62 := tz_okl tz_sub_1 tz_al_62 (by decide +kernel)
theorem tz_okl_63 : tz_OK 63 cz_63 := tz_okl tz_sub_1 tz_al_63 (by decide +kernel)
theorem tz_okl_64 : tz_OK 64 cz_64 := tz_okl tz_sub_1 tz_al_64 (by decide +kernel)
theorem tz_okl_65 : tz_OK 65 cz_65 := tz_okl tz_sub_1 tz_al_65 (by decide +kernel)
theorem tz_okl_66 : tz_OK 66 cz_66 := tz_okl tz_sub_1 tz_al_66 (by decide +kernel)
theorem tz_okl_67 : tz_OK 67 cz_67 := tz_okl tz_sub_2 tz_al_67 (by decide +kernel)
theorem tz_okl_68 : tz_OK 68 cz_68 := tz_okl tz_sub_2 tz_al_68 (by decide +kernel)
theorem tz_okl_69 : tz_OK 69 cz_69 := tz_okl tz_sub_2 tz_al_69 (by decide +kernel)
theorem tz_okl_70 : tz_OK 70 cz_70 := tz_okl tz_sub_2 tz_al_70 (by decide +kernel)
theorem tz_okl_71 : tz_OK 71 cz_71 := tz_okl tz_sub_2 tz_al_71 (by decide +kernel)
theorem tz_okl_72 : tz_OK 72 cz_72 := tz_okl tz_sub_2 tz_al_72 (by decide +kernel)
theorem tz_okl_73 : tz_OK 73 cz_73 := tz_okl tz_sub_3 tz_al_73 (by decide +kernel)
theorem tz_okl_74 : tz_OK 74 cz_74 := tz_okl tz_sub_3 tz_al_74 (by decide +kernel)
theorem tz_okl_75 : tz_OK 75 cz_75 := tz_okl tz_sub_3 tz_al_75 (by decide +kernel)
theorem tz_okl_76 : tz_OK 76 cz_76 := tz_okl tz_sub_3 tz_al_76 (by decide +kernel)
theorem tz_okl_77 : tz_OK 77 cz_77 := tz_okl tz_sub_3 tz_al_77 (by decide +kernel)
theorem tz_okl_78 : tz_OK 78 cz_78 := tz_okl tz_sub_3 tz_al_78 (by decide +kernel)
theorem tz_okl_79 : tz_OK 79 cz_79 := tz_okl tz_sub_3 tz_al_79 (by decide +kernel)
theorem tz_okl_80 : tz_OK 80 cz_80 := tz_okl tz_sub_4 tz_al_80 (by decide +kernel)
theorem tz_okl_81 : tz_OK 81 cz_81 := tz_okl tz_sub_4 tz_al_81 (by decide +kernel)
theorem tz_okl_82 : tz_OK 82 cz_82 := tz_okl tz_sub_4 tz_al_82 (by decide +kernel)
theorem tz_okl_83 : tz_OK 83 cz_83 := tz_okl tz_sub_4 tz_al_83 (by decide +kernel)
theorem tz_okl_84 : tz_OK 84 cz_84 := tz_okl tz_sub_4 tz_al_84 (by decide +kernel)
theorem tz_okl_85 : tz_OK 85 cz_85 := tz_okl tz_sub_4 tz_al_85 (by decide +kernel)
theorem tz_okl_86 : tz_OK 86 cz_86 := tz_okl tz_sub_4 tz_al_86 (by decide +kernel)
theorem tz_okl_87 : tz_OK 87 cz_87 := tz_okl tz_sub_4 tz_al_87 (by decide +kernel)
theorem tz_okl_88 : tz_OK 88 cz_88 := tz_okl tz_sub_5 tz_al_88 (by decide +kernel)
theorem tz_okl_89 : tz_OK 89 cz_89 := tz_okl tz_sub_5 tz_al_89 (by decide +kernel)
theorem tz_okl_90 : tz_OK 90 cz_90 := tz_okl tz_sub_5 tz_al_90 (by decide +kernel)
theorem tz_okl_91 : tz_OK 91 cz_91 := tz_okl tz_sub_5 tz_al_91 (by decide +kernel)
theorem tz_okl_92 : tz_OK 92 cz_92 := tz_okl tz_sub_5 tz_al_92 (by decide +kernel)
theorem tz_okl_93 : tz_OK 93 cz_93 := tz_okl tz_sub_5 tz_al_93 (by decide +kernel)
theorem tz_okl_94 : tz_OK 94 cz_94 := tz_okl tz_sub_5 tz_al_94 (by decide +kernel)
theorem tz_okl_95 : tz_OK 95 cz_95 := tz_okl tz_sub_5 tz_al_95 (by decide +kernel)
theorem tz_okl_96 : tz_OK 96 cz_96 := tz_okl tz_sub_5 tz_al_96 (by decide +kernel)
theorem tz_okl_97 : tz_OK 97 cz_97 := tz_okl tz_sub_5 tz_al_97 (by decide +kernel)
theorem tz_okl_98 : tz_OK 98 cz_98 := tz_okl tz_sub_5 tz_al_98 (by decide +kernel)
theorem tz_okl_99 : tz_OK 99 cz_99 := tz_okl tz_sub_6 tz_al_99 (by decide +kernel)
theorem tz_okl_100 : tz_OK 100 cz_100 := tz_okl tz_sub_7 tz_al_100 (by decide +kernel)
theorem tz_okl_101 : tz_OK 101 cz_101 := tz_okl tz_sub_7 tz_al_101 (by decide +kernel)
theorem tz_okl_102 : tz_OK 102 cz_102 := tz_okl tz_sub_7 tz_al_102 (by decide +kernel)
theorem tz_okl_103 : tz_OK 103 cz_103 := tz_okl tz_sub_7 tz_al_103 (by decide +kernel)
theorem tz_okl_104 : tz_OK 104 cz_104 := tz_okl tz_sub_7 tz_al_104 (by decide +kernel)
theorem tz_okl_105 : tz_OK 105 cz_105 := tz_okl tz_sub_7 tz_al_105 (by decide +kernel)
theorem tz_okl_106 : tz_OK 106 cz_106 := tz_okl tz_sub_7 tz_al_106 (by decide +kernel)
theorem tz_okl_107 : tz_OK 107 cz_107 := tz_okl tz_sub_7 tz_al_107 (by decide +kernel)
theorem tz_okl_108 : tz_OK 108 cz_108 := tz_okl tz_sub_8 tz_al_108 (by decide +kernel)
theorem tz_okl_109 : tz_OK 109 cz_109 := tz_okl tz_sub_8 tz_al_109 (by decide +kernel)
theorem tz_okl_110 : tz_OK 110 cz_110 := tz_okl tz_sub_8 tz_al_110 (by decide +kernel)
theorem tz_okl_111 : tz_OK 111 cz_111 := tz_okl tz_sub_8 tz_al_111 (by decide +kernel)
theorem tz_okl_112 : tz_OK 112 cz_112 := tz_okl tz_sub_8 tz_al_112 (by decide +kernel)
theorem tz_okl_113 : tz_OK 113 cz_113 := tz_okl tz_sub_9 tz_al_113 (by decide +kernel)
theorem tz_okl_114 : tz_OK 114 cz_114 := tz_okl tz_sub_9 tz_al_114 (by decide +kernel)
theorem tz_okl_115 : tz_OK 115 cz_115 := tz_okl tz_sub_9 tz_al_115 (by decide +kernel)
theorem tz_okl_116 : tz_OK 116 cz_116 := tz_okl tz_sub_9 tz_al_116 (by decide +kernel)
theorem tz_okl_117 : tz_OK 117 cz_117 := tz_okl tz_sub_9 tz_al_117 (by decide +kernel)
theorem tz_okl_118 : tz_OK 118 cz_118 := tz_okl tz_sub_9 tz_al_118 (by decide +kernel)
theorem tz_okl_119 : tz_OK 119 cz_119 := tz_okl tz_sub_9 tz_al_119 (by decide +kernel)
theorem tz_okl_120 : tz_OK 120 cz_120 := tz_okl tz_sub_9 tz_al_120 (by decide +kernel)
theorem tz_okl_121 : tz_OK 121 cz_121 := tz_okl tz_sub_9 tz_al_121 (by decide +kernel)
theorem tz_okl_122 : tz_OK 122 cz_122 := tz_okl tz_sub_10 tz_al_122 (by decide +kernel)
theorem tz_okl_123 : tz_OK 123 cz_123 := tz_okl tz_sub_10 tz_al_123 (by decide +kernel)
theorem tz_okl_124 : tz_OK 124 cz_124 := tz_okl tz_sub_10 tz_al_124 (by decide +kernel)
theorem tz_okl_125 : tz_OK 125 cz_125 := tz_okl tz_sub_10 tz_al_125 (by decide +kernel)
theorem tz_okl_126 : tz_OK 126 cz_126 := tz_okl tz_sub_10 tz_al_126 (by decide +kernel)
theorem tz_okl_127 : tz_OK 127 cz_127 := tz_okl tz_sub_11 tz_al_127 (by decide +kernel)
theorem tz_okl_128 : tz_OK 128 cz_128 := tz_okl tz_sub_11 tz_al_128 (by decide +kernel)
theorem tz_okl_129 : tz_OK 129 cz_129 := tz_okl tz_sub_11 tz_al_129 (by decide +kernel)
theorem tz_okl_130 : tz_OK 130 cz_130 := tz_okl tz_sub_11 tz_al_130 (by decide +kernel)
theorem tz_okl_131 : tz_OK 131 cz_131 := tz_okl tz_sub_12 tz_al_131 (by decide +kernel)
theorem tz_okl_132 : tz_OK 132 cz_132 := tz_okl tz_sub_12 tz_al_132 (by decide +kernel)
theorem tz_okl_133 : tz_OK 133 cz_133 := tz_okl tz_sub_12 tz_al_133 (by decide +kernel)
theorem tz_okl_134 : tz_OK 134 cz_134 := tz_okl tz_sub_12 tz_al_134 (by decide +kernel)
theorem tz_okl_135 : tz_OK 135 cz_135 := tz_okl tz_sub_12 tz_al_135 (by decide +kernel)
theorem tz_okl_136 : tz_OK 136 cz_136 := tz_okl tz_sub_12 tz_al_136 (by decide +kernel)
theorem tz_okl_137 : tz_OK 137 cz_137 := tz_okl tz_sub_12 tz_al_137 (by decide +kernel)
theorem tz_okl_138 : tz_OK 138 cz_138 := tz_okl tz_sub_12 tz_al_138 (by decide +kernel)
theorem tz_okl_139 : tz_OK 139 cz_139 := tz_okl tz_sub_12 tz_al_139 (by decide +kernel)
theorem tz_okl_140 : tz_OK 140 cz_140 := tz_okl tz_sub_12 tz_al_140 (by decide +kernel)
theorem tz_okl_141 : tz_OK 141 cz_141 := tz_okl tz_sub_12 tz_al_141 (by decide +kernel)
theorem tz_okl_142 : tz_OK 142 cz_142 := tz_okl tz_sub_12 tz_al_142 (by decide +kernel)
theorem tz_okl_143 : tz_OK 143 cz_143 := tz_okl tz_sub_12 tz_al_143 (by decide +kernel)
theorem tz_okl_144 : tz_OK 144 cz_144 := tz_okl tz_sub_13 tz_al_144 (by decide +kernel)
theorem tz_okl_145 : tz_OK 145 cz_145 := tz_okl tz_sub_13 tz_al_145 (by decide +kernel)
theorem tz_okl_146 : tz_OK 146 cz_146 := tz_okl tz_sub_13 tz_al_146 (by decide +kernel)
theorem tz_okl_147 : tz_OK 147 cz_147 := tz_okl tz_sub_13 tz_al_147 (by decide +kernel)
theorem tz_okl_148 : tz_OK 148 cz_148 := tz_okl tz_sub_14 tz_al_148 (by decide +kernel)
theorem tz_okl_149 : tz_OK 149 cz_149 := tz_okl tz_sub_13 tz_al_149 (by decide +kernel)
theorem tz_OKs : ∀ n, tz_OK n (tz_co n)
  | 0 => tz_okl_0
  | 1 => tz_okl_1
  | 2 => tz_okl_2
  | 3 => tz_okl_3
  | 4 => tz_okl_4
  | 5 => tz_okl_5
  | 6 => tz_okl_6
  | 7 => tz_okl_7
  | 8 => tz_okl_8
  | 9 => tz_okl_9
  | 10 => tz_okl_10
  | 11 => tz_okl_11
  | 12 => tz_okl_12
  | 13 => tz_okl_13
  | 14 => tz_okl_14
  | 15 => tz_okl_15
  | 16 => tz_okl_16
  | 17 => tz_okl_17
  | 18 => tz_okl_18
  | 19 => tz_okl_19
  | 20 => tz_okl_20
  | 21 => tz_okl_21
  | 22 => tz_okl_22
  | 23 => tz_okl_23
  | 24 => tz_okl_24
  | 25 => tz_okl_25
  | 26 => tz_okl_26
  | 27 => tz_okl_27
  | 28 => tz_okl_28
  | 29 => tz_okl_29
  | 30 => tz_okl_30
  | 31 => tz_okl_31
  | 32 => tz_okl_32
  | 33 => tz_okl_33
  | 34 => tz_okl_34
  | 35 => tz_okl_35
  | 36 => tz_okl_36
  | 37 => tz_okl_37
  | 38 => tz_okl_38
  | 39 => tz_okl_39
  | 40 => tz_okl_40
  | 41 => tz_okl_41
  | 42 => tz_okl_42
  | 43 => tz_okl_43
  | 44 => tz_okl_44
  | 45 => tz_okl_45
  | 46 => tz_okl_46
  | 47 => tz_okl_47
  | 48 => tz_okl_48
  | 49 => tz_okl_49
  | 50 => tz_okl_50
  | 51 => tz_okl_51
  | 52 => tz_okl_52
  | 53 => tz_okl_53
  | 54 => tz_okl_54
  | 55 => tz_okl_55
  | 56 => tz_okl_56
  | 57 => tz_okl_57
  | 58 => tz_okl_58
  | 59 => tz_okl_59
  | 60 => tz_okl_60
  | 61 => tz_okl_61
  | 62 => tz_okl_62
  | 63 => tz_okl_63
  | 64 => tz_okl_64
  | 65 => tz_okl_65
  | 66 => tz_okl_66
  | 67 => tz_okl_67
  | 68 => tz_okl_68
  | 69 => tz_okl_69
  | 70 => tz_okl_70
  | 71 => tz_okl_71
  | 72 => tz_okl_72
  | 73 => tz_okl_73
  | 74 => tz_okl_74
  | 75 => tz_okl_75
  | 76 => tz_okl_76
  | 77 => tz_okl_77
  | 78 => tz_okl_78
  | 79 => tz_okl_79
  | 80 => tz_okl_80
  | 81 => tz_okl_81
  | 82 => tz_okl_82
  | 83 => tz_okl_83
  | 84 => tz_okl_84
  | 85 => tz_okl_85
  | 86 => tz_okl_86
  | 87 => tz_okl_87
  | 88 => tz_okl_88
  | 89 => tz_okl_89
  | 90 => tz_okl_90
  | 91 => tz_okl_91
  | 92 => tz_okl_92
  | 93 => tz_okl_93
  | 94 => tz_okl_94
  | 95 => tz_okl_95
  | 96 => tz_okl_96
  | 97 => tz_okl_97
  | 98 => tz_okl_98
  | 99 => tz_okl_99
  | 100 => tz_okl_100
  | 101 => tz_okl_101
  | 102 => tz_okl_102
  | 103 => tz_okl_103
  | 104 => tz_okl_104
  | 105 => tz_okl_105
  | 106 => tz_okl_106
  | 107 => tz_okl_107
  | 108 => tz_okl_108
  | 109 => tz_okl_109
  | 110 => tz_okl_110
  | 111 => tz_okl_111
  | 112 => tz_okl_112
  | 113 => tz_okl_113
  | 114 => tz_okl_114
  | 115 => tz_okl_115
  | 116 => tz_okl_116
  | 117 => tz_okl_117
  | 118 => tz_okl_118
  | 119 => tz_okl_119
  | 120 => tz_okl_120
  | 121 => tz_okl_121
  | 122 => tz_okl_122
  | 123 => tz_okl_123
  | 124 => tz_okl_124
  | 125 => tz_okl_125
  | 126 => tz_okl_126
  | 127 => tz_okl_127
  | 128 => tz_okl_128
  | 129 => tz_okl_129
  | 130 => tz_okl_130
  | 131 => tz_okl_131
  | 132 => tz_okl_132
  | 133 => tz_okl_133
  | 134 => tz_okl_134
  | 135 => tz_okl_135
  | 136 => tz_okl_136
  | 137 => tz_okl_137
  | 138 => tz_okl_138
  | 139 => tz_okl_139
  | 140 => tz_okl_140
  | 141 => tz_okl_141
  | 142 => tz_okl_142
  | 143 => tz_okl_143
  | 144 => tz_okl_144
  | 145 => tz_okl_145
  | 146 => tz_okl_146
  | 147 => tz_okl_147
  | 148 => tz_okl_148
  | 149 => tz_okl_149
  | n + 150 => by
    have : tz_co (n + 150) = [] := by
      unfold tz_co
      rw [List.getD_eq_getElem?_getD, List.getElem?_eq_none (by show 150 ≤ n + 150; omega)]
      rfl
    rw [this]
    trivial
theorem ez_lookup_mem {α β : Type} [BEq α] [LawfulBEq α] {k : α} {v : β} : ∀ l : List (α × β), l.lookup k = some v → (k, v) ∈ l
  | [], h => by cases h
  | (a, b) :: r, h => by
    rw [List.lookup_cons] at h
    cases hq : k == a with
    | true =>
      rw [hq] at h
      cases h
      have := eq_of_beq hq
      subst this
      exact List.mem_cons_self
    | false =>
      rw [hq] at h
      exact List.mem_cons_of_mem _ (ez_lookup_mem r h)
theorem tz_okHs : ∀ mi, ez_okH tz_ex tz_nm tz_by tz_ml tz_hh tz_tbl tz_hn mi := by
  intro mi pc x
  refine ⟨fun h => ?_, fun t j h => ?_⟩
  · unfold tz_hn at h
    split at h
    · assumption
    · cases h
  · unfold tz_hn at h
    split at h
    · cases h
    · have hm : ((mi, pc, x), (t + 1, j)) ∈ tz_hnL := by
        cases hq : tz_hnL.lookup (mi, pc, x) with
        | none => rw [hq] at h; cases h
        | some v => rw [hq] at h; cases h; exact ez_lookup_mem _ hq
      simp only [tz_hnL, List.mem_cons, List.not_mem_nil, or_false, Prod.mk.injEq] at hm
      rcases hm with ⟨⟨rfl, rfl, rfl⟩, ht, rfl⟩ | ⟨⟨rfl, rfl, rfl⟩, ht, rfl⟩ | ⟨⟨rfl, rfl, rfl⟩, ht, rfl⟩ | ⟨⟨rfl, rfl, rfl⟩, ht, rfl⟩ | ⟨⟨rfl, rfl, rfl⟩, ht, rfl⟩ | ⟨⟨rfl, rfl, rfl⟩, ht, rfl⟩
      · exact ⟨[], 0, 8, 11, 13, [], by decide, by decide, by decide, tz_in (by decide +kernel) rfl, tz_in (by decide +kernel) rfl, fun y hy => absurd hy List.not_mem_nil, Or.inl ⟨2, by decide +kernel, rfl, by omega⟩, by decide⟩
      · exact ⟨[], 0, 8, 11, 18, [], by decide, by decide, by decide, tz_in (by decide +kernel) rfl, tz_in (by decide +kernel) rfl, fun y hy => absurd hy List.not_mem_nil, Or.inl ⟨2, by decide +kernel, rfl, by omega⟩, by decide⟩
      · exact ⟨[(0, 6, 9, 24)], 0, 6, 12, 18, [], by decide, by decide, by decide, tz_in (by decide +kernel) rfl, tz_in (by decide +kernel) rfl, by
          intro y hy
          cases List.mem_singleton.mp hy
          exact ⟨by decide, by decide, "java/lang/IndexOutOfBoundsException", tz_in (by decide +kernel) rfl, List.mem_append_right _ (by decide +kernel)⟩, Or.inl ⟨3, by decide +kernel, rfl, by omega⟩, by decide⟩
      · exact ⟨[], 0, 6, 9, 24, [(0, 6, 12, 18)], by decide, by decide, by decide, tz_in (by decide +kernel) rfl, tz_in (by decide +kernel) rfl, fun y hy => absurd hy List.not_mem_nil, Or.inl ⟨3, by decide +kernel, rfl, by omega⟩, by decide⟩
      · exact ⟨[(0, 9, 12, 18)], 0, 9, 15, 13, [], by decide, by decide, by decide, tz_in (by decide +kernel) rfl, tz_in (by decide +kernel) rfl, by
          intro y hy
          cases List.mem_singleton.mp hy
          exact ⟨by decide, by decide, "java/lang/IllegalArgumentException", tz_in (by decide +kernel) rfl, List.mem_append_right _ (by decide +kernel)⟩, Or.inl ⟨3, by decide +kernel, rfl, by omega⟩, by decide⟩
      · exact ⟨[], 0, 9, 12, 18, [(0, 9, 15, 13)], by decide, by decide, by decide, tz_in (by decide +kernel) rfl, tz_in (by decide +kernel) rfl, fun y hy => absurd hy List.not_mem_nil, Or.inl ⟨3, by decide +kernel, rfl, by omega⟩, by decide⟩
