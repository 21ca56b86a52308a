theorem tz_good : ez_good tz_tbl := by
  intro w hw args a' s U hW hb
  rcases List.mem_append.mp hw with z | z
  · exact ez_kp_ok (List.mem_filter.mp z).2 hW hb
  · simp only [tz_exw, List.mem_cons, List.not_mem_nil, or_false] at z
    rcases z with rfl | rfl
    · exact ez_notCast_warm hW hb
    · exact ez_notCast_warm hW hb
set_option maxRecDepth 100000 in
theorem tz_clw_1 : ∀ w ∈ u_ws (tz_cn 1) (tz_ct 1) (tz_nf 1), w ∈ lw_tbl := ez_sub_ix (ps := [406, 408, 410, 412, 414, 416, 418, 420]) (by decide +kernel) (by decide +kernel)
set_option maxRecDepth 100000 in
theorem tz_cls_1 : ez_Cls tz_tbl tz_cl tz_nf tz_ty 1 (tz_cn 1) (tz_ct 1) := ⟨by decide, by decide, rfl, fun w hw => tz_in (tz_clw_1 w hw) (List.all_eq_true.mp (show (u_ws (tz_cn 1) (tz_ct 1) (tz_nf 1)).all ez_kp = true by decide +kernel) w hw), by decide +kernel, by decide +kernel⟩
set_option maxRecDepth 100000 in
theorem tz_clw_2 : ∀ w ∈ u_ws (tz_cn 2) (tz_ct 2) (tz_nf 2), w ∈ lw_tbl := ez_sub_ix (ps := [1033, 1035, 1037, 1039, 1041, 1043, 1045, 1047, 1049, 1051, 1053, 1055, 1057, 1059, 1061, 1063, 1065, 1067, 1069, 1071, 1073, 1075, 1077, 1079, 1081, 1083, 1085, 1087, 1089, 1091, 1093, 1095, 1097, 1099, 1101, 1103, 1105, 1107, 1109, 1111, 1113, 1115, 1117, 1119, 1121, 1123, 1125, 1127, 1129, 1131, 1133, 1135, 1137, 1139, 1141, 1143, 1145, 1147, 1149, 1151, 1153, 1155, 1157, 1159, 1161, 1163, 1165, 1167, 1169, 1171]) (by decide +kernel) (by decide +kernel)
set_option maxRecDepth 100000 in
theorem tz_cls_2 : ez_Cls tz_tbl tz_cl tz_nf tz_ty 2 (tz_cn 2) (tz_ct 2) := ⟨by decide, by decide, rfl, fun w hw => tz_in (tz_clw_2 w hw) (List.all_eq_true.mp (show (u_ws (tz_cn 2) (tz_ct 2) (tz_nf 2)).all ez_kp = true by decide +kernel) w hw), by decide +kernel, by decide +kernel⟩
set_option maxRecDepth 100000 in
theorem tz_clw_3 : ∀ w ∈ u_ws (tz_cn 3) (tz_ct 3) (tz_nf 3), w ∈ lw_tbl := ez_sub_ix (ps := [319, 321, 323]) (by decide +kernel) (by decide +kernel)
set_option maxRecDepth 100000 in
theorem tz_cls_3 : ez_Cls tz_tbl tz_cl tz_nf tz_ty 3 (tz_cn 3) (tz_ct 3) := ⟨by decide, by decide, rfl, fun w hw => tz_in (tz_clw_3 w hw) (List.all_eq_true.mp (show (u_ws (tz_cn 3) (tz_ct 3) (tz_nf 3)).all ez_kp = true by decide +kernel) w hw), by decide +kernel, by decide +kernel⟩
set_option maxRecDepth 100000 in
theorem tz_clw_4 : ∀ w ∈ u_ws (tz_cn 4) (tz_ct 4) (tz_nf 4), w ∈ lw_tbl := ez_sub_ix (ps := [255, 257, 259]) (by decide +kernel) (by decide +kernel)
set_option maxRecDepth 100000 in
theorem tz_cls_4 : ez_Cls tz_tbl tz_cl tz_nf tz_ty 4 (tz_cn 4) (tz_ct 4) := ⟨by decide, by decide, rfl, fun w hw => tz_in (tz_clw_4 w hw) (List.all_eq_true.mp (show (u_ws (tz_cn 4) (tz_ct 4) (tz_nf 4)).all ez_kp = true by decide +kernel) w hw), by decide +kernel, by decide +kernel⟩
set_option maxRecDepth 100000 in
theorem tz_clw_5 : ∀ w ∈ u_ws (tz_cn 5) (tz_ct 5) (tz_nf 5), w ∈ lw_tbl := ez_sub_ix (ps := [157, 159, 161, 163, 165, 167, 169]) (by decide +kernel) (by decide +kernel)
set_option maxRecDepth 100000 in
theorem tz_cls_5 : ez_Cls tz_tbl tz_cl tz_nf tz_ty 5 (tz_cn 5) (tz_ct 5) := ⟨by decide, by decide, rfl, fun w hw => tz_in (tz_clw_5 w hw) (List.all_eq_true.mp (show (u_ws (tz_cn 5) (tz_ct 5) (tz_nf 5)).all ez_kp = true by decide +kernel) w hw), by decide +kernel, by decide +kernel⟩
set_option maxRecDepth 100000 in
theorem tz_clw_6 : ∀ w ∈ u_ws (tz_cn 6) (tz_ct 6) (tz_nf 6), w ∈ lw_tbl := ez_sub_ix (ps := [293, 295, 297, 299, 301, 303, 305, 307]) (by decide +kernel) (by decide +kernel)
set_option maxRecDepth 100000 in
theorem tz_cls_6 : ez_Cls tz_tbl tz_cl tz_nf tz_ty 6 (tz_cn 6) (tz_ct 6) := ⟨by decide, by decide, rfl, fun w hw => tz_in (tz_clw_6 w hw) (List.all_eq_true.mp (show (u_ws (tz_cn 6) (tz_ct 6) (tz_nf 6)).all ez_kp = true by decide +kernel) w hw), by decide +kernel, by decide +kernel⟩
set_option maxRecDepth 100000 in
theorem tz_clw_7 : ∀ w ∈ u_ws (tz_cn 7) (tz_ct 7) (tz_nf 7), w ∈ lw_tbl := ez_sub_ix (ps := [212, 214, 216, 218, 220]) (by decide +kernel) (by decide +kernel)
set_option maxRecDepth 100000 in
theorem tz_cls_7 : ez_Cls tz_tbl tz_cl tz_nf tz_ty 7 (tz_cn 7) (tz_ct 7) := ⟨by decide, by decide, rfl, fun w hw => tz_in (tz_clw_7 w hw) (List.all_eq_true.mp (show (u_ws (tz_cn 7) (tz_ct 7) (tz_nf 7)).all ez_kp = true by decide +kernel) w hw), by decide +kernel, by decide +kernel⟩
set_option maxRecDepth 100000 in
theorem tz_clw_8 : ∀ w ∈ u_ws (tz_cn 8) (tz_ct 8) (tz_nf 8), w ∈ lw_tbl := ez_sub_ix (ps := [118, 120, 122, 124]) (by decide +kernel) (by decide +kernel)
set_option maxRecDepth 100000 in
theorem tz_cls_8 : ez_Cls tz_tbl tz_cl tz_nf tz_ty 8 (tz_cn 8) (tz_ct 8) := ⟨by decide, by decide, rfl, fun w hw => tz_in (tz_clw_8 w hw) (List.all_eq_true.mp (show (u_ws (tz_cn 8) (tz_ct 8) (tz_nf 8)).all ez_kp = true by decide +kernel) w hw), by decide +kernel, by decide +kernel⟩
set_option maxRecDepth 100000 in
theorem tz_clw_9 : ∀ w ∈ u_ws (tz_cn 9) (tz_ct 9) (tz_nf 9), w ∈ lw_tbl := ez_sub_ix (ps := [272, 274, 276]) (by decide +kernel) (by decide +kernel)
set_option maxRecDepth 100000 in
theorem tz_cls_9 : ez_Cls tz_tbl tz_cl tz_nf tz_ty 9 (tz_cn 9) (tz_ct 9) := ⟨by decide, by decide, rfl, fun w hw => tz_in (tz_clw_9 w hw) (List.all_eq_true.mp (show (u_ws (tz_cn 9) (tz_ct 9) (tz_nf 9)).all ez_kp = true by decide +kernel) w hw), by decide +kernel, by decide +kernel⟩
set_option maxRecDepth 100000 in
theorem tz_clw_10 : ∀ w ∈ u_ws (tz_cn 10) (tz_ct 10) (tz_nf 10), w ∈ lw_tbl := ez_sub_ix (ps := [341, 343, 345, 347, 349, 351, 353, 355, 357, 359, 361, 363]) (by decide +kernel) (by decide +kernel)
set_option maxRecDepth 100000 in
theorem tz_cls_10 : ez_Cls tz_tbl tz_cl tz_nf tz_ty 10 (tz_cn 10) (tz_ct 10) := ⟨by decide, by decide, rfl, fun w hw => tz_in (tz_clw_10 w hw) (List.all_eq_true.mp (show (u_ws (tz_cn 10) (tz_ct 10) (tz_nf 10)).all ez_kp = true by decide +kernel) w hw), by decide +kernel, by decide +kernel⟩
set_option maxRecDepth 100000 in
theorem tz_clw_11 : ∀ w ∈ u_ws (tz_cn 11) (tz_ct 11) (tz_nf 11), w ∈ lw_tbl := ez_sub_ix (ps := [239, 241]) (by decide +kernel) (by decide +kernel)
set_option maxRecDepth 100000 in
theorem tz_cls_11 : ez_Cls tz_tbl tz_cl tz_nf tz_ty 11 (tz_cn 11) (tz_ct 11) := ⟨by decide, by decide, rfl, fun w hw => tz_in (tz_clw_11 w hw) (List.all_eq_true.mp (show (u_ws (tz_cn 11) (tz_ct 11) (tz_nf 11)).all ez_kp = true by decide +kernel) w hw), by decide +kernel, by decide +kernel⟩
set_option maxRecDepth 100000 in
theorem tz_clw_12 : ∀ w ∈ u_ws (tz_cn 12) (tz_ct 12) (tz_nf 12), w ∈ lw_tbl := ez_sub_ix (ps := [102, 104]) (by decide +kernel) (by decide +kernel)
set_option maxRecDepth 100000 in
theorem tz_cls_12 : ez_Cls tz_tbl tz_cl tz_nf tz_ty 12 (tz_cn 12) (tz_ct 12) := ⟨by decide, by decide, rfl, fun w hw => tz_in (tz_clw_12 w hw) (List.all_eq_true.mp (show (u_ws (tz_cn 12) (tz_ct 12) (tz_nf 12)).all ez_kp = true by decide +kernel) w hw), by decide +kernel, by decide +kernel⟩
set_option maxRecDepth 100000 in
theorem tz_clw_13 : ∀ w ∈ u_ws (tz_cn 13) (tz_ct 13) (tz_nf 13), w ∈ lw_tbl := ez_sub_ix (ps := [383, 385, 387, 389, 391, 393, 395]) (by decide +kernel) (by decide +kernel)
set_option maxRecDepth 100000 in
theorem tz_cls_13 : ez_Cls tz_tbl tz_cl tz_nf tz_ty 13 (tz_cn 13) (tz_ct 13) := ⟨by decide, by decide, rfl, fun w hw => tz_in (tz_clw_13 w hw) (List.all_eq_true.mp (show (u_ws (tz_cn 13) (tz_ct 13) (tz_nf 13)).all ez_kp = true by decide +kernel) w hw), by decide +kernel, by decide +kernel⟩
theorem tz_cls : ∀ a, 0 < a → a ≤ 13 → ez_Cls tz_tbl tz_cl tz_nf tz_ty a (tz_cn a) (tz_ct a)
  | 0, h, _ => absurd h (by omega)
  | 1, _, _ => tz_cls_1
  | 2, _, _ => tz_cls_2
  | 3, _, _ => tz_cls_3
  | 4, _, _ => tz_cls_4
  | 5, _, _ => tz_cls_5
  | 6, _, _ => tz_cls_6
  | 7, _, _ => tz_cls_7
  | 8, _, _ => tz_cls_8
  | 9, _, _ => tz_cls_9
  | 10, _, _ => tz_cls_10
  | 11, _, _ => tz_cls_11
  | 12, _, _ => tz_cls_12
  | 13, _, _ => tz_cls_13
  | n + 14, _, h => absurd h (by omega)
theorem tz_atoms {ws : List Cond} (h : ws.all (fun w => (ez_inb lw_tbl w && ez_kp w) || ez_inb ez_thw w) = true) : ∀ w ∈ ws, w ∈ tz_tbl ∨ w ∈ ez_thw := by
  intro w hw
  have := List.all_eq_true.mp h w hw
  simp only [Bool.or_eq_true, Bool.and_eq_true, ez_inb_iff] at this
  rcases this with z | z
  · exact Or.inl (tz_in z.1 z.2)
  · exact Or.inr z
set_option maxRecDepth 100000 in
theorem tz_tk_5_13 : ez_tk tz_ex tz_nm tz_by tz_hh tz_tbl tz_str 5 13 1 := ⟨82, 84, 86, "the output has more bytes than a tape can have", by decide +kernel, by decide +kernel, by decide +kernel, by decide +kernel, by decide +kernel, by decide +kernel, by decide +kernel, tz_atoms (by decide +kernel), tz_in ((ez_inb_iff lw_tbl).mp (by decide +kernel)) rfl, tz_in ((ez_inb_iff lw_tbl).mp (by decide +kernel)) rfl, by decide +kernel⟩
set_option maxRecDepth 100000 in
theorem tz_tk_16_10 : ez_tk tz_ex tz_nm tz_by tz_hh tz_tbl tz_str 16 10 3 := ⟨152, 154, 156, "the symbol is not 0 .. 63", by decide +kernel, by decide +kernel, by decide +kernel, by decide +kernel, by decide +kernel, by decide +kernel, by decide +kernel, tz_atoms (by decide +kernel), tz_in ((ez_inb_iff lw_tbl).mp (by decide +kernel)) rfl, tz_in ((ez_inb_iff lw_tbl).mp (by decide +kernel)) rfl, by decide +kernel⟩
set_option maxRecDepth 100000 in
theorem tz_tk_16_30 : ez_tk tz_ex tz_nm tz_by tz_hh tz_tbl tz_str 16 30 2 := ⟨158, 160, 162, "the weight is not 0 .. 1000000", by decide +kernel, by decide +kernel, by decide +kernel, by decide +kernel, by decide +kernel, by decide +kernel, by decide +kernel, tz_atoms (by decide +kernel), tz_in ((ez_inb_iff lw_tbl).mp (by decide +kernel)) rfl, tz_in ((ez_inb_iff lw_tbl).mp (by decide +kernel)) rfl, by decide +kernel⟩
set_option maxRecDepth 100000 in
theorem tz_tk_17_11 : ez_tk tz_ex tz_nm tz_by tz_hh tz_tbl tz_str 17 11 2 := ⟨158, 163, 162, "the limit is not 1 .. 15", by decide +kernel, by decide +kernel, by decide +kernel, by decide +kernel, by decide +kernel, by decide +kernel, by decide +kernel, tz_atoms (by decide +kernel), tz_in ((ez_inb_iff lw_tbl).mp (by decide +kernel)) rfl, tz_in ((ez_inb_iff lw_tbl).mp (by decide +kernel)) rfl, by decide +kernel⟩
set_option maxRecDepth 100000 in
theorem tz_tk_17_31 : ez_tk tz_ex tz_nm tz_by tz_hh tz_tbl tz_str 17 31 1 := ⟨82, 169, 86, "more symbols have weights than codes of that length are", by decide +kernel, by decide +kernel, by decide +kernel, by decide +kernel, by decide +kernel, by decide +kernel, by decide +kernel, tz_atoms (by decide +kernel), tz_in ((ez_inb_iff lw_tbl).mp (by decide +kernel)) rfl, tz_in ((ez_inb_iff lw_tbl).mp (by decide +kernel)) rfl, by decide +kernel⟩
set_option maxRecDepth 100000 in
theorem tz_tk_143_18 : ez_tk tz_ex tz_nm tz_by tz_hh tz_tbl tz_str 143 18 2 := ⟨164, 166, 168, "the bytes can't be unpacked", by decide +kernel, by decide +kernel, by decide +kernel, by decide +kernel, by decide +kernel, by decide +kernel, by decide +kernel, tz_atoms (by decide +kernel), tz_in ((ez_inb_iff lw_tbl).mp (by decide +kernel)) rfl, tz_in ((ez_inb_iff lw_tbl).mp (by decide +kernel)) rfl, by decide +kernel⟩
theorem tz_thr_ok : ∀ q ∈ tz_thr, ez_tk tz_ex tz_nm tz_by tz_hh tz_tbl tz_str q.1 q.2.1 q.2.2 := by
  intro q hq
  simp only [tz_thr, List.mem_cons, List.not_mem_nil, or_false] at hq
  rcases hq with rfl | rfl | rfl | rfl | rfl | rfl
  · exact tz_tk_5_13
  · exact tz_tk_16_10
  · exact tz_tk_16_30
  · exact tz_tk_17_11
  · exact tz_tk_17_31
  · exact tz_tk_143_18
