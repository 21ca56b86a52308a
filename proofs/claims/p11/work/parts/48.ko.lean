/-! PRINTED by wip/tools/mkko.py: the evaluator's tables are the program's -/
noncomputable def ev_mku (ts : List Nat) (cs : List ez_C) : ev_U := ts.map (fun t => (t, (ev_skip t cs).map ev_tr))
theorem ev_mku_ok {cs : List ez_C} (t : Nat) : ∀ ts : List Nat, ev_lk t (ev_mku ts cs) = [] ∨ ev_lk t (ev_mku ts cs) = (ev_skip t cs).map ev_tr
  | [] => .inl rfl
  | q :: ts => by
    show cond (Nat.beq q t) ((ev_skip q cs).map ev_tr) (ev_lk t (ev_mku ts cs)) = [] ∨ cond (Nat.beq q t) ((ev_skip q cs).map ev_tr) (ev_lk t (ev_mku ts cs)) = _
    cases hb : Nat.beq q t with
    | true =>
      have e := Nat.eq_of_beq_eq_true hb
      subst e
      exact .inr rfl
    | false => exact ev_mku_ok t ts
def ev_hd0 (cs : List ez_C) : Bool := match cs with
  | [] => true
  | e :: _ => Nat.beq e.1 0
theorem ev_ko1 {CO : Nat → ev_U × List ev_K} {n : Nat} {ts : List Nat} {fu : ev_U} {co : List ev_K} {cs : List ez_C} (e : CO n = (fu, co)) (ec : tz_co n = cs) (h1 : co = cs.map ev_tr) (h2 : fu = ev_mku ts cs) (h3 : (ev_srt cs && ev_hd0 cs) = true) : (CO n).2 = (tz_co n).map ev_tr ∧ (∀ t, ev_lk t (CO n).1 = [] ∨ ev_lk t (CO n).1 = (ev_skip t (tz_co n)).map ev_tr) ∧ ev_srt (tz_co n) = true ∧ (∀ e r, tz_co n = e :: r → e.1 = 0) := by
  obtain ⟨g1, g2⟩ := ev_and h3
  rw [e, ec]
  refine ⟨h1, fun t => ?_, g1, fun e r he => ?_⟩
  · rw [h2]; exact ev_mku_ok t ts
  · rw [he] at g2; exact Nat.eq_of_beq_eq_true g2
set_option maxRecDepth 20000 in
theorem kq_0 : kz_0_0 = cz_0.map ev_tr := rfl
set_option maxRecDepth 20000 in
theorem kv_0 : ku_0 = ev_mku [] cz_0 := rfl
set_option maxRecDepth 20000 in
theorem kq_1 : kz_1_0 = cz_1.map ev_tr := rfl
set_option maxRecDepth 20000 in
theorem kv_1 : ku_1 = ev_mku [] cz_1 := rfl
set_option maxRecDepth 20000 in
theorem kq_2 : kz_2_0 = cz_2.map ev_tr := rfl
set_option maxRecDepth 20000 in
theorem kv_2 : ku_2 = ev_mku [] cz_2 := rfl
set_option maxRecDepth 20000 in
theorem kq_3 : kz_3_0 = cz_3.map ev_tr := rfl
set_option maxRecDepth 20000 in
theorem kv_3 : ku_3 = ev_mku [] cz_3 := rfl
set_option maxRecDepth 20000 in
theorem kq_4 : kz_4_0 = cz_4.map ev_tr := rfl
set_option maxRecDepth 20000 in
theorem kv_4 : ku_4 = ev_mku [] cz_4 := rfl
set_option maxRecDepth 20000 in
theorem kq_5 : kz_5_0 = cz_5.map ev_tr := rfl
set_option maxRecDepth 20000 in
theorem kv_5 : ku_5 = ev_mku [] cz_5 := rfl
set_option maxRecDepth 20000 in
theorem kq_6 : kz_6_0 = cz_6.map ev_tr := rfl
set_option maxRecDepth 20000 in
theorem kv_6 : ku_6 = ev_mku [] cz_6 := rfl
set_option maxRecDepth 20000 in
theorem kq_7 : kz_7_0 = cz_7.map ev_tr := rfl
set_option maxRecDepth 20000 in
theorem kv_7 : ku_7 = ev_mku [] cz_7 := rfl
set_option maxRecDepth 20000 in
theorem kq_8 : kz_8_0 = cz_8.map ev_tr := rfl
set_option maxRecDepth 20000 in
theorem kv_8 : ku_8 = ev_mku [] cz_8 := rfl
set_option maxRecDepth 20000 in
theorem kq_9 : kz_9_0 = cz_9.map ev_tr := rfl
set_option maxRecDepth 20000 in
theorem kv_9 : ku_9 = ev_mku [] cz_9 := rfl
set_option maxRecDepth 20000 in
theorem kq_10 : kz_10_0 = cz_10.map ev_tr := rfl
set_option maxRecDepth 20000 in
theorem kv_10 : ku_10 = ev_mku [] cz_10 := rfl
set_option maxRecDepth 20000 in
theorem kq_11 : kz_11_0 = cz_11.map ev_tr := rfl
set_option maxRecDepth 20000 in
theorem kv_11 : ku_11 = ev_mku [] cz_11 := rfl
set_option maxRecDepth 20000 in
theorem kq_12 : kz_12_0 = cz_12.map ev_tr := rfl
set_option maxRecDepth 20000 in
theorem kv_12 : ku_12 = ev_mku [] cz_12 := rfl
set_option maxRecDepth 20000 in
theorem kq_13 : kz_13_0 = cz_13.map ev_tr := rfl
set_option maxRecDepth 20000 in
theorem kv_13 : ku_13 = ev_mku [] cz_13 := rfl
set_option maxRecDepth 20000 in
theorem kq_14 : kz_14_0 = cz_14.map ev_tr := rfl
set_option maxRecDepth 20000 in
theorem kv_14 : ku_14 = ev_mku [] cz_14 := rfl
set_option maxRecDepth 20000 in
theorem kq_15 : kz_15_0 = cz_15.map ev_tr := rfl
set_option maxRecDepth 20000 in
theorem kv_15 : ku_15 = ev_mku [] cz_15 := rfl
set_option maxRecDepth 20000 in
theorem kq_16 : kz_16_0 = cz_16.map ev_tr := rfl
set_option maxRecDepth 20000 in
theorem kv_16 : ku_16 = ev_mku [] cz_16 := rfl
set_option maxRecDepth 20000 in
theorem kq_17 : kz_17_0 = cz_17.map ev_tr := rfl
set_option maxRecDepth 20000 in
theorem kv_17 : ku_17 = ev_mku [] cz_17 := rfl
set_option maxRecDepth 20000 in
theorem kq_18 : kz_18_0 = cz_18.map ev_tr := rfl
set_option maxRecDepth 20000 in
theorem kv_18 : ku_18 = ev_mku [] cz_18 := rfl
set_option maxRecDepth 20000 in
theorem kq_19 : kz_19_0 = cz_19.map ev_tr := rfl
set_option maxRecDepth 20000 in
theorem kv_19 : ku_19 = ev_mku [] cz_19 := rfl
set_option maxRecDepth 20000 in
theorem kq_20 : kz_20_0 = cz_20.map ev_tr := rfl
set_option maxRecDepth 20000 in
theorem kv_20 : ku_20 = ev_mku [] cz_20 := rfl
set_option maxRecDepth 20000 in
theorem kq_21 : kz_21_0 = cz_21.map ev_tr := rfl
set_option maxRecDepth 20000 in
theorem kv_21 : ku_21 = ev_mku [] cz_21 := rfl
set_option maxRecDepth 20000 in
theorem kq_22 : kz_22_0 = cz_22.map ev_tr := rfl
set_option maxRecDepth 20000 in
theorem kv_22 : ku_22 = ev_mku [] cz_22 := rfl
set_option maxRecDepth 20000 in
theorem kq_23 : kz_23_0 = cz_23.map ev_tr := rfl
set_option maxRecDepth 20000 in
theorem kv_23 : ku_23 = ev_mku [] cz_23 := rfl
set_option maxRecDepth 20000 in
theorem kq_24 : kz_24_0 = cz_24.map ev_tr := rfl
set_option maxRecDepth 20000 in
theorem kv_24 : ku_24 = ev_mku [] cz_24 := rfl
set_option maxRecDepth 20000 in
theorem kq_25 : kz_25_0 = cz_25.map ev_tr := rfl
set_option maxRecDepth 20000 in
theorem kv_25 : ku_25 = ev_mku [] cz_25 := rfl
set_option maxRecDepth 20000 in
theorem kq_26 : kz_26_0 = cz_26.map ev_tr := rfl
set_option maxRecDepth 20000 in
theorem kv_26 : ku_26 = ev_mku [] cz_26 := rfl
set_option maxRecDepth 20000 in
theorem kq_27 : kz_27_0 = cz_27.map ev_tr := rfl
set_option maxRecDepth 20000 in
theorem kv_27 : ku_27 = ev_mku [] cz_27 := rfl
set_option maxRecDepth 20000 in
theorem kq_28 : kz_28_0 = cz_28.map ev_tr := rfl
set_option maxRecDepth 20000 in
theorem kv_28 : ku_28 = ev_mku [] cz_28 := rfl
set_option maxRecDepth 20000 in
theorem kq_29 : kz_29_0 = cz_29.map ev_tr := rfl
set_option maxRecDepth 20000 in
theorem kv_29 : ku_29 = ev_mku [] cz_29 := rfl
set_option maxRecDepth 20000 in
theorem kq_30 : kz_30_0 = cz_30.map ev_tr := rfl
set_option maxRecDepth 20000 in
theorem kv_30 : ku_30 = ev_mku [] cz_30 := rfl
set_option maxRecDepth 20000 in
theorem kq_31 : kz_31_0 = cz_31.map ev_tr := rfl
set_option maxRecDepth 20000 in
theorem kv_31 : ku_31 = ev_mku [] cz_31 := rfl
set_option maxRecDepth 20000 in
theorem kq_32 : kz_32_0 = cz_32.map ev_tr := rfl
set_option maxRecDepth 20000 in
theorem kv_32 : ku_32 = ev_mku [] cz_32 := rfl
set_option maxRecDepth 20000 in
theorem kq_33 : kz_33_0 = cz_33.map ev_tr := rfl
set_option maxRecDepth 20000 in
theorem kv_33 : ku_33 = ev_mku [] cz_33 := rfl
set_option maxRecDepth 20000 in
theorem kq_34 : kz_34_0 = cz_34.map ev_tr := rfl
set_option maxRecDepth 20000 in
theorem kv_34 : ku_34 = ev_mku [] cz_34 := rfl
set_option maxRecDepth 20000 in
theorem kq_35 : kz_35_0 = cz_35.map ev_tr := rfl
set_option maxRecDepth 20000 in
theorem kv_35 : ku_35 = ev_mku [] cz_35 := rfl
set_option maxRecDepth 20000 in
theorem kq_36 : kz_36_0 = cz_36.map ev_tr := rfl
set_option maxRecDepth 20000 in
theorem kv_36 : ku_36 = ev_mku [] cz_36 := rfl
set_option maxRecDepth 20000 in
theorem kq_37 : kz_37_0 = cz_37.map ev_tr := rfl
set_option maxRecDepth 20000 in
theorem kv_37 : ku_37 = ev_mku [] cz_37 := rfl
set_option maxRecDepth 20000 in
theorem kq_38 : kz_38_0 = cz_38.map ev_tr := rfl
set_option maxRecDepth 20000 in
theorem kv_38 : ku_38 = ev_mku [] cz_38 := rfl
set_option maxRecDepth 20000 in
theorem kq_39 : kz_39_0 = cz_39.map ev_tr := rfl
set_option maxRecDepth 20000 in
theorem kv_39 : ku_39 = ev_mku [] cz_39 := rfl
set_option maxRecDepth 20000 in
theorem kq_40 : kz_40_0 = cz_40.map ev_tr := rfl
set_option maxRecDepth 20000 in
theorem kv_40 : ku_40 = ev_mku [] cz_40 := rfl
set_option maxRecDepth 20000 in
theorem kq_41 : kz_41_0 = cz_41.map ev_tr := rfl
set_option maxRecDepth 20000 in
theorem kv_41 : ku_41 = ev_mku [] cz_41 := rfl
set_option maxRecDepth 20000 in
theorem kq_42 : kz_42_0 = cz_42.map ev_tr := rfl
set_option maxRecDepth 20000 in
theorem kv_42 : ku_42 = ev_mku [] cz_42 := rfl
set_option maxRecDepth 20000 in
theorem kq_43 : kz_43_0 = cz_43.map ev_tr := rfl
set_option maxRecDepth 20000 in
theorem kv_43 : ku_43 = ev_mku [] cz_43 := rfl
set_option maxRecDepth 20000 in
theorem kq_44 : kz_44_0 = cz_44.map ev_tr := rfl
set_option maxRecDepth 20000 in
theorem kv_44 : ku_44 = ev_mku [] cz_44 := rfl
set_option maxRecDepth 20000 in
theorem kq_45 : kz_45_0 = cz_45.map ev_tr := rfl
set_option maxRecDepth 20000 in
theorem kv_45 : ku_45 = ev_mku [] cz_45 := rfl
set_option maxRecDepth 20000 in
theorem kq_46 : kz_46_0 = cz_46.map ev_tr := rfl
set_option maxRecDepth 20000 in
theorem kv_46 : ku_46 = ev_mku [] cz_46 := rfl
set_option maxRecDepth 20000 in
theorem kq_47 : kz_47_0 = cz_47.map ev_tr := rfl
set_option maxRecDepth 20000 in
theorem kv_47 : ku_47 = ev_mku [] cz_47 := rfl
set_option maxRecDepth 20000 in
theorem kq_48 : kz_48_0 = cz_48.map ev_tr := rfl
set_option maxRecDepth 20000 in
theorem kv_48 : ku_48 = ev_mku [] cz_48 := rfl
set_option maxRecDepth 20000 in
theorem kq_49 : kz_49_0 = cz_49.map ev_tr := rfl
set_option maxRecDepth 20000 in
theorem kv_49 : ku_49 = ev_mku [] cz_49 := rfl
set_option maxRecDepth 20000 in
theorem kq_50 : kz_50_0 = cz_50.map ev_tr := rfl
set_option maxRecDepth 20000 in
theorem kv_50 : ku_50 = ev_mku [] cz_50 := rfl
set_option maxRecDepth 20000 in
theorem kq_51 : kz_51_0 = cz_51.map ev_tr := rfl
set_option maxRecDepth 20000 in
theorem kv_51 : ku_51 = ev_mku [] cz_51 := rfl
set_option maxRecDepth 20000 in
theorem kq_52 : kz_52_0 = cz_52.map ev_tr := rfl
set_option maxRecDepth 20000 in
theorem kv_52 : ku_52 = ev_mku [] cz_52 := rfl
set_option maxRecDepth 20000 in
theorem kq_53 : kz_53_0 = cz_53.map ev_tr := rfl
set_option maxRecDepth 20000 in
theorem kv_53 : ku_53 = ev_mku [] cz_53 := rfl
set_option maxRecDepth 20000 in
theorem kq_54 : kz_54_0 = cz_54.map ev_tr := rfl
set_option maxRecDepth 20000 in
theorem kv_54 : ku_54 = ev_mku [] cz_54 := rfl
set_option maxRecDepth 20000 in
theorem kq_55 : kz_55_0 = cz_55.map ev_tr := rfl
set_option maxRecDepth 20000 in
theorem kv_55 : ku_55 = ev_mku [] cz_55 := rfl
set_option maxRecDepth 20000 in
theorem kq_56 : kz_56_0 = cz_56.map ev_tr := rfl
set_option maxRecDepth 20000 in
theorem kv_56 : ku_56 = ev_mku [] cz_56 := rfl
set_option maxRecDepth 20000 in
theorem kq_57 : kz_57_0 = cz_57.map ev_tr := rfl
set_option maxRecDepth 20000 in
theorem kv_57 : ku_57 = ev_mku [] cz_57 := rfl
set_option maxRecDepth 20000 in
theorem kq_58 : kz_58_0 = cz_58.map ev_tr := rfl
set_option maxRecDepth 20000 in
theorem kv_58 : ku_58 = ev_mku [] cz_58 := rfl
set_option maxRecDepth 20000 in
theorem kq_59 : kz_59_0 = cz_59.map ev_tr := rfl
set_option maxRecDepth 20000 in
theorem kv_59 : ku_59 = ev_mku [] cz_59 := rfl
set_option maxRecDepth 20000 in
theorem kq_60 : kz_60_0 = cz_60.map ev_tr := rfl
set_option maxRecDepth 20000 in
theorem kv_60 : ku_60 = ev_mku [] cz_60 := rfl
set_option maxRecDepth 20000 in
theorem kq_61 : kz_61_0 = cz_61.map ev_tr := rfl
set_option maxRecDepth 20000 in
theorem kv_61 : ku_61 = ev_mku [] cz_61 := rfl
set_option maxRecDepth 20000 in
theorem kq_62 : kz_62_0 = cz_62.map ev_tr := rfl
set_option maxRecDepth 20000 in
theorem kv_62 : ku_62 = ev_mku [] cz_62 := rfl
set_option maxRecDepth 20000 in
theorem kq_63 : kz_63_0 = cz_63.map ev_tr := rfl
set_option maxRecDepth 20000 in
theorem kv_63 : ku_63 = ev_mku [] cz_63 := rfl
set_option maxRecDepth 20000 in
theorem kq_64 : kz_64_0 = cz_64.map ev_tr := rfl
set_option maxRecDepth 20000 in
theorem kv_64 : ku_64 = ev_mku [] cz_64 := rfl
set_option maxRecDepth 20000 in
theorem kq_65 : kz_65_0 = cz_65.map ev_tr := rfl
set_option maxRecDepth 20000 in
theorem kv_65 : ku_65 = ev_mku [] cz_65 := rfl
set_option maxRecDepth 20000 in
theorem kq_66 : kz_66_0 = cz_66.map ev_tr := rfl
set_option maxRecDepth 20000 in
theorem kv_66 : ku_66 = ev_mku [] cz_66 := rfl
set_option maxRecDepth 20000 in
theorem kq_67 : kz_67_0 = cz_67.map ev_tr := rfl
set_option maxRecDepth 20000 in
theorem kv_67 : ku_67 = ev_mku [] cz_67 := rfl
set_option maxRecDepth 20000 in
theorem kq_68 : kz_68_0 = cz_68.map ev_tr := rfl
set_option maxRecDepth 20000 in
theorem kv_68 : ku_68 = ev_mku [] cz_68 := rfl
set_option maxRecDepth 20000 in
theorem kq_69 : kz_69_0 = cz_69.map ev_tr := rfl
set_option maxRecDepth 20000 in
theorem kv_69 : ku_69 = ev_mku [] cz_69 := rfl
set_option maxRecDepth 20000 in
theorem kq_70 : kz_70_0 = cz_70.map ev_tr := rfl
set_option maxRecDepth 20000 in
theorem kv_70 : ku_70 = ev_mku [] cz_70 := rfl
set_option maxRecDepth 20000 in
theorem kq_71 : kz_71_0 = cz_71.map ev_tr := rfl
set_option maxRecDepth 20000 in
theorem kv_71 : ku_71 = ev_mku [] cz_71 := rfl
set_option maxRecDepth 20000 in
theorem kq_72 : kz_72_0 = cz_72.map ev_tr := rfl
set_option maxRecDepth 20000 in
theorem kv_72 : ku_72 = ev_mku [] cz_72 := rfl
set_option maxRecDepth 20000 in
theorem kq_73 : kz_73_0 = cz_73.map ev_tr := rfl
set_option maxRecDepth 20000 in
theorem kv_73 : ku_73 = ev_mku [] cz_73 := rfl
set_option maxRecDepth 20000 in
theorem kq_74 : kz_74_0 = cz_74.map ev_tr := rfl
set_option maxRecDepth 20000 in
theorem kv_74 : ku_74 = ev_mku [] cz_74 := rfl
set_option maxRecDepth 20000 in
theorem kq_75 : kz_75_0 = cz_75.map ev_tr := rfl
set_option maxRecDepth 20000 in
theorem kv_75 : ku_75 = ev_mku [] cz_75 := rfl
set_option maxRecDepth 20000 in
theorem kq_76 : kz_76_0 = cz_76.map ev_tr := rfl
set_option maxRecDepth 20000 in
theorem kv_76 : ku_76 = ev_mku [] cz_76 := rfl
set_option maxRecDepth 20000 in
theorem kq_77 : kz_77_0 = cz_77.map ev_tr := rfl
set_option maxRecDepth 20000 in
theorem kv_77 : ku_77 = ev_mku [] cz_77 := rfl
set_option maxRecDepth 20000 in
theorem kq_78 : kz_78_0 = cz_78.map ev_tr := rfl
set_option maxRecDepth 20000 in
theorem kv_78 : ku_78 = ev_mku [] cz_78 := rfl
set_option maxRecDepth 20000 in
theorem kq_79 : kz_79_0 = cz_79.map ev_tr := rfl
set_option maxRecDepth 20000 in
theorem kv_79 : ku_79 = ev_mku [] cz_79 := rfl
set_option maxRecDepth 20000 in
theorem kq_80 : kz_80_0 = cz_80.map ev_tr := rfl
set_option maxRecDepth 20000 in
theorem kv_80 : ku_80 = ev_mku [] cz_80 := rfl
set_option maxRecDepth 20000 in
theorem kq_81 : kz_81_0 = cz_81.map ev_tr := rfl
set_option maxRecDepth 20000 in
theorem kv_81 : ku_81 = ev_mku [] cz_81 := rfl
set_option maxRecDepth 20000 in
theorem kq_82 : kz_82_0 = cz_82.map ev_tr := rfl
set_option maxRecDepth 20000 in
theorem kv_82 : ku_82 = ev_mku [10, 42, 48, 54, 102, 109, 137, 143] cz_82 := rfl
set_option maxRecDepth 20000 in
theorem kq_83 : kz_83_0 = cz_83.map ev_tr := rfl
set_option maxRecDepth 20000 in
theorem kv_83 : ku_83 = ev_mku [] cz_83 := rfl
set_option maxRecDepth 20000 in
theorem kq_84 : kz_84_0 = cz_84.map ev_tr := rfl
set_option maxRecDepth 20000 in
theorem kv_84 : ku_84 = ev_mku [] cz_84 := rfl
set_option maxRecDepth 20000 in
theorem kq_85 : kz_85_0 = cz_85.map ev_tr := rfl
set_option maxRecDepth 20000 in
theorem kv_85 : ku_85 = ev_mku [24, 25] cz_85 := rfl
set_option maxRecDepth 20000 in
theorem kq_86 : kz_86_0 = cz_86.map ev_tr := rfl
set_option maxRecDepth 20000 in
theorem kv_86 : ku_86 = ev_mku [63] cz_86 := rfl
set_option maxRecDepth 20000 in
theorem kq_87 : kz_87_0 = cz_87.map ev_tr := rfl
set_option maxRecDepth 20000 in
theorem kv_87 : ku_87 = ev_mku [4, 25] cz_87 := rfl
set_option maxRecDepth 20000 in
theorem kq_88 : kz_88_0 = cz_88.map ev_tr := rfl
set_option maxRecDepth 20000 in
theorem kv_88 : ku_88 = ev_mku [] cz_88 := rfl
set_option maxRecDepth 20000 in
theorem kq_89 : kz_89_0 = cz_89.map ev_tr := rfl
set_option maxRecDepth 20000 in
theorem kv_89 : ku_89 = ev_mku [] cz_89 := rfl
set_option maxRecDepth 20000 in
theorem kq_90 : kz_90_0 = cz_90.map ev_tr := rfl
set_option maxRecDepth 20000 in
theorem kv_90 : ku_90 = ev_mku [] cz_90 := rfl
set_option maxRecDepth 20000 in
theorem kq_91 : kz_91_0 = cz_91.map ev_tr := rfl
set_option maxRecDepth 20000 in
theorem kv_91 : ku_91 = ev_mku [] cz_91 := rfl
set_option maxRecDepth 20000 in
theorem kq_92 : kz_92_0 = cz_92.map ev_tr := rfl
set_option maxRecDepth 20000 in
theorem kv_92 : ku_92 = ev_mku [] cz_92 := rfl
set_option maxRecDepth 20000 in
theorem kq_93 : kz_93_0 = cz_93.map ev_tr := rfl
set_option maxRecDepth 20000 in
theorem kv_93 : ku_93 = ev_mku [] cz_93 := rfl
set_option maxRecDepth 20000 in
theorem kq_94 : kz_94_0 = cz_94.map ev_tr := rfl
set_option maxRecDepth 20000 in
theorem kv_94 : ku_94 = ev_mku [] cz_94 := rfl
set_option maxRecDepth 20000 in
theorem kq_95 : kz_95_0 = cz_95.map ev_tr := rfl
set_option maxRecDepth 20000 in
theorem kv_95 : ku_95 = ev_mku [] cz_95 := rfl
set_option maxRecDepth 20000 in
theorem kq_96 : kz_96_0 = cz_96.map ev_tr := rfl
set_option maxRecDepth 20000 in
theorem kv_96 : ku_96 = ev_mku [] cz_96 := rfl
set_option maxRecDepth 20000 in
theorem kq_97 : kz_97_0 = cz_97.map ev_tr := rfl
set_option maxRecDepth 20000 in
theorem kv_97 : ku_97 = ev_mku [] cz_97 := rfl
set_option maxRecDepth 20000 in
theorem kq_98 : kz_98_0 = cz_98.map ev_tr := rfl
set_option maxRecDepth 20000 in
theorem kv_98 : ku_98 = ev_mku [] cz_98 := rfl
set_option maxRecDepth 20000 in
theorem kq_99 : kz_99_0 = cz_99.map ev_tr := rfl
set_option maxRecDepth 20000 in
theorem kv_99 : ku_99 = ev_mku [75, 99, 103, 127, 136, 158] cz_99 := rfl
set_option maxRecDepth 20000 in
theorem kq_100 : kz_100_0 = cz_100.map ev_tr := rfl
set_option maxRecDepth 20000 in
theorem kv_100 : ku_100 = ev_mku [] cz_100 := rfl
set_option maxRecDepth 20000 in
theorem kq_101 : kz_101_0 = cz_101.map ev_tr := rfl
set_option maxRecDepth 20000 in
theorem kv_101 : ku_101 = ev_mku [] cz_101 := rfl
set_option maxRecDepth 20000 in
theorem kq_102 : kz_102_0 = cz_102.map ev_tr := rfl
set_option maxRecDepth 20000 in
theorem kv_102 : ku_102 = ev_mku [] cz_102 := rfl
set_option maxRecDepth 20000 in
theorem kq_103 : kz_103_0 = cz_103.map ev_tr := rfl
set_option maxRecDepth 20000 in
theorem kv_103 : ku_103 = ev_mku [] cz_103 := rfl
set_option maxRecDepth 20000 in
theorem kq_104 : kz_104_0 = cz_104.map ev_tr := rfl
set_option maxRecDepth 20000 in
theorem kv_104 : ku_104 = ev_mku [] cz_104 := rfl
set_option maxRecDepth 20000 in
theorem kq_105 : kz_105_0 = cz_105.map ev_tr := rfl
set_option maxRecDepth 20000 in
theorem kv_105 : ku_105 = ev_mku [] cz_105 := rfl
set_option maxRecDepth 20000 in
theorem kq_106 : kz_106_0 = cz_106.map ev_tr := rfl
set_option maxRecDepth 20000 in
theorem kv_106 : ku_106 = ev_mku [] cz_106 := rfl
set_option maxRecDepth 20000 in
theorem kq_107 : kz_107_0 = cz_107.map ev_tr := rfl
set_option maxRecDepth 20000 in
theorem kv_107 : ku_107 = ev_mku [] cz_107 := rfl
set_option maxRecDepth 20000 in
theorem kq_108 : kz_108_0 = cz_108.map ev_tr := rfl
set_option maxRecDepth 20000 in
theorem kv_108 : ku_108 = ev_mku [] cz_108 := rfl
set_option maxRecDepth 20000 in
theorem kq_109 : kz_109_0 = cz_109.map ev_tr := rfl
set_option maxRecDepth 20000 in
theorem kv_109 : ku_109 = ev_mku [] cz_109 := rfl
set_option maxRecDepth 20000 in
theorem kq_110 : kz_110_0 = cz_110.map ev_tr := rfl
set_option maxRecDepth 20000 in
theorem kv_110 : ku_110 = ev_mku [] cz_110 := rfl
set_option maxRecDepth 20000 in
theorem kq_111 : kz_111_0 = cz_111.map ev_tr := rfl
set_option maxRecDepth 20000 in
theorem kv_111 : ku_111 = ev_mku [] cz_111 := rfl
set_option maxRecDepth 20000 in
theorem kq_112 : kz_112_0 = cz_112.map ev_tr := rfl
set_option maxRecDepth 20000 in
theorem kv_112 : ku_112 = ev_mku [] cz_112 := rfl
set_option maxRecDepth 20000 in
theorem kq_113 : kz_113_0 = cz_113.map ev_tr := rfl
set_option maxRecDepth 20000 in
theorem kv_113 : ku_113 = ev_mku [] cz_113 := rfl
set_option maxRecDepth 20000 in
theorem kq_114 : kz_114_0 = cz_114.map ev_tr := rfl
set_option maxRecDepth 20000 in
theorem kv_114 : ku_114 = ev_mku [] cz_114 := rfl
set_option maxRecDepth 20000 in
theorem kq_115 : kz_115_0 = cz_115.map ev_tr := rfl
set_option maxRecDepth 20000 in
theorem kv_115 : ku_115 = ev_mku [] cz_115 := rfl
set_option maxRecDepth 20000 in
theorem kq_116 : kz_116_0 = cz_116.map ev_tr := rfl
set_option maxRecDepth 20000 in
theorem kv_116 : ku_116 = ev_mku [] cz_116 := rfl
set_option maxRecDepth 20000 in
theorem kq_117 : kz_117_0 = cz_117.map ev_tr := rfl
set_option maxRecDepth 20000 in
theorem kv_117 : ku_117 = ev_mku [] cz_117 := rfl
set_option maxRecDepth 20000 in
theorem kq_118 : kz_118_0 = cz_118.map ev_tr := rfl
set_option maxRecDepth 20000 in
theorem kv_118 : ku_118 = ev_mku [] cz_118 := rfl
set_option maxRecDepth 20000 in
theorem kq_119 : kz_119_0 = cz_119.map ev_tr := rfl
set_option maxRecDepth 20000 in
theorem kv_119 : ku_119 = ev_mku [] cz_119 := rfl
set_option maxRecDepth 20000 in
theorem kq_120 : kz_120_0 = cz_120.map ev_tr := rfl
set_option maxRecDepth 20000 in
theorem kv_120 : ku_120 = ev_mku [] cz_120 := rfl
set_option maxRecDepth 20000 in
theorem kq_121 : kz_121_0 = cz_121.map ev_tr := rfl
set_option maxRecDepth 20000 in
theorem kv_121 : ku_121 = ev_mku [] cz_121 := rfl
set_option maxRecDepth 20000 in
theorem kq_122 : kz_122_0 = cz_122.map ev_tr := rfl
set_option maxRecDepth 20000 in
theorem kv_122 : ku_122 = ev_mku [] cz_122 := rfl
set_option maxRecDepth 20000 in
theorem kq_123 : kz_123_0 = cz_123.map ev_tr := rfl
set_option maxRecDepth 20000 in
theorem kv_123 : ku_123 = ev_mku [] cz_123 := rfl
set_option maxRecDepth 20000 in
theorem kq_124 : kz_124_0 = cz_124.map ev_tr := rfl
set_option maxRecDepth 20000 in
theorem kv_124 : ku_124 = ev_mku [] cz_124 := rfl
set_option maxRecDepth 20000 in
theorem kq_125 : kz_125_0 = cz_125.map ev_tr := rfl
set_option maxRecDepth 20000 in
theorem kv_125 : ku_125 = ev_mku [] cz_125 := rfl
set_option maxRecDepth 20000 in
theorem kq_126 : kz_126_0 = cz_126.map ev_tr := rfl
set_option maxRecDepth 20000 in
theorem kv_126 : ku_126 = ev_mku [] cz_126 := rfl
set_option maxRecDepth 20000 in
theorem kq_127 : kz_127_0 = cz_127.map ev_tr := rfl
set_option maxRecDepth 20000 in
theorem kv_127 : ku_127 = ev_mku [] cz_127 := rfl
set_option maxRecDepth 20000 in
theorem kq_128 : kz_128_0 = cz_128.map ev_tr := rfl
set_option maxRecDepth 20000 in
theorem kv_128 : ku_128 = ev_mku [] cz_128 := rfl
set_option maxRecDepth 20000 in
theorem kq_129 : kz_129_0 = cz_129.map ev_tr := rfl
set_option maxRecDepth 20000 in
theorem kv_129 : ku_129 = ev_mku [] cz_129 := rfl
set_option maxRecDepth 20000 in
theorem kq_130 : kz_130_0 = cz_130.map ev_tr := rfl
set_option maxRecDepth 20000 in
theorem kv_130 : ku_130 = ev_mku [] cz_130 := rfl
set_option maxRecDepth 20000 in
theorem kq_131 : kz_131_0 = cz_131.map ev_tr := rfl
set_option maxRecDepth 20000 in
theorem kv_131 : ku_131 = ev_mku [] cz_131 := rfl
set_option maxRecDepth 20000 in
theorem kq_132 : kz_132_0 = cz_132.map ev_tr := rfl
set_option maxRecDepth 20000 in
theorem kv_132 : ku_132 = ev_mku [] cz_132 := rfl
set_option maxRecDepth 20000 in
theorem kq_133 : kz_133_0 = cz_133.map ev_tr := rfl
set_option maxRecDepth 20000 in
theorem kv_133 : ku_133 = ev_mku [] cz_133 := rfl
set_option maxRecDepth 20000 in
theorem kq_134 : kz_134_0 = cz_134.map ev_tr := rfl
set_option maxRecDepth 20000 in
theorem kv_134 : ku_134 = ev_mku [] cz_134 := rfl
set_option maxRecDepth 20000 in
theorem kq_135 : kz_135_0 = cz_135.map ev_tr := rfl
set_option maxRecDepth 20000 in
theorem kv_135 : ku_135 = ev_mku [] cz_135 := rfl
set_option maxRecDepth 20000 in
theorem kq_136 : kz_136_0 = cz_136.map ev_tr := rfl
set_option maxRecDepth 20000 in
theorem kv_136 : ku_136 = ev_mku [] cz_136 := rfl
set_option maxRecDepth 20000 in
theorem kq_137 : kz_137_0 = cz_137.map ev_tr := rfl
set_option maxRecDepth 20000 in
theorem kv_137 : ku_137 = ev_mku [] cz_137 := rfl
set_option maxRecDepth 20000 in
theorem kq_138 : kz_138_0 = cz_138.map ev_tr := rfl
set_option maxRecDepth 20000 in
theorem kv_138 : ku_138 = ev_mku [] cz_138 := rfl
set_option maxRecDepth 20000 in
theorem kq_139 : kz_139_0 = cz_139.map ev_tr := rfl
set_option maxRecDepth 20000 in
theorem kv_139 : ku_139 = ev_mku [] cz_139 := rfl
set_option maxRecDepth 20000 in
theorem kq_140 : kz_140_0 = cz_140.map ev_tr := rfl
set_option maxRecDepth 20000 in
theorem kv_140 : ku_140 = ev_mku [] cz_140 := rfl
set_option maxRecDepth 20000 in
theorem kq_141 : kz_141_0 = cz_141.map ev_tr := rfl
set_option maxRecDepth 20000 in
theorem kv_141 : ku_141 = ev_mku [] cz_141 := rfl
set_option maxRecDepth 20000 in
theorem kq_142 : kz_142_0 = cz_142.map ev_tr := rfl
set_option maxRecDepth 20000 in
theorem kv_142 : ku_142 = ev_mku [] cz_142 := rfl
set_option maxRecDepth 20000 in
theorem kq_143 : kz_143_0 = cz_143.map ev_tr := rfl
set_option maxRecDepth 20000 in
theorem kv_143 : ku_143 = ev_mku [] cz_143 := rfl
set_option maxRecDepth 20000 in
theorem kq_144 : kz_144_0 = cz_144.map ev_tr := rfl
set_option maxRecDepth 20000 in
theorem kv_144 : ku_144 = ev_mku [] cz_144 := rfl
set_option maxRecDepth 20000 in
theorem kq_145 : kz_145_0 = cz_145.map ev_tr := rfl
set_option maxRecDepth 20000 in
theorem kv_145 : ku_145 = ev_mku [] cz_145 := rfl
set_option maxRecDepth 20000 in
theorem kq_146 : kz_146_0 = cz_146.map ev_tr := rfl
set_option maxRecDepth 20000 in
theorem kv_146 : ku_146 = ev_mku [] cz_146 := rfl
set_option maxRecDepth 20000 in
theorem kq_147 : kz_147_0 = cz_147.map ev_tr := rfl
set_option maxRecDepth 20000 in
theorem kv_147 : ku_147 = ev_mku [] cz_147 := rfl
set_option maxRecDepth 20000 in
theorem kq_148 : kz_148_0 = cz_148.map ev_tr := rfl
set_option maxRecDepth 20000 in
theorem kv_148 : ku_148 = ev_mku [5, 20] cz_148 := rfl
set_option maxRecDepth 20000 in
theorem kq_149 : kz_149_0 = cz_149.map ev_tr := rfl
set_option maxRecDepth 20000 in
theorem kv_149 : ku_149 = ev_mku [] cz_149 := rfl
theorem kz_ko : ev_KO kz
  | 0 => ev_ko1 rfl rfl kq_0 kv_0 (by decide +kernel)
  | 1 => ev_ko1 rfl rfl kq_1 kv_1 (by decide +kernel)
  | 2 => ev_ko1 rfl rfl kq_2 kv_2 (by decide +kernel)
  | 3 => ev_ko1 rfl rfl kq_3 kv_3 (by decide +kernel)
  | 4 => ev_ko1 rfl rfl kq_4 kv_4 (by decide +kernel)
  | 5 => ev_ko1 rfl rfl kq_5 kv_5 (by decide +kernel)
  | 6 => ev_ko1 rfl rfl kq_6 kv_6 (by decide +kernel)
  | 7 => ev_ko1 rfl rfl kq_7 kv_7 (by decide +kernel)
  | 8 => ev_ko1 rfl rfl kq_8 kv_8 (by decide +kernel)
  | 9 => ev_ko1 rfl rfl kq_9 kv_9 (by decide +kernel)
  | 10 => ev_ko1 rfl rfl kq_10 kv_10 (by decide +kernel)
  | 11 => ev_ko1 rfl rfl kq_11 kv_11 (by decide +kernel)
  | 12 => ev_ko1 rfl rfl kq_12 kv_12 (by decide +kernel)
  | 13 => ev_ko1 rfl rfl kq_13 kv_13 (by decide +kernel)
  | 14 => ev_ko1 rfl rfl kq_14 kv_14 (by decide +kernel)
  | 15 => ev_ko1 rfl rfl kq_15 kv_15 (by decide +kernel)
  | 16 => ev_ko1 rfl rfl kq_16 kv_16 (by decide +kernel)
  | 17 => ev_ko1 rfl rfl kq_17 kv_17 (by decide +kernel)
  | 18 => ev_ko1 rfl rfl kq_18 kv_18 (by decide +kernel)
  | 19 => ev_ko1 rfl rfl kq_19 kv_19 (by decide +kernel)
  | 20 => ev_ko1 rfl rfl kq_20 kv_20 (by decide +kernel)
  | 21 => ev_ko1 rfl rfl kq_21 kv_21 (by decide +kernel)
  | 22 => ev_ko1 rfl rfl kq_22 kv_22 (by decide +kernel)
  | 23 => ev_ko1 rfl rfl kq_23 kv_23 (by decide +kernel)
  | 24 => ev_ko1 rfl rfl kq_24 kv_24 (by decide +kernel)
  | 25 => ev_ko1 rfl rfl kq_25 kv_25 (by decide +kernel)
  | 26 => ev_ko1 rfl rfl kq_26 kv_26 (by decide +kernel)
  | 27 => ev_ko1 rfl rfl kq_27 kv_27 (by decide +kernel)
  | 28 => ev_ko1 rfl rfl kq_28 kv_28 (by decide +kernel)
  | 29 => ev_ko1 rfl rfl kq_29 kv_29 (by decide +kernel)
  | 30 => ev_ko1 rfl rfl kq_30 kv_30 (by decide +kernel)
  | 31 => ev_ko1 rfl rfl kq_31 kv_31 (by decide +kernel)
  | 32 => ev_ko1 rfl rfl kq_32 kv_32 (by decide +kernel)
  | 33 => ev_ko1 rfl rfl kq_33 kv_33 (by decide +kernel)
  | 34 => ev_ko1 rfl rfl kq_34 kv_34 (by decide +kernel)
  | 35 => ev_ko1 rfl rfl kq_35 kv_35 (by decide +kernel)
  | 36 => ev_ko1 rfl rfl kq_36 kv_36 (by decide +kernel)
  | 37 => ev_ko1 rfl rfl kq_37 kv_37 (by decide +kernel)
  | 38 => ev_ko1 rfl rfl kq_38 kv_38 (by decide +kernel)
  | 39 => ev_ko1 rfl rfl kq_39 kv_39 (by decide +kernel)
  | 40 => ev_ko1 rfl rfl kq_40 kv_40 (by decide +kernel)
  | 41 => ev_ko1 rfl rfl kq_41 kv_41 (by decide +kernel)
  | 42 => ev_ko1 rfl rfl kq_42 kv_42 (by decide +kernel)
  | 43 => ev_ko1 rfl rfl kq_43 kv_43 (by decide +kernel)
  | 44 => ev_ko1 rfl rfl kq_44 kv_44 (by decide +kernel)
  | 45 => ev_ko1 rfl rfl kq_45 kv_45 (by decide +kernel)
  | 46 => ev_ko1 rfl rfl kq_46 kv_46 (by decide +kernel)
  | 47 => ev_ko1 rfl rfl kq_47 kv_47 (by decide +kernel)
  | 48 => ev_ko1 rfl rfl kq_48 kv_48 (by decide +kernel)
  | 49 => ev_ko1 rfl rfl kq_49 kv_49 (by decide +kernel)
  | 50 => ev_ko1 rfl rfl kq_50 kv_50 (by decide +kernel)
  | 51 => ev_ko1 rfl rfl kq_51 kv_51 (by decide +kernel)
  | 52 => ev_ko1 rfl rfl kq_52 kv_52 (by decide +kernel)
  | 53 => ev_ko1 rfl rfl kq_53 kv_53 (by decide +kernel)
  | 54 => ev_ko1 rfl rfl kq_54 kv_54 (by decide +kernel)
  | 55 => ev_ko1 rfl rfl kq_55 kv_55 (by decide +kernel)
  | 56 => ev_ko1 rfl rfl kq_56 kv_56 (by decide +kernel)
  | 57 => ev_ko1 rfl rfl kq_57 kv_57 (by decide +kernel)
  | 58 => ev_ko1 rfl rfl kq_58 kv_58 (by decide +kernel)
  | 59 => ev_ko1 rfl rfl kq_59 kv_59 (by decide +kernel)
  | 60 => ev_ko1 rfl rfl kq_60 kv_60 (by decide +kernel)
  | 61 => ev_ko1 rfl rfl kq_61 kv_61 (by decide +kernel)
  | 62 => ev_ko1 rfl rfl kq_62 kv_62 (by decide +kernel)
  | 63 => ev_ko1 rfl rfl kq_63 kv_63 (by decide +kernel)
  | 64 => ev_ko1 rfl rfl kq_64 kv_64 (by decide +kernel)
  | 65 => ev_ko1 rfl rfl kq_65 kv_65 (by decide +kernel)
  | 66 => ev_ko1 rfl rfl kq_66 kv_66 (by decide +kernel)
  | 67 => ev_ko1 rfl rfl kq_67 kv_67 (by decide +kernel)
  | 68 => ev_ko1 rfl rfl kq_68 kv_68 (by decide +kernel)
  | 69 => ev_ko1 rfl rfl kq_69 kv_69 (by decide +kernel)
  | 70 => ev_ko1 rfl rfl kq_70 kv_70 (by decide +kernel)
  | 71 => ev_ko1 rfl rfl kq_71 kv_71 (by decide +kernel)
  | 72 => ev_ko1 rfl rfl kq_72 kv_72 (by decide +kernel)
  | 73 => ev_ko1 rfl rfl kq_73 kv_73 (by decide +kernel)
  | 74 => ev_ko1 rfl rfl kq_74 kv_74 (by decide +kernel)
  | 75 => ev_ko1 rfl rfl kq_75 kv_75 (by decide +kernel)
  | 76 => ev_ko1 rfl rfl kq_76 kv_76 (by decide +kernel)
  | 77 => ev_ko1 rfl rfl kq_77 kv_77 (by decide +kernel)
  | 78 => ev_ko1 rfl rfl kq_78 kv_78 (by decide +kernel)
  | 79 => ev_ko1 rfl rfl kq_79 kv_79 (by decide +kernel)
  | 80 => ev_ko1 rfl rfl kq_80 kv_80 (by decide +kernel)
  | 81 => ev_ko1 rfl rfl kq_81 kv_81 (by decide +kernel)
  | 82 => ev_ko1 rfl rfl kq_82 kv_82 (by decide +kernel)
  | 83 => ev_ko1 rfl rfl kq_83 kv_83 (by decide +kernel)
  | 84 => ev_ko1 rfl rfl kq_84 kv_84 (by decide +kernel)
  | 85 => ev_ko1 rfl rfl kq_85 kv_85 (by decide +kernel)
  | 86 => ev_ko1 rfl rfl kq_86 kv_86 (by decide +kernel)
  | 87 => ev_ko1 rfl rfl kq_87 kv_87 (by decide +kernel)
  | 88 => ev_ko1 rfl rfl kq_88 kv_88 (by decide +kernel)
  | 89 => ev_ko1 rfl rfl kq_89 kv_89 (by decide +kernel)
  | 90 => ev_ko1 rfl rfl kq_90 kv_90 (by decide +kernel)
  | 91 => ev_ko1 rfl rfl kq_91 kv_91 (by decide +kernel)
  | 92 => ev_ko1 rfl rfl kq_92 kv_92 (by decide +kernel)
  | 93 => ev_ko1 rfl rfl kq_93 kv_93 (by decide +kernel)
  | 94 => ev_ko1 rfl rfl kq_94 kv_94 (by decide +kernel)
  | 95 => ev_ko1 rfl rfl kq_95 kv_95 (by decide +kernel)
  | 96 => ev_ko1 rfl rfl kq_96 kv_96 (by decide +kernel)
  | 97 => ev_ko1 rfl rfl kq_97 kv_97 (by decide +kernel)
  | 98 => ev_ko1 rfl rfl kq_98 kv_98 (by decide +kernel)
  | 99 => ev_ko1 rfl rfl kq_99 kv_99 (by decide +kernel)
  | 100 => ev_ko1 rfl rfl kq_100 kv_100 (by decide +kernel)
  | 101 => ev_ko1 rfl rfl kq_101 kv_101 (by decide +kernel)
  | 102 => ev_ko1 rfl rfl kq_102 kv_102 (by decide +kernel)
  | 103 => ev_ko1 rfl rfl kq_103 kv_103 (by decide +kernel)
  | 104 => ev_ko1 rfl rfl kq_104 kv_104 (by decide +kernel)
  | 105 => ev_ko1 rfl rfl kq_105 kv_105 (by decide +kernel)
  | 106 => ev_ko1 rfl rfl kq_106 kv_106 (by decide +kernel)
  | 107 => ev_ko1 rfl rfl kq_107 kv_107 (by decide +kernel)
  | 108 => ev_ko1 rfl rfl kq_108 kv_108 (by decide +kernel)
  | 109 => ev_ko1 rfl rfl kq_109 kv_109 (by decide +kernel)
  | 110 => ev_ko1 rfl rfl kq_110 kv_110 (by decide +kernel)
  | 111 => ev_ko1 rfl rfl kq_111 kv_111 (by decide +kernel)
  | 112 => ev_ko1 rfl rfl kq_112 kv_112 (by decide +kernel)
  | 113 => ev_ko1 rfl rfl kq_113 kv_113 (by decide +kernel)
  | 114 => ev_ko1 rfl rfl kq_114 kv_114 (by decide +kernel)
  | 115 => ev_ko1 rfl rfl kq_115 kv_115 (by decide +kernel)
  | 116 => ev_ko1 rfl rfl kq_116 kv_116 (by decide +kernel)
  | 117 => ev_ko1 rfl rfl kq_117 kv_117 (by decide +kernel)
  | 118 => ev_ko1 rfl rfl kq_118 kv_118 (by decide +kernel)
  | 119 => ev_ko1 rfl rfl kq_119 kv_119 (by decide +kernel)
  | 120 => ev_ko1 rfl rfl kq_120 kv_120 (by decide +kernel)
  | 121 => ev_ko1 rfl rfl kq_121 kv_121 (by decide +kernel)
  | 122 => ev_ko1 rfl rfl kq_122 kv_122 (by decide +kernel)
  | 123 => ev_ko1 rfl rfl kq_123 kv_123 (by decide +kernel)
  | 124 => ev_ko1 rfl rfl kq_124 kv_124 (by decide +kernel)
  | 125 => ev_ko1 rfl rfl kq_125 kv_125 (by decide +kernel)
  | 126 => ev_ko1 rfl rfl kq_126 kv_126 (by decide +kernel)
  | 127 => ev_ko1 rfl rfl kq_127 kv_127 (by decide +kernel)
  | 128 => ev_ko1 rfl rfl kq_128 kv_128 (by decide +kernel)
  | 129 => ev_ko1 rfl rfl kq_129 kv_129 (by decide +kernel)
  | 130 => ev_ko1 rfl rfl kq_130 kv_130 (by decide +kernel)
  | 131 => ev_ko1 rfl rfl kq_131 kv_131 (by decide +kernel)
  | 132 => ev_ko1 rfl rfl kq_132 kv_132 (by decide +kernel)
  | 133 => ev_ko1 rfl rfl kq_133 kv_133 (by decide +kernel)
  | 134 => ev_ko1 rfl rfl kq_134 kv_134 (by decide +kernel)
  | 135 => ev_ko1 rfl rfl kq_135 kv_135 (by decide +kernel)
  | 136 => ev_ko1 rfl rfl kq_136 kv_136 (by decide +kernel)
  | 137 => ev_ko1 rfl rfl kq_137 kv_137 (by decide +kernel)
  | 138 => ev_ko1 rfl rfl kq_138 kv_138 (by decide +kernel)
  | 139 => ev_ko1 rfl rfl kq_139 kv_139 (by decide +kernel)
  | 140 => ev_ko1 rfl rfl kq_140 kv_140 (by decide +kernel)
  | 141 => ev_ko1 rfl rfl kq_141 kv_141 (by decide +kernel)
  | 142 => ev_ko1 rfl rfl kq_142 kv_142 (by decide +kernel)
  | 143 => ev_ko1 rfl rfl kq_143 kv_143 (by decide +kernel)
  | 144 => ev_ko1 rfl rfl kq_144 kv_144 (by decide +kernel)
  | 145 => ev_ko1 rfl rfl kq_145 kv_145 (by decide +kernel)
  | 146 => ev_ko1 rfl rfl kq_146 kv_146 (by decide +kernel)
  | 147 => ev_ko1 rfl rfl kq_147 kv_147 (by decide +kernel)
  | 148 => ev_ko1 rfl rfl kq_148 kv_148 (by decide +kernel)
  | 149 => ev_ko1 rfl rfl kq_149 kv_149 (by decide +kernel)
  | n + 150 => ev_ko1 (ts := []) (cs := []) (fu := []) (co := []) (by
    unfold kz
    have : Nat.blt (n + 150) 150 = false := by
      cases hb : Nat.blt (n + 150) 150 with
      | false => rfl
      | true => have := Nat.blt_eq.mp hb; omega
    rw [this]; rfl) (by
    have : tz_coL.length ≤ n + 150 := by
      have e : tz_coL.length = 150 := rfl
      omega
    simp [tz_co, List.getD, List.getElem?_eq_none this]) rfl rfl rfl
