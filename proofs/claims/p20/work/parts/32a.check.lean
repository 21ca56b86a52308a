noncomputable def tz_o1 (tb : List Cond) (n : Nat) (q : ez_C) : Bool := ez_ok1b tz_nf tz_ty tz_sta tz_nm tz_by tz_ml tz_re tz_hh tb 13 149 tz_ct tz_cn "PackDesk" tz_thr n q
theorem ez_ch2 {α : Type} {f : α → Bool} (k : Nat) (cs : List α) (h1 : (cs.take k).all f = true) (h2 : (cs.drop k).all f = true) : cs.all f = true := by
  rw [← List.take_append_drop k cs, List.all_append, h1, h2]
  rfl
set_option maxRecDepth 100000 in
theorem tz_a_0_0 : ((cz_0).take 25).all (tz_o1 tz_tb0 0) = true := by decide +kernel
set_option maxRecDepth 100000 in
theorem tz_a_0_1 : (((cz_0).drop 25).take 25).all (tz_o1 tz_tb0 0) = true := by decide +kernel
set_option maxRecDepth 100000 in
theorem tz_a_0_2 : ((((cz_0).drop 25).drop 25).take 25).all (tz_o1 tz_tb0 0) = true := by decide +kernel
theorem tz_al_0 : cz_0.all (tz_o1 tz_tb0 0) = true := ez_ch2 25 (cz_0) tz_a_0_0 (ez_ch2 25 ((cz_0).drop 25) tz_a_0_1 (ez_ch2 25 (((cz_0).drop 25).drop 25) tz_a_0_2 (rfl)))
set_option maxRecDepth 100000 in
theorem tz_a_1_0 : ((cz_1).take 25).all (tz_o1 tz_tb0 1) = true := by decide +kernel
theorem tz_al_1 : cz_1.all (tz_o1 tz_tb0 1) = true := ez_ch2 25 (cz_1) tz_a_1_0 (rfl)
set_option maxRecDepth 100000 in
theorem tz_a_2_0 : ((cz_2).take 25).all (tz_o1 tz_tb0 2) = true := by decide +kernel
set_option maxRecDepth 100000 in
theorem tz_a_2_1 : (((cz_2).drop 25).take 25).all (tz_o1 tz_tb0 2) = true := by decide +kernel
set_option maxRecDepth 100000 in
theorem tz_a_2_2 : ((((cz_2).drop 25).drop 25).take 25).all (tz_o1 tz_tb0 2) = true := by decide +kernel
theorem tz_al_2 : cz_2.all (tz_o1 tz_tb0 2) = true := ez_ch2 25 (cz_2) tz_a_2_0 (ez_ch2 25 ((cz_2).drop 25) tz_a_2_1 (ez_ch2 25 (((cz_2).drop 25).drop 25) tz_a_2_2 (rfl)))
set_option maxRecDepth 100000 in
theorem tz_a_3_0 : ((cz_3).take 25).all (tz_o1 tz_tb0 3) = true := by decide +kernel
theorem tz_al_3 : cz_3.all (tz_o1 tz_tb0 3) = true := ez_ch2 25 (cz_3) tz_a_3_0 (rfl)
set_option maxRecDepth 100000 in
theorem tz_a_4_0 : ((cz_4).take 25).all (tz_o1 tz_tb0 4) = true := by decide +kernel
theorem tz_al_4 : cz_4.all (tz_o1 tz_tb0 4) = true := ez_ch2 25 (cz_4) tz_a_4_0 (rfl)
set_option maxRecDepth 100000 in
theorem tz_a_5_0 : ((cz_5).take 25).all (tz_o1 tz_tb0 5) = true := by decide +kernel
theorem tz_al_5 : cz_5.all (tz_o1 tz_tb0 5) = true := ez_ch2 25 (cz_5) tz_a_5_0 (rfl)
set_option maxRecDepth 100000 in
theorem tz_a_6_0 : ((cz_6).take 25).all (tz_o1 tz_tb0 6) = true := by decide +kernel
set_option maxRecDepth 100000 in
theorem tz_a_6_1 : (((cz_6).drop 25).take 25).all (tz_o1 tz_tb0 6) = true := by decide +kernel
theorem tz_al_6 : cz_6.all (tz_o1 tz_tb0 6) = true := ez_ch2 25 (cz_6) tz_a_6_0 (ez_ch2 25 ((cz_6).drop 25) tz_a_6_1 (rfl))
set_option maxRecDepth 100000 in
theorem tz_a_7_0 : ((cz_7).take 25).all (tz_o1 tz_tb0 7) = true := by decide +kernel
theorem tz_al_7 : cz_7.all (tz_o1 tz_tb0 7) = true := ez_ch2 25 (cz_7) tz_a_7_0 (rfl)
set_option maxRecDepth 100000 in
theorem tz_a_8_0 : ((cz_8).take 25).all (tz_o1 tz_tb0 8) = true := by decide +kernel
theorem tz_al_8 : cz_8.all (tz_o1 tz_tb0 8) = true := ez_ch2 25 (cz_8) tz_a_8_0 (rfl)
set_option maxRecDepth 100000 in
theorem tz_a_9_0 : ((cz_9).take 25).all (tz_o1 tz_tb0 9) = true := by decide +kernel
set_option maxRecDepth 100000 in
theorem tz_a_9_1 : (((cz_9).drop 25).take 25).all (tz_o1 tz_tb0 9) = true := by decide +kernel
theorem tz_al_9 : cz_9.all (tz_o1 tz_tb0 9) = true := ez_ch2 25 (cz_9) tz_a_9_0 (ez_ch2 25 ((cz_9).drop 25) tz_a_9_1 (rfl))
set_option maxRecDepth 100000 in
theorem tz_a_10_0 : ((cz_10).take 25).all (tz_o1 tz_tb0 10) = true := by decide +kernel
theorem tz_al_10 : cz_10.all (tz_o1 tz_tb0 10) = true := ez_ch2 25 (cz_10) tz_a_10_0 (rfl)
set_option maxRecDepth 100000 in
theorem tz_a_11_0 : ((cz_11).take 25).all (tz_o1 tz_tb0 11) = true := by decide +kernel
theorem tz_al_11 : cz_11.all (tz_o1 tz_tb0 11) = true := ez_ch2 25 (cz_11) tz_a_11_0 (rfl)
set_option maxRecDepth 100000 in
theorem tz_a_12_0 : ((cz_12).take 25).all (tz_o1 tz_tb0 12) = true := by decide +kernel
theorem tz_al_12 : cz_12.all (tz_o1 tz_tb0 12) = true := ez_ch2 25 (cz_12) tz_a_12_0 (rfl)
set_option maxRecDepth 100000 in
theorem tz_a_13_0 : ((cz_13).take 25).all (tz_o1 tz_tb0 13) = true := by decide +kernel
set_option maxRecDepth 100000 in
theorem tz_a_13_1 : (((cz_13).drop 25).take 25).all (tz_o1 tz_tb0 13) = true := by decide +kernel
theorem tz_al_13 : cz_13.all (tz_o1 tz_tb0 13) = true := ez_ch2 25 (cz_13) tz_a_13_0 (ez_ch2 25 ((cz_13).drop 25) tz_a_13_1 (rfl))
set_option maxRecDepth 100000 in
theorem tz_a_14_0 : ((cz_14).take 25).all (tz_o1 tz_tb0 14) = true := by decide +kernel
theorem tz_al_14 : cz_14.all (tz_o1 tz_tb0 14) = true := ez_ch2 25 (cz_14) tz_a_14_0 (rfl)
set_option maxRecDepth 100000 in
theorem tz_a_15_0 : ((cz_15).take 25).all (tz_o1 tz_tb0 15) = true := by decide +kernel
theorem tz_al_15 : cz_15.all (tz_o1 tz_tb0 15) = true := ez_ch2 25 (cz_15) tz_a_15_0 (rfl)
set_option maxRecDepth 100000 in
theorem tz_a_16_0 : ((cz_16).take 25).all (tz_o1 tz_tb0 16) = true := by decide +kernel
theorem tz_al_16 : cz_16.all (tz_o1 tz_tb0 16) = true := ez_ch2 25 (cz_16) tz_a_16_0 (rfl)
set_option maxRecDepth 100000 in
theorem tz_a_17_0 : ((cz_17).take 25).all (tz_o1 tz_tb0 17) = true := by decide +kernel
set_option maxRecDepth 100000 in
theorem tz_a_17_1 : (((cz_17).drop 25).take 25).all (tz_o1 tz_tb0 17) = true := by decide +kernel
theorem tz_al_17 : cz_17.all (tz_o1 tz_tb0 17) = true := ez_ch2 25 (cz_17) tz_a_17_0 (ez_ch2 25 ((cz_17).drop 25) tz_a_17_1 (rfl))
set_option maxRecDepth 100000 in
theorem tz_a_18_0 : ((cz_18).take 25).all (tz_o1 tz_tb0 18) = true := by decide +kernel
theorem tz_al_18 : cz_18.all (tz_o1 tz_tb0 18) = true := ez_ch2 25 (cz_18) tz_a_18_0 (rfl)
set_option maxRecDepth 100000 in
theorem tz_a_19_0 : ((cz_19).take 25).all (tz_o1 tz_tb0 19) = true := by decide +kernel
theorem tz_al_19 : cz_19.all (tz_o1 tz_tb0 19) = true := ez_ch2 25 (cz_19) tz_a_19_0 (rfl)
set_option maxRecDepth 100000 in
theorem tz_a_20_0 : ((cz_20).take 25).all (tz_o1 tz_tb0 20) = true := by decide +kernel
set_option maxRecDepth 100000 in
theorem tz_a_20_1 : (((cz_20).drop 25).take 25).all (tz_o1 tz_tb0 20) = true := by decide +kernel
theorem tz_al_20 : cz_20.all (tz_o1 tz_tb0 20) = true := ez_ch2 25 (cz_20) tz_a_20_0 (ez_ch2 25 ((cz_20).drop 25) tz_a_20_1 (rfl))
set_option maxRecDepth 100000 in
theorem tz_a_21_0 : ((cz_21).take 25).all (tz_o1 tz_tb0 21) = true := by decide +kernel
theorem tz_al_21 : cz_21.all (tz_o1 tz_tb0 21) = true := ez_ch2 25 (cz_21) tz_a_21_0 (rfl)
set_option maxRecDepth 100000 in
theorem tz_a_22_0 : ((cz_22).take 25).all (tz_o1 tz_tb0 22) = true := by decide +kernel
set_option maxRecDepth 100000 in
theorem tz_a_22_1 : (((cz_22).drop 25).take 25).all (tz_o1 tz_tb0 22) = true := by decide +kernel
theorem tz_al_22 : cz_22.all (tz_o1 tz_tb0 22) = true := ez_ch2 25 (cz_22) tz_a_22_0 (ez_ch2 25 ((cz_22).drop 25) tz_a_22_1 (rfl))
set_option maxRecDepth 100000 in
theorem tz_a_23_0 : ((cz_23).take 25).all (tz_o1 tz_tb0 23) = true := by decide +kernel
set_option maxRecDepth 100000 in
theorem tz_a_23_1 : (((cz_23).drop 25).take 25).all (tz_o1 tz_tb0 23) = true := by decide +kernel
theorem tz_al_23 : cz_23.all (tz_o1 tz_tb0 23) = true := ez_ch2 25 (cz_23) tz_a_23_0 (ez_ch2 25 ((cz_23).drop 25) tz_a_23_1 (rfl))
