set_option maxRecDepth 100000 in
theorem tz_a_25_0 : ((cz_25).take 25).all (tz_o1 tz_tb1 25) = true := by decide +kernel
set_option maxRecDepth 100000 in
theorem tz_a_25_1 : (((cz_25).drop 25).take 25).all (tz_o1 tz_tb1 25) = true := by decide +kernel
set_option maxRecDepth 100000 in
theorem tz_a_25_2 : ((((cz_25).drop 25).drop 25).take 25).all (tz_o1 tz_tb1 25) = true := by decide +kernel
theorem tz_al_25 : cz_25.all (tz_o1 tz_tb1 25) = true := ez_ch2 25 (cz_25) tz_a_25_0 (ez_ch2 25 ((cz_25).drop 25) tz_a_25_1 (ez_ch2 25 (((cz_25).drop 25).drop 25) tz_a_25_2 (rfl)))
set_option maxRecDepth 100000 in
theorem tz_a_26_0 : ((cz_26).take 25).all (tz_o1 tz_tb1 26) = true := by decide +kernel
set_option maxRecDepth 100000 in
theorem tz_a_26_1 : (((cz_26).drop 25).take 25).all (tz_o1 tz_tb1 26) = true := by decide +kernel
set_option maxRecDepth 100000 in
theorem tz_a_26_2 : ((((cz_26).drop 25).drop 25).take 25).all (tz_o1 tz_tb1 26) = true := by decide +kernel
theorem tz_al_26 : cz_26.all (tz_o1 tz_tb1 26) = true := ez_ch2 25 (cz_26) tz_a_26_0 (ez_ch2 25 ((cz_26).drop 25) tz_a_26_1 (ez_ch2 25 (((cz_26).drop 25).drop 25) tz_a_26_2 (rfl)))
set_option maxRecDepth 100000 in
theorem tz_a_27_0 : ((cz_27).take 25).all (tz_o1 tz_tb1 27) = true := by decide +kernel
theorem tz_al_27 : cz_27.all (tz_o1 tz_tb1 27) = true := ez_ch2 25 (cz_27) tz_a_27_0 (rfl)
set_option maxRecDepth 100000 in
theorem tz_a_28_0 : ((cz_28).take 25).all (tz_o1 tz_tb1 28) = true := by decide +kernel
set_option maxRecDepth 100000 in
theorem tz_a_28_1 : (((cz_28).drop 25).take 25).all (tz_o1 tz_tb1 28) = true := by decide +kernel
theorem tz_al_28 : cz_28.all (tz_o1 tz_tb1 28) = true := ez_ch2 25 (cz_28) tz_a_28_0 (ez_ch2 25 ((cz_28).drop 25) tz_a_28_1 (rfl))
set_option maxRecDepth 100000 in
theorem tz_a_29_0 : ((cz_29).take 25).all (tz_o1 tz_tb1 29) = true := by decide +kernel
set_option maxRecDepth 100000 in
theorem tz_a_29_1 : (((cz_29).drop 25).take 25).all (tz_o1 tz_tb1 29) = true := by decide +kernel
theorem tz_al_29 : cz_29.all (tz_o1 tz_tb1 29) = true := ez_ch2 25 (cz_29) tz_a_29_0 (ez_ch2 25 ((cz_29).drop 25) tz_a_29_1 (rfl))
set_option maxRecDepth 100000 in
theorem tz_a_30_0 : ((cz_30).take 25).all (tz_o1 tz_tb1 30) = true := by decide +kernel
set_option maxRecDepth 100000 in
theorem tz_a_30_1 : (((cz_30).drop 25).take 25).all (tz_o1 tz_tb1 30) = true := by decide +kernel
theorem tz_al_30 : cz_30.all (tz_o1 tz_tb1 30) = true := ez_ch2 25 (cz_30) tz_a_30_0 (ez_ch2 25 ((cz_30).drop 25) tz_a_30_1 (rfl))
set_option maxRecDepth 100000 in
theorem tz_a_31_0 : ((cz_31).take 25).all (tz_o1 tz_tb1 31) = true := by decide +kernel
set_option maxRecDepth 100000 in
theorem tz_a_31_1 : (((cz_31).drop 25).take 25).all (tz_o1 tz_tb1 31) = true := by decide +kernel
set_option maxRecDepth 100000 in
theorem tz_a_31_2 : ((((cz_31).drop 25).drop 25).take 25).all (tz_o1 tz_tb1 31) = true := by decide +kernel
set_option maxRecDepth 100000 in
theorem tz_a_31_3 : (((((cz_31).drop 25).drop 25).drop 25).take 25).all (tz_o1 tz_tb1 31) = true := by decide +kernel
theorem tz_al_31 : cz_31.all (tz_o1 tz_tb1 31) = true := ez_ch2 25 (cz_31) tz_a_31_0 (ez_ch2 25 ((cz_31).drop 25) tz_a_31_1 (ez_ch2 25 (((cz_31).drop 25).drop 25) tz_a_31_2 (ez_ch2 25 ((((cz_31).drop 25).drop 25).drop 25) tz_a_31_3 (rfl))))
set_option maxRecDepth 100000 in
theorem tz_a_32_0 : ((cz_32).take 25).all (tz_o1 tz_tb1 32) = true := by decide +kernel
set_option maxRecDepth 100000 in
theorem tz_a_32_1 : (((cz_32).drop 25).take 25).all (tz_o1 tz_tb1 32) = true := by decide +kernel
set_option maxRecDepth 100000 in
theorem tz_a_32_2 : ((((cz_32).drop 25).drop 25).take 25).all (tz_o1 tz_tb1 32) = true := by decide +kernel
set_option maxRecDepth 100000 in
theorem tz_a_32_3 : (((((cz_32).drop 25).drop 25).drop 25).take 25).all (tz_o1 tz_tb1 32) = true := by decide +kernel
set_option maxRecDepth 100000 in
theorem tz_a_32_4 : ((((((cz_32).drop 25).drop 25).drop 25).drop 25).take 25).all (tz_o1 tz_tb1 32) = true := by decide +kernel
set_option maxRecDepth 100000 in
theorem tz_a_32_5 : (((((((cz_32).drop 25).drop 25).drop 25).drop 25).drop 25).take 25).all (tz_o1 tz_tb1 32) = true := by decide +kernel
set_option maxRecDepth 100000 in
theorem tz_a_32_6 : ((((((((cz_32).drop 25).drop 25).drop 25).drop 25).drop 25).drop 25).take 25).all (tz_o1 tz_tb1 32) = true := by decide +kernel
theorem tz_al_32 : cz_32.all (tz_o1 tz_tb1 32) = true := ez_ch2 25 (cz_32) tz_a_32_0 (ez_ch2 25 ((cz_32).drop 25) tz_a_32_1 (ez_ch2 25 (((cz_32).drop 25).drop 25) tz_a_32_2 (ez_ch2 25 ((((cz_32).drop 25).drop 25).drop 25) tz_a_32_3 (ez_ch2 25 (((((cz_32).drop 25).drop 25).drop 25).drop 25) tz_a_32_4 (ez_ch2 25 ((((((cz_32).drop 25).drop 25).drop 25).drop 25).drop 25) tz_a_32_5 (ez_ch2 25 (((((((cz_32).drop 25).drop 25).drop 25).drop 25).drop 25).drop 25) tz_a_32_6 (rfl)))))))
set_option maxRecDepth 100000 in
theorem tz_a_33_0 : ((cz_33).take 25).all (tz_o1 tz_tb1 33) = true := by decide +kernel
theorem tz_al_33 : cz_33.all (tz_o1 tz_tb1 33) = true := ez_ch2 25 (cz_33) tz_a_33_0 (rfl)
set_option maxRecDepth 100000 in
theorem tz_a_34_0 : ((cz_34).take 25).all (tz_o1 tz_tb1 34) = true := by decide +kernel
theorem tz_al_34 : cz_34.all (tz_o1 tz_tb1 34) = true := ez_ch2 25 (cz_34) tz_a_34_0 (rfl)
set_option maxRecDepth 100000 in
theorem tz_a_35_0 : ((cz_35).take 25).all (tz_o1 tz_tb1 35) = true := by decide +kernel
set_option maxRecDepth 100000 in
theorem tz_a_35_1 : (((cz_35).drop 25).take 25).all (tz_o1 tz_tb1 35) = true := by decide +kernel
theorem tz_al_35 : cz_35.all (tz_o1 tz_tb1 35) = true := ez_ch2 25 (cz_35) tz_a_35_0 (ez_ch2 25 ((cz_35).drop 25) tz_a_35_1 (rfl))
set_option maxRecDepth 100000 in
theorem tz_a_36_0 : ((cz_36).take 25).all (tz_o1 tz_tb1 36) = true := by decide +kernel
set_option maxRecDepth 100000 in
theorem tz_a_36_1 : (((cz_36).drop 25).take 25).all (tz_o1 tz_tb1 36) = true := by decide +kernel
set_option maxRecDepth 100000 in
theorem tz_a_36_2 : ((((cz_36).drop 25).drop 25).take 25).all (tz_o1 tz_tb1 36) = true := by decide +kernel
set_option maxRecDepth 100000 in
theorem tz_a_36_3 : (((((cz_36).drop 25).drop 25).drop 25).take 25).all (tz_o1 tz_tb1 36) = true := by decide +kernel
set_option maxRecDepth 100000 in
theorem tz_a_36_4 : ((((((cz_36).drop 25).drop 25).drop 25).drop 25).take 25).all (tz_o1 tz_tb1 36) = true := by decide +kernel
set_option maxRecDepth 100000 in
theorem tz_a_36_5 : (((((((cz_36).drop 25).drop 25).drop 25).drop 25).drop 25).take 25).all (tz_o1 tz_tb1 36) = true := by decide +kernel
set_option maxRecDepth 100000 in
theorem tz_a_36_6 : ((((((((cz_36).drop 25).drop 25).drop 25).drop 25).drop 25).drop 25).take 25).all (tz_o1 tz_tb1 36) = true := by decide +kernel
set_option maxRecDepth 100000 in
theorem tz_a_36_7 : (((((((((cz_36).drop 25).drop 25).drop 25).drop 25).drop 25).drop 25).drop 25).take 25).all (tz_o1 tz_tb1 36) = true := by decide +kernel
set_option maxRecDepth 100000 in
theorem tz_a_36_8 : ((((((((((cz_36).drop 25).drop 25).drop 25).drop 25).drop 25).drop 25).drop 25).drop 25).take 25).all (tz_o1 tz_tb1 36) = true := by decide +kernel
set_option maxRecDepth 100000 in
theorem tz_a_36_9 : (((((((((((cz_36).drop 25).drop 25).drop 25).drop 25).drop 25).drop 25).drop 25).drop 25).drop 25).take 25).all (tz_o1 tz_tb1 36) = true := by decide +kernel
set_option maxRecDepth 100000 in
theorem tz_a_36_10 : ((((((((((((cz_36).drop 25).drop 25).drop 25).drop 25).drop 25).drop 25).drop 25).drop 25).drop 25).drop 25).take 25).all (tz_o1 tz_tb1 36) = true := by decide +kernel
theorem tz_al_36 : cz_36.all (tz_o1 tz_tb1 36) = true := ez_ch2 25 (cz_36) tz_a_36_0 (ez_ch2 25 ((cz_36).drop 25) tz_a_36_1 (ez_ch2 25 (((cz_36).drop 25).drop 25) tz_a_36_2 (ez_ch2 25 ((((cz_36).drop 25).drop 25).drop 25) tz_a_36_3 (ez_ch2 25 (((((cz_36).drop 25).drop 25).drop 25).drop 25) tz_a_36_4 (ez_ch2 25 ((((((cz_36).drop 25).drop 25).drop 25).drop 25).drop 25) tz_a_36_5 (ez_ch2 25 (((((((cz_36).drop 25).drop 25).drop 25).drop 25).drop 25).drop 25) tz_a_36_6 (ez_ch2 25 ((((((((cz_36).drop 25).drop 25).drop 25).drop 25).drop 25).drop 25).drop 25) tz_a_36_7 (ez_ch2 25 (((((((((cz_36).drop 25).drop 25).drop 25).drop 25).drop 25).drop 25).drop 25).drop 25) tz_a_36_8 (ez_ch2 25 ((((((((((cz_36).drop 25).drop 25).drop 25).drop 25).drop 25).drop 25).drop 25).drop 25).drop 25) tz_a_36_9 (ez_ch2 25 (((((((((((cz_36).drop 25).drop 25).drop 25).drop 25).drop 25).drop 25).drop 25).drop 25).drop 25).drop 25) tz_a_36_10 (rfl)))))))))))
set_option maxRecDepth 100000 in
theorem tz_a_37_0 : ((cz_37).take 25).all (tz_o1 tz_tb1 37) = true := by decide +kernel
set_option maxRecDepth 100000 in
theorem tz_a_37_1 : (((cz_37).drop 25).take 25).all (tz_o1 tz_tb1 37) = true := by decide +kernel
set_option maxRecDepth 100000 in
theorem tz_a_37_2 : ((((cz_37).drop 25).drop 25).take 25).all (tz_o1 tz_tb1 37) = true := by decide +kernel
set_option maxRecDepth 100000 in
theorem tz_a_37_3 : (((((cz_37).drop 25).drop 25).drop 25).take 25).all (tz_o1 tz_tb1 37) = true := by decide +kernel
set_option maxRecDepth 100000 in
theorem tz_a_37_4 : ((((((cz_37).drop 25).drop 25).drop 25).drop 25).take 25).all (tz_o1 tz_tb1 37) = true := by decide +kernel
theorem tz_al_37 : cz_37.all (tz_o1 tz_tb1 37) = true := ez_ch2 25 (cz_37) tz_a_37_0 (ez_ch2 25 ((cz_37).drop 25) tz_a_37_1 (ez_ch2 25 (((cz_37).drop 25).drop 25) tz_a_37_2 (ez_ch2 25 ((((cz_37).drop 25).drop 25).drop 25) tz_a_37_3 (ez_ch2 25 (((((cz_37).drop 25).drop 25).drop 25).drop 25) tz_a_37_4 (rfl)))))
set_option maxRecDepth 100000 in
theorem tz_a_38_0 : ((cz_38).take 25).all (tz_o1 tz_tb1 38) = true := by decide +kernel
set_option maxRecDepth 100000 in
theorem tz_a_38_1 : (((cz_38).drop 25).take 25).all (tz_o1 tz_tb1 38) = true := by decide +kernel
set_option maxRecDepth 100000 in
theorem tz_a_38_2 : ((((cz_38).drop 25).drop 25).take 25).all (tz_o1 tz_tb1 38) = true := by decide +kernel
theorem tz_al_38 : cz_38.all (tz_o1 tz_tb1 38) = true := ez_ch2 25 (cz_38) tz_a_38_0 (ez_ch2 25 ((cz_38).drop 25) tz_a_38_1 (ez_ch2 25 (((cz_38).drop 25).drop 25) tz_a_38_2 (rfl)))
set_option maxRecDepth 100000 in
theorem tz_a_39_0 : ((cz_39).take 25).all (tz_o1 tz_tb1 39) = true := by decide +kernel
set_option maxRecDepth 100000 in
theorem tz_a_39_1 : (((cz_39).drop 25).take 25).all (tz_o1 tz_tb1 39) = true := by decide +kernel
set_option maxRecDepth 100000 in
theorem tz_a_39_2 : ((((cz_39).drop 25).drop 25).take 25).all (tz_o1 tz_tb1 39) = true := by decide +kernel
theorem tz_al_39 : cz_39.all (tz_o1 tz_tb1 39) = true := ez_ch2 25 (cz_39) tz_a_39_0 (ez_ch2 25 ((cz_39).drop 25) tz_a_39_1 (ez_ch2 25 (((cz_39).drop 25).drop 25) tz_a_39_2 (rfl)))
set_option maxRecDepth 100000 in
theorem tz_a_40_0 : ((cz_40).take 25).all (tz_o1 tz_tb1 40) = true := by decide +kernel
set_option maxRecDepth 100000 in
theorem tz_a_40_1 : (((cz_40).drop 25).take 25).all (tz_o1 tz_tb1 40) = true := by decide +kernel
set_option maxRecDepth 100000 in
theorem tz_a_40_2 : ((((cz_40).drop 25).drop 25).take 25).all (tz_o1 tz_tb1 40) = true := by decide +kernel
set_option maxRecDepth 100000 in
theorem tz_a_40_3 : (((((cz_40).drop 25).drop 25).drop 25).take 25).all (tz_o1 tz_tb1 40) = true := by decide +kernel
set_option maxRecDepth 100000 in
theorem tz_a_40_4 : ((((((cz_40).drop 25).drop 25).drop 25).drop 25).take 25).all (tz_o1 tz_tb1 40) = true := by decide +kernel
theorem tz_al_40 : cz_40.all (tz_o1 tz_tb1 40) = true := ez_ch2 25 (cz_40) tz_a_40_0 (ez_ch2 25 ((cz_40).drop 25) tz_a_40_1 (ez_ch2 25 (((cz_40).drop 25).drop 25) tz_a_40_2 (ez_ch2 25 ((((cz_40).drop 25).drop 25).drop 25) tz_a_40_3 (ez_ch2 25 (((((cz_40).drop 25).drop 25).drop 25).drop 25) tz_a_40_4 (rfl)))))
set_option maxRecDepth 100000 in
theorem tz_a_41_0 : ((cz_41).take 25).all (tz_o1 tz_tb1 41) = true := by decide +kernel
set_option maxRecDepth 100000 in
theorem tz_a_41_1 : (((cz_41).drop 25).take 25).all (tz_o1 tz_tb1 41) = true := by decide +kernel
theorem tz_al_41 : cz_41.all (tz_o1 tz_tb1 41) = true := ez_ch2 25 (cz_41) tz_a_41_0 (ez_ch2 25 ((cz_41).drop 25) tz_a_41_1 (rfl))
set_option maxRecDepth 100000 in
theorem tz_a_42_0 : ((cz_42).take 25).all (tz_o1 tz_tb1 42) = true := by decide +kernel
set_option maxRecDepth 100000 in
theorem tz_a_42_1 : (((cz_42).drop 25).take 25).all (tz_o1 tz_tb1 42) = true := by decide +kernel
set_option maxRecDepth 100000 in
theorem tz_a_42_2 : ((((cz_42).drop 25).drop 25).take 25).all (tz_o1 tz_tb1 42) = true := by decide +kernel
set_option maxRecDepth 100000 in
theorem tz_a_42_3 : (((((cz_42).drop 25).drop 25).drop 25).take 25).all (tz_o1 tz_tb1 42) = true := by decide +kernel
set_option maxRecDepth 100000 in
theorem tz_a_42_4 : ((((((cz_42).drop 25).drop 25).drop 25).drop 25).take 25).all (tz_o1 tz_tb1 42) = true := by decide +kernel
set_option maxRecDepth 100000 in
theorem tz_a_42_5 : (((((((cz_42).drop 25).drop 25).drop 25).drop 25).drop 25).take 25).all (tz_o1 tz_tb1 42) = true := by decide +kernel
set_option maxRecDepth 100000 in
theorem tz_a_42_6 : ((((((((cz_42).drop 25).drop 25).drop 25).drop 25).drop 25).drop 25).take 25).all (tz_o1 tz_tb1 42) = true := by decide +kernel
set_option maxRecDepth 100000 in
theorem tz_a_42_7 : (((((((((cz_42).drop 25).drop 25).drop 25).drop 25).drop 25).drop 25).drop 25).take 25).all (tz_o1 tz_tb1 42) = true := by decide +kernel
set_option maxRecDepth 100000 in
theorem tz_a_42_8 : ((((((((((cz_42).drop 25).drop 25).drop 25).drop 25).drop 25).drop 25).drop 25).drop 25).take 25).all (tz_o1 tz_tb1 42) = true := by decide +kernel
theorem tz_al_42 : cz_42.all (tz_o1 tz_tb1 42) = true := ez_ch2 25 (cz_42) tz_a_42_0 (ez_ch2 25 ((cz_42).drop 25) tz_a_42_1 (ez_ch2 25 (((cz_42).drop 25).drop 25) tz_a_42_2 (ez_ch2 25 ((((cz_42).drop 25).drop 25).drop 25) tz_a_42_3 (ez_ch2 25 (((((cz_42).drop 25).drop 25).drop 25).drop 25) tz_a_42_4 (ez_ch2 25 ((((((cz_42).drop 25).drop 25).drop 25).drop 25).drop 25) tz_a_42_5 (ez_ch2 25 (((((((cz_42).drop 25).drop 25).drop 25).drop 25).drop 25).drop 25) tz_a_42_6 (ez_ch2 25 ((((((((cz_42).drop 25).drop 25).drop 25).drop 25).drop 25).drop 25).drop 25) tz_a_42_7 (ez_ch2 25 (((((((((cz_42).drop 25).drop 25).drop 25).drop 25).drop 25).drop 25).drop 25).drop 25) tz_a_42_8 (rfl)))))))))
