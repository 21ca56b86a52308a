set_option maxRecDepth 100000 in
theorem tz_a_43_0 : ((cz_43).take 25).all (tz_o1 tz_tb1 43) = true := by decide +kernel
theorem tz_al_43 : cz_43.all (tz_o1 tz_tb1 43) = true := ez_ch2 25 (cz_43) tz_a_43_0 (rfl)
set_option maxRecDepth 100000 in
theorem tz_a_44_0 : ((cz_44).take 25).all (tz_o1 tz_tb1 44) = true := by decide +kernel
set_option maxRecDepth 100000 in
theorem tz_a_44_1 : (((cz_44).drop 25).take 25).all (tz_o1 tz_tb1 44) = true := by decide +kernel
set_option maxRecDepth 100000 in
theorem tz_a_44_2 : ((((cz_44).drop 25).drop 25).take 25).all (tz_o1 tz_tb1 44) = true := by decide +kernel
set_option maxRecDepth 100000 in
theorem tz_a_44_3 : (((((cz_44).drop 25).drop 25).drop 25).take 25).all (tz_o1 tz_tb1 44) = true := by decide +kernel
set_option maxRecDepth 100000 in
theorem tz_a_44_4 : ((((((cz_44).drop 25).drop 25).drop 25).drop 25).take 25).all (tz_o1 tz_tb1 44) = true := by decide +kernel
set_option maxRecDepth 100000 in
theorem tz_a_44_5 : (((((((cz_44).drop 25).drop 25).drop 25).drop 25).drop 25).take 25).all (tz_o1 tz_tb1 44) = true := by decide +kernel
set_option maxRecDepth 100000 in
theorem tz_a_44_6 : ((((((((cz_44).drop 25).drop 25).drop 25).drop 25).drop 25).drop 25).take 25).all (tz_o1 tz_tb1 44) = true := by decide +kernel
set_option maxRecDepth 100000 in
theorem tz_a_44_7 : (((((((((cz_44).drop 25).drop 25).drop 25).drop 25).drop 25).drop 25).drop 25).take 25).all (tz_o1 tz_tb1 44) = true := by decide +kernel
set_option maxRecDepth 100000 in
theorem tz_a_44_8 : ((((((((((cz_44).drop 25).drop 25).drop 25).drop 25).drop 25).drop 25).drop 25).drop 25).take 25).all (tz_o1 tz_tb1 44) = true := by decide +kernel
set_option maxRecDepth 100000 in
theorem tz_a_44_9 : (((((((((((cz_44).drop 25).drop 25).drop 25).drop 25).drop 25).drop 25).drop 25).drop 25).drop 25).take 25).all (tz_o1 tz_tb1 44) = true := by decide +kernel
set_option maxRecDepth 100000 in
theorem tz_a_44_10 : ((((((((((((cz_44).drop 25).drop 25).drop 25).drop 25).drop 25).drop 25).drop 25).drop 25).drop 25).drop 25).take 25).all (tz_o1 tz_tb1 44) = true := by decide +kernel
set_option maxRecDepth 100000 in
theorem tz_a_44_11 : (((((((((((((cz_44).drop 25).drop 25).drop 25).drop 25).drop 25).drop 25).drop 25).drop 25).drop 25).drop 25).drop 25).take 25).all (tz_o1 tz_tb1 44) = true := by decide +kernel
set_option maxRecDepth 100000 in
theorem tz_a_44_12 : ((((((((((((((cz_44).drop 25).drop 25).drop 25).drop 25).drop 25).drop 25).drop 25).drop 25).drop 25).drop 25).drop 25).drop 25).take 25).all (tz_o1 tz_tb1 44) = true := by decide +kernel
set_option maxRecDepth 100000 in
theorem tz_a_44_13 : (((((((((((((((cz_44).drop 25).drop 25).drop 25).drop 25).drop 25).drop 25).drop 25).drop 25).drop 25).drop 25).drop 25).drop 25).drop 25).take 25).all (tz_o1 tz_tb1 44) = true := by decide +kernel
set_option maxRecDepth 100000 in
theorem tz_a_44_14 : ((((((((((((((((cz_44).drop 25).drop 25).drop 25).drop 25).drop 25).drop 25).drop 25).drop 25).drop 25).drop 25).drop 25).drop 25).drop 25).drop 25).take 25).all (tz_o1 tz_tb1 44) = true := by decide +kernel
set_option maxRecDepth 100000 in
theorem tz_a_44_15 : (((((((((((((((((cz_44).drop 25).drop 25).drop 25).drop 25).drop 25).drop 25).drop 25).drop 25).drop 25).drop 25).drop 25).drop 25).drop 25).drop 25).drop 25).take 25).all (tz_o1 tz_tb1 44) = true := by decide +kernel
set_option maxRecDepth 100000 in
theorem tz_a_44_16 : ((((((((((((((((((cz_44).drop 25).drop 25).drop 25).drop 25).drop 25).drop 25).drop 25).drop 25).drop 25).drop 25).drop 25).drop 25).drop 25).drop 25).drop 25).drop 25).take 25).all (tz_o1 tz_tb1 44) = true := by decide +kernel
set_option maxRecDepth 100000 in
theorem tz_a_44_17 : (((((((((((((((((((cz_44).drop 25).drop 25).drop 25).drop 25).drop 25).drop 25).drop 25).drop 25).drop 25).drop 25).drop 25).drop 25).drop 25).drop 25).drop 25).drop 25).drop 25).take 25).all (tz_o1 tz_tb1 44) = true := by decide +kernel
set_option maxRecDepth 100000 in
theorem tz_a_44_18 : ((((((((((((((((((((cz_44).drop 25).drop 25).drop 25).drop 25).drop 25).drop 25).drop 25).drop 25).drop 25).drop 25).drop 25).drop 25).drop 25).drop 25).drop 25).drop 25).drop 25).drop 25).take 25).all (tz_o1 tz_tb1 44) = true := by decide +kernel
set_option maxRecDepth 100000 in
theorem tz_a_44_19 : (((((((((((((((((((((cz_44).drop 25).drop 25).drop 25).drop 25).drop 25).drop 25).drop 25).drop 25).drop 25).drop 25).drop 25).drop 25).drop 25).drop 25).drop 25).drop 25).drop 25).drop 25).drop 25).take 25).all (tz_o1 tz_tb1 44) = true := by decide +kernel
set_option maxRecDepth 100000 in
theorem tz_a_44_20 : ((((((((((((((((((((((cz_44).drop 25).drop 25).drop 25).drop 25).drop 25).drop 25).drop 25).drop 25).drop 25).drop 25).drop 25).drop 25).drop 25).drop 25).drop 25).drop 25).drop 25).drop 25).drop 25).drop 25).take 25).all (tz_o1 tz_tb1 44) = true := by decide +kernel
set_option maxRecDepth 100000 in
theorem tz_a_44_21 : (((((((((((((((((((((((cz_44).drop 25).drop 25).drop 25).drop 25).drop 25).drop 25).drop 25).drop 25).drop 25).drop 25).drop 25).drop 25).drop 25).drop 25).drop 25).drop 25).drop 25).drop 25).drop 25).drop 25).drop 25).take 25).all (tz_o1 tz_tb1 44) = true := by decide +kernel
set_option maxRecDepth 100000 in
theorem tz_a_44_22 : ((((((((((((((((((((((((cz_44).drop 25).drop 25).drop 25).drop 25).drop 25).drop 25).drop 25).drop 25).drop 25).drop 25).drop 25).drop 25).drop 25).drop 25).drop 25).drop 25).drop 25).drop 25).drop 25).drop 25).drop 25).drop 25).take 25).all (tz_o1 tz_tb1 44) = true := by decide +kernel
set_option maxRecDepth 100000 in
theorem tz_a_44_23 : (((((((((((((((((((((((((cz_44).drop 25).drop 25).drop 25).drop 25).drop 25).drop 25).drop 25).drop 25).drop 25).drop 25).drop 25).drop 25).drop 25).drop 25).drop 25).drop 25).drop 25).drop 25).drop 25).drop 25).drop 25).drop 25).drop 25).take 25).all (tz_o1 tz_tb1 44) = true := by decide +kernel
theorem tz_al_44 : cz_44.all (tz_o1 tz_tb1 44) = true := ez_ch2 25 (cz_44) tz_a_44_0 (ez_ch2 25 ((cz_44).drop 25) tz_a_44_1 (ez_ch2 25 (((cz_44).drop 25).drop 25) tz_a_44_2 (ez_ch2 25 ((((cz_44).drop 25).drop 25).drop 25) tz_a_44_3 (ez_ch2 25 (((((cz_44).drop 25).drop 25).drop 25).drop 25) tz_a_44_4 (ez_ch2 25 ((((((cz_44).drop 25).drop 25).drop 25).drop 25).drop 25) tz_a_44_5 (ez_ch2 25 (((((((cz_44).drop 25).drop 25).drop 25).drop 25).drop 25).drop 25) tz_a_44_6 (ez_ch2 25 ((((((((cz_44).drop 25).drop 25).drop 25).drop 25).drop 25).drop 25).drop 25) tz_a_44_7 (ez_ch2 25 (((((((((cz_44).drop 25).drop 25).drop 25).drop 25).drop 25).drop 25).drop 25).drop 25) tz_a_44_8 (ez_ch2 25 ((((((((((cz_44).drop 25).drop 25).drop 25).drop 25).drop 25).drop 25).drop 25).drop 25).drop 25) tz_a_44_9 (ez_ch2 25 (((((((((((cz_44).drop 25).drop 25).drop 25).drop 25).drop 25).drop 25).drop 25).drop 25).drop 25).drop 25) tz_a_44_10 (ez_ch2 25 ((((((((((((cz_44).drop 25).drop 25).drop 25).drop 25).drop 25).drop 25).drop 25).drop 25).drop 25).drop 25).drop 25) tz_a_44_11 (ez_ch2 25 (((((((((((((cz_44).drop 25).drop 25).drop 25).drop 25).drop 25).drop 25).drop 25).drop 25).drop 25).drop 25).drop 25).drop 25) tz_a_44_12 (ez_ch2 25 ((((((((((((((cz_44).drop 25).drop 25).drop 25).drop 25).drop 25).drop 25).drop 25).drop 25).drop 25).drop 25).drop 25).drop 25).drop 25) tz_a_44_13 (ez_ch2 25 (((((((((((((((cz_44).drop 25).drop 25).drop 25).drop 25).drop 25).drop 25).drop 25).drop 25).drop 25).drop 25).drop 25).drop 25).drop 25).drop 25) tz_a_44_14 (ez_ch2 25 ((((((((((((((((cz_44).drop 25).drop 25).drop 25).drop 25).drop 25).drop 25).drop 25).drop 25).drop 25).drop 25).drop 25).drop 25).drop 25).drop 25).drop 25) tz_a_44_15 (ez_ch2 25 (((((((((((((((((cz_44).drop 25).drop 25).drop 25).drop 25).drop 25).drop 25).drop 25).drop 25).drop 25).drop 25).drop 25).drop 25).drop 25).drop 25).drop 25).drop 25) tz_a_44_16 (ez_ch2 25 ((((((((((((((((((cz_44).drop 25).drop 25).drop 25).drop 25).drop 25).drop 25).drop 25).drop 25).drop 25).drop 25).drop 25).drop 25).drop 25).drop 25).drop 25).drop 25).drop 25) tz_a_44_17 (ez_ch2 25 (((((((((((((((((((cz_44).drop 25).drop 25).drop 25).drop 25).drop 25).drop 25).drop 25).drop 25).drop 25).drop 25).drop 25).drop 25).drop 25).drop 25).drop 25).drop 25).drop 25).drop 25) tz_a_44_18 (ez_ch2 25 ((((((((((((((((((((cz_44).drop 25).drop 25).drop 25).drop 25).drop 25).drop 25).drop 25).drop 25).drop 25).drop 25).drop 25).drop 25).drop 25).drop 25).drop 25).drop 25).drop 25).drop 25).drop 25) tz_a_44_19 (ez_ch2 25 (((((((((((((((((((((cz_44).drop 25).drop 25).drop 25).drop 25).drop 25).drop 25).drop 25).drop 25).drop 25).drop 25).drop 25).drop 25).drop 25).drop 25).drop 25).drop 25).drop 25).drop 25).drop 25).drop 25) tz_a_44_20 (ez_ch2 25 ((((((((((((((((((((((cz_44).drop 25).drop 25).drop 25).drop 25).drop 25).drop 25).drop 25).drop 25).drop 25).drop 25).drop 25).drop 25).drop 25).drop 25).drop 25).drop 25).drop 25).drop 25).drop 25).drop 25).drop 25) tz_a_44_21 (ez_ch2 25 (((((((((((((((((((((((cz_44).drop 25).drop 25).drop 25).drop 25).drop 25).drop 25).drop 25).drop 25).drop 25).drop 25).drop 25).drop 25).drop 25).drop 25).drop 25).drop 25).drop 25).drop 25).drop 25).drop 25).drop 25).drop 25) tz_a_44_22 (ez_ch2 25 ((((((((((((((((((((((((cz_44).drop 25).drop 25).drop 25).drop 25).drop 25).drop 25).drop 25).drop 25).drop 25).drop 25).drop 25).drop 25).drop 25).drop 25).drop 25).drop 25).drop 25).drop 25).drop 25).drop 25).drop 25).drop 25).drop 25) tz_a_44_23 (rfl))))))))))))))))))))))))
set_option maxRecDepth 100000 in
theorem tz_a_45_0 : ((cz_45).take 25).all (tz_o1 tz_tb1 45) = true := by decide +kernel
set_option maxRecDepth 100000 in
theorem tz_a_45_1 : (((cz_45).drop 25).take 25).all (tz_o1 tz_tb1 45) = true := by decide +kernel
set_option maxRecDepth 100000 in
theorem tz_a_45_2 : ((((cz_45).drop 25).drop 25).take 25).all (tz_o1 tz_tb1 45) = true := by decide +kernel
set_option maxRecDepth 100000 in
theorem tz_a_45_3 : (((((cz_45).drop 25).drop 25).drop 25).take 25).all (tz_o1 tz_tb1 45) = true := by decide +kernel
theorem tz_al_45 : cz_45.all (tz_o1 tz_tb1 45) = true := ez_ch2 25 (cz_45) tz_a_45_0 (ez_ch2 25 ((cz_45).drop 25) tz_a_45_1 (ez_ch2 25 (((cz_45).drop 25).drop 25) tz_a_45_2 (ez_ch2 25 ((((cz_45).drop 25).drop 25).drop 25) tz_a_45_3 (rfl))))
set_option maxRecDepth 100000 in
theorem tz_a_46_0 : ((cz_46).take 25).all (tz_o1 tz_tb1 46) = true := by decide +kernel
theorem tz_al_46 : cz_46.all (tz_o1 tz_tb1 46) = true := ez_ch2 25 (cz_46) tz_a_46_0 (rfl)
set_option maxRecDepth 100000 in
theorem tz_a_47_0 : ((cz_47).take 25).all (tz_o1 tz_tb1 47) = true := by decide +kernel
set_option maxRecDepth 100000 in
theorem tz_a_47_1 : (((cz_47).drop 25).take 25).all (tz_o1 tz_tb1 47) = true := by decide +kernel
theorem tz_al_47 : cz_47.all (tz_o1 tz_tb1 47) = true := ez_ch2 25 (cz_47) tz_a_47_0 (ez_ch2 25 ((cz_47).drop 25) tz_a_47_1 (rfl))
set_option maxRecDepth 100000 in
theorem tz_a_48_0 : ((cz_48).take 25).all (tz_o1 tz_tb1 48) = true := by decide +kernel
theorem tz_al_48 : cz_48.all (tz_o1 tz_tb1 48) = true := ez_ch2 25 (cz_48) tz_a_48_0 (rfl)
set_option maxRecDepth 100000 in
theorem tz_a_49_0 : ((cz_49).take 25).all (tz_o1 tz_tb1 49) = true := by decide +kernel
set_option maxRecDepth 100000 in
theorem tz_a_49_1 : (((cz_49).drop 25).take 25).all (tz_o1 tz_tb1 49) = true := by decide +kernel
theorem tz_al_49 : cz_49.all (tz_o1 tz_tb1 49) = true := ez_ch2 25 (cz_49) tz_a_49_0 (ez_ch2 25 ((cz_49).drop 25) tz_a_49_1 (rfl))
set_option maxRecDepth 100000 in
theorem tz_a_50_0 : ((cz_50).take 25).all (tz_o1 tz_tb1 50) = true := by decide +kernel
set_option maxRecDepth 100000 in
theorem tz_a_50_1 : (((cz_50).drop 25).take 25).all (tz_o1 tz_tb1 50) = true := by decide +kernel
set_option maxRecDepth 100000 in
theorem tz_a_50_2 : ((((cz_50).drop 25).drop 25).take 25).all (tz_o1 tz_tb1 50) = true := by decide +kernel
theorem tz_al_50 : cz_50.all (tz_o1 tz_tb1 50) = true := ez_ch2 25 (cz_50) tz_a_50_0 (ez_ch2 25 ((cz_50).drop 25) tz_a_50_1 (ez_ch2 25 (((cz_50).drop 25).drop 25) tz_a_50_2 (rfl)))
set_option maxRecDepth 100000 in
theorem tz_a_51_0 : ((cz_51).take 25).all (tz_o1 tz_tb1 51) = true := by decide +kernel
set_option maxRecDepth 100000 in
theorem tz_a_51_1 : (((cz_51).drop 25).take 25).all (tz_o1 tz_tb1 51) = true := by decide +kernel
set_option maxRecDepth 100000 in
theorem tz_a_51_2 : ((((cz_51).drop 25).drop 25).take 25).all (tz_o1 tz_tb1 51) = true := by decide +kernel
theorem tz_al_51 : cz_51.all (tz_o1 tz_tb1 51) = true := ez_ch2 25 (cz_51) tz_a_51_0 (ez_ch2 25 ((cz_51).drop 25) tz_a_51_1 (ez_ch2 25 (((cz_51).drop 25).drop 25) tz_a_51_2 (rfl)))
set_option maxRecDepth 100000 in
theorem tz_a_52_0 : ((cz_52).take 25).all (tz_o1 tz_tb1 52) = true := by decide +kernel
theorem tz_al_52 : cz_52.all (tz_o1 tz_tb1 52) = true := ez_ch2 25 (cz_52) tz_a_52_0 (rfl)
set_option maxRecDepth 100000 in
theorem tz_a_53_0 : ((cz_53).take 25).all (tz_o1 tz_tb1 53) = true := by decide +kernel
theorem tz_al_53 : cz_53.all (tz_o1 tz_tb1 53) = true := ez_ch2 25 (cz_53) tz_a_53_0 (rfl)
set_option maxRecDepth 100000 in
theorem tz_a_54_0 : ((cz_54).take 25).all (tz_o1 tz_tb1 54) = true := by decide +kernel
set_option maxRecDepth 100000 in
theorem tz_a_54_1 : (((cz_54).drop 25).take 25).all (tz_o1 tz_tb1 54) = true := by decide +kernel
set_option maxRecDepth 100000 in
theorem tz_a_54_2 : ((((cz_54).drop 25).drop 25).take 25).all (tz_o1 tz_tb1 54) = true := by decide +kernel
set_option maxRecDepth 100000 in
theorem tz_a_54_3 : (((((cz_54).drop 25).drop 25).drop 25).take 25).all (tz_o1 tz_tb1 54) = true := by decide +kernel
set_option maxRecDepth 100000 in
theorem tz_a_54_4 : ((((((cz_54).drop 25).drop 25).drop 25).drop 25).take 25).all (tz_o1 tz_tb1 54) = true := by decide +kernel
theorem tz_al_54 : cz_54.all (tz_o1 tz_tb1 54) = true := ez_ch2 25 (cz_54) tz_a_54_0 (ez_ch2 25 ((cz_54).drop 25) tz_a_54_1 (ez_ch2 25 (((cz_54).drop 25).drop 25) tz_a_54_2 (ez_ch2 25 ((((cz_54).drop 25).drop 25).drop 25) tz_a_54_3 (ez_ch2 25 (((((cz_54).drop 25).drop 25).drop 25).drop 25) tz_a_54_4 (rfl)))))
set_option maxRecDepth 100000 in
theorem tz_a_55_0 : ((cz_55).take 25).all (tz_o1 tz_tb1 55) = true := by decide +kernel
set_option maxRecDepth 100000 in
theorem tz_a_55_1 : (((cz_55).drop 25).take 25).all (tz_o1 tz_tb1 55) = true := by decide +kernel
theorem tz_al_55 : cz_55.all (tz_o1 tz_tb1 55) = true := ez_ch2 25 (cz_55) tz_a_55_0 (ez_ch2 25 ((cz_55).drop 25) tz_a_55_1 (rfl))
set_option maxRecDepth 100000 in
theorem tz_a_56_0 : ((cz_56).take 25).all (tz_o1 tz_tb1 56) = true := by decide +kernel
set_option maxRecDepth 100000 in
theorem tz_a_56_1 : (((cz_56).drop 25).take 25).all (tz_o1 tz_tb1 56) = true := by decide +kernel
theorem tz_al_56 : cz_56.all (tz_o1 tz_tb1 56) = true := ez_ch2 25 (cz_56) tz_a_56_0 (ez_ch2 25 ((cz_56).drop 25) tz_a_56_1 (rfl))
set_option maxRecDepth 100000 in
theorem tz_a_57_0 : ((cz_57).take 25).all (tz_o1 tz_tb1 57) = true := by decide +kernel
set_option maxRecDepth 100000 in
theorem tz_a_57_1 : (((cz_57).drop 25).take 25).all (tz_o1 tz_tb1 57) = true := by decide +kernel
set_option maxRecDepth 100000 in
theorem tz_a_57_2 : ((((cz_57).drop 25).drop 25).take 25).all (tz_o1 tz_tb1 57) = true := by decide +kernel
theorem tz_al_57 : cz_57.all (tz_o1 tz_tb1 57) = true := ez_ch2 25 (cz_57) tz_a_57_0 (ez_ch2 25 ((cz_57).drop 25) tz_a_57_1 (ez_ch2 25 (((cz_57).drop 25).drop 25) tz_a_57_2 (rfl)))
set_option maxRecDepth 100000 in
theorem tz_a_58_0 : ((cz_58).take 25).all (tz_o1 tz_tb1 58) = true := by decide +kernel
set_option maxRecDepth 100000 in
theorem tz_a_58_1 : (((cz_58).drop 25).take 25).all (tz_o1 tz_tb1 58) = true := by decide +kernel
set_option maxRecDepth 100000 in
theorem tz_a_58_2 : ((((cz_58).drop 25).drop 25).take 25).all (tz_o1 tz_tb1 58) = true := by decide +kernel
set_option maxRecDepth 100000 in
theorem tz_a_58_3 : (((((cz_58).drop 25).drop 25).drop 25).take 25).all (tz_o1 tz_tb1 58) = true := by decide +kernel
set_option maxRecDepth 100000 in
theorem tz_a_58_4 : ((((((cz_58).drop 25).drop 25).drop 25).drop 25).take 25).all (tz_o1 tz_tb1 58) = true := by decide +kernel
set_option maxRecDepth 100000 in
theorem tz_a_58_5 : (((((((cz_58).drop 25).drop 25).drop 25).drop 25).drop 25).take 25).all (tz_o1 tz_tb1 58) = true := by decide +kernel
set_option maxRecDepth 100000 in
theorem tz_a_58_6 : ((((((((cz_58).drop 25).drop 25).drop 25).drop 25).drop 25).drop 25).take 25).all (tz_o1 tz_tb1 58) = true := by decide +kernel
set_option maxRecDepth 100000 in
theorem tz_a_58_7 : (((((((((cz_58).drop 25).drop 25).drop 25).drop 25).drop 25).drop 25).drop 25).take 25).all (tz_o1 tz_tb1 58) = true := by decide +kernel
set_option maxRecDepth 100000 in
theorem tz_a_58_8 : ((((((((((cz_58).drop 25).drop 25).drop 25).drop 25).drop 25).drop 25).drop 25).drop 25).take 25).all (tz_o1 tz_tb1 58) = true := by decide +kernel
set_option maxRecDepth 100000 in
theorem tz_a_58_9 : (((((((((((cz_58).drop 25).drop 25).drop 25).drop 25).drop 25).drop 25).drop 25).drop 25).drop 25).take 25).all (tz_o1 tz_tb1 58) = true := by decide +kernel
theorem tz_al_58 : cz_58.all (tz_o1 tz_tb1 58) = true := ez_ch2 25 (cz_58) tz_a_58_0 (ez_ch2 25 ((cz_58).drop 25) tz_a_58_1 (ez_ch2 25 (((cz_58).drop 25).drop 25) tz_a_58_2 (ez_ch2 25 ((((cz_58).drop 25).drop 25).drop 25) tz_a_58_3 (ez_ch2 25 (((((cz_58).drop 25).drop 25).drop 25).drop 25) tz_a_58_4 (ez_ch2 25 ((((((cz_58).drop 25).drop 25).drop 25).drop 25).drop 25) tz_a_58_5 (ez_ch2 25 (((((((cz_58).drop 25).drop 25).drop 25).drop 25).drop 25).drop 25) tz_a_58_6 (ez_ch2 25 ((((((((cz_58).drop 25).drop 25).drop 25).drop 25).drop 25).drop 25).drop 25) tz_a_58_7 (ez_ch2 25 (((((((((cz_58).drop 25).drop 25).drop 25).drop 25).drop 25).drop 25).drop 25).drop 25) tz_a_58_8 (ez_ch2 25 ((((((((((cz_58).drop 25).drop 25).drop 25).drop 25).drop 25).drop 25).drop 25).drop 25).drop 25) tz_a_58_9 (rfl))))))))))
set_option maxRecDepth 100000 in
theorem tz_a_59_0 : ((cz_59).take 25).all (tz_o1 tz_tb1 59) = true := by decide +kernel
set_option maxRecDepth 100000 in
theorem tz_a_59_1 : (((cz_59).drop 25).take 25).all (tz_o1 tz_tb1 59) = true := by decide +kernel
set_option maxRecDepth 100000 in
theorem tz_a_59_2 : ((((cz_59).drop 25).drop 25).take 25).all (tz_o1 tz_tb1 59) = true := by decide +kernel
set_option maxRecDepth 100000 in
theorem tz_a_59_3 : (((((cz_59).drop 25).drop 25).drop 25).take 25).all (tz_o1 tz_tb1 59) = true := by decide +kernel
set_option maxRecDepth 100000 in
theorem tz_a_59_4 : ((((((cz_59).drop 25).drop 25).drop 25).drop 25).take 25).all (tz_o1 tz_tb1 59) = true := by decide +kernel
set_option maxRecDepth 100000 in
theorem tz_a_59_5 : (((((((cz_59).drop 25).drop 25).drop 25).drop 25).drop 25).take 25).all (tz_o1 tz_tb1 59) = true := by decide +kernel
theorem tz_al_59 : cz_59.all (tz_o1 tz_tb1 59) = true := ez_ch2 25 (cz_59) tz_a_59_0 (ez_ch2 25 ((cz_59).drop 25) tz_a_59_1 (ez_ch2 25 (((cz_59).drop 25).drop 25) tz_a_59_2 (ez_ch2 25 ((((cz_59).drop 25).drop 25).drop 25) tz_a_59_3 (ez_ch2 25 (((((cz_59).drop 25).drop 25).drop 25).drop 25) tz_a_59_4 (ez_ch2 25 ((((((cz_59).drop 25).drop 25).drop 25).drop 25).drop 25) tz_a_59_5 (rfl))))))
set_option maxRecDepth 100000 in
theorem tz_a_60_0 : ((cz_60).take 25).all (tz_o1 tz_tb1 60) = true := by decide +kernel
set_option maxRecDepth 100000 in
theorem tz_a_60_1 : (((cz_60).drop 25).take 25).all (tz_o1 tz_tb1 60) = true := by decide +kernel
set_option maxRecDepth 100000 in
theorem tz_a_60_2 : ((((cz_60).drop 25).drop 25).take 25).all (tz_o1 tz_tb1 60) = true := by decide +kernel
set_option maxRecDepth 100000 in
theorem tz_a_60_3 : (((((cz_60).drop 25).drop 25).drop 25).take 25).all (tz_o1 tz_tb1 60) = true := by decide +kernel
set_option maxRecDepth 100000 in
theorem tz_a_60_4 : ((((((cz_60).drop 25).drop 25).drop 25).drop 25).take 25).all (tz_o1 tz_tb1 60) = true := by decide +kernel
set_option maxRecDepth 100000 in
theorem tz_a_60_5 : (((((((cz_60).drop 25).drop 25).drop 25).drop 25).drop 25).take 25).all (tz_o1 tz_tb1 60) = true := by decide +kernel
set_option maxRecDepth 100000 in
theorem tz_a_60_6 : ((((((((cz_60).drop 25).drop 25).drop 25).drop 25).drop 25).drop 25).take 25).all (tz_o1 tz_tb1 60) = true := by decide +kernel
theorem tz_al_60 : cz_60.all (tz_o1 tz_tb1 60) = true := ez_ch2 25 (cz_60) tz_a_60_0 (ez_ch2 25 ((cz_60).drop 25) tz_a_60_1 (ez_ch2 25 (((cz_60).drop 25).drop 25) tz_a_60_2 (ez_ch2 25 ((((cz_60).drop 25).drop 25).drop 25) tz_a_60_3 (ez_ch2 25 (((((cz_60).drop 25).drop 25).drop 25).drop 25) tz_a_60_4 (ez_ch2 25 ((((((cz_60).drop 25).drop 25).drop 25).drop 25).drop 25) tz_a_60_5 (ez_ch2 25 (((((((cz_60).drop 25).drop 25).drop 25).drop 25).drop 25).drop 25) tz_a_60_6 (rfl)))))))
set_option maxRecDepth 100000 in
theorem tz_a_61_0 : ((cz_61).take 25).all (tz_o1 tz_tb1 61) = true := by decide +kernel
theorem tz_al_61 : cz_61.all (tz_o1 tz_tb1 61) = true := ez_ch2 25 (cz_61) tz_a_61_0 (rfl)
set_option maxRecDepth 100000 in
theorem tz_a_62_0 : ((cz_62).take 25).all (tz_o1 tz_tb1 62) = true := by decide +kernel
theorem tz_al_62 : cz_62.all (tz_o1 tz_tb1 62) = true := ez_ch2 25 (cz_62) tz_a_62_0 (rfl)
set_option maxRecDepth 100000 in
theorem tz_a_63_0 : ((cz_63).take 25).all (tz_o1 tz_tb1 63) = true := by decide +kernel
set_option maxRecDepth 100000 in
theorem tz_a_63_1 : (((cz_63).drop 25).take 25).all (tz_o1 tz_tb1 63) = true := by decide +kernel
theorem tz_al_63 : cz_63.all (tz_o1 tz_tb1 63) = true := ez_ch2 25 (cz_63) tz_a_63_0 (ez_ch2 25 ((cz_63).drop 25) tz_a_63_1 (rfl))
set_option maxRecDepth 100000 in
theorem tz_a_64_0 : ((cz_64).take 25).all (tz_o1 tz_tb1 64) = true := by decide +kernel
set_option maxRecDepth 100000 in
theorem tz_a_64_1 : (((cz_64).drop 25).take 25).all (tz_o1 tz_tb1 64) = true := by decide +kernel
set_option maxRecDepth 100000 in
theorem tz_a_64_2 : ((((cz_64).drop 25).drop 25).take 25).all (tz_o1 tz_tb1 64) = true := by decide +kernel
theorem tz_al_64 : cz_64.all (tz_o1 tz_tb1 64) = true := ez_ch2 25 (cz_64) tz_a_64_0 (ez_ch2 25 ((cz_64).drop 25) tz_a_64_1 (ez_ch2 25 (((cz_64).drop 25).drop 25) tz_a_64_2 (rfl)))
set_option maxRecDepth 100000 in
theorem tz_a_65_0 : ((cz_65).take 25).all (tz_o1 tz_tb1 65) = true := by decide +kernel
theorem tz_al_65 : cz_65.all (tz_o1 tz_tb1 65) = true := ez_ch2 25 (cz_65) tz_a_65_0 (rfl)
set_option maxRecDepth 100000 in
theorem tz_a_66_0 : ((cz_66).take 25).all (tz_o1 tz_tb1 66) = true := by decide +kernel
theorem tz_al_66 : cz_66.all (tz_o1 tz_tb1 66) = true := ez_ch2 25 (cz_66) tz_a_66_0 (rfl)
