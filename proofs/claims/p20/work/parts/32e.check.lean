set_option maxRecDepth 100000 in
theorem tz_a_67_0 : ((cz_67).take 25).all (tz_o1 tz_tb2 67) = true := by decide +kernel
theorem tz_al_67 : cz_67.all (tz_o1 tz_tb2 67) = true := ez_ch2 25 (cz_67) tz_a_67_0 (rfl)
set_option maxRecDepth 100000 in
theorem tz_a_68_0 : ((cz_68).take 25).all (tz_o1 tz_tb2 68) = true := by decide +kernel
theorem tz_al_68 : cz_68.all (tz_o1 tz_tb2 68) = true := ez_ch2 25 (cz_68) tz_a_68_0 (rfl)
set_option maxRecDepth 100000 in
theorem tz_a_69_0 : ((cz_69).take 25).all (tz_o1 tz_tb2 69) = true := by decide +kernel
theorem tz_al_69 : cz_69.all (tz_o1 tz_tb2 69) = true := ez_ch2 25 (cz_69) tz_a_69_0 (rfl)
set_option maxRecDepth 100000 in
theorem tz_a_70_0 : ((cz_70).take 25).all (tz_o1 tz_tb2 70) = true := by decide +kernel
set_option maxRecDepth 100000 in
theorem tz_a_70_1 : (((cz_70).drop 25).take 25).all (tz_o1 tz_tb2 70) = true := by decide +kernel
theorem tz_al_70 : cz_70.all (tz_o1 tz_tb2 70) = true := ez_ch2 25 (cz_70) tz_a_70_0 (ez_ch2 25 ((cz_70).drop 25) tz_a_70_1 (rfl))
set_option maxRecDepth 100000 in
theorem tz_a_71_0 : ((cz_71).take 25).all (tz_o1 tz_tb2 71) = true := by decide +kernel
theorem tz_al_71 : cz_71.all (tz_o1 tz_tb2 71) = true := ez_ch2 25 (cz_71) tz_a_71_0 (rfl)
set_option maxRecDepth 100000 in
theorem tz_a_72_0 : ((cz_72).take 25).all (tz_o1 tz_tb2 72) = true := by decide +kernel
theorem tz_al_72 : cz_72.all (tz_o1 tz_tb2 72) = true := ez_ch2 25 (cz_72) tz_a_72_0 (rfl)
set_option maxRecDepth 100000 in
theorem tz_a_73_0 : ((cz_73).take 25).all (tz_o1 tz_tb3 73) = true := by decide +kernel
theorem tz_al_73 : cz_73.all (tz_o1 tz_tb3 73) = true := ez_ch2 25 (cz_73) tz_a_73_0 (rfl)
set_option maxRecDepth 100000 in
theorem tz_a_74_0 : ((cz_74).take 25).all (tz_o1 tz_tb3 74) = true := by decide +kernel
theorem tz_al_74 : cz_74.all (tz_o1 tz_tb3 74) = true := ez_ch2 25 (cz_74) tz_a_74_0 (rfl)
set_option maxRecDepth 100000 in
theorem tz_a_75_0 : ((cz_75).take 25).all (tz_o1 tz_tb3 75) = true := by decide +kernel
theorem tz_al_75 : cz_75.all (tz_o1 tz_tb3 75) = true := ez_ch2 25 (cz_75) tz_a_75_0 (rfl)
set_option maxRecDepth 100000 in
theorem tz_a_76_0 : ((cz_76).take 25).all (tz_o1 tz_tb3 76) = true := by decide +kernel
theorem tz_al_76 : cz_76.all (tz_o1 tz_tb3 76) = true := ez_ch2 25 (cz_76) tz_a_76_0 (rfl)
set_option maxRecDepth 100000 in
theorem tz_a_77_0 : ((cz_77).take 25).all (tz_o1 tz_tb3 77) = true := by decide +kernel
set_option maxRecDepth 100000 in
theorem tz_a_77_1 : (((cz_77).drop 25).take 25).all (tz_o1 tz_tb3 77) = true := by decide +kernel
theorem tz_al_77 : cz_77.all (tz_o1 tz_tb3 77) = true := ez_ch2 25 (cz_77) tz_a_77_0 (ez_ch2 25 ((cz_77).drop 25) tz_a_77_1 (rfl))
set_option maxRecDepth 100000 in
theorem tz_a_78_0 : ((cz_78).take 25).all (tz_o1 tz_tb3 78) = true := by decide +kernel
set_option maxRecDepth 100000 in
theorem tz_a_78_1 : (((cz_78).drop 25).take 25).all (tz_o1 tz_tb3 78) = true := by decide +kernel
theorem tz_al_78 : cz_78.all (tz_o1 tz_tb3 78) = true := ez_ch2 25 (cz_78) tz_a_78_0 (ez_ch2 25 ((cz_78).drop 25) tz_a_78_1 (rfl))
set_option maxRecDepth 100000 in
theorem tz_a_79_0 : ((cz_79).take 25).all (tz_o1 tz_tb3 79) = true := by decide +kernel
theorem tz_al_79 : cz_79.all (tz_o1 tz_tb3 79) = true := ez_ch2 25 (cz_79) tz_a_79_0 (rfl)
set_option maxRecDepth 100000 in
theorem tz_a_80_0 : ((cz_80).take 25).all (tz_o1 tz_tb4 80) = true := by decide +kernel
set_option maxRecDepth 100000 in
theorem tz_a_80_1 : (((cz_80).drop 25).take 25).all (tz_o1 tz_tb4 80) = true := by decide +kernel
theorem tz_al_80 : cz_80.all (tz_o1 tz_tb4 80) = true := ez_ch2 25 (cz_80) tz_a_80_0 (ez_ch2 25 ((cz_80).drop 25) tz_a_80_1 (rfl))
set_option maxRecDepth 100000 in
theorem tz_a_81_0 : ((cz_81).take 25).all (tz_o1 tz_tb4 81) = true := by decide +kernel
set_option maxRecDepth 100000 in
theorem tz_a_81_1 : (((cz_81).drop 25).take 25).all (tz_o1 tz_tb4 81) = true := by decide +kernel
theorem tz_al_81 : cz_81.all (tz_o1 tz_tb4 81) = true := ez_ch2 25 (cz_81) tz_a_81_0 (ez_ch2 25 ((cz_81).drop 25) tz_a_81_1 (rfl))
set_option maxRecDepth 100000 in
theorem tz_a_82_0 : ((cz_82).take 25).all (tz_o1 tz_tb4 82) = true := by decide +kernel
set_option maxRecDepth 100000 in
theorem tz_a_82_1 : (((cz_82).drop 25).take 25).all (tz_o1 tz_tb4 82) = true := by decide +kernel
set_option maxRecDepth 100000 in
theorem tz_a_82_2 : ((((cz_82).drop 25).drop 25).take 25).all (tz_o1 tz_tb4 82) = true := by decide +kernel
set_option maxRecDepth 100000 in
theorem tz_a_82_3 : (((((cz_82).drop 25).drop 25).drop 25).take 25).all (tz_o1 tz_tb4 82) = true := by decide +kernel
theorem tz_al_82 : cz_82.all (tz_o1 tz_tb4 82) = true := ez_ch2 25 (cz_82) tz_a_82_0 (ez_ch2 25 ((cz_82).drop 25) tz_a_82_1 (ez_ch2 25 (((cz_82).drop 25).drop 25) tz_a_82_2 (ez_ch2 25 ((((cz_82).drop 25).drop 25).drop 25) tz_a_82_3 (rfl))))
set_option maxRecDepth 100000 in
theorem tz_a_83_0 : ((cz_83).take 25).all (tz_o1 tz_tb4 83) = true := by decide +kernel
set_option maxRecDepth 100000 in
theorem tz_a_83_1 : (((cz_83).drop 25).take 25).all (tz_o1 tz_tb4 83) = true := by decide +kernel
theorem tz_al_83 : cz_83.all (tz_o1 tz_tb4 83) = true := ez_ch2 25 (cz_83) tz_a_83_0 (ez_ch2 25 ((cz_83).drop 25) tz_a_83_1 (rfl))
set_option maxRecDepth 100000 in
theorem tz_a_84_0 : ((cz_84).take 25).all (tz_o1 tz_tb4 84) = true := by decide +kernel
theorem tz_al_84 : cz_84.all (tz_o1 tz_tb4 84) = true := ez_ch2 25 (cz_84) tz_a_84_0 (rfl)
set_option maxRecDepth 100000 in
theorem tz_a_85_0 : ((cz_85).take 25).all (tz_o1 tz_tb4 85) = true := by decide +kernel
theorem tz_al_85 : cz_85.all (tz_o1 tz_tb4 85) = true := ez_ch2 25 (cz_85) tz_a_85_0 (rfl)
set_option maxRecDepth 100000 in
theorem tz_a_86_0 : ((cz_86).take 25).all (tz_o1 tz_tb4 86) = true := by decide +kernel
set_option maxRecDepth 100000 in
theorem tz_a_86_1 : (((cz_86).drop 25).take 25).all (tz_o1 tz_tb4 86) = true := by decide +kernel
theorem tz_al_86 : cz_86.all (tz_o1 tz_tb4 86) = true := ez_ch2 25 (cz_86) tz_a_86_0 (ez_ch2 25 ((cz_86).drop 25) tz_a_86_1 (rfl))
set_option maxRecDepth 100000 in
theorem tz_a_87_0 : ((cz_87).take 25).all (tz_o1 tz_tb4 87) = true := by decide +kernel
theorem tz_al_87 : cz_87.all (tz_o1 tz_tb4 87) = true := ez_ch2 25 (cz_87) tz_a_87_0 (rfl)
set_option maxRecDepth 100000 in
theorem tz_a_88_0 : ((cz_88).take 25).all (tz_o1 tz_tb5 88) = true := by decide +kernel
theorem tz_al_88 : cz_88.all (tz_o1 tz_tb5 88) = true := ez_ch2 25 (cz_88) tz_a_88_0 (rfl)
set_option maxRecDepth 100000 in
theorem tz_a_89_0 : ((cz_89).take 25).all (tz_o1 tz_tb5 89) = true := by decide +kernel
set_option maxRecDepth 100000 in
theorem tz_a_89_1 : (((cz_89).drop 25).take 25).all (tz_o1 tz_tb5 89) = true := by decide +kernel
set_option maxRecDepth 100000 in
theorem tz_a_89_2 : ((((cz_89).drop 25).drop 25).take 25).all (tz_o1 tz_tb5 89) = true := by decide +kernel
set_option maxRecDepth 100000 in
theorem tz_a_89_3 : (((((cz_89).drop 25).drop 25).drop 25).take 25).all (tz_o1 tz_tb5 89) = true := by decide +kernel
theorem tz_al_89 : cz_89.all (tz_o1 tz_tb5 89) = true := ez_ch2 25 (cz_89) tz_a_89_0 (ez_ch2 25 ((cz_89).drop 25) tz_a_89_1 (ez_ch2 25 (((cz_89).drop 25).drop 25) tz_a_89_2 (ez_ch2 25 ((((cz_89).drop 25).drop 25).drop 25) tz_a_89_3 (rfl))))
set_option maxRecDepth 100000 in
theorem tz_a_90_0 : ((cz_90).take 25).all (tz_o1 tz_tb5 90) = true := by decide +kernel
set_option maxRecDepth 100000 in
theorem tz_a_90_1 : (((cz_90).drop 25).take 25).all (tz_o1 tz_tb5 90) = true := by decide +kernel
set_option maxRecDepth 100000 in
theorem tz_a_90_2 : ((((cz_90).drop 25).drop 25).take 25).all (tz_o1 tz_tb5 90) = true := by decide +kernel
theorem tz_al_90 : cz_90.all (tz_o1 tz_tb5 90) = true := ez_ch2 25 (cz_90) tz_a_90_0 (ez_ch2 25 ((cz_90).drop 25) tz_a_90_1 (ez_ch2 25 (((cz_90).drop 25).drop 25) tz_a_90_2 (rfl)))
set_option maxRecDepth 100000 in
theorem tz_a_91_0 : ((cz_91).take 25).all (tz_o1 tz_tb5 91) = true := by decide +kernel
theorem tz_al_91 : cz_91.all (tz_o1 tz_tb5 91) = true := ez_ch2 25 (cz_91) tz_a_91_0 (rfl)
set_option maxRecDepth 100000 in
theorem tz_a_92_0 : ((cz_92).take 25).all (tz_o1 tz_tb5 92) = true := by decide +kernel
theorem tz_al_92 : cz_92.all (tz_o1 tz_tb5 92) = true := ez_ch2 25 (cz_92) tz_a_92_0 (rfl)
set_option maxRecDepth 100000 in
theorem tz_a_93_0 : ((cz_93).take 25).all (tz_o1 tz_tb5 93) = true := by decide +kernel
set_option maxRecDepth 100000 in
theorem tz_a_93_1 : (((cz_93).drop 25).take 25).all (tz_o1 tz_tb5 93) = true := by decide +kernel
theorem tz_al_93 : cz_93.all (tz_o1 tz_tb5 93) = true := ez_ch2 25 (cz_93) tz_a_93_0 (ez_ch2 25 ((cz_93).drop 25) tz_a_93_1 (rfl))
set_option maxRecDepth 100000 in
theorem tz_a_94_0 : ((cz_94).take 25).all (tz_o1 tz_tb5 94) = true := by decide +kernel
set_option maxRecDepth 100000 in
theorem tz_a_94_1 : (((cz_94).drop 25).take 25).all (tz_o1 tz_tb5 94) = true := by decide +kernel
set_option maxRecDepth 100000 in
theorem tz_a_94_2 : ((((cz_94).drop 25).drop 25).take 25).all (tz_o1 tz_tb5 94) = true := by decide +kernel
theorem tz_al_94 : cz_94.all (tz_o1 tz_tb5 94) = true := ez_ch2 25 (cz_94) tz_a_94_0 (ez_ch2 25 ((cz_94).drop 25) tz_a_94_1 (ez_ch2 25 (((cz_94).drop 25).drop 25) tz_a_94_2 (rfl)))
set_option maxRecDepth 100000 in
theorem tz_a_95_0 : ((cz_95).take 25).all (tz_o1 tz_tb5 95) = true := by decide +kernel
theorem tz_al_95 : cz_95.all (tz_o1 tz_tb5 95) = true := ez_ch2 25 (cz_95) tz_a_95_0 (rfl)
set_option maxRecDepth 100000 in
theorem tz_a_96_0 : ((cz_96).take 25).all (tz_o1 tz_tb5 96) = true := by decide +kernel
set_option maxRecDepth 100000 in
theorem tz_a_96_1 : (((cz_96).drop 25).take 25).all (tz_o1 tz_tb5 96) = true := by decide +kernel
theorem tz_al_96 : cz_96.all (tz_o1 tz_tb5 96) = true := ez_ch2 25 (cz_96) tz_a_96_0 (ez_ch2 25 ((cz_96).drop 25) tz_a_96_1 (rfl))
set_option maxRecDepth 100000 in
theorem tz_a_97_0 : ((cz_97).take 25).all (tz_o1 tz_tb5 97) = true := by decide +kernel
theorem tz_al_97 : cz_97.all (tz_o1 tz_tb5 97) = true := ez_ch2 25 (cz_97) tz_a_97_0 (rfl)
set_option maxRecDepth 100000 in
theorem tz_a_98_0 : ((cz_98).take 25).all (tz_o1 tz_tb5 98) = true := by decide +kernel
theorem tz_al_98 : cz_98.all (tz_o1 tz_tb5 98) = true := ez_ch2 25 (cz_98) tz_a_98_0 (rfl)
set_option maxRecDepth 100000 in
theorem tz_a_99_0 : ((cz_99).take 25).all (tz_o1 tz_tb6 99) = true := by decide +kernel
set_option maxRecDepth 100000 in
theorem tz_a_99_1 : (((cz_99).drop 25).take 25).all (tz_o1 tz_tb6 99) = true := by decide +kernel
set_option maxRecDepth 100000 in
theorem tz_a_99_2 : ((((cz_99).drop 25).drop 25).take 25).all (tz_o1 tz_tb6 99) = true := by decide +kernel
set_option maxRecDepth 100000 in
theorem tz_a_99_3 : (((((cz_99).drop 25).drop 25).drop 25).take 25).all (tz_o1 tz_tb6 99) = true := by decide +kernel
theorem tz_al_99 : cz_99.all (tz_o1 tz_tb6 99) = true := ez_ch2 25 (cz_99) tz_a_99_0 (ez_ch2 25 ((cz_99).drop 25) tz_a_99_1 (ez_ch2 25 (((cz_99).drop 25).drop 25) tz_a_99_2 (ez_ch2 25 ((((cz_99).drop 25).drop 25).drop 25) tz_a_99_3 (rfl))))
set_option maxRecDepth 100000 in
theorem tz_a_100_0 : ((cz_100).take 25).all (tz_o1 tz_tb7 100) = true := by decide +kernel
theorem tz_al_100 : cz_100.all (tz_o1 tz_tb7 100) = true := ez_ch2 25 (cz_100) tz_a_100_0 (rfl)
set_option maxRecDepth 100000 in
theorem tz_a_101_0 : ((cz_101).take 25).all (tz_o1 tz_tb7 101) = true := by decide +kernel
set_option maxRecDepth 100000 in
theorem tz_a_101_1 : (((cz_101).drop 25).take 25).all (tz_o1 tz_tb7 101) = true := by decide +kernel
set_option maxRecDepth 100000 in
theorem tz_a_101_2 : ((((cz_101).drop 25).drop 25).take 25).all (tz_o1 tz_tb7 101) = true := by decide +kernel
theorem tz_al_101 : cz_101.all (tz_o1 tz_tb7 101) = true := ez_ch2 25 (cz_101) tz_a_101_0 (ez_ch2 25 ((cz_101).drop 25) tz_a_101_1 (ez_ch2 25 (((cz_101).drop 25).drop 25) tz_a_101_2 (rfl)))
set_option maxRecDepth 100000 in
theorem tz_a_102_0 : ((cz_102).take 25).all (tz_o1 tz_tb7 102) = true := by decide +kernel
set_option maxRecDepth 100000 in
theorem tz_a_102_1 : (((cz_102).drop 25).take 25).all (tz_o1 tz_tb7 102) = true := by decide +kernel
theorem tz_al_102 : cz_102.all (tz_o1 tz_tb7 102) = true := ez_ch2 25 (cz_102) tz_a_102_0 (ez_ch2 25 ((cz_102).drop 25) tz_a_102_1 (rfl))
set_option maxRecDepth 100000 in
theorem tz_a_103_0 : ((cz_103).take 25).all (tz_o1 tz_tb7 103) = true := by decide +kernel
set_option maxRecDepth 100000 in
theorem tz_a_103_1 : (((cz_103).drop 25).take 25).all (tz_o1 tz_tb7 103) = true := by decide +kernel
theorem tz_al_103 : cz_103.all (tz_o1 tz_tb7 103) = true := ez_ch2 25 (cz_103) tz_a_103_0 (ez_ch2 25 ((cz_103).drop 25) tz_a_103_1 (rfl))
set_option maxRecDepth 100000 in
theorem tz_a_104_0 : ((cz_104).take 25).all (tz_o1 tz_tb7 104) = true := by decide +kernel
set_option maxRecDepth 100000 in
theorem tz_a_104_1 : (((cz_104).drop 25).take 25).all (tz_o1 tz_tb7 104) = true := by decide +kernel
theorem tz_al_104 : cz_104.all (tz_o1 tz_tb7 104) = true := ez_ch2 25 (cz_104) tz_a_104_0 (ez_ch2 25 ((cz_104).drop 25) tz_a_104_1 (rfl))
set_option maxRecDepth 100000 in
theorem tz_a_105_0 : ((cz_105).take 25).all (tz_o1 tz_tb7 105) = true := by decide +kernel
set_option maxRecDepth 100000 in
theorem tz_a_105_1 : (((cz_105).drop 25).take 25).all (tz_o1 tz_tb7 105) = true := by decide +kernel
set_option maxRecDepth 100000 in
theorem tz_a_105_2 : ((((cz_105).drop 25).drop 25).take 25).all (tz_o1 tz_tb7 105) = true := by decide +kernel
set_option maxRecDepth 100000 in
theorem tz_a_105_3 : (((((cz_105).drop 25).drop 25).drop 25).take 25).all (tz_o1 tz_tb7 105) = true := by decide +kernel
set_option maxRecDepth 100000 in
theorem tz_a_105_4 : ((((((cz_105).drop 25).drop 25).drop 25).drop 25).take 25).all (tz_o1 tz_tb7 105) = true := by decide +kernel
theorem tz_al_105 : cz_105.all (tz_o1 tz_tb7 105) = true := ez_ch2 25 (cz_105) tz_a_105_0 (ez_ch2 25 ((cz_105).drop 25) tz_a_105_1 (ez_ch2 25 (((cz_105).drop 25).drop 25) tz_a_105_2 (ez_ch2 25 ((((cz_105).drop 25).drop 25).drop 25) tz_a_105_3 (ez_ch2 25 (((((cz_105).drop 25).drop 25).drop 25).drop 25) tz_a_105_4 (rfl)))))
set_option maxRecDepth 100000 in
theorem tz_a_106_0 : ((cz_106).take 25).all (tz_o1 tz_tb7 106) = true := by decide +kernel
set_option maxRecDepth 100000 in
theorem tz_a_106_1 : (((cz_106).drop 25).take 25).all (tz_o1 tz_tb7 106) = true := by decide +kernel
theorem tz_al_106 : cz_106.all (tz_o1 tz_tb7 106) = true := ez_ch2 25 (cz_106) tz_a_106_0 (ez_ch2 25 ((cz_106).drop 25) tz_a_106_1 (rfl))
set_option maxRecDepth 100000 in
theorem tz_a_107_0 : ((cz_107).take 25).all (tz_o1 tz_tb7 107) = true := by decide +kernel
set_option maxRecDepth 100000 in
theorem tz_a_107_1 : (((cz_107).drop 25).take 25).all (tz_o1 tz_tb7 107) = true := by decide +kernel
theorem tz_al_107 : cz_107.all (tz_o1 tz_tb7 107) = true := ez_ch2 25 (cz_107) tz_a_107_0 (ez_ch2 25 ((cz_107).drop 25) tz_a_107_1 (rfl))
set_option maxRecDepth 100000 in
theorem tz_a_108_0 : ((cz_108).take 25).all (tz_o1 tz_tb8 108) = true := by decide +kernel
theorem tz_al_108 : cz_108.all (tz_o1 tz_tb8 108) = true := ez_ch2 25 (cz_108) tz_a_108_0 (rfl)
set_option maxRecDepth 100000 in
theorem tz_a_109_0 : ((cz_109).take 25).all (tz_o1 tz_tb8 109) = true := by decide +kernel
set_option maxRecDepth 100000 in
theorem tz_a_109_1 : (((cz_109).drop 25).take 25).all (tz_o1 tz_tb8 109) = true := by decide +kernel
theorem tz_al_109 : cz_109.all (tz_o1 tz_tb8 109) = true := ez_ch2 25 (cz_109) tz_a_109_0 (ez_ch2 25 ((cz_109).drop 25) tz_a_109_1 (rfl))
set_option maxRecDepth 100000 in
theorem tz_a_110_0 : ((cz_110).take 25).all (tz_o1 tz_tb8 110) = true := by decide +kernel
set_option maxRecDepth 100000 in
theorem tz_a_110_1 : (((cz_110).drop 25).take 25).all (tz_o1 tz_tb8 110) = true := by decide +kernel
set_option maxRecDepth 100000 in
theorem tz_a_110_2 : ((((cz_110).drop 25).drop 25).take 25).all (tz_o1 tz_tb8 110) = true := by decide +kernel
set_option maxRecDepth 100000 in
theorem tz_a_110_3 : (((((cz_110).drop 25).drop 25).drop 25).take 25).all (tz_o1 tz_tb8 110) = true := by decide +kernel
theorem tz_al_110 : cz_110.all (tz_o1 tz_tb8 110) = true := ez_ch2 25 (cz_110) tz_a_110_0 (ez_ch2 25 ((cz_110).drop 25) tz_a_110_1 (ez_ch2 25 (((cz_110).drop 25).drop 25) tz_a_110_2 (ez_ch2 25 ((((cz_110).drop 25).drop 25).drop 25) tz_a_110_3 (rfl))))
set_option maxRecDepth 100000 in
theorem tz_a_111_0 : ((cz_111).take 25).all (tz_o1 tz_tb8 111) = true := by decide +kernel
theorem tz_al_111 : cz_111.all (tz_o1 tz_tb8 111) = true := ez_ch2 25 (cz_111) tz_a_111_0 (rfl)
set_option maxRecDepth 100000 in
theorem tz_a_112_0 : ((cz_112).take 25).all (tz_o1 tz_tb8 112) = true := by decide +kernel
set_option maxRecDepth 100000 in
theorem tz_a_112_1 : (((cz_112).drop 25).take 25).all (tz_o1 tz_tb8 112) = true := by decide +kernel
theorem tz_al_112 : cz_112.all (tz_o1 tz_tb8 112) = true := ez_ch2 25 (cz_112) tz_a_112_0 (ez_ch2 25 ((cz_112).drop 25) tz_a_112_1 (rfl))
set_option maxRecDepth 100000 in
theorem tz_a_113_0 : ((cz_113).take 25).all (tz_o1 tz_tb9 113) = true := by decide +kernel
set_option maxRecDepth 100000 in
theorem tz_a_113_1 : (((cz_113).drop 25).take 25).all (tz_o1 tz_tb9 113) = true := by decide +kernel
theorem tz_al_113 : cz_113.all (tz_o1 tz_tb9 113) = true := ez_ch2 25 (cz_113) tz_a_113_0 (ez_ch2 25 ((cz_113).drop 25) tz_a_113_1 (rfl))
