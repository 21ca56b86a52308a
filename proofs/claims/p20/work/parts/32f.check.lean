set_option maxRecDepth 100000 in
theorem tz_a_114_0 : ((cz_114).take 25).all (tz_o1 tz_tb9 114) = true := by decide +kernel
set_option maxRecDepth 100000 in
theorem tz_a_114_1 : (((cz_114).drop 25).take 25).all (tz_o1 tz_tb9 114) = true := by decide +kernel
set_option maxRecDepth 100000 in
theorem tz_a_114_2 : ((((cz_114).drop 25).drop 25).take 25).all (tz_o1 tz_tb9 114) = true := by decide +kernel
set_option maxRecDepth 100000 in
theorem tz_a_114_3 : (((((cz_114).drop 25).drop 25).drop 25).take 25).all (tz_o1 tz_tb9 114) = true := by decide +kernel
theorem tz_al_114 : cz_114.all (tz_o1 tz_tb9 114) = true := ez_ch2 25 (cz_114) tz_a_114_0 (ez_ch2 25 ((cz_114).drop 25) tz_a_114_1 (ez_ch2 25 (((cz_114).drop 25).drop 25) tz_a_114_2 (ez_ch2 25 ((((cz_114).drop 25).drop 25).drop 25) tz_a_114_3 (rfl))))
set_option maxRecDepth 100000 in
theorem tz_a_115_0 : ((cz_115).take 25).all (tz_o1 tz_tb9 115) = true := by decide +kernel
set_option maxRecDepth 100000 in
theorem tz_a_115_1 : (((cz_115).drop 25).take 25).all (tz_o1 tz_tb9 115) = true := by decide +kernel
set_option maxRecDepth 100000 in
theorem tz_a_115_2 : ((((cz_115).drop 25).drop 25).take 25).all (tz_o1 tz_tb9 115) = true := by decide +kernel
set_option maxRecDepth 100000 in
theorem tz_a_115_3 : (((((cz_115).drop 25).drop 25).drop 25).take 25).all (tz_o1 tz_tb9 115) = true := by decide +kernel
theorem tz_al_115 : cz_115.all (tz_o1 tz_tb9 115) = true := ez_ch2 25 (cz_115) tz_a_115_0 (ez_ch2 25 ((cz_115).drop 25) tz_a_115_1 (ez_ch2 25 (((cz_115).drop 25).drop 25) tz_a_115_2 (ez_ch2 25 ((((cz_115).drop 25).drop 25).drop 25) tz_a_115_3 (rfl))))
set_option maxRecDepth 100000 in
theorem tz_a_116_0 : ((cz_116).take 25).all (tz_o1 tz_tb9 116) = true := by decide +kernel
set_option maxRecDepth 100000 in
theorem tz_a_116_1 : (((cz_116).drop 25).take 25).all (tz_o1 tz_tb9 116) = true := by decide +kernel
theorem tz_al_116 : cz_116.all (tz_o1 tz_tb9 116) = true := ez_ch2 25 (cz_116) tz_a_116_0 (ez_ch2 25 ((cz_116).drop 25) tz_a_116_1 (rfl))
set_option maxRecDepth 100000 in
theorem tz_a_117_0 : ((cz_117).take 25).all (tz_o1 tz_tb9 117) = true := by decide +kernel
set_option maxRecDepth 100000 in
theorem tz_a_117_1 : (((cz_117).drop 25).take 25).all (tz_o1 tz_tb9 117) = true := by decide +kernel
set_option maxRecDepth 100000 in
theorem tz_a_117_2 : ((((cz_117).drop 25).drop 25).take 25).all (tz_o1 tz_tb9 117) = true := by decide +kernel
theorem tz_al_117 : cz_117.all (tz_o1 tz_tb9 117) = true := ez_ch2 25 (cz_117) tz_a_117_0 (ez_ch2 25 ((cz_117).drop 25) tz_a_117_1 (ez_ch2 25 (((cz_117).drop 25).drop 25) tz_a_117_2 (rfl)))
set_option maxRecDepth 100000 in
theorem tz_a_118_0 : ((cz_118).take 25).all (tz_o1 tz_tb9 118) = true := by decide +kernel
set_option maxRecDepth 100000 in
theorem tz_a_118_1 : (((cz_118).drop 25).take 25).all (tz_o1 tz_tb9 118) = true := by decide +kernel
set_option maxRecDepth 100000 in
theorem tz_a_118_2 : ((((cz_118).drop 25).drop 25).take 25).all (tz_o1 tz_tb9 118) = true := by decide +kernel
set_option maxRecDepth 100000 in
theorem tz_a_118_3 : (((((cz_118).drop 25).drop 25).drop 25).take 25).all (tz_o1 tz_tb9 118) = true := by decide +kernel
set_option maxRecDepth 100000 in
theorem tz_a_118_4 : ((((((cz_118).drop 25).drop 25).drop 25).drop 25).take 25).all (tz_o1 tz_tb9 118) = true := by decide +kernel
set_option maxRecDepth 100000 in
theorem tz_a_118_5 : (((((((cz_118).drop 25).drop 25).drop 25).drop 25).drop 25).take 25).all (tz_o1 tz_tb9 118) = true := by decide +kernel
set_option maxRecDepth 100000 in
theorem tz_a_118_6 : ((((((((cz_118).drop 25).drop 25).drop 25).drop 25).drop 25).drop 25).take 25).all (tz_o1 tz_tb9 118) = true := by decide +kernel
theorem tz_al_118 : cz_118.all (tz_o1 tz_tb9 118) = true := ez_ch2 25 (cz_118) tz_a_118_0 (ez_ch2 25 ((cz_118).drop 25) tz_a_118_1 (ez_ch2 25 (((cz_118).drop 25).drop 25) tz_a_118_2 (ez_ch2 25 ((((cz_118).drop 25).drop 25).drop 25) tz_a_118_3 (ez_ch2 25 (((((cz_118).drop 25).drop 25).drop 25).drop 25) tz_a_118_4 (ez_ch2 25 ((((((cz_118).drop 25).drop 25).drop 25).drop 25).drop 25) tz_a_118_5 (ez_ch2 25 (((((((cz_118).drop 25).drop 25).drop 25).drop 25).drop 25).drop 25) tz_a_118_6 (rfl)))))))
set_option maxRecDepth 100000 in
theorem tz_a_119_0 : ((cz_119).take 25).all (tz_o1 tz_tb9 119) = true := by decide +kernel
set_option maxRecDepth 100000 in
theorem tz_a_119_1 : (((cz_119).drop 25).take 25).all (tz_o1 tz_tb9 119) = true := by decide +kernel
set_option maxRecDepth 100000 in
theorem tz_a_119_2 : ((((cz_119).drop 25).drop 25).take 25).all (tz_o1 tz_tb9 119) = true := by decide +kernel
theorem tz_al_119 : cz_119.all (tz_o1 tz_tb9 119) = true := ez_ch2 25 (cz_119) tz_a_119_0 (ez_ch2 25 ((cz_119).drop 25) tz_a_119_1 (ez_ch2 25 (((cz_119).drop 25).drop 25) tz_a_119_2 (rfl)))
set_option maxRecDepth 100000 in
theorem tz_a_120_0 : ((cz_120).take 25).all (tz_o1 tz_tb9 120) = true := by decide +kernel
set_option maxRecDepth 100000 in
theorem tz_a_120_1 : (((cz_120).drop 25).take 25).all (tz_o1 tz_tb9 120) = true := by decide +kernel
theorem tz_al_120 : cz_120.all (tz_o1 tz_tb9 120) = true := ez_ch2 25 (cz_120) tz_a_120_0 (ez_ch2 25 ((cz_120).drop 25) tz_a_120_1 (rfl))
set_option maxRecDepth 100000 in
theorem tz_a_121_0 : ((cz_121).take 25).all (tz_o1 tz_tb9 121) = true := by decide +kernel
set_option maxRecDepth 100000 in
theorem tz_a_121_1 : (((cz_121).drop 25).take 25).all (tz_o1 tz_tb9 121) = true := by decide +kernel
set_option maxRecDepth 100000 in
theorem tz_a_121_2 : ((((cz_121).drop 25).drop 25).take 25).all (tz_o1 tz_tb9 121) = true := by decide +kernel
theorem tz_al_121 : cz_121.all (tz_o1 tz_tb9 121) = true := ez_ch2 25 (cz_121) tz_a_121_0 (ez_ch2 25 ((cz_121).drop 25) tz_a_121_1 (ez_ch2 25 (((cz_121).drop 25).drop 25) tz_a_121_2 (rfl)))
set_option maxRecDepth 100000 in
theorem tz_a_122_0 : ((cz_122).take 25).all (tz_o1 tz_tb10 122) = true := by decide +kernel
theorem tz_al_122 : cz_122.all (tz_o1 tz_tb10 122) = true := ez_ch2 25 (cz_122) tz_a_122_0 (rfl)
set_option maxRecDepth 100000 in
theorem tz_a_123_0 : ((cz_123).take 25).all (tz_o1 tz_tb10 123) = true := by decide +kernel
theorem tz_al_123 : cz_123.all (tz_o1 tz_tb10 123) = true := ez_ch2 25 (cz_123) tz_a_123_0 (rfl)
set_option maxRecDepth 100000 in
theorem tz_a_124_0 : ((cz_124).take 25).all (tz_o1 tz_tb10 124) = true := by decide +kernel
set_option maxRecDepth 100000 in
theorem tz_a_124_1 : (((cz_124).drop 25).take 25).all (tz_o1 tz_tb10 124) = true := by decide +kernel
theorem tz_al_124 : cz_124.all (tz_o1 tz_tb10 124) = true := ez_ch2 25 (cz_124) tz_a_124_0 (ez_ch2 25 ((cz_124).drop 25) tz_a_124_1 (rfl))
set_option maxRecDepth 100000 in
theorem tz_a_125_0 : ((cz_125).take 25).all (tz_o1 tz_tb10 125) = true := by decide +kernel
theorem tz_al_125 : cz_125.all (tz_o1 tz_tb10 125) = true := ez_ch2 25 (cz_125) tz_a_125_0 (rfl)
set_option maxRecDepth 100000 in
theorem tz_a_126_0 : ((cz_126).take 25).all (tz_o1 tz_tb10 126) = true := by decide +kernel
theorem tz_al_126 : cz_126.all (tz_o1 tz_tb10 126) = true := ez_ch2 25 (cz_126) tz_a_126_0 (rfl)
set_option maxRecDepth 100000 in
theorem tz_a_127_0 : ((cz_127).take 25).all (tz_o1 tz_tb11 127) = true := by decide +kernel
theorem tz_al_127 : cz_127.all (tz_o1 tz_tb11 127) = true := ez_ch2 25 (cz_127) tz_a_127_0 (rfl)
set_option maxRecDepth 100000 in
theorem tz_a_128_0 : ((cz_128).take 25).all (tz_o1 tz_tb11 128) = true := by decide +kernel
theorem tz_al_128 : cz_128.all (tz_o1 tz_tb11 128) = true := ez_ch2 25 (cz_128) tz_a_128_0 (rfl)
set_option maxRecDepth 100000 in
theorem tz_a_129_0 : ((cz_129).take 25).all (tz_o1 tz_tb11 129) = true := by decide +kernel
theorem tz_al_129 : cz_129.all (tz_o1 tz_tb11 129) = true := ez_ch2 25 (cz_129) tz_a_129_0 (rfl)
set_option maxRecDepth 100000 in
theorem tz_a_130_0 : ((cz_130).take 25).all (tz_o1 tz_tb11 130) = true := by decide +kernel
theorem tz_al_130 : cz_130.all (tz_o1 tz_tb11 130) = true := ez_ch2 25 (cz_130) tz_a_130_0 (rfl)
set_option maxRecDepth 100000 in
theorem tz_a_131_0 : ((cz_131).take 25).all (tz_o1 tz_tb12 131) = true := by decide +kernel
theorem tz_al_131 : cz_131.all (tz_o1 tz_tb12 131) = true := ez_ch2 25 (cz_131) tz_a_131_0 (rfl)
set_option maxRecDepth 100000 in
theorem tz_a_132_0 : ((cz_132).take 25).all (tz_o1 tz_tb12 132) = true := by decide +kernel
theorem tz_al_132 : cz_132.all (tz_o1 tz_tb12 132) = true := ez_ch2 25 (cz_132) tz_a_132_0 (rfl)
set_option maxRecDepth 100000 in
theorem tz_a_133_0 : ((cz_133).take 25).all (tz_o1 tz_tb12 133) = true := by decide +kernel
set_option maxRecDepth 100000 in
theorem tz_a_133_1 : (((cz_133).drop 25).take 25).all (tz_o1 tz_tb12 133) = true := by decide +kernel
set_option maxRecDepth 100000 in
theorem tz_a_133_2 : ((((cz_133).drop 25).drop 25).take 25).all (tz_o1 tz_tb12 133) = true := by decide +kernel
theorem tz_al_133 : cz_133.all (tz_o1 tz_tb12 133) = true := ez_ch2 25 (cz_133) tz_a_133_0 (ez_ch2 25 ((cz_133).drop 25) tz_a_133_1 (ez_ch2 25 (((cz_133).drop 25).drop 25) tz_a_133_2 (rfl)))
set_option maxRecDepth 100000 in
theorem tz_a_134_0 : ((cz_134).take 25).all (tz_o1 tz_tb12 134) = true := by decide +kernel
set_option maxRecDepth 100000 in
theorem tz_a_134_1 : (((cz_134).drop 25).take 25).all (tz_o1 tz_tb12 134) = true := by decide +kernel
theorem tz_al_134 : cz_134.all (tz_o1 tz_tb12 134) = true := ez_ch2 25 (cz_134) tz_a_134_0 (ez_ch2 25 ((cz_134).drop 25) tz_a_134_1 (rfl))
set_option maxRecDepth 100000 in
theorem tz_a_135_0 : ((cz_135).take 25).all (tz_o1 tz_tb12 135) = true := by decide +kernel
set_option maxRecDepth 100000 in
theorem tz_a_135_1 : (((cz_135).drop 25).take 25).all (tz_o1 tz_tb12 135) = true := by decide +kernel
set_option maxRecDepth 100000 in
theorem tz_a_135_2 : ((((cz_135).drop 25).drop 25).take 25).all (tz_o1 tz_tb12 135) = true := by decide +kernel
set_option maxRecDepth 100000 in
theorem tz_a_135_3 : (((((cz_135).drop 25).drop 25).drop 25).take 25).all (tz_o1 tz_tb12 135) = true := by decide +kernel
theorem tz_al_135 : cz_135.all (tz_o1 tz_tb12 135) = true := ez_ch2 25 (cz_135) tz_a_135_0 (ez_ch2 25 ((cz_135).drop 25) tz_a_135_1 (ez_ch2 25 (((cz_135).drop 25).drop 25) tz_a_135_2 (ez_ch2 25 ((((cz_135).drop 25).drop 25).drop 25) tz_a_135_3 (rfl))))
set_option maxRecDepth 100000 in
theorem tz_a_136_0 : ((cz_136).take 25).all (tz_o1 tz_tb12 136) = true := by decide +kernel
set_option maxRecDepth 100000 in
theorem tz_a_136_1 : (((cz_136).drop 25).take 25).all (tz_o1 tz_tb12 136) = true := by decide +kernel
theorem tz_al_136 : cz_136.all (tz_o1 tz_tb12 136) = true := ez_ch2 25 (cz_136) tz_a_136_0 (ez_ch2 25 ((cz_136).drop 25) tz_a_136_1 (rfl))
set_option maxRecDepth 100000 in
theorem tz_a_137_0 : ((cz_137).take 25).all (tz_o1 tz_tb12 137) = true := by decide +kernel
set_option maxRecDepth 100000 in
theorem tz_a_137_1 : (((cz_137).drop 25).take 25).all (tz_o1 tz_tb12 137) = true := by decide +kernel
set_option maxRecDepth 100000 in
theorem tz_a_137_2 : ((((cz_137).drop 25).drop 25).take 25).all (tz_o1 tz_tb12 137) = true := by decide +kernel
set_option maxRecDepth 100000 in
theorem tz_a_137_3 : (((((cz_137).drop 25).drop 25).drop 25).take 25).all (tz_o1 tz_tb12 137) = true := by decide +kernel
theorem tz_al_137 : cz_137.all (tz_o1 tz_tb12 137) = true := ez_ch2 25 (cz_137) tz_a_137_0 (ez_ch2 25 ((cz_137).drop 25) tz_a_137_1 (ez_ch2 25 (((cz_137).drop 25).drop 25) tz_a_137_2 (ez_ch2 25 ((((cz_137).drop 25).drop 25).drop 25) tz_a_137_3 (rfl))))
set_option maxRecDepth 100000 in
theorem tz_a_138_0 : ((cz_138).take 25).all (tz_o1 tz_tb12 138) = true := by decide +kernel
set_option maxRecDepth 100000 in
theorem tz_a_138_1 : (((cz_138).drop 25).take 25).all (tz_o1 tz_tb12 138) = true := by decide +kernel
theorem tz_al_138 : cz_138.all (tz_o1 tz_tb12 138) = true := ez_ch2 25 (cz_138) tz_a_138_0 (ez_ch2 25 ((cz_138).drop 25) tz_a_138_1 (rfl))
set_option maxRecDepth 100000 in
theorem tz_a_139_0 : ((cz_139).take 25).all (tz_o1 tz_tb12 139) = true := by decide +kernel
set_option maxRecDepth 100000 in
theorem tz_a_139_1 : (((cz_139).drop 25).take 25).all (tz_o1 tz_tb12 139) = true := by decide +kernel
set_option maxRecDepth 100000 in
theorem tz_a_139_2 : ((((cz_139).drop 25).drop 25).take 25).all (tz_o1 tz_tb12 139) = true := by decide +kernel
theorem tz_al_139 : cz_139.all (tz_o1 tz_tb12 139) = true := ez_ch2 25 (cz_139) tz_a_139_0 (ez_ch2 25 ((cz_139).drop 25) tz_a_139_1 (ez_ch2 25 (((cz_139).drop 25).drop 25) tz_a_139_2 (rfl)))
set_option maxRecDepth 100000 in
theorem tz_a_140_0 : ((cz_140).take 25).all (tz_o1 tz_tb12 140) = true := by decide +kernel
theorem tz_al_140 : cz_140.all (tz_o1 tz_tb12 140) = true := ez_ch2 25 (cz_140) tz_a_140_0 (rfl)
set_option maxRecDepth 100000 in
theorem tz_a_141_0 : ((cz_141).take 25).all (tz_o1 tz_tb12 141) = true := by decide +kernel
set_option maxRecDepth 100000 in
theorem tz_a_141_1 : (((cz_141).drop 25).take 25).all (tz_o1 tz_tb12 141) = true := by decide +kernel
set_option maxRecDepth 100000 in
theorem tz_a_141_2 : ((((cz_141).drop 25).drop 25).take 25).all (tz_o1 tz_tb12 141) = true := by decide +kernel
theorem tz_al_141 : cz_141.all (tz_o1 tz_tb12 141) = true := ez_ch2 25 (cz_141) tz_a_141_0 (ez_ch2 25 ((cz_141).drop 25) tz_a_141_1 (ez_ch2 25 (((cz_141).drop 25).drop 25) tz_a_141_2 (rfl)))
set_option maxRecDepth 100000 in
theorem tz_a_142_0 : ((cz_142).take 25).all (tz_o1 tz_tb12 142) = true := by decide +kernel
set_option maxRecDepth 100000 in
theorem tz_a_142_1 : (((cz_142).drop 25).take 25).all (tz_o1 tz_tb12 142) = true := by decide +kernel
theorem tz_al_142 : cz_142.all (tz_o1 tz_tb12 142) = true := ez_ch2 25 (cz_142) tz_a_142_0 (ez_ch2 25 ((cz_142).drop 25) tz_a_142_1 (rfl))
set_option maxRecDepth 100000 in
theorem tz_a_143_0 : ((cz_143).take 25).all (tz_o1 tz_tb12 143) = true := by decide +kernel
theorem tz_al_143 : cz_143.all (tz_o1 tz_tb12 143) = true := ez_ch2 25 (cz_143) tz_a_143_0 (rfl)
set_option maxRecDepth 100000 in
theorem tz_a_144_0 : ((cz_144).take 25).all (tz_o1 tz_tb13 144) = true := by decide +kernel
theorem tz_al_144 : cz_144.all (tz_o1 tz_tb13 144) = true := ez_ch2 25 (cz_144) tz_a_144_0 (rfl)
set_option maxRecDepth 100000 in
theorem tz_a_145_0 : ((cz_145).take 25).all (tz_o1 tz_tb13 145) = true := by decide +kernel
theorem tz_al_145 : cz_145.all (tz_o1 tz_tb13 145) = true := ez_ch2 25 (cz_145) tz_a_145_0 (rfl)
set_option maxRecDepth 100000 in
theorem tz_a_146_0 : ((cz_146).take 25).all (tz_o1 tz_tb13 146) = true := by decide +kernel
theorem tz_al_146 : cz_146.all (tz_o1 tz_tb13 146) = true := ez_ch2 25 (cz_146) tz_a_146_0 (rfl)
set_option maxRecDepth 100000 in
theorem tz_a_147_0 : ((cz_147).take 25).all (tz_o1 tz_tb13 147) = true := by decide +kernel
theorem tz_al_147 : cz_147.all (tz_o1 tz_tb13 147) = true := ez_ch2 25 (cz_147) tz_a_147_0 (rfl)
set_option maxRecDepth 100000 in
theorem tz_a_148_0 : ((cz_148).take 25).all (tz_o1 tz_tb14 148) = true := by decide +kernel
theorem tz_al_148 : cz_148.all (tz_o1 tz_tb14 148) = true := ez_ch2 25 (cz_148) tz_a_148_0 (rfl)
set_option maxRecDepth 100000 in
theorem tz_a_149_0 : ((cz_149).take 25).all (tz_o1 tz_tb13 149) = true := by decide +kernel
set_option maxRecDepth 100000 in
theorem tz_a_149_1 : (((cz_149).drop 25).take 25).all (tz_o1 tz_tb13 149) = true := by decide +kernel
set_option maxRecDepth 100000 in
theorem tz_a_149_2 : ((((cz_149).drop 25).drop 25).take 25).all (tz_o1 tz_tb13 149) = true := by decide +kernel
set_option maxRecDepth 100000 in
theorem tz_a_149_3 : (((((cz_149).drop 25).drop 25).drop 25).take 25).all (tz_o1 tz_tb13 149) = true := by decide +kernel
set_option maxRecDepth 100000 in
theorem tz_a_149_4 : ((((((cz_149).drop 25).drop 25).drop 25).drop 25).take 25).all (tz_o1 tz_tb13 149) = true := by decide +kernel
set_option maxRecDepth 100000 in
theorem tz_a_149_5 : (((((((cz_149).drop 25).drop 25).drop 25).drop 25).drop 25).take 25).all (tz_o1 tz_tb13 149) = true := by decide +kernel
set_option maxRecDepth 100000 in
theorem tz_a_149_6 : ((((((((cz_149).drop 25).drop 25).drop 25).drop 25).drop 25).drop 25).take 25).all (tz_o1 tz_tb13 149) = true := by decide +kernel
set_option maxRecDepth 100000 in
theorem tz_a_149_7 : (((((((((cz_149).drop 25).drop 25).drop 25).drop 25).drop 25).drop 25).drop 25).take 25).all (tz_o1 tz_tb13 149) = true := by decide +kernel
set_option maxRecDepth 100000 in
theorem tz_a_149_8 : ((((((((((cz_149).drop 25).drop 25).drop 25).drop 25).drop 25).drop 25).drop 25).drop 25).take 25).all (tz_o1 tz_tb13 149) = true := by decide +kernel
set_option maxRecDepth 100000 in
theorem tz_a_149_9 : (((((((((((cz_149).drop 25).drop 25).drop 25).drop 25).drop 25).drop 25).drop 25).drop 25).drop 25).take 25).all (tz_o1 tz_tb13 149) = true := by decide +kernel
set_option maxRecDepth 100000 in
theorem tz_a_149_10 : ((((((((((((cz_149).drop 25).drop 25).drop 25).drop 25).drop 25).drop 25).drop 25).drop 25).drop 25).drop 25).take 25).all (tz_o1 tz_tb13 149) = true := by decide +kernel
set_option maxRecDepth 100000 in
theorem tz_a_149_11 : (((((((((((((cz_149).drop 25).drop 25).drop 25).drop 25).drop 25).drop 25).drop 25).drop 25).drop 25).drop 25).drop 25).take 25).all (tz_o1 tz_tb13 149) = true := by decide +kernel
set_option maxRecDepth 100000 in
theorem tz_a_149_12 : ((((((((((((((cz_149).drop 25).drop 25).drop 25).drop 25).drop 25).drop 25).drop 25).drop 25).drop 25).drop 25).drop 25).drop 25).take 25).all (tz_o1 tz_tb13 149) = true := by decide +kernel
set_option maxRecDepth 100000 in
theorem tz_a_149_13 : (((((((((((((((cz_149).drop 25).drop 25).drop 25).drop 25).drop 25).drop 25).drop 25).drop 25).drop 25).drop 25).drop 25).drop 25).drop 25).take 25).all (tz_o1 tz_tb13 149) = true := by decide +kernel
set_option maxRecDepth 100000 in
theorem tz_a_149_14 : ((((((((((((((((cz_149).drop 25).drop 25).drop 25).drop 25).drop 25).drop 25).drop 25).drop 25).drop 25).drop 25).drop 25).drop 25).drop 25).drop 25).take 25).all (tz_o1 tz_tb13 149) = true := by decide +kernel
set_option maxRecDepth 100000 in
theorem tz_a_149_15 : (((((((((((((((((cz_149).drop 25).drop 25).drop 25).drop 25).drop 25).drop 25).drop 25).drop 25).drop 25).drop 25).drop 25).drop 25).drop 25).drop 25).drop 25).take 25).all (tz_o1 tz_tb13 149) = true := by decide +kernel
set_option maxRecDepth 100000 in
theorem tz_a_149_16 : ((((((((((((((((((cz_149).drop 25).drop 25).drop 25).drop 25).drop 25).drop 25).drop 25).drop 25).drop 25).drop 25).drop 25).drop 25).drop 25).drop 25).drop 25).drop 25).take 25).all (tz_o1 tz_tb13 149) = true := by decide +kernel
theorem tz_al_149 : cz_149.all (tz_o1 tz_tb13 149) = true := ez_ch2 25 (cz_149) tz_a_149_0 (ez_ch2 25 ((cz_149).drop 25) tz_a_149_1 (ez_ch2 25 (((cz_149).drop 25).drop 25) tz_a_149_2 (ez_ch2 25 ((((cz_149).drop 25).drop 25).drop 25) tz_a_149_3 (ez_ch2 25 (((((cz_149).drop 25).drop 25).drop 25).drop 25) tz_a_149_4 (ez_ch2 25 ((((((cz_149).drop 25).drop 25).drop 25).drop 25).drop 25) tz_a_149_5 (ez_ch2 25 (((((((cz_149).drop 25).drop 25).drop 25).drop 25).drop 25).drop 25) tz_a_149_6 (ez_ch2 25 ((((((((cz_149).drop 25).drop 25).drop 25).drop 25).drop 25).drop 25).drop 25) tz_a_149_7 (ez_ch2 25 (((((((((cz_149).drop 25).drop 25).drop 25).drop 25).drop 25).drop 25).drop 25).drop 25) tz_a_149_8 (ez_ch2 25 ((((((((((cz_149).drop 25).drop 25).drop 25).drop 25).drop 25).drop 25).drop 25).drop 25).drop 25) tz_a_149_9 (ez_ch2 25 (((((((((((cz_149).drop 25).drop 25).drop 25).drop 25).drop 25).drop 25).drop 25).drop 25).drop 25).drop 25) tz_a_149_10 (ez_ch2 25 ((((((((((((cz_149).drop 25).drop 25).drop 25).drop 25).drop 25).drop 25).drop 25).drop 25).drop 25).drop 25).drop 25) tz_a_149_11 (ez_ch2 25 (((((((((((((cz_149).drop 25).drop 25).drop 25).drop 25).drop 25).drop 25).drop 25).drop 25).drop 25).drop 25).drop 25).drop 25) tz_a_149_12 (ez_ch2 25 ((((((((((((((cz_149).drop 25).drop 25).drop 25).drop 25).drop 25).drop 25).drop 25).drop 25).drop 25).drop 25).drop 25).drop 25).drop 25) tz_a_149_13 (ez_ch2 25 (((((((((((((((cz_149).drop 25).drop 25).drop 25).drop 25).drop 25).drop 25).drop 25).drop 25).drop 25).drop 25).drop 25).drop 25).drop 25).drop 25) tz_a_149_14 (ez_ch2 25 ((((((((((((((((cz_149).drop 25).drop 25).drop 25).drop 25).drop 25).drop 25).drop 25).drop 25).drop 25).drop 25).drop 25).drop 25).drop 25).drop 25).drop 25) tz_a_149_15 (ez_ch2 25 (((((((((((((((((cz_149).drop 25).drop 25).drop 25).drop 25).drop 25).drop 25).drop 25).drop 25).drop 25).drop 25).drop 25).drop 25).drop 25).drop 25).drop 25).drop 25) tz_a_149_16 (rfl)))))))))))))))))
