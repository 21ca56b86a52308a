noncomputable def ez_isC (w : Cond) : Bool := match w with
  | .code .. => true
  | .codeWith .. => true
  | _ => false
noncomputable def tz_cdL : List Cond := [ez_wc (tz_nm 0) (tz_by 0) (tz_ml 0) (tz_re 0) (tz_hh 0),
  (lw_tbl[84]?).getD .tt,
  ez_wc (tz_nm 127) (tz_by 127) (tz_ml 127) (tz_re 127) (tz_hh 127),
  ez_wc (tz_nm 100) (tz_by 100) (tz_ml 100) (tz_re 100) (tz_hh 100),
  ez_wc (tz_nm 99) (tz_by 99) (tz_ml 99) (tz_re 99) (tz_hh 99),
  ez_wc (tz_nm 80) (tz_by 80) (tz_ml 80) (tz_re 80) (tz_hh 80),
  ez_wc (tz_nm 148) (tz_by 148) (tz_ml 148) (tz_re 148) (tz_hh 148),
  ez_wc (tz_nm 82) (tz_by 82) (tz_ml 82) (tz_re 82) (tz_hh 82),
  ez_wc (tz_nm 85) (tz_by 85) (tz_ml 85) (tz_re 85) (tz_hh 85),
  ez_wc (tz_nm 86) (tz_by 86) (tz_ml 86) (tz_re 86) (tz_hh 86),
  ez_wc (tz_nm 87) (tz_by 87) (tz_ml 87) (tz_re 87) (tz_hh 87),
  ez_wc (tz_nm 113) (tz_by 113) (tz_ml 113) (tz_re 113) (tz_hh 113),
  ez_wc (tz_nm 122) (tz_by 122) (tz_ml 122) (tz_re 122) (tz_hh 122),
  ez_wc (tz_nm 73) (tz_by 73) (tz_ml 73) (tz_re 73) (tz_hh 73),
  ez_wc (tz_nm 108) (tz_by 108) (tz_ml 108) (tz_re 108) (tz_hh 108),
  ez_wc (tz_nm 88) (tz_by 88) (tz_ml 88) (tz_re 88) (tz_hh 88),
  ez_wc (tz_nm 67) (tz_by 67) (tz_ml 67) (tz_re 67) (tz_hh 67),
  ez_wc (tz_nm 131) (tz_by 131) (tz_ml 131) (tz_re 131) (tz_hh 131),
  ez_wc (tz_nm 1) (tz_by 1) (tz_ml 1) (tz_re 1) (tz_hh 1),
  ez_wc (tz_nm 20) (tz_by 20) (tz_ml 20) (tz_re 20) (tz_hh 20),
  ez_wc (tz_nm 2) (tz_by 2) (tz_ml 2) (tz_re 2) (tz_hh 2),
  ez_wc (tz_nm 129) (tz_by 129) (tz_ml 129) (tz_re 129) (tz_hh 129),
  ez_wc (tz_nm 3) (tz_by 3) (tz_ml 3) (tz_re 3) (tz_hh 3),
  ez_wc (tz_nm 4) (tz_by 4) (tz_ml 4) (tz_re 4) (tz_hh 4),
  ez_wc (tz_nm 128) (tz_by 128) (tz_ml 128) (tz_re 128) (tz_hh 128),
  ez_wc (tz_nm 6) (tz_by 6) (tz_ml 6) (tz_re 6) (tz_hh 6),
  ez_wc (tz_nm 7) (tz_by 7) (tz_ml 7) (tz_re 7) (tz_hh 7),
  ez_wc (tz_nm 114) (tz_by 114) (tz_ml 114) (tz_re 114) (tz_hh 114),
  ez_wc (tz_nm 115) (tz_by 115) (tz_ml 115) (tz_re 115) (tz_hh 115),
  ez_wc (tz_nm 109) (tz_by 109) (tz_ml 109) (tz_re 109) (tz_hh 109),
  ez_wc (tz_nm 112) (tz_by 112) (tz_ml 112) (tz_re 112) (tz_hh 112),
  ez_wc (tz_nm 110) (tz_by 110) (tz_ml 110) (tz_re 110) (tz_hh 110),
  (lw_tbl[485]?).getD .tt,
  (lw_tbl[488]?).getD .tt,
  ez_wc (tz_nm 111) (tz_by 111) (tz_ml 111) (tz_re 111) (tz_hh 111),
  ez_wc (tz_nm 124) (tz_by 124) (tz_ml 124) (tz_re 124) (tz_hh 124),
  ez_wc (tz_nm 68) (tz_by 68) (tz_ml 68) (tz_re 68) (tz_hh 68),
  ez_wc (tz_nm 74) (tz_by 74) (tz_ml 74) (tz_re 74) (tz_hh 74),
  ez_wc (tz_nm 116) (tz_by 116) (tz_ml 116) (tz_re 116) (tz_hh 116),
  ez_wc (tz_nm 125) (tz_by 125) (tz_ml 125) (tz_re 125) (tz_hh 125),
  ez_wc (tz_nm 123) (tz_by 123) (tz_ml 123) (tz_re 123) (tz_hh 123),
  ez_wc (tz_nm 126) (tz_by 126) (tz_ml 126) (tz_re 126) (tz_hh 126),
  ez_wc (tz_nm 117) (tz_by 117) (tz_ml 117) (tz_re 117) (tz_hh 117),
  ez_wc (tz_nm 23) (tz_by 23) (tz_ml 23) (tz_re 23) (tz_hh 23),
  ez_wc (tz_nm 75) (tz_by 75) (tz_ml 75) (tz_re 75) (tz_hh 75),
  ez_wc (tz_nm 79) (tz_by 79) (tz_ml 79) (tz_re 79) (tz_hh 79),
  ez_wc (tz_nm 118) (tz_by 118) (tz_ml 118) (tz_re 118) (tz_hh 118),
  ez_wc (tz_nm 101) (tz_by 101) (tz_ml 101) (tz_re 101) (tz_hh 101),
  ez_wc (tz_nm 102) (tz_by 102) (tz_ml 102) (tz_re 102) (tz_hh 102),
  ez_wc (tz_nm 103) (tz_by 103) (tz_ml 103) (tz_re 103) (tz_hh 103),
  ez_wc (tz_nm 107) (tz_by 107) (tz_ml 107) (tz_re 107) (tz_hh 107),
  ez_wc (tz_nm 104) (tz_by 104) (tz_ml 104) (tz_re 104) (tz_hh 104),
  ez_wc (tz_nm 105) (tz_by 105) (tz_ml 105) (tz_re 105) (tz_hh 105),
  ez_wc (tz_nm 106) (tz_by 106) (tz_ml 106) (tz_re 106) (tz_hh 106),
  ez_wc (tz_nm 22) (tz_by 22) (tz_ml 22) (tz_re 22) (tz_hh 22),
  ez_wc (tz_nm 89) (tz_by 89) (tz_ml 89) (tz_re 89) (tz_hh 89),
  ez_wc (tz_nm 91) (tz_by 91) (tz_ml 91) (tz_re 91) (tz_hh 91),
  ez_wc (tz_nm 93) (tz_by 93) (tz_ml 93) (tz_re 93) (tz_hh 93),
  ez_wc (tz_nm 94) (tz_by 94) (tz_ml 94) (tz_re 94) (tz_hh 94),
  ez_wc (tz_nm 95) (tz_by 95) (tz_ml 95) (tz_re 95) (tz_hh 95),
  ez_wc (tz_nm 96) (tz_by 96) (tz_ml 96) (tz_re 96) (tz_hh 96),
  ez_wc (tz_nm 92) (tz_by 92) (tz_ml 92) (tz_re 92) (tz_hh 92),
  ez_wc (tz_nm 97) (tz_by 97) (tz_ml 97) (tz_re 97) (tz_hh 97),
  ez_wc (tz_nm 98) (tz_by 98) (tz_ml 98) (tz_re 98) (tz_hh 98),
  ez_wc (tz_nm 69) (tz_by 69) (tz_ml 69) (tz_re 69) (tz_hh 69),
  ez_wc (tz_nm 70) (tz_by 70) (tz_ml 70) (tz_re 70) (tz_hh 70),
  ez_wc (tz_nm 119) (tz_by 119) (tz_ml 119) (tz_re 119) (tz_hh 119),
  ez_wc (tz_nm 76) (tz_by 76) (tz_ml 76) (tz_re 76) (tz_hh 76),
  ez_wc (tz_nm 120) (tz_by 120) (tz_ml 120) (tz_re 120) (tz_hh 120),
  ez_wc (tz_nm 71) (tz_by 71) (tz_ml 71) (tz_re 71) (tz_hh 71),
  ez_wc (tz_nm 121) (tz_by 121) (tz_ml 121) (tz_re 121) (tz_hh 121),
  ez_wc (tz_nm 72) (tz_by 72) (tz_ml 72) (tz_re 72) (tz_hh 72),
  ez_wc (tz_nm 77) (tz_by 77) (tz_ml 77) (tz_re 77) (tz_hh 77),
  ez_wc (tz_nm 90) (tz_by 90) (tz_ml 90) (tz_re 90) (tz_hh 90),
  ez_wc (tz_nm 130) (tz_by 130) (tz_ml 130) (tz_re 130) (tz_hh 130),
  ez_wc (tz_nm 8) (tz_by 8) (tz_ml 8) (tz_re 8) (tz_hh 8),
  ez_wc (tz_nm 9) (tz_by 9) (tz_ml 9) (tz_re 9) (tz_hh 9),
  ez_wc (tz_nm 10) (tz_by 10) (tz_ml 10) (tz_re 10) (tz_hh 10),
  ez_wc (tz_nm 11) (tz_by 11) (tz_ml 11) (tz_re 11) (tz_hh 11),
  ez_wc (tz_nm 12) (tz_by 12) (tz_ml 12) (tz_re 12) (tz_hh 12),
  ez_wc (tz_nm 78) (tz_by 78) (tz_ml 78) (tz_re 78) (tz_hh 78),
  ez_wc (tz_nm 14) (tz_by 14) (tz_ml 14) (tz_re 14) (tz_hh 14),
  ez_wc (tz_nm 15) (tz_by 15) (tz_ml 15) (tz_re 15) (tz_hh 15),
  ez_wc (tz_nm 18) (tz_by 18) (tz_ml 18) (tz_re 18) (tz_hh 18),
  ez_wc (tz_nm 19) (tz_by 19) (tz_ml 19) (tz_re 19) (tz_hh 19),
  ez_wc (tz_nm 144) (tz_by 144) (tz_ml 144) (tz_re 144) (tz_hh 144),
  ez_wc (tz_nm 5) (tz_by 5) (tz_ml 5) (tz_re 5) (tz_hh 5),
  (lw_tbl[770]?).getD .tt,
  (lw_tbl[790]?).getD .tt,
  (lw_tbl[793]?).getD .tt,
  (lw_tbl[796]?).getD .tt,
  (lw_tbl[799]?).getD .tt,
  ez_wc (tz_nm 145) (tz_by 145) (tz_ml 145) (tz_re 145) (tz_hh 145),
  ez_wc (tz_nm 13) (tz_by 13) (tz_ml 13) (tz_re 13) (tz_hh 13),
  ez_wc (tz_nm 132) (tz_by 132) (tz_ml 132) (tz_re 132) (tz_hh 132),
  ez_wc (tz_nm 133) (tz_by 133) (tz_ml 133) (tz_re 133) (tz_hh 133),
  ez_wc (tz_nm 142) (tz_by 142) (tz_ml 142) (tz_re 142) (tz_hh 142),
  ez_wc (tz_nm 143) (tz_by 143) (tz_ml 143) (tz_re 143) (tz_hh 143),
  (lw_tbl[852]?).getD .tt,
  ez_wc (tz_nm 134) (tz_by 134) (tz_ml 134) (tz_re 134) (tz_hh 134),
  ez_wc (tz_nm 140) (tz_by 140) (tz_ml 140) (tz_re 140) (tz_hh 140),
  ez_wc (tz_nm 138) (tz_by 138) (tz_ml 138) (tz_re 138) (tz_hh 138),
  ez_wc (tz_nm 141) (tz_by 141) (tz_ml 141) (tz_re 141) (tz_hh 141),
  ez_wc (tz_nm 139) (tz_by 139) (tz_ml 139) (tz_re 139) (tz_hh 139),
  ez_wc (tz_nm 135) (tz_by 135) (tz_ml 135) (tz_re 135) (tz_hh 135),
  ez_wc (tz_nm 136) (tz_by 136) (tz_ml 136) (tz_re 136) (tz_hh 136),
  ez_wc (tz_nm 83) (tz_by 83) (tz_ml 83) (tz_re 83) (tz_hh 83),
  ez_wc (tz_nm 137) (tz_by 137) (tz_ml 137) (tz_re 137) (tz_hh 137),
  ez_wc (tz_nm 81) (tz_by 81) (tz_ml 81) (tz_re 81) (tz_hh 81),
  ez_wc (tz_nm 84) (tz_by 84) (tz_ml 84) (tz_re 84) (tz_hh 84),
  ez_wc (tz_nm 146) (tz_by 146) (tz_ml 146) (tz_re 146) (tz_hh 146),
  ez_wc (tz_nm 16) (tz_by 16) (tz_ml 16) (tz_re 16) (tz_hh 16),
  (lw_tbl[932]?).getD .tt,
  ez_wc (tz_nm 147) (tz_by 147) (tz_ml 147) (tz_re 147) (tz_hh 147),
  ez_wc (tz_nm 17) (tz_by 17) (tz_ml 17) (tz_re 17) (tz_hh 17),
  ez_wc (tz_nm 21) (tz_by 21) (tz_ml 21) (tz_re 21) (tz_hh 21),
  ez_wc (tz_nm 24) (tz_by 24) (tz_ml 24) (tz_re 24) (tz_hh 24),
  ez_wc (tz_nm 25) (tz_by 25) (tz_ml 25) (tz_re 25) (tz_hh 25),
  ez_wc (tz_nm 26) (tz_by 26) (tz_ml 26) (tz_re 26) (tz_hh 26),
  ez_wc (tz_nm 27) (tz_by 27) (tz_ml 27) (tz_re 27) (tz_hh 27),
  ez_wc (tz_nm 28) (tz_by 28) (tz_ml 28) (tz_re 28) (tz_hh 28),
  ez_wc (tz_nm 29) (tz_by 29) (tz_ml 29) (tz_re 29) (tz_hh 29),
  ez_wc (tz_nm 30) (tz_by 30) (tz_ml 30) (tz_re 30) (tz_hh 30),
  ez_wc (tz_nm 45) (tz_by 45) (tz_ml 45) (tz_re 45) (tz_hh 45),
  ez_wc (tz_nm 32) (tz_by 32) (tz_ml 32) (tz_re 32) (tz_hh 32),
  ez_wc (tz_nm 31) (tz_by 31) (tz_ml 31) (tz_re 31) (tz_hh 31),
  ez_wc (tz_nm 44) (tz_by 44) (tz_ml 44) (tz_re 44) (tz_hh 44),
  ez_wc (tz_nm 33) (tz_by 33) (tz_ml 33) (tz_re 33) (tz_hh 33),
  ez_wc (tz_nm 34) (tz_by 34) (tz_ml 34) (tz_re 34) (tz_hh 34),
  ez_wc (tz_nm 36) (tz_by 36) (tz_ml 36) (tz_re 36) (tz_hh 36),
  ez_wc (tz_nm 35) (tz_by 35) (tz_ml 35) (tz_re 35) (tz_hh 35),
  ez_wc (tz_nm 39) (tz_by 39) (tz_ml 39) (tz_re 39) (tz_hh 39),
  ez_wc (tz_nm 42) (tz_by 42) (tz_ml 42) (tz_re 42) (tz_hh 42),
  ez_wc (tz_nm 41) (tz_by 41) (tz_ml 41) (tz_re 41) (tz_hh 41),
  ez_wc (tz_nm 43) (tz_by 43) (tz_ml 43) (tz_re 43) (tz_hh 43),
  ez_wc (tz_nm 38) (tz_by 38) (tz_ml 38) (tz_re 38) (tz_hh 38),
  ez_wc (tz_nm 37) (tz_by 37) (tz_ml 37) (tz_re 37) (tz_hh 37),
  ez_wc (tz_nm 40) (tz_by 40) (tz_ml 40) (tz_re 40) (tz_hh 40),
  ez_wc (tz_nm 46) (tz_by 46) (tz_ml 46) (tz_re 46) (tz_hh 46),
  ez_wc (tz_nm 47) (tz_by 47) (tz_ml 47) (tz_re 47) (tz_hh 47),
  ez_wc (tz_nm 48) (tz_by 48) (tz_ml 48) (tz_re 48) (tz_hh 48),
  ez_wc (tz_nm 49) (tz_by 49) (tz_ml 49) (tz_re 49) (tz_hh 49),
  ez_wc (tz_nm 50) (tz_by 50) (tz_ml 50) (tz_re 50) (tz_hh 50),
  ez_wc (tz_nm 60) (tz_by 60) (tz_ml 60) (tz_re 60) (tz_hh 60),
  ez_wc (tz_nm 51) (tz_by 51) (tz_ml 51) (tz_re 51) (tz_hh 51),
  ez_wc (tz_nm 52) (tz_by 52) (tz_ml 52) (tz_re 52) (tz_hh 52),
  ez_wc (tz_nm 57) (tz_by 57) (tz_ml 57) (tz_re 57) (tz_hh 57),
  ez_wc (tz_nm 53) (tz_by 53) (tz_ml 53) (tz_re 53) (tz_hh 53),
  ez_wc (tz_nm 58) (tz_by 58) (tz_ml 58) (tz_re 58) (tz_hh 58),
  ez_wc (tz_nm 56) (tz_by 56) (tz_ml 56) (tz_re 56) (tz_hh 56),
  ez_wc (tz_nm 54) (tz_by 54) (tz_ml 54) (tz_re 54) (tz_hh 54),
  ez_wc (tz_nm 55) (tz_by 55) (tz_ml 55) (tz_re 55) (tz_hh 55),
  ez_wc (tz_nm 59) (tz_by 59) (tz_ml 59) (tz_re 59) (tz_hh 59),
  ez_wc (tz_nm 61) (tz_by 61) (tz_ml 61) (tz_re 61) (tz_hh 61),
  ez_wc (tz_nm 62) (tz_by 62) (tz_ml 62) (tz_re 62) (tz_hh 62),
  ez_wc (tz_nm 63) (tz_by 63) (tz_ml 63) (tz_re 63) (tz_hh 63),
  ez_wc (tz_nm 64) (tz_by 64) (tz_ml 64) (tz_re 64) (tz_hh 64),
  ez_wc (tz_nm 65) (tz_by 65) (tz_ml 65) (tz_re 65) (tz_hh 65),
  ez_wc (tz_nm 66) (tz_by 66) (tz_ml 66) (tz_re 66) (tz_hh 66)]
set_option maxRecDepth 100000 in
set_option maxHeartbeats 4000000 in
theorem tz_cds : lw_tbl.filter ez_isC = tz_cdL := rfl
theorem tz_cdm {w : Cond} (h : w ∈ tz_cdL) : w ∈ lw_tbl := by
  rw [← tz_cds] at h
  exact (List.mem_filter.mp h).1
theorem tz_wc_0 : ez_wc (tz_nm 0) (tz_by 0) (tz_ml 0) (tz_re 0) (tz_hh 0) ∈ tz_tbl := tz_in (tz_cdm (List.mem_of_getElem? (i := 0) rfl)) rfl
theorem tz_wc_1 : ez_wc (tz_nm 1) (tz_by 1) (tz_ml 1) (tz_re 1) (tz_hh 1) ∈ tz_tbl := tz_in (tz_cdm (List.mem_of_getElem? (i := 18) rfl)) rfl
theorem tz_wc_2 : ez_wc (tz_nm 2) (tz_by 2) (tz_ml 2) (tz_re 2) (tz_hh 2) ∈ tz_tbl := tz_in (tz_cdm (List.mem_of_getElem? (i := 20) rfl)) rfl
theorem tz_wc_3 : ez_wc (tz_nm 3) (tz_by 3) (tz_ml 3) (tz_re 3) (tz_hh 3) ∈ tz_tbl := tz_in (tz_cdm (List.mem_of_getElem? (i := 22) rfl)) rfl
theorem tz_wc_4 : ez_wc (tz_nm 4) (tz_by 4) (tz_ml 4) (tz_re 4) (tz_hh 4) ∈ tz_tbl := tz_in (tz_cdm (List.mem_of_getElem? (i := 23) rfl)) rfl
theorem tz_wc_5 : ez_wc (tz_nm 5) (tz_by 5) (tz_ml 5) (tz_re 5) (tz_hh 5) ∈ tz_tbl := tz_in (tz_cdm (List.mem_of_getElem? (i := 86) rfl)) rfl
theorem tz_wc_6 : ez_wc (tz_nm 6) (tz_by 6) (tz_ml 6) (tz_re 6) (tz_hh 6) ∈ tz_tbl := tz_in (tz_cdm (List.mem_of_getElem? (i := 25) rfl)) rfl
theorem tz_wc_7 : ez_wc (tz_nm 7) (tz_by 7) (tz_ml 7) (tz_re 7) (tz_hh 7) ∈ tz_tbl := tz_in (tz_cdm (List.mem_of_getElem? (i := 26) rfl)) rfl
theorem tz_wc_8 : ez_wc (tz_nm 8) (tz_by 8) (tz_ml 8) (tz_re 8) (tz_hh 8) ∈ tz_tbl := tz_in (tz_cdm (List.mem_of_getElem? (i := 75) rfl)) rfl
theorem tz_wc_9 : ez_wc (tz_nm 9) (tz_by 9) (tz_ml 9) (tz_re 9) (tz_hh 9) ∈ tz_tbl := tz_in (tz_cdm (List.mem_of_getElem? (i := 76) rfl)) rfl
theorem tz_wc_10 : ez_wc (tz_nm 10) (tz_by 10) (tz_ml 10) (tz_re 10) (tz_hh 10) ∈ tz_tbl := tz_in (tz_cdm (List.mem_of_getElem? (i := 77) rfl)) rfl
theorem tz_wc_11 : ez_wc (tz_nm 11) (tz_by 11) (tz_ml 11) (tz_re 11) (tz_hh 11) ∈ tz_tbl := tz_in (tz_cdm (List.mem_of_getElem? (i := 78) rfl)) rfl
theorem tz_wc_12 : ez_wc (tz_nm 12) (tz_by 12) (tz_ml 12) (tz_re 12) (tz_hh 12) ∈ tz_tbl := tz_in (tz_cdm (List.mem_of_getElem? (i := 79) rfl)) rfl
theorem tz_wc_13 : ez_wc (tz_nm 13) (tz_by 13) (tz_ml 13) (tz_re 13) (tz_hh 13) ∈ tz_tbl := tz_in (tz_cdm (List.mem_of_getElem? (i := 93) rfl)) rfl
theorem tz_wc_14 : ez_wc (tz_nm 14) (tz_by 14) (tz_ml 14) (tz_re 14) (tz_hh 14) ∈ tz_tbl := tz_in (tz_cdm (List.mem_of_getElem? (i := 81) rfl)) rfl
theorem tz_wc_15 : ez_wc (tz_nm 15) (tz_by 15) (tz_ml 15) (tz_re 15) (tz_hh 15) ∈ tz_tbl := tz_in (tz_cdm (List.mem_of_getElem? (i := 82) rfl)) rfl
theorem tz_wc_16 : ez_wc (tz_nm 16) (tz_by 16) (tz_ml 16) (tz_re 16) (tz_hh 16) ∈ tz_tbl := tz_in (tz_cdm (List.mem_of_getElem? (i := 111) rfl)) rfl
theorem tz_wc_17 : ez_wc (tz_nm 17) (tz_by 17) (tz_ml 17) (tz_re 17) (tz_hh 17) ∈ tz_tbl := tz_in (tz_cdm (List.mem_of_getElem? (i := 114) rfl)) rfl
theorem tz_wc_18 : ez_wc (tz_nm 18) (tz_by 18) (tz_ml 18) (tz_re 18) (tz_hh 18) ∈ tz_tbl := tz_in (tz_cdm (List.mem_of_getElem? (i := 83) rfl)) rfl
theorem tz_wc_19 : ez_wc (tz_nm 19) (tz_by 19) (tz_ml 19) (tz_re 19) (tz_hh 19) ∈ tz_tbl := tz_in (tz_cdm (List.mem_of_getElem? (i := 84) rfl)) rfl
theorem tz_wc_20 : ez_wc (tz_nm 20) (tz_by 20) (tz_ml 20) (tz_re 20) (tz_hh 20) ∈ tz_tbl := tz_in (tz_cdm (List.mem_of_getElem? (i := 19) rfl)) rfl
theorem tz_wc_21 : ez_wc (tz_nm 21) (tz_by 21) (tz_ml 21) (tz_re 21) (tz_hh 21) ∈ tz_tbl := tz_in (tz_cdm (List.mem_of_getElem? (i := 115) rfl)) rfl
theorem tz_wc_22 : ez_wc (tz_nm 22) (tz_by 22) (tz_ml 22) (tz_re 22) (tz_hh 22) ∈ tz_tbl := tz_in (tz_cdm (List.mem_of_getElem? (i := 54) rfl)) rfl
theorem tz_wc_23 : ez_wc (tz_nm 23) (tz_by 23) (tz_ml 23) (tz_re 23) (tz_hh 23) ∈ tz_tbl := tz_in (tz_cdm (List.mem_of_getElem? (i := 43) rfl)) rfl
theorem tz_wc_24 : ez_wc (tz_nm 24) (tz_by 24) (tz_ml 24) (tz_re 24) (tz_hh 24) ∈ tz_tbl := tz_in (tz_cdm (List.mem_of_getElem? (i := 116) rfl)) rfl
theorem tz_wc_25 : ez_wc (tz_nm 25) (tz_by 25) (tz_ml 25) (tz_re 25) (tz_hh 25) ∈ tz_tbl := tz_in (tz_cdm (List.mem_of_getElem? (i := 117) rfl)) rfl
theorem tz_wc_26 : ez_wc (tz_nm 26) (tz_by 26) (tz_ml 26) (tz_re 26) (tz_hh 26) ∈ tz_tbl := tz_in (tz_cdm (List.mem_of_getElem? (i := 118) rfl)) rfl
theorem tz_wc_27 : ez_wc (tz_nm 27) (tz_by 27) (tz_ml 27) (tz_re 27) (tz_hh 27) ∈ tz_tbl := tz_in (tz_cdm (List.mem_of_getElem? (i := 119) rfl)) rfl
theorem tz_wc_28 : ez_wc (tz_nm 28) (tz_by 28) (tz_ml 28) (tz_re 28) (tz_hh 28) ∈ tz_tbl := tz_in (tz_cdm (List.mem_of_getElem? (i := 120) rfl)) rfl
theorem tz_wc_29 : ez_wc (tz_nm 29) (tz_by 29) (tz_ml 29) (tz_re 29) (tz_hh 29) ∈ tz_tbl := tz_in (tz_cdm (List.mem_of_getElem? (i := 121) rfl)) rfl
theorem tz_wc_30 : ez_wc (tz_nm 30) (tz_by 30) (tz_ml 30) (tz_re 30) (tz_hh 30) ∈ tz_tbl := tz_in (tz_cdm (List.mem_of_getElem? (i := 122) rfl)) rfl
theorem tz_wc_31 : ez_wc (tz_nm 31) (tz_by 31) (tz_ml 31) (tz_re 31) (tz_hh 31) ∈ tz_tbl := tz_in (tz_cdm (List.mem_of_getElem? (i := 125) rfl)) rfl
theorem tz_wc_32 : ez_wc (tz_nm 32) (tz_by 32) (tz_ml 32) (tz_re 32) (tz_hh 32) ∈ tz_tbl := tz_in (tz_cdm (List.mem_of_getElem? (i := 124) rfl)) rfl
theorem tz_wc_33 : ez_wc (tz_nm 33) (tz_by 33) (tz_ml 33) (tz_re 33) (tz_hh 33) ∈ tz_tbl := tz_in (tz_cdm (List.mem_of_getElem? (i := 127) rfl)) rfl
theorem tz_wc_34 : ez_wc (tz_nm 34) (tz_by 34) (tz_ml 34) (tz_re 34) (tz_hh 34) ∈ tz_tbl := tz_in (tz_cdm (List.mem_of_getElem? (i := 128) rfl)) rfl
theorem tz_wc_35 : ez_wc (tz_nm 35) (tz_by 35) (tz_ml 35) (tz_re 35) (tz_hh 35) ∈ tz_tbl := tz_in (tz_cdm (List.mem_of_getElem? (i := 130) rfl)) rfl
theorem tz_wc_36 : ez_wc (tz_nm 36) (tz_by 36) (tz_ml 36) (tz_re 36) (tz_hh 36) ∈ tz_tbl := tz_in (tz_cdm (List.mem_of_getElem? (i := 129) rfl)) rfl
theorem tz_wc_37 : ez_wc (tz_nm 37) (tz_by 37) (tz_ml 37) (tz_re 37) (tz_hh 37) ∈ tz_tbl := tz_in (tz_cdm (List.mem_of_getElem? (i := 136) rfl)) rfl
theorem tz_wc_38 : ez_wc (tz_nm 38) (tz_by 38) (tz_ml 38) (tz_re 38) (tz_hh 38) ∈ tz_tbl := tz_in (tz_cdm (List.mem_of_getElem? (i := 135) rfl)) rfl
theorem tz_wc_39 : ez_wc (tz_nm 39) (tz_by 39) (tz_ml 39) (tz_re 39) (tz_hh 39) ∈ tz_tbl := tz_in (tz_cdm (List.mem_of_getElem? (i := 131) rfl)) rfl
theorem tz_wc_40 : ez_wc (tz_nm 40) (tz_by 40) (tz_ml 40) (tz_re 40) (tz_hh 40) ∈ tz_tbl := tz_in (tz_cdm (List.mem_of_getElem? (i := 137) rfl)) rfl
theorem tz_wc_41 : ez_wc (tz_nm 41) (tz_by 41) (tz_ml 41) (tz_re 41) (tz_hh 41) ∈ tz_tbl := tz_in (tz_cdm (List.mem_of_getElem? (i := 133) rfl)) rfl
theorem tz_wc_42 : ez_wc (tz_nm 42) (tz_by 42) (tz_ml 42) (tz_re 42) (tz_hh 42) ∈ tz_tbl := tz_in (tz_cdm (List.mem_of_getElem? (i := 132) rfl)) rfl
theorem tz_wc_43 : ez_wc (tz_nm 43) (tz_by 43) (tz_ml 43) (tz_re 43) (tz_hh 43) ∈ tz_tbl := tz_in (tz_cdm (List.mem_of_getElem? (i := 134) rfl)) rfl
theorem tz_wc_44 : ez_wc (tz_nm 44) (tz_by 44) (tz_ml 44) (tz_re 44) (tz_hh 44) ∈ tz_tbl := tz_in (tz_cdm (List.mem_of_getElem? (i := 126) rfl)) rfl
theorem tz_wc_45 : ez_wc (tz_nm 45) (tz_by 45) (tz_ml 45) (tz_re 45) (tz_hh 45) ∈ tz_tbl := tz_in (tz_cdm (List.mem_of_getElem? (i := 123) rfl)) rfl
theorem tz_wc_46 : ez_wc (tz_nm 46) (tz_by 46) (tz_ml 46) (tz_re 46) (tz_hh 46) ∈ tz_tbl := tz_in (tz_cdm (List.mem_of_getElem? (i := 138) rfl)) rfl
theorem tz_wc_47 : ez_wc (tz_nm 47) (tz_by 47) (tz_ml 47) (tz_re 47) (tz_hh 47) ∈ tz_tbl := tz_in (tz_cdm (List.mem_of_getElem? (i := 139) rfl)) rfl
theorem tz_wc_48 : ez_wc (tz_nm 48) (tz_by 48) (tz_ml 48) (tz_re 48) (tz_hh 48) ∈ tz_tbl := tz_in (tz_cdm (List.mem_of_getElem? (i := 140) rfl)) rfl
theorem tz_wc_49 : ez_wc (tz_nm 49) (tz_by 49) (tz_ml 49) (tz_re 49) (tz_hh 49) ∈ tz_tbl := tz_in (tz_cdm (List.mem_of_getElem? (i := 141) rfl)) rfl
theorem tz_wc_50 : ez_wc (tz_nm 50) (tz_by 50) (tz_ml 50) (tz_re 50) (tz_hh 50) ∈ tz_tbl := tz_in (tz_cdm (List.mem_of_getElem? (i := 142) rfl)) rfl
theorem tz_wc_51 : ez_wc (tz_nm 51) (tz_by 51) (tz_ml 51) (tz_re 51) (tz_hh 51) ∈ tz_tbl := tz_in (tz_cdm (List.mem_of_getElem? (i := 144) rfl)) rfl
theorem tz_wc_52 : ez_wc (tz_nm 52) (tz_by 52) (tz_ml 52) (tz_re 52) (tz_hh 52) ∈ tz_tbl := tz_in (tz_cdm (List.mem_of_getElem? (i := 145) rfl)) rfl
theorem tz_wc_53 : ez_wc (tz_nm 53) (tz_by 53) (tz_ml 53) (tz_re 53) (tz_hh 53) ∈ tz_tbl := tz_in (tz_cdm (List.mem_of_getElem? (i := 147) rfl)) rfl
theorem tz_wc_54 : ez_wc (tz_nm 54) (tz_by 54) (tz_ml 54) (tz_re 54) (tz_hh 54) ∈ tz_tbl := tz_in (tz_cdm (List.mem_of_getElem? (i := 150) rfl)) rfl
theorem tz_wc_55 : ez_wc (tz_nm 55) (tz_by 55) (tz_ml 55) (tz_re 55) (tz_hh 55) ∈ tz_tbl := tz_in (tz_cdm (List.mem_of_getElem? (i := 151) rfl)) rfl
theorem tz_wc_56 : ez_wc (tz_nm 56) (tz_by 56) (tz_ml 56) (tz_re 56) (tz_hh 56) ∈ tz_tbl := tz_in (tz_cdm (List.mem_of_getElem? (i := 149) rfl)) rfl
theorem tz_wc_57 : ez_wc (tz_nm 57) (tz_by 57) (tz_ml 57) (tz_re 57) (tz_hh 57) ∈ tz_tbl := tz_in (tz_cdm (List.mem_of_getElem? (i := 146) rfl)) rfl
theorem tz_wc_58 : ez_wc (tz_nm 58) (tz_by 58) (tz_ml 58) (tz_re 58) (tz_hh 58) ∈ tz_tbl := tz_in (tz_cdm (List.mem_of_getElem? (i := 148) rfl)) rfl
theorem tz_wc_59 : ez_wc (tz_nm 59) (tz_by 59) (tz_ml 59) (tz_re 59) (tz_hh 59) ∈ tz_tbl := tz_in (tz_cdm (List.mem_of_getElem? (i := 152) rfl)) rfl
theorem tz_wc_60 : ez_wc (tz_nm 60) (tz_by 60) (tz_ml 60) (tz_re 60) (tz_hh 60) ∈ tz_tbl := tz_in (tz_cdm (List.mem_of_getElem? (i := 143) rfl)) rfl
theorem tz_wc_61 : ez_wc (tz_nm 61) (tz_by 61) (tz_ml 61) (tz_re 61) (tz_hh 61) ∈ tz_tbl := tz_in (tz_cdm (List.mem_of_getElem? (i := 153) rfl)) rfl
theorem tz_wc_62 : ez_wc (tz_nm 62) (tz_by 62) (tz_ml 62) (tz_re 62) (tz_hh 62) ∈ tz_tbl := tz_in (tz_cdm (List.mem_of_getElem? (i := 154) rfl)) rfl
theorem tz_wc_63 : ez_wc (tz_nm 63) (tz_by 63) (tz_ml 63) (tz_re 63) (tz_hh 63) ∈ tz_tbl := tz_in (tz_cdm (List.mem_of_getElem? (i := 155) rfl)) rfl
theorem tz_wc_64 : ez_wc (tz_nm 64) (tz_by 64) (tz_ml 64) (tz_re 64) (tz_hh 64) ∈ tz_tbl := tz_in (tz_cdm (List.mem_of_getElem? (i := 156) rfl)) rfl
theorem tz_wc_65 : ez_wc (tz_nm 65) (tz_by 65) (tz_ml 65) (tz_re 65) (tz_hh 65) ∈ tz_tbl := tz_in (tz_cdm (List.mem_of_getElem? (i := 157) rfl)) rfl
theorem tz_wc_66 : ez_wc (tz_nm 66) (tz_by 66) (tz_ml 66) (tz_re 66) (tz_hh 66) ∈ tz_tbl := tz_in (tz_cdm (List.mem_of_getElem? (i := 158) rfl)) rfl
theorem tz_wc_67 : ez_wc (tz_nm 67) (tz_by 67) (tz_ml 67) (tz_re 67) (tz_hh 67) ∈ tz_tbl := tz_in (tz_cdm (List.mem_of_getElem? (i := 16) rfl)) rfl
theorem tz_wc_68 : ez_wc (tz_nm 68) (tz_by 68) (tz_ml 68) (tz_re 68) (tz_hh 68) ∈ tz_tbl := tz_in (tz_cdm (List.mem_of_getElem? (i := 36) rfl)) rfl
theorem tz_wc_69 : ez_wc (tz_nm 69) (tz_by 69) (tz_ml 69) (tz_re 69) (tz_hh 69) ∈ tz_tbl := tz_in (tz_cdm (List.mem_of_getElem? (i := 64) rfl)) rfl
theorem tz_wc_70 : ez_wc (tz_nm 70) (tz_by 70) (tz_ml 70) (tz_re 70) (tz_hh 70) ∈ tz_tbl := tz_in (tz_cdm (List.mem_of_getElem? (i := 65) rfl)) rfl
theorem tz_wc_71 : ez_wc (tz_nm 71) (tz_by 71) (tz_ml 71) (tz_re 71) (tz_hh 71) ∈ tz_tbl := tz_in (tz_cdm (List.mem_of_getElem? (i := 69) rfl)) rfl
theorem tz_wc_72 : ez_wc (tz_nm 72) (tz_by 72) (tz_ml 72) (tz_re 72) (tz_hh 72) ∈ tz_tbl := tz_in (tz_cdm (List.mem_of_getElem? (i := 71) rfl)) rfl
theorem tz_wc_73 : ez_wc (tz_nm 73) (tz_by 73) (tz_ml 73) (tz_re 73) (tz_hh 73) ∈ tz_tbl := tz_in (tz_cdm (List.mem_of_getElem? (i := 13) rfl)) rfl
theorem tz_wc_74 : ez_wc (tz_nm 74) (tz_by 74) (tz_ml 74) (tz_re 74) (tz_hh 74) ∈ tz_tbl := tz_in (tz_cdm (List.mem_of_getElem? (i := 37) rfl)) rfl
theorem tz_wc_75 : ez_wc (tz_nm 75) (tz_by 75) (tz_ml 75) (tz_re 75) (tz_hh 75) ∈ tz_tbl := tz_in (tz_cdm (List.mem_of_getElem? (i := 44) rfl)) rfl
theorem tz_wc_76 : ez_wc (tz_nm 76) (tz_by 76) (tz_ml 76) (tz_re 76) (tz_hh 76) ∈ tz_tbl := tz_in (tz_cdm (List.mem_of_getElem? (i := 67) rfl)) rfl
theorem tz_wc_77 : ez_wc (tz_nm 77) (tz_by 77) (tz_ml 77) (tz_re 77) (tz_hh 77) ∈ tz_tbl := tz_in (tz_cdm (List.mem_of_getElem? (i := 72) rfl)) rfl
theorem tz_wc_78 : ez_wc (tz_nm 78) (tz_by 78) (tz_ml 78) (tz_re 78) (tz_hh 78) ∈ tz_tbl := tz_in (tz_cdm (List.mem_of_getElem? (i := 80) rfl)) rfl
theorem tz_wc_79 : ez_wc (tz_nm 79) (tz_by 79) (tz_ml 79) (tz_re 79) (tz_hh 79) ∈ tz_tbl := tz_in (tz_cdm (List.mem_of_getElem? (i := 45) rfl)) rfl
theorem tz_wc_80 : ez_wc (tz_nm 80) (tz_by 80) (tz_ml 80) (tz_re 80) (tz_hh 80) ∈ tz_tbl := tz_in (tz_cdm (List.mem_of_getElem? (i := 5) rfl)) rfl
theorem tz_wc_81 : ez_wc (tz_nm 81) (tz_by 81) (tz_ml 81) (tz_re 81) (tz_hh 81) ∈ tz_tbl := tz_in (tz_cdm (List.mem_of_getElem? (i := 108) rfl)) rfl
theorem tz_wc_82 : ez_wc (tz_nm 82) (tz_by 82) (tz_ml 82) (tz_re 82) (tz_hh 82) ∈ tz_tbl := tz_in (tz_cdm (List.mem_of_getElem? (i := 7) rfl)) rfl
theorem tz_wc_83 : ez_wc (tz_nm 83) (tz_by 83) (tz_ml 83) (tz_re 83) (tz_hh 83) ∈ tz_tbl := tz_in (tz_cdm (List.mem_of_getElem? (i := 106) rfl)) rfl
theorem tz_wc_84 : ez_wc (tz_nm 84) (tz_by 84) (tz_ml 84) (tz_re 84) (tz_hh 84) ∈ tz_tbl := tz_in (tz_cdm (List.mem_of_getElem? (i := 109) rfl)) rfl
theorem tz_wc_85 : ez_wc (tz_nm 85) (tz_by 85) (tz_ml 85) (tz_re 85) (tz_hh 85) ∈ tz_tbl := tz_in (tz_cdm (List.mem_of_getElem? (i := 8) rfl)) rfl
theorem tz_wc_86 : ez_wc (tz_nm 86) (tz_by 86) (tz_ml 86) (tz_re 86) (tz_hh 86) ∈ tz_tbl := tz_in (tz_cdm (List.mem_of_getElem? (i := 9) rfl)) rfl
theorem tz_wc_87 : ez_wc (tz_nm 87) (tz_by 87) (tz_ml 87) (tz_re 87) (tz_hh 87) ∈ tz_tbl := tz_in (tz_cdm (List.mem_of_getElem? (i := 10) rfl)) rfl
theorem tz_wc_88 : ez_wc (tz_nm 88) (tz_by 88) (tz_ml 88) (tz_re 88) (tz_hh 88) ∈ tz_tbl := tz_in (tz_cdm (List.mem_of_getElem? (i := 15) rfl)) rfl
theorem tz_wc_89 : ez_wc (tz_nm 89) (tz_by 89) (tz_ml 89) (tz_re 89) (tz_hh 89) ∈ tz_tbl := tz_in (tz_cdm (List.mem_of_getElem? (i := 55) rfl)) rfl
theorem tz_wc_90 : ez_wc (tz_nm 90) (tz_by 90) (tz_ml 90) (tz_re 90) (tz_hh 90) ∈ tz_tbl := tz_in (tz_cdm (List.mem_of_getElem? (i := 73) rfl)) rfl
theorem tz_wc_91 : ez_wc (tz_nm 91) (tz_by 91) (tz_ml 91) (tz_re 91) (tz_hh 91) ∈ tz_tbl := tz_in (tz_cdm (List.mem_of_getElem? (i := 56) rfl)) rfl
theorem tz_wc_92 : ez_wc (tz_nm 92) (tz_by 92) (tz_ml 92) (tz_re 92) (tz_hh 92) ∈ tz_tbl := tz_in (tz_cdm (List.mem_of_getElem? (i := 61) rfl)) rfl
theorem tz_wc_93 : ez_wc (tz_nm 93) (tz_by 93) (tz_ml 93) (tz_re 93) (tz_hh 93) ∈ tz_tbl := tz_in (tz_cdm (List.mem_of_getElem? (i := 57) rfl)) rfl
theorem tz_wc_94 : ez_wc (tz_nm 94) (tz_by 94) (tz_ml 94) (tz_re 94) (tz_hh 94) ∈ tz_tbl := tz_in (tz_cdm (List.mem_of_getElem? (i := 58) rfl)) rfl
theorem tz_wc_95 : ez_wc (tz_nm 95) (tz_by 95) (tz_ml 95) (tz_re 95) (tz_hh 95) ∈ tz_tbl := tz_in (tz_cdm (List.mem_of_getElem? (i := 59) rfl)) rfl
theorem tz_wc_96 : ez_wc (tz_nm 96) (tz_by 96) (tz_ml 96) (tz_re 96) (tz_hh 96) ∈ tz_tbl := tz_in (tz_cdm (List.mem_of_getElem? (i := 60) rfl)) rfl
theorem tz_wc_97 : ez_wc (tz_nm 97) (tz_by 97) (tz_ml 97) (tz_re 97) (tz_hh 97) ∈ tz_tbl := tz_in (tz_cdm (List.mem_of_getElem? (i := 62) rfl)) rfl
theorem tz_wc_98 : ez_wc (tz_nm 98) (tz_by 98) (tz_ml 98) (tz_re 98) (tz_hh 98) ∈ tz_tbl := tz_in (tz_cdm (List.mem_of_getElem? (i := 63) rfl)) rfl
theorem tz_wc_99 : ez_wc (tz_nm 99) (tz_by 99) (tz_ml 99) (tz_re 99) (tz_hh 99) ∈ tz_tbl := tz_in (tz_cdm (List.mem_of_getElem? (i := 4) rfl)) rfl
theorem tz_wc_100 : ez_wc (tz_nm 100) (tz_by 100) (tz_ml 100) (tz_re 100) (tz_hh 100) ∈ tz_tbl := tz_in (tz_cdm (List.mem_of_getElem? (i := 3) rfl)) rfl
theorem tz_wc_101 : ez_wc (tz_nm 101) (tz_by 101) (tz_ml 101) (tz_re 101) (tz_hh 101) ∈ tz_tbl := tz_in (tz_cdm (List.mem_of_getElem? (i := 47) rfl)) rfl
theorem tz_wc_102 : ez_wc (tz_nm 102) (tz_by 102) (tz_ml 102) (tz_re 102) (tz_hh 102) ∈ tz_tbl := tz_in (tz_cdm (List.mem_of_getElem? (i := 48) rfl)) rfl
theorem tz_wc_103 : ez_wc (tz_nm 103) (tz_by 103) (tz_ml 103) (tz_re 103) (tz_hh 103) ∈ tz_tbl := tz_in (tz_cdm (List.mem_of_getElem? (i := 49) rfl)) rfl
theorem tz_wc_104 : ez_wc (tz_nm 104) (tz_by 104) (tz_ml 104) (tz_re 104) (tz_hh 104) ∈ tz_tbl := tz_in (tz_cdm (List.mem_of_getElem? (i := 51) rfl)) rfl
theorem tz_wc_105 : ez_wc (tz_nm 105) (tz_by 105) (tz_ml 105) (tz_re 105) (tz_hh 105) ∈ tz_tbl := tz_in (tz_cdm (List.mem_of_getElem? (i := 52) rfl)) rfl
theorem tz_wc_106 : ez_wc (tz_nm 106) (tz_by 106) (tz_ml 106) (tz_re 106) (tz_hh 106) ∈ tz_tbl := tz_in (tz_cdm (List.mem_of_getElem? (i := 53) rfl)) rfl
theorem tz_wc_107 : ez_wc (tz_nm 107) (tz_by 107) (tz_ml 107) (tz_re 107) (tz_hh 107) ∈ tz_tbl := tz_in (tz_cdm (List.mem_of_getElem? (i := 50) rfl)) rfl
theorem tz_wc_108 : ez_wc (tz_nm 108) (tz_by 108) (tz_ml 108) (tz_re 108) (tz_hh 108) ∈ tz_tbl := tz_in (tz_cdm (List.mem_of_getElem? (i := 14) rfl)) rfl
theorem tz_wc_109 : ez_wc (tz_nm 109) (tz_by 109) (tz_ml 109) (tz_re 109) (tz_hh 109) ∈ tz_tbl := tz_in (tz_cdm (List.mem_of_getElem? (i := 29) rfl)) rfl
theorem tz_wc_110 : ez_wc (tz_nm 110) (tz_by 110) (tz_ml 110) (tz_re 110) (tz_hh 110) ∈ tz_tbl := tz_in (tz_cdm (List.mem_of_getElem? (i := 31) rfl)) rfl
theorem tz_wc_111 : ez_wc (tz_nm 111) (tz_by 111) (tz_ml 111) (tz_re 111) (tz_hh 111) ∈ tz_tbl := tz_in (tz_cdm (List.mem_of_getElem? (i := 34) rfl)) rfl
theorem tz_wc_112 : ez_wc (tz_nm 112) (tz_by 112) (tz_ml 112) (tz_re 112) (tz_hh 112) ∈ tz_tbl := tz_in (tz_cdm (List.mem_of_getElem? (i := 30) rfl)) rfl
theorem tz_wc_113 : ez_wc (tz_nm 113) (tz_by 113) (tz_ml 113) (tz_re 113) (tz_hh 113) ∈ tz_tbl := tz_in (tz_cdm (List.mem_of_getElem? (i := 11) rfl)) rfl
theorem tz_wc_114 : ez_wc (tz_nm 114) (tz_by 114) (tz_ml 114) (tz_re 114) (tz_hh 114) ∈ tz_tbl := tz_in (tz_cdm (List.mem_of_getElem? (i := 27) rfl)) rfl
theorem tz_wc_115 : ez_wc (tz_nm 115) (tz_by 115) (tz_ml 115) (tz_re 115) (tz_hh 115) ∈ tz_tbl := tz_in (tz_cdm (List.mem_of_getElem? (i := 28) rfl)) rfl
theorem tz_wc_116 : ez_wc (tz_nm 116) (tz_by 116) (tz_ml 116) (tz_re 116) (tz_hh 116) ∈ tz_tbl := tz_in (tz_cdm (List.mem_of_getElem? (i := 38) rfl)) rfl
theorem tz_wc_117 : ez_wc (tz_nm 117) (tz_by 117) (tz_ml 117) (tz_re 117) (tz_hh 117) ∈ tz_tbl := tz_in (tz_cdm (List.mem_of_getElem? (i := 42) rfl)) rfl
theorem tz_wc_118 : ez_wc (tz_nm 118) (tz_by 118) (tz_ml 118) (tz_re 118) (tz_hh 118) ∈ tz_tbl := tz_in (tz_cdm (List.mem_of_getElem? (i := 46) rfl)) rfl
theorem tz_wc_119 : ez_wc (tz_nm 119) (tz_by 119) (tz_ml 119) (tz_re 119) (tz_hh 119) ∈ tz_tbl := tz_in (tz_cdm (List.mem_of_getElem? (i := 66) rfl)) rfl
theorem tz_wc_120 : ez_wc (tz_nm 120) (tz_by 120) (tz_ml 120) (tz_re 120) (tz_hh 120) ∈ tz_tbl := tz_in (tz_cdm (List.mem_of_getElem? (i := 68) rfl)) rfl
theorem tz_wc_121 : ez_wc (tz_nm 121) (tz_by 121) (tz_ml 121) (tz_re 121) (tz_hh 121) ∈ tz_tbl := tz_in (tz_cdm (List.mem_of_getElem? (i := 70) rfl)) rfl
theorem tz_wc_122 : ez_wc (tz_nm 122) (tz_by 122) (tz_ml 122) (tz_re 122) (tz_hh 122) ∈ tz_tbl := tz_in (tz_cdm (List.mem_of_getElem? (i := 12) rfl)) rfl
theorem tz_wc_123 : ez_wc (tz_nm 123) (tz_by 123) (tz_ml 123) (tz_re 123) (tz_hh 123) ∈ tz_tbl := tz_in (tz_cdm (List.mem_of_getElem? (i := 40) rfl)) rfl
theorem tz_wc_124 : ez_wc (tz_nm 124) (tz_by 124) (tz_ml 124) (tz_re 124) (tz_hh 124) ∈ tz_tbl := tz_in (tz_cdm (List.mem_of_getElem? (i := 35) rfl)) rfl
theorem tz_wc_125 : ez_wc (tz_nm 125) (tz_by 125) (tz_ml 125) (tz_re 125) (tz_hh 125) ∈ tz_tbl := tz_in (tz_cdm (List.mem_of_getElem? (i := 39) rfl)) rfl
theorem tz_wc_126 : ez_wc (tz_nm 126) (tz_by 126) (tz_ml 126) (tz_re 126) (tz_hh 126) ∈ tz_tbl := tz_in (tz_cdm (List.mem_of_getElem? (i := 41) rfl)) rfl
theorem tz_wc_127 : ez_wc (tz_nm 127) (tz_by 127) (tz_ml 127) (tz_re 127) (tz_hh 127) ∈ tz_tbl := tz_in (tz_cdm (List.mem_of_getElem? (i := 2) rfl)) rfl
theorem tz_wc_128 : ez_wc (tz_nm 128) (tz_by 128) (tz_ml 128) (tz_re 128) (tz_hh 128) ∈ tz_tbl := tz_in (tz_cdm (List.mem_of_getElem? (i := 24) rfl)) rfl
theorem tz_wc_129 : ez_wc (tz_nm 129) (tz_by 129) (tz_ml 129) (tz_re 129) (tz_hh 129) ∈ tz_tbl := tz_in (tz_cdm (List.mem_of_getElem? (i := 21) rfl)) rfl
theorem tz_wc_130 : ez_wc (tz_nm 130) (tz_by 130) (tz_ml 130) (tz_re 130) (tz_hh 130) ∈ tz_tbl := tz_in (tz_cdm (List.mem_of_getElem? (i := 74) rfl)) rfl
theorem tz_wc_131 : ez_wc (tz_nm 131) (tz_by 131) (tz_ml 131) (tz_re 131) (tz_hh 131) ∈ tz_tbl := tz_in (tz_cdm (List.mem_of_getElem? (i := 17) rfl)) rfl
theorem tz_wc_132 : ez_wc (tz_nm 132) (tz_by 132) (tz_ml 132) (tz_re 132) (tz_hh 132) ∈ tz_tbl := tz_in (tz_cdm (List.mem_of_getElem? (i := 94) rfl)) rfl
theorem tz_wc_133 : ez_wc (tz_nm 133) (tz_by 133) (tz_ml 133) (tz_re 133) (tz_hh 133) ∈ tz_tbl := tz_in (tz_cdm (List.mem_of_getElem? (i := 95) rfl)) rfl
theorem tz_wc_134 : ez_wc (tz_nm 134) (tz_by 134) (tz_ml 134) (tz_re 134) (tz_hh 134) ∈ tz_tbl := tz_in (tz_cdm (List.mem_of_getElem? (i := 99) rfl)) rfl
theorem tz_wc_135 : ez_wc (tz_nm 135) (tz_by 135) (tz_ml 135) (tz_re 135) (tz_hh 135) ∈ tz_tbl := tz_in (tz_cdm (List.mem_of_getElem? (i := 104) rfl)) rfl
theorem tz_wc_136 : ez_wc (tz_nm 136) (tz_by 136) (tz_ml 136) (tz_re 136) (tz_hh 136) ∈ tz_tbl := tz_in (tz_cdm (List.mem_of_getElem? (i := 105) rfl)) rfl
theorem tz_wc_137 : ez_wc (tz_nm 137) (tz_by 137) (tz_ml 137) (tz_re 137) (tz_hh 137) ∈ tz_tbl := tz_in (tz_cdm (List.mem_of_getElem? (i := 107) rfl)) rfl
theorem tz_wc_138 : ez_wc (tz_nm 138) (tz_by 138) (tz_ml 138) (tz_re 138) (tz_hh 138) ∈ tz_tbl := tz_in (tz_cdm (List.mem_of_getElem? (i := 101) rfl)) rfl
theorem tz_wc_139 : ez_wc (tz_nm 139) (tz_by 139) (tz_ml 139) (tz_re 139) (tz_hh 139) ∈ tz_tbl := tz_in (tz_cdm (List.mem_of_getElem? (i := 103) rfl)) rfl
theorem tz_wc_140 : ez_wc (tz_nm 140) (tz_by 140) (tz_ml 140) (tz_re 140) (tz_hh 140) ∈ tz_tbl := tz_in (tz_cdm (List.mem_of_getElem? (i := 100) rfl)) rfl
theorem tz_wc_141 : ez_wc (tz_nm 141) (tz_by 141) (tz_ml 141) (tz_re 141) (tz_hh 141) ∈ tz_tbl := tz_in (tz_cdm (List.mem_of_getElem? (i := 102) rfl)) rfl
theorem tz_wc_142 : ez_wc (tz_nm 142) (tz_by 142) (tz_ml 142) (tz_re 142) (tz_hh 142) ∈ tz_tbl := tz_in (tz_cdm (List.mem_of_getElem? (i := 96) rfl)) rfl
theorem tz_wc_143 : ez_wc (tz_nm 143) (tz_by 143) (tz_ml 143) (tz_re 143) (tz_hh 143) ∈ tz_tbl := tz_in (tz_cdm (List.mem_of_getElem? (i := 97) rfl)) rfl
theorem tz_wc_144 : ez_wc (tz_nm 144) (tz_by 144) (tz_ml 144) (tz_re 144) (tz_hh 144) ∈ tz_tbl := tz_in (tz_cdm (List.mem_of_getElem? (i := 85) rfl)) rfl
theorem tz_wc_145 : ez_wc (tz_nm 145) (tz_by 145) (tz_ml 145) (tz_re 145) (tz_hh 145) ∈ tz_tbl := tz_in (tz_cdm (List.mem_of_getElem? (i := 92) rfl)) rfl
theorem tz_wc_146 : ez_wc (tz_nm 146) (tz_by 146) (tz_ml 146) (tz_re 146) (tz_hh 146) ∈ tz_tbl := tz_in (tz_cdm (List.mem_of_getElem? (i := 110) rfl)) rfl
theorem tz_wc_147 : ez_wc (tz_nm 147) (tz_by 147) (tz_ml 147) (tz_re 147) (tz_hh 147) ∈ tz_tbl := tz_in (tz_cdm (List.mem_of_getElem? (i := 113) rfl)) rfl
theorem tz_wc_148 : ez_wc (tz_nm 148) (tz_by 148) (tz_ml 148) (tz_re 148) (tz_hh 148) ∈ tz_tbl := tz_in (tz_cdm (List.mem_of_getElem? (i := 6) rfl)) rfl
theorem tz_wc : ∀ a, a < 149 → ez_wc (tz_nm a) (tz_by a) (tz_ml a) (tz_re a) (tz_hh a) ∈ tz_tbl
  | 0, _ => tz_wc_0
  | 1, _ => tz_wc_1
  | 2, _ => tz_wc_2
  | 3, _ => tz_wc_3
  | 4, _ => tz_wc_4
  | 5, _ => tz_wc_5
  | 6, _ => tz_wc_6
  | 7, _ => tz_wc_7
  | 8, _ => tz_wc_8
  | 9, _ => tz_wc_9
  | 10, _ => tz_wc_10
  | 11, _ => tz_wc_11
  | 12, _ => tz_wc_12
  | 13, _ => tz_wc_13
  | 14, _ => tz_wc_14
  | 15, _ => tz_wc_15
  | 16, _ => tz_wc_16
  | 17, _ => tz_wc_17
  | 18, _ => tz_wc_18
  | 19, _ => tz_wc_19
  | 20, _ => tz_wc_20
  | 21, _ => tz_wc_21
  | 22, _ => tz_wc_22
  | 23, _ => tz_wc_23
  | 24, _ => tz_wc_24
  | 25, _ => tz_wc_25
  | 26, _ => tz_wc_26
  | 27, _ => tz_wc_27
  | 28, _ => tz_wc_28
  | 29, _ => tz_wc_29
  | 30, _ => tz_wc_30
  | 31, _ => tz_wc_31
  | 32, _ => tz_wc_32
  | 33, _ => tz_wc_33
  | 34, _ => tz_wc_34
  | 35, _ => tz_wc_35
  | 36, _ => tz_wc_36
  | 37, _ => tz_wc_37
  | 38, _ => tz_wc_38
  | 39, _ => tz_wc_39
  | 40, _ => tz_wc_40
  | 41, _ => tz_wc_41
  | 42, _ => tz_wc_42
  | 43, _ => tz_wc_43
  | 44, _ => tz_wc_44
  | 45, _ => tz_wc_45
  | 46, _ => tz_wc_46
  | 47, _ => tz_wc_47
  | 48, _ => tz_wc_48
  | 49, _ => tz_wc_49
  | 50, _ => tz_wc_50
  | 51, _ => tz_wc_51
  | 52, _ => tz_wc_52
  | 53, _ => tz_wc_53
  | 54, _ => tz_wc_54
  | 55, _ => tz_wc_55
  | 56, _ => tz_wc_56
  | 57, _ => tz_wc_57
  | 58, _ => tz_wc_58
  | 59, _ => tz_wc_59
  | 60, _ => tz_wc_60
  | 61, _ => tz_wc_61
  | 62, _ => tz_wc_62
  | 63, _ => tz_wc_63
  | 64, _ => tz_wc_64
  | 65, _ => tz_wc_65
  | 66, _ => tz_wc_66
  | 67, _ => tz_wc_67
  | 68, _ => tz_wc_68
  | 69, _ => tz_wc_69
  | 70, _ => tz_wc_70
  | 71, _ => tz_wc_71
  | 72, _ => tz_wc_72
  | 73, _ => tz_wc_73
  | 74, _ => tz_wc_74
  | 75, _ => tz_wc_75
  | 76, _ => tz_wc_76
  | 77, _ => tz_wc_77
  | 78, _ => tz_wc_78
  | 79, _ => tz_wc_79
  | 80, _ => tz_wc_80
  | 81, _ => tz_wc_81
  | 82, _ => tz_wc_82
  | 83, _ => tz_wc_83
  | 84, _ => tz_wc_84
  | 85, _ => tz_wc_85
  | 86, _ => tz_wc_86
  | 87, _ => tz_wc_87
  | 88, _ => tz_wc_88
  | 89, _ => tz_wc_89
  | 90, _ => tz_wc_90
  | 91, _ => tz_wc_91
  | 92, _ => tz_wc_92
  | 93, _ => tz_wc_93
  | 94, _ => tz_wc_94
  | 95, _ => tz_wc_95
  | 96, _ => tz_wc_96
  | 97, _ => tz_wc_97
  | 98, _ => tz_wc_98
  | 99, _ => tz_wc_99
  | 100, _ => tz_wc_100
  | 101, _ => tz_wc_101
  | 102, _ => tz_wc_102
  | 103, _ => tz_wc_103
  | 104, _ => tz_wc_104
  | 105, _ => tz_wc_105
  | 106, _ => tz_wc_106
  | 107, _ => tz_wc_107
  | 108, _ => tz_wc_108
  | 109, _ => tz_wc_109
  | 110, _ => tz_wc_110
  | 111, _ => tz_wc_111
  | 112, _ => tz_wc_112
  | 113, _ => tz_wc_113
  | 114, _ => tz_wc_114
  | 115, _ => tz_wc_115
  | 116, _ => tz_wc_116
  | 117, _ => tz_wc_117
  | 118, _ => tz_wc_118
  | 119, _ => tz_wc_119
  | 120, _ => tz_wc_120
  | 121, _ => tz_wc_121
  | 122, _ => tz_wc_122
  | 123, _ => tz_wc_123
  | 124, _ => tz_wc_124
  | 125, _ => tz_wc_125
  | 126, _ => tz_wc_126
  | 127, _ => tz_wc_127
  | 128, _ => tz_wc_128
  | 129, _ => tz_wc_129
  | 130, _ => tz_wc_130
  | 131, _ => tz_wc_131
  | 132, _ => tz_wc_132
  | 133, _ => tz_wc_133
  | 134, _ => tz_wc_134
  | 135, _ => tz_wc_135
  | 136, _ => tz_wc_136
  | 137, _ => tz_wc_137
  | 138, _ => tz_wc_138
  | 139, _ => tz_wc_139
  | 140, _ => tz_wc_140
  | 141, _ => tz_wc_141
  | 142, _ => tz_wc_142
  | 143, _ => tz_wc_143
  | 144, _ => tz_wc_144
  | 145, _ => tz_wc_145
  | 146, _ => tz_wc_146
  | 147, _ => tz_wc_147
  | 148, _ => tz_wc_148
  | n + 149, h => absurd h (by omega)
