/-! closed runs of one call on the new objects -/
theorem c_0 : lw_1 132 (lw_sc ev_top ev_top) = true := by decide +kernel
theorem c_1a : lw_1 203 (lw_sc lw_ng ev_top) = true := by decide +kernel
theorem c_1b : lw_1 203 (lw_sc (lw_fr 21) ev_top) = true := by decide +kernel
theorem c_1c : lw_1 203 (lw_sc (lw_to 20) (lw_iv 0 2147483648)) = true := by decide +kernel
theorem c_1d : lw_1 203 (lw_sc (lw_to 20) (lw_fr 101)) = true := by decide +kernel
theorem c_2a : lw_1 240 (lw_sc lw_ng ev_top) = true := by decide +kernel
theorem c_2b : lw_1 240 (lw_sc (lw_fr 1) ev_top) = true := by decide +kernel
theorem c_2c : lw_1 240 (lw_sc (.num 0) ev_top) = true := by decide +kernel
theorem c_3a : lw_1 265 (lw_sc lw_ng ev_top) = true := by decide +kernel
theorem c_3b : lw_1 265 (lw_sc (lw_fr 0) ev_top) = true := by decide +kernel
theorem c_4 : lw_1 302 (lw_sc ev_top ev_top) = true := by decide +kernel
theorem c_5 : lw_1 346 (lw_sc ev_top ev_top) = true := by decide +kernel
theorem c_7 : lw_1 372 (lw_sc ev_top ev_top) = true := by decide +kernel
theorem c_8a : lw_1 385 (lw_sc lw_ng ev_top) = true := by decide +kernel
theorem c_8b : lw_1 385 (lw_sc (lw_fr 0) ev_top) = true := by decide +kernel
theorem c_9 : lw_1 422 (lw_sc ev_top ev_top) = true := by decide +kernel
theorem c_10a : lw_1 435 (lw_sc lw_ng ev_top) = true := by decide +kernel
theorem c_10b : lw_1 435 (lw_sc (lw_fr 0) ev_top) = true := by decide +kernel
theorem c_11a : lw_1 472 (lw_sc lw_ng ev_top) = true := by decide +kernel
theorem c_11b : lw_1 472 (lw_sc (lw_fr 0) ev_top) = true := by decide +kernel
theorem c_12 : lw_1 521 (lw_sc ev_top ev_top) = true := by decide +kernel
theorem c_13a : lw_1 565 (lw_sc lw_ng ev_top) = true := by decide +kernel
theorem c_13b : lw_1 565 (lw_sc (.num 0) ev_top) = true := by decide +kernel
theorem c_13c : lw_1 565 (lw_sc (.num 1) ev_top) = true := by decide +kernel
theorem c_13d : lw_1 565 (lw_sc (lw_fr 2) ev_top) = true := by decide +kernel
theorem c_14a : lw_1 590 (lw_sc lw_ng ev_top) = true := by decide +kernel
theorem c_14b : lw_1 590 (lw_sc (lw_fr 0) ev_top) = true := by decide +kernel
theorem c_15a : lw_1 615 (lw_sc lw_ng ev_top) = true := by decide +kernel
theorem c_15b : lw_1 615 (lw_sc (lw_fr 64) ev_top) = true := by decide +kernel
theorem c_15c : lw_1 615 (lw_sc (lw_to 63) lw_ng) = true := by decide +kernel
theorem c_15d : lw_1 615 (lw_sc (lw_to 63) (lw_fr 1000001)) = true := by decide +kernel
theorem c_15e : (List.range 64).all (fun n => lw_1 615 (lw_sc (.num n) (lw_to 1000000))) = true := by decide +kernel
theorem c_16a : lw_1 663 (lw_sc (lw_iv 0 2147483648) ev_top) = true := by decide +kernel
theorem c_16b : lw_1 663 (lw_sc (lw_fr 16) ev_top) = true := by decide +kernel
theorem c_17a : lw_1 719 (lw_sc lw_ng ev_top) = true := by decide +kernel
theorem c_17b : lw_1 719 (lw_sc (lw_fr 64) ev_top) = true := by decide +kernel
theorem c_17c : (List.range 64).all (fun n => lw_1 719 (lw_sc (.num n) ev_top)) = true := by decide +kernel
theorem c_18a : lw_1 744 (lw_sc lw_ng ev_top) = true := by decide +kernel
theorem c_18b : lw_1 744 (lw_sc (.num 0) ev_top) = true := by decide +kernel
theorem c_18c : lw_1 744 (lw_sc (.num 1) ev_top) = true := by decide +kernel
theorem c_18d : lw_1 744 (lw_sc (lw_fr 2) ev_top) = true := by decide +kernel
theorem c_19 : lw_1 769 (lw_sc ev_top ev_top) = true := by decide +kernel
