/-- the owed statement, out of the law's run in the pure machine -/
theorem i_vc : Claimed_1_1 ∧ Claimed_1_2 := tz_claim (fun _ _ hL => lw_law hL)
