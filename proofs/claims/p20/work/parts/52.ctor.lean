theorem run_1 : ev_vb (ev_nw 1 0 8 (0, 0, .num 0) (fun p S => ev_rn [] 1000000 9 0 [some (.var p), none, none, none] [] S)) gS1 = true := by decide +kernel
