theorem run_2 : ev_vb (ev_nw 2 0 70 gS1 (fun p S => ev_rn [] 1000000 9 24 (some (.var p) :: List.replicate (tz_ml 24 - 1) none) [] S)) gS2 = true := by decide +kernel
theorem run_3 : ev_vb (ev_nw 1002 1 1 gS2 (fun p S => some (.inl none, S))) gS3 = true := by decide +kernel
