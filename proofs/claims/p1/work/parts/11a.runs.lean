/-! ===== the constructors run ===== -/
set_option maxRecDepth 1000000 in
set_option maxHeartbeats 0 in
theorem rn_X11 : av_isv (av_run fk_all mt_all 20000 (wd_bytes, none) 28 op_X11_init (0, [(0, av_r 0)], [], [ob_11], 0, 0)) hp_1 = true := by decide +kernel
set_option maxRecDepth 1000000 in
set_option maxHeartbeats 0 in
theorem rn_X12 : av_isv (av_run fk_all mt_all 20000 (wd_bytes, none) 71 op_X12_init (0, [(0, av_r 111)], [], hp_1 ++ [ob_12], 0, 0)) hp_2 = true := by decide +kernel
