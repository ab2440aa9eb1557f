/-! ===== the law, call by call ===== -/
set_option maxRecDepth 1000000 in
set_option maxHeartbeats 0 in
theorem rn_1 : (av_cut (-2147483648) (lw_cuts 1)).all (lw_ck 1) = true := by decide +kernel
set_option maxRecDepth 1000000 in
set_option maxHeartbeats 0 in
theorem rn_4 : (av_cut (-2147483648) (lw_cuts 4)).all lw_ck4 = true := by decide +kernel
