set_option maxRecDepth 1000000 in
set_option maxHeartbeats 0 in
theorem rn_X12 : cv_isv (cv_fst fk_all mt_all 25000 lg_X0 154 op_X12_init (0, [(0, cv_r 111)], [], hp_c ++ [ob_12], 0, 0)) (hp_c ++ hp_d) = true := by decide +kernel
