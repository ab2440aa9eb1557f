/-! ===== the class's constructor runs, piece by piece ===== -/
set_option maxRecDepth 1000000 in
set_option maxHeartbeats 0 in
theorem sg_1 : cv_isS (cv_stp fk_all mt_all 30000 23 lg_X0 106 (op_X11_init) (0, [(0, cv_r 0)], [], [ob_11], 0, 0)) (48, [(0, cv_r 0)], [cv_r 26, cv_r 1, cv_r 50, cv_r 50, cv_r 0], hq_1, 50, 1442) = true := by decide +kernel
set_option maxRecDepth 1000000 in
set_option maxHeartbeats 0 in
theorem sg_2 : cv_isS (cv_stp fk_all mt_all 30000 9 lg_X0 59 (op_X5_init) (0, [(0, cv_r 50), (1, cv_r 1), (2, cv_r 26)], [], hq_1, 0, 0)) (15, [(0, cv_r 50), (1, cv_r 1), (2, cv_r 26)], [cv_r 1, cv_r 51, cv_r 51, cv_r 50], hq_2, 1, 7) = true := by decide +kernel
set_option maxRecDepth 1000000 in
set_option maxHeartbeats 0 in
theorem sg_3 : cv_isS (cv_stp fk_all mt_all 30000 929 lg_X0 75 (op_X6_init) (0, [(0, cv_r 51), (1, cv_r 1)], [], hq_2, 0, 0)) (49, [(5, cv_i 110), (4, cv_i 35), (3, cv_i 3), (2, cv_i 6), (0, cv_r 51), (1, cv_r 1)], [], hq_3, 1, 34) = true := by decide +kernel
set_option maxRecDepth 1000000 in
set_option maxHeartbeats 0 in
theorem sg_4 : cv_isS (cv_stp fk_all mt_all 30000 936 lg_X0 75 (cv_from 49 op_X6_init) (49, [(5, cv_i 110), (4, cv_i 35), (3, cv_i 3), (2, cv_i 6), (0, cv_r 51), (1, cv_r 1)], [], hq_3, 1, 34)) (79, [(5, cv_i 99), (4, cv_i 71), (3, cv_i 0), (2, cv_i 13), (0, cv_r 51), (1, cv_r 1)], [], hq_4, 1, 34) = true := by decide +kernel
