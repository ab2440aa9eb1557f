set_option maxRecDepth 1000000 in
set_option maxHeartbeats 0 in
theorem sg_5 : cv_isS (cv_stp fk_all mt_all 30000 930 lg_X0 75 (cv_from 79 op_X6_init) (79, [(5, cv_i 99), (4, cv_i 71), (3, cv_i 0), (2, cv_i 13), (0, cv_r 51), (1, cv_r 1)], [], hq_4, 1, 34)) (34, [(4, cv_i 108), (3, cv_i 3), (5, cv_i 114), (2, cv_i 20), (0, cv_r 51), (1, cv_r 1)], [], hq_5, 1, 34) = true := by decide +kernel
set_option maxRecDepth 1000000 in
set_option maxHeartbeats 0 in
theorem sg_6 : cv_isS (cv_stp fk_all mt_all 30000 926 lg_X0 75 (cv_from 34 op_X6_init) (34, [(4, cv_i 108), (3, cv_i 3), (5, cv_i 114), (2, cv_i 20), (0, cv_r 51), (1, cv_r 1)], [], hq_5, 1, 34)) (24, [(4, cv_i 144), (3, cv_i 4), (5, cv_i 112), (2, cv_i 26), (0, cv_r 51), (1, cv_r 1)], [], hq_6, 1, 34) = true := by decide +kernel
set_option maxRecDepth 1000000 in
set_option maxHeartbeats 0 in
theorem sg_7 : cv_isS (cv_stp fk_all mt_all 30000 839 lg_X0 75 (cv_from 24 op_X6_init) (24, [(4, cv_i 144), (3, cv_i 4), (5, cv_i 112), (2, cv_i 26), (0, cv_r 51), (1, cv_r 1)], [], hq_6, 1, 34)) (88, [(4, cv_i 177), (3, cv_i 0), (2, cv_i 34), (5, cv_i 32), (0, cv_r 51), (1, cv_r 1)], [], hq_7, 1, 34) = true := by decide +kernel
set_option maxRecDepth 1000000 in
set_option maxHeartbeats 0 in
theorem sg_8 : cv_isS (cv_stp fk_all mt_all 30000 12 lg_X0 59 (cv_from 18 op_X5_init) (18, [(0, cv_r 50), (1, cv_r 1), (2, cv_r 26)], [cv_r 51, cv_r 50], hq_7, 2, 41)) (42, [(0, cv_r 50), (1, cv_r 1), (2, cv_r 26)], [], hq_8, 4, 122) = true := by decide +kernel
set_option maxRecDepth 1000000 in
set_option maxHeartbeats 0 in
theorem sg_9 : cv_isS (cv_stp fk_all mt_all 30000 150 lg_X0 106 (cv_from 51 op_X11_init) (51, [(0, cv_r 0)], [cv_r 50, cv_r 0], hq_8, 54, 1564)) (211, [(1, cv_i 4), (0, cv_r 0)], [], hp_c, 110, 2623) = true := by decide +kernel
