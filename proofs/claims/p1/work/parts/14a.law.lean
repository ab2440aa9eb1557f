/-! ===== the law, call by call ===== -/
set_option maxRecDepth 1000000 in
set_option maxHeartbeats 0 in
theorem rn_0 : (av_cut (-2147483648) (lw_cuts 0)).all (lw_ck 0) = true := by decide +kernel
set_option maxRecDepth 1000000 in
set_option maxHeartbeats 0 in
theorem rn_2 : (av_cut (-2147483648) (lw_cuts 2)).all (lw_ck 2) = true := by decide +kernel
set_option maxRecDepth 1000000 in
set_option maxHeartbeats 0 in
theorem rn_3 : (av_cut (-2147483648) (lw_cuts 3)).all (lw_ck 3) = true := by decide +kernel
set_option maxRecDepth 1000000 in
set_option maxHeartbeats 0 in
theorem rn_5 : (av_cut (-2147483648) (lw_cuts 5)).all (lw_ck 5) = true := by decide +kernel
set_option maxRecDepth 1000000 in
set_option maxHeartbeats 0 in
theorem rn_6 : (av_cut (-2147483648) (lw_cuts 6)).all (lw_ck 6) = true := by decide +kernel
set_option maxRecDepth 1000000 in
set_option maxHeartbeats 0 in
theorem rn_8 : (av_cut (-2147483648) (lw_cuts 8)).all (lw_ck 8) = true := by decide +kernel
set_option maxRecDepth 1000000 in
set_option maxHeartbeats 0 in
theorem rn_9 : (av_cut (-2147483648) (lw_cuts 9)).all (lw_ck 9) = true := by decide +kernel
set_option maxRecDepth 1000000 in
set_option maxHeartbeats 0 in
theorem rn_10 : (av_cut (-2147483648) (lw_cuts 10)).all (lw_ck 10) = true := by decide +kernel
set_option maxRecDepth 1000000 in
set_option maxHeartbeats 0 in
theorem rn_11 : (av_cut (-2147483648) (lw_cuts 11)).all (lw_ck 11) = true := by decide +kernel
set_option maxRecDepth 1000000 in
set_option maxHeartbeats 0 in
theorem rn_12 : (av_cut (-2147483648) (lw_cuts 12)).all (lw_ck 12) = true := by decide +kernel
set_option maxRecDepth 1000000 in
set_option maxHeartbeats 0 in
theorem rn_13 : (av_cut (-2147483648) (lw_cuts 13)).all (lw_ck 13) = true := by decide +kernel
set_option maxRecDepth 1000000 in
set_option maxHeartbeats 0 in
theorem rn_14 : (av_cut (-2147483648) (lw_cuts 14)).all (lw_ck 14) = true := by decide +kernel
set_option maxRecDepth 1000000 in
set_option maxHeartbeats 0 in
theorem rn_15 : (av_cut (-2147483648) (lw_cuts 15)).all (lw_ck 15) = true := by decide +kernel
set_option maxRecDepth 1000000 in
set_option maxHeartbeats 0 in
theorem rn_16 : (av_cut (-2147483648) (lw_cuts 16)).all (lw_ck 16) = true := by decide +kernel
set_option maxRecDepth 1000000 in
set_option maxHeartbeats 0 in
theorem rn_17 : (av_cut (-2147483648) (lw_cuts 17)).all (lw_ck 17) = true := by decide +kernel
set_option maxRecDepth 1000000 in
set_option maxHeartbeats 0 in
theorem rn_18 : (av_cut (-2147483648) (lw_cuts 18)).all (lw_ck 18) = true := by decide +kernel
set_option maxRecDepth 1000000 in
set_option maxHeartbeats 0 in
theorem rn_19 : (av_cut (-2147483648) (lw_cuts 19)).all (lw_ck 19) = true := by decide +kernel
set_option maxRecDepth 1000000 in
set_option maxHeartbeats 0 in
theorem rn_20 : (av_cut (-2147483648) (lw_cuts 20)).all (lw_ck 20) = true := by decide +kernel
set_option maxRecDepth 1000000 in
set_option maxHeartbeats 0 in
theorem rn_21 : (av_cut (-2147483648) (lw_cuts 21)).all (lw_ck 21) = true := by decide +kernel
set_option maxRecDepth 1000000 in
set_option maxHeartbeats 0 in
theorem rn_22 : (av_cut (-2147483648) (lw_cuts 22)).all (lw_ck 22) = true := by decide +kernel
set_option maxRecDepth 1000000 in
set_option maxHeartbeats 0 in
theorem rn_23 : (av_cut (-2147483648) (lw_cuts 23)).all (lw_ck 23) = true := by decide +kernel
set_option maxRecDepth 1000000 in
set_option maxHeartbeats 0 in
theorem rn_24 : (av_cut (-2147483648) (lw_cuts 24)).all (lw_ck 24) = true := by decide +kernel
set_option maxRecDepth 1000000 in
set_option maxHeartbeats 0 in
theorem rn_25 : (av_cut (-2147483648) (lw_cuts 25)).all (lw_ck 25) = true := by decide +kernel
set_option maxRecDepth 1000000 in
set_option maxHeartbeats 0 in
theorem rn_26 : (av_cut (-2147483648) (lw_cuts 26)).all (lw_ck 26) = true := by decide +kernel
set_option maxRecDepth 1000000 in
set_option maxHeartbeats 0 in
theorem rn_27 : (av_cut (-2147483648) (lw_cuts 27)).all (lw_ck 27) = true := by decide +kernel
set_option maxRecDepth 1000000 in
set_option maxHeartbeats 0 in
theorem rn_28 : (av_cut (-2147483648) (lw_cuts 28)).all (lw_ck 28) = true := by decide +kernel
set_option maxRecDepth 1000000 in
set_option maxHeartbeats 0 in
theorem rn_29 : (av_cut (-2147483648) (lw_cuts 29)).all (lw_ck 29) = true := by decide +kernel
set_option maxRecDepth 1000000 in
set_option maxHeartbeats 0 in
theorem rn_30 : (av_cut (-2147483648) (lw_cuts 30)).all (lw_ck 30) = true := by decide +kernel
set_option maxRecDepth 1000000 in
set_option maxHeartbeats 0 in
theorem rn_31 : (av_cut (-2147483648) (lw_cuts 31)).all (lw_ck 31) = true := by decide +kernel
set_option maxRecDepth 1000000 in
set_option maxHeartbeats 0 in
theorem rn_32 : (av_cut (-2147483648) (lw_cuts 32)).all (lw_ck 32) = true := by decide +kernel
set_option maxRecDepth 1000000 in
set_option maxHeartbeats 0 in
theorem rn_33 : (av_cut (-2147483648) (lw_cuts 33)).all (lw_ck 33) = true := by decide +kernel
set_option maxRecDepth 1000000 in
set_option maxHeartbeats 0 in
theorem rn_34 : (av_cut (-2147483648) (lw_cuts 34)).all (lw_ck 34) = true := by decide +kernel
set_option maxRecDepth 1000000 in
set_option maxHeartbeats 0 in
theorem rn_35 : (av_cut (-2147483648) (lw_cuts 35)).all (lw_ck 35) = true := by decide +kernel
set_option maxRecDepth 1000000 in
set_option maxHeartbeats 0 in
theorem rn_36 : (av_cut (-2147483648) (lw_cuts 36)).all (lw_ck 36) = true := by decide +kernel
set_option maxRecDepth 1000000 in
set_option maxHeartbeats 0 in
theorem rn_37 : (av_cut (-2147483648) (lw_cuts 37)).all (lw_ck 37) = true := by decide +kernel
set_option maxRecDepth 1000000 in
set_option maxHeartbeats 0 in
theorem rn_38 : (av_cut (-2147483648) (lw_cuts 38)).all (lw_ck 38) = true := by decide +kernel
set_option maxRecDepth 1000000 in
set_option maxHeartbeats 0 in
theorem rn_39 : (av_cut (-2147483648) (lw_cuts 39)).all (lw_ck 39) = true := by decide +kernel
set_option maxRecDepth 1000000 in
set_option maxHeartbeats 0 in
theorem rn_40 : (av_cut (-2147483648) (lw_cuts 40)).all (lw_ck 40) = true := by decide +kernel
set_option maxRecDepth 1000000 in
set_option maxHeartbeats 0 in
theorem rn_41 : (av_cut (-2147483648) (lw_cuts 41)).all (lw_ck 41) = true := by decide +kernel
set_option maxRecDepth 1000000 in
set_option maxHeartbeats 0 in
theorem rn_42 : (av_cut (-2147483648) (lw_cuts 42)).all (lw_ck 42) = true := by decide +kernel
set_option maxRecDepth 1000000 in
set_option maxHeartbeats 0 in
theorem rn_43 : (av_cut (-2147483648) (lw_cuts 43)).all (lw_ck 43) = true := by decide +kernel
set_option maxRecDepth 1000000 in
set_option maxHeartbeats 0 in
theorem rn_44 : (av_cut (-2147483648) (lw_cuts 44)).all (lw_ck 44) = true := by decide +kernel
set_option maxRecDepth 1000000 in
set_option maxHeartbeats 0 in
theorem rn_45 : (av_cut (-2147483648) (lw_cuts 45)).all (lw_ck 45) = true := by decide +kernel
set_option maxRecDepth 1000000 in
set_option maxHeartbeats 0 in
theorem rn_46 : (av_cut (-2147483648) (lw_cuts 46)).all (lw_ck 46) = true := by decide +kernel
set_option maxRecDepth 1000000 in
set_option maxHeartbeats 0 in
theorem rn_47 : (av_cut (-2147483648) (lw_cuts 47)).all (lw_ck 47) = true := by decide +kernel
set_option maxRecDepth 1000000 in
set_option maxHeartbeats 0 in
theorem rn_48 : (av_cut (-2147483648) (lw_cuts 48)).all (lw_ck 48) = true := by decide +kernel
set_option maxRecDepth 1000000 in
set_option maxHeartbeats 0 in
theorem rn_49 : (av_cut (-2147483648) (lw_cuts 49)).all (lw_ck 49) = true := by decide +kernel
set_option maxRecDepth 1000000 in
set_option maxHeartbeats 0 in
theorem rn_50 : (av_cut (-2147483648) (lw_cuts 50)).all (lw_ck 50) = true := by decide +kernel
set_option maxRecDepth 1000000 in
set_option maxHeartbeats 0 in
theorem rn_51 : (av_cut (-2147483648) (lw_cuts 51)).all (lw_ck 51) = true := by decide +kernel
set_option maxRecDepth 1000000 in
set_option maxHeartbeats 0 in
theorem rn_52 : (av_cut (-2147483648) (lw_cuts 52)).all (lw_ck 52) = true := by decide +kernel
set_option maxRecDepth 1000000 in
set_option maxHeartbeats 0 in
theorem rn_53 : (av_cut (-2147483648) (lw_cuts 53)).all (lw_ck 53) = true := by decide +kernel
set_option maxRecDepth 1000000 in
set_option maxHeartbeats 0 in
theorem rn_54 : (av_cut (-2147483648) (lw_cuts 54)).all (lw_ck 54) = true := by decide +kernel
set_option maxRecDepth 1000000 in
set_option maxHeartbeats 0 in
theorem rn_55 : (av_cut (-2147483648) (lw_cuts 55)).all (lw_ck 55) = true := by decide +kernel
set_option maxRecDepth 1000000 in
set_option maxHeartbeats 0 in
theorem rn_56 : (av_cut (-2147483648) (lw_cuts 56)).all (lw_ck 56) = true := by decide +kernel
set_option maxRecDepth 1000000 in
set_option maxHeartbeats 0 in
theorem rn_57 : (av_cut (-2147483648) (lw_cuts 57)).all (lw_ck 57) = true := by decide +kernel
set_option maxRecDepth 1000000 in
set_option maxHeartbeats 0 in
theorem rn_58 : (av_cut (-2147483648) (lw_cuts 58)).all (lw_ck 58) = true := by decide +kernel
set_option maxRecDepth 1000000 in
set_option maxHeartbeats 0 in
theorem rn_59 : (av_cut (-2147483648) (lw_cuts 59)).all (lw_ck 59) = true := by decide +kernel
set_option maxRecDepth 1000000 in
set_option maxHeartbeats 0 in
theorem rn_60 : (av_cut (-2147483648) (lw_cuts 60)).all (lw_ck 60) = true := by decide +kernel
set_option maxRecDepth 1000000 in
set_option maxHeartbeats 0 in
theorem rn_61 : (av_cut (-2147483648) (lw_cuts 61)).all (lw_ck 61) = true := by decide +kernel
set_option maxRecDepth 1000000 in
set_option maxHeartbeats 0 in
theorem rn_62 : (av_cut (-2147483648) (lw_cuts 62)).all (lw_ck 62) = true := by decide +kernel
set_option maxRecDepth 1000000 in
set_option maxHeartbeats 0 in
theorem rn_63 : (av_cut (-2147483648) (lw_cuts 63)).all (lw_ck 63) = true := by decide +kernel
