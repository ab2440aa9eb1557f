/-! ===== the law, call by call ===== -/
set_option maxRecDepth 1000000 in
set_option maxHeartbeats 0 in
theorem rn_7_0 : (((av_cut (-2147483648) (lw_cuts 7)).drop 0).take 40).all (lw_ck 7) = true := by decide +kernel
set_option maxRecDepth 1000000 in
set_option maxHeartbeats 0 in
theorem rn_7_1 : (((av_cut (-2147483648) (lw_cuts 7)).drop 40).take 40).all (lw_ck 7) = true := by decide +kernel
set_option maxRecDepth 1000000 in
set_option maxHeartbeats 0 in
theorem rn_7_2 : (((av_cut (-2147483648) (lw_cuts 7)).drop 80).take 40).all (lw_ck 7) = true := by decide +kernel
set_option maxRecDepth 1000000 in
set_option maxHeartbeats 0 in
theorem rn_7_3 : (((av_cut (-2147483648) (lw_cuts 7)).drop 120).take 40).all (lw_ck 7) = true := by decide +kernel
set_option maxRecDepth 1000000 in
set_option maxHeartbeats 0 in
theorem rn_7_4 : (((av_cut (-2147483648) (lw_cuts 7)).drop 160).take 40).all (lw_ck 7) = true := by decide +kernel
set_option maxRecDepth 1000000 in
set_option maxHeartbeats 0 in
theorem rn_7_5 : (((av_cut (-2147483648) (lw_cuts 7)).drop 200).take 40).all (lw_ck 7) = true := by decide +kernel
set_option maxRecDepth 1000000 in
set_option maxHeartbeats 0 in
theorem rn_7_6 : (((av_cut (-2147483648) (lw_cuts 7)).drop 240).take 40).all (lw_ck 7) = true := by decide +kernel
set_option maxRecDepth 1000000 in
set_option maxHeartbeats 0 in
theorem rn_7_7 : (((av_cut (-2147483648) (lw_cuts 7)).drop 280).take 40).all (lw_ck 7) = true := by decide +kernel
set_option maxRecDepth 1000000 in
set_option maxHeartbeats 0 in
theorem rn_7_8 : (((av_cut (-2147483648) (lw_cuts 7)).drop 320).take 40).all (lw_ck 7) = true := by decide +kernel
set_option maxRecDepth 1000000 in
set_option maxHeartbeats 0 in
theorem rn_7_9 : (((av_cut (-2147483648) (lw_cuts 7)).drop 360).take 40).all (lw_ck 7) = true := by decide +kernel
set_option maxRecDepth 1000000 in
set_option maxHeartbeats 0 in
theorem rn_7_10 : (((av_cut (-2147483648) (lw_cuts 7)).drop 400).take 40).all (lw_ck 7) = true := by decide +kernel
set_option maxRecDepth 1000000 in
set_option maxHeartbeats 0 in
theorem rn_7_11 : (((av_cut (-2147483648) (lw_cuts 7)).drop 440).take 40).all (lw_ck 7) = true := by decide +kernel
set_option maxRecDepth 1000000 in
set_option maxHeartbeats 0 in
theorem rn_7_12 : (((av_cut (-2147483648) (lw_cuts 7)).drop 480).take 40).all (lw_ck 7) = true := by decide +kernel
set_option maxRecDepth 1000000 in
set_option maxHeartbeats 0 in
theorem rn_7_13 : (((av_cut (-2147483648) (lw_cuts 7)).drop 520).take 40).all (lw_ck 7) = true := by decide +kernel
theorem rn_7 : (av_cut (-2147483648) (lw_cuts 7)).all (lw_ck 7) = true := by
  have e : av_cut (-2147483648) (lw_cuts 7) = ((av_cut (-2147483648) (lw_cuts 7)).drop 0).take 40 ++ (((av_cut (-2147483648) (lw_cuts 7)).drop 40).take 40 ++ (((av_cut (-2147483648) (lw_cuts 7)).drop 80).take 40 ++ (((av_cut (-2147483648) (lw_cuts 7)).drop 120).take 40 ++ (((av_cut (-2147483648) (lw_cuts 7)).drop 160).take 40 ++ (((av_cut (-2147483648) (lw_cuts 7)).drop 200).take 40 ++ (((av_cut (-2147483648) (lw_cuts 7)).drop 240).take 40 ++ (((av_cut (-2147483648) (lw_cuts 7)).drop 280).take 40 ++ (((av_cut (-2147483648) (lw_cuts 7)).drop 320).take 40 ++ (((av_cut (-2147483648) (lw_cuts 7)).drop 360).take 40 ++ (((av_cut (-2147483648) (lw_cuts 7)).drop 400).take 40 ++ (((av_cut (-2147483648) (lw_cuts 7)).drop 440).take 40 ++ (((av_cut (-2147483648) (lw_cuts 7)).drop 480).take 40 ++ (((av_cut (-2147483648) (lw_cuts 7)).drop 520).take 40))))))))))))) := by decide +kernel
  rw [e]
  simp only [List.all_append, Bool.and_eq_true]
  exact ⟨rn_7_0, ⟨rn_7_1, ⟨rn_7_2, ⟨rn_7_3, ⟨rn_7_4, ⟨rn_7_5, ⟨rn_7_6, ⟨rn_7_7, ⟨rn_7_8, ⟨rn_7_9, ⟨rn_7_10, ⟨rn_7_11, ⟨rn_7_12, rn_7_13⟩⟩⟩⟩⟩⟩⟩⟩⟩⟩⟩⟩⟩
