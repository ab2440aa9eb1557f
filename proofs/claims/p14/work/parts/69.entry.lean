/-! ===== the constructors as contracts; the law from its entry to its first turn ===== -/
theorem lg_X0_no2 : cv_no2 lg_X0 = lg_X0 := by
  funext j
  unfold cv_no2
  match j with
  | 0 => rfl
  | 1 => rfl
  | 2 => rfl
  | j + 3 => rfl
def lg_X (xs : List Int32) : cv_X := fun j => bif j == 2 then some xs else lg_X0 j
theorem lg_X_no2 (xs : List Int32) : cv_no2 (lg_X xs) = lg_X0 := by
  funext j
  unfold cv_no2 lg_X
  match j with
  | 0 => rfl
  | 1 => rfl
  | 2 => rfl
  | j + 3 => rfl
theorem lg_Xok (xs : List Int32) : cw_Xok (lg_X xs) := by
  intro j hj
  rcases hj with rfl | rfl
  · exact ⟨wd_cos, rfl, rfl⟩
  · exact ⟨wd_sin, rfl, rfl⟩
section MX
variable {D : va_G} {cy : Nat → ClassId} {A : Nat → Prop} {sv : Nat → Value} {l : Launch} {X : cv_X}
set_option maxRecDepth 20000 in
theorem mx_6 (hsv : ∀ j, sv j = .null ∨ ∃ a, sv j = .ref a) (hX : cv_no2 X = lg_X0) : cv_Met cv_T vwCl D cy A sv l X (mt_all 75) [cv_r 51, cv_r 1] hq_2 (none, hq_7) := by
  refine cv_met_ok hsv okm_X6_init (by decide +kernel) (fun as0 p e R s m args below meth c C1 => ?_)
  rw [hX] at C1
  exact cv_stp_ok al_all 929 lg_X0 75 _ (0, [(0, cv_r 51), (1, cv_r 1)], [], hq_2, 0, 0) (49, [(5, cv_i 110), (4, cv_i 35), (3, cv_i 3), (2, cv_i 6), (0, cv_r 51), (1, cv_r 1)], [], hq_3, 1, 34) (cv_isS_ok sg_3) (fun q h => h) as0 p e R s m args below meth c _ C1 (cv_stp_ok al_all 936 lg_X0 75 _ (49, [(5, cv_i 110), (4, cv_i 35), (3, cv_i 3), (2, cv_i 6), (0, cv_r 51), (1, cv_r 1)], [], hq_3, 1, 34) (79, [(5, cv_i 99), (4, cv_i 71), (3, cv_i 0), (2, cv_i 13), (0, cv_r 51), (1, cv_r 1)], [], hq_4, 1, 34) (cv_isS_ok sg_4) (fun q h => cv_from_mem h) as0 p e R s m args below meth c _ C1 (cv_stp_ok al_all 930 lg_X0 75 _ (79, [(5, cv_i 99), (4, cv_i 71), (3, cv_i 0), (2, cv_i 13), (0, cv_r 51), (1, cv_r 1)], [], hq_4, 1, 34) (34, [(4, cv_i 108), (3, cv_i 3), (5, cv_i 114), (2, cv_i 20), (0, cv_r 51), (1, cv_r 1)], [], hq_5, 1, 34) (cv_isS_ok sg_5) (fun q h => cv_from_mem h) as0 p e R s m args below meth c _ C1 (cv_stp_ok al_all 926 lg_X0 75 _ (34, [(4, cv_i 108), (3, cv_i 3), (5, cv_i 114), (2, cv_i 20), (0, cv_r 51), (1, cv_r 1)], [], hq_5, 1, 34) (24, [(4, cv_i 144), (3, cv_i 4), (5, cv_i 112), (2, cv_i 26), (0, cv_r 51), (1, cv_r 1)], [], hq_6, 1, 34) (cv_isS_ok sg_6) (fun q h => cv_from_mem h) as0 p e R s m args below meth c _ C1 (cv_stp_ok al_all 839 lg_X0 75 _ (24, [(4, cv_i 144), (3, cv_i 4), (5, cv_i 112), (2, cv_i 26), (0, cv_r 51), (1, cv_r 1)], [], hq_6, 1, 34) (88, [(4, cv_i 177), (3, cv_i 0), (2, cv_i 34), (5, cv_i 32), (0, cv_r 51), (1, cv_r 1)], [], hq_7, 1, 34) (cv_isS_ok sg_7) (fun q h => cv_from_mem h) as0 p e R s m args below meth c _ C1 (cv_ret_ok (ov := (none, hq_7)) (q := (88, .return_, 1, 0, 0, 0)) (S := (88, [(4, cv_i 177), (3, cv_i 0), (2, cv_i 34), (5, cv_i 32), (0, cv_r 51), (1, cv_r 1)], [], hq_7, 1, 34)) (r := none) C1 (al_all.2.2.2.2.2.2 75 _ (cv_op_ok (show cv_op (mt_all 75) 88 = some (88, .return_, 1, 0, 0, 0) from rfl)).2) rfl rfl rfl)))))
set_option maxRecDepth 20000 in
theorem mx_5 (hsv : ∀ j, sv j = .null ∨ ∃ a, sv j = .ref a) (hX : cv_no2 X = lg_X0) : cv_Met cv_T vwCl D cy A sv l X (mt_all 59) [cv_r 50, cv_r 1, cv_r 26] hq_1 (none, hq_8) := by
  refine cv_met_ok hsv okm_X5_init (by decide +kernel) (fun as0 p e R s m args below meth c C1 => ?_)
  rw [hX] at C1
  exact cv_stp_ok al_all 9 lg_X0 59 _ (0, [(0, cv_r 50), (1, cv_r 1), (2, cv_r 26)], [], hq_1, 0, 0) (15, [(0, cv_r 50), (1, cv_r 1), (2, cv_r 26)], [cv_r 1, cv_r 51, cv_r 51, cv_r 50], hq_2, 1, 7) (cv_isS_ok sg_2) (fun q h => h) as0 p e R s m args below meth c _ C1 (cv_call_ok (q := (15, .invokespecial 17, 3, 75, 1, 0)) (S := (15, [(0, cv_r 50), (1, cv_r 1), (2, cv_r 26)], [cv_r 1, cv_r 51, cv_r 51, cv_r 50], hq_2, 1, 7)) (j := 75) (av := [cv_r 51, cv_r 1]) (stk := [cv_r 51, cv_r 50]) C1 al_all.1 al_all.2.2.2.2.1 (al_all.2.2.2.2.2.2 59 _ (cv_op_ok (show cv_op (mt_all 59) 15 = some (15, .invokespecial 17, 3, 75, 1, 0) from rfl)).2) rfl (by decide) rfl (by decide +kernel) (mx_6 hsv lg_X0_no2) (cv_stp_ok al_all 12 lg_X0 59 _ (18, [(0, cv_r 50), (1, cv_r 1), (2, cv_r 26)], [cv_r 51, cv_r 50], hq_7, 2, 41) (42, [(0, cv_r 50), (1, cv_r 1), (2, cv_r 26)], [], hq_8, 4, 122) (cv_isS_ok sg_8) (fun q h => cv_from_mem h) as0 p e R s m args below meth c _ C1 (cv_ret_ok (ov := (none, hq_8)) (q := (42, .return_, 1, 0, 0, 0)) (S := (42, [(0, cv_r 50), (1, cv_r 1), (2, cv_r 26)], [], hq_8, 4, 122)) (r := none) C1 (al_all.2.2.2.2.2.2 59 _ (cv_op_ok (show cv_op (mt_all 59) 42 = some (42, .return_, 1, 0, 0, 0) from rfl)).2) rfl rfl rfl)))
set_option maxRecDepth 20000 in
theorem mx_11 (hsv : ∀ j, sv j = .null ∨ ∃ a, sv j = .ref a) (hX : cv_no2 X = lg_X0) : cv_Met cv_T vwCl D cy A sv l X (mt_all 106) [cv_r 0] [ob_11] (none, hp_c) := by
  refine cv_met_ok hsv okm_X11_init (by decide +kernel) (fun as0 p e R s m args below meth c C1 => ?_)
  rw [hX] at C1
  exact cv_stp_ok al_all 23 lg_X0 106 _ (0, [(0, cv_r 0)], [], [ob_11], 0, 0) (48, [(0, cv_r 0)], [cv_r 26, cv_r 1, cv_r 50, cv_r 50, cv_r 0], hq_1, 50, 1442) (cv_isS_ok sg_1) (fun q h => h) as0 p e R s m args below meth c _ C1 (cv_call_ok (q := (48, .invokespecial 27, 3, 59, 2, 0)) (S := (48, [(0, cv_r 0)], [cv_r 26, cv_r 1, cv_r 50, cv_r 50, cv_r 0], hq_1, 50, 1442)) (j := 59) (av := [cv_r 50, cv_r 1, cv_r 26]) (stk := [cv_r 50, cv_r 0]) C1 al_all.1 al_all.2.2.2.2.1 (al_all.2.2.2.2.2.2 106 _ (cv_op_ok (show cv_op (mt_all 106) 48 = some (48, .invokespecial 27, 3, 59, 2, 0) from rfl)).2) rfl (by decide) rfl (by decide +kernel) (mx_5 hsv lg_X0_no2) (cv_stp_ok al_all 150 lg_X0 106 _ (51, [(0, cv_r 0)], [cv_r 50, cv_r 0], hq_8, 54, 1564) (211, [(1, cv_i 4), (0, cv_r 0)], [], hp_c, 110, 2623) (cv_isS_ok sg_9) (fun q h => cv_from_mem h) as0 p e R s m args below meth c _ C1 (cv_ret_ok (ov := (none, hp_c)) (q := (211, .return_, 1, 0, 0, 0)) (S := (211, [(1, cv_i 4), (0, cv_r 0)], [], hp_c, 110, 2623)) (r := none) C1 (al_all.2.2.2.2.2.2 106 _ (cv_op_ok (show cv_op (mt_all 106) 211 = some (211, .return_, 1, 0, 0, 0) from rfl)).2) rfl rfl rfl)))
theorem mx_12 (hsv : ∀ j, sv j = .null ∨ ∃ a, sv j = .ref a) (hX : cv_no2 X = lg_X0) : cv_Met cv_T vwCl D cy A sv l X (mt_all 154) [cv_r 111] (hp_c ++ [ob_12]) (none, hp_c ++ hp_d) := by
  refine cv_met_ok hsv okm_X12_init (by decide +kernel) (fun as0 p e R s m args below meth c C1 => ?_)
  rw [hX] at C1
  exact cv_fst_ok al_all 25000 lg_X0 154 _ _ _ (cv_isv_ok rn_X12) (fun q h => h) as0 p e R s m args below meth c _ C1 (fun q3 S3 r3 a1 a2 a3 a4 => cv_ret_ok C1 a1 a2 a3 a4)
end MX
theorem lw_l1 : hp_c.length = 111 := by decide +kernel
theorem lw_l2 : (hp_c ++ hp_d).length = 149 := by decide +kernel
def lw_loc : cv_L := [(4, cv_i (Int32.ofInt 0)), (3, cv_r 149), (2, cv_r 111), (1, cv_r 0), (0, cv_s 2)]
theorem lw_loc_L : lg_L lw_loc (Int32.ofInt 0) := ⟨rfl, rfl, rfl, rfl, rfl⟩
section LW
variable {D : va_G} {cy : Nat → ClassId} {A : Nat → Prop} {sv : Nat → Value} {l : Launch} {xs : List Int32} {p : Program} {e : Env} {R : Room} {s : State} {m : MethodId} {args : Array Value} {below : List Frame} {meth : Method} {c : Code} {as0 : List Nat} {Q : State → Prop}
theorem lw_ok {pc : Nat} {ins : Instr} {len a b : Nat} {z : Int} (h : lg_o pc ins len a b z = true) : cv_ok cv_T vwCl mt_all mt_L_law (pc, ins, len, a, b, z) := al_all.2.2.2.2.2.2 281 _ (cv_op_ok (show cv_op (mt_all 281) pc = _ from lg_o_ok h)).2
set_option maxRecDepth 20000 in
theorem lw_make (C0 : cv_Cx cv_T vwCl D cy A sv (lg_X xs) mt_L_law p R s m args meth c)
    (k : cv_Good vwCl D cy A sv as0 7 p l e R s m args below meth c Q (23, lw_loc, [], hp_3, 150, 5612)) : cv_Good vwCl D cy A sv as0 7 p l e R s m args below meth c Q (0, [(0, cv_s 2)], [], [], 0, 0) := by
  have hsv := C0.2.2.2.2.2.2.2.2.2.2.1.1
  have hR := gd_good (as0 := as0) (l := l) (e := e) (below := below) (Q := Q) C0 (al_all.2.2.2.2.2.2 281)
  refine cv_mk_ok (q := (0, .new 8, 3, 11, 0, 0)) (S' := (3, [(0, cv_s 2)], [cv_r 0], [ob_11], 1, 16)) C0 cls_all (lw_ok (by decide +kernel)) rfl rfl ?_
  refine hR.1 _ _ (4, [(0, cv_s 2)], [cv_r 0, cv_r 0], [ob_11], 1, 16) (lg_o_ok (show lg_o 3 .dup 1 0 0 0 = true by decide +kernel)) rfl ?_
  refine cv_call_ok (q := (4, .invokespecial 17, 3, 106, 0, 0)) (S := (4, [(0, cv_s 2)], [cv_r 0, cv_r 0], [ob_11], 1, 16)) (j := 106) (av := [cv_r 0]) (stk := [cv_r 0]) C0 al_all.1 al_all.2.2.2.2.1 (lw_ok (by decide +kernel)) rfl (by decide) rfl (by decide +kernel) (mx_11 hsv (lg_X_no2 xs)) ?_
  refine hR.1 _ _ (8, [(1, cv_r 0), (0, cv_s 2)], [], hp_c, 111, 2639) (lg_o_ok (show lg_o 7 (.astore_n 1) 1 0 0 0 = true by decide +kernel)) rfl ?_
  refine cv_mk_ok (q := (8, .new 18, 3, 12, 0, 0)) (S' := (11, [(1, cv_r 0), (0, cv_s 2)], [cv_r hp_c.length], hp_c ++ [ob_12], 112, 2708)) C0 cls_all (lw_ok (by decide +kernel)) rfl rfl ?_
  rw [lw_l1]
  refine hR.1 _ _ (12, [(1, cv_r 0), (0, cv_s 2)], [cv_r 111, cv_r 111], hp_c ++ [ob_12], 112, 2708) (lg_o_ok (show lg_o 11 .dup 1 0 0 0 = true by decide +kernel)) rfl ?_
  refine cv_call_ok (q := (12, .invokespecial 20, 3, 154, 0, 0)) (S := (12, [(1, cv_r 0), (0, cv_s 2)], [cv_r 111, cv_r 111], hp_c ++ [ob_12], 112, 2708)) (j := 154) (av := [cv_r 111]) (stk := [cv_r 111]) C0 al_all.1 al_all.2.2.2.2.1 (lw_ok (by decide +kernel)) rfl (by decide) rfl (by decide +kernel) (mx_12 hsv (lg_X_no2 xs)) ?_
  refine hR.1 _ _ (16, [(2, cv_r 111), (1, cv_r 0), (0, cv_s 2)], [], hp_c ++ hp_d, 149, 5611) (lg_o_ok (show lg_o 15 (.astore_n 2) 1 0 0 0 = true by decide +kernel)) rfl ?_
  refine hR.1 _ _ (17, [(2, cv_r 111), (1, cv_r 0), (0, cv_s 2)], [cv_i (Int32.ofInt 1)], hp_c ++ hp_d, 149, 5611) (lg_o_ok (show lg_o 16 (.iconst 1) 1 0 0 0 = true by decide +kernel)) rfl ?_
  refine cv_mk_ok (q := (17, .newarray .long, 2, 3, 0, 0)) (S' := (19, [(2, cv_r 111), (1, cv_r 0), (0, cv_s 2)], [cv_r (hp_c ++ hp_d).length], hp_3, 150, 5612)) C0 cls_all (lw_ok (by decide +kernel)) rfl rfl ?_
  rw [lw_l2]
  refine hR.1 _ _ (20, [(3, cv_r 149), (2, cv_r 111), (1, cv_r 0), (0, cv_s 2)], [], hp_3, 150, 5612) (lg_o_ok (show lg_o 19 (.astore_n 3) 1 0 0 0 = true by decide +kernel)) rfl ?_
  refine hR.1 _ _ (21, [(3, cv_r 149), (2, cv_r 111), (1, cv_r 0), (0, cv_s 2)], [cv_i (Int32.ofInt 0)], hp_3, 150, 5612) (lg_o_ok (show lg_o 20 (.iconst 0) 1 0 0 0 = true by decide +kernel)) rfl ?_
  exact hR.1 _ (21, [(3, cv_r 149), (2, cv_r 111), (1, cv_r 0), (0, cv_s 2)], [cv_i (Int32.ofInt 0)], hp_3, 150, 5612) (23, lw_loc, [], hp_3, 150, 5612) (lg_o_ok (show lg_o 21 (.istore 4) 2 0 0 0 = true by decide +kernel)) rfl k
end LW
