/-! ===== the law, a call on fresh objects: every call ===== -/
def lw_loc : av_L := [(4, av_i (0, 0)), (3, av_r 149), (2, av_r 111), (1, av_r 0), (0, av_s 2)]
def av_cut (lo : Int) : List Int → List (Int × Int)
  | [] => [(lo, 2147483647)]
  | c :: l => (lo, c - 1) :: av_cut c l
def lw_cuts (k : Nat) : List Int := match k with
  | 1 => [0, 1]
  | 2 => [0, 1, 2]
  | 6 => [0, 2000]
  | 7 => (List.range 522).map Int.ofNat
  | 21 => [-1, 1]
  | 35 => [0, 1, 2, 3, 4, 5, 6, 7, 8, 9]
  | _ => [0]
def lw_row (b : Int × Int) : List av_V := [av_i av_top, av_i b, av_i av_top, av_i av_top, av_i av_top, av_i av_top]
noncomputable def lw_ck (k : Nat) (b : Int × Int) : Bool := lw_ends (av_run fk_all mt_all 5000 (wd_bytes, some (lw_row b)) 128 (av_from 40 op_L_law) (40, lw_loc, [av_i (Int.ofNat k, Int.ofNat k)], hp_3, 150, 5612))
noncomputable def lw_ck4 (b : Int × Int) : Bool := lw_ends (av_run fk_all mt_all 5000 (wd_bytes, some (lw_row b)) 128 (av_from 377 op_L_law) (377, lw_loc, [av_i (1, 1)], hp_3, 170, 5812))
