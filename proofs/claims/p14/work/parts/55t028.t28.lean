/-! ===== formulas, small pieces: the class ===== -/
def zsi (a : Int) : Int := if a = 0 then 20013 else if a = 2 then 20002 else if a = 3 then 20001 else if a = 4 then 20000 else a + 19998
def zrn (s : Int) : Int := if s = 20013 then -1 else if s = 20000 then 1 else if s = 20001 then 2 else if s = 20002 then 3 else if s = 20009 ∨ s = 20010 then 5 else if s = 20011 ∨ s = 20012 then 6 else 4
theorem zrn_i {a : Int} (h : a = 0 ∨ a = 2 ∨ 3 ≤ a ∧ a ≤ 14) : zrn (zsi a) = if a = 0 then -1 else zrk a := by
  have P : ∀ i : Fin 15, (i.1 = 0 ∨ 2 ≤ i.1) → zrn (zsi (i.1 : Int)) = if (i.1 : Int) = 0 then -1 else zrk (i.1 : Int) := by decide +kernel
  have Q := P ⟨a.toNat, by omega⟩ (by dsimp only; omega)
  have e : ((a.toNat : Nat) : Int) = a := by omega
  dsimp only at Q
  rw [e] at Q
  exact Q
theorem zrk_p {a : Int} (h : a = 2 ∨ 3 ≤ a ∧ a ≤ 14) : 1 ≤ zrk a := by have := zrk_b (k := a); omega
/-- the sign that stands there, as the class has it -/
def zsv (k w : Int) : Int := if zsk k w = 0 then -1 else zsi (zsk k w)
theorem zsv_e {k w kc vc : Int} (h : tz_rel k w kc vc) : (kc = 5 → zsv k w = vc) ∧ (kc = 2 → vc = 31 → zsv k w = 20001) ∧ (kc = 2 → vc = 32 → zsv k w = 20000) ∧ (¬ kc = 5 → ¬ (kc = 2 ∧ vc = 31) → ¬ (kc = 2 ∧ vc = 32) → zsv k w = -1) := by
  have hp := rl_pw h
  unfold tz_rel at h
  unfold zsv
  refine ⟨fun a => ?_, fun a b => ?_, fun a b => ?_, fun a b c => ?_⟩
  · unfold zsk zsi
    rcases h with h | h | h | h | h | h | h <;> first | (exfalso; omega) | skip
    · rcases h.2 with q | q | q | q | q | q | q <;> first | (exfalso; omega) | skip
      · rw [h.1, q.1, q.2.2]; decide
      · rw [h.1, q.1, q.2.2]; decide
      · rw [h.1, q.1, q.2.2]; decide
      · rw [h.1, q.1, q.2.2]; decide
    · rw [if_neg (by omega), if_neg (by omega), if_pos h.1, if_neg (by omega), if_neg (by omega), if_neg (by omega), if_neg (by omega), if_neg (by omega)]; omega
  · have e : k = 1 ∧ w = 21 := by omega
    rw [e.1, e.2]; decide
  · have e : k = 1 ∧ w = 22 := by omega
    rw [e.1, e.2]; decide
  · have z0 : zsk k w = 0 := by
      unfold zsk
      rw [if_neg (by omega), if_neg (by omega), if_neg (by omega), if_neg (by omega), if_neg (by omega), if_neg (by omega), if_neg (by omega)]
    rw [if_pos z0]
theorem zsk_ok {k w kc vc : Int} (h : tz_rel k w kc vc) : zsk k w = 0 ∨ 3 ≤ zsk k w ∧ zsk k w ≤ 14 := zsk_b (fun q => by unfold tz_rel at h; omega)
theorem zsi_p {a : Int} (h : a = 0 ∨ a = 2 ∨ 3 ≤ a ∧ a ≤ 14) : 20000 ≤ zsi a ∧ (zsi a = 20001 ↔ a = 3) ∧ (zsi a = 20000 ↔ a = 4) := by unfold zsi; (repeat' split) <;> omega
section TZ
variable {G : Int} {X : cv_X} {Q : cv_O → Prop} {t : Nat → Int}
theorem oq_X0_rankOf_0 : cw_ho 8 0 (.iload_n 0) 1 0 0 0 := rfl
theorem oq_X0_rankOf_1 : cw_ho 8 1 (.tableswitch 84 20000 20013 #[73, 75, 77, 84, 84, 84, 84, 84, 84, 79, 79, 81, 81, 71]) 71 0 0 0 := rfl
theorem oq_X0_rankOf_72 : cw_ho 8 72 (.iconst (-1)) 1 0 0 0 := rfl
theorem oq_X0_rankOf_73 : cw_ho 8 73 (.ireturn) 1 0 0 0 := rfl
theorem oq_X0_rankOf_74 : cw_ho 8 74 (.iconst 1) 1 0 0 0 := rfl
theorem oq_X0_rankOf_75 : cw_ho 8 75 (.ireturn) 1 0 0 0 := rfl
theorem oq_X0_rankOf_76 : cw_ho 8 76 (.iconst 2) 1 0 0 0 := rfl
theorem oq_X0_rankOf_77 : cw_ho 8 77 (.ireturn) 1 0 0 0 := rfl
theorem oq_X0_rankOf_78 : cw_ho 8 78 (.iconst 3) 1 0 0 0 := rfl
theorem oq_X0_rankOf_79 : cw_ho 8 79 (.ireturn) 1 0 0 0 := rfl
theorem oq_X0_rankOf_80 : cw_ho 8 80 (.iconst 5) 1 0 0 0 := rfl
theorem oq_X0_rankOf_81 : cw_ho 8 81 (.ireturn) 1 0 0 0 := rfl
theorem oq_X0_rankOf_82 : cw_ho 8 82 (.bipush 6) 2 0 0 0 := rfl
theorem oq_X0_rankOf_84 : cw_ho 8 84 (.ireturn) 1 0 0 0 := rfl
theorem oq_X0_rankOf_85 : cw_ho 8 85 (.iconst 4) 1 0 0 0 := rfl
theorem oq_X0_rankOf_86 : cw_ho 8 86 (.ireturn) 1 0 0 0 := rfl
theorem ct_rankOf {h : cv_H} (s : Int32) (hQ : ∀ x : Int32, x.toInt = zrn s.toInt → Q (some (cv_i x), h)) : cw_X X 8 Q 0 (cv_ent 0 [cv_i s]) [] h := by
  refine ex_il oq_X0_rankOf_0 rfl ?_
  refine ex_tsw oq_X0_rankOf_1 rfl (fun c11 => ⟨rfl, ?_⟩) (fun i hi c11 => ?_)
  · show cw_X _ _ _ 85 _ _ _
    refine ex_ic oq_X0_rankOf_85 (m := 4) (by decide) (fun x12 hx12 => ?_)
    exact ex_reti oq_X0_rankOf_86 rfl (hQ x12 (by unfold zrn; (repeat' split) <;> omega))
  · match i, hi, c11 with
    | 0, _, c11 =>
      refine ⟨rfl, ?_⟩
      show cw_X _ _ _ 74 _ _ _
      refine ex_ic oq_X0_rankOf_74 (m := 1) (by decide) (fun x13 hx13 => ?_)
      exact ex_reti oq_X0_rankOf_75 rfl (hQ x13 (by unfold zrn; (repeat' split) <;> omega))
    | 1, _, c11 =>
      refine ⟨rfl, ?_⟩
      show cw_X _ _ _ 76 _ _ _
      refine ex_ic oq_X0_rankOf_76 (m := 2) (by decide) (fun x14 hx14 => ?_)
      exact ex_reti oq_X0_rankOf_77 rfl (hQ x14 (by unfold zrn; (repeat' split) <;> omega))
    | 2, _, c11 =>
      refine ⟨rfl, ?_⟩
      show cw_X _ _ _ 78 _ _ _
      refine ex_ic oq_X0_rankOf_78 (m := 3) (by decide) (fun x15 hx15 => ?_)
      exact ex_reti oq_X0_rankOf_79 rfl (hQ x15 (by unfold zrn; (repeat' split) <;> omega))
    | 3, _, c11 =>
      refine ⟨rfl, ?_⟩
      show cw_X _ _ _ 85 _ _ _
      refine ex_ic oq_X0_rankOf_85 (m := 4) (by decide) (fun x16 hx16 => ?_)
      exact ex_reti oq_X0_rankOf_86 rfl (hQ x16 (by unfold zrn; (repeat' split) <;> omega))
    | 4, _, c11 =>
      refine ⟨rfl, ?_⟩
      show cw_X _ _ _ 85 _ _ _
      refine ex_ic oq_X0_rankOf_85 (m := 4) (by decide) (fun x17 hx17 => ?_)
      exact ex_reti oq_X0_rankOf_86 rfl (hQ x17 (by unfold zrn; (repeat' split) <;> omega))
    | 5, _, c11 =>
      refine ⟨rfl, ?_⟩
      show cw_X _ _ _ 85 _ _ _
      refine ex_ic oq_X0_rankOf_85 (m := 4) (by decide) (fun x18 hx18 => ?_)
      exact ex_reti oq_X0_rankOf_86 rfl (hQ x18 (by unfold zrn; (repeat' split) <;> omega))
    | 6, _, c11 =>
      refine ⟨rfl, ?_⟩
      show cw_X _ _ _ 85 _ _ _
      refine ex_ic oq_X0_rankOf_85 (m := 4) (by decide) (fun x19 hx19 => ?_)
      exact ex_reti oq_X0_rankOf_86 rfl (hQ x19 (by unfold zrn; (repeat' split) <;> omega))
    | 7, _, c11 =>
      refine ⟨rfl, ?_⟩
      show cw_X _ _ _ 85 _ _ _
      refine ex_ic oq_X0_rankOf_85 (m := 4) (by decide) (fun x20 hx20 => ?_)
      exact ex_reti oq_X0_rankOf_86 rfl (hQ x20 (by unfold zrn; (repeat' split) <;> omega))
    | 8, _, c11 =>
      refine ⟨rfl, ?_⟩
      show cw_X _ _ _ 85 _ _ _
      refine ex_ic oq_X0_rankOf_85 (m := 4) (by decide) (fun x21 hx21 => ?_)
      exact ex_reti oq_X0_rankOf_86 rfl (hQ x21 (by unfold zrn; (repeat' split) <;> omega))
    | 9, _, c11 =>
      refine ⟨rfl, ?_⟩
      show cw_X _ _ _ 80 _ _ _
      refine ex_ic oq_X0_rankOf_80 (m := 5) (by decide) (fun x22 hx22 => ?_)
      exact ex_reti oq_X0_rankOf_81 rfl (hQ x22 (by unfold zrn; (repeat' split) <;> omega))
    | 10, _, c11 =>
      refine ⟨rfl, ?_⟩
      show cw_X _ _ _ 80 _ _ _
      refine ex_ic oq_X0_rankOf_80 (m := 5) (by decide) (fun x23 hx23 => ?_)
      exact ex_reti oq_X0_rankOf_81 rfl (hQ x23 (by unfold zrn; (repeat' split) <;> omega))
    | 11, _, c11 =>
      refine ⟨rfl, ?_⟩
      show cw_X _ _ _ 82 _ _ _
      refine ex_bi oq_X0_rankOf_82 (m := 6) (by decide) (fun x24 hx24 => ?_)
      exact ex_reti oq_X0_rankOf_84 rfl (hQ x24 (by unfold zrn; (repeat' split) <;> omega))
    | 12, _, c11 =>
      refine ⟨rfl, ?_⟩
      show cw_X _ _ _ 82 _ _ _
      refine ex_bi oq_X0_rankOf_82 (m := 6) (by decide) (fun x25 hx25 => ?_)
      exact ex_reti oq_X0_rankOf_84 rfl (hQ x25 (by unfold zrn; (repeat' split) <;> omega))
    | 13, _, c11 =>
      refine ⟨rfl, ?_⟩
      show cw_X _ _ _ 72 _ _ _
      refine ex_ic oq_X0_rankOf_72 (m := (-1)) (by decide) (fun x26 hx26 => ?_)
      exact ex_reti oq_X0_rankOf_73 rfl (hQ x26 (by unfold zrn; (repeat' split) <;> omega))
    | i + 14, hi, _ => exact absurd hi (by show ¬ i + 14 < 14; omega)
theorem oq_X0_latestHeld_0 : cw_ho 11 0 (.aload_n 0) 1 0 0 0 := rfl
theorem oq_X0_latestHeld_1 : cw_ho 11 1 (.getfield 23) 3 0 2 0 := rfl
theorem oq_X0_latestHeld_4 : cw_ho 11 4 (.ifCond .le 29) 3 0 0 0 := rfl
theorem oq_X0_latestHeld_7 : cw_ho 11 7 (.aload_n 0) 1 0 0 0 := rfl
theorem oq_X0_latestHeld_8 : cw_ho 11 8 (.getfield 23) 3 0 2 0 := rfl
theorem oq_X0_latestHeld_11 : cw_ho 11 11 (.aload_n 0) 1 0 0 0 := rfl
theorem oq_X0_latestHeld_12 : cw_ho 11 12 (.getfield 9) 3 0 1 4 := rfl
theorem oq_X0_latestHeld_15 : cw_ho 11 15 (.arraylength) 1 0 0 0 := rfl
theorem oq_X0_latestHeld_16 : cw_ho 11 16 (.if_icmp .gt 17) 3 0 0 0 := rfl
theorem oq_X0_latestHeld_19 : cw_ho 11 19 (.aload_n 0) 1 0 0 0 := rfl
theorem oq_X0_latestHeld_20 : cw_ho 11 20 (.getfield 9) 3 0 1 4 := rfl
theorem oq_X0_latestHeld_23 : cw_ho 11 23 (.aload_n 0) 1 0 0 0 := rfl
theorem oq_X0_latestHeld_24 : cw_ho 11 24 (.getfield 23) 3 0 2 0 := rfl
theorem oq_X0_latestHeld_27 : cw_ho 11 27 (.iconst 1) 1 0 0 0 := rfl
theorem oq_X0_latestHeld_28 : cw_ho 11 28 (.isub) 1 0 0 0 := rfl
theorem oq_X0_latestHeld_29 : cw_ho 11 29 (.iaload) 1 0 0 0 := rfl
theorem oq_X0_latestHeld_30 : cw_ho 11 30 (.goto 6) 3 0 0 0 := rfl
theorem oq_X0_latestHeld_36 : cw_ho 11 36 (.ireturn) 1 0 0 0 := rfl
theorem ct_latest {h : cv_H} {a : Int} {st : List Int} (hT : cw_T G h) (hr : zrow h 54 ((a :: st).map zsi)) (hc : ri_at h 53 2 = st.length + 1) (hl : st.length + 1 ≤ 73) (hQ : ∀ x : Int32, x.toInt = zsi a → Q (some (cv_i x), h)) : cw_X X 11 Q 0 (cv_ent 0 [cv_r 53]) [] h := by
  have ht := zrow_top (a := zsi a) (st := st.map zsi) hr
  rw [List.length_map] at ht
  refine ex_al oq_X0_latestHeld_0 rfl ?_
  obtain ⟨x11, ax11, rx11, lx11, ux11⟩ := ri_fld (k := 53) (d := 0) (f := 2) hT rfl rfl rfl
  try dsimp only at lx11 ux11
  refine ex_gf oq_X0_latestHeld_1 hT (k := 53) (d := 0) rfl rfl ax11 ?_
  clear lx11 ux11
  have rx11 := (rx11.symm.trans hc : x11.toInt = (st.length : Int) + 1)
  refine ex_if0 oq_X0_latestHeld_4 (t := 33) rfl rfl (fun (c12 : x11.toInt ≤ 0) => ?_) (fun (c12 : ¬ (x11.toInt ≤ 0)) => ?_)
  · exfalso; omega
  · refine ex_al oq_X0_latestHeld_7 rfl ?_
    obtain ⟨x13, ax13, rx13, lx13, ux13⟩ := ri_fld (k := 53) (d := 0) (f := 2) hT rfl rfl rfl
    try dsimp only at lx13 ux13
    refine ex_gf oq_X0_latestHeld_8 hT (k := 53) (d := 0) rfl rfl ax13 ?_
    clear lx13 ux13
    have rx13 := (rx13.symm.trans hc : x13.toInt = (st.length : Int) + 1)
    refine ex_al oq_X0_latestHeld_11 rfl ?_
    refine ex_gf oq_X0_latestHeld_12 hT (k := 53) (d := 0) rfl rfl (ri_ref (k := 53) (k' := 54) (d := 0) (f := 1) hT rfl rfl rfl (by decide) (ri_uniq (by decide +kernel))) ?_
    refine ex_len oq_X0_latestHeld_15 hT (k := 54) (d := 16) rfl rfl (by decide) (fun x14 hx14 => ?_)
    refine ex_if oq_X0_latestHeld_16 (t := 33) rfl rfl (fun (c15 : x14.toInt < x13.toInt) => ?_) (fun (c15 : ¬ (x14.toInt < x13.toInt)) => ?_)
    · exfalso; omega
    · refine ex_al oq_X0_latestHeld_19 rfl ?_
      refine ex_gf oq_X0_latestHeld_20 hT (k := 53) (d := 0) rfl rfl (ri_ref (k := 53) (k' := 54) (d := 0) (f := 1) hT rfl rfl rfl (by decide) (ri_uniq (by decide +kernel))) ?_
      refine ex_al oq_X0_latestHeld_23 rfl ?_
      obtain ⟨x16, ax16, rx16, lx16, ux16⟩ := ri_fld (k := 53) (d := 0) (f := 2) hT rfl rfl rfl
      try dsimp only at lx16 ux16
      refine ex_gf oq_X0_latestHeld_24 hT (k := 53) (d := 0) rfl rfl ax16 ?_
      clear lx16 ux16
      have rx16 := (rx16.symm.trans hc : x16.toInt = (st.length : Int) + 1)
      refine ex_ic oq_X0_latestHeld_27 (m := 1) (by decide) (fun x17 hx17 => ?_)
      refine ex_sub oq_X0_latestHeld_28 (by omega) (fun x18 hx18 => ?_)
      refine ex_ia1 oq_X0_latestHeld_29 hT (k := 54) (d := 16) (j := st.length) rfl rfl (by omega) (by omega) (fun x19 hx19 lx19 ux19 => ?_)
      refine ex_go oq_X0_latestHeld_30 (t := 36) rfl rfl ?_
      exact ex_reti oq_X0_latestHeld_36 rfl (hQ x19 (by omega))
theorem oq_X0_hold_0 : cw_ho 10 0 (.aload_n 0) 1 0 0 0 := rfl
theorem oq_X0_hold_1 : cw_ho 10 1 (.getfield 23) 3 0 2 0 := rfl
theorem oq_X0_hold_4 : cw_ho 10 4 (.ifCond .lt 35) 3 0 0 0 := rfl
theorem oq_X0_hold_7 : cw_ho 10 7 (.aload_n 0) 1 0 0 0 := rfl
theorem oq_X0_hold_8 : cw_ho 10 8 (.getfield 23) 3 0 2 0 := rfl
theorem oq_X0_hold_11 : cw_ho 10 11 (.aload_n 0) 1 0 0 0 := rfl
theorem oq_X0_hold_12 : cw_ho 10 12 (.getfield 9) 3 0 1 4 := rfl
theorem oq_X0_hold_15 : cw_ho 10 15 (.arraylength) 1 0 0 0 := rfl
theorem oq_X0_hold_16 : cw_ho 10 16 (.if_icmp .ge 23) 3 0 0 0 := rfl
theorem oq_X0_hold_19 : cw_ho 10 19 (.aload_n 0) 1 0 0 0 := rfl
theorem oq_X0_hold_20 : cw_ho 10 20 (.getfield 9) 3 0 1 4 := rfl
theorem oq_X0_hold_23 : cw_ho 10 23 (.aload_n 0) 1 0 0 0 := rfl
theorem oq_X0_hold_24 : cw_ho 10 24 (.getfield 23) 3 0 2 0 := rfl
theorem oq_X0_hold_27 : cw_ho 10 27 (.iload_n 1) 1 0 0 0 := rfl
theorem oq_X0_hold_28 : cw_ho 10 28 (.iastore) 1 0 0 0 := rfl
theorem oq_X0_hold_29 : cw_ho 10 29 (.aload_n 0) 1 0 0 0 := rfl
theorem oq_X0_hold_30 : cw_ho 10 30 (.dup) 1 0 0 0 := rfl
theorem oq_X0_hold_31 : cw_ho 10 31 (.getfield 23) 3 0 2 0 := rfl
theorem oq_X0_hold_34 : cw_ho 10 34 (.iconst 1) 1 0 0 0 := rfl
theorem oq_X0_hold_35 : cw_ho 10 35 (.iadd) 1 0 0 0 := rfl
theorem oq_X0_hold_36 : cw_ho 10 36 (.putfield 23) 3 0 2 0 := rfl
theorem oq_X0_hold_39 : cw_ho 10 39 (.return_) 1 0 0 0 := rfl
theorem ct_hold {h0 : cv_H} {a : Int} {st : List Int} {s : Int32} (hT : cw_T G h0) (hr : zrow h0 54 (st.map zsi)) (hc : ri_at h0 53 2 = st.length) (hl : st.length < 73) (ha : s.toInt = zsi a) (hQ : ∀ h', cw_T G h' → cw_Fr cw_Ds cw_sh kk_X0_hold.2.2.2.2.2.1 h0 h' → zrow h' 54 ((a :: st).map zsi) → ri_at h' 53 2 = st.length + 1 → Q (none, h')) : cw_X X 10 Q 0 (cv_ent 0 [cv_r 53, cv_i s]) [] h0 := by
  have Fh0 : cw_Fr cw_Ds cw_sh kk_X0_hold.2.2.2.2.2.1 h0 h0 := cw_Fr_refl
  refine ex_al oq_X0_hold_0 rfl ?_
  obtain ⟨x11, ax11, rx11, lx11, ux11⟩ := ri_fld (k := 53) (d := 0) (f := 2) hT rfl rfl rfl
  try dsimp only at lx11 ux11
  refine ex_gf oq_X0_hold_1 hT (k := 53) (d := 0) rfl rfl ax11 ?_
  clear lx11 ux11
  have rx11 := (rx11.symm.trans hc : x11.toInt = (st.length : Int))
  refine ex_if0 oq_X0_hold_4 (t := 39) rfl rfl (fun (c12 : x11.toInt < 0) => ?_) (fun (c12 : ¬ (x11.toInt < 0)) => ?_)
  · exfalso; omega
  · refine ex_al oq_X0_hold_7 rfl ?_
    obtain ⟨x13, ax13, rx13, lx13, ux13⟩ := ri_fld (k := 53) (d := 0) (f := 2) hT rfl rfl rfl
    try dsimp only at lx13 ux13
    refine ex_gf oq_X0_hold_8 hT (k := 53) (d := 0) rfl rfl ax13 ?_
    clear lx13 ux13
    have rx13 := (rx13.symm.trans hc : x13.toInt = (st.length : Int))
    refine ex_al oq_X0_hold_11 rfl ?_
    refine ex_gf oq_X0_hold_12 hT (k := 53) (d := 0) rfl rfl (ri_ref (k := 53) (k' := 54) (d := 0) (f := 1) hT rfl rfl rfl (by decide) (ri_uniq (by decide +kernel))) ?_
    refine ex_len oq_X0_hold_15 hT (k := 54) (d := 16) rfl rfl (by decide) (fun x14 hx14 => ?_)
    refine ex_if oq_X0_hold_16 (t := 39) rfl rfl (fun (c15 : x14.toInt ≤ x13.toInt) => ?_) (fun (c15 : ¬ (x14.toInt ≤ x13.toInt)) => ?_)
    · exfalso; omega
    · refine ex_al oq_X0_hold_19 rfl ?_
      refine ex_gf oq_X0_hold_20 hT (k := 53) (d := 0) rfl rfl (ri_ref (k := 53) (k' := 54) (d := 0) (f := 1) hT rfl rfl rfl (by decide) (ri_uniq (by decide +kernel))) ?_
      refine ex_al oq_X0_hold_23 rfl ?_
      obtain ⟨x16, ax16, rx16, lx16, ux16⟩ := ri_fld (k := 53) (d := 0) (f := 2) hT rfl rfl rfl
      try dsimp only at lx16 ux16
      refine ex_gf oq_X0_hold_24 hT (k := 53) (d := 0) rfl rfl ax16 ?_
      clear lx16 ux16
      have rx16 := (rx16.symm.trans hc : x16.toInt = (st.length : Int))
      refine ex_il oq_X0_hold_27 rfl ?_
      refine ex_iw1 oq_X0_hold_28 hT (k := 54) (d := 16) (j := st.length) rfl rfl (by omega) (by omega) ⟨(cw_i32 _).1, (cw_i32 _).2⟩ (fun h17 Th17 wh17 => ?_)
      have Fh17 : cw_Fr cw_Ds cw_sh kk_X0_hold.2.2.2.2.2.1 h0 h17 := cw_Fr_tr Fh0 (cw_Fr_wrr wh17 (k := 54) (d := 16) rfl rfl (by decide +kernel))
      have eh17_53_2 : ri_at h17 53 2 = (st.length : Int) := (ri_ne wh17 (.inl (by decide))).trans hc
      refine ex_al oq_X0_hold_29 rfl ?_
      refine ex_dup oq_X0_hold_30 rfl ?_
      obtain ⟨x18, ax18, rx18, lx18, ux18⟩ := ri_fld (k := 53) (d := 0) (f := 2) Th17 rfl rfl rfl
      try dsimp only at lx18 ux18
      refine ex_gf oq_X0_hold_31 Th17 (k := 53) (d := 0) rfl rfl ax18 ?_
      clear lx18 ux18
      have rx18 := (rx18.symm.trans eh17_53_2 : x18.toInt = (st.length : Int))
      refine ex_ic oq_X0_hold_34 (m := 1) (by decide) (fun x19 hx19 => ?_)
      refine ex_add oq_X0_hold_35 (by omega) (fun x20 hx20 => ?_)
      refine ex_pfi oq_X0_hold_36 Th17 (k := 53) (d := 0) rfl rfl rfl (cw_i32 _).1 (cw_i32 _).2 (fun h21 Th21 wh21 => ?_)
      have Fh21 : cw_Fr cw_Ds cw_sh kk_X0_hold.2.2.2.2.2.1 h0 h21 := cw_Fr_tr Fh17 (cw_Fr_wrf wh21 (k := 53) (d := 0) rfl rfl (by decide +kernel))
      have eh21_53_2 : ri_at h21 53 2 = x20.toInt := ri_self wh21
      exact ex_retv oq_X0_hold_39 rfl (hQ h21 Th21 Fh21 (zrow_eq (zrow_push (a := zsi a) (st := st.map zsi) hr (by rw [List.length_map, ri_self wh17]; exact ha) (fun i hi => ri_ne wh17 (.inr (by rw [List.length_map] at hi; exact hi)))) (fun i => (ri_ne wh21 (.inl (by decide))))) (by omega))
theorem oq_X4_addCode_0 : cw_ho 58 0 (.aload_n 0) 1 0 0 0 := rfl
theorem oq_X4_addCode_1 : cw_ho 58 1 (.getfield 65) 3 4 2 0 := rfl
theorem oq_X4_addCode_4 : cw_ho 58 4 (.ifCond .lt 32) 3 0 0 0 := rfl
theorem oq_X4_addCode_7 : cw_ho 58 7 (.aload_n 0) 1 0 0 0 := rfl
theorem oq_X4_addCode_8 : cw_ho 58 8 (.getfield 65) 3 4 2 0 := rfl
theorem oq_X4_addCode_11 : cw_ho 58 11 (.bipush 64) 2 0 0 0 := rfl
theorem oq_X4_addCode_13 : cw_ho 58 13 (.if_icmp .ge 23) 3 0 0 0 := rfl
theorem oq_X4_addCode_16 : cw_ho 58 16 (.aload_n 0) 1 0 0 0 := rfl
theorem oq_X4_addCode_17 : cw_ho 58 17 (.getfield 15) 3 4 1 4 := rfl
theorem oq_X4_addCode_20 : cw_ho 58 20 (.aload_n 0) 1 0 0 0 := rfl
theorem oq_X4_addCode_21 : cw_ho 58 21 (.getfield 65) 3 4 2 0 := rfl
theorem oq_X4_addCode_24 : cw_ho 58 24 (.iload_n 1) 1 0 0 0 := rfl
theorem oq_X4_addCode_25 : cw_ho 58 25 (.iastore) 1 0 0 0 := rfl
theorem oq_X4_addCode_26 : cw_ho 58 26 (.aload_n 0) 1 0 0 0 := rfl
theorem oq_X4_addCode_27 : cw_ho 58 27 (.dup) 1 0 0 0 := rfl
theorem oq_X4_addCode_28 : cw_ho 58 28 (.getfield 65) 3 4 2 0 := rfl
theorem oq_X4_addCode_31 : cw_ho 58 31 (.iconst 1) 1 0 0 0 := rfl
theorem oq_X4_addCode_32 : cw_ho 58 32 (.iadd) 1 0 0 0 := rfl
theorem oq_X4_addCode_33 : cw_ho 58 33 (.putfield 65) 3 4 2 0 := rfl
theorem oq_X4_addCode_36 : cw_ho 58 36 (.return_) 1 0 0 0 := rfl
theorem ct_addCode {h0 : cv_H} {b : Nat} {s : Int32} {c : Int} (hT : cw_T G h0) (hb4 : cw_sh[b]? = some 4) (hc : ri_at h0 b 2 = c) (c0 : 0 ≤ c) (c1 : c < 64) (hQ : ∀ h', cw_T G h' → cw_Fr cw_Ds cw_sh kk_X4_addCode.2.2.2.2.2.1 h0 h' → ri_at h' b 2 = c + 1 → Q (none, h')) : cw_X X 58 Q 0 (cv_ent 0 [cv_r b, cv_i s]) [] h0 := by
  have Fh0 : cw_Fr cw_Ds cw_sh kk_X4_addCode.2.2.2.2.2.1 h0 h0 := cw_Fr_refl
  refine ex_al oq_X4_addCode_0 rfl ?_
  obtain ⟨x11, ax11, rx11, lx11, ux11⟩ := ri_fld (k := b) (d := 4) (f := 2) hT hb4 rfl rfl
  try dsimp only at lx11 ux11
  refine ex_gf oq_X4_addCode_1 hT (k := b) (d := 4) hb4 rfl ax11 ?_
  clear lx11 ux11
  have rx11 := (rx11.symm.trans hc : x11.toInt = c)
  refine ex_if0 oq_X4_addCode_4 (t := 36) rfl rfl (fun (c12 : x11.toInt < 0) => ?_) (fun (c12 : ¬ (x11.toInt < 0)) => ?_)
  · exfalso; omega
  · refine ex_al oq_X4_addCode_7 rfl ?_
    obtain ⟨x13, ax13, rx13, lx13, ux13⟩ := ri_fld (k := b) (d := 4) (f := 2) hT hb4 rfl rfl
    try dsimp only at lx13 ux13
    refine ex_gf oq_X4_addCode_8 hT (k := b) (d := 4) hb4 rfl ax13 ?_
    clear lx13 ux13
    have rx13 := (rx13.symm.trans hc : x13.toInt = c)
    refine ex_bi oq_X4_addCode_11 (m := 64) (by decide) (fun x14 hx14 => ?_)
    refine ex_if oq_X4_addCode_13 (t := 36) rfl rfl (fun (c15 : x14.toInt ≤ x13.toInt) => ?_) (fun (c15 : ¬ (x14.toInt ≤ x13.toInt)) => ?_)
    · exfalso; omega
    · refine ex_al oq_X4_addCode_16 rfl ?_
      obtain ⟨k16, ak16, sk16⟩ := ri_refs (k := b) (d := 4) (f := 1) hT hb4 rfl rfl (by decide)
      refine ex_gf oq_X4_addCode_17 hT (k := b) (d := 4) hb4 rfl ak16 ?_
      refine ex_al oq_X4_addCode_20 rfl ?_
      obtain ⟨x17, ax17, rx17, lx17, ux17⟩ := ri_fld (k := b) (d := 4) (f := 2) hT hb4 rfl rfl
      try dsimp only at lx17 ux17
      refine ex_gf oq_X4_addCode_21 hT (k := b) (d := 4) hb4 rfl ax17 ?_
      clear lx17 ux17
      have rx17 := (rx17.symm.trans hc : x17.toInt = c)
      refine ex_il oq_X4_addCode_24 rfl ?_
      refine ex_iw1 oq_X4_addCode_25 hT (k := k16) (d := 29) (j := x17.toInt.toNat) sk16 rfl (by omega) (by omega) ⟨(cw_i32 _).1, (cw_i32 _).2⟩ (fun h18 Th18 wh18 => ?_)
      have Fh18 : cw_Fr cw_Ds cw_sh kk_X4_addCode.2.2.2.2.2.1 h0 h18 := cw_Fr_tr Fh0 (cw_Fr_wrr wh18 (k := k16) (d := 29) sk16 rfl (by decide +kernel))
      have eh18_b_2 : ri_at h18 b 2 = c := (ri_ne wh18 (.inl (cw_kne (k := b) (d := 4) (k' := k16) (d' := 29) hb4 sk16 (by decide)))).trans hc
      refine ex_al oq_X4_addCode_26 rfl ?_
      refine ex_dup oq_X4_addCode_27 rfl ?_
      obtain ⟨x19, ax19, rx19, lx19, ux19⟩ := ri_fld (k := b) (d := 4) (f := 2) Th18 hb4 rfl rfl
      try dsimp only at lx19 ux19
      refine ex_gf oq_X4_addCode_28 Th18 (k := b) (d := 4) hb4 rfl ax19 ?_
      clear lx19 ux19
      have rx19 := (rx19.symm.trans eh18_b_2 : x19.toInt = c)
      refine ex_ic oq_X4_addCode_31 (m := 1) (by decide) (fun x20 hx20 => ?_)
      refine ex_add oq_X4_addCode_32 (by omega) (fun x21 hx21 => ?_)
      refine ex_pfi oq_X4_addCode_33 Th18 (k := b) (d := 4) hb4 rfl rfl (cw_i32 _).1 (cw_i32 _).2 (fun h22 Th22 wh22 => ?_)
      have Fh22 : cw_Fr cw_Ds cw_sh kk_X4_addCode.2.2.2.2.2.1 h0 h22 := cw_Fr_tr Fh18 (cw_Fr_wrf wh22 (k := b) (d := 4) hb4 rfl (by decide +kernel))
      have eh22_b_2 : ri_at h22 b 2 = x21.toInt := ri_self wh22
      exact ex_retv oq_X4_addCode_36 rfl (hQ h22 Th22 Fh22 (by omega))
theorem oq_X0_release_0 : cw_ho 12 0 (.aload_n 0) 1 0 0 0 := rfl
theorem oq_X0_release_1 : cw_ho 12 1 (.getfield 23) 3 0 2 0 := rfl
theorem oq_X0_release_4 : cw_ho 12 4 (.ifCond .le 38) 3 0 0 0 := rfl
theorem oq_X0_release_7 : cw_ho 12 7 (.aload_n 0) 1 0 0 0 := rfl
theorem oq_X0_release_8 : cw_ho 12 8 (.invokevirtual 102) 3 11 0 0 := rfl
theorem oq_X0_release_11 : cw_ho 12 11 (.invokestatic 99) 3 8 1 0 := rfl
theorem oq_X0_release_14 : cw_ho 12 14 (.iload_n 1) 1 0 0 0 := rfl
theorem oq_X0_release_15 : cw_ho 12 15 (.if_icmp .lt 27) 3 0 0 0 := rfl
theorem oq_X0_release_18 : cw_ho 12 18 (.aload_n 0) 1 0 0 0 := rfl
theorem oq_X0_release_19 : cw_ho 12 19 (.getfield 19) 3 0 7 4 := rfl
theorem oq_X0_release_22 : cw_ho 12 22 (.aload_n 0) 1 0 0 0 := rfl
theorem oq_X0_release_23 : cw_ho 12 23 (.invokevirtual 102) 3 11 0 0 := rfl
theorem oq_X0_release_26 : cw_ho 12 26 (.invokevirtual 81) 3 58 1 4 := rfl
theorem oq_X0_release_29 : cw_ho 12 29 (.aload_n 0) 1 0 0 0 := rfl
theorem oq_X0_release_30 : cw_ho 12 30 (.dup) 1 0 0 0 := rfl
theorem oq_X0_release_31 : cw_ho 12 31 (.getfield 23) 3 0 2 0 := rfl
theorem oq_X0_release_34 : cw_ho 12 34 (.iconst 1) 1 0 0 0 := rfl
theorem oq_X0_release_35 : cw_ho 12 35 (.isub) 1 0 0 0 := rfl
theorem oq_X0_release_36 : cw_ho 12 36 (.putfield 23) 3 0 2 0 := rfl
theorem oq_X0_release_39 : cw_ho 12 39 (.goto (-39)) 3 0 0 0 := rfl
theorem oq_X0_release_42 : cw_ho 12 42 (.return_) 1 0 0 0 := rfl
theorem zcz {a : Int} {st : List Int} (h : a = 0 ∨ a = 2 ∨ 3 ≤ a ∧ a ≤ 14) (h0 : ¬ a = 0) : zcb (a :: st) + zcu (a :: st) = zcb st + zcu st + 1 := by
  rw [show zcb (a :: st) = (if 3 ≤ a then 1 else 0) + zcb st from rfl, show zcu (a :: st) = (if a = 2 then 1 else 0) + zcu st from rfl]
  rcases h with h | h | h
  · exact absurd h h0
  · rw [if_neg (by omega), if_pos h]; omega
  · rw [if_pos h.1, if_neg (by omega)]; omega
theorem rl_lp {h0 : cv_H} {b : Nat} (hb4 : cw_sh[b]? = some 4) (hp7 : cw_at h0 53 7 = some (cv_r b)) {R : Int32} {l kn : Int} {st' : List Int} (hk64 : kn ≤ 64) (hR0 : 0 ≤ R.toInt) (hRl : l = if R.toInt = 0 then 1 else R.toInt) (hQ : ∀ h', cw_T G h' → cw_Fr cw_Ds cw_sh kk_X0_release.2.2.2.2.2.1 h0 h' → zrow h' 54 (st'.map zsi) → ri_at h' 53 2 = st'.length → ri_at h' b 2 + zcb st' + zcu st' = kn → 0 ≤ ri_at h' b 2 → Q (none, h')) :
    ∀ (st : List Int) (c : Int) (L : cv_L) (h : cv_H), zok st → zbi l st = st' → cw_T G h → cw_Fr cw_Ds cw_sh kk_X0_release.2.2.2.2.2.1 h0 h → zrow h 54 (st.map zsi) → ri_at h 53 2 = st.length → ri_at h b 2 = c → c + zcb st + zcu st = kn → 0 ≤ c → st.length ≤ 73 → cv_get L 0 = some (cv_r 53) → cv_get L 1 = some (cv_i R) → cw_X X 12 Q 0 L [] h := by
  have Fh0 : cw_Fr cw_Ds cw_sh kk_X0_release.2.2.2.2.2.1 h0 h0 := cw_Fr_refl
  have hP7 : ∀ h, cw_Fr cw_Ds cw_sh kk_X0_release.2.2.2.2.2.1 h0 h → cw_at h 53 7 = some (cv_r b) := fun h F => (F.2 53 0 7 rfl (by decide +kernel)).trans hp7
  have hl1 : 1 ≤ l ∧ (R.toInt ≠ 0 → l = R.toInt) ∧ (R.toInt = 0 → l = 1) := by rw [hRl]; split <;> omega
  intro st
  induction st with
  | nil =>
    intro c L h ho hE hT Fh hr hc hcc hco hc0 hl g0 g1
    have hc : ri_at h 53 2 = 0 := hc
    replace hco : ri_at h b 2 + zcb ([] : List Int) + zcu ([] : List Int) = kn := by rw [hcc]; exact hco
    replace hc0 : 0 ≤ ri_at h b 2 := by rw [hcc]; exact hc0
    replace hE : ([] : List Int) = st' := hE
    refine ex_al oq_X0_release_0 g0 ?_
    obtain ⟨x101, ax101, rx101, lx101, ux101⟩ := ri_fld (k := 53) (d := 0) (f := 2) hT rfl rfl rfl
    try dsimp only at lx101 ux101
    refine ex_gf oq_X0_release_1 hT (k := 53) (d := 0) rfl rfl ax101 ?_
    clear lx101 ux101
    have rx101 := (rx101.symm.trans hc : x101.toInt = 0)
    refine ex_if0 oq_X0_release_4 (t := 42) rfl rfl (fun (c102 : x101.toInt ≤ 0) => ?_) (fun (c102 : ¬ (x101.toInt ≤ 0)) => ?_)
    · exact ex_retv oq_X0_release_42 rfl (hQ h hT Fh (by rw [← hE]; exact hr) (by rw [← hE]; exact hc) (by rw [← hE]; exact hco) hc0)
    · exfalso; omega
  | cons a st ih =>
    intro c L h ho hE hT Fh hr hc hcc hco hc0 hl g0 g1
    have hc1 : ri_at h 53 2 = (st.length : Int) + 1 := hc.trans (by rw [List.length_cons]; omega)
    have hl2 : st.length + 1 ≤ 73 := hl
    have hw0 : c + zcb (a :: st) + zcu (a :: st) = kn := hco
    replace hco : ri_at h b 2 + zcb (a :: st) + zcu (a :: st) = kn := by rw [hcc]; exact hco
    have hcB := hc0
    replace hc0 : 0 ≤ ri_at h b 2 := by rw [hcc]; exact hc0
    refine ex_al oq_X0_release_0 g0 ?_
    obtain ⟨x201, ax201, rx201, lx201, ux201⟩ := ri_fld (k := 53) (d := 0) (f := 2) hT rfl rfl rfl
    try dsimp only at lx201 ux201
    refine ex_gf oq_X0_release_1 hT (k := 53) (d := 0) rfl rfl ax201 ?_
    clear lx201 ux201
    have rx201 := (rx201.symm.trans hc1 : x201.toInt = (st.length : Int) + 1)
    refine ex_if0 oq_X0_release_4 (t := 42) rfl rfl (fun (c202 : x201.toInt ≤ 0) => ?_) (fun (c202 : ¬ (x201.toInt ≤ 0)) => ?_)
    · exfalso; omega
    · refine ex_al oq_X0_release_7 g0 ?_
      refine ex_cv oq_X0_release_8 (by decide) hT (k := 53) (d := 0) (as := []) (stk := []) rfl rfl rfl rfl rfl rfl ⟨rfl, rfl⟩ (R := fun o => ∃ x : Int32, o = (some (cv_i x), h) ∧ x.toInt = zsi a) (ct_latest (a := a) (st := st) hT hr (by omega) (by omega) (fun x q => ⟨x, rfl, q⟩)) (fun o ho => ?_)
      obtain ⟨x203, rfl, qx203⟩ := ho
      show cw_X _ _ _ _ _ [cv_i x203] h
      refine ex_cs oq_X0_release_11 (by decide) (as := [cv_i x203]) (stk := []) rfl rfl rfl ⟨rfl, rfl⟩ (R := fun o => ∃ x : Int32, o = (some (cv_i x), h) ∧ x.toInt = zrn x203.toInt) (ct_rankOf x203 (fun x q => ⟨x, rfl, q⟩)) (fun o ho => ?_)
      obtain ⟨x204, rfl, qx204⟩ := ho
      show cw_X _ _ _ _ _ [cv_i x204] h
      refine ex_il oq_X0_release_14 g1 ?_
      refine ex_if oq_X0_release_15 (t := 42) rfl rfl (fun (c205 : x204.toInt < R.toInt) => ?_) (fun (c205 : ¬ (x204.toInt < R.toInt)) => ?_)
      · have hz := (qx204.trans (congrArg zrn qx203)).trans (zrn_i ho.1)
        have hzb := zrk_b (k := a)
        have hza := ho.1
        rw [zbi, if_neg (by split at hz <;> omega)] at hE
        exact ex_retv oq_X0_release_42 rfl (hQ h hT Fh (by rw [← hE]; exact hr) (by rw [← hE]; exact hc) (by rw [← hE]; exact hco) hc0)
      · have hz := (qx204.trans (congrArg zrn qx203)).trans (zrn_i ho.1)
        have hzb := zrk_b (k := a)
        have hza := ho.1
        refine ex_al oq_X0_release_18 g0 ?_
        refine ex_gf oq_X0_release_19 hT (k := 53) (d := 0) rfl rfl ((hP7 _ Fh)) ?_
        refine ex_al oq_X0_release_22 g0 ?_
        refine ex_cv oq_X0_release_23 (by decide) hT (k := 53) (d := 0) (as := []) (stk := [cv_r b]) rfl rfl rfl rfl rfl rfl ⟨rfl, rfl⟩ (R := fun o => ∃ x : Int32, o = (some (cv_i x), h) ∧ x.toInt = zsi a) (ct_latest (a := a) (st := st) hT hr (by omega) (by omega) (fun x q => ⟨x, rfl, q⟩)) (fun o ho => ?_)
        obtain ⟨x206, rfl, qx206⟩ := ho
        show cw_X _ _ _ _ _ [cv_i x206, cv_r b] h
        have ha1 : ¬ a = 0 := by intro q; rw [if_pos q] at hz; omega
        have hcx := zcz ho.1 ha1 (st := st)
        have hcn := (zc_len ho.2).2
        refine ex_cv oq_X0_release_26 (by decide) hT (k := b) (d := 4) (as := [cv_i x206]) (stk := []) hb4 rfl rfl rfl rfl rfl ⟨rfl, rfl⟩ (R := fun o => ∃ hb : cv_H, o = (none, hb) ∧ cw_T G hb ∧ cw_Fr cw_Ds cw_sh kk_X4_addCode.2.2.2.2.2.1 h hb ∧ ri_at hb b 2 = c + 1) (ct_addCode hT hb4 hcc (by omega) (by omega) (fun hb b1 b2 b3 => ⟨hb, rfl, b1, b2, b3⟩)) (fun o ho => ?_)
        obtain ⟨h207, rfl, Th207, Ch207, bh207⟩ := ho
        show cw_X _ _ _ _ _ [] h207
        have Fh207 : cw_Fr cw_Ds cw_sh kk_X0_release.2.2.2.2.2.1 h0 h207 := cw_Fr_tr Fh (cw_Fr_mono (by decide +kernel) Ch207)
        have eh207_53_2 : ri_at h207 53 2 = (st.length : Int) + 1 := (ri_frf Ch207 (k := 53) (d := 0) rfl rfl (by decide +kernel)).trans hc1
        have Rh207 := zrow_eq hr (fun i => ri_frr Ch207 (k := 54) (d := 16) rfl rfl (by decide +kernel))
        refine ex_al oq_X0_release_29 g0 ?_
        refine ex_dup oq_X0_release_30 rfl ?_
        obtain ⟨x208, ax208, rx208, lx208, ux208⟩ := ri_fld (k := 53) (d := 0) (f := 2) Th207 rfl rfl rfl
        try dsimp only at lx208 ux208
        refine ex_gf oq_X0_release_31 Th207 (k := 53) (d := 0) rfl rfl ax208 ?_
        clear lx208 ux208
        have rx208 := (rx208.symm.trans eh207_53_2 : x208.toInt = (st.length : Int) + 1)
        refine ex_ic oq_X0_release_34 (m := 1) (by decide) (fun x209 hx209 => ?_)
        refine ex_sub oq_X0_release_35 (by omega) (fun x210 hx210 => ?_)
        refine ex_pfi oq_X0_release_36 Th207 (k := 53) (d := 0) rfl rfl rfl (cw_i32 _).1 (cw_i32 _).2 (fun h211 Th211 wh211 => ?_)
        have Fh211 : cw_Fr cw_Ds cw_sh kk_X0_release.2.2.2.2.2.1 h0 h211 := cw_Fr_tr Fh207 (cw_Fr_wrf wh211 (k := 53) (d := 0) rfl rfl (by decide +kernel))
        have eh211_53_2 : ri_at h211 53 2 = x210.toInt := ri_self wh211
        have eh211_b_2 : ri_at h211 b 2 = c + 1 := (ri_ne wh211 (.inl (cw_kne (k := b) (d := 4) (k' := 53) (d' := 0) hb4 rfl (by decide)))).trans bh207
        have Rh211 := zrow_eq Rh207 (fun i => ri_ne wh211 (.inl (by decide)))
        refine ex_go oq_X0_release_39 (t := 0) rfl rfl ?_
        have ha0 : ¬ a = 0 := by intro q; rw [if_pos q] at hz; omega
        rw [if_neg ha0] at hz
        rw [zbi, if_pos (by omega)] at hE
        have hcz : zcb (a :: st) + zcu (a :: st) = zcb st + zcu st + 1 := zcz ho.1 ha0
        exact ih (c + 1) L h211 ho.2 hE Th211 Fh211 (zrow_tail Rh211) (by omega) eh211_b_2 (by omega) (by omega) (by omega) g0 g1
theorem ct_release {h0 : cv_H} {b : Nat} (hb4 : cw_sh[b]? = some 4) (hp7 : cw_at h0 53 7 = some (cv_r b)) {R : Int32} {kn : Int} {st : List Int} (hT : cw_T G h0) (hk64 : kn ≤ 64) (hR0 : 0 ≤ R.toInt) (ho : zok st) (hr : zrow h0 54 (st.map zsi)) (hc : ri_at h0 53 2 = st.length) (hco : ri_at h0 b 2 + zcb st + zcu st = kn) (hc0 : 0 ≤ ri_at h0 b 2) (hl : st.length ≤ 73) (hQ : ∀ h', cw_T G h' → cw_Fr cw_Ds cw_sh kk_X0_release.2.2.2.2.2.1 h0 h' → zrow h' 54 ((zbi (if R.toInt = 0 then 1 else R.toInt) st).map zsi) → ri_at h' 53 2 = (zbi (if R.toInt = 0 then 1 else R.toInt) st).length → ri_at h' b 2 + zcb (zbi (if R.toInt = 0 then 1 else R.toInt) st) + zcu (zbi (if R.toInt = 0 then 1 else R.toInt) st) = kn → 0 ≤ ri_at h' b 2 → Q (none, h')) : cw_X X 12 Q 0 (cv_ent 0 [cv_r 53, cv_i R]) [] h0 :=
  rl_lp hb4 hp7 hk64 hR0 rfl hQ st _ _ _ ho rfl hT cw_Fr_refl hr hc rfl hco hc0 hl rfl rfl
end TZ
