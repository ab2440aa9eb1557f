/-- the row of numbers that count tells -/
def zcnv (ng nw nc : Nat) (kn W c k : Int) (m : Nat) (A : Int) (j : Nat) : Int := ([(ng : Int), (nw : Int), (nc : Int), kn, W, c, (if k = -1 then c else k), (m : Int), A] : List Int).getD j 0
def zCnt (a : Nat → Int) (what : Int) : Int := if 0 ≤ what ∧ what ≤ 8 then a what.toNat else -1
theorem zCnt_i {a : Nat → Int} {what : Int} {k : Nat} (h : what = k) (hk : k < 9) : zCnt a what = a k := by
  subst h
  unfold zCnt
  rw [if_pos ⟨by omega, by omega⟩]
  rfl
theorem zCnt_d {a : Nat → Int} {what : Int} (h : ¬ (0 ≤ what ∧ what ≤ 8)) : zCnt a what = -1 := if_neg h
section GN
variable {G : Int} {X : cv_X} {Q : cv_O → Prop} {h0 h : cv_H}
theorem oq_X3_knownCount_0 : cw_ho 42 0 (.aload_n 0) 1 0 0 0 := rfl
theorem oq_X3_knownCount_1 : cw_ho 42 1 (.getfield 37) 3 3 10 0 := rfl
theorem oq_X3_knownCount_4 : cw_ho 42 4 (.iconst (-1)) 1 0 0 0 := rfl
theorem oq_X3_knownCount_5 : cw_ho 42 5 (.if_icmp .ne 10) 3 0 0 0 := rfl
theorem oq_X3_knownCount_8 : cw_ho 42 8 (.aload_n 0) 1 0 0 0 := rfl
theorem oq_X3_knownCount_9 : cw_ho 42 9 (.getfield 41) 3 3 9 0 := rfl
theorem oq_X3_knownCount_12 : cw_ho 42 12 (.goto 7) 3 0 0 0 := rfl
theorem oq_X3_knownCount_15 : cw_ho 42 15 (.aload_n 0) 1 0 0 0 := rfl
theorem oq_X3_knownCount_16 : cw_ho 42 16 (.getfield 37) 3 3 10 0 := rfl
theorem oq_X3_knownCount_19 : cw_ho 42 19 (.ireturn) 1 0 0 0 := rfl
theorem cq_knC (hT : cw_T G h) {c k : Int} (hc : ri_at h 86 9 = c) (hk : ri_at h 86 10 = k) (hQ : ∀ x : Int32, x.toInt = (if k = -1 then c else k) → Q (some (cv_i x), h)) : cw_X X 42 Q 0 (cv_ent 0 [cv_r 86]) [] h := by
  refine ex_al oq_X3_knownCount_0 rfl ?_
  obtain ⟨x101, ax101, rx101, lx101, ux101⟩ := ri_fld (k := 86) (d := 3) (f := 10) hT rfl rfl rfl
  try dsimp only at lx101 ux101
  refine ex_gf oq_X3_knownCount_1 hT (k := 86) (d := 3) rfl rfl ax101 ?_
  have rx101 := (rx101.symm.trans hk : x101.toInt = k)
  refine ex_ic oq_X3_knownCount_4 (m := (-1)) (by decide) (fun x102 hx102 => ?_)
  refine ex_if oq_X3_knownCount_5 (t := 15) rfl rfl (fun (c103 : ¬ x101.toInt = x102.toInt) => ?_) (fun (c103 : ¬ (¬ x101.toInt = x102.toInt)) => ?_)
  · refine ex_al oq_X3_knownCount_15 rfl ?_
    obtain ⟨x104, ax104, rx104, lx104, ux104⟩ := ri_fld (k := 86) (d := 3) (f := 10) hT rfl rfl rfl
    try dsimp only at lx104 ux104
    refine ex_gf oq_X3_knownCount_16 hT (k := 86) (d := 3) rfl rfl ax104 ?_
    have rx104 := (rx104.symm.trans hk : x104.toInt = k)
    exact ex_reti oq_X3_knownCount_19 rfl (hQ x104 (by rw [if_neg (show ¬ k = -1 by omega)]; omega))
  · refine ex_al oq_X3_knownCount_8 rfl ?_
    obtain ⟨x105, ax105, rx105, lx105, ux105⟩ := ri_fld (k := 86) (d := 3) (f := 9) hT rfl rfl rfl
    try dsimp only at lx105 ux105
    refine ex_gf oq_X3_knownCount_9 hT (k := 86) (d := 3) rfl rfl ax105 ?_
    have rx105 := (rx105.symm.trans hc : x105.toInt = c)
    refine ex_go oq_X3_knownCount_12 (t := 19) rfl rfl ?_
    exact ex_reti oq_X3_knownCount_19 rfl (hQ x105 (by rw [if_pos (show k = -1 by omega)]; omega))
theorem oq_X12_knownMany_0 : cw_ho 241 0 (.aload_n 0) 1 0 0 0 := rfl
theorem oq_X12_knownMany_1 : cw_ho 241 1 (.getfield 88) 3 12 53 0 := rfl
theorem oq_X12_knownMany_4 : cw_ho 241 4 (.ifCond .ge 10) 3 0 0 0 := rfl
theorem oq_X12_knownMany_7 : cw_ho 241 7 (.aload_n 0) 1 0 0 0 := rfl
theorem oq_X12_knownMany_8 : cw_ho 241 8 (.getfield 243) 3 12 52 0 := rfl
theorem oq_X12_knownMany_11 : cw_ho 241 11 (.goto 7) 3 0 0 0 := rfl
theorem oq_X12_knownMany_14 : cw_ho 241 14 (.aload_n 0) 1 0 0 0 := rfl
theorem oq_X12_knownMany_15 : cw_ho 241 15 (.getfield 88) 3 12 53 0 := rfl
theorem oq_X12_knownMany_18 : cw_ho 241 18 (.ireturn) 1 0 0 0 := rfl
theorem rq_knM (hT : cw_T G h) {c k : Int} (hc : ri_at h 111 52 = c) (hk : ri_at h 111 53 = k) (hkr : -1 ≤ k) (hQ : ∀ x : Int32, x.toInt = (if k = -1 then c else k) → Q (some (cv_i x), h)) : cw_X X 241 Q 0 (cv_ent 0 [cv_r 111]) [] h := by
  refine ex_al oq_X12_knownMany_0 rfl ?_
  obtain ⟨x101, ax101, rx101, lx101, ux101⟩ := fi_seenBy hT
  refine ex_gf oq_X12_knownMany_1 hT (k := 111) (d := 12) rfl rfl ax101 ?_
  have rx101 := (rx101.symm.trans hk : x101.toInt = k)
  refine ex_if0 oq_X12_knownMany_4 (t := 14) rfl rfl (fun (c102 : 0 ≤ x101.toInt) => ?_) (fun (c102 : ¬ (0 ≤ x101.toInt)) => ?_)
  · refine ex_al oq_X12_knownMany_14 rfl ?_
    obtain ⟨x103, ax103, rx103, lx103, ux103⟩ := fi_seenBy hT
    refine ex_gf oq_X12_knownMany_15 hT (k := 111) (d := 12) rfl rfl ax103 ?_
    have rx103 := (rx103.symm.trans hk : x103.toInt = k)
    exact ex_reti oq_X12_knownMany_18 rfl (hQ x103 (by rw [if_neg (show ¬ k = -1 by omega)]; omega))
  · refine ex_al oq_X12_knownMany_7 rfl ?_
    obtain ⟨x104, ax104, rx104, lx104, ux104⟩ := fi_measures hT
    refine ex_gf oq_X12_knownMany_8 hT (k := 111) (d := 12) rfl rfl ax104 ?_
    have rx104 := (rx104.symm.trans hc : x104.toInt = c)
    refine ex_go oq_X12_knownMany_11 (t := 18) rfl rfl ?_
    exact ex_reti oq_X12_knownMany_18 rfl (hQ x104 (by rw [if_pos (show k = -1 by omega)]; omega))
theorem oq_X11_costOfAllDone_4 : cw_ho 153 4 (.iload_n 2) 1 0 0 0 := rfl
theorem oq_X11_costOfAllDone_5 : cw_ho 153 5 (.aload_n 0) 1 0 0 0 := rfl
theorem oq_X11_costOfAllDone_6 : cw_ho 153 6 (.getfield 18) 3 11 2 4 := rfl
theorem oq_X11_costOfAllDone_9 : cw_ho 153 9 (.getfield 134) 3 4 9 0 := rfl
theorem oq_X11_costOfAllDone_12 : cw_ho 153 12 (.if_icmp .ge 37) 3 0 0 0 := rfl
theorem oq_X11_costOfAllDone_15 : cw_ho 153 15 (.iload_n 2) 1 0 0 0 := rfl
theorem oq_X11_costOfAllDone_16 : cw_ho 153 16 (.aload_n 0) 1 0 0 0 := rfl
theorem oq_X11_costOfAllDone_17 : cw_ho 153 17 (.getfield 50) 3 11 7 4 := rfl
theorem oq_X11_costOfAllDone_20 : cw_ho 153 20 (.arraylength) 1 0 0 0 := rfl
theorem oq_X11_costOfAllDone_21 : cw_ho 153 21 (.if_icmp .ge 28) 3 0 0 0 := rfl
theorem oq_X11_costOfAllDone_24 : cw_ho 153 24 (.iload_n 1) 1 0 0 0 := rfl
theorem oq_X11_costOfAllDone_25 : cw_ho 153 25 (.aload_n 0) 1 0 0 0 := rfl
theorem oq_X11_costOfAllDone_26 : cw_ho 153 26 (.getfield 18) 3 11 2 4 := rfl
theorem oq_X11_costOfAllDone_29 : cw_ho 153 29 (.aload_n 0) 1 0 0 0 := rfl
theorem oq_X11_costOfAllDone_30 : cw_ho 153 30 (.getfield 50) 3 11 7 4 := rfl
theorem oq_X11_costOfAllDone_33 : cw_ho 153 33 (.iload_n 2) 1 0 0 0 := rfl
theorem oq_X11_costOfAllDone_34 : cw_ho 153 34 (.aaload) 1 0 0 0 := rfl
theorem oq_X11_costOfAllDone_35 : cw_ho 153 35 (.getfield 202) 3 1 10 0 := rfl
theorem oq_X11_costOfAllDone_38 : cw_ho 153 38 (.invokevirtual 289) 3 55 1 4 := rfl
theorem oq_X11_costOfAllDone_41 : cw_ho 153 41 (.iadd) 1 0 0 0 := rfl
theorem oq_X11_costOfAllDone_42 : cw_ho 153 42 (.istore_n 1) 1 0 0 0 := rfl
theorem oq_X11_costOfAllDone_43 : cw_ho 153 43 (.iinc 2 1) 3 0 0 0 := rfl
theorem oq_X11_costOfAllDone_46 : cw_ho 153 46 (.goto (-42)) 3 0 0 0 := rfl
theorem oq_X11_costOfAllDone_49 : cw_ho 153 49 (.iload_n 1) 1 0 0 0 := rfl
theorem oq_X11_costOfAllDone_50 : cw_ho 153 50 (.ireturn) 1 0 0 0 := rfl
theorem cq_cadL (hT : cw_T G h) {b ng nw : Nat} {γs : Nat → Nat → Int} (hb : b = 2 ∨ b = 26) (hng : ng ≤ 4) (hg9 : ri_at h b 9 = ng) (hp2 : cw_at h 0 2 = some (cv_r b)) (kC : zKC h) (kQ : zKQ h b) (hn : ri_at h b 14 = nw) (hnw : nw ≤ 6) {wc : Nat → Int} (hw : ∀ w, w < nw → ri_at h (b + 9) w = wc w) (hwb : ∀ w, w < nw → 1 ≤ wc w ∧ wc w ≤ 999) (sG : zKG h b ng (fun g => 103 + 2 * g) γs) (r10 : ∀ g, g < ng → 0 ≤ γs g 10 ∧ γs g 10 < 64) (hk0 : cw_sh[b]? = some 4) (hQ : ∀ x : Int32, x.toInt = zCA2 wc nw (fun g => γs g 10) ng → Q (some (cv_i x), h)) : ∀ (fu c : Nat) (M C : Int32) (L : cv_L), ng - c = fu → c ≤ ng → C.toInt = c → M.toInt = zCA2 wc nw (fun g => γs g 10) c → cv_get L 0 = some (cv_r 0) → cv_get L 1 = some (cv_i M) → cv_get L 2 = some (cv_i C) → cw_X X 153 Q 4 L [] h := by
  intro fu
  induction fu with
  | zero =>
    intro c M C L hf hcn hC hM g0 g1 g2
    refine ex_il oq_X11_costOfAllDone_4 g2 ?_
    refine ex_al oq_X11_costOfAllDone_5 g0 ?_
    refine ex_gf oq_X11_costOfAllDone_6 hT (k := 0) (d := 11) rfl rfl (hp2) ?_
    obtain ⟨x101, ax101, rx101, lx101, ux101⟩ := ri_fld (k := b) (d := 4) (f := 9) hT hk0 rfl rfl
    try dsimp only at lx101 ux101
    refine ex_gf oq_X11_costOfAllDone_9 hT (k := b) (d := 4) hk0 rfl ax101 ?_
    have rx101 := (rx101.symm.trans hg9 : x101.toInt = (ng : Int))
    refine ex_if oq_X11_costOfAllDone_12 (t := 49) rfl rfl (fun (c102 : x101.toInt ≤ C.toInt) => ?_) (fun (c102 : ¬ (x101.toInt ≤ C.toInt)) => ?_)
    · refine ex_il oq_X11_costOfAllDone_49 g1 ?_
      exact ex_reti oq_X11_costOfAllDone_50 rfl (hQ M (by rw [hM, show c = ng from by omega]))
    · exfalso; omega
  | succ fu ih =>
    intro c M C L hf hcn hC hM g0 g1 g2
    have mb := zCA2_b (D := fun g => γs g 10) hnw hwb c
    have mb2 := zCo_b (S := (γs c 10).toNat) nw hwb
    refine ex_il oq_X11_costOfAllDone_4 g2 ?_
    refine ex_al oq_X11_costOfAllDone_5 g0 ?_
    refine ex_gf oq_X11_costOfAllDone_6 hT (k := 0) (d := 11) rfl rfl (hp2) ?_
    obtain ⟨x101, ax101, rx101, lx101, ux101⟩ := ri_fld (k := b) (d := 4) (f := 9) hT hk0 rfl rfl
    try dsimp only at lx101 ux101
    refine ex_gf oq_X11_costOfAllDone_9 hT (k := b) (d := 4) hk0 rfl ax101 ?_
    have rx101 := (rx101.symm.trans hg9 : x101.toInt = (ng : Int))
    refine ex_if oq_X11_costOfAllDone_12 (t := 49) rfl rfl (fun (c102 : x101.toInt ≤ C.toInt) => ?_) (fun (c102 : ¬ (x101.toInt ≤ C.toInt)) => ?_)
    · exfalso; omega
    · refine ex_il oq_X11_costOfAllDone_15 g2 ?_
      refine ex_al oq_X11_costOfAllDone_16 g0 ?_
      refine ex_gf oq_X11_costOfAllDone_17 hT (k := 0) (d := 11) rfl rfl (ri_ref (k := 0) (k' := 61) (d := 11) (f := 7) hT rfl rfl rfl (by decide) (ri_uniq (by decide +kernel))) ?_
      refine ex_lenr oq_X11_costOfAllDone_20 hT (k := 61) (d := 14) rfl rfl (by decide) (fun x103 hx103 => ?_)
      refine ex_if oq_X11_costOfAllDone_21 (t := 49) rfl rfl (fun (c104 : x103.toInt ≤ C.toInt) => ?_) (fun (c104 : ¬ (x103.toInt ≤ C.toInt)) => ?_)
      · exfalso; omega
      · refine ex_il oq_X11_costOfAllDone_24 g1 ?_
        refine ex_al oq_X11_costOfAllDone_25 g0 ?_
        refine ex_gf oq_X11_costOfAllDone_26 hT (k := 0) (d := 11) rfl rfl (hp2) ?_
        refine ex_al oq_X11_costOfAllDone_29 g0 ?_
        refine ex_gf oq_X11_costOfAllDone_30 hT (k := 0) (d := 11) rfl rfl (ri_ref (k := 0) (k' := 61) (d := 11) (f := 7) hT rfl rfl rfl (by decide) (ri_uniq (by decide +kernel))) ?_
        refine ex_il oq_X11_costOfAllDone_33 g2 ?_
        have hcl : c < ng := by omega
        have hK1 := (sh_gt (g := c) (by omega)).1
        refine ex_aa oq_X11_costOfAllDone_34 hT (k := 61) (d := 14) (j := c) rfl rfl (by omega) (by omega) (fun k106 ak106 sk106 => ?_)
        have ek106 : k106 = 103 + 2 * c := rk_inj (ak106.symm.trans (kC c (by omega)).1)
        subst ek106
        obtain ⟨x107, ax107, rx107, lx107, ux107⟩ := ri_fld (k := (103 + 2 * c)) (d := 1) (f := 10) hT hK1 rfl rfl
        try dsimp only at lx107 ux107
        refine ex_gf oq_X11_costOfAllDone_35 hT (k := (103 + 2 * c)) (d := 1) hK1 rfl ax107 ?_
        clear lx107 ux107
        have rx107 := (rx107.symm.trans ((sG c hcl).1 10 (by decide)) : x107.toInt = γs c 10)
        have rc := r10 c hcl
        refine ex_cv oq_X11_costOfAllDone_38 (by decide) hT (k := b) (d := 4) (as := [cv_i x107]) (stk := [cv_i M]) hk0 rfl rfl rfl rfl rfl ⟨rfl, rfl⟩ (R := fun o => ∃ x : Int32, o = (some (cv_i x), h) ∧ x.toInt = zCo wc (γs c 10).toNat nw) (cg_costOf hT hk0 (zKi_9 hb).2.1 kQ.2.1 hn hnw hw hwb (show x107.toInt = ((γs c 10).toNat : Int) by omega) (by omega) (fun x q => ⟨x, rfl, q⟩)) (fun o ho => ?_)
        obtain ⟨x108, rfl, hx108⟩ := ho
        show cw_X _ _ _ _ _ [cv_i x108, cv_i M] h
        refine ex_add oq_X11_costOfAllDone_41 (by omega) (fun x109 hx109 => ?_)
        refine ex_isA oq_X11_costOfAllDone_42 (fun L110 gL110_1 kL110 => ?_)
        have gL110_0 : cv_get L110 0 = some (cv_r 0) := kL110 0 _ (by decide) (fun _ => rfl) g0
        have gL110_2 : cv_get L110 2 = some (cv_i C) := kL110 2 _ (by decide) (fun q => absurd q (by decide)) g2
        refine ex_incA oq_X11_costOfAllDone_43 (v := C) (m := 1) gL110_2 (by decide) (by omega) (fun L112 x111 hx111 gL112_2 kL112 => ?_)
        have gL112_1 : cv_get L112 1 = some (cv_i x109) := kL112 1 _ (by decide) (fun _ => rfl) gL110_1
        have gL112_0 : cv_get L112 0 = some (cv_r 0) := kL112 0 _ (by decide) (fun q => absurd q (by decide)) gL110_0
        refine ex_go oq_X11_costOfAllDone_46 (t := 4) rfl rfl ?_
        exact ih (c + 1) x109 x111 L112 (by omega) (by omega) (by omega) (by show _ = zCA2 wc nw _ c + zCo wc (γs c 10).toNat nw; omega) gL112_0 gL112_1 gL112_2
theorem oq_X11_costOfAllDone_0 : cw_ho 153 0 (.iconst 0) 1 0 0 0 := rfl
theorem oq_X11_costOfAllDone_1 : cw_ho 153 1 (.istore_n 1) 1 0 0 0 := rfl
theorem oq_X11_costOfAllDone_2 : cw_ho 153 2 (.iconst 0) 1 0 0 0 := rfl
theorem oq_X11_costOfAllDone_3 : cw_ho 153 3 (.istore_n 2) 1 0 0 0 := rfl
theorem cq_cad (hT : cw_T G h) {b ng nw : Nat} {γs : Nat → Nat → Int} (hb : b = 2 ∨ b = 26) (hng : ng ≤ 4) (hg9 : ri_at h b 9 = ng) (hp2 : cw_at h 0 2 = some (cv_r b)) (kC : zKC h) (kQ : zKQ h b) (hn : ri_at h b 14 = nw) (hnw : nw ≤ 6) {wc : Nat → Int} (hw : ∀ w, w < nw → ri_at h (b + 9) w = wc w) (hwb : ∀ w, w < nw → 1 ≤ wc w ∧ wc w ≤ 999) (sG : zKG h b ng (fun g => 103 + 2 * g) γs) (r10 : ∀ g, g < ng → 0 ≤ γs g 10 ∧ γs g 10 < 64) (hQ : ∀ x : Int32, x.toInt = zCA2 wc nw (fun g => γs g 10) ng → Q (some (cv_i x), h)) : cw_X X 153 Q 0 (cv_ent 0 [cv_r 0]) [] h := by
  have hk0 := (zKi hb).1
  refine ex_ic oq_X11_costOfAllDone_0 (m := 0) (by decide) (fun x101 hx101 => ?_)
  refine ex_isA oq_X11_costOfAllDone_1 (fun L102 gL102_1 kL102 => ?_)
  have gL102_0 : cv_get L102 0 = some (cv_r 0) := kL102 0 _ (by decide) (fun _ => rfl) rfl
  refine ex_ic oq_X11_costOfAllDone_2 (m := 0) (by decide) (fun x103 hx103 => ?_)
  refine ex_isA oq_X11_costOfAllDone_3 (fun L104 gL104_2 kL104 => ?_)
  have gL104_1 : cv_get L104 1 = some (cv_i x101) := kL104 1 _ (by decide) (fun _ => rfl) gL102_1
  have gL104_0 : cv_get L104 0 = some (cv_r 0) := kL104 0 _ (by decide) (fun q => absurd q (by decide)) gL102_0
  exact cq_cadL hT hb hng hg9 hp2 kC kQ hn hnw hw hwb sG r10 hk0 hQ ng 0 x101 x103 L104 (by omega) (by omega) (by omega) (by show _ = (0 : Int); omega) gL104_0 gL104_1 gL104_2
theorem oq_X11_count_0 : cw_ho 152 0 (.iload_n 1) 1 0 0 0 := rfl
theorem oq_X11_count_1 : cw_ho 152 1 (.tableswitch 117 0 8 #[51, 59, 67, 75, 83, 88, 96, 104, 112]) 51 0 0 0 := rfl
theorem oq_X11_count_52 : cw_ho 152 52 (.aload_n 0) 1 0 0 0 := rfl
theorem oq_X11_count_53 : cw_ho 152 53 (.getfield 18) 3 11 2 4 := rfl
theorem oq_X11_count_56 : cw_ho 152 56 (.getfield 134) 3 4 9 0 := rfl
theorem oq_X11_count_59 : cw_ho 152 59 (.ireturn) 1 0 0 0 := rfl
theorem oq_X11_count_60 : cw_ho 152 60 (.aload_n 0) 1 0 0 0 := rfl
theorem oq_X11_count_61 : cw_ho 152 61 (.getfield 18) 3 11 2 4 := rfl
theorem oq_X11_count_64 : cw_ho 152 64 (.getfield 144) 3 4 14 0 := rfl
theorem oq_X11_count_67 : cw_ho 152 67 (.ireturn) 1 0 0 0 := rfl
theorem oq_X11_count_68 : cw_ho 152 68 (.aload_n 0) 1 0 0 0 := rfl
theorem oq_X11_count_69 : cw_ho 152 69 (.getfield 18) 3 11 2 4 := rfl
theorem oq_X11_count_72 : cw_ho 152 72 (.getfield 150) 3 4 19 0 := rfl
theorem oq_X11_count_75 : cw_ho 152 75 (.ireturn) 1 0 0 0 := rfl
theorem oq_X11_count_76 : cw_ho 152 76 (.aload_n 0) 1 0 0 0 := rfl
theorem oq_X11_count_77 : cw_ho 152 77 (.getfield 18) 3 11 2 4 := rfl
theorem oq_X11_count_80 : cw_ho 152 80 (.getfield 398) 3 4 3 0 := rfl
theorem oq_X11_count_83 : cw_ho 152 83 (.ireturn) 1 0 0 0 := rfl
theorem oq_X11_count_84 : cw_ho 152 84 (.aload_n 0) 1 0 0 0 := rfl
theorem oq_X11_count_85 : cw_ho 152 85 (.getfield 117) 3 11 8 0 := rfl
theorem oq_X11_count_88 : cw_ho 152 88 (.ireturn) 1 0 0 0 := rfl
theorem oq_X11_count_89 : cw_ho 152 89 (.aload_n 0) 1 0 0 0 := rfl
theorem oq_X11_count_90 : cw_ho 152 90 (.getfield 73) 3 11 12 4 := rfl
theorem oq_X11_count_93 : cw_ho 152 93 (.getfield 327) 3 3 9 0 := rfl
theorem oq_X11_count_96 : cw_ho 152 96 (.ireturn) 1 0 0 0 := rfl
theorem oq_X11_count_97 : cw_ho 152 97 (.aload_n 0) 1 0 0 0 := rfl
theorem oq_X11_count_98 : cw_ho 152 98 (.getfield 73) 3 11 12 4 := rfl
theorem oq_X11_count_101 : cw_ho 152 101 (.invokevirtual 401) 3 42 0 3 := rfl
theorem oq_X11_count_104 : cw_ho 152 104 (.ireturn) 1 0 0 0 := rfl
theorem oq_X11_count_105 : cw_ho 152 105 (.aload_n 0) 1 0 0 0 := rfl
theorem oq_X11_count_106 : cw_ho 152 106 (.getfield 66) 3 11 11 4 := rfl
theorem oq_X11_count_109 : cw_ho 152 109 (.getfield 273) 3 10 2 0 := rfl
theorem oq_X11_count_112 : cw_ho 152 112 (.ireturn) 1 0 0 0 := rfl
theorem oq_X11_count_113 : cw_ho 152 113 (.aload_n 0) 1 0 0 0 := rfl
theorem oq_X11_count_114 : cw_ho 152 114 (.invokevirtual 404) 3 153 0 11 := rfl
theorem oq_X11_count_117 : cw_ho 152 117 (.ireturn) 1 0 0 0 := rfl
theorem oq_X11_count_118 : cw_ho 152 118 (.iconst (-1)) 1 0 0 0 := rfl
theorem oq_X11_count_119 : cw_ho 152 119 (.ireturn) 1 0 0 0 := rfl
theorem cq_count (hT : cw_T G h) {b ng nw : Nat} {γs : Nat → Nat → Int} (hb : b = 2 ∨ b = 26) (hng : ng ≤ 4) (hg9 : ri_at h b 9 = ng) (hp2 : cw_at h 0 2 = some (cv_r b)) (kC : zKC h) (kQ : zKQ h b) (hn : ri_at h b 14 = nw) (hnw : nw ≤ 6) {wc : Nat → Int} (hw : ∀ w, w < nw → ri_at h (b + 9) w = wc w) (hwb : ∀ w, w < nw → 1 ≤ wc w ∧ wc w ≤ 999) (sG : zKG h b ng (fun g => 103 + 2 * g) γs) (r10 : ∀ g, g < ng → 0 ≤ γs g 10 ∧ γs g 10 < 64) {nc m : Nat} {kn W c k : Int} (hnc : ri_at h b 19 = nc) (hkn : ri_at h b 3 = kn) (hW : ri_at h 0 8 = W) (hc : ri_at h 86 9 = c) (hk : ri_at h 86 10 = k) (hm : ri_at h 63 2 = m) {what : Int32} (hQ : ∀ x : Int32, x.toInt = zCnt (zcnv ng nw nc kn W c k m (zCA2 wc nw (fun g => γs g 10) ng)) what.toInt → Q (some (cv_i x), h)) : cw_X X 152 Q 0 (cv_ent 0 [cv_r 0, cv_i what]) [] h := by
  have hk0 := (zKi hb).1
  refine ex_il oq_X11_count_0 rfl ?_
  refine ex_tsw oq_X11_count_1 rfl (fun c101 => ⟨rfl, ?_⟩) (fun i hi c101 => ?_)
  · show cw_X _ _ _ 118 _ _ _
    refine ex_ic oq_X11_count_118 (m := (-1)) (by decide) (fun x102 hx102 => ?_)
    exact ex_reti oq_X11_count_119 rfl (hQ x102 (by rw [zCnt_d (by omega)]; omega))
  · match i, hi, c101 with
    | 0, _, c101 =>
      refine ⟨rfl, ?_⟩
      show cw_X _ _ _ 52 _ _ _
      refine ex_al oq_X11_count_52 rfl ?_
      refine ex_gf oq_X11_count_53 hT (k := 0) (d := 11) rfl rfl (hp2) ?_
      obtain ⟨x103, ax103, rx103, lx103, ux103⟩ := ri_fld (k := b) (d := 4) (f := 9) hT hk0 rfl rfl
      try dsimp only at lx103 ux103
      refine ex_gf oq_X11_count_56 hT (k := b) (d := 4) hk0 rfl ax103 ?_
      have rx103 := (rx103.symm.trans hg9 : x103.toInt = (ng : Int))
      exact ex_reti oq_X11_count_59 rfl (hQ x103 (by rw [zCnt_i (k := 0) (by omega) (by decide)]; exact rx103))
    | 1, _, c101 =>
      refine ⟨rfl, ?_⟩
      show cw_X _ _ _ 60 _ _ _
      refine ex_al oq_X11_count_60 rfl ?_
      refine ex_gf oq_X11_count_61 hT (k := 0) (d := 11) rfl rfl (hp2) ?_
      obtain ⟨x104, ax104, rx104, lx104, ux104⟩ := ri_fld (k := b) (d := 4) (f := 14) hT hk0 rfl rfl
      try dsimp only at lx104 ux104
      refine ex_gf oq_X11_count_64 hT (k := b) (d := 4) hk0 rfl ax104 ?_
      have rx104 := (rx104.symm.trans hn : x104.toInt = (nw : Int))
      exact ex_reti oq_X11_count_67 rfl (hQ x104 (by rw [zCnt_i (k := 1) (by omega) (by decide)]; exact rx104))
    | 2, _, c101 =>
      refine ⟨rfl, ?_⟩
      show cw_X _ _ _ 68 _ _ _
      refine ex_al oq_X11_count_68 rfl ?_
      refine ex_gf oq_X11_count_69 hT (k := 0) (d := 11) rfl rfl (hp2) ?_
      obtain ⟨x105, ax105, rx105, lx105, ux105⟩ := ri_fld (k := b) (d := 4) (f := 19) hT hk0 rfl rfl
      try dsimp only at lx105 ux105
      refine ex_gf oq_X11_count_72 hT (k := b) (d := 4) hk0 rfl ax105 ?_
      have rx105 := (rx105.symm.trans hnc : x105.toInt = (nc : Int))
      exact ex_reti oq_X11_count_75 rfl (hQ x105 (by rw [zCnt_i (k := 2) (by omega) (by decide)]; exact rx105))
    | 3, _, c101 =>
      refine ⟨rfl, ?_⟩
      show cw_X _ _ _ 76 _ _ _
      refine ex_al oq_X11_count_76 rfl ?_
      refine ex_gf oq_X11_count_77 hT (k := 0) (d := 11) rfl rfl (hp2) ?_
      obtain ⟨x106, ax106, rx106, lx106, ux106⟩ := ri_fld (k := b) (d := 4) (f := 3) hT hk0 rfl rfl
      try dsimp only at lx106 ux106
      refine ex_gf oq_X11_count_80 hT (k := b) (d := 4) hk0 rfl ax106 ?_
      clear lx106 ux106
      have rx106 := (rx106.symm.trans hkn : x106.toInt = kn)
      exact ex_reti oq_X11_count_83 rfl (hQ x106 (by rw [zCnt_i (k := 3) (by omega) (by decide)]; exact rx106))
    | 4, _, c101 =>
      refine ⟨rfl, ?_⟩
      show cw_X _ _ _ 84 _ _ _
      refine ex_al oq_X11_count_84 rfl ?_
      obtain ⟨x107, ax107, rx107, lx107, ux107⟩ := ri_fld (k := 0) (d := 11) (f := 8) hT rfl rfl rfl
      try dsimp only at lx107 ux107
      refine ex_gf oq_X11_count_85 hT (k := 0) (d := 11) rfl rfl ax107 ?_
      have rx107 := (rx107.symm.trans hW : x107.toInt = W)
      exact ex_reti oq_X11_count_88 rfl (hQ x107 (by rw [zCnt_i (k := 4) (by omega) (by decide)]; exact rx107))
    | 5, _, c101 =>
      refine ⟨rfl, ?_⟩
      show cw_X _ _ _ 89 _ _ _
      refine ex_al oq_X11_count_89 rfl ?_
      refine ex_gf oq_X11_count_90 hT (k := 0) (d := 11) rfl rfl (ri_ref (k := 0) (k' := 86) (d := 11) (f := 12) hT rfl rfl rfl (by decide) (ri_uniq (by decide +kernel))) ?_
      obtain ⟨x108, ax108, rx108, lx108, ux108⟩ := ri_fld (k := 86) (d := 3) (f := 9) hT rfl rfl rfl
      try dsimp only at lx108 ux108
      refine ex_gf oq_X11_count_93 hT (k := 86) (d := 3) rfl rfl ax108 ?_
      have rx108 := (rx108.symm.trans hc : x108.toInt = c)
      exact ex_reti oq_X11_count_96 rfl (hQ x108 (by rw [zCnt_i (k := 5) (by omega) (by decide)]; exact rx108))
    | 6, _, c101 =>
      refine ⟨rfl, ?_⟩
      show cw_X _ _ _ 97 _ _ _
      refine ex_al oq_X11_count_97 rfl ?_
      refine ex_gf oq_X11_count_98 hT (k := 0) (d := 11) rfl rfl (ri_ref (k := 0) (k' := 86) (d := 11) (f := 12) hT rfl rfl rfl (by decide) (ri_uniq (by decide +kernel))) ?_
      refine ex_cv oq_X11_count_101 (by decide) hT (k := 86) (d := 3) (as := []) (stk := []) rfl rfl rfl rfl rfl rfl ⟨rfl, rfl⟩ (R := fun o => ∃ x : Int32, o = (some (cv_i x), h) ∧ x.toInt = (if k = -1 then c else k)) (cq_knC hT hc hk (fun x q => ⟨x, rfl, q⟩)) (fun o ho => ?_)
      obtain ⟨x109, rfl, hx109⟩ := ho
      show cw_X _ _ _ _ _ [cv_i x109] h
      exact ex_reti oq_X11_count_104 rfl (hQ x109 (by rw [zCnt_i (k := 6) (by omega) (by decide)]; exact hx109))
    | 7, _, c101 =>
      refine ⟨rfl, ?_⟩
      show cw_X _ _ _ 105 _ _ _
      refine ex_al oq_X11_count_105 rfl ?_
      refine ex_gf oq_X11_count_106 hT (k := 0) (d := 11) rfl rfl (ri_ref (k := 0) (k' := 63) (d := 11) (f := 11) hT rfl rfl rfl (by decide) (ri_uniq (by decide +kernel))) ?_
      obtain ⟨x110, ax110, rx110, lx110, ux110⟩ := ri_fld (k := 63) (d := 10) (f := 2) hT rfl rfl rfl
      try dsimp only at lx110 ux110
      refine ex_gf oq_X11_count_109 hT (k := 63) (d := 10) rfl rfl ax110 ?_
      clear lx110 ux110
      have rx110 := (rx110.symm.trans hm : x110.toInt = (m : Int))
      exact ex_reti oq_X11_count_112 rfl (hQ x110 (by rw [zCnt_i (k := 7) (by omega) (by decide)]; exact rx110))
    | 8, _, c101 =>
      refine ⟨rfl, ?_⟩
      show cw_X _ _ _ 113 _ _ _
      refine ex_al oq_X11_count_113 rfl ?_
      refine ex_cv oq_X11_count_114 (by decide) hT (k := 0) (d := 11) (as := []) (stk := []) rfl rfl rfl rfl rfl rfl ⟨rfl, rfl⟩ (R := fun o => ∃ x : Int32, o = (some (cv_i x), h) ∧ x.toInt = zCA2 wc nw (fun g => γs g 10) ng) (cq_cad hT hb hng hg9 hp2 kC kQ hn hnw hw hwb sG r10 (fun x q => ⟨x, rfl, q⟩)) (fun o ho => ?_)
      obtain ⟨x111, rfl, hx111⟩ := ho
      show cw_X _ _ _ _ _ [cv_i x111] h
      exact ex_reti oq_X11_count_117 rfl (hQ x111 (by rw [zCnt_i (k := 8) (by omega) (by decide)]; exact hx111))
    | i + 9, hi, _ => exact absurd hi (by show ¬ i + 9 < 9; omega)
theorem oq_X12_count_102 : cw_ho 272 102 (.iload_n 3) 1 0 0 0 := rfl
theorem oq_X12_count_103 : cw_ho 272 103 (.aload_n 0) 1 0 0 0 := rfl
theorem oq_X12_count_104 : cw_ho 272 104 (.getfield 216) 3 12 12 0 := rfl
theorem oq_X12_count_107 : cw_ho 272 107 (.if_icmp .ge 28) 3 0 0 0 := rfl
theorem oq_X12_count_110 : cw_ho 272 110 (.iload_n 2) 1 0 0 0 := rfl
theorem oq_X12_count_111 : cw_ho 272 111 (.aload_n 0) 1 0 0 0 := rfl
theorem oq_X12_count_112 : cw_ho 272 112 (.aload_n 0) 1 0 0 0 := rfl
theorem oq_X12_count_113 : cw_ho 272 113 (.getfield 69) 3 12 44 4 := rfl
theorem oq_X12_count_116 : cw_ho 272 116 (.bipush 16) 2 0 0 0 := rfl
theorem oq_X12_count_118 : cw_ho 272 118 (.iload_n 3) 1 0 0 0 := rfl
theorem oq_X12_count_119 : cw_ho 272 119 (.imul) 1 0 0 0 := rfl
theorem oq_X12_count_120 : cw_ho 272 120 (.bipush 9) 2 0 0 0 := rfl
theorem oq_X12_count_122 : cw_ho 272 122 (.iadd) 1 0 0 0 := rfl
theorem oq_X12_count_123 : cw_ho 272 123 (.iaload) 1 0 0 0 := rfl
theorem oq_X12_count_124 : cw_ho 272 124 (.invokevirtual 431) 3 231 1 12 := rfl
theorem oq_X12_count_127 : cw_ho 272 127 (.iadd) 1 0 0 0 := rfl
theorem oq_X12_count_128 : cw_ho 272 128 (.istore_n 2) 1 0 0 0 := rfl
theorem oq_X12_count_129 : cw_ho 272 129 (.iinc 3 1) 3 0 0 0 := rfl
theorem oq_X12_count_132 : cw_ho 272 132 (.goto (-30)) 3 0 0 0 := rfl
theorem oq_X12_count_135 : cw_ho 272 135 (.iload_n 2) 1 0 0 0 := rfl
theorem oq_X12_count_136 : cw_ho 272 136 (.ireturn) 1 0 0 0 := rfl
theorem rq_cadL (hT : cw_T G h) {what : Int32} {ng nw : Nat} {γs : Nat → Nat → Int} (hng : ng ≤ 4) (hS : ∀ g, g < ng → ri_at h 130 (16 * g + 9) = γs g 10) (hg : ri_at h 111 12 = ng) (hn : ri_at h 111 13 = nw) (hnw : nw ≤ 6) {wc : Nat → Int} (hw : ∀ w, w < nw → ri_at h 122 (3 * w) = wc w) (hwb : ∀ w, w < nw → 1 ≤ wc w ∧ wc w ≤ 999) (r10 : ∀ g, g < ng → 0 ≤ γs g 10 ∧ γs g 10 < 64) (hQ : ∀ x : Int32, x.toInt = zCA2 wc nw (fun g => γs g 10) ng → Q (some (cv_i x), h)) : ∀ (fu c : Nat) (M C : Int32) (L : cv_L), ng - c = fu → c ≤ ng → C.toInt = c → M.toInt = zCA2 wc nw (fun g => γs g 10) c → cv_get L 0 = some (cv_r 111) → cv_get L 1 = some (cv_i what) → cv_get L 2 = some (cv_i M) → cv_get L 3 = some (cv_i C) → cw_X X 272 Q 102 L [] h := by
  intro fu
  induction fu with
  | zero =>
    intro c M C L hf hcn hC hM g0 g1 g2 g3
    refine ex_il oq_X12_count_102 g3 ?_
    refine ex_al oq_X12_count_103 g0 ?_
    obtain ⟨x101, ax101, rx101, lx101, ux101⟩ := fi_gates hT
    refine ex_gf oq_X12_count_104 hT (k := 111) (d := 12) rfl rfl ax101 ?_
    have rx101 := (rx101.symm.trans hg : x101.toInt = (ng : Int))
    refine ex_if oq_X12_count_107 (t := 135) rfl rfl (fun (c102 : x101.toInt ≤ C.toInt) => ?_) (fun (c102 : ¬ (x101.toInt ≤ C.toInt)) => ?_)
    · refine ex_il oq_X12_count_135 g2 ?_
      exact ex_reti oq_X12_count_136 rfl (hQ M (by rw [hM, show c = ng from by omega]))
    · exfalso; omega
  | succ fu ih =>
    intro c M C L hf hcn hC hM g0 g1 g2 g3
    have mb := zCA2_b (D := fun g => γs g 10) hnw hwb c
    have mb2 := zCo_b (S := (γs c 10).toNat) nw hwb
    refine ex_il oq_X12_count_102 g3 ?_
    refine ex_al oq_X12_count_103 g0 ?_
    obtain ⟨x101, ax101, rx101, lx101, ux101⟩ := fi_gates hT
    refine ex_gf oq_X12_count_104 hT (k := 111) (d := 12) rfl rfl ax101 ?_
    have rx101 := (rx101.symm.trans hg : x101.toInt = (ng : Int))
    refine ex_if oq_X12_count_107 (t := 135) rfl rfl (fun (c102 : x101.toInt ≤ C.toInt) => ?_) (fun (c102 : ¬ (x101.toInt ≤ C.toInt)) => ?_)
    · exfalso; omega
    · refine ex_il oq_X12_count_110 g2 ?_
      refine ex_al oq_X12_count_111 g0 ?_
      refine ex_al oq_X12_count_112 g0 ?_
      refine ex_gf oq_X12_count_113 hT (k := 111) (d := 12) rfl rfl (fr_state hT) ?_
      refine ex_bi oq_X12_count_116 (m := 16) (by decide) (fun x103 hx103 => ?_)
      refine ex_il oq_X12_count_118 g3 ?_
      refine ex_mul oq_X12_count_119 (m := 16 * C.toInt) (by rw [hx103]) (by omega) (fun x104 hx104 => ?_)
      refine ex_bi oq_X12_count_120 (m := 9) (by decide) (fun x105 hx105 => ?_)
      refine ex_add oq_X12_count_122 (by omega) (fun x106 hx106 => ?_)
      refine ex_ia1 oq_X12_count_123 hT (k := 130) (d := 69) (j := 16 * c + 9) rfl rfl (by omega) (by omega) (fun x107 hx107 lx107 ux107 => ?_)
      have rc := r10 c (by omega)
      have ra : x107.toInt = γs c 10 := hx107.symm.trans (hS c (by omega))
      refine ex_cv oq_X12_count_124 (by decide) hT (k := 111) (d := 12) (as := [cv_i x107]) (stk := [cv_i M]) rfl rfl rfl rfl rfl rfl ⟨rfl, rfl⟩ (R := fun o => ∃ x : Int32, o = (some (cv_i x), h) ∧ x.toInt = zCo wc (γs c 10).toNat nw) (rg_costOf hT hn hnw hw hwb (show x107.toInt = ((γs c 10).toNat : Int) by omega) (by omega) (fun x q => ⟨x, rfl, q⟩)) (fun o ho => ?_)
      obtain ⟨x108, rfl, hx108⟩ := ho
      show cw_X _ _ _ _ _ [cv_i x108, cv_i M] h
      refine ex_add oq_X12_count_127 (by omega) (fun x109 hx109 => ?_)
      refine ex_isA oq_X12_count_128 (fun L110 gL110_2 kL110 => ?_)
      have gL110_0 : cv_get L110 0 = some (cv_r 111) := kL110 0 _ (by decide) (fun q => absurd q (by decide)) g0
      have gL110_1 : cv_get L110 1 = some (cv_i what) := kL110 1 _ (by decide) (fun _ => rfl) g1
      have gL110_3 : cv_get L110 3 = some (cv_i C) := kL110 3 _ (by decide) (fun q => absurd q (by decide)) g3
      refine ex_incA oq_X12_count_129 (v := C) (m := 1) gL110_3 (by decide) (by omega) (fun L112 x111 hx111 gL112_3 kL112 => ?_)
      have gL112_2 : cv_get L112 2 = some (cv_i x109) := kL112 2 _ (by decide) (fun _ => rfl) gL110_2
      have gL112_0 : cv_get L112 0 = some (cv_r 111) := kL112 0 _ (by decide) (fun q => absurd q (by decide)) gL110_0
      have gL112_1 : cv_get L112 1 = some (cv_i what) := kL112 1 _ (by decide) (fun q => absurd q (by decide)) gL110_1
      refine ex_go oq_X12_count_132 (t := 102) rfl rfl ?_
      exact ih (c + 1) x109 x111 L112 (by omega) (by omega) (by omega) (by show _ = zCA2 wc nw _ c + zCo wc (γs c 10).toNat nw; omega) gL112_0 gL112_1 gL112_2 gL112_3
theorem oq_X12_count_0 : cw_ho 272 0 (.aload_n 0) 1 0 0 0 := rfl
theorem oq_X12_count_1 : cw_ho 272 1 (.iconst 0) 1 0 0 0 := rfl
theorem oq_X12_count_2 : cw_ho 272 2 (.putfield 136) 3 12 2 0 := rfl
theorem oq_X12_count_5 : cw_ho 272 5 (.iconst 0) 1 0 0 0 := rfl
theorem oq_X12_count_6 : cw_ho 272 6 (.istore_n 2) 1 0 0 0 := rfl
theorem oq_X12_count_7 : cw_ho 272 7 (.iload_n 1) 1 0 0 0 := rfl
theorem oq_X12_count_8 : cw_ho 272 8 (.tableswitch 129 0 8 #[52, 57, 62, 67, 72, 77, 82, 87, 92]) 52 0 0 0 := rfl
theorem oq_X12_count_60 : cw_ho 272 60 (.aload_n 0) 1 0 0 0 := rfl
theorem oq_X12_count_61 : cw_ho 272 61 (.getfield 216) 3 12 12 0 := rfl
theorem oq_X12_count_64 : cw_ho 272 64 (.ireturn) 1 0 0 0 := rfl
theorem oq_X12_count_65 : cw_ho 272 65 (.aload_n 0) 1 0 0 0 := rfl
theorem oq_X12_count_66 : cw_ho 272 66 (.getfield 219) 3 12 13 0 := rfl
theorem oq_X12_count_69 : cw_ho 272 69 (.ireturn) 1 0 0 0 := rfl
theorem oq_X12_count_70 : cw_ho 272 70 (.aload_n 0) 1 0 0 0 := rfl
theorem oq_X12_count_71 : cw_ho 272 71 (.getfield 222) 3 12 14 0 := rfl
theorem oq_X12_count_74 : cw_ho 272 74 (.ireturn) 1 0 0 0 := rfl
theorem oq_X12_count_75 : cw_ho 272 75 (.aload_n 0) 1 0 0 0 := rfl
theorem oq_X12_count_76 : cw_ho 272 76 (.getfield 225) 3 12 15 0 := rfl
theorem oq_X12_count_79 : cw_ho 272 79 (.ireturn) 1 0 0 0 := rfl
theorem oq_X12_count_80 : cw_ho 272 80 (.aload_n 0) 1 0 0 0 := rfl
theorem oq_X12_count_81 : cw_ho 272 81 (.getfield 240) 3 12 43 0 := rfl
theorem oq_X12_count_84 : cw_ho 272 84 (.ireturn) 1 0 0 0 := rfl
theorem oq_X12_count_85 : cw_ho 272 85 (.aload_n 0) 1 0 0 0 := rfl
theorem oq_X12_count_86 : cw_ho 272 86 (.getfield 243) 3 12 52 0 := rfl
theorem oq_X12_count_89 : cw_ho 272 89 (.ireturn) 1 0 0 0 := rfl
theorem oq_X12_count_90 : cw_ho 272 90 (.aload_n 0) 1 0 0 0 := rfl
theorem oq_X12_count_91 : cw_ho 272 91 (.invokevirtual 442) 3 241 0 12 := rfl
theorem oq_X12_count_94 : cw_ho 272 94 (.ireturn) 1 0 0 0 := rfl
theorem oq_X12_count_95 : cw_ho 272 95 (.aload_n 0) 1 0 0 0 := rfl
theorem oq_X12_count_96 : cw_ho 272 96 (.getfield 246) 3 12 50 0 := rfl
theorem oq_X12_count_99 : cw_ho 272 99 (.ireturn) 1 0 0 0 := rfl
theorem oq_X12_count_100 : cw_ho 272 100 (.iconst 0) 1 0 0 0 := rfl
theorem oq_X12_count_101 : cw_ho 272 101 (.istore_n 3) 1 0 0 0 := rfl
theorem oq_X12_count_137 : cw_ho 272 137 (.iconst (-1)) 1 0 0 0 := rfl
theorem oq_X12_count_138 : cw_ho 272 138 (.ireturn) 1 0 0 0 := rfl
theorem rq_count (hT : cw_T G h) {ng nw : Nat} {γs : Nat → Nat → Int} (hng : ng ≤ 4) (hS : ∀ g, g < ng → ri_at h 130 (16 * g + 9) = γs g 10) (hg : ri_at h 111 12 = ng) (hn : ri_at h 111 13 = nw) (hnw : nw ≤ 6) {wc : Nat → Int} (hw : ∀ w, w < nw → ri_at h 122 (3 * w) = wc w) (hwb : ∀ w, w < nw → 1 ≤ wc w ∧ wc w ≤ 999) (r10 : ∀ g, g < ng → 0 ≤ γs g 10 ∧ γs g 10 < 64) {nc m : Nat} {kn W c k : Int} (hnc : ri_at h 111 14 = nc) (hkn : ri_at h 111 15 = kn) (hW : ri_at h 111 43 = W) (hc : ri_at h 111 52 = c) (hk : ri_at h 111 53 = k) (hkr : -1 ≤ k) (hm : ri_at h 111 50 = m) {what : Int32} (hQ : ∀ (x : Int32) h', x.toInt = zCnt (zcnv ng nw nc kn W c k m (zCA2 wc nw (fun g => γs g 10) ng)) what.toInt → Q (some (cv_i x), h')) : cw_X X 272 Q 0 (cv_ent 0 [cv_r 111, cv_i what]) [] h := by
  refine ex_al oq_X12_count_0 rfl ?_
  refine ex_ic oq_X12_count_1 (m := 0) (by decide) (fun x101 hx101 => ?_)
  refine ex_pfi oq_X12_count_2 hT (k := 111) (d := 12) rfl rfl rfl (cw_i32 _).1 (cw_i32 _).2 (fun h102 Th102 wh102 => ?_)
  have eh102_111_12 : ri_at h102 111 12 = (ng : Int) := (ri_ne wh102 (.inr (by decide))).trans hg
  have eh102_111_13 : ri_at h102 111 13 = (nw : Int) := (ri_ne wh102 (.inr (by decide))).trans hn
  have eh102_111_14 : ri_at h102 111 14 = (nc : Int) := (ri_ne wh102 (.inr (by decide))).trans hnc
  have eh102_111_15 : ri_at h102 111 15 = kn := (ri_ne wh102 (.inr (by decide))).trans hkn
  have eh102_111_43 : ri_at h102 111 43 = W := (ri_ne wh102 (.inr (by decide))).trans hW
  have eh102_111_52 : ri_at h102 111 52 = c := (ri_ne wh102 (.inr (by decide))).trans hc
  have eh102_111_50 : ri_at h102 111 50 = (m : Int) := (ri_ne wh102 (.inr (by decide))).trans hm
  have eh102_111_2 : ri_at h102 111 2 = x101.toInt := ri_self wh102
  refine ex_ic oq_X12_count_5 (m := 0) (by decide) (fun x103 hx103 => ?_)
  refine ex_isA oq_X12_count_6 (fun L104 gL104_2 kL104 => ?_)
  have gL104_0 : cv_get L104 0 = some (cv_r 111) := kL104 0 _ (by decide) (fun q => absurd q (by decide)) rfl
  have gL104_1 : cv_get L104 1 = some (cv_i what) := kL104 1 _ (by decide) (fun _ => rfl) rfl
  refine ex_il oq_X12_count_7 gL104_1 ?_
  refine ex_tsw oq_X12_count_8 rfl (fun c105 => ⟨rfl, ?_⟩) (fun i hi c105 => ?_)
  · show cw_X _ _ _ 137 _ _ _
    refine ex_ic oq_X12_count_137 (m := (-1)) (by decide) (fun x106 hx106 => ?_)
    exact ex_reti oq_X12_count_138 rfl (hQ x106 _ (by rw [zCnt_d (by omega)]; omega))
  · match i, hi, c105 with
    | 0, _, c105 =>
      refine ⟨rfl, ?_⟩
      show cw_X _ _ _ 60 _ _ _
      refine ex_al oq_X12_count_60 gL104_0 ?_
      obtain ⟨x107, ax107, rx107, lx107, ux107⟩ := fi_gates Th102
      refine ex_gf oq_X12_count_61 Th102 (k := 111) (d := 12) rfl rfl ax107 ?_
      have rx107 := (rx107.symm.trans eh102_111_12 : x107.toInt = (ng : Int))
      exact ex_reti oq_X12_count_64 rfl (hQ x107 _ (by rw [zCnt_i (k := 0) (by omega) (by decide)]; exact rx107))
    | 1, _, c105 =>
      refine ⟨rfl, ?_⟩
      show cw_X _ _ _ 65 _ _ _
      refine ex_al oq_X12_count_65 gL104_0 ?_
      obtain ⟨x108, ax108, rx108, lx108, ux108⟩ := fi_works Th102
      refine ex_gf oq_X12_count_66 Th102 (k := 111) (d := 12) rfl rfl ax108 ?_
      have rx108 := (rx108.symm.trans eh102_111_13 : x108.toInt = (nw : Int))
      exact ex_reti oq_X12_count_69 rfl (hQ x108 _ (by rw [zCnt_i (k := 1) (by omega) (by decide)]; exact rx108))
    | 2, _, c105 =>
      refine ⟨rfl, ?_⟩
      show cw_X _ _ _ 70 _ _ _
      refine ex_al oq_X12_count_70 gL104_0 ?_
      obtain ⟨x109, ax109, rx109, lx109, ux109⟩ := fi_causes Th102
      refine ex_gf oq_X12_count_71 Th102 (k := 111) (d := 12) rfl rfl ax109 ?_
      have rx109 := (rx109.symm.trans eh102_111_14 : x109.toInt = (nc : Int))
      exact ex_reti oq_X12_count_74 rfl (hQ x109 _ (by rw [zCnt_i (k := 2) (by omega) (by decide)]; exact rx109))
    | 3, _, c105 =>
      refine ⟨rfl, ?_⟩
      show cw_X _ _ _ 75 _ _ _
      refine ex_al oq_X12_count_75 gL104_0 ?_
      obtain ⟨x110, ax110, rx110, lx110, ux110⟩ := fi_knots Th102
      refine ex_gf oq_X12_count_76 Th102 (k := 111) (d := 12) rfl rfl ax110 ?_
      have rx110 := (rx110.symm.trans eh102_111_15 : x110.toInt = kn)
      exact ex_reti oq_X12_count_79 rfl (hQ x110 _ (by rw [zCnt_i (k := 3) (by omega) (by decide)]; exact rx110))
    | 4, _, c105 =>
      refine ⟨rfl, ?_⟩
      show cw_X _ _ _ 80 _ _ _
      refine ex_al oq_X12_count_80 gL104_0 ?_
      obtain ⟨x111, ax111, rx111, lx111, ux111⟩ := fi_week Th102
      refine ex_gf oq_X12_count_81 Th102 (k := 111) (d := 12) rfl rfl ax111 ?_
      have rx111 := (rx111.symm.trans eh102_111_43 : x111.toInt = W)
      exact ex_reti oq_X12_count_84 rfl (hQ x111 _ (by rw [zCnt_i (k := 4) (by omega) (by decide)]; exact rx111))
    | 5, _, c105 =>
      refine ⟨rfl, ?_⟩
      show cw_X _ _ _ 85 _ _ _
      refine ex_al oq_X12_count_85 gL104_0 ?_
      obtain ⟨x112, ax112, rx112, lx112, ux112⟩ := fi_measures Th102
      refine ex_gf oq_X12_count_86 Th102 (k := 111) (d := 12) rfl rfl ax112 ?_
      have rx112 := (rx112.symm.trans eh102_111_52 : x112.toInt = c)
      exact ex_reti oq_X12_count_89 rfl (hQ x112 _ (by rw [zCnt_i (k := 5) (by omega) (by decide)]; exact rx112))
    | 6, _, c105 =>
      refine ⟨rfl, ?_⟩
      show cw_X _ _ _ 90 _ _ _
      refine ex_al oq_X12_count_90 gL104_0 ?_
      refine ex_cv oq_X12_count_91 (by decide) Th102 (k := 111) (d := 12) (as := []) (stk := []) rfl rfl rfl rfl rfl rfl ⟨rfl, rfl⟩ (R := fun o => ∃ x : Int32, o = (some (cv_i x), h102) ∧ x.toInt = (if k = -1 then c else k)) (rq_knM Th102 ((ri_ne wh102 (.inr (by decide))).trans hc) ((ri_ne wh102 (.inr (by decide))).trans hk) hkr (fun x q => ⟨x, rfl, q⟩)) (fun o ho => ?_)
      obtain ⟨x113, rfl, hx113⟩ := ho
      show cw_X _ _ _ _ _ [cv_i x113] h102
      exact ex_reti oq_X12_count_94 rfl (hQ x113 _ (by rw [zCnt_i (k := 6) (by omega) (by decide)]; exact hx113))
    | 7, _, c105 =>
      refine ⟨rfl, ?_⟩
      show cw_X _ _ _ 95 _ _ _
      refine ex_al oq_X12_count_95 gL104_0 ?_
      obtain ⟨x114, ax114, rx114, lx114, ux114⟩ := fi_undos Th102
      refine ex_gf oq_X12_count_96 Th102 (k := 111) (d := 12) rfl rfl ax114 ?_
      have rx114 := (rx114.symm.trans eh102_111_50 : x114.toInt = (m : Int))
      exact ex_reti oq_X12_count_99 rfl (hQ x114 _ (by rw [zCnt_i (k := 7) (by omega) (by decide)]; exact rx114))
    | 8, _, c105 =>
      refine ⟨rfl, ?_⟩
      show cw_X _ _ _ 100 _ _ _
      refine ex_ic oq_X12_count_100 (m := 0) (by decide) (fun x115 hx115 => ?_)
      refine ex_isA oq_X12_count_101 (fun L116 gL116_3 kL116 => ?_)
      have gL116_2 : cv_get L116 2 = some (cv_i x103) := kL116 2 _ (by decide) (fun _ => rfl) gL104_2
      have gL116_0 : cv_get L116 0 = some (cv_r 111) := kL116 0 _ (by decide) (fun q => absurd q (by decide)) gL104_0
      have gL116_1 : cv_get L116 1 = some (cv_i what) := kL116 1 _ (by decide) (fun q => absurd q (by decide)) gL104_1
      exact rq_cadL Th102 hng (fun g q => (ri_ne wh102 (.inl (by decide))).trans (hS g q)) ((ri_ne wh102 (.inr (by decide))).trans hg) ((ri_ne wh102 (.inr (by decide))).trans hn) hnw (fun w q => (ri_ne wh102 (.inl (by decide))).trans (hw w q)) hwb r10 (fun x e => hQ x _ (by rw [zCnt_i (k := 8) (by omega) (by decide)]; exact e)) ng 0 x103 x115 L116 (by omega) (by omega) (by omega) (by show _ = (0 : Int); omega) gL116_0 gL116_1 gL116_2 gL116_3
    | i + 9, hi, _ => exact absurd hi (by show ¬ i + 9 < 9; omega)
end GN
/-! ===== both sides ===== -/
def vFirm (p : zPp) (_ : zQs) (_ _ : Int) (as : List Int32) : Int := if 0 ≤ (as.getD 0 0).toInt ∧ (as.getD 0 0).toInt < 2000 then gFirm (zTf p.2.1) (as.getD 0 0).toInt else -1
theorem zCE_b {h : cv_H} {p : zPp} {q : zQs} (ce : zCE h p q) : ∃ b, (b = 2 ∨ b = 26) ∧ zPM b h ∧ zCp h b p ∧ zCd h (zng p) b q := by
  obtain ⟨⟨-, -, -, r4, r5⟩, b, cp, cd⟩ := ce
  refine ⟨b, cp.1, ?_, cp, cd⟩
  rcases cp.1 with e | e
  · rw [e]; exact r4
  · rw [e]; exact r5
theorem zJ_c6t : zJ 120 220 1 true := by
  refine zJ_qt vFirm (fun Gn => hz_X11_firm) (fun Gn => hz_X12_firm) zk_c6 zk_r6 rfl rfl rfl rfl (fun X Gn h as p q hX ha hT hP go ce => ?_) (fun X Gn h as p q hX ha hT hP go rq => ?_)
  · match as, ha with
    | [w], _ =>
    obtain ⟨b, hb, pm, cp, -⟩ := zCE_b ce
    refine cq_firm hT (zKi hb).1 cp.2.1 (zKi hb).2.1 (zPM_P pm).1.1 cp.2.2.2.1.2.2.2.1 (fun x e c => zans ?_) (fun c x e => zans ?_)
    · exact e.trans (if_neg c).symm
    · exact e.trans (if_pos c).symm
  · match as, ha with
    | [w], _ =>
    refine rq_firm hT rq.1.1.2.2.2.1 (fun x h' e c => zans ?_) (fun c x h' e => zans ?_)
    · exact e.trans (if_neg c).symm
    · exact e.trans (if_pos c).symm
def vWorks (p : zPp) (_ : zQs) (_ _ : Int) (as : List Int32) : Int := if (0 ≤ (as.getD 0 0).toInt ∧ (as.getD 0 0).toInt < (znw p : Int)) ∧ 0 ≤ (as.getD 1 0).toInt ∧ (as.getD 1 0).toInt ≤ 2 then zWv (zpw p 9 (as.getD 0 0).toInt.toNat) (zpw p 10 (as.getD 0 0).toInt.toNat) (zpw p 11 (as.getD 0 0).toInt.toNat) (as.getD 1 0).toInt else -1
theorem vWorks_y {p : zPp} {q : zQs} {c k : Int} {w j : Int32} {wi : Nat} {v : Int} (hw : w.toInt = wi) (hl : wi < znw p) (hj : 0 ≤ j.toInt ∧ j.toInt ≤ 2) (e : v = zWv (zpw p 9 wi) (zpw p 10 wi) (zpw p 11 wi) j.toInt) : v = vWorks p q c k [w, j] := by
  have c0 : (0 ≤ w.toInt ∧ w.toInt < (znw p : Int)) ∧ 0 ≤ j.toInt ∧ j.toInt ≤ 2 := ⟨by omega, hj⟩
  refine e.trans (Eq.trans ?_ (if_pos c0).symm)
  show _ = zWv (zpw p 9 w.toInt.toNat) (zpw p 10 w.toInt.toNat) (zpw p 11 w.toInt.toNat) j.toInt
  rw [show w.toInt.toNat = wi from by omega]
theorem zJ_c5t : zJ 119 219 2 true := by
  refine zJ_qt vWorks (fun Gn => hz_X11_works) (fun Gn => hz_X12_works) zk_c5 zk_r5 rfl rfl rfl rfl (fun X Gn h as p q hX ha hT hP go ce => ?_) (fun X Gn h as p q hX ha hT hP go rq => ?_)
  · match as, ha with
    | [w, j], _ =>
    obtain ⟨b, hb, pm, cp, -⟩ := zCE_b ce
    exact cq_works hT hb cp.2.1 (zPM_P pm).2 cp.2.2.2.2.1 (zGo_g go).2.1 (fun x e c => zans (e.trans (if_neg c).symm)) (fun wi hw hl hj x e => zans (vWorks_y hw hl hj e))
  · match as, ha with
    | [w, j], _ =>
    exact rq_works hT rq.1.2.1 (zGo_g go).2.1 (fun x h' e c => zans (e.trans (if_neg c).symm)) (fun wi hw hl hj x h' e => zans (vWorks_y hw hl hj e))
def vCount (p : zPp) (q : zQs) (c k : Int) (as : List Int32) : Int := zCnt (zcnv (zng p) (znw p) (znc p) p.1.2.2.1 q.1 c k q.2.2.1.1 (zCA2 (zpw p 9) (znw p) (fun g => q.2.1 g 10) (zng p))) (as.getD 0 0).toInt
theorem zJ_c35t : zJ 152 272 1 true := by
  refine zJ_qt vCount (fun Gn => hz_X11_count) (fun Gn => hz_X12_count) zk_c35 zk_r35 rfl rfl rfl rfl (fun X Gn h as p q hX ha hT hP go ce => ?_) (fun X Gn h as p q hX ha hT hP go rq => ?_)
  · match as, ha with
    | [w], _ =>
    have kC := ce.1.2.2.1
    obtain ⟨b, hb, pm, cp, Bf, γc, υc, ιc, a1, a2, a3, a4, a5, a6, a7, a8⟩ := zCE_b ce
    have r10 : ∀ g, g < zng p → 0 ≤ γc g 10 ∧ γc g 10 < 64 := fun g hg => by rw [a2 g hg 10 (by decide) (by decide)]; exact (zGd_r (go.2.2.1 g hg)).1
    refine cq_count hT hb (zGo_g go).1 cp.2.2.2.1.1 cp.2.1 kC (zPM_P pm).2 cp.2.2.2.2.1.1 (zGo_g go).2.1 (fun w hw => (cp.2.2.2.2.1.2 w hw).1) (zGo_c go) a1 r10 cp.2.2.2.1.2.1 cp.2.2.2.2.2.1 a6 rfl rfl a4.1 (fun x e => zans (e.trans ?_))
    rw [zCA2_e (D' := fun g => q.2.1 g 10) (zng p) (fun g hg => a2 g hg 10 (by decide) (by decide))]
    rfl
  · match as, ha with
    | [w], _ =>
    have kr : -1 ≤ ri_at h 111 53 := by
      obtain ⟨x, -, r1, r2, r3⟩ := fi_seenBy hT
      omega
    exact rq_count hT (zGo_g go).1 (fun g hg => rq.2.1 g hg 9 (by decide)) rq.1.1.1 rq.1.2.1.1 (zGo_g go).2.1 (fun w hw => (rq.1.2.1.2 w hw).1) (zGo_c go) (fun g hg => (zGd_r (go.2.2.1 g hg)).1) rq.1.1.2.1 rq.1.2.2.1 rq.2.2.1 rfl rfl kr rq.2.2.2.1.1 (fun x h' e => zans e)
