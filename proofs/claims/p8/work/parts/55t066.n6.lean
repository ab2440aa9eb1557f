/-! ===== the laws' names: put, see; the class ===== -/
/-- only the laws' names and what of them is stale may be others -/
def zF3 (h h' : cv_H) : Prop := (∀ k : Nat, k ≠ 55 → k ≠ 56 → h'[k]? = h[k]?) ∧ ∀ i, i ≠ 3 → cw_at h' 55 i = cw_at h 55 i
theorem zF3_0 {h : cv_H} : zF3 h h := ⟨fun _ _ _ => rfl, fun _ _ => rfl⟩
theorem zF3_tr {h h' h'' : cv_H} (a : zF3 h h') (b : zF3 h' h'') : zF3 h h'' := ⟨fun k p q => (b.1 k p q).trans (a.1 k p q), fun i q => (b.2 i q).trans (a.2 i q)⟩
theorem zF3_v {h0 h h' : cv_H} {j : Nat} {v : cv_V} (a : zF3 h0 h) (w : cw_Wr h h' 56 j v) : zF3 h0 h' := ⟨fun k p q => (w.2.2 k q).trans (a.1 k p q), fun i q => (w.2.1 55 i (.inl (by decide))).trans (a.2 i q)⟩
theorem zF3_s {h0 h h' : cv_H} {v : cv_V} (a : zF3 h0 h) (w : cw_Wr h h' 55 3 v) : zF3 h0 h' := ⟨fun k p q => (w.2.2 k p).trans (a.1 k p q), fun i q => (w.2.1 55 i (.inr q)).trans (a.2 i q)⟩
theorem zF3_at {h0 h : cv_H} {k i : Nat} (a : zF3 h0 h) (p : k ≠ 55) (q : k ≠ 56) : cw_at h k i = cw_at h0 k i := by unfold cw_at; rw [a.1 k p q]
theorem zF3_ri {h0 h : cv_H} {k i : Nat} (a : zF3 h0 h) (p : k ≠ 55) (q : k ≠ 56) : ri_at h k i = ri_at h0 k i := ri_eq (zF3_at a p q)
/-- names that are not stale are as they were when the laws were worked out last -/
def zLP (h : cv_H) (V : Nat → Int) : Prop := ri_at h 55 3 = -1 ∨ ∃ S : Nat, S < 1024 ∧ ri_at h 55 3 = S ∧ ∀ j, j < 10 → S.testBit j = false → rl_at h 56 j = V j
theorem or_m1 {x y : Int32} (hx : x.toInt = -1) : (x ||| y).toInt = -1 := by
  have e : x = -1 := Int32.toInt_inj.mp (by rw [hx]; rfl)
  subst e
  show ((-1 : Int32) ||| y).toBitVec.toInt = -1
  rw [Int32.toBitVec_or, show (-1 : Int32).toBitVec = BitVec.allOnes 32 from rfl, BitVec.allOnes_or]
  rfl
theorem zLP_w {h h1 h2 : cv_H} {nm : Nat} {v : Int64} {s k o r : Int32} {V : Nat → Int} (hn : nm < 10) (hk : k.toInt = nm) (ho : o.toInt = 1) (a : zLP h V) (w1 : cw_Wr h h1 56 nm (cv_l v)) (w2 : cw_Wr h1 h2 55 3 (cv_i r)) (hs : ri_at h 55 3 = s.toInt) (hr : r = s ||| (o <<< (k &&& 31))) : zLP h2 V := by
  rcases a with a | ⟨S, a1, a2, a3⟩
  · refine .inl ?_
    rw [ri_self w2, hr]
    exact or_m1 (hs.symm.trans a)
  · refine .inr ⟨S ||| 2 ^ nm, bt_1024 a1 hn, ?_, fun j hj ht => ?_⟩
    · rw [ri_self w2, hr]
      exact bt_or10 (hs.symm.trans a2) a1 hk hn ho
    · rw [Nat.testBit_or, Bool.or_eq_false_iff] at ht
      have hne : j ≠ nm := by
        intro e
        rw [e, Nat.testBit_two_pow_self] at ht
        exact absurd ht.2 (by decide)
      rw [rl_ne w2 (.inl (by decide)), rl_ne w1 (.inr hne)]
      exact a3 j hj ht.1
section GN
variable {G : Int} {X : cv_X} {Q : cv_O → Prop} {h : cv_H}
theorem oq_X2_put_0 : cw_ho 30 0 (.iload_n 1) 1 0 0 0 := rfl
theorem oq_X2_put_1 : cw_ho 30 1 (.ifCond .lt 39) 3 0 0 0 := rfl
theorem oq_X2_put_4 : cw_ho 30 4 (.iload_n 1) 1 0 0 0 := rfl
theorem oq_X2_put_5 : cw_ho 30 5 (.bipush 10) 2 0 0 0 := rfl
theorem oq_X2_put_7 : cw_ho 30 7 (.if_icmp .ge 33) 3 0 0 0 := rfl
theorem oq_X2_put_10 : cw_ho 30 10 (.aload_n 0) 1 0 0 0 := rfl
theorem oq_X2_put_11 : cw_ho 30 11 (.getfield 9) 3 2 0 4 := rfl
theorem oq_X2_put_14 : cw_ho 30 14 (.iload_n 1) 1 0 0 0 := rfl
theorem oq_X2_put_15 : cw_ho 30 15 (.laload) 1 0 0 0 := rfl
theorem oq_X2_put_16 : cw_ho 30 16 (.lload_n 2) 1 0 0 0 := rfl
theorem oq_X2_put_17 : cw_ho 30 17 (.lcmp) 1 0 0 0 := rfl
theorem oq_X2_put_18 : cw_ho 30 18 (.ifCond .eq 22) 3 0 0 0 := rfl
theorem oq_X2_put_21 : cw_ho 30 21 (.aload_n 0) 1 0 0 0 := rfl
theorem oq_X2_put_22 : cw_ho 30 22 (.getfield 9) 3 2 0 4 := rfl
theorem oq_X2_put_25 : cw_ho 30 25 (.iload_n 1) 1 0 0 0 := rfl
theorem oq_X2_put_26 : cw_ho 30 26 (.lload_n 2) 1 0 0 0 := rfl
theorem oq_X2_put_27 : cw_ho 30 27 (.lastore) 1 0 0 0 := rfl
theorem oq_X2_put_28 : cw_ho 30 28 (.aload_n 0) 1 0 0 0 := rfl
theorem oq_X2_put_29 : cw_ho 30 29 (.dup) 1 0 0 0 := rfl
theorem oq_X2_put_30 : cw_ho 30 30 (.getfield 22) 3 2 3 0 := rfl
theorem oq_X2_put_33 : cw_ho 30 33 (.iconst 1) 1 0 0 0 := rfl
theorem oq_X2_put_34 : cw_ho 30 34 (.iload_n 1) 1 0 0 0 := rfl
theorem oq_X2_put_35 : cw_ho 30 35 (.ishl) 1 0 0 0 := rfl
theorem oq_X2_put_36 : cw_ho 30 36 (.ior) 1 0 0 0 := rfl
theorem oq_X2_put_37 : cw_ho 30 37 (.putfield 22) 3 2 3 0 := rfl
theorem oq_X2_put_40 : cw_ho 30 40 (.return_) 1 0 0 0 := rfl
theorem cl_put (hT : cw_T G h) {k : Int32} {nm : Nat} (hn : k.toInt = nm) (hn10 : nm < 10) {v : Int64} {V : Nat → Int} (hP : zLP h V) (hQ : ∀ h', cw_T G h' → zF3 h h' → rl_at h' 56 nm = v.toInt → (∀ j, j ≠ nm → rl_at h' 56 j = rl_at h 56 j) → zLP h' V → (ri_at h 55 3 = -1 → ri_at h' 55 3 = -1) → Q (none, h')) : cw_X X 30 Q 0 (cv_ent 0 [cv_r 55, cv_i k, cv_l v]) [] h := by
  refine ex_il oq_X2_put_0 rfl ?_
  refine ex_if0 oq_X2_put_1 (t := 40) rfl rfl (fun (c11 : k.toInt < 0) => ?_) (fun (c11 : ¬ (k.toInt < 0)) => ?_)
  · exfalso; omega
  · refine ex_il oq_X2_put_4 rfl ?_
    refine ex_bi oq_X2_put_5 (m := 10) (by decide) (fun x12 hx12 => ?_)
    refine ex_if oq_X2_put_7 (t := 40) rfl rfl (fun (c13 : x12.toInt ≤ k.toInt) => ?_) (fun (c13 : ¬ (x12.toInt ≤ k.toInt)) => ?_)
    · exfalso; omega
    · refine ex_al oq_X2_put_10 rfl ?_
      refine ex_gf oq_X2_put_11 hT (k := 55) (d := 2) rfl rfl (ri_ref (k := 55) (k' := 56) (d := 2) (f := 0) hT rfl rfl rfl (by decide) (ri_uniq (by decide +kernel))) ?_
      refine ex_il oq_X2_put_14 rfl ?_
      refine ex_laV oq_X2_put_15 hT (k := 56) (d := 17) (j := nm) rfl rfl (by omega) (by omega) (fun x14 hx14 => ?_)
      refine ex_ll oq_X2_put_16 rfl ?_
      refine ex_lcmpV oq_X2_put_17 (fun x15 hx15 => ?_)
      refine ex_if0 oq_X2_put_18 (t := 40) rfl rfl (fun (c16 : x15.toInt = 0) => ?_) (fun (c16 : ¬ (x15.toInt = 0)) => ?_)
      · exact ex_retv oq_X2_put_40 rfl (hQ h hT zF3_0 (by omega) (fun j _ => rfl) hP (fun q => q))
      · refine ex_al oq_X2_put_21 rfl ?_
        refine ex_gf oq_X2_put_22 hT (k := 55) (d := 2) rfl rfl (ri_ref (k := 55) (k' := 56) (d := 2) (f := 0) hT rfl rfl rfl (by decide) (ri_uniq (by decide +kernel))) ?_
        refine ex_il oq_X2_put_25 rfl ?_
        refine ex_ll oq_X2_put_26 rfl ?_
        refine ex_lw oq_X2_put_27 hT (k := 56) (d := 17) (j := nm) rfl rfl (by omega) (by omega) (fun h17 Th17 wh17 => ?_)
        refine ex_al oq_X2_put_28 rfl ?_
        refine ex_dup oq_X2_put_29 rfl ?_
        obtain ⟨x18, ax18, rx18, lx18, ux18⟩ := ri_fld (k := 55) (d := 2) (f := 3) Th17 rfl rfl rfl
        try dsimp only at lx18 ux18
        refine ex_gf oq_X2_put_30 Th17 (k := 55) (d := 2) rfl rfl ax18 ?_
        clear lx18 ux18
        refine ex_ic oq_X2_put_33 (m := 1) (by decide) (fun x19 hx19 => ?_)
        refine ex_il oq_X2_put_34 rfl ?_
        refine ex_shlE oq_X2_put_35 (fun x20 hx20 => ?_)
        refine ex_orE oq_X2_put_36 (fun x21 hx21 => ?_)
        refine ex_pfi oq_X2_put_37 Th17 (k := 55) (d := 2) rfl rfl rfl (cw_i32 _).1 (cw_i32 _).2 (fun h22 Th22 wh22 => ?_)
        have eh22_55_3 : ri_at h22 55 3 = x21.toInt := ri_self wh22
        exact ex_retv oq_X2_put_40 rfl (hQ h22 Th22 (zF3_s (zF3_v zF3_0 wh17) wh22) ((rl_ne wh22 (.inl (by decide))).trans (rl_self wh17)) (fun j hj => (rl_ne wh22 (.inl (by decide))).trans (rl_ne wh17 (.inr hj))) (zLP_w hn10 hn hx19 hP wh17 wh22 ((ri_ne wh17 (.inl (by decide))).symm.trans rx18) (by rw [hx21, hx20])) (fun q => by rw [ri_self wh22, hx21]; exact or_m1 (((ri_ne wh17 (.inl (by decide))).symm.trans rx18).symm.trans q)))
theorem oq_X4_firmIn_0 : cw_ho 53 0 (.iload_n 1) 1 0 0 0 := rfl
theorem oq_X4_firmIn_1 : cw_ho 53 1 (.ifCond .ge 7) 3 0 0 0 := rfl
theorem oq_X4_firmIn_8 : cw_ho 53 8 (.aload_n 0) 1 0 0 0 := rfl
theorem oq_X4_firmIn_9 : cw_ho 53 9 (.getfield 9) 3 4 0 4 := rfl
theorem oq_X4_firmIn_12 : cw_ho 53 12 (.iload_n 1) 1 0 0 0 := rfl
theorem oq_X4_firmIn_13 : cw_ho 53 13 (.bipush 12) 2 0 0 0 := rfl
theorem oq_X4_firmIn_15 : cw_ho 53 15 (.imul) 1 0 0 0 := rfl
theorem oq_X4_firmIn_16 : cw_ho 53 16 (.bipush 52) 2 0 0 0 := rfl
theorem oq_X4_firmIn_18 : cw_ho 53 18 (.idiv) 1 0 0 0 := rfl
theorem oq_X4_firmIn_19 : cw_ho 53 19 (.bipush 12) 2 0 0 0 := rfl
theorem oq_X4_firmIn_21 : cw_ho 53 21 (.irem) 1 0 0 0 := rfl
theorem oq_X4_firmIn_22 : cw_ho 53 22 (.iaload) 1 0 0 0 := rfl
theorem oq_X4_firmIn_23 : cw_ho 53 23 (.ireturn) 1 0 0 0 := rfl
theorem zrem12 {x y : Int32} (hx : 0 ≤ x.toInt) (hy : y.toInt = 12) : (x - x / y * y).toInt = x.toInt % 12 := by
  have hxb := cw_i32 x
  have h1 : (x / y).toInt = x.toInt / 12 := by rw [Int32.toInt_div, hy, Int.tdiv_eq_ediv_of_nonneg hx, cw_bm (by omega) (by omega)]
  have h2 : (x / y * y).toInt = x.toInt / 12 * 12 := by rw [Int32.toInt_mul, h1, hy, cw_bm (by omega) (by omega)]
  rw [Int32.toInt_sub, h2, cw_bm (by omega) (by omega)]
  omega
def gFirm (g : Nat → Int) (w : Int) : Int := g (w * 12 / 52 % 12).toNat
theorem cg_firmIn {b RG : Nat} (hT : cw_T G h) (hb : cw_sh[b]? = some 4) (hRG : cw_sh[RG]? = some 28) (pG : cw_at h b 0 = some (cv_r RG)) {g : Nat → Int} (hG : ∀ j, j < 12 → ri_at h RG j = g j) {w : Int32} (hw : 0 ≤ w.toInt ∧ w.toInt ≤ 10000000) (hQ : ∀ x : Int32, x.toInt = gFirm g w.toInt → Q (some (cv_i x), h)) : cw_X X 53 Q 0 (cv_ent 0 [cv_r b, cv_i w]) [] h := by
  refine ex_il oq_X4_firmIn_0 rfl ?_
  refine ex_if0 oq_X4_firmIn_1 (t := 8) rfl rfl (fun (c11 : 0 ≤ w.toInt) => ?_) (fun (c11 : ¬ (0 ≤ w.toInt)) => ?_)
  · refine ex_al oq_X4_firmIn_8 rfl ?_
    refine ex_gf oq_X4_firmIn_9 hT (k := b) (d := 4) hb rfl (pG) ?_
    refine ex_il oq_X4_firmIn_12 rfl ?_
    refine ex_bi oq_X4_firmIn_13 (m := 12) (by decide) (fun x12 hx12 => ?_)
    refine ex_mul oq_X4_firmIn_15 (m := w.toInt * 12) (by rw [show x12.toInt = 12 from by omega]) (by omega) (fun x13 hx13 => ?_)
    refine ex_bi oq_X4_firmIn_16 (m := 52) (by decide) (fun x14 hx14 => ?_)
    refine ex_div oq_X4_firmIn_18 (by omega) (by omega) (fun x15 hx15 => ?_)
    replace hx15 : x15.toInt = (w.toInt * 12) / (52) := by rw [hx15, show x13.toInt = w.toInt * 12 from by omega, show x14.toInt = 52 from by omega]
    refine ex_bi oq_X4_firmIn_19 (m := 12) (by decide) (fun x16 hx16 => ?_)
    refine ex_rem oq_X4_firmIn_21 (by omega) (fun x17 hx17 => ?_)
    replace hx17 : x17.toInt = x15.toInt % 12 := by rw [hx17]; exact zrem12 (by omega) (by omega)
    refine ex_ia1 oq_X4_firmIn_22 hT (k := RG) (d := 28) (j := (w.toInt * 12 / 52 % 12).toNat) hRG rfl (by omega) (by omega) (fun x18 hx18 lx18 ux18 => ?_)
    exact ex_reti oq_X4_firmIn_23 rfl (hQ x18 (hx18.symm.trans (hG _ (by omega))))
  · exfalso; omega
def gNm (T γ : Nat → Int) (firm week fall : Int) (j : Nat) : Int :=
  if j = 0 then gPull T (γ 9) (γ 7) else if j = 1 then firm + γ 8 else if j = 2 then γ 5 else if j = 3 then T 8 else if j = 4 then (if γ 6 = 1 then 1 else 0) else if j = 5 then (if γ 6 = 2 then 1 else 0) else if j = 6 then gDrop T (γ 1) (γ 2) (γ 3) (γ 4) else if j = 7 then week else if j = 8 then γ 9 else if j = 9 then fall else 0
theorem oq_X2_see_0 : cw_ho 31 0 (.aload_n 0) 1 0 0 0 := rfl
theorem oq_X2_see_1 : cw_ho 31 1 (.iconst 0) 1 0 0 0 := rfl
theorem oq_X2_see_2 : cw_ho 31 2 (.aload_n 2) 1 0 0 0 := rfl
theorem oq_X2_see_3 : cw_ho 31 3 (.invokevirtual 26) 3 17 0 1 := rfl
theorem oq_X2_see_6 : cw_ho 31 6 (.i2l) 1 0 0 0 := rfl
theorem oq_X2_see_7 : cw_ho 31 7 (.invokevirtual 32) 3 30 2 2 := rfl
theorem oq_X2_see_10 : cw_ho 31 10 (.aload_n 0) 1 0 0 0 := rfl
theorem oq_X2_see_11 : cw_ho 31 11 (.iconst 1) 1 0 0 0 := rfl
theorem oq_X2_see_12 : cw_ho 31 12 (.aload_n 1) 1 0 0 0 := rfl
theorem oq_X2_see_13 : cw_ho 31 13 (.iload_n 3) 1 0 0 0 := rfl
theorem oq_X2_see_14 : cw_ho 31 14 (.invokevirtual 36) 3 53 1 4 := rfl
theorem oq_X2_see_17 : cw_ho 31 17 (.aload_n 2) 1 0 0 0 := rfl
theorem oq_X2_see_18 : cw_ho 31 18 (.getfield 42) 3 1 8 0 := rfl
theorem oq_X2_see_21 : cw_ho 31 21 (.iadd) 1 0 0 0 := rfl
theorem oq_X2_see_22 : cw_ho 31 22 (.i2l) 1 0 0 0 := rfl
theorem oq_X2_see_23 : cw_ho 31 23 (.invokevirtual 32) 3 30 2 2 := rfl
theorem oq_X2_see_26 : cw_ho 31 26 (.aload_n 0) 1 0 0 0 := rfl
theorem oq_X2_see_27 : cw_ho 31 27 (.iconst 2) 1 0 0 0 := rfl
theorem oq_X2_see_28 : cw_ho 31 28 (.aload_n 2) 1 0 0 0 := rfl
theorem oq_X2_see_29 : cw_ho 31 29 (.getfield 45) 3 1 5 0 := rfl
theorem oq_X2_see_32 : cw_ho 31 32 (.i2l) 1 0 0 0 := rfl
theorem oq_X2_see_33 : cw_ho 31 33 (.invokevirtual 32) 3 30 2 2 := rfl
theorem oq_X2_see_36 : cw_ho 31 36 (.aload_n 0) 1 0 0 0 := rfl
theorem oq_X2_see_37 : cw_ho 31 37 (.iconst 3) 1 0 0 0 := rfl
theorem oq_X2_see_38 : cw_ho 31 38 (.aload_n 2) 1 0 0 0 := rfl
theorem oq_X2_see_39 : cw_ho 31 39 (.getfield 48) 3 1 0 4 := rfl
theorem oq_X2_see_42 : cw_ho 31 42 (.getfield 52) 3 7 8 0 := rfl
theorem oq_X2_see_45 : cw_ho 31 45 (.i2l) 1 0 0 0 := rfl
theorem oq_X2_see_46 : cw_ho 31 46 (.invokevirtual 32) 3 30 2 2 := rfl
theorem oq_X2_see_49 : cw_ho 31 49 (.aload_n 0) 1 0 0 0 := rfl
theorem oq_X2_see_50 : cw_ho 31 50 (.iconst 4) 1 0 0 0 := rfl
theorem oq_X2_see_51 : cw_ho 31 51 (.aload_n 2) 1 0 0 0 := rfl
theorem oq_X2_see_52 : cw_ho 31 52 (.getfield 57) 3 1 6 0 := rfl
theorem oq_X2_see_55 : cw_ho 31 55 (.iconst 1) 1 0 0 0 := rfl
theorem oq_X2_see_56 : cw_ho 31 56 (.if_icmp .ne 7) 3 0 0 0 := rfl
theorem oq_X2_see_59 : cw_ho 31 59 (.lconst 1) 1 0 0 0 := rfl
theorem oq_X2_see_60 : cw_ho 31 60 (.goto 4) 3 0 0 0 := rfl
theorem oq_X2_see_63 : cw_ho 31 63 (.lconst 0) 1 0 0 0 := rfl
theorem oq_X2_see_64 : cw_ho 31 64 (.invokevirtual 32) 3 30 2 2 := rfl
theorem oq_X2_see_67 : cw_ho 31 67 (.aload_n 0) 1 0 0 0 := rfl
theorem oq_X2_see_68 : cw_ho 31 68 (.iconst 5) 1 0 0 0 := rfl
theorem oq_X2_see_69 : cw_ho 31 69 (.aload_n 2) 1 0 0 0 := rfl
theorem oq_X2_see_70 : cw_ho 31 70 (.getfield 57) 3 1 6 0 := rfl
theorem oq_X2_see_73 : cw_ho 31 73 (.iconst 2) 1 0 0 0 := rfl
theorem oq_X2_see_74 : cw_ho 31 74 (.if_icmp .ne 7) 3 0 0 0 := rfl
theorem oq_X2_see_77 : cw_ho 31 77 (.lconst 1) 1 0 0 0 := rfl
theorem oq_X2_see_78 : cw_ho 31 78 (.goto 4) 3 0 0 0 := rfl
theorem oq_X2_see_81 : cw_ho 31 81 (.lconst 0) 1 0 0 0 := rfl
theorem oq_X2_see_82 : cw_ho 31 82 (.invokevirtual 32) 3 30 2 2 := rfl
theorem oq_X2_see_85 : cw_ho 31 85 (.aload_n 0) 1 0 0 0 := rfl
theorem oq_X2_see_86 : cw_ho 31 86 (.bipush 6) 2 0 0 0 := rfl
theorem oq_X2_see_88 : cw_ho 31 88 (.aload_n 2) 1 0 0 0 := rfl
theorem oq_X2_see_89 : cw_ho 31 89 (.invokevirtual 60) 3 20 0 1 := rfl
theorem oq_X2_see_92 : cw_ho 31 92 (.i2l) 1 0 0 0 := rfl
theorem oq_X2_see_93 : cw_ho 31 93 (.invokevirtual 32) 3 30 2 2 := rfl
theorem oq_X2_see_96 : cw_ho 31 96 (.aload_n 0) 1 0 0 0 := rfl
theorem oq_X2_see_97 : cw_ho 31 97 (.bipush 7) 2 0 0 0 := rfl
theorem oq_X2_see_99 : cw_ho 31 99 (.iload_n 3) 1 0 0 0 := rfl
theorem oq_X2_see_100 : cw_ho 31 100 (.i2l) 1 0 0 0 := rfl
theorem oq_X2_see_101 : cw_ho 31 101 (.invokevirtual 32) 3 30 2 2 := rfl
theorem oq_X2_see_104 : cw_ho 31 104 (.aload_n 0) 1 0 0 0 := rfl
theorem oq_X2_see_105 : cw_ho 31 105 (.bipush 8) 2 0 0 0 := rfl
theorem oq_X2_see_107 : cw_ho 31 107 (.aload_n 2) 1 0 0 0 := rfl
theorem oq_X2_see_108 : cw_ho 31 108 (.getfield 63) 3 1 9 0 := rfl
theorem oq_X2_see_111 : cw_ho 31 111 (.i2l) 1 0 0 0 := rfl
theorem oq_X2_see_112 : cw_ho 31 112 (.invokevirtual 32) 3 30 2 2 := rfl
theorem oq_X2_see_115 : cw_ho 31 115 (.aload_n 0) 1 0 0 0 := rfl
theorem oq_X2_see_116 : cw_ho 31 116 (.bipush 9) 2 0 0 0 := rfl
theorem oq_X2_see_118 : cw_ho 31 118 (.iload 4) 2 0 0 0 := rfl
theorem oq_X2_see_120 : cw_ho 31 120 (.i2l) 1 0 0 0 := rfl
theorem oq_X2_see_121 : cw_ho 31 121 (.invokevirtual 32) 3 30 2 2 := rfl
theorem oq_X2_see_124 : cw_ho 31 124 (.return_) 1 0 0 0 := rfl
set_option maxHeartbeats 4000000 in
theorem cl_see {b RG : Nat} (hT : cw_T G h) (hb : cw_sh[b]? = some 4) (hRG : cw_sh[RG]? = some 28) (pG : cw_at h b 0 = some (cv_r RG)) {g : Nat → Int} (hG : ∀ j, j < 12 → ri_at h RG j = g j) (hg : ∀ j, 0 ≤ g j ∧ g j ≤ 100) {K U : Nat} (hK : cw_sh[K]? = some 1) (hU : cw_sh[U]? = some 7) (hp : cw_at h K 0 = some (cv_r U)) {T γ : Nat → Int} (tT : zTV h U T) (tG : zGV h K γ) (rT : gTR T) (rG : gGR γ) {w f : Int32} (hw : 0 ≤ w.toInt ∧ w.toInt ≤ 10000000) {V : Nat → Int} (hP : zLP h V) (hQ : ∀ h', cw_T G h' → zF3 h h' → (∀ j, j < 10 → rl_at h' 56 j = gNm T γ (gFirm g w.toInt) w.toInt f.toInt j) → zLP h' V → (ri_at h 55 3 = -1 → ri_at h' 55 3 = -1) → Q (none, h')) : cw_X X 31 Q 0 (cv_ent 0 [cv_r 55, cv_r b, cv_r K, cv_i w, cv_i f]) [] h := by
  have hgf : 0 ≤ gFirm g w.toInt ∧ gFirm g w.toInt ≤ 100 := hg _
  have rT' := rT
  have rG' := rG
  obtain ⟨rT0, rT1, rT2, rT3, rT5, rT6, rT7, rT8, rT9, rT10, rT11, rT12, rT13, rT14⟩ := rT'
  obtain ⟨rG1, rG2, rG3, rG4, rG5, rG6, rG7, rG8, rG9, rG10, rG11, rG12, rG13, rG14, rG15, rG16⟩ := rG'
  refine ex_al oq_X2_see_0 rfl ?_
  refine ex_ic oq_X2_see_1 (m := 0) (by decide) (fun x101 hx101 => ?_)
  refine ex_al oq_X2_see_2 rfl ?_
  refine ex_cv oq_X2_see_3 (by decide) hT (k := K) (d := 1) (as := []) (stk := [cv_i x101, cv_r 55]) hK rfl rfl rfl rfl rfl ⟨rfl, rfl⟩ (R := fun o => ∃ x : Int32, o = (some (cv_i x), h) ∧ x.toInt = gPull T (γ 9) (γ 7)) (cg_pull hT hK hU hp tT tG rT rG (fun x q => ⟨x, rfl, q⟩)) (fun o ho => ?_)
  obtain ⟨x102, rfl, hx102⟩ := ho
  show cw_X _ _ _ _ _ [cv_i x102, cv_i x101, cv_r 55] h
  refine ex_i2l oq_X2_see_6 (fun x103 hx103 => ?_)
  refine ex_cv oq_X2_see_7 (by decide) hT (k := 55) (d := 2) (as := [cv_i x101, cv_l x103]) (stk := []) rfl rfl rfl rfl rfl rfl ⟨rfl, rfl⟩ (R := fun o => ∃ hb : cv_H, o = (none, hb) ∧ cw_T G hb ∧ zF3 h hb ∧ rl_at hb 56 0 = x103.toInt ∧ (∀ j, j ≠ 0 → rl_at hb 56 j = rl_at h 56 j) ∧ zLP hb V ∧ (ri_at h 55 3 = -1 → ri_at hb 55 3 = -1)) (cl_put hT (nm := 0) (by omega) (by omega) hP (fun hb b1 b2 b3 b4 b5 b6 => ⟨hb, rfl, b1, b2, b3, b4, b5, b6⟩)) (fun o ho => ?_)
  obtain ⟨h104, rfl, Th104, zh104, vh104, nh104, hPh104, mh104⟩ := ho
  show cw_X _ _ _ _ _ [] h104
  have Zh104 : zF3 h h104 := zh104
  have Mh104 : ri_at h 55 3 = -1 → ri_at h104 55 3 = -1 := mh104
  have tTh104 : zTV h104 U T := fun j hj => (zF3_ri zh104 (cw_kne (k := U) (d := 7) (k' := 55) (d' := 2) hU rfl (by decide)) (cw_kne (k := U) (d := 7) (k' := 56) (d' := 17) hU rfl (by decide))).trans (tT j hj)
  have tGh104 : zGV h104 K γ := fun j hj => (zF3_ri zh104 (cw_kne (k := K) (d := 1) (k' := 55) (d' := 2) hK rfl (by decide)) (cw_kne (k := K) (d := 1) (k' := 56) (d' := 17) hK rfl (by decide))).trans (tG j hj)
  have hph104 := (zF3_at zh104 (cw_kne (k := K) (d := 1) (k' := 55) (d' := 2) hK rfl (by decide)) (cw_kne (k := K) (d := 1) (k' := 56) (d' := 17) hK rfl (by decide))).trans hp
  have w0h104 : rl_at h104 56 0 = gPull T (γ 9) (γ 7) := vh104.trans (by omega)
  refine ex_al oq_X2_see_10 rfl ?_
  refine ex_ic oq_X2_see_11 (m := 1) (by decide) (fun x105 hx105 => ?_)
  refine ex_al oq_X2_see_12 rfl ?_
  refine ex_il oq_X2_see_13 rfl ?_
  refine ex_cv oq_X2_see_14 (by decide) Th104 (k := b) (d := 4) (as := [cv_i w]) (stk := [cv_i x105, cv_r 55]) hb rfl rfl rfl rfl rfl ⟨rfl, rfl⟩ (R := fun o => ∃ x : Int32, o = (some (cv_i x), h104) ∧ x.toInt = gFirm g w.toInt) (cg_firmIn Th104 hb hRG ((zF3_at Zh104 (cw_kne (k := b) (d := 4) (k' := 55) (d' := 2) hb rfl (by decide)) (cw_kne (k := b) (d := 4) (k' := 56) (d' := 17) hb rfl (by decide))).trans pG) (fun j hj => (zF3_ri Zh104 (cw_kne (k := RG) (d := 28) (k' := 55) (d' := 2) hRG rfl (by decide)) (cw_kne (k := RG) (d := 28) (k' := 56) (d' := 17) hRG rfl (by decide))).trans (hG j hj)) hw (fun x q => ⟨x, rfl, q⟩)) (fun o ho => ?_)
  obtain ⟨x106, rfl, hx106⟩ := ho
  show cw_X _ _ _ _ _ [cv_i x106, cv_i x105, cv_r 55] h104
  refine ex_al oq_X2_see_17 rfl ?_
  obtain ⟨x107, ax107, rx107, lx107, ux107⟩ := ri_fld (k := K) (d := 1) (f := 8) Th104 hK rfl rfl
  try dsimp only at lx107 ux107
  refine ex_gf oq_X2_see_18 Th104 (k := K) (d := 1) hK rfl ax107 ?_
  clear lx107 ux107
  have rx107 := (rx107.symm.trans (tGh104 8 (by decide)) : x107.toInt = γ 8)
  refine ex_add oq_X2_see_21 (by omega) (fun x108 hx108 => ?_)
  refine ex_i2l oq_X2_see_22 (fun x109 hx109 => ?_)
  refine ex_cv oq_X2_see_23 (by decide) Th104 (k := 55) (d := 2) (as := [cv_i x105, cv_l x109]) (stk := []) rfl rfl rfl rfl rfl rfl ⟨rfl, rfl⟩ (R := fun o => ∃ hb : cv_H, o = (none, hb) ∧ cw_T G hb ∧ zF3 h104 hb ∧ rl_at hb 56 1 = x109.toInt ∧ (∀ j, j ≠ 1 → rl_at hb 56 j = rl_at h104 56 j) ∧ zLP hb V ∧ (ri_at h104 55 3 = -1 → ri_at hb 55 3 = -1)) (cl_put Th104 (nm := 1) (by omega) (by omega) hPh104 (fun hb b1 b2 b3 b4 b5 b6 => ⟨hb, rfl, b1, b2, b3, b4, b5, b6⟩)) (fun o ho => ?_)
  obtain ⟨h110, rfl, Th110, zh110, vh110, nh110, hPh110, mh110⟩ := ho
  show cw_X _ _ _ _ _ [] h110
  have Zh110 : zF3 h h110 := zF3_tr Zh104 zh110
  have Mh110 : ri_at h 55 3 = -1 → ri_at h110 55 3 = -1 := fun q => mh110 (Mh104 q)
  have tTh110 : zTV h110 U T := fun j hj => (zF3_ri zh110 (cw_kne (k := U) (d := 7) (k' := 55) (d' := 2) hU rfl (by decide)) (cw_kne (k := U) (d := 7) (k' := 56) (d' := 17) hU rfl (by decide))).trans (tTh104 j hj)
  have tGh110 : zGV h110 K γ := fun j hj => (zF3_ri zh110 (cw_kne (k := K) (d := 1) (k' := 55) (d' := 2) hK rfl (by decide)) (cw_kne (k := K) (d := 1) (k' := 56) (d' := 17) hK rfl (by decide))).trans (tGh104 j hj)
  have hph110 := (zF3_at zh110 (cw_kne (k := K) (d := 1) (k' := 55) (d' := 2) hK rfl (by decide)) (cw_kne (k := K) (d := 1) (k' := 56) (d' := 17) hK rfl (by decide))).trans hph104
  have w1h110 : rl_at h110 56 1 = gFirm g w.toInt + γ 8 := vh110.trans (by omega)
  have w0h110 : rl_at h110 56 0 = gPull T (γ 9) (γ 7) := (nh110 0 (by decide)).trans w0h104
  refine ex_al oq_X2_see_26 rfl ?_
  refine ex_ic oq_X2_see_27 (m := 2) (by decide) (fun x111 hx111 => ?_)
  refine ex_al oq_X2_see_28 rfl ?_
  obtain ⟨x112, ax112, rx112, lx112, ux112⟩ := ri_fld (k := K) (d := 1) (f := 5) Th110 hK rfl rfl
  try dsimp only at lx112 ux112
  refine ex_gf oq_X2_see_29 Th110 (k := K) (d := 1) hK rfl ax112 ?_
  clear lx112 ux112
  have rx112 := (rx112.symm.trans (tGh110 5 (by decide)) : x112.toInt = γ 5)
  refine ex_i2l oq_X2_see_32 (fun x113 hx113 => ?_)
  refine ex_cv oq_X2_see_33 (by decide) Th110 (k := 55) (d := 2) (as := [cv_i x111, cv_l x113]) (stk := []) rfl rfl rfl rfl rfl rfl ⟨rfl, rfl⟩ (R := fun o => ∃ hb : cv_H, o = (none, hb) ∧ cw_T G hb ∧ zF3 h110 hb ∧ rl_at hb 56 2 = x113.toInt ∧ (∀ j, j ≠ 2 → rl_at hb 56 j = rl_at h110 56 j) ∧ zLP hb V ∧ (ri_at h110 55 3 = -1 → ri_at hb 55 3 = -1)) (cl_put Th110 (nm := 2) (by omega) (by omega) hPh110 (fun hb b1 b2 b3 b4 b5 b6 => ⟨hb, rfl, b1, b2, b3, b4, b5, b6⟩)) (fun o ho => ?_)
  obtain ⟨h114, rfl, Th114, zh114, vh114, nh114, hPh114, mh114⟩ := ho
  show cw_X _ _ _ _ _ [] h114
  have Zh114 : zF3 h h114 := zF3_tr Zh110 zh114
  have Mh114 : ri_at h 55 3 = -1 → ri_at h114 55 3 = -1 := fun q => mh114 (Mh110 q)
  have tTh114 : zTV h114 U T := fun j hj => (zF3_ri zh114 (cw_kne (k := U) (d := 7) (k' := 55) (d' := 2) hU rfl (by decide)) (cw_kne (k := U) (d := 7) (k' := 56) (d' := 17) hU rfl (by decide))).trans (tTh110 j hj)
  have tGh114 : zGV h114 K γ := fun j hj => (zF3_ri zh114 (cw_kne (k := K) (d := 1) (k' := 55) (d' := 2) hK rfl (by decide)) (cw_kne (k := K) (d := 1) (k' := 56) (d' := 17) hK rfl (by decide))).trans (tGh110 j hj)
  have hph114 := (zF3_at zh114 (cw_kne (k := K) (d := 1) (k' := 55) (d' := 2) hK rfl (by decide)) (cw_kne (k := K) (d := 1) (k' := 56) (d' := 17) hK rfl (by decide))).trans hph110
  have w2h114 : rl_at h114 56 2 = γ 5 := vh114.trans (by omega)
  have w0h114 : rl_at h114 56 0 = gPull T (γ 9) (γ 7) := (nh114 0 (by decide)).trans w0h110
  have w1h114 : rl_at h114 56 1 = gFirm g w.toInt + γ 8 := (nh114 1 (by decide)).trans w1h110
  refine ex_al oq_X2_see_36 rfl ?_
  refine ex_ic oq_X2_see_37 (m := 3) (by decide) (fun x115 hx115 => ?_)
  refine ex_al oq_X2_see_38 rfl ?_
  refine ex_gf oq_X2_see_39 Th114 (k := K) (d := 1) hK rfl (hph114) ?_
  obtain ⟨x116, ax116, rx116, lx116, ux116⟩ := ri_fld (k := U) (d := 7) (f := 8) Th114 hU rfl rfl
  try dsimp only at lx116 ux116
  refine ex_gf oq_X2_see_42 Th114 (k := U) (d := 7) hU rfl ax116 ?_
  clear lx116 ux116
  have rx116 := (rx116.symm.trans (tTh114 8 (by decide)) : x116.toInt = T 8)
  refine ex_i2l oq_X2_see_45 (fun x117 hx117 => ?_)
  refine ex_cv oq_X2_see_46 (by decide) Th114 (k := 55) (d := 2) (as := [cv_i x115, cv_l x117]) (stk := []) rfl rfl rfl rfl rfl rfl ⟨rfl, rfl⟩ (R := fun o => ∃ hb : cv_H, o = (none, hb) ∧ cw_T G hb ∧ zF3 h114 hb ∧ rl_at hb 56 3 = x117.toInt ∧ (∀ j, j ≠ 3 → rl_at hb 56 j = rl_at h114 56 j) ∧ zLP hb V ∧ (ri_at h114 55 3 = -1 → ri_at hb 55 3 = -1)) (cl_put Th114 (nm := 3) (by omega) (by omega) hPh114 (fun hb b1 b2 b3 b4 b5 b6 => ⟨hb, rfl, b1, b2, b3, b4, b5, b6⟩)) (fun o ho => ?_)
  obtain ⟨h118, rfl, Th118, zh118, vh118, nh118, hPh118, mh118⟩ := ho
  show cw_X _ _ _ _ _ [] h118
  have Zh118 : zF3 h h118 := zF3_tr Zh114 zh118
  have Mh118 : ri_at h 55 3 = -1 → ri_at h118 55 3 = -1 := fun q => mh118 (Mh114 q)
  have tTh118 : zTV h118 U T := fun j hj => (zF3_ri zh118 (cw_kne (k := U) (d := 7) (k' := 55) (d' := 2) hU rfl (by decide)) (cw_kne (k := U) (d := 7) (k' := 56) (d' := 17) hU rfl (by decide))).trans (tTh114 j hj)
  have tGh118 : zGV h118 K γ := fun j hj => (zF3_ri zh118 (cw_kne (k := K) (d := 1) (k' := 55) (d' := 2) hK rfl (by decide)) (cw_kne (k := K) (d := 1) (k' := 56) (d' := 17) hK rfl (by decide))).trans (tGh114 j hj)
  have hph118 := (zF3_at zh118 (cw_kne (k := K) (d := 1) (k' := 55) (d' := 2) hK rfl (by decide)) (cw_kne (k := K) (d := 1) (k' := 56) (d' := 17) hK rfl (by decide))).trans hph114
  have w3h118 : rl_at h118 56 3 = T 8 := vh118.trans (by omega)
  have w0h118 : rl_at h118 56 0 = gPull T (γ 9) (γ 7) := (nh118 0 (by decide)).trans w0h114
  have w1h118 : rl_at h118 56 1 = gFirm g w.toInt + γ 8 := (nh118 1 (by decide)).trans w1h114
  have w2h118 : rl_at h118 56 2 = γ 5 := (nh118 2 (by decide)).trans w2h114
  refine ex_al oq_X2_see_49 rfl ?_
  refine ex_ic oq_X2_see_50 (m := 4) (by decide) (fun x119 hx119 => ?_)
  refine ex_al oq_X2_see_51 rfl ?_
  obtain ⟨x120, ax120, rx120, lx120, ux120⟩ := ri_fld (k := K) (d := 1) (f := 6) Th118 hK rfl rfl
  try dsimp only at lx120 ux120
  refine ex_gf oq_X2_see_52 Th118 (k := K) (d := 1) hK rfl ax120 ?_
  clear lx120 ux120
  have rx120 := (rx120.symm.trans (tGh118 6 (by decide)) : x120.toInt = γ 6)
  refine ex_ic oq_X2_see_55 (m := 1) (by decide) (fun x121 hx121 => ?_)
  refine ex_if oq_X2_see_56 (t := 63) rfl rfl (fun (c122 : ¬ x120.toInt = x121.toInt) => ?_) (fun (c122 : ¬ (¬ x120.toInt = x121.toInt)) => ?_)
  · refine ex_lc oq_X2_see_63 (m := 0) (by decide) (fun x123 hx123 => ?_)
    refine ex_cv oq_X2_see_64 (by decide) Th118 (k := 55) (d := 2) (as := [cv_i x119, cv_l x123]) (stk := []) rfl rfl rfl rfl rfl rfl ⟨rfl, rfl⟩ (R := fun o => ∃ hb : cv_H, o = (none, hb) ∧ cw_T G hb ∧ zF3 h118 hb ∧ rl_at hb 56 4 = x123.toInt ∧ (∀ j, j ≠ 4 → rl_at hb 56 j = rl_at h118 56 j) ∧ zLP hb V ∧ (ri_at h118 55 3 = -1 → ri_at hb 55 3 = -1)) (cl_put Th118 (nm := 4) (by omega) (by omega) hPh118 (fun hb b1 b2 b3 b4 b5 b6 => ⟨hb, rfl, b1, b2, b3, b4, b5, b6⟩)) (fun o ho => ?_)
    obtain ⟨h124, rfl, Th124, zh124, vh124, nh124, hPh124, mh124⟩ := ho
    show cw_X _ _ _ _ _ [] h124
    have Zh124 : zF3 h h124 := zF3_tr Zh118 zh124
    have Mh124 : ri_at h 55 3 = -1 → ri_at h124 55 3 = -1 := fun q => mh124 (Mh118 q)
    have tTh124 : zTV h124 U T := fun j hj => (zF3_ri zh124 (cw_kne (k := U) (d := 7) (k' := 55) (d' := 2) hU rfl (by decide)) (cw_kne (k := U) (d := 7) (k' := 56) (d' := 17) hU rfl (by decide))).trans (tTh118 j hj)
    have tGh124 : zGV h124 K γ := fun j hj => (zF3_ri zh124 (cw_kne (k := K) (d := 1) (k' := 55) (d' := 2) hK rfl (by decide)) (cw_kne (k := K) (d := 1) (k' := 56) (d' := 17) hK rfl (by decide))).trans (tGh118 j hj)
    have hph124 := (zF3_at zh124 (cw_kne (k := K) (d := 1) (k' := 55) (d' := 2) hK rfl (by decide)) (cw_kne (k := K) (d := 1) (k' := 56) (d' := 17) hK rfl (by decide))).trans hph118
    have w4h124 : rl_at h124 56 4 = (if γ 6 = 1 then 1 else 0) := vh124.trans (by rw [if_neg (by omega)]; omega)
    have w0h124 : rl_at h124 56 0 = gPull T (γ 9) (γ 7) := (nh124 0 (by decide)).trans w0h118
    have w1h124 : rl_at h124 56 1 = gFirm g w.toInt + γ 8 := (nh124 1 (by decide)).trans w1h118
    have w2h124 : rl_at h124 56 2 = γ 5 := (nh124 2 (by decide)).trans w2h118
    have w3h124 : rl_at h124 56 3 = T 8 := (nh124 3 (by decide)).trans w3h118
    refine ex_al oq_X2_see_67 rfl ?_
    refine ex_ic oq_X2_see_68 (m := 5) (by decide) (fun x125 hx125 => ?_)
    refine ex_al oq_X2_see_69 rfl ?_
    obtain ⟨x126, ax126, rx126, lx126, ux126⟩ := ri_fld (k := K) (d := 1) (f := 6) Th124 hK rfl rfl
    try dsimp only at lx126 ux126
    refine ex_gf oq_X2_see_70 Th124 (k := K) (d := 1) hK rfl ax126 ?_
    clear lx126 ux126
    have rx126 := (rx126.symm.trans (tGh124 6 (by decide)) : x126.toInt = γ 6)
    refine ex_ic oq_X2_see_73 (m := 2) (by decide) (fun x127 hx127 => ?_)
    refine ex_if oq_X2_see_74 (t := 81) rfl rfl (fun (c128 : ¬ x126.toInt = x127.toInt) => ?_) (fun (c128 : ¬ (¬ x126.toInt = x127.toInt)) => ?_)
    · refine ex_lc oq_X2_see_81 (m := 0) (by decide) (fun x129 hx129 => ?_)
      refine ex_cv oq_X2_see_82 (by decide) Th124 (k := 55) (d := 2) (as := [cv_i x125, cv_l x129]) (stk := []) rfl rfl rfl rfl rfl rfl ⟨rfl, rfl⟩ (R := fun o => ∃ hb : cv_H, o = (none, hb) ∧ cw_T G hb ∧ zF3 h124 hb ∧ rl_at hb 56 5 = x129.toInt ∧ (∀ j, j ≠ 5 → rl_at hb 56 j = rl_at h124 56 j) ∧ zLP hb V ∧ (ri_at h124 55 3 = -1 → ri_at hb 55 3 = -1)) (cl_put Th124 (nm := 5) (by omega) (by omega) hPh124 (fun hb b1 b2 b3 b4 b5 b6 => ⟨hb, rfl, b1, b2, b3, b4, b5, b6⟩)) (fun o ho => ?_)
      obtain ⟨h130, rfl, Th130, zh130, vh130, nh130, hPh130, mh130⟩ := ho
      show cw_X _ _ _ _ _ [] h130
      have Zh130 : zF3 h h130 := zF3_tr Zh124 zh130
      have Mh130 : ri_at h 55 3 = -1 → ri_at h130 55 3 = -1 := fun q => mh130 (Mh124 q)
      have tTh130 : zTV h130 U T := fun j hj => (zF3_ri zh130 (cw_kne (k := U) (d := 7) (k' := 55) (d' := 2) hU rfl (by decide)) (cw_kne (k := U) (d := 7) (k' := 56) (d' := 17) hU rfl (by decide))).trans (tTh124 j hj)
      have tGh130 : zGV h130 K γ := fun j hj => (zF3_ri zh130 (cw_kne (k := K) (d := 1) (k' := 55) (d' := 2) hK rfl (by decide)) (cw_kne (k := K) (d := 1) (k' := 56) (d' := 17) hK rfl (by decide))).trans (tGh124 j hj)
      have hph130 := (zF3_at zh130 (cw_kne (k := K) (d := 1) (k' := 55) (d' := 2) hK rfl (by decide)) (cw_kne (k := K) (d := 1) (k' := 56) (d' := 17) hK rfl (by decide))).trans hph124
      have w5h130 : rl_at h130 56 5 = (if γ 6 = 2 then 1 else 0) := vh130.trans (by rw [if_neg (by omega)]; omega)
      have w0h130 : rl_at h130 56 0 = gPull T (γ 9) (γ 7) := (nh130 0 (by decide)).trans w0h124
      have w1h130 : rl_at h130 56 1 = gFirm g w.toInt + γ 8 := (nh130 1 (by decide)).trans w1h124
      have w2h130 : rl_at h130 56 2 = γ 5 := (nh130 2 (by decide)).trans w2h124
      have w3h130 : rl_at h130 56 3 = T 8 := (nh130 3 (by decide)).trans w3h124
      have w4h130 : rl_at h130 56 4 = (if γ 6 = 1 then 1 else 0) := (nh130 4 (by decide)).trans w4h124
      refine ex_al oq_X2_see_85 rfl ?_
      refine ex_bi oq_X2_see_86 (m := 6) (by decide) (fun x131 hx131 => ?_)
      refine ex_al oq_X2_see_88 rfl ?_
      refine ex_cv oq_X2_see_89 (by decide) Th130 (k := K) (d := 1) (as := []) (stk := [cv_i x131, cv_r 55]) hK rfl rfl rfl rfl rfl ⟨rfl, rfl⟩ (R := fun o => ∃ x : Int32, o = (some (cv_i x), h130) ∧ x.toInt = gDrop T (γ 1) (γ 2) (γ 3) (γ 4)) (cg_drop Th130 hK hU hph130 tTh130 tGh130 rT rG (fun x q => ⟨x, rfl, q⟩)) (fun o ho => ?_)
      obtain ⟨x132, rfl, hx132⟩ := ho
      show cw_X _ _ _ _ _ [cv_i x132, cv_i x131, cv_r 55] h130
      refine ex_i2l oq_X2_see_92 (fun x133 hx133 => ?_)
      refine ex_cv oq_X2_see_93 (by decide) Th130 (k := 55) (d := 2) (as := [cv_i x131, cv_l x133]) (stk := []) rfl rfl rfl rfl rfl rfl ⟨rfl, rfl⟩ (R := fun o => ∃ hb : cv_H, o = (none, hb) ∧ cw_T G hb ∧ zF3 h130 hb ∧ rl_at hb 56 6 = x133.toInt ∧ (∀ j, j ≠ 6 → rl_at hb 56 j = rl_at h130 56 j) ∧ zLP hb V ∧ (ri_at h130 55 3 = -1 → ri_at hb 55 3 = -1)) (cl_put Th130 (nm := 6) (by omega) (by omega) hPh130 (fun hb b1 b2 b3 b4 b5 b6 => ⟨hb, rfl, b1, b2, b3, b4, b5, b6⟩)) (fun o ho => ?_)
      obtain ⟨h134, rfl, Th134, zh134, vh134, nh134, hPh134, mh134⟩ := ho
      show cw_X _ _ _ _ _ [] h134
      have Zh134 : zF3 h h134 := zF3_tr Zh130 zh134
      have Mh134 : ri_at h 55 3 = -1 → ri_at h134 55 3 = -1 := fun q => mh134 (Mh130 q)
      have tTh134 : zTV h134 U T := fun j hj => (zF3_ri zh134 (cw_kne (k := U) (d := 7) (k' := 55) (d' := 2) hU rfl (by decide)) (cw_kne (k := U) (d := 7) (k' := 56) (d' := 17) hU rfl (by decide))).trans (tTh130 j hj)
      have tGh134 : zGV h134 K γ := fun j hj => (zF3_ri zh134 (cw_kne (k := K) (d := 1) (k' := 55) (d' := 2) hK rfl (by decide)) (cw_kne (k := K) (d := 1) (k' := 56) (d' := 17) hK rfl (by decide))).trans (tGh130 j hj)
      have hph134 := (zF3_at zh134 (cw_kne (k := K) (d := 1) (k' := 55) (d' := 2) hK rfl (by decide)) (cw_kne (k := K) (d := 1) (k' := 56) (d' := 17) hK rfl (by decide))).trans hph130
      have w6h134 : rl_at h134 56 6 = gDrop T (γ 1) (γ 2) (γ 3) (γ 4) := vh134.trans (by omega)
      have w0h134 : rl_at h134 56 0 = gPull T (γ 9) (γ 7) := (nh134 0 (by decide)).trans w0h130
      have w1h134 : rl_at h134 56 1 = gFirm g w.toInt + γ 8 := (nh134 1 (by decide)).trans w1h130
      have w2h134 : rl_at h134 56 2 = γ 5 := (nh134 2 (by decide)).trans w2h130
      have w3h134 : rl_at h134 56 3 = T 8 := (nh134 3 (by decide)).trans w3h130
      have w4h134 : rl_at h134 56 4 = (if γ 6 = 1 then 1 else 0) := (nh134 4 (by decide)).trans w4h130
      have w5h134 : rl_at h134 56 5 = (if γ 6 = 2 then 1 else 0) := (nh134 5 (by decide)).trans w5h130
      refine ex_al oq_X2_see_96 rfl ?_
      refine ex_bi oq_X2_see_97 (m := 7) (by decide) (fun x135 hx135 => ?_)
      refine ex_il oq_X2_see_99 rfl ?_
      refine ex_i2l oq_X2_see_100 (fun x136 hx136 => ?_)
      refine ex_cv oq_X2_see_101 (by decide) Th134 (k := 55) (d := 2) (as := [cv_i x135, cv_l x136]) (stk := []) rfl rfl rfl rfl rfl rfl ⟨rfl, rfl⟩ (R := fun o => ∃ hb : cv_H, o = (none, hb) ∧ cw_T G hb ∧ zF3 h134 hb ∧ rl_at hb 56 7 = x136.toInt ∧ (∀ j, j ≠ 7 → rl_at hb 56 j = rl_at h134 56 j) ∧ zLP hb V ∧ (ri_at h134 55 3 = -1 → ri_at hb 55 3 = -1)) (cl_put Th134 (nm := 7) (by omega) (by omega) hPh134 (fun hb b1 b2 b3 b4 b5 b6 => ⟨hb, rfl, b1, b2, b3, b4, b5, b6⟩)) (fun o ho => ?_)
      obtain ⟨h137, rfl, Th137, zh137, vh137, nh137, hPh137, mh137⟩ := ho
      show cw_X _ _ _ _ _ [] h137
      have Zh137 : zF3 h h137 := zF3_tr Zh134 zh137
      have Mh137 : ri_at h 55 3 = -1 → ri_at h137 55 3 = -1 := fun q => mh137 (Mh134 q)
      have tTh137 : zTV h137 U T := fun j hj => (zF3_ri zh137 (cw_kne (k := U) (d := 7) (k' := 55) (d' := 2) hU rfl (by decide)) (cw_kne (k := U) (d := 7) (k' := 56) (d' := 17) hU rfl (by decide))).trans (tTh134 j hj)
      have tGh137 : zGV h137 K γ := fun j hj => (zF3_ri zh137 (cw_kne (k := K) (d := 1) (k' := 55) (d' := 2) hK rfl (by decide)) (cw_kne (k := K) (d := 1) (k' := 56) (d' := 17) hK rfl (by decide))).trans (tGh134 j hj)
      have hph137 := (zF3_at zh137 (cw_kne (k := K) (d := 1) (k' := 55) (d' := 2) hK rfl (by decide)) (cw_kne (k := K) (d := 1) (k' := 56) (d' := 17) hK rfl (by decide))).trans hph134
      have w7h137 : rl_at h137 56 7 = w.toInt := vh137.trans (by omega)
      have w0h137 : rl_at h137 56 0 = gPull T (γ 9) (γ 7) := (nh137 0 (by decide)).trans w0h134
      have w1h137 : rl_at h137 56 1 = gFirm g w.toInt + γ 8 := (nh137 1 (by decide)).trans w1h134
      have w2h137 : rl_at h137 56 2 = γ 5 := (nh137 2 (by decide)).trans w2h134
      have w3h137 : rl_at h137 56 3 = T 8 := (nh137 3 (by decide)).trans w3h134
      have w4h137 : rl_at h137 56 4 = (if γ 6 = 1 then 1 else 0) := (nh137 4 (by decide)).trans w4h134
      have w5h137 : rl_at h137 56 5 = (if γ 6 = 2 then 1 else 0) := (nh137 5 (by decide)).trans w5h134
      have w6h137 : rl_at h137 56 6 = gDrop T (γ 1) (γ 2) (γ 3) (γ 4) := (nh137 6 (by decide)).trans w6h134
      refine ex_al oq_X2_see_104 rfl ?_
      refine ex_bi oq_X2_see_105 (m := 8) (by decide) (fun x138 hx138 => ?_)
      refine ex_al oq_X2_see_107 rfl ?_
      obtain ⟨x139, ax139, rx139, lx139, ux139⟩ := ri_fld (k := K) (d := 1) (f := 9) Th137 hK rfl rfl
      try dsimp only at lx139 ux139
      refine ex_gf oq_X2_see_108 Th137 (k := K) (d := 1) hK rfl ax139 ?_
      clear lx139 ux139
      have rx139 := (rx139.symm.trans (tGh137 9 (by decide)) : x139.toInt = γ 9)
      refine ex_i2l oq_X2_see_111 (fun x140 hx140 => ?_)
      refine ex_cv oq_X2_see_112 (by decide) Th137 (k := 55) (d := 2) (as := [cv_i x138, cv_l x140]) (stk := []) rfl rfl rfl rfl rfl rfl ⟨rfl, rfl⟩ (R := fun o => ∃ hb : cv_H, o = (none, hb) ∧ cw_T G hb ∧ zF3 h137 hb ∧ rl_at hb 56 8 = x140.toInt ∧ (∀ j, j ≠ 8 → rl_at hb 56 j = rl_at h137 56 j) ∧ zLP hb V ∧ (ri_at h137 55 3 = -1 → ri_at hb 55 3 = -1)) (cl_put Th137 (nm := 8) (by omega) (by omega) hPh137 (fun hb b1 b2 b3 b4 b5 b6 => ⟨hb, rfl, b1, b2, b3, b4, b5, b6⟩)) (fun o ho => ?_)
      obtain ⟨h141, rfl, Th141, zh141, vh141, nh141, hPh141, mh141⟩ := ho
      show cw_X _ _ _ _ _ [] h141
      have Zh141 : zF3 h h141 := zF3_tr Zh137 zh141
      have Mh141 : ri_at h 55 3 = -1 → ri_at h141 55 3 = -1 := fun q => mh141 (Mh137 q)
      have tTh141 : zTV h141 U T := fun j hj => (zF3_ri zh141 (cw_kne (k := U) (d := 7) (k' := 55) (d' := 2) hU rfl (by decide)) (cw_kne (k := U) (d := 7) (k' := 56) (d' := 17) hU rfl (by decide))).trans (tTh137 j hj)
      have tGh141 : zGV h141 K γ := fun j hj => (zF3_ri zh141 (cw_kne (k := K) (d := 1) (k' := 55) (d' := 2) hK rfl (by decide)) (cw_kne (k := K) (d := 1) (k' := 56) (d' := 17) hK rfl (by decide))).trans (tGh137 j hj)
      have hph141 := (zF3_at zh141 (cw_kne (k := K) (d := 1) (k' := 55) (d' := 2) hK rfl (by decide)) (cw_kne (k := K) (d := 1) (k' := 56) (d' := 17) hK rfl (by decide))).trans hph137
      have w8h141 : rl_at h141 56 8 = γ 9 := vh141.trans (by omega)
      have w0h141 : rl_at h141 56 0 = gPull T (γ 9) (γ 7) := (nh141 0 (by decide)).trans w0h137
      have w1h141 : rl_at h141 56 1 = gFirm g w.toInt + γ 8 := (nh141 1 (by decide)).trans w1h137
      have w2h141 : rl_at h141 56 2 = γ 5 := (nh141 2 (by decide)).trans w2h137
      have w3h141 : rl_at h141 56 3 = T 8 := (nh141 3 (by decide)).trans w3h137
      have w4h141 : rl_at h141 56 4 = (if γ 6 = 1 then 1 else 0) := (nh141 4 (by decide)).trans w4h137
      have w5h141 : rl_at h141 56 5 = (if γ 6 = 2 then 1 else 0) := (nh141 5 (by decide)).trans w5h137
      have w6h141 : rl_at h141 56 6 = gDrop T (γ 1) (γ 2) (γ 3) (γ 4) := (nh141 6 (by decide)).trans w6h137
      have w7h141 : rl_at h141 56 7 = w.toInt := (nh141 7 (by decide)).trans w7h137
      refine ex_al oq_X2_see_115 rfl ?_
      refine ex_bi oq_X2_see_116 (m := 9) (by decide) (fun x142 hx142 => ?_)
      refine ex_ilw oq_X2_see_118 rfl ?_
      refine ex_i2l oq_X2_see_120 (fun x143 hx143 => ?_)
      refine ex_cv oq_X2_see_121 (by decide) Th141 (k := 55) (d := 2) (as := [cv_i x142, cv_l x143]) (stk := []) rfl rfl rfl rfl rfl rfl ⟨rfl, rfl⟩ (R := fun o => ∃ hb : cv_H, o = (none, hb) ∧ cw_T G hb ∧ zF3 h141 hb ∧ rl_at hb 56 9 = x143.toInt ∧ (∀ j, j ≠ 9 → rl_at hb 56 j = rl_at h141 56 j) ∧ zLP hb V ∧ (ri_at h141 55 3 = -1 → ri_at hb 55 3 = -1)) (cl_put Th141 (nm := 9) (by omega) (by omega) hPh141 (fun hb b1 b2 b3 b4 b5 b6 => ⟨hb, rfl, b1, b2, b3, b4, b5, b6⟩)) (fun o ho => ?_)
      obtain ⟨h144, rfl, Th144, zh144, vh144, nh144, hPh144, mh144⟩ := ho
      show cw_X _ _ _ _ _ [] h144
      have Zh144 : zF3 h h144 := zF3_tr Zh141 zh144
      have Mh144 : ri_at h 55 3 = -1 → ri_at h144 55 3 = -1 := fun q => mh144 (Mh141 q)
      have tTh144 : zTV h144 U T := fun j hj => (zF3_ri zh144 (cw_kne (k := U) (d := 7) (k' := 55) (d' := 2) hU rfl (by decide)) (cw_kne (k := U) (d := 7) (k' := 56) (d' := 17) hU rfl (by decide))).trans (tTh141 j hj)
      have tGh144 : zGV h144 K γ := fun j hj => (zF3_ri zh144 (cw_kne (k := K) (d := 1) (k' := 55) (d' := 2) hK rfl (by decide)) (cw_kne (k := K) (d := 1) (k' := 56) (d' := 17) hK rfl (by decide))).trans (tGh141 j hj)
      have hph144 := (zF3_at zh144 (cw_kne (k := K) (d := 1) (k' := 55) (d' := 2) hK rfl (by decide)) (cw_kne (k := K) (d := 1) (k' := 56) (d' := 17) hK rfl (by decide))).trans hph141
      have w9h144 : rl_at h144 56 9 = f.toInt := vh144.trans (by omega)
      have w0h144 : rl_at h144 56 0 = gPull T (γ 9) (γ 7) := (nh144 0 (by decide)).trans w0h141
      have w1h144 : rl_at h144 56 1 = gFirm g w.toInt + γ 8 := (nh144 1 (by decide)).trans w1h141
      have w2h144 : rl_at h144 56 2 = γ 5 := (nh144 2 (by decide)).trans w2h141
      have w3h144 : rl_at h144 56 3 = T 8 := (nh144 3 (by decide)).trans w3h141
      have w4h144 : rl_at h144 56 4 = (if γ 6 = 1 then 1 else 0) := (nh144 4 (by decide)).trans w4h141
      have w5h144 : rl_at h144 56 5 = (if γ 6 = 2 then 1 else 0) := (nh144 5 (by decide)).trans w5h141
      have w6h144 : rl_at h144 56 6 = gDrop T (γ 1) (γ 2) (γ 3) (γ 4) := (nh144 6 (by decide)).trans w6h141
      have w7h144 : rl_at h144 56 7 = w.toInt := (nh144 7 (by decide)).trans w7h141
      have w8h144 : rl_at h144 56 8 = γ 9 := (nh144 8 (by decide)).trans w8h141
      refine ex_retv oq_X2_see_124 rfl (hQ h144 Th144 Zh144 (fun j hj => ?_) hPh144 Mh144)
      have : j = 0 ∨ j = 1 ∨ j = 2 ∨ j = 3 ∨ j = 4 ∨ j = 5 ∨ j = 6 ∨ j = 7 ∨ j = 8 ∨ j = 9 := by omega
      rcases this with rfl | rfl | rfl | rfl | rfl | rfl | rfl | rfl | rfl | rfl
      · exact w0h144
      · exact w1h144
      · exact w2h144
      · exact w3h144
      · exact w4h144
      · exact w5h144
      · exact w6h144
      · exact w7h144
      · exact w8h144
      · exact w9h144
    · refine ex_lc oq_X2_see_77 (m := 1) (by decide) (fun x145 hx145 => ?_)
      refine ex_go oq_X2_see_78 (t := 82) rfl rfl ?_
      refine ex_cv oq_X2_see_82 (by decide) Th124 (k := 55) (d := 2) (as := [cv_i x125, cv_l x145]) (stk := []) rfl rfl rfl rfl rfl rfl ⟨rfl, rfl⟩ (R := fun o => ∃ hb : cv_H, o = (none, hb) ∧ cw_T G hb ∧ zF3 h124 hb ∧ rl_at hb 56 5 = x145.toInt ∧ (∀ j, j ≠ 5 → rl_at hb 56 j = rl_at h124 56 j) ∧ zLP hb V ∧ (ri_at h124 55 3 = -1 → ri_at hb 55 3 = -1)) (cl_put Th124 (nm := 5) (by omega) (by omega) hPh124 (fun hb b1 b2 b3 b4 b5 b6 => ⟨hb, rfl, b1, b2, b3, b4, b5, b6⟩)) (fun o ho => ?_)
      obtain ⟨h146, rfl, Th146, zh146, vh146, nh146, hPh146, mh146⟩ := ho
      show cw_X _ _ _ _ _ [] h146
      have Zh146 : zF3 h h146 := zF3_tr Zh124 zh146
      have Mh146 : ri_at h 55 3 = -1 → ri_at h146 55 3 = -1 := fun q => mh146 (Mh124 q)
      have tTh146 : zTV h146 U T := fun j hj => (zF3_ri zh146 (cw_kne (k := U) (d := 7) (k' := 55) (d' := 2) hU rfl (by decide)) (cw_kne (k := U) (d := 7) (k' := 56) (d' := 17) hU rfl (by decide))).trans (tTh124 j hj)
      have tGh146 : zGV h146 K γ := fun j hj => (zF3_ri zh146 (cw_kne (k := K) (d := 1) (k' := 55) (d' := 2) hK rfl (by decide)) (cw_kne (k := K) (d := 1) (k' := 56) (d' := 17) hK rfl (by decide))).trans (tGh124 j hj)
      have hph146 := (zF3_at zh146 (cw_kne (k := K) (d := 1) (k' := 55) (d' := 2) hK rfl (by decide)) (cw_kne (k := K) (d := 1) (k' := 56) (d' := 17) hK rfl (by decide))).trans hph124
      have w5h146 : rl_at h146 56 5 = (if γ 6 = 2 then 1 else 0) := vh146.trans (by rw [if_pos (by omega)]; omega)
      have w0h146 : rl_at h146 56 0 = gPull T (γ 9) (γ 7) := (nh146 0 (by decide)).trans w0h124
      have w1h146 : rl_at h146 56 1 = gFirm g w.toInt + γ 8 := (nh146 1 (by decide)).trans w1h124
      have w2h146 : rl_at h146 56 2 = γ 5 := (nh146 2 (by decide)).trans w2h124
      have w3h146 : rl_at h146 56 3 = T 8 := (nh146 3 (by decide)).trans w3h124
      have w4h146 : rl_at h146 56 4 = (if γ 6 = 1 then 1 else 0) := (nh146 4 (by decide)).trans w4h124
      refine ex_al oq_X2_see_85 rfl ?_
      refine ex_bi oq_X2_see_86 (m := 6) (by decide) (fun x147 hx147 => ?_)
      refine ex_al oq_X2_see_88 rfl ?_
      refine ex_cv oq_X2_see_89 (by decide) Th146 (k := K) (d := 1) (as := []) (stk := [cv_i x147, cv_r 55]) hK rfl rfl rfl rfl rfl ⟨rfl, rfl⟩ (R := fun o => ∃ x : Int32, o = (some (cv_i x), h146) ∧ x.toInt = gDrop T (γ 1) (γ 2) (γ 3) (γ 4)) (cg_drop Th146 hK hU hph146 tTh146 tGh146 rT rG (fun x q => ⟨x, rfl, q⟩)) (fun o ho => ?_)
      obtain ⟨x148, rfl, hx148⟩ := ho
      show cw_X _ _ _ _ _ [cv_i x148, cv_i x147, cv_r 55] h146
      refine ex_i2l oq_X2_see_92 (fun x149 hx149 => ?_)
      refine ex_cv oq_X2_see_93 (by decide) Th146 (k := 55) (d := 2) (as := [cv_i x147, cv_l x149]) (stk := []) rfl rfl rfl rfl rfl rfl ⟨rfl, rfl⟩ (R := fun o => ∃ hb : cv_H, o = (none, hb) ∧ cw_T G hb ∧ zF3 h146 hb ∧ rl_at hb 56 6 = x149.toInt ∧ (∀ j, j ≠ 6 → rl_at hb 56 j = rl_at h146 56 j) ∧ zLP hb V ∧ (ri_at h146 55 3 = -1 → ri_at hb 55 3 = -1)) (cl_put Th146 (nm := 6) (by omega) (by omega) hPh146 (fun hb b1 b2 b3 b4 b5 b6 => ⟨hb, rfl, b1, b2, b3, b4, b5, b6⟩)) (fun o ho => ?_)
      obtain ⟨h150, rfl, Th150, zh150, vh150, nh150, hPh150, mh150⟩ := ho
      show cw_X _ _ _ _ _ [] h150
      have Zh150 : zF3 h h150 := zF3_tr Zh146 zh150
      have Mh150 : ri_at h 55 3 = -1 → ri_at h150 55 3 = -1 := fun q => mh150 (Mh146 q)
      have tTh150 : zTV h150 U T := fun j hj => (zF3_ri zh150 (cw_kne (k := U) (d := 7) (k' := 55) (d' := 2) hU rfl (by decide)) (cw_kne (k := U) (d := 7) (k' := 56) (d' := 17) hU rfl (by decide))).trans (tTh146 j hj)
      have tGh150 : zGV h150 K γ := fun j hj => (zF3_ri zh150 (cw_kne (k := K) (d := 1) (k' := 55) (d' := 2) hK rfl (by decide)) (cw_kne (k := K) (d := 1) (k' := 56) (d' := 17) hK rfl (by decide))).trans (tGh146 j hj)
      have hph150 := (zF3_at zh150 (cw_kne (k := K) (d := 1) (k' := 55) (d' := 2) hK rfl (by decide)) (cw_kne (k := K) (d := 1) (k' := 56) (d' := 17) hK rfl (by decide))).trans hph146
      have w6h150 : rl_at h150 56 6 = gDrop T (γ 1) (γ 2) (γ 3) (γ 4) := vh150.trans (by omega)
      have w0h150 : rl_at h150 56 0 = gPull T (γ 9) (γ 7) := (nh150 0 (by decide)).trans w0h146
      have w1h150 : rl_at h150 56 1 = gFirm g w.toInt + γ 8 := (nh150 1 (by decide)).trans w1h146
      have w2h150 : rl_at h150 56 2 = γ 5 := (nh150 2 (by decide)).trans w2h146
      have w3h150 : rl_at h150 56 3 = T 8 := (nh150 3 (by decide)).trans w3h146
      have w4h150 : rl_at h150 56 4 = (if γ 6 = 1 then 1 else 0) := (nh150 4 (by decide)).trans w4h146
      have w5h150 : rl_at h150 56 5 = (if γ 6 = 2 then 1 else 0) := (nh150 5 (by decide)).trans w5h146
      refine ex_al oq_X2_see_96 rfl ?_
      refine ex_bi oq_X2_see_97 (m := 7) (by decide) (fun x151 hx151 => ?_)
      refine ex_il oq_X2_see_99 rfl ?_
      refine ex_i2l oq_X2_see_100 (fun x152 hx152 => ?_)
      refine ex_cv oq_X2_see_101 (by decide) Th150 (k := 55) (d := 2) (as := [cv_i x151, cv_l x152]) (stk := []) rfl rfl rfl rfl rfl rfl ⟨rfl, rfl⟩ (R := fun o => ∃ hb : cv_H, o = (none, hb) ∧ cw_T G hb ∧ zF3 h150 hb ∧ rl_at hb 56 7 = x152.toInt ∧ (∀ j, j ≠ 7 → rl_at hb 56 j = rl_at h150 56 j) ∧ zLP hb V ∧ (ri_at h150 55 3 = -1 → ri_at hb 55 3 = -1)) (cl_put Th150 (nm := 7) (by omega) (by omega) hPh150 (fun hb b1 b2 b3 b4 b5 b6 => ⟨hb, rfl, b1, b2, b3, b4, b5, b6⟩)) (fun o ho => ?_)
      obtain ⟨h153, rfl, Th153, zh153, vh153, nh153, hPh153, mh153⟩ := ho
      show cw_X _ _ _ _ _ [] h153
      have Zh153 : zF3 h h153 := zF3_tr Zh150 zh153
      have Mh153 : ri_at h 55 3 = -1 → ri_at h153 55 3 = -1 := fun q => mh153 (Mh150 q)
      have tTh153 : zTV h153 U T := fun j hj => (zF3_ri zh153 (cw_kne (k := U) (d := 7) (k' := 55) (d' := 2) hU rfl (by decide)) (cw_kne (k := U) (d := 7) (k' := 56) (d' := 17) hU rfl (by decide))).trans (tTh150 j hj)
      have tGh153 : zGV h153 K γ := fun j hj => (zF3_ri zh153 (cw_kne (k := K) (d := 1) (k' := 55) (d' := 2) hK rfl (by decide)) (cw_kne (k := K) (d := 1) (k' := 56) (d' := 17) hK rfl (by decide))).trans (tGh150 j hj)
      have hph153 := (zF3_at zh153 (cw_kne (k := K) (d := 1) (k' := 55) (d' := 2) hK rfl (by decide)) (cw_kne (k := K) (d := 1) (k' := 56) (d' := 17) hK rfl (by decide))).trans hph150
      have w7h153 : rl_at h153 56 7 = w.toInt := vh153.trans (by omega)
      have w0h153 : rl_at h153 56 0 = gPull T (γ 9) (γ 7) := (nh153 0 (by decide)).trans w0h150
      have w1h153 : rl_at h153 56 1 = gFirm g w.toInt + γ 8 := (nh153 1 (by decide)).trans w1h150
      have w2h153 : rl_at h153 56 2 = γ 5 := (nh153 2 (by decide)).trans w2h150
      have w3h153 : rl_at h153 56 3 = T 8 := (nh153 3 (by decide)).trans w3h150
      have w4h153 : rl_at h153 56 4 = (if γ 6 = 1 then 1 else 0) := (nh153 4 (by decide)).trans w4h150
      have w5h153 : rl_at h153 56 5 = (if γ 6 = 2 then 1 else 0) := (nh153 5 (by decide)).trans w5h150
      have w6h153 : rl_at h153 56 6 = gDrop T (γ 1) (γ 2) (γ 3) (γ 4) := (nh153 6 (by decide)).trans w6h150
      refine ex_al oq_X2_see_104 rfl ?_
      refine ex_bi oq_X2_see_105 (m := 8) (by decide) (fun x154 hx154 => ?_)
      refine ex_al oq_X2_see_107 rfl ?_
      obtain ⟨x155, ax155, rx155, lx155, ux155⟩ := ri_fld (k := K) (d := 1) (f := 9) Th153 hK rfl rfl
      try dsimp only at lx155 ux155
      refine ex_gf oq_X2_see_108 Th153 (k := K) (d := 1) hK rfl ax155 ?_
      clear lx155 ux155
      have rx155 := (rx155.symm.trans (tGh153 9 (by decide)) : x155.toInt = γ 9)
      refine ex_i2l oq_X2_see_111 (fun x156 hx156 => ?_)
      refine ex_cv oq_X2_see_112 (by decide) Th153 (k := 55) (d := 2) (as := [cv_i x154, cv_l x156]) (stk := []) rfl rfl rfl rfl rfl rfl ⟨rfl, rfl⟩ (R := fun o => ∃ hb : cv_H, o = (none, hb) ∧ cw_T G hb ∧ zF3 h153 hb ∧ rl_at hb 56 8 = x156.toInt ∧ (∀ j, j ≠ 8 → rl_at hb 56 j = rl_at h153 56 j) ∧ zLP hb V ∧ (ri_at h153 55 3 = -1 → ri_at hb 55 3 = -1)) (cl_put Th153 (nm := 8) (by omega) (by omega) hPh153 (fun hb b1 b2 b3 b4 b5 b6 => ⟨hb, rfl, b1, b2, b3, b4, b5, b6⟩)) (fun o ho => ?_)
      obtain ⟨h157, rfl, Th157, zh157, vh157, nh157, hPh157, mh157⟩ := ho
      show cw_X _ _ _ _ _ [] h157
      have Zh157 : zF3 h h157 := zF3_tr Zh153 zh157
      have Mh157 : ri_at h 55 3 = -1 → ri_at h157 55 3 = -1 := fun q => mh157 (Mh153 q)
      have tTh157 : zTV h157 U T := fun j hj => (zF3_ri zh157 (cw_kne (k := U) (d := 7) (k' := 55) (d' := 2) hU rfl (by decide)) (cw_kne (k := U) (d := 7) (k' := 56) (d' := 17) hU rfl (by decide))).trans (tTh153 j hj)
      have tGh157 : zGV h157 K γ := fun j hj => (zF3_ri zh157 (cw_kne (k := K) (d := 1) (k' := 55) (d' := 2) hK rfl (by decide)) (cw_kne (k := K) (d := 1) (k' := 56) (d' := 17) hK rfl (by decide))).trans (tGh153 j hj)
      have hph157 := (zF3_at zh157 (cw_kne (k := K) (d := 1) (k' := 55) (d' := 2) hK rfl (by decide)) (cw_kne (k := K) (d := 1) (k' := 56) (d' := 17) hK rfl (by decide))).trans hph153
      have w8h157 : rl_at h157 56 8 = γ 9 := vh157.trans (by omega)
      have w0h157 : rl_at h157 56 0 = gPull T (γ 9) (γ 7) := (nh157 0 (by decide)).trans w0h153
      have w1h157 : rl_at h157 56 1 = gFirm g w.toInt + γ 8 := (nh157 1 (by decide)).trans w1h153
      have w2h157 : rl_at h157 56 2 = γ 5 := (nh157 2 (by decide)).trans w2h153
      have w3h157 : rl_at h157 56 3 = T 8 := (nh157 3 (by decide)).trans w3h153
      have w4h157 : rl_at h157 56 4 = (if γ 6 = 1 then 1 else 0) := (nh157 4 (by decide)).trans w4h153
      have w5h157 : rl_at h157 56 5 = (if γ 6 = 2 then 1 else 0) := (nh157 5 (by decide)).trans w5h153
      have w6h157 : rl_at h157 56 6 = gDrop T (γ 1) (γ 2) (γ 3) (γ 4) := (nh157 6 (by decide)).trans w6h153
      have w7h157 : rl_at h157 56 7 = w.toInt := (nh157 7 (by decide)).trans w7h153
      refine ex_al oq_X2_see_115 rfl ?_
      refine ex_bi oq_X2_see_116 (m := 9) (by decide) (fun x158 hx158 => ?_)
      refine ex_ilw oq_X2_see_118 rfl ?_
      refine ex_i2l oq_X2_see_120 (fun x159 hx159 => ?_)
      refine ex_cv oq_X2_see_121 (by decide) Th157 (k := 55) (d := 2) (as := [cv_i x158, cv_l x159]) (stk := []) rfl rfl rfl rfl rfl rfl ⟨rfl, rfl⟩ (R := fun o => ∃ hb : cv_H, o = (none, hb) ∧ cw_T G hb ∧ zF3 h157 hb ∧ rl_at hb 56 9 = x159.toInt ∧ (∀ j, j ≠ 9 → rl_at hb 56 j = rl_at h157 56 j) ∧ zLP hb V ∧ (ri_at h157 55 3 = -1 → ri_at hb 55 3 = -1)) (cl_put Th157 (nm := 9) (by omega) (by omega) hPh157 (fun hb b1 b2 b3 b4 b5 b6 => ⟨hb, rfl, b1, b2, b3, b4, b5, b6⟩)) (fun o ho => ?_)
      obtain ⟨h160, rfl, Th160, zh160, vh160, nh160, hPh160, mh160⟩ := ho
      show cw_X _ _ _ _ _ [] h160
      have Zh160 : zF3 h h160 := zF3_tr Zh157 zh160
      have Mh160 : ri_at h 55 3 = -1 → ri_at h160 55 3 = -1 := fun q => mh160 (Mh157 q)
      have tTh160 : zTV h160 U T := fun j hj => (zF3_ri zh160 (cw_kne (k := U) (d := 7) (k' := 55) (d' := 2) hU rfl (by decide)) (cw_kne (k := U) (d := 7) (k' := 56) (d' := 17) hU rfl (by decide))).trans (tTh157 j hj)
      have tGh160 : zGV h160 K γ := fun j hj => (zF3_ri zh160 (cw_kne (k := K) (d := 1) (k' := 55) (d' := 2) hK rfl (by decide)) (cw_kne (k := K) (d := 1) (k' := 56) (d' := 17) hK rfl (by decide))).trans (tGh157 j hj)
      have hph160 := (zF3_at zh160 (cw_kne (k := K) (d := 1) (k' := 55) (d' := 2) hK rfl (by decide)) (cw_kne (k := K) (d := 1) (k' := 56) (d' := 17) hK rfl (by decide))).trans hph157
      have w9h160 : rl_at h160 56 9 = f.toInt := vh160.trans (by omega)
      have w0h160 : rl_at h160 56 0 = gPull T (γ 9) (γ 7) := (nh160 0 (by decide)).trans w0h157
      have w1h160 : rl_at h160 56 1 = gFirm g w.toInt + γ 8 := (nh160 1 (by decide)).trans w1h157
      have w2h160 : rl_at h160 56 2 = γ 5 := (nh160 2 (by decide)).trans w2h157
      have w3h160 : rl_at h160 56 3 = T 8 := (nh160 3 (by decide)).trans w3h157
      have w4h160 : rl_at h160 56 4 = (if γ 6 = 1 then 1 else 0) := (nh160 4 (by decide)).trans w4h157
      have w5h160 : rl_at h160 56 5 = (if γ 6 = 2 then 1 else 0) := (nh160 5 (by decide)).trans w5h157
      have w6h160 : rl_at h160 56 6 = gDrop T (γ 1) (γ 2) (γ 3) (γ 4) := (nh160 6 (by decide)).trans w6h157
      have w7h160 : rl_at h160 56 7 = w.toInt := (nh160 7 (by decide)).trans w7h157
      have w8h160 : rl_at h160 56 8 = γ 9 := (nh160 8 (by decide)).trans w8h157
      refine ex_retv oq_X2_see_124 rfl (hQ h160 Th160 Zh160 (fun j hj => ?_) hPh160 Mh160)
      have : j = 0 ∨ j = 1 ∨ j = 2 ∨ j = 3 ∨ j = 4 ∨ j = 5 ∨ j = 6 ∨ j = 7 ∨ j = 8 ∨ j = 9 := by omega
      rcases this with rfl | rfl | rfl | rfl | rfl | rfl | rfl | rfl | rfl | rfl
      · exact w0h160
      · exact w1h160
      · exact w2h160
      · exact w3h160
      · exact w4h160
      · exact w5h160
      · exact w6h160
      · exact w7h160
      · exact w8h160
      · exact w9h160
  · refine ex_lc oq_X2_see_59 (m := 1) (by decide) (fun x161 hx161 => ?_)
    refine ex_go oq_X2_see_60 (t := 64) rfl rfl ?_
    refine ex_cv oq_X2_see_64 (by decide) Th118 (k := 55) (d := 2) (as := [cv_i x119, cv_l x161]) (stk := []) rfl rfl rfl rfl rfl rfl ⟨rfl, rfl⟩ (R := fun o => ∃ hb : cv_H, o = (none, hb) ∧ cw_T G hb ∧ zF3 h118 hb ∧ rl_at hb 56 4 = x161.toInt ∧ (∀ j, j ≠ 4 → rl_at hb 56 j = rl_at h118 56 j) ∧ zLP hb V ∧ (ri_at h118 55 3 = -1 → ri_at hb 55 3 = -1)) (cl_put Th118 (nm := 4) (by omega) (by omega) hPh118 (fun hb b1 b2 b3 b4 b5 b6 => ⟨hb, rfl, b1, b2, b3, b4, b5, b6⟩)) (fun o ho => ?_)
    obtain ⟨h162, rfl, Th162, zh162, vh162, nh162, hPh162, mh162⟩ := ho
    show cw_X _ _ _ _ _ [] h162
    have Zh162 : zF3 h h162 := zF3_tr Zh118 zh162
    have Mh162 : ri_at h 55 3 = -1 → ri_at h162 55 3 = -1 := fun q => mh162 (Mh118 q)
    have tTh162 : zTV h162 U T := fun j hj => (zF3_ri zh162 (cw_kne (k := U) (d := 7) (k' := 55) (d' := 2) hU rfl (by decide)) (cw_kne (k := U) (d := 7) (k' := 56) (d' := 17) hU rfl (by decide))).trans (tTh118 j hj)
    have tGh162 : zGV h162 K γ := fun j hj => (zF3_ri zh162 (cw_kne (k := K) (d := 1) (k' := 55) (d' := 2) hK rfl (by decide)) (cw_kne (k := K) (d := 1) (k' := 56) (d' := 17) hK rfl (by decide))).trans (tGh118 j hj)
    have hph162 := (zF3_at zh162 (cw_kne (k := K) (d := 1) (k' := 55) (d' := 2) hK rfl (by decide)) (cw_kne (k := K) (d := 1) (k' := 56) (d' := 17) hK rfl (by decide))).trans hph118
    have w4h162 : rl_at h162 56 4 = (if γ 6 = 1 then 1 else 0) := vh162.trans (by rw [if_pos (by omega)]; omega)
    have w0h162 : rl_at h162 56 0 = gPull T (γ 9) (γ 7) := (nh162 0 (by decide)).trans w0h118
    have w1h162 : rl_at h162 56 1 = gFirm g w.toInt + γ 8 := (nh162 1 (by decide)).trans w1h118
    have w2h162 : rl_at h162 56 2 = γ 5 := (nh162 2 (by decide)).trans w2h118
    have w3h162 : rl_at h162 56 3 = T 8 := (nh162 3 (by decide)).trans w3h118
    refine ex_al oq_X2_see_67 rfl ?_
    refine ex_ic oq_X2_see_68 (m := 5) (by decide) (fun x163 hx163 => ?_)
    refine ex_al oq_X2_see_69 rfl ?_
    obtain ⟨x164, ax164, rx164, lx164, ux164⟩ := ri_fld (k := K) (d := 1) (f := 6) Th162 hK rfl rfl
    try dsimp only at lx164 ux164
    refine ex_gf oq_X2_see_70 Th162 (k := K) (d := 1) hK rfl ax164 ?_
    clear lx164 ux164
    have rx164 := (rx164.symm.trans (tGh162 6 (by decide)) : x164.toInt = γ 6)
    refine ex_ic oq_X2_see_73 (m := 2) (by decide) (fun x165 hx165 => ?_)
    refine ex_if oq_X2_see_74 (t := 81) rfl rfl (fun (c166 : ¬ x164.toInt = x165.toInt) => ?_) (fun (c166 : ¬ (¬ x164.toInt = x165.toInt)) => ?_)
    · refine ex_lc oq_X2_see_81 (m := 0) (by decide) (fun x167 hx167 => ?_)
      refine ex_cv oq_X2_see_82 (by decide) Th162 (k := 55) (d := 2) (as := [cv_i x163, cv_l x167]) (stk := []) rfl rfl rfl rfl rfl rfl ⟨rfl, rfl⟩ (R := fun o => ∃ hb : cv_H, o = (none, hb) ∧ cw_T G hb ∧ zF3 h162 hb ∧ rl_at hb 56 5 = x167.toInt ∧ (∀ j, j ≠ 5 → rl_at hb 56 j = rl_at h162 56 j) ∧ zLP hb V ∧ (ri_at h162 55 3 = -1 → ri_at hb 55 3 = -1)) (cl_put Th162 (nm := 5) (by omega) (by omega) hPh162 (fun hb b1 b2 b3 b4 b5 b6 => ⟨hb, rfl, b1, b2, b3, b4, b5, b6⟩)) (fun o ho => ?_)
      obtain ⟨h168, rfl, Th168, zh168, vh168, nh168, hPh168, mh168⟩ := ho
      show cw_X _ _ _ _ _ [] h168
      have Zh168 : zF3 h h168 := zF3_tr Zh162 zh168
      have Mh168 : ri_at h 55 3 = -1 → ri_at h168 55 3 = -1 := fun q => mh168 (Mh162 q)
      have tTh168 : zTV h168 U T := fun j hj => (zF3_ri zh168 (cw_kne (k := U) (d := 7) (k' := 55) (d' := 2) hU rfl (by decide)) (cw_kne (k := U) (d := 7) (k' := 56) (d' := 17) hU rfl (by decide))).trans (tTh162 j hj)
      have tGh168 : zGV h168 K γ := fun j hj => (zF3_ri zh168 (cw_kne (k := K) (d := 1) (k' := 55) (d' := 2) hK rfl (by decide)) (cw_kne (k := K) (d := 1) (k' := 56) (d' := 17) hK rfl (by decide))).trans (tGh162 j hj)
      have hph168 := (zF3_at zh168 (cw_kne (k := K) (d := 1) (k' := 55) (d' := 2) hK rfl (by decide)) (cw_kne (k := K) (d := 1) (k' := 56) (d' := 17) hK rfl (by decide))).trans hph162
      have w5h168 : rl_at h168 56 5 = (if γ 6 = 2 then 1 else 0) := vh168.trans (by rw [if_neg (by omega)]; omega)
      have w0h168 : rl_at h168 56 0 = gPull T (γ 9) (γ 7) := (nh168 0 (by decide)).trans w0h162
      have w1h168 : rl_at h168 56 1 = gFirm g w.toInt + γ 8 := (nh168 1 (by decide)).trans w1h162
      have w2h168 : rl_at h168 56 2 = γ 5 := (nh168 2 (by decide)).trans w2h162
      have w3h168 : rl_at h168 56 3 = T 8 := (nh168 3 (by decide)).trans w3h162
      have w4h168 : rl_at h168 56 4 = (if γ 6 = 1 then 1 else 0) := (nh168 4 (by decide)).trans w4h162
      refine ex_al oq_X2_see_85 rfl ?_
      refine ex_bi oq_X2_see_86 (m := 6) (by decide) (fun x169 hx169 => ?_)
      refine ex_al oq_X2_see_88 rfl ?_
      refine ex_cv oq_X2_see_89 (by decide) Th168 (k := K) (d := 1) (as := []) (stk := [cv_i x169, cv_r 55]) hK rfl rfl rfl rfl rfl ⟨rfl, rfl⟩ (R := fun o => ∃ x : Int32, o = (some (cv_i x), h168) ∧ x.toInt = gDrop T (γ 1) (γ 2) (γ 3) (γ 4)) (cg_drop Th168 hK hU hph168 tTh168 tGh168 rT rG (fun x q => ⟨x, rfl, q⟩)) (fun o ho => ?_)
      obtain ⟨x170, rfl, hx170⟩ := ho
      show cw_X _ _ _ _ _ [cv_i x170, cv_i x169, cv_r 55] h168
      refine ex_i2l oq_X2_see_92 (fun x171 hx171 => ?_)
      refine ex_cv oq_X2_see_93 (by decide) Th168 (k := 55) (d := 2) (as := [cv_i x169, cv_l x171]) (stk := []) rfl rfl rfl rfl rfl rfl ⟨rfl, rfl⟩ (R := fun o => ∃ hb : cv_H, o = (none, hb) ∧ cw_T G hb ∧ zF3 h168 hb ∧ rl_at hb 56 6 = x171.toInt ∧ (∀ j, j ≠ 6 → rl_at hb 56 j = rl_at h168 56 j) ∧ zLP hb V ∧ (ri_at h168 55 3 = -1 → ri_at hb 55 3 = -1)) (cl_put Th168 (nm := 6) (by omega) (by omega) hPh168 (fun hb b1 b2 b3 b4 b5 b6 => ⟨hb, rfl, b1, b2, b3, b4, b5, b6⟩)) (fun o ho => ?_)
      obtain ⟨h172, rfl, Th172, zh172, vh172, nh172, hPh172, mh172⟩ := ho
      show cw_X _ _ _ _ _ [] h172
      have Zh172 : zF3 h h172 := zF3_tr Zh168 zh172
      have Mh172 : ri_at h 55 3 = -1 → ri_at h172 55 3 = -1 := fun q => mh172 (Mh168 q)
      have tTh172 : zTV h172 U T := fun j hj => (zF3_ri zh172 (cw_kne (k := U) (d := 7) (k' := 55) (d' := 2) hU rfl (by decide)) (cw_kne (k := U) (d := 7) (k' := 56) (d' := 17) hU rfl (by decide))).trans (tTh168 j hj)
      have tGh172 : zGV h172 K γ := fun j hj => (zF3_ri zh172 (cw_kne (k := K) (d := 1) (k' := 55) (d' := 2) hK rfl (by decide)) (cw_kne (k := K) (d := 1) (k' := 56) (d' := 17) hK rfl (by decide))).trans (tGh168 j hj)
      have hph172 := (zF3_at zh172 (cw_kne (k := K) (d := 1) (k' := 55) (d' := 2) hK rfl (by decide)) (cw_kne (k := K) (d := 1) (k' := 56) (d' := 17) hK rfl (by decide))).trans hph168
      have w6h172 : rl_at h172 56 6 = gDrop T (γ 1) (γ 2) (γ 3) (γ 4) := vh172.trans (by omega)
      have w0h172 : rl_at h172 56 0 = gPull T (γ 9) (γ 7) := (nh172 0 (by decide)).trans w0h168
      have w1h172 : rl_at h172 56 1 = gFirm g w.toInt + γ 8 := (nh172 1 (by decide)).trans w1h168
      have w2h172 : rl_at h172 56 2 = γ 5 := (nh172 2 (by decide)).trans w2h168
      have w3h172 : rl_at h172 56 3 = T 8 := (nh172 3 (by decide)).trans w3h168
      have w4h172 : rl_at h172 56 4 = (if γ 6 = 1 then 1 else 0) := (nh172 4 (by decide)).trans w4h168
      have w5h172 : rl_at h172 56 5 = (if γ 6 = 2 then 1 else 0) := (nh172 5 (by decide)).trans w5h168
      refine ex_al oq_X2_see_96 rfl ?_
      refine ex_bi oq_X2_see_97 (m := 7) (by decide) (fun x173 hx173 => ?_)
      refine ex_il oq_X2_see_99 rfl ?_
      refine ex_i2l oq_X2_see_100 (fun x174 hx174 => ?_)
      refine ex_cv oq_X2_see_101 (by decide) Th172 (k := 55) (d := 2) (as := [cv_i x173, cv_l x174]) (stk := []) rfl rfl rfl rfl rfl rfl ⟨rfl, rfl⟩ (R := fun o => ∃ hb : cv_H, o = (none, hb) ∧ cw_T G hb ∧ zF3 h172 hb ∧ rl_at hb 56 7 = x174.toInt ∧ (∀ j, j ≠ 7 → rl_at hb 56 j = rl_at h172 56 j) ∧ zLP hb V ∧ (ri_at h172 55 3 = -1 → ri_at hb 55 3 = -1)) (cl_put Th172 (nm := 7) (by omega) (by omega) hPh172 (fun hb b1 b2 b3 b4 b5 b6 => ⟨hb, rfl, b1, b2, b3, b4, b5, b6⟩)) (fun o ho => ?_)
      obtain ⟨h175, rfl, Th175, zh175, vh175, nh175, hPh175, mh175⟩ := ho
      show cw_X _ _ _ _ _ [] h175
      have Zh175 : zF3 h h175 := zF3_tr Zh172 zh175
      have Mh175 : ri_at h 55 3 = -1 → ri_at h175 55 3 = -1 := fun q => mh175 (Mh172 q)
      have tTh175 : zTV h175 U T := fun j hj => (zF3_ri zh175 (cw_kne (k := U) (d := 7) (k' := 55) (d' := 2) hU rfl (by decide)) (cw_kne (k := U) (d := 7) (k' := 56) (d' := 17) hU rfl (by decide))).trans (tTh172 j hj)
      have tGh175 : zGV h175 K γ := fun j hj => (zF3_ri zh175 (cw_kne (k := K) (d := 1) (k' := 55) (d' := 2) hK rfl (by decide)) (cw_kne (k := K) (d := 1) (k' := 56) (d' := 17) hK rfl (by decide))).trans (tGh172 j hj)
      have hph175 := (zF3_at zh175 (cw_kne (k := K) (d := 1) (k' := 55) (d' := 2) hK rfl (by decide)) (cw_kne (k := K) (d := 1) (k' := 56) (d' := 17) hK rfl (by decide))).trans hph172
      have w7h175 : rl_at h175 56 7 = w.toInt := vh175.trans (by omega)
      have w0h175 : rl_at h175 56 0 = gPull T (γ 9) (γ 7) := (nh175 0 (by decide)).trans w0h172
      have w1h175 : rl_at h175 56 1 = gFirm g w.toInt + γ 8 := (nh175 1 (by decide)).trans w1h172
      have w2h175 : rl_at h175 56 2 = γ 5 := (nh175 2 (by decide)).trans w2h172
      have w3h175 : rl_at h175 56 3 = T 8 := (nh175 3 (by decide)).trans w3h172
      have w4h175 : rl_at h175 56 4 = (if γ 6 = 1 then 1 else 0) := (nh175 4 (by decide)).trans w4h172
      have w5h175 : rl_at h175 56 5 = (if γ 6 = 2 then 1 else 0) := (nh175 5 (by decide)).trans w5h172
      have w6h175 : rl_at h175 56 6 = gDrop T (γ 1) (γ 2) (γ 3) (γ 4) := (nh175 6 (by decide)).trans w6h172
      refine ex_al oq_X2_see_104 rfl ?_
      refine ex_bi oq_X2_see_105 (m := 8) (by decide) (fun x176 hx176 => ?_)
      refine ex_al oq_X2_see_107 rfl ?_
      obtain ⟨x177, ax177, rx177, lx177, ux177⟩ := ri_fld (k := K) (d := 1) (f := 9) Th175 hK rfl rfl
      try dsimp only at lx177 ux177
      refine ex_gf oq_X2_see_108 Th175 (k := K) (d := 1) hK rfl ax177 ?_
      clear lx177 ux177
      have rx177 := (rx177.symm.trans (tGh175 9 (by decide)) : x177.toInt = γ 9)
      refine ex_i2l oq_X2_see_111 (fun x178 hx178 => ?_)
      refine ex_cv oq_X2_see_112 (by decide) Th175 (k := 55) (d := 2) (as := [cv_i x176, cv_l x178]) (stk := []) rfl rfl rfl rfl rfl rfl ⟨rfl, rfl⟩ (R := fun o => ∃ hb : cv_H, o = (none, hb) ∧ cw_T G hb ∧ zF3 h175 hb ∧ rl_at hb 56 8 = x178.toInt ∧ (∀ j, j ≠ 8 → rl_at hb 56 j = rl_at h175 56 j) ∧ zLP hb V ∧ (ri_at h175 55 3 = -1 → ri_at hb 55 3 = -1)) (cl_put Th175 (nm := 8) (by omega) (by omega) hPh175 (fun hb b1 b2 b3 b4 b5 b6 => ⟨hb, rfl, b1, b2, b3, b4, b5, b6⟩)) (fun o ho => ?_)
      obtain ⟨h179, rfl, Th179, zh179, vh179, nh179, hPh179, mh179⟩ := ho
      show cw_X _ _ _ _ _ [] h179
      have Zh179 : zF3 h h179 := zF3_tr Zh175 zh179
      have Mh179 : ri_at h 55 3 = -1 → ri_at h179 55 3 = -1 := fun q => mh179 (Mh175 q)
      have tTh179 : zTV h179 U T := fun j hj => (zF3_ri zh179 (cw_kne (k := U) (d := 7) (k' := 55) (d' := 2) hU rfl (by decide)) (cw_kne (k := U) (d := 7) (k' := 56) (d' := 17) hU rfl (by decide))).trans (tTh175 j hj)
      have tGh179 : zGV h179 K γ := fun j hj => (zF3_ri zh179 (cw_kne (k := K) (d := 1) (k' := 55) (d' := 2) hK rfl (by decide)) (cw_kne (k := K) (d := 1) (k' := 56) (d' := 17) hK rfl (by decide))).trans (tGh175 j hj)
      have hph179 := (zF3_at zh179 (cw_kne (k := K) (d := 1) (k' := 55) (d' := 2) hK rfl (by decide)) (cw_kne (k := K) (d := 1) (k' := 56) (d' := 17) hK rfl (by decide))).trans hph175
      have w8h179 : rl_at h179 56 8 = γ 9 := vh179.trans (by omega)
      have w0h179 : rl_at h179 56 0 = gPull T (γ 9) (γ 7) := (nh179 0 (by decide)).trans w0h175
      have w1h179 : rl_at h179 56 1 = gFirm g w.toInt + γ 8 := (nh179 1 (by decide)).trans w1h175
      have w2h179 : rl_at h179 56 2 = γ 5 := (nh179 2 (by decide)).trans w2h175
      have w3h179 : rl_at h179 56 3 = T 8 := (nh179 3 (by decide)).trans w3h175
      have w4h179 : rl_at h179 56 4 = (if γ 6 = 1 then 1 else 0) := (nh179 4 (by decide)).trans w4h175
      have w5h179 : rl_at h179 56 5 = (if γ 6 = 2 then 1 else 0) := (nh179 5 (by decide)).trans w5h175
      have w6h179 : rl_at h179 56 6 = gDrop T (γ 1) (γ 2) (γ 3) (γ 4) := (nh179 6 (by decide)).trans w6h175
      have w7h179 : rl_at h179 56 7 = w.toInt := (nh179 7 (by decide)).trans w7h175
      refine ex_al oq_X2_see_115 rfl ?_
      refine ex_bi oq_X2_see_116 (m := 9) (by decide) (fun x180 hx180 => ?_)
      refine ex_ilw oq_X2_see_118 rfl ?_
      refine ex_i2l oq_X2_see_120 (fun x181 hx181 => ?_)
      refine ex_cv oq_X2_see_121 (by decide) Th179 (k := 55) (d := 2) (as := [cv_i x180, cv_l x181]) (stk := []) rfl rfl rfl rfl rfl rfl ⟨rfl, rfl⟩ (R := fun o => ∃ hb : cv_H, o = (none, hb) ∧ cw_T G hb ∧ zF3 h179 hb ∧ rl_at hb 56 9 = x181.toInt ∧ (∀ j, j ≠ 9 → rl_at hb 56 j = rl_at h179 56 j) ∧ zLP hb V ∧ (ri_at h179 55 3 = -1 → ri_at hb 55 3 = -1)) (cl_put Th179 (nm := 9) (by omega) (by omega) hPh179 (fun hb b1 b2 b3 b4 b5 b6 => ⟨hb, rfl, b1, b2, b3, b4, b5, b6⟩)) (fun o ho => ?_)
      obtain ⟨h182, rfl, Th182, zh182, vh182, nh182, hPh182, mh182⟩ := ho
      show cw_X _ _ _ _ _ [] h182
      have Zh182 : zF3 h h182 := zF3_tr Zh179 zh182
      have Mh182 : ri_at h 55 3 = -1 → ri_at h182 55 3 = -1 := fun q => mh182 (Mh179 q)
      have tTh182 : zTV h182 U T := fun j hj => (zF3_ri zh182 (cw_kne (k := U) (d := 7) (k' := 55) (d' := 2) hU rfl (by decide)) (cw_kne (k := U) (d := 7) (k' := 56) (d' := 17) hU rfl (by decide))).trans (tTh179 j hj)
      have tGh182 : zGV h182 K γ := fun j hj => (zF3_ri zh182 (cw_kne (k := K) (d := 1) (k' := 55) (d' := 2) hK rfl (by decide)) (cw_kne (k := K) (d := 1) (k' := 56) (d' := 17) hK rfl (by decide))).trans (tGh179 j hj)
      have hph182 := (zF3_at zh182 (cw_kne (k := K) (d := 1) (k' := 55) (d' := 2) hK rfl (by decide)) (cw_kne (k := K) (d := 1) (k' := 56) (d' := 17) hK rfl (by decide))).trans hph179
      have w9h182 : rl_at h182 56 9 = f.toInt := vh182.trans (by omega)
      have w0h182 : rl_at h182 56 0 = gPull T (γ 9) (γ 7) := (nh182 0 (by decide)).trans w0h179
      have w1h182 : rl_at h182 56 1 = gFirm g w.toInt + γ 8 := (nh182 1 (by decide)).trans w1h179
      have w2h182 : rl_at h182 56 2 = γ 5 := (nh182 2 (by decide)).trans w2h179
      have w3h182 : rl_at h182 56 3 = T 8 := (nh182 3 (by decide)).trans w3h179
      have w4h182 : rl_at h182 56 4 = (if γ 6 = 1 then 1 else 0) := (nh182 4 (by decide)).trans w4h179
      have w5h182 : rl_at h182 56 5 = (if γ 6 = 2 then 1 else 0) := (nh182 5 (by decide)).trans w5h179
      have w6h182 : rl_at h182 56 6 = gDrop T (γ 1) (γ 2) (γ 3) (γ 4) := (nh182 6 (by decide)).trans w6h179
      have w7h182 : rl_at h182 56 7 = w.toInt := (nh182 7 (by decide)).trans w7h179
      have w8h182 : rl_at h182 56 8 = γ 9 := (nh182 8 (by decide)).trans w8h179
      refine ex_retv oq_X2_see_124 rfl (hQ h182 Th182 Zh182 (fun j hj => ?_) hPh182 Mh182)
      have : j = 0 ∨ j = 1 ∨ j = 2 ∨ j = 3 ∨ j = 4 ∨ j = 5 ∨ j = 6 ∨ j = 7 ∨ j = 8 ∨ j = 9 := by omega
      rcases this with rfl | rfl | rfl | rfl | rfl | rfl | rfl | rfl | rfl | rfl
      · exact w0h182
      · exact w1h182
      · exact w2h182
      · exact w3h182
      · exact w4h182
      · exact w5h182
      · exact w6h182
      · exact w7h182
      · exact w8h182
      · exact w9h182
    · refine ex_lc oq_X2_see_77 (m := 1) (by decide) (fun x183 hx183 => ?_)
      refine ex_go oq_X2_see_78 (t := 82) rfl rfl ?_
      refine ex_cv oq_X2_see_82 (by decide) Th162 (k := 55) (d := 2) (as := [cv_i x163, cv_l x183]) (stk := []) rfl rfl rfl rfl rfl rfl ⟨rfl, rfl⟩ (R := fun o => ∃ hb : cv_H, o = (none, hb) ∧ cw_T G hb ∧ zF3 h162 hb ∧ rl_at hb 56 5 = x183.toInt ∧ (∀ j, j ≠ 5 → rl_at hb 56 j = rl_at h162 56 j) ∧ zLP hb V ∧ (ri_at h162 55 3 = -1 → ri_at hb 55 3 = -1)) (cl_put Th162 (nm := 5) (by omega) (by omega) hPh162 (fun hb b1 b2 b3 b4 b5 b6 => ⟨hb, rfl, b1, b2, b3, b4, b5, b6⟩)) (fun o ho => ?_)
      obtain ⟨h184, rfl, Th184, zh184, vh184, nh184, hPh184, mh184⟩ := ho
      show cw_X _ _ _ _ _ [] h184
      have Zh184 : zF3 h h184 := zF3_tr Zh162 zh184
      have Mh184 : ri_at h 55 3 = -1 → ri_at h184 55 3 = -1 := fun q => mh184 (Mh162 q)
      have tTh184 : zTV h184 U T := fun j hj => (zF3_ri zh184 (cw_kne (k := U) (d := 7) (k' := 55) (d' := 2) hU rfl (by decide)) (cw_kne (k := U) (d := 7) (k' := 56) (d' := 17) hU rfl (by decide))).trans (tTh162 j hj)
      have tGh184 : zGV h184 K γ := fun j hj => (zF3_ri zh184 (cw_kne (k := K) (d := 1) (k' := 55) (d' := 2) hK rfl (by decide)) (cw_kne (k := K) (d := 1) (k' := 56) (d' := 17) hK rfl (by decide))).trans (tGh162 j hj)
      have hph184 := (zF3_at zh184 (cw_kne (k := K) (d := 1) (k' := 55) (d' := 2) hK rfl (by decide)) (cw_kne (k := K) (d := 1) (k' := 56) (d' := 17) hK rfl (by decide))).trans hph162
      have w5h184 : rl_at h184 56 5 = (if γ 6 = 2 then 1 else 0) := vh184.trans (by rw [if_pos (by omega)]; omega)
      have w0h184 : rl_at h184 56 0 = gPull T (γ 9) (γ 7) := (nh184 0 (by decide)).trans w0h162
      have w1h184 : rl_at h184 56 1 = gFirm g w.toInt + γ 8 := (nh184 1 (by decide)).trans w1h162
      have w2h184 : rl_at h184 56 2 = γ 5 := (nh184 2 (by decide)).trans w2h162
      have w3h184 : rl_at h184 56 3 = T 8 := (nh184 3 (by decide)).trans w3h162
      have w4h184 : rl_at h184 56 4 = (if γ 6 = 1 then 1 else 0) := (nh184 4 (by decide)).trans w4h162
      refine ex_al oq_X2_see_85 rfl ?_
      refine ex_bi oq_X2_see_86 (m := 6) (by decide) (fun x185 hx185 => ?_)
      refine ex_al oq_X2_see_88 rfl ?_
      refine ex_cv oq_X2_see_89 (by decide) Th184 (k := K) (d := 1) (as := []) (stk := [cv_i x185, cv_r 55]) hK rfl rfl rfl rfl rfl ⟨rfl, rfl⟩ (R := fun o => ∃ x : Int32, o = (some (cv_i x), h184) ∧ x.toInt = gDrop T (γ 1) (γ 2) (γ 3) (γ 4)) (cg_drop Th184 hK hU hph184 tTh184 tGh184 rT rG (fun x q => ⟨x, rfl, q⟩)) (fun o ho => ?_)
      obtain ⟨x186, rfl, hx186⟩ := ho
      show cw_X _ _ _ _ _ [cv_i x186, cv_i x185, cv_r 55] h184
      refine ex_i2l oq_X2_see_92 (fun x187 hx187 => ?_)
      refine ex_cv oq_X2_see_93 (by decide) Th184 (k := 55) (d := 2) (as := [cv_i x185, cv_l x187]) (stk := []) rfl rfl rfl rfl rfl rfl ⟨rfl, rfl⟩ (R := fun o => ∃ hb : cv_H, o = (none, hb) ∧ cw_T G hb ∧ zF3 h184 hb ∧ rl_at hb 56 6 = x187.toInt ∧ (∀ j, j ≠ 6 → rl_at hb 56 j = rl_at h184 56 j) ∧ zLP hb V ∧ (ri_at h184 55 3 = -1 → ri_at hb 55 3 = -1)) (cl_put Th184 (nm := 6) (by omega) (by omega) hPh184 (fun hb b1 b2 b3 b4 b5 b6 => ⟨hb, rfl, b1, b2, b3, b4, b5, b6⟩)) (fun o ho => ?_)
      obtain ⟨h188, rfl, Th188, zh188, vh188, nh188, hPh188, mh188⟩ := ho
      show cw_X _ _ _ _ _ [] h188
      have Zh188 : zF3 h h188 := zF3_tr Zh184 zh188
      have Mh188 : ri_at h 55 3 = -1 → ri_at h188 55 3 = -1 := fun q => mh188 (Mh184 q)
      have tTh188 : zTV h188 U T := fun j hj => (zF3_ri zh188 (cw_kne (k := U) (d := 7) (k' := 55) (d' := 2) hU rfl (by decide)) (cw_kne (k := U) (d := 7) (k' := 56) (d' := 17) hU rfl (by decide))).trans (tTh184 j hj)
      have tGh188 : zGV h188 K γ := fun j hj => (zF3_ri zh188 (cw_kne (k := K) (d := 1) (k' := 55) (d' := 2) hK rfl (by decide)) (cw_kne (k := K) (d := 1) (k' := 56) (d' := 17) hK rfl (by decide))).trans (tGh184 j hj)
      have hph188 := (zF3_at zh188 (cw_kne (k := K) (d := 1) (k' := 55) (d' := 2) hK rfl (by decide)) (cw_kne (k := K) (d := 1) (k' := 56) (d' := 17) hK rfl (by decide))).trans hph184
      have w6h188 : rl_at h188 56 6 = gDrop T (γ 1) (γ 2) (γ 3) (γ 4) := vh188.trans (by omega)
      have w0h188 : rl_at h188 56 0 = gPull T (γ 9) (γ 7) := (nh188 0 (by decide)).trans w0h184
      have w1h188 : rl_at h188 56 1 = gFirm g w.toInt + γ 8 := (nh188 1 (by decide)).trans w1h184
      have w2h188 : rl_at h188 56 2 = γ 5 := (nh188 2 (by decide)).trans w2h184
      have w3h188 : rl_at h188 56 3 = T 8 := (nh188 3 (by decide)).trans w3h184
      have w4h188 : rl_at h188 56 4 = (if γ 6 = 1 then 1 else 0) := (nh188 4 (by decide)).trans w4h184
      have w5h188 : rl_at h188 56 5 = (if γ 6 = 2 then 1 else 0) := (nh188 5 (by decide)).trans w5h184
      refine ex_al oq_X2_see_96 rfl ?_
      refine ex_bi oq_X2_see_97 (m := 7) (by decide) (fun x189 hx189 => ?_)
      refine ex_il oq_X2_see_99 rfl ?_
      refine ex_i2l oq_X2_see_100 (fun x190 hx190 => ?_)
      refine ex_cv oq_X2_see_101 (by decide) Th188 (k := 55) (d := 2) (as := [cv_i x189, cv_l x190]) (stk := []) rfl rfl rfl rfl rfl rfl ⟨rfl, rfl⟩ (R := fun o => ∃ hb : cv_H, o = (none, hb) ∧ cw_T G hb ∧ zF3 h188 hb ∧ rl_at hb 56 7 = x190.toInt ∧ (∀ j, j ≠ 7 → rl_at hb 56 j = rl_at h188 56 j) ∧ zLP hb V ∧ (ri_at h188 55 3 = -1 → ri_at hb 55 3 = -1)) (cl_put Th188 (nm := 7) (by omega) (by omega) hPh188 (fun hb b1 b2 b3 b4 b5 b6 => ⟨hb, rfl, b1, b2, b3, b4, b5, b6⟩)) (fun o ho => ?_)
      obtain ⟨h191, rfl, Th191, zh191, vh191, nh191, hPh191, mh191⟩ := ho
      show cw_X _ _ _ _ _ [] h191
      have Zh191 : zF3 h h191 := zF3_tr Zh188 zh191
      have Mh191 : ri_at h 55 3 = -1 → ri_at h191 55 3 = -1 := fun q => mh191 (Mh188 q)
      have tTh191 : zTV h191 U T := fun j hj => (zF3_ri zh191 (cw_kne (k := U) (d := 7) (k' := 55) (d' := 2) hU rfl (by decide)) (cw_kne (k := U) (d := 7) (k' := 56) (d' := 17) hU rfl (by decide))).trans (tTh188 j hj)
      have tGh191 : zGV h191 K γ := fun j hj => (zF3_ri zh191 (cw_kne (k := K) (d := 1) (k' := 55) (d' := 2) hK rfl (by decide)) (cw_kne (k := K) (d := 1) (k' := 56) (d' := 17) hK rfl (by decide))).trans (tGh188 j hj)
      have hph191 := (zF3_at zh191 (cw_kne (k := K) (d := 1) (k' := 55) (d' := 2) hK rfl (by decide)) (cw_kne (k := K) (d := 1) (k' := 56) (d' := 17) hK rfl (by decide))).trans hph188
      have w7h191 : rl_at h191 56 7 = w.toInt := vh191.trans (by omega)
      have w0h191 : rl_at h191 56 0 = gPull T (γ 9) (γ 7) := (nh191 0 (by decide)).trans w0h188
      have w1h191 : rl_at h191 56 1 = gFirm g w.toInt + γ 8 := (nh191 1 (by decide)).trans w1h188
      have w2h191 : rl_at h191 56 2 = γ 5 := (nh191 2 (by decide)).trans w2h188
      have w3h191 : rl_at h191 56 3 = T 8 := (nh191 3 (by decide)).trans w3h188
      have w4h191 : rl_at h191 56 4 = (if γ 6 = 1 then 1 else 0) := (nh191 4 (by decide)).trans w4h188
      have w5h191 : rl_at h191 56 5 = (if γ 6 = 2 then 1 else 0) := (nh191 5 (by decide)).trans w5h188
      have w6h191 : rl_at h191 56 6 = gDrop T (γ 1) (γ 2) (γ 3) (γ 4) := (nh191 6 (by decide)).trans w6h188
      refine ex_al oq_X2_see_104 rfl ?_
      refine ex_bi oq_X2_see_105 (m := 8) (by decide) (fun x192 hx192 => ?_)
      refine ex_al oq_X2_see_107 rfl ?_
      obtain ⟨x193, ax193, rx193, lx193, ux193⟩ := ri_fld (k := K) (d := 1) (f := 9) Th191 hK rfl rfl
      try dsimp only at lx193 ux193
      refine ex_gf oq_X2_see_108 Th191 (k := K) (d := 1) hK rfl ax193 ?_
      clear lx193 ux193
      have rx193 := (rx193.symm.trans (tGh191 9 (by decide)) : x193.toInt = γ 9)
      refine ex_i2l oq_X2_see_111 (fun x194 hx194 => ?_)
      refine ex_cv oq_X2_see_112 (by decide) Th191 (k := 55) (d := 2) (as := [cv_i x192, cv_l x194]) (stk := []) rfl rfl rfl rfl rfl rfl ⟨rfl, rfl⟩ (R := fun o => ∃ hb : cv_H, o = (none, hb) ∧ cw_T G hb ∧ zF3 h191 hb ∧ rl_at hb 56 8 = x194.toInt ∧ (∀ j, j ≠ 8 → rl_at hb 56 j = rl_at h191 56 j) ∧ zLP hb V ∧ (ri_at h191 55 3 = -1 → ri_at hb 55 3 = -1)) (cl_put Th191 (nm := 8) (by omega) (by omega) hPh191 (fun hb b1 b2 b3 b4 b5 b6 => ⟨hb, rfl, b1, b2, b3, b4, b5, b6⟩)) (fun o ho => ?_)
      obtain ⟨h195, rfl, Th195, zh195, vh195, nh195, hPh195, mh195⟩ := ho
      show cw_X _ _ _ _ _ [] h195
      have Zh195 : zF3 h h195 := zF3_tr Zh191 zh195
      have Mh195 : ri_at h 55 3 = -1 → ri_at h195 55 3 = -1 := fun q => mh195 (Mh191 q)
      have tTh195 : zTV h195 U T := fun j hj => (zF3_ri zh195 (cw_kne (k := U) (d := 7) (k' := 55) (d' := 2) hU rfl (by decide)) (cw_kne (k := U) (d := 7) (k' := 56) (d' := 17) hU rfl (by decide))).trans (tTh191 j hj)
      have tGh195 : zGV h195 K γ := fun j hj => (zF3_ri zh195 (cw_kne (k := K) (d := 1) (k' := 55) (d' := 2) hK rfl (by decide)) (cw_kne (k := K) (d := 1) (k' := 56) (d' := 17) hK rfl (by decide))).trans (tGh191 j hj)
      have hph195 := (zF3_at zh195 (cw_kne (k := K) (d := 1) (k' := 55) (d' := 2) hK rfl (by decide)) (cw_kne (k := K) (d := 1) (k' := 56) (d' := 17) hK rfl (by decide))).trans hph191
      have w8h195 : rl_at h195 56 8 = γ 9 := vh195.trans (by omega)
      have w0h195 : rl_at h195 56 0 = gPull T (γ 9) (γ 7) := (nh195 0 (by decide)).trans w0h191
      have w1h195 : rl_at h195 56 1 = gFirm g w.toInt + γ 8 := (nh195 1 (by decide)).trans w1h191
      have w2h195 : rl_at h195 56 2 = γ 5 := (nh195 2 (by decide)).trans w2h191
      have w3h195 : rl_at h195 56 3 = T 8 := (nh195 3 (by decide)).trans w3h191
      have w4h195 : rl_at h195 56 4 = (if γ 6 = 1 then 1 else 0) := (nh195 4 (by decide)).trans w4h191
      have w5h195 : rl_at h195 56 5 = (if γ 6 = 2 then 1 else 0) := (nh195 5 (by decide)).trans w5h191
      have w6h195 : rl_at h195 56 6 = gDrop T (γ 1) (γ 2) (γ 3) (γ 4) := (nh195 6 (by decide)).trans w6h191
      have w7h195 : rl_at h195 56 7 = w.toInt := (nh195 7 (by decide)).trans w7h191
      refine ex_al oq_X2_see_115 rfl ?_
      refine ex_bi oq_X2_see_116 (m := 9) (by decide) (fun x196 hx196 => ?_)
      refine ex_ilw oq_X2_see_118 rfl ?_
      refine ex_i2l oq_X2_see_120 (fun x197 hx197 => ?_)
      refine ex_cv oq_X2_see_121 (by decide) Th195 (k := 55) (d := 2) (as := [cv_i x196, cv_l x197]) (stk := []) rfl rfl rfl rfl rfl rfl ⟨rfl, rfl⟩ (R := fun o => ∃ hb : cv_H, o = (none, hb) ∧ cw_T G hb ∧ zF3 h195 hb ∧ rl_at hb 56 9 = x197.toInt ∧ (∀ j, j ≠ 9 → rl_at hb 56 j = rl_at h195 56 j) ∧ zLP hb V ∧ (ri_at h195 55 3 = -1 → ri_at hb 55 3 = -1)) (cl_put Th195 (nm := 9) (by omega) (by omega) hPh195 (fun hb b1 b2 b3 b4 b5 b6 => ⟨hb, rfl, b1, b2, b3, b4, b5, b6⟩)) (fun o ho => ?_)
      obtain ⟨h198, rfl, Th198, zh198, vh198, nh198, hPh198, mh198⟩ := ho
      show cw_X _ _ _ _ _ [] h198
      have Zh198 : zF3 h h198 := zF3_tr Zh195 zh198
      have Mh198 : ri_at h 55 3 = -1 → ri_at h198 55 3 = -1 := fun q => mh198 (Mh195 q)
      have tTh198 : zTV h198 U T := fun j hj => (zF3_ri zh198 (cw_kne (k := U) (d := 7) (k' := 55) (d' := 2) hU rfl (by decide)) (cw_kne (k := U) (d := 7) (k' := 56) (d' := 17) hU rfl (by decide))).trans (tTh195 j hj)
      have tGh198 : zGV h198 K γ := fun j hj => (zF3_ri zh198 (cw_kne (k := K) (d := 1) (k' := 55) (d' := 2) hK rfl (by decide)) (cw_kne (k := K) (d := 1) (k' := 56) (d' := 17) hK rfl (by decide))).trans (tGh195 j hj)
      have hph198 := (zF3_at zh198 (cw_kne (k := K) (d := 1) (k' := 55) (d' := 2) hK rfl (by decide)) (cw_kne (k := K) (d := 1) (k' := 56) (d' := 17) hK rfl (by decide))).trans hph195
      have w9h198 : rl_at h198 56 9 = f.toInt := vh198.trans (by omega)
      have w0h198 : rl_at h198 56 0 = gPull T (γ 9) (γ 7) := (nh198 0 (by decide)).trans w0h195
      have w1h198 : rl_at h198 56 1 = gFirm g w.toInt + γ 8 := (nh198 1 (by decide)).trans w1h195
      have w2h198 : rl_at h198 56 2 = γ 5 := (nh198 2 (by decide)).trans w2h195
      have w3h198 : rl_at h198 56 3 = T 8 := (nh198 3 (by decide)).trans w3h195
      have w4h198 : rl_at h198 56 4 = (if γ 6 = 1 then 1 else 0) := (nh198 4 (by decide)).trans w4h195
      have w5h198 : rl_at h198 56 5 = (if γ 6 = 2 then 1 else 0) := (nh198 5 (by decide)).trans w5h195
      have w6h198 : rl_at h198 56 6 = gDrop T (γ 1) (γ 2) (γ 3) (γ 4) := (nh198 6 (by decide)).trans w6h195
      have w7h198 : rl_at h198 56 7 = w.toInt := (nh198 7 (by decide)).trans w7h195
      have w8h198 : rl_at h198 56 8 = γ 9 := (nh198 8 (by decide)).trans w8h195
      refine ex_retv oq_X2_see_124 rfl (hQ h198 Th198 Zh198 (fun j hj => ?_) hPh198 Mh198)
      have : j = 0 ∨ j = 1 ∨ j = 2 ∨ j = 3 ∨ j = 4 ∨ j = 5 ∨ j = 6 ∨ j = 7 ∨ j = 8 ∨ j = 9 := by omega
      rcases this with rfl | rfl | rfl | rfl | rfl | rfl | rfl | rfl | rfl | rfl
      · exact w0h198
      · exact w1h198
      · exact w2h198
      · exact w3h198
      · exact w4h198
      · exact w5h198
      · exact w6h198
      · exact w7h198
      · exact w8h198
      · exact w9h198
end GN
