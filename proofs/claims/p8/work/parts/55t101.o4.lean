/-! ===== an undo, the image: the reference ===== -/
/-- what an image may change, what its taking back may -/
def zQK (h h' : cv_H) : Prop := (∀ k : Nat, k ≠ 111 → k ≠ 148 → h'[k]? = h[k]?) ∧ ∀ i, i ≠ 2 → i ≠ 66 → i ≠ 67 → cw_at h' 111 i = cw_at h 111 i
theorem zQK_tr {h h' h'' : cv_H} (a : zQK h h') (b : zQK h' h'') : zQK h h'' := ⟨fun k p q => (b.1 k p q).trans (a.1 k p q), fun i p q r => (b.2 i p q r).trans (a.2 i p q r)⟩
theorem zQK_c {h h' : cv_H} (c : cp_F 148 h h') : zQK h h' := ⟨fun k _ q => c k q, fun i _ _ _ => cp_at c (by decide)⟩
theorem zQK_w {h h' : cv_H} {i : Nat} {v : cv_V} (hi : i = 2 ∨ i = 66 ∨ i = 67) (w : cw_Wr h h' 111 i v) : zQK h h' := ⟨fun k p _ => w.2.2 k p, fun j p q r => w.2.1 111 j (.inr (by omega))⟩
def zQB (h h' : cv_H) : Prop := (∀ k : Nat, k ≠ 111 → k ≠ 130 → h'[k]? = h[k]?) ∧ ∀ i, i ≠ 2 → i ≠ 43 → i ≠ 50 → cw_at h' 111 i = cw_at h 111 i
theorem zQB_tr {h h' h'' : cv_H} (a : zQB h h') (b : zQB h' h'') : zQB h h'' := ⟨fun k p q => (b.1 k p q).trans (a.1 k p q), fun i p q r => (b.2 i p q r).trans (a.2 i p q r)⟩
theorem zQB_c {h h' : cv_H} (c : cp_F 130 h h') : zQB h h' := ⟨fun k _ q => c k q, fun i _ _ _ => cp_at c (by decide)⟩
theorem zQB_w {h h' : cv_H} {i : Nat} {v : cv_V} (hi : i = 2 ∨ i = 43 ∨ i = 50) (w : cw_Wr h h' 111 i v) : zQB h h' := ⟨fun k p _ => w.2.2 k p, fun j p q r => w.2.1 111 j (.inr (by omega))⟩
section GN
variable {G : Int} {X : cv_X} {Q : cv_O → Prop} {h0 h : cv_H}
theorem oq_X12_undo_0 : cw_ho 228 0 (.aload_n 0) 1 0 0 0 := rfl
theorem oq_X12_undo_1 : cw_ho 228 1 (.iconst 0) 1 0 0 0 := rfl
theorem oq_X12_undo_2 : cw_ho 228 2 (.putfield 136) 3 12 2 0 := rfl
theorem oq_X12_undo_5 : cw_ho 228 5 (.aload_n 0) 1 0 0 0 := rfl
theorem oq_X12_undo_6 : cw_ho 228 6 (.getfield 246) 3 12 50 0 := rfl
theorem oq_X12_undo_9 : cw_ho 228 9 (.ifCond .ne 5) 3 0 0 0 := rfl
theorem oq_X12_undo_12 : cw_ho 228 12 (.iconst (-1)) 1 0 0 0 := rfl
theorem oq_X12_undo_13 : cw_ho 228 13 (.ireturn) 1 0 0 0 := rfl
theorem rq_undo0 (hT : cw_T G h0) (hm : ri_at h0 111 50 = 0) (hQ : ∀ (x : Int32) h', cw_T G h' → x.toInt = -1 → zQU h0 h' → (∃ z : Int32, cw_Wr h0 h' 111 2 (cv_i z)) → Q (some (cv_i x), h')) : cw_X X 228 Q 0 (cv_ent 0 [cv_r 111]) [] h0 := by
  refine ex_al oq_X12_undo_0 rfl ?_
  refine ex_ic oq_X12_undo_1 (m := 0) (by decide) (fun x101 hx101 => ?_)
  refine ex_pfi oq_X12_undo_2 hT (k := 111) (d := 12) rfl rfl rfl (cw_i32 _).1 (cw_i32 _).2 (fun h102 Th102 wh102 => ?_)
  have eh102_111_50 : ri_at h102 111 50 = (0 : Int) := (ri_ne wh102 (.inr (by decide))).trans hm
  have eh102_111_2 : ri_at h102 111 2 = x101.toInt := ri_self wh102
  have Fh102 : zQU h0 h102 := zQU_w (.inl rfl) wh102
  refine ex_al oq_X12_undo_5 rfl ?_
  obtain ⟨x103, ax103, rx103, lx103, ux103⟩ := fi_undos Th102
  refine ex_gf oq_X12_undo_6 Th102 (k := 111) (d := 12) rfl rfl ax103 ?_
  have rx103 := (rx103.symm.trans eh102_111_50 : x103.toInt = (0 : Int))
  refine ex_if0 oq_X12_undo_9 (t := 14) rfl rfl (fun (c104 : ¬ x103.toInt = 0) => ?_) (fun (c104 : ¬ (¬ x103.toInt = 0)) => ?_)
  · exfalso; omega
  · refine ex_ic oq_X12_undo_12 (m := (-1)) (by decide) (fun x105 hx105 => ?_)
    exact ex_reti oq_X12_undo_13 rfl (hQ x105 h102 Th102 (by omega) Fh102 ⟨_, wh102⟩)
theorem oq_X12_undo_14 : cw_ho 228 14 (.aload_n 0) 1 0 0 0 := rfl
theorem oq_X12_undo_15 : cw_ho 228 15 (.dup) 1 0 0 0 := rfl
theorem oq_X12_undo_16 : cw_ho 228 16 (.getfield 246) 3 12 50 0 := rfl
theorem oq_X12_undo_19 : cw_ho 228 19 (.iconst 1) 1 0 0 0 := rfl
theorem oq_X12_undo_20 : cw_ho 228 20 (.isub) 1 0 0 0 := rfl
theorem oq_X12_undo_21 : cw_ho 228 21 (.putfield 246) 3 12 50 0 := rfl
theorem oq_X12_undo_24 : cw_ho 228 24 (.aload_n 0) 1 0 0 0 := rfl
theorem oq_X12_undo_25 : cw_ho 228 25 (.getfield 69) 3 12 44 4 := rfl
theorem oq_X12_undo_28 : cw_ho 228 28 (.bipush 16) 2 0 0 0 := rfl
theorem oq_X12_undo_30 : cw_ho 228 30 (.aload_n 0) 1 0 0 0 := rfl
theorem oq_X12_undo_31 : cw_ho 228 31 (.getfield 85) 3 12 51 4 := rfl
theorem oq_X12_undo_34 : cw_ho 228 34 (.bipush 17) 2 0 0 0 := rfl
theorem oq_X12_undo_36 : cw_ho 228 36 (.aload_n 0) 1 0 0 0 := rfl
theorem oq_X12_undo_37 : cw_ho 228 37 (.getfield 246) 3 12 50 0 := rfl
theorem oq_X12_undo_40 : cw_ho 228 40 (.imul) 1 0 0 0 := rfl
theorem oq_X12_undo_41 : cw_ho 228 41 (.iaload) 1 0 0 0 := rfl
theorem oq_X12_undo_42 : cw_ho 228 42 (.imul) 1 0 0 0 := rfl
theorem oq_X12_undo_43 : cw_ho 228 43 (.aload_n 0) 1 0 0 0 := rfl
theorem oq_X12_undo_44 : cw_ho 228 44 (.getfield 85) 3 12 51 4 := rfl
theorem oq_X12_undo_47 : cw_ho 228 47 (.bipush 17) 2 0 0 0 := rfl
theorem oq_X12_undo_49 : cw_ho 228 49 (.aload_n 0) 1 0 0 0 := rfl
theorem oq_X12_undo_50 : cw_ho 228 50 (.getfield 246) 3 12 50 0 := rfl
theorem oq_X12_undo_53 : cw_ho 228 53 (.imul) 1 0 0 0 := rfl
theorem oq_X12_undo_54 : cw_ho 228 54 (.iconst 1) 1 0 0 0 := rfl
theorem oq_X12_undo_55 : cw_ho 228 55 (.iadd) 1 0 0 0 := rfl
theorem oq_X12_undo_56 : cw_ho 228 56 (.invokestatic 236) 3 200 4 0 := rfl
theorem oq_X12_undo_59 : cw_ho 228 59 (.aload_n 0) 1 0 0 0 := rfl
theorem oq_X12_undo_60 : cw_ho 228 60 (.getfield 246) 3 12 50 0 := rfl
theorem oq_X12_undo_63 : cw_ho 228 63 (.ireturn) 1 0 0 0 := rfl
theorem rq_undo1 (hT : cw_T G h0) {k : Nat} {ν : Nat → Nat} {υ : Nat → Nat → Int} (S : zRU h0 (k + 1) ν υ) {ng : Nat} (hng : ng ≤ 4) (hν : ν k < ng) {γs : Nat → Nat → Int} (sS : zSS h0 ng γs) (hQ : ∀ (x : Int32) h', cw_T G h' → x.toInt = k → zQU h0 h' → zRU h' k ν υ → zSS h' ng (zfU γs (ν k) (υ k)) → Q (some (cv_i x), h')) : cw_X X 228 Q 0 (cv_ent 0 [cv_r 111]) [] h0 := by
  have hk20 := S.2.1
  refine ex_al oq_X12_undo_0 rfl ?_
  refine ex_ic oq_X12_undo_1 (m := 0) (by decide) (fun x101 hx101 => ?_)
  refine ex_pfi oq_X12_undo_2 hT (k := 111) (d := 12) rfl rfl rfl (cw_i32 _).1 (cw_i32 _).2 (fun h102 Th102 wh102 => ?_)
  have eh102_111_50 : ri_at h102 111 50 = ((k + 1 : Nat) : Int) := (ri_ne wh102 (.inr (by decide))).trans S.1
  have eh102_111_2 : ri_at h102 111 2 = x101.toInt := ri_self wh102
  have Fh102 : zQU h0 h102 := zQU_w (.inl rfl) wh102
  refine ex_al oq_X12_undo_5 rfl ?_
  obtain ⟨x103, ax103, rx103, lx103, ux103⟩ := fi_undos Th102
  refine ex_gf oq_X12_undo_6 Th102 (k := 111) (d := 12) rfl rfl ax103 ?_
  have rx103 := (rx103.symm.trans eh102_111_50 : x103.toInt = ((k + 1 : Nat) : Int))
  refine ex_if0 oq_X12_undo_9 (t := 14) rfl rfl (fun (c104 : ¬ x103.toInt = 0) => ?_) (fun (c104 : ¬ (¬ x103.toInt = 0)) => ?_)
  · refine ex_al oq_X12_undo_14 rfl ?_
    refine ex_dup oq_X12_undo_15 rfl ?_
    obtain ⟨x105, ax105, rx105, lx105, ux105⟩ := fi_undos Th102
    refine ex_gf oq_X12_undo_16 Th102 (k := 111) (d := 12) rfl rfl ax105 ?_
    have rx105 := (rx105.symm.trans eh102_111_50 : x105.toInt = ((k + 1 : Nat) : Int))
    refine ex_ic oq_X12_undo_19 (m := 1) (by decide) (fun x106 hx106 => ?_)
    refine ex_sub oq_X12_undo_20 (by omega) (fun x107 hx107 => ?_)
    refine ex_pfi oq_X12_undo_21 Th102 (k := 111) (d := 12) rfl rfl rfl (by omega) (by omega) (fun h108 Th108 wh108 => ?_)
    have eh108_111_2 : ri_at h108 111 2 = x101.toInt := (ri_ne wh108 (.inr (by decide))).trans eh102_111_2
    have eh108_111_50 : ri_at h108 111 50 = x107.toInt := ri_self wh108
    have Fh108 : zQU h0 h108 := zQU_tr Fh102 (zQU_w (.inr rfl) wh108)
    refine ex_al oq_X12_undo_24 rfl ?_
    refine ex_gf oq_X12_undo_25 Th108 (k := 111) (d := 12) rfl rfl (fr_state Th108) ?_
    refine ex_bi oq_X12_undo_28 (m := 16) (by decide) (fun x109 hx109 => ?_)
    refine ex_al oq_X12_undo_30 rfl ?_
    refine ex_gf oq_X12_undo_31 Th108 (k := 111) (d := 12) rfl rfl (fr_undo Th108) ?_
    refine ex_bi oq_X12_undo_34 (m := 17) (by decide) (fun x110 hx110 => ?_)
    refine ex_al oq_X12_undo_36 rfl ?_
    obtain ⟨x111, ax111, rx111, lx111, ux111⟩ := fi_undos Th108
    refine ex_gf oq_X12_undo_37 Th108 (k := 111) (d := 12) rfl rfl ax111 ?_
    have rx111 := (rx111.symm.trans eh108_111_50 : x111.toInt = x107.toInt)
    refine ex_mul oq_X12_undo_40 (m := 17 * x111.toInt) (by rw [hx110]) (by omega) (fun x112 hx112 => ?_)
    refine ex_iap oq_X12_undo_41 Th108 (k := 135) (d := 74) (j := 17 * k) rfl rfl (by omega) (by omega) (fun x113 hx113 => ?_)
    replace hx113 : x113.toInt = ν k := hx113.symm.trans ((ri_ne wh108 (.inl (by decide))).trans ((ri_ne wh102 (.inl (by decide))).trans (S.2.2 k (by omega)).1))
    refine ex_mul oq_X12_undo_42 (m := 16 * x113.toInt) (by rw [hx109]) (by omega) (fun x114 hx114 => ?_)
    refine ex_al oq_X12_undo_43 rfl ?_
    refine ex_gf oq_X12_undo_44 Th108 (k := 111) (d := 12) rfl rfl (fr_undo Th108) ?_
    refine ex_bi oq_X12_undo_47 (m := 17) (by decide) (fun x115 hx115 => ?_)
    refine ex_al oq_X12_undo_49 rfl ?_
    obtain ⟨x116, ax116, rx116, lx116, ux116⟩ := fi_undos Th108
    refine ex_gf oq_X12_undo_50 Th108 (k := 111) (d := 12) rfl rfl ax116 ?_
    have rx116 := (rx116.symm.trans eh108_111_50 : x116.toInt = x107.toInt)
    refine ex_mul oq_X12_undo_53 (m := 17 * x116.toInt) (by rw [hx115]) (by omega) (fun x117 hx117 => ?_)
    refine ex_ic oq_X12_undo_54 (m := 1) (by decide) (fun x118 hx118 => ?_)
    refine ex_add oq_X12_undo_55 (by omega) (fun x119 hx119 => ?_)
    refine ex_cs oq_X12_undo_56 (by decide) (as := [cv_r 130, cv_i x114, cv_r 135, cv_i x119]) (stk := []) rfl rfl rfl ⟨rfl, rfl⟩ (R := fun o => ∃ hb : cv_H, o = (none, hb) ∧ cw_T G hb ∧ cp_F 130 h108 hb ∧ (∀ i, i < 16 → ri_at hb 130 (16 * ν k + i) = ri_at h108 135 (17 * k + 1 + i)) ∧ (∀ i, (i < 16 * ν k ∨ 16 * ν k + 16 ≤ i) → ri_at hb 130 i = ri_at h108 130 i)) (rt_lays Th108 (R1 := 130) (d1 := 69) (R2 := 135) (d2 := 74) (a := 16 * ν k) (b := 17 * k + 1) rfl rfl rfl rfl (by decide) (by omega) (by omega) (by omega) (by omega) (by decide) (by decide) (fun j _ _ r hr => free1 hr) (fun hb b1 b2 b3 b4 => ⟨hb, rfl, b1, b2, b3, b4⟩)) (fun o ho => ?_)
    obtain ⟨h120, rfl, Th120, ch120, yh120, nh120⟩ := ho
    show cw_X _ _ _ _ _ [] h120
    refine ex_al oq_X12_undo_59 rfl ?_
    obtain ⟨x121, ax121, rx121, lx121, ux121⟩ := fi_undos Th120
    refine ex_gf oq_X12_undo_60 Th120 (k := 111) (d := 12) rfl rfl ax121 ?_
    have rx121 := (rx121.symm.trans ((ri_eq (cp_at ch120 (by decide))).trans eh108_111_50) : x121.toInt = x107.toInt)
    refine ex_reti oq_X12_undo_63 rfl (hQ x121 h120 Th120 (by omega) (zQU_tr Fh108 (zQU_c (.inl rfl) ch120)) ⟨?_, by omega, fun i hi => ?_⟩ (fun g q j r => ?_))
    · exact (ri_eq (cp_at ch120 (by decide))).trans ((ri_self wh108).trans (by omega))
    · have s := S.2.2 i (by omega)
      exact ⟨(ri_eq (cp_at ch120 (by decide))).trans ((ri_ne wh108 (.inl (by decide))).trans ((ri_ne wh102 (.inl (by decide))).trans s.1)), fun j hj => (ri_eq (cp_at ch120 (by decide))).trans ((ri_ne wh108 (.inl (by decide))).trans ((ri_ne wh102 (.inl (by decide))).trans (s.2 j hj)))⟩
    · by_cases cg : g = ν k
      · subst cg
        rw [zfU_eq, yh120 j (by omega)]
        exact (ri_ne wh108 (.inl (by decide))).trans ((ri_ne wh102 (.inl (by decide))).trans ((S.2.2 k (by omega)).2 j r))
      · rw [zfU_ne cg, nh120 _ (by omega)]
        exact (ri_ne wh108 (.inl (by decide))).trans ((ri_ne wh102 (.inl (by decide))).trans (sS g q j r))
  · exfalso; omega
theorem rk_lp (hQ : ∀ (x : Int32) h', cw_T G h' → cp_F 148 h0 h' → x.toInt = ri_at h0 111 43 → (∀ j, j < 64 → ri_at h' 148 j = ri_at h0 130 j) → Q (some (cv_i x), h')) : ∀ (f i : Nat) (I : Int32) (h : cv_H) (L : cv_L), 4 - i = f → i ≤ 4 → I.toInt = i → cw_T G h → cp_F 148 h0 h → (∀ j, j < 16 * i → ri_at h 148 j = ri_at h0 130 j) → cv_get L 0 = some (cv_r 111) → cv_get L 1 = some (cv_i I) → cw_X X 270 Q 20 L [] h := by
  intro f
  induction f with
  | zero =>
    intro i I h L hf hi hI' hT hF hI g0 g1
    refine ex_il oq_X12_keep_20 g1 ?_
    refine ex_ic oq_X12_keep_21 (m := 4) (by decide) (fun x101 hx101 => ?_)
    refine ex_if oq_X12_keep_22 (t := 50) rfl rfl (fun (c102 : x101.toInt ≤ I.toInt) => ?_) (fun (c102 : ¬ (x101.toInt ≤ I.toInt)) => ?_)
    · refine ex_al oq_X12_keep_50 g0 ?_
      obtain ⟨x103, ax103, rx103, lx103, ux103⟩ := fi_week hT
      refine ex_gf oq_X12_keep_51 hT (k := 111) (d := 12) rfl rfl ax103 ?_
      have rx103 := (rx103.symm.trans (ri_eq (cp_at hF (by decide))) : x103.toInt = ri_at h0 111 43)
      exact ex_reti oq_X12_keep_54 rfl (hQ x103 h hT hF (by omega) (fun j q => hI j (by omega)))
    · exfalso; omega
  | succ f ih =>
    intro i I h L hf hi hI' hT hF hI g0 g1
    refine ex_il oq_X12_keep_20 g1 ?_
    refine ex_ic oq_X12_keep_21 (m := 4) (by decide) (fun x101 hx101 => ?_)
    refine ex_if oq_X12_keep_22 (t := 50) rfl rfl (fun (c102 : x101.toInt ≤ I.toInt) => ?_) (fun (c102 : ¬ (x101.toInt ≤ I.toInt)) => ?_)
    · exfalso; omega
    · refine ex_al oq_X12_keep_25 g0 ?_
      refine ex_gf oq_X12_keep_26 hT (k := 111) (d := 12) rfl rfl (fr_keptState hT) ?_
      refine ex_bi oq_X12_keep_29 (m := 16) (by decide) (fun x103 hx103 => ?_)
      refine ex_il oq_X12_keep_31 g1 ?_
      refine ex_mul oq_X12_keep_32 (m := 16 * I.toInt) (by rw [hx103]) (by omega) (fun x104 hx104 => ?_)
      refine ex_al oq_X12_keep_33 g0 ?_
      refine ex_gf oq_X12_keep_34 hT (k := 111) (d := 12) rfl rfl (fr_state hT) ?_
      refine ex_bi oq_X12_keep_37 (m := 16) (by decide) (fun x105 hx105 => ?_)
      refine ex_il oq_X12_keep_39 g1 ?_
      refine ex_mul oq_X12_keep_40 (m := 16 * I.toInt) (by rw [hx105]) (by omega) (fun x106 hx106 => ?_)
      refine ex_cs oq_X12_keep_41 (by decide) (as := [cv_r 148, cv_i x104, cv_r 130, cv_i x106]) (stk := []) rfl rfl rfl ⟨rfl, rfl⟩ (R := fun o => ∃ hb : cv_H, o = (none, hb) ∧ cw_T G hb ∧ cp_F 148 h hb ∧ (∀ e, e < 16 → ri_at hb 148 (16 * i + e) = ri_at h 130 (16 * i + e)) ∧ (∀ e, (e < 16 * i ∨ 16 * i + 16 ≤ e) → ri_at hb 148 e = ri_at h 148 e)) (rt_lays hT (R1 := 148) (d1 := 87) (R2 := 130) (d2 := 69) (a := 16 * i) (b := 16 * i) rfl rfl rfl rfl (by decide) (by omega) (by omega) (by omega) (by omega) (by decide) (by decide) (fun j _ _ r hr => free1 hr) (fun hb b1 b2 b3 b4 => ⟨hb, rfl, b1, b2, b3, b4⟩)) (fun o ho => ?_)
      obtain ⟨h107, rfl, Th107, ch107, yh107, nh107⟩ := ho
      show cw_X _ _ _ _ _ [] h107
      refine ex_incA oq_X12_keep_44 (v := I) (m := 1) g1 (by decide) (by omega) (fun L109 x108 hx108 gL109_1 kL109 => ?_)
      have gL109_0 : cv_get L109 0 = some (cv_r 111) := kL109 0 _ (by decide) (fun _ => rfl) g0
      refine ex_go oq_X12_keep_47 (t := 20) rfl rfl ?_
      refine ih (i + 1) x108 h107 L109 (by omega) (by omega) (by omega) Th107 (fun k q => (ch107 k q).trans (hF k q)) (fun j q => ?_) gL109_0 gL109_1
      by_cases cj : j < 16 * i
      · exact (nh107 j (.inl cj)).trans (hI j cj)
      · have e := yh107 (j - 16 * i) (by omega)
        rw [show 16 * i + (j - 16 * i) = j from by omega] at e
        exact e.trans (ri_eq (cp_at hF (by decide)))
theorem rq_keep (hT : cw_T G h0) (hQ : ∀ (x : Int32) h', cw_T G h' → zQK h0 h' → x.toInt = ri_at h0 111 43 → ri_at h' 111 66 = 1 → ri_at h' 111 67 = ri_at h0 111 43 → (∀ j, j < 64 → ri_at h' 148 j = ri_at h0 130 j) → Q (some (cv_i x), h')) : cw_X X 270 Q 0 (cv_ent 0 [cv_r 111]) [] h0 := by
  refine ex_al oq_X12_keep_0 rfl ?_
  refine ex_ic oq_X12_keep_1 (m := 0) (by decide) (fun x201 hx201 => ?_)
  refine ex_pfi oq_X12_keep_2 hT (k := 111) (d := 12) rfl rfl rfl (cw_i32 _).1 (cw_i32 _).2 (fun h202 Th202 wh202 => ?_)
  have eh202_111_43 : ri_at h202 111 43 = ri_at h0 111 43 := (ri_ne wh202 (.inr (by decide))).trans rfl
  have eh202_111_2 : ri_at h202 111 2 = x201.toInt := ri_self wh202
  have Fh202 : zQK h0 h202 := zQK_w (.inl rfl) wh202
  refine ex_al oq_X12_keep_5 rfl ?_
  refine ex_ic oq_X12_keep_6 (m := 1) (by decide) (fun x203 hx203 => ?_)
  refine ex_pfb oq_X12_keep_7 Th202 (k := 111) (d := 12) rfl rfl rfl (by omega) (by omega) (fun h204 Th204 wh204 => ?_)
  have eh204_111_43 : ri_at h204 111 43 = ri_at h0 111 43 := (ri_ne wh204 (.inr (by decide))).trans eh202_111_43
  have eh204_111_2 : ri_at h204 111 2 = x201.toInt := (ri_ne wh204 (.inr (by decide))).trans eh202_111_2
  have eh204_111_66 : ri_at h204 111 66 = x203.toInt := ri_self wh204
  have Fh204 : zQK h0 h204 := zQK_tr Fh202 (zQK_w (.inr (.inl rfl)) wh204)
  refine ex_al oq_X12_keep_10 rfl ?_
  refine ex_al oq_X12_keep_11 rfl ?_
  obtain ⟨x205, ax205, rx205, lx205, ux205⟩ := fi_week Th204
  refine ex_gf oq_X12_keep_12 Th204 (k := 111) (d := 12) rfl rfl ax205 ?_
  have rx205 := (rx205.symm.trans eh204_111_43 : x205.toInt = ri_at h0 111 43)
  refine ex_pfi oq_X12_keep_15 Th204 (k := 111) (d := 12) rfl rfl rfl (by omega) (by omega) (fun h206 Th206 wh206 => ?_)
  have eh206_111_43 : ri_at h206 111 43 = ri_at h0 111 43 := (ri_ne wh206 (.inr (by decide))).trans eh204_111_43
  have eh206_111_2 : ri_at h206 111 2 = x201.toInt := (ri_ne wh206 (.inr (by decide))).trans eh204_111_2
  have eh206_111_66 : ri_at h206 111 66 = x203.toInt := (ri_ne wh206 (.inr (by decide))).trans eh204_111_66
  have eh206_111_67 : ri_at h206 111 67 = x205.toInt := ri_self wh206
  have Fh206 : zQK h0 h206 := zQK_tr Fh204 (zQK_w (.inr (.inr rfl)) wh206)
  refine ex_ic oq_X12_keep_18 (m := 0) (by decide) (fun x207 hx207 => ?_)
  refine ex_isA oq_X12_keep_19 (fun L208 gL208_1 kL208 => ?_)
  have gL208_0 : cv_get L208 0 = some (cv_r 111) := kL208 0 _ (by decide) (fun _ => rfl) rfl
  refine rk_lp (fun x h' b1 b2 b3 b4 => hQ x h' b1 (zQK_tr Fh206 (zQK_c b2)) (b3.trans ((ri_ne wh206 (.inr (by decide))).trans ((ri_ne wh204 (.inr (by decide))).trans (ri_ne wh202 (.inr (by decide)))))) ?_ ?_ (fun j q => (b4 j q).trans ((ri_ne wh206 (.inl (by decide))).trans ((ri_ne wh204 (.inl (by decide))).trans (ri_ne wh202 (.inl (by decide))))))) 4 0 x207 h206 L208 (by decide) (by decide) (by omega) Th206 cp_0 (fun j q => absurd q (by omega)) gL208_0 gL208_1
  · exact (ri_eq (cp_at b2 (by decide))).trans ((ri_ne wh206 (.inr (by decide))).trans ((ri_self wh204).trans (by omega)))
  · exact (ri_eq (cp_at b2 (by decide))).trans ((ri_self wh206).trans (by omega))
theorem rb_lp (hQ : ∀ (x : Int32) h', cw_T G h' → (∀ k : Nat, k ≠ 111 → k ≠ 130 → h'[k]? = h0[k]?) → (∀ i, i ≠ 50 → cw_at h' 111 i = cw_at h0 111 i) → x.toInt = ri_at h0 111 43 → ri_at h' 111 50 = 0 → (∀ j, j < 64 → ri_at h' 130 j = ri_at h0 148 j) → Q (some (cv_i x), h')) : ∀ (f i : Nat) (I : Int32) (h : cv_H) (L : cv_L), 4 - i = f → i ≤ 4 → I.toInt = i → cw_T G h → cp_F 130 h0 h → (∀ j, j < 16 * i → ri_at h 130 j = ri_at h0 148 j) → cv_get L 0 = some (cv_r 111) → cv_get L 1 = some (cv_i I) → cw_X X 271 Q 24 L [] h := by
  intro f
  induction f with
  | zero =>
    intro i I h L hf hi hI' hT hF hI g0 g1
    refine ex_il oq_X12_back_24 g1 ?_
    refine ex_ic oq_X12_back_25 (m := 4) (by decide) (fun x101 hx101 => ?_)
    refine ex_if oq_X12_back_26 (t := 54) rfl rfl (fun (c102 : x101.toInt ≤ I.toInt) => ?_) (fun (c102 : ¬ (x101.toInt ≤ I.toInt)) => ?_)
    · refine ex_al oq_X12_back_54 g0 ?_
      refine ex_ic oq_X12_back_55 (m := 0) (by decide) (fun x103 hx103 => ?_)
      refine ex_pfi oq_X12_back_56 hT (k := 111) (d := 12) rfl rfl rfl (by omega) (by omega) (fun h104 Th104 wh104 => ?_)
      have eh104_111_43 : ri_at h104 111 43 = ri_at h0 111 43 := (ri_ne wh104 (.inr (by decide))).trans (ri_eq (cp_at hF (by decide)))
      have eh104_111_50 : ri_at h104 111 50 = x103.toInt := ri_self wh104
      refine ex_al oq_X12_back_59 g0 ?_
      obtain ⟨x105, ax105, rx105, lx105, ux105⟩ := fi_week Th104
      refine ex_gf oq_X12_back_60 Th104 (k := 111) (d := 12) rfl rfl ax105 ?_
      have rx105 := (rx105.symm.trans eh104_111_43 : x105.toInt = ri_at h0 111 43)
      exact ex_reti oq_X12_back_63 rfl (hQ x105 h104 Th104 (fun k p q => (wh104.2.2 k p).trans (hF k q)) (fun i p => (wh104.2.1 111 i (.inr p)).trans (cp_at hF (by decide))) (by omega) ((ri_self wh104).trans (by omega)) (fun j q => (ri_ne wh104 (.inl (by decide))).trans (hI j (by omega))))
    · exfalso; omega
  | succ f ih =>
    intro i I h L hf hi hI' hT hF hI g0 g1
    refine ex_il oq_X12_back_24 g1 ?_
    refine ex_ic oq_X12_back_25 (m := 4) (by decide) (fun x101 hx101 => ?_)
    refine ex_if oq_X12_back_26 (t := 54) rfl rfl (fun (c102 : x101.toInt ≤ I.toInt) => ?_) (fun (c102 : ¬ (x101.toInt ≤ I.toInt)) => ?_)
    · exfalso; omega
    · refine ex_al oq_X12_back_29 g0 ?_
      refine ex_gf oq_X12_back_30 hT (k := 111) (d := 12) rfl rfl (fr_state hT) ?_
      refine ex_bi oq_X12_back_33 (m := 16) (by decide) (fun x103 hx103 => ?_)
      refine ex_il oq_X12_back_35 g1 ?_
      refine ex_mul oq_X12_back_36 (m := 16 * I.toInt) (by rw [hx103]) (by omega) (fun x104 hx104 => ?_)
      refine ex_al oq_X12_back_37 g0 ?_
      refine ex_gf oq_X12_back_38 hT (k := 111) (d := 12) rfl rfl (fr_keptState hT) ?_
      refine ex_bi oq_X12_back_41 (m := 16) (by decide) (fun x105 hx105 => ?_)
      refine ex_il oq_X12_back_43 g1 ?_
      refine ex_mul oq_X12_back_44 (m := 16 * I.toInt) (by rw [hx105]) (by omega) (fun x106 hx106 => ?_)
      refine ex_cs oq_X12_back_45 (by decide) (as := [cv_r 130, cv_i x104, cv_r 148, cv_i x106]) (stk := []) rfl rfl rfl ⟨rfl, rfl⟩ (R := fun o => ∃ hb : cv_H, o = (none, hb) ∧ cw_T G hb ∧ cp_F 130 h hb ∧ (∀ e, e < 16 → ri_at hb 130 (16 * i + e) = ri_at h 148 (16 * i + e)) ∧ (∀ e, (e < 16 * i ∨ 16 * i + 16 ≤ e) → ri_at hb 130 e = ri_at h 130 e)) (rt_lays hT (R1 := 130) (d1 := 69) (R2 := 148) (d2 := 87) (a := 16 * i) (b := 16 * i) rfl rfl rfl rfl (by decide) (by omega) (by omega) (by omega) (by omega) (by decide) (by decide) (fun j _ _ r hr => free1 hr) (fun hb b1 b2 b3 b4 => ⟨hb, rfl, b1, b2, b3, b4⟩)) (fun o ho => ?_)
      obtain ⟨h107, rfl, Th107, ch107, yh107, nh107⟩ := ho
      show cw_X _ _ _ _ _ [] h107
      refine ex_incA oq_X12_back_48 (v := I) (m := 1) g1 (by decide) (by omega) (fun L109 x108 hx108 gL109_1 kL109 => ?_)
      have gL109_0 : cv_get L109 0 = some (cv_r 111) := kL109 0 _ (by decide) (fun _ => rfl) g0
      refine ex_go oq_X12_back_51 (t := 24) rfl rfl ?_
      refine ih (i + 1) x108 h107 L109 (by omega) (by omega) (by omega) Th107 (fun k q => (ch107 k q).trans (hF k q)) (fun j q => ?_) gL109_0 gL109_1
      by_cases cj : j < 16 * i
      · exact (nh107 j (.inl cj)).trans (hI j cj)
      · have e := yh107 (j - 16 * i) (by omega)
        rw [show 16 * i + (j - 16 * i) = j from by omega] at e
        exact e.trans (ri_eq (cp_at hF (by decide)))
theorem rq_back (hT : cw_T G h0) (hQ1 : ri_at h0 111 66 = 0 → ∀ (x : Int32) h', cw_T G h' → x.toInt = -1 → (∃ z : Int32, cw_Wr h0 h' 111 2 (cv_i z)) → Q (some (cv_i x), h')) (hQ2 : ¬ ri_at h0 111 66 = 0 → ∀ (x : Int32) h', cw_T G h' → zQB h0 h' → x.toInt = ri_at h0 111 67 → ri_at h' 111 43 = ri_at h0 111 67 → ri_at h' 111 50 = 0 → (∀ j, j < 64 → ri_at h' 130 j = ri_at h0 148 j) → Q (some (cv_i x), h')) : cw_X X 271 Q 0 (cv_ent 0 [cv_r 111]) [] h0 := by
  refine ex_al oq_X12_back_0 rfl ?_
  refine ex_ic oq_X12_back_1 (m := 0) (by decide) (fun x201 hx201 => ?_)
  refine ex_pfi oq_X12_back_2 hT (k := 111) (d := 12) rfl rfl rfl (cw_i32 _).1 (cw_i32 _).2 (fun h202 Th202 wh202 => ?_)
  have eh202_111_66 : ri_at h202 111 66 = ri_at h0 111 66 := (ri_ne wh202 (.inr (by decide))).trans rfl
  have eh202_111_67 : ri_at h202 111 67 = ri_at h0 111 67 := (ri_ne wh202 (.inr (by decide))).trans rfl
  have eh202_111_2 : ri_at h202 111 2 = x201.toInt := ri_self wh202
  have Fh202 : zQB h0 h202 := zQB_w (.inl rfl) wh202
  refine ex_al oq_X12_back_5 rfl ?_
  obtain ⟨x203, ax203, rx203, lx203, ux203⟩ := fi_hasImage Th202
  refine ex_gf oq_X12_back_6 Th202 (k := 111) (d := 12) rfl rfl ax203 ?_
  have rx203 := (rx203.symm.trans eh202_111_66 : x203.toInt = ri_at h0 111 66)
  refine ex_if0 oq_X12_back_9 (t := 14) rfl rfl (fun (c204 : ¬ x203.toInt = 0) => ?_) (fun (c204 : ¬ (¬ x203.toInt = 0)) => ?_)
  · refine ex_al oq_X12_back_14 rfl ?_
    refine ex_al oq_X12_back_15 rfl ?_
    obtain ⟨x205, ax205, rx205, lx205, ux205⟩ := fi_keptWeek Th202
    refine ex_gf oq_X12_back_16 Th202 (k := 111) (d := 12) rfl rfl ax205 ?_
    have rx205 := (rx205.symm.trans eh202_111_67 : x205.toInt = ri_at h0 111 67)
    refine ex_pfi oq_X12_back_19 Th202 (k := 111) (d := 12) rfl rfl rfl (by omega) (by omega) (fun h206 Th206 wh206 => ?_)
    have eh206_111_66 : ri_at h206 111 66 = ri_at h0 111 66 := (ri_ne wh206 (.inr (by decide))).trans eh202_111_66
    have eh206_111_67 : ri_at h206 111 67 = ri_at h0 111 67 := (ri_ne wh206 (.inr (by decide))).trans eh202_111_67
    have eh206_111_2 : ri_at h206 111 2 = x201.toInt := (ri_ne wh206 (.inr (by decide))).trans eh202_111_2
    have eh206_111_43 : ri_at h206 111 43 = x205.toInt := ri_self wh206
    have Fh206 : zQB h0 h206 := zQB_tr Fh202 (zQB_w (.inr (.inl rfl)) wh206)
    refine ex_ic oq_X12_back_22 (m := 0) (by decide) (fun x207 hx207 => ?_)
    refine ex_isA oq_X12_back_23 (fun L208 gL208_1 kL208 => ?_)
    have gL208_0 : cv_get L208 0 = some (cv_r 111) := kL208 0 _ (by decide) (fun _ => rfl) rfl
    refine rb_lp (fun x h' b1 b2 b2b b3 b4 b5 => hQ2 (by omega) x h' b1 (zQB_tr Fh206 ⟨b2, fun i _ _ p => b2b i p⟩) (b3.trans ?_) ((ri_eq (b2b 43 (by decide))).trans ?_) b4 (fun j q => (b5 j q).trans ((ri_ne wh206 (.inl (by decide))).trans (ri_ne wh202 (.inl (by decide)))))) 4 0 x207 h206 L208 (by decide) (by decide) (by omega) Th206 cp_0 (fun j q => absurd q (by omega)) gL208_0 gL208_1
    · exact (ri_self wh206).trans (by omega)
    · exact (ri_self wh206).trans (by omega)
  · refine ex_ic oq_X12_back_12 (m := (-1)) (by decide) (fun x209 hx209 => ?_)
    exact ex_reti oq_X12_back_13 rfl (hQ1 (by omega) x209 h202 Th202 (by omega) ⟨_, wh202⟩)
end GN
