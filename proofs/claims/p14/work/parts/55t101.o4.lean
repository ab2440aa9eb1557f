section
/-! ===== an undo, the image: the reference ===== -/
/-- what an image may change, what its taking back may -/
def zQK (h h' : cv_H) : Prop := (∀ k : Nat, k ≠ 111 → k ≠ 148 → h'[k]? = h[k]?) ∧ ∀ i, i ≠ 2 → i ≠ 66 → i ≠ 67 → cw_at h' 111 i = cw_at h 111 i
theorem zQK_tr {h h' h'' : cv_H} (a : zQK h h') (b : zQK h' h'') : zQK h h'' := ⟨fun k p q => (b.1 k p q).trans (a.1 k p q), fun i p q r => (b.2 i p q r).trans (a.2 i p q r)⟩
theorem zQK_c {h h' : cv_H} (c : cp_F 148 h h') : zQK h h' := ⟨fun k _ q => c k q, fun i _ _ _ => cp_at c (by decide)⟩
theorem zQK_w {h h' : cv_H} {i : Nat} {v : cv_V} (hi : i = 2 ∨ i = 66 ∨ i = 67) (w : cw_Wr h h' 111 i v) : zQK h h' := ⟨fun k p _ => w.2.2 k p, fun j p q r => w.2.1 111 j (.inr (by omega))⟩
def zQB (h h' : cv_H) : Prop := (∀ k : Nat, k ≠ 111 → k ≠ 130 → h'[k]? = h[k]?) ∧ ∀ i, i ≠ 2 → i ≠ 43 → i ≠ 50 → cw_at h' 111 i = cw_at h 111 i
theorem zQB_tr {h h' h'' : cv_H} (a : zQB h h') (b : zQB h' h'') : zQB h h'' := ⟨fun k p q => (b.1 k p q).trans (a.1 k p q), fun i p q r => (b.2 i p q r).trans (a.2 i p q r)⟩
theorem zQB_w {h h' : cv_H} {i : Nat} {v : cv_V} (hi : i = 2 ∨ i = 43 ∨ i = 50) (w : cw_Wr h h' 111 i v) : zQB h h' := ⟨fun k p _ => w.2.2 k p, fun j p q r => w.2.1 111 j (.inr (by omega))⟩
section GN
variable {G : Int} {X : cv_X} {Q : cv_O → Prop} {h0 h : cv_H}
theorem oq_X12_undo_0 : cw_ho 228 0 (.aload_n 0) 1 0 0 0 := rfl
theorem oq_X12_undo_1 : cw_ho 228 1 (.iconst 0) 1 0 0 0 := rfl
theorem oq_X12_undo_2 : cw_ho 228 2 (.putfield 136) 3 12 2 0 := rfl
theorem oq_X12_undo_5 : cw_ho 228 5 (.aload_n 0) 1 0 0 0 := rfl
theorem oq_X12_undo_6 : cw_ho 228 6 (.getfield 246) 3 12 50 0 := rfl
theorem oq_X12_undo_9 : cw_ho 228 9 (.ifCond .ne 5) 3 0 0 0 := rfl
theorem oq_X12_undo_12 : cw_ho 228 12 (.iconst (-1)) 1 0 0 0 := rfl
theorem oq_X12_undo_13 : cw_ho 228 13 (.ireturn) 1 0 0 0 := rfl
theorem rq_undo0 (hT : cw_T G h0) (hm : ri_at h0 111 50 = 0) (hQ : ∀ (x : Int32) h', cw_T G h' → x.toInt = -1 → zQU h0 h' → (∃ z : Int32, cw_Wr h0 h' 111 2 (cv_i z)) → Q (some (cv_i x), h')) : cw_X X 228 Q 0 (cv_ent 0 [cv_r 111]) [] h0 := by
  refine ex_al oq_X12_undo_0 rfl ?_
  refine ex_ic oq_X12_undo_1 (m := 0) (by decide) (fun x101 hx101 => ?_)
  refine ex_pfi oq_X12_undo_2 hT (k := 111) (d := 12) rfl rfl rfl (cw_i32 _).1 (cw_i32 _).2 (fun h102 Th102 wh102 => ?_)
  have eh102_111_50 : ri_at h102 111 50 = (0 : Int) := (ri_ne wh102 (.inr (by decide))).trans hm
  have eh102_111_2 : ri_at h102 111 2 = x101.toInt := ri_self wh102
  have Fh102 : zQU h0 h102 := zQU_w (.inl rfl) wh102
  refine ex_al oq_X12_undo_5 rfl ?_
  obtain ⟨x103, ax103, rx103, lx103, ux103⟩ := fi_undos Th102
  refine ex_gf oq_X12_undo_6 Th102 (k := 111) (d := 12) rfl rfl ax103 ?_
  have rx103 := (rx103.symm.trans eh102_111_50 : x103.toInt = (0 : Int))
  refine ex_if0 oq_X12_undo_9 (t := 14) rfl rfl (fun (c104 : ¬ x103.toInt = 0) => ?_) (fun (c104 : ¬ (¬ x103.toInt = 0)) => ?_)
  · exfalso; omega
  · refine ex_ic oq_X12_undo_12 (m := (-1)) (by decide) (fun x105 hx105 => ?_)
    exact ex_reti oq_X12_undo_13 rfl (hQ x105 h102 Th102 (by omega) Fh102 ⟨_, wh102⟩)
theorem oq_X12_undo_14 : cw_ho 228 14 (.aload_n 0) 1 0 0 0 := rfl
theorem oq_X12_undo_15 : cw_ho 228 15 (.dup) 1 0 0 0 := rfl
theorem oq_X12_undo_16 : cw_ho 228 16 (.getfield 246) 3 12 50 0 := rfl
theorem oq_X12_undo_19 : cw_ho 228 19 (.iconst 1) 1 0 0 0 := rfl
theorem oq_X12_undo_20 : cw_ho 228 20 (.isub) 1 0 0 0 := rfl
theorem oq_X12_undo_21 : cw_ho 228 21 (.putfield 246) 3 12 50 0 := rfl
theorem oq_X12_undo_24 : cw_ho 228 24 (.aload_n 0) 1 0 0 0 := rfl
theorem oq_X12_undo_25 : cw_ho 228 25 (.getfield 69) 3 12 44 4 := rfl
theorem oq_X12_undo_28 : cw_ho 228 28 (.bipush 16) 2 0 0 0 := rfl
theorem oq_X12_undo_30 : cw_ho 228 30 (.aload_n 0) 1 0 0 0 := rfl
theorem oq_X12_undo_31 : cw_ho 228 31 (.getfield 85) 3 12 51 4 := rfl
theorem oq_X12_undo_34 : cw_ho 228 34 (.bipush 17) 2 0 0 0 := rfl
theorem oq_X12_undo_36 : cw_ho 228 36 (.aload_n 0) 1 0 0 0 := rfl
theorem oq_X12_undo_37 : cw_ho 228 37 (.getfield 246) 3 12 50 0 := rfl
theorem oq_X12_undo_40 : cw_ho 228 40 (.imul) 1 0 0 0 := rfl
theorem oq_X12_undo_41 : cw_ho 228 41 (.iaload) 1 0 0 0 := rfl
theorem oq_X12_undo_42 : cw_ho 228 42 (.imul) 1 0 0 0 := rfl
theorem oq_X12_undo_43 : cw_ho 228 43 (.aload_n 0) 1 0 0 0 := rfl
theorem oq_X12_undo_44 : cw_ho 228 44 (.getfield 85) 3 12 51 4 := rfl
theorem oq_X12_undo_47 : cw_ho 228 47 (.bipush 17) 2 0 0 0 := rfl
theorem oq_X12_undo_49 : cw_ho 228 49 (.aload_n 0) 1 0 0 0 := rfl
theorem oq_X12_undo_50 : cw_ho 228 50 (.getfield 246) 3 12 50 0 := rfl
theorem oq_X12_undo_53 : cw_ho 228 53 (.imul) 1 0 0 0 := rfl
theorem oq_X12_undo_54 : cw_ho 228 54 (.iconst 1) 1 0 0 0 := rfl
theorem oq_X12_undo_55 : cw_ho 228 55 (.iadd) 1 0 0 0 := rfl
theorem oq_X12_undo_56 : cw_ho 228 56 (.invokestatic 236) 3 200 4 0 := rfl
theorem oq_X12_undo_59 : cw_ho 228 59 (.aload_n 0) 1 0 0 0 := rfl
theorem oq_X12_undo_60 : cw_ho 228 60 (.getfield 246) 3 12 50 0 := rfl
theorem oq_X12_undo_63 : cw_ho 228 63 (.ireturn) 1 0 0 0 := rfl
theorem rq_undo1 (hT : cw_T G h0) {k : Nat} {ν : Nat → Nat} {υ : Nat → Nat → Int} (S : zRU h0 (k + 1) ν υ) {ng : Nat} (hng : ng ≤ 4) (hν : ν k < ng) {γs : Nat → Nat → Int} (sS : zSS h0 ng γs) (hQ : ∀ (x : Int32) h', cw_T G h' → x.toInt = k → zQU h0 h' → zRU h' k ν υ → zSS h' ng (zfU γs (ν k) (υ k)) → Q (some (cv_i x), h')) : cw_X X 228 Q 0 (cv_ent 0 [cv_r 111]) [] h0 := by
  have hk20 := S.2.1
  refine ex_al oq_X12_undo_0 rfl ?_
  refine ex_ic oq_X12_undo_1 (m := 0) (by decide) (fun x101 hx101 => ?_)
  refine ex_pfi oq_X12_undo_2 hT (k := 111) (d := 12) rfl rfl rfl (cw_i32 _).1 (cw_i32 _).2 (fun h102 Th102 wh102 => ?_)
  have eh102_111_50 : ri_at h102 111 50 = ((k + 1 : Nat) : Int) := (ri_ne wh102 (.inr (by decide))).trans S.1
  have eh102_111_2 : ri_at h102 111 2 = x101.toInt := ri_self wh102
  have Fh102 : zQU h0 h102 := zQU_w (.inl rfl) wh102
  refine ex_al oq_X12_undo_5 rfl ?_
  obtain ⟨x103, ax103, rx103, lx103, ux103⟩ := fi_undos Th102
  refine ex_gf oq_X12_undo_6 Th102 (k := 111) (d := 12) rfl rfl ax103 ?_
  have rx103 := (rx103.symm.trans eh102_111_50 : x103.toInt = ((k + 1 : Nat) : Int))
  refine ex_if0 oq_X12_undo_9 (t := 14) rfl rfl (fun (c104 : ¬ x103.toInt = 0) => ?_) (fun (c104 : ¬ (¬ x103.toInt = 0)) => ?_)
  · refine ex_al oq_X12_undo_14 rfl ?_
    refine ex_dup oq_X12_undo_15 rfl ?_
    obtain ⟨x105, ax105, rx105, lx105, ux105⟩ := fi_undos Th102
    refine ex_gf oq_X12_undo_16 Th102 (k := 111) (d := 12) rfl rfl ax105 ?_
    have rx105 := (rx105.symm.trans eh102_111_50 : x105.toInt = ((k + 1 : Nat) : Int))
    refine ex_ic oq_X12_undo_19 (m := 1) (by decide) (fun x106 hx106 => ?_)
    refine ex_sub oq_X12_undo_20 (by omega) (fun x107 hx107 => ?_)
    refine ex_pfi oq_X12_undo_21 Th102 (k := 111) (d := 12) rfl rfl rfl (by omega) (by omega) (fun h108 Th108 wh108 => ?_)
    have eh108_111_2 : ri_at h108 111 2 = x101.toInt := (ri_ne wh108 (.inr (by decide))).trans eh102_111_2
    have eh108_111_50 : ri_at h108 111 50 = x107.toInt := ri_self wh108
    have Fh108 : zQU h0 h108 := zQU_tr Fh102 (zQU_w (.inr rfl) wh108)
    refine ex_al oq_X12_undo_24 rfl ?_
    refine ex_gf oq_X12_undo_25 Th108 (k := 111) (d := 12) rfl rfl (fr_state Th108) ?_
    refine ex_bi oq_X12_undo_28 (m := 16) (by decide) (fun x109 hx109 => ?_)
    refine ex_al oq_X12_undo_30 rfl ?_
    refine ex_gf oq_X12_undo_31 Th108 (k := 111) (d := 12) rfl rfl (fr_undo Th108) ?_
    refine ex_bi oq_X12_undo_34 (m := 17) (by decide) (fun x110 hx110 => ?_)
    refine ex_al oq_X12_undo_36 rfl ?_
    obtain ⟨x111, ax111, rx111, lx111, ux111⟩ := fi_undos Th108
    refine ex_gf oq_X12_undo_37 Th108 (k := 111) (d := 12) rfl rfl ax111 ?_
    have rx111 := (rx111.symm.trans eh108_111_50 : x111.toInt = x107.toInt)
    refine ex_mul oq_X12_undo_40 (m := 17 * x111.toInt) (by rw [hx110]) (by omega) (fun x112 hx112 => ?_)
    refine ex_iap oq_X12_undo_41 Th108 (k := 135) (d := 74) (j := 17 * k) rfl rfl (by omega) (by omega) (fun x113 hx113 => ?_)
    replace hx113 : x113.toInt = ν k := hx113.symm.trans ((ri_ne wh108 (.inl (by decide))).trans ((ri_ne wh102 (.inl (by decide))).trans (S.2.2 k (by omega)).1))
    refine ex_mul oq_X12_undo_42 (m := 16 * x113.toInt) (by rw [hx109]) (by omega) (fun x114 hx114 => ?_)
    refine ex_al oq_X12_undo_43 rfl ?_
    refine ex_gf oq_X12_undo_44 Th108 (k := 111) (d := 12) rfl rfl (fr_undo Th108) ?_
    refine ex_bi oq_X12_undo_47 (m := 17) (by decide) (fun x115 hx115 => ?_)
    refine ex_al oq_X12_undo_49 rfl ?_
    obtain ⟨x116, ax116, rx116, lx116, ux116⟩ := fi_undos Th108
    refine ex_gf oq_X12_undo_50 Th108 (k := 111) (d := 12) rfl rfl ax116 ?_
    have rx116 := (rx116.symm.trans eh108_111_50 : x116.toInt = x107.toInt)
    refine ex_mul oq_X12_undo_53 (m := 17 * x116.toInt) (by rw [hx115]) (by omega) (fun x117 hx117 => ?_)
    refine ex_ic oq_X12_undo_54 (m := 1) (by decide) (fun x118 hx118 => ?_)
    refine ex_add oq_X12_undo_55 (by omega) (fun x119 hx119 => ?_)
    refine ex_cs oq_X12_undo_56 (by decide) (as := [cv_r 130, cv_i x114, cv_r 135, cv_i x119]) (stk := []) rfl rfl rfl ⟨rfl, rfl⟩ (R := fun o => ∃ hb : cv_H, o = (none, hb) ∧ cw_T G hb ∧ cp_F 130 h108 hb ∧ (∀ i, i < 16 → ri_at hb 130 (16 * ν k + i) = ri_at h108 135 (17 * k + 1 + i)) ∧ (∀ i, (i < 16 * ν k ∨ 16 * ν k + 16 ≤ i) → ri_at hb 130 i = ri_at h108 130 i)) (rt_lays Th108 (R1 := 130) (d1 := 69) (R2 := 135) (d2 := 74) (a := 16 * ν k) (b := 17 * k + 1) rfl rfl rfl rfl (by decide) (by omega) (by omega) (by omega) (by omega) (by decide) (by decide) (fun j _ _ r hr => free1 hr) (fun hb b1 b2 b3 b4 => ⟨hb, rfl, b1, b2, b3, b4⟩)) (fun o ho => ?_)
    obtain ⟨h120, rfl, Th120, ch120, yh120, nh120⟩ := ho
    show cw_X _ _ _ _ _ [] h120
    refine ex_al oq_X12_undo_59 rfl ?_
    obtain ⟨x121, ax121, rx121, lx121, ux121⟩ := fi_undos Th120
    refine ex_gf oq_X12_undo_60 Th120 (k := 111) (d := 12) rfl rfl ax121 ?_
    have rx121 := (rx121.symm.trans ((ri_eq (cp_at ch120 (by decide))).trans eh108_111_50) : x121.toInt = x107.toInt)
    refine ex_reti oq_X12_undo_63 rfl (hQ x121 h120 Th120 (by omega) (zQU_tr Fh108 (zQU_c (.inl rfl) ch120)) ⟨?_, by omega, fun i hi => ?_⟩ (fun g q j r => ?_))
    · exact (ri_eq (cp_at ch120 (by decide))).trans ((ri_self wh108).trans (by omega))
    · have s := S.2.2 i (by omega)
      exact ⟨(ri_eq (cp_at ch120 (by decide))).trans ((ri_ne wh108 (.inl (by decide))).trans ((ri_ne wh102 (.inl (by decide))).trans s.1)), fun j hj => (ri_eq (cp_at ch120 (by decide))).trans ((ri_ne wh108 (.inl (by decide))).trans ((ri_ne wh102 (.inl (by decide))).trans (s.2 j hj)))⟩
    · by_cases cg : g = ν k
      · subst cg
        rw [zfU_eq, yh120 j (by omega)]
        exact (ri_ne wh108 (.inl (by decide))).trans ((ri_ne wh102 (.inl (by decide))).trans ((S.2.2 k (by omega)).2 j r))
      · rw [zfU_ne cg, nh120 _ (by omega)]
        exact (ri_ne wh108 (.inl (by decide))).trans ((ri_ne wh102 (.inl (by decide))).trans (sS g q j r))
  · exfalso; omega
theorem rk_lp (hQ : ∀ (x : Int32) h', cw_T G h' → cp_F 148 h0 h' → x.toInt = ri_at h0 111 43 → (∀ j, j < 64 → ri_at h' 148 j = ri_at h0 130 j) → Q (some (cv_i x), h')) : ∀ (f i : Nat) (I : Int32) (h : cv_H) (L : cv_L), 4 - i = f → i ≤ 4 → I.toInt = i → cw_T G h → cp_F 148 h0 h → (∀ j, j < 16 * i → ri_at h 148 j = ri_at h0 130 j) → cv_get L 0 = some (cv_r 111) → cv_get L 1 = some (cv_i I) → cw_X X 270 Q 20 L [] h := by
  intro f
  induction f with
  | zero =>
    intro i I h L hf hi hI' hT hF hI g0 g1
    refine ex_il oq_X12_keep_20 g1 ?_
    refine ex_ic oq_X12_keep_21 (m := 4) (by decide) (fun x101 hx101 => ?_)
    refine ex_if oq_X12_keep_22 (t := 50) rfl rfl (fun (c102 : x101.toInt ≤ I.toInt) => ?_) (fun (c102 : ¬ (x101.toInt ≤ I.toInt)) => ?_)
    · refine ex_al oq_X12_keep_50 g0 ?_
      obtain ⟨x103, ax103, rx103, lx103, ux103⟩ := fi_week hT
      refine ex_gf oq_X12_keep_51 hT (k := 111) (d := 12) rfl rfl ax103 ?_
      have rx103 := (rx103.symm.trans (ri_eq (cp_at hF (by decide))) : x103.toInt = ri_at h0 111 43)
      exact ex_reti oq_X12_keep_54 rfl (hQ x103 h hT hF (by omega) (fun j q => hI j (by omega)))
    · exfalso; omega
  | succ f ih =>
    intro i I h L hf hi hI' hT hF hI g0 g1
    refine ex_il oq_X12_keep_20 g1 ?_
    refine ex_ic oq_X12_keep_21 (m := 4) (by decide) (fun x101 hx101 => ?_)
    refine ex_if oq_X12_keep_22 (t := 50) rfl rfl (fun (c102 : x101.toInt ≤ I.toInt) => ?_) (fun (c102 : ¬ (x101.toInt ≤ I.toInt)) => ?_)
    · exfalso; omega
    · refine ex_al oq_X12_keep_25 g0 ?_
      refine ex_gf oq_X12_keep_26 hT (k := 111) (d := 12) rfl rfl (fr_keptState hT) ?_
      refine ex_bi oq_X12_keep_29 (m := 16) (by decide) (fun x103 hx103 => ?_)
      refine ex_il oq_X12_keep_31 g1 ?_
      refine ex_mul oq_X12_keep_32 (m := 16 * I.toInt) (by rw [hx103]) (by omega) (fun x104 hx104 => ?_)
      refine ex_al oq_X12_keep_33 g0 ?_
      refine ex_gf oq_X12_keep_34 hT (k := 111) (d := 12) rfl rfl (fr_state hT) ?_
      refine ex_bi oq_X12_keep_37 (m := 16) (by decide) (fun x105 hx105 => ?_)
      refine ex_il oq_X12_keep_39 g1 ?_
      refine ex_mul oq_X12_keep_40 (m := 16 * I.toInt) (by rw [hx105]) (by omega) (fun x106 hx106 => ?_)
      refine ex_cs oq_X12_keep_41 (by decide) (as := [cv_r 148, cv_i x104, cv_r 130, cv_i x106]) (stk := []) rfl rfl rfl ⟨rfl, rfl⟩ (R := fun o => ∃ hb : cv_H, o = (none, hb) ∧ cw_T G hb ∧ cp_F 148 h hb ∧ (∀ e, e < 16 → ri_at hb 148 (16 * i + e) = ri_at h 130 (16 * i + e)) ∧ (∀ e, (e < 16 * i ∨ 16 * i + 16 ≤ e) → ri_at hb 148 e = ri_at h 148 e)) (rt_lays hT (R1 := 148) (d1 := 87) (R2 := 130) (d2 := 69) (a := 16 * i) (b := 16 * i) rfl rfl rfl rfl (by decide) (by omega) (by omega) (by omega) (by omega) (by decide) (by decide) (fun j _ _ r hr => free1 hr) (fun hb b1 b2 b3 b4 => ⟨hb, rfl, b1, b2, b3, b4⟩)) (fun o ho => ?_)
      obtain ⟨h107, rfl, Th107, ch107, yh107, nh107⟩ := ho
      show cw_X _ _ _ _ _ [] h107
      refine ex_incA oq_X12_keep_44 (v := I) (m := 1) g1 (by decide) (by omega) (fun L109 x108 hx108 gL109_1 kL109 => ?_)
      have gL109_0 : cv_get L109 0 = some (cv_r 111) := kL109 0 _ (by decide) (fun _ => rfl) g0
      refine ex_go oq_X12_keep_47 (t := 20) rfl rfl ?_
      refine ih (i + 1) x108 h107 L109 (by omega) (by omega) (by omega) Th107 (fun k q => (ch107 k q).trans (hF k q)) (fun j q => ?_) gL109_0 gL109_1
      by_cases cj : j < 16 * i
      · exact (nh107 j (.inl cj)).trans (hI j cj)
      · have e := yh107 (j - 16 * i) (by omega)
        rw [show 16 * i + (j - 16 * i) = j from by omega] at e
        exact e.trans (ri_eq (cp_at hF (by decide)))
theorem rq_keep (hT : cw_T G h0) (hQ : ∀ (x : Int32) h', cw_T G h' → zQK h0 h' → x.toInt = ri_at h0 111 43 → ri_at h' 111 66 = 1 → ri_at h' 111 67 = ri_at h0 111 43 → (∀ j, j < 64 → ri_at h' 148 j = ri_at h0 130 j) → Q (some (cv_i x), h')) : cw_X X 270 Q 0 (cv_ent 0 [cv_r 111]) [] h0 := by
  refine ex_al oq_X12_keep_0 rfl ?_
  refine ex_ic oq_X12_keep_1 (m := 0) (by decide) (fun x201 hx201 => ?_)
  refine ex_pfi oq_X12_keep_2 hT (k := 111) (d := 12) rfl rfl rfl (cw_i32 _).1 (cw_i32 _).2 (fun h202 Th202 wh202 => ?_)
  have eh202_111_43 : ri_at h202 111 43 = ri_at h0 111 43 := (ri_ne wh202 (.inr (by decide))).trans rfl
  have eh202_111_2 : ri_at h202 111 2 = x201.toInt := ri_self wh202
  have Fh202 : zQK h0 h202 := zQK_w (.inl rfl) wh202
  refine ex_al oq_X12_keep_5 rfl ?_
  refine ex_ic oq_X12_keep_6 (m := 1) (by decide) (fun x203 hx203 => ?_)
  refine ex_pfb oq_X12_keep_7 Th202 (k := 111) (d := 12) rfl rfl rfl (by omega) (by omega) (fun h204 Th204 wh204 => ?_)
  have eh204_111_43 : ri_at h204 111 43 = ri_at h0 111 43 := (ri_ne wh204 (.inr (by decide))).trans eh202_111_43
  have eh204_111_2 : ri_at h204 111 2 = x201.toInt := (ri_ne wh204 (.inr (by decide))).trans eh202_111_2
  have eh204_111_66 : ri_at h204 111 66 = x203.toInt := ri_self wh204
  have Fh204 : zQK h0 h204 := zQK_tr Fh202 (zQK_w (.inr (.inl rfl)) wh204)
  refine ex_al oq_X12_keep_10 rfl ?_
  refine ex_al oq_X12_keep_11 rfl ?_
  obtain ⟨x205, ax205, rx205, lx205, ux205⟩ := fi_week Th204
  refine ex_gf oq_X12_keep_12 Th204 (k := 111) (d := 12) rfl rfl ax205 ?_
  have rx205 := (rx205.symm.trans eh204_111_43 : x205.toInt = ri_at h0 111 43)
  refine ex_pfi oq_X12_keep_15 Th204 (k := 111) (d := 12) rfl rfl rfl (by omega) (by omega) (fun h206 Th206 wh206 => ?_)
  have eh206_111_43 : ri_at h206 111 43 = ri_at h0 111 43 := (ri_ne wh206 (.inr (by decide))).trans eh204_111_43
  have eh206_111_2 : ri_at h206 111 2 = x201.toInt := (ri_ne wh206 (.inr (by decide))).trans eh204_111_2
  have eh206_111_66 : ri_at h206 111 66 = x203.toInt := (ri_ne wh206 (.inr (by decide))).trans eh204_111_66
  have eh206_111_67 : ri_at h206 111 67 = x205.toInt := ri_self wh206
  have Fh206 : zQK h0 h206 := zQK_tr Fh204 (zQK_w (.inr (.inr rfl)) wh206)
  refine ex_ic oq_X12_keep_18 (m := 0) (by decide) (fun x207 hx207 => ?_)
  refine ex_isA oq_X12_keep_19 (fun L208 gL208_1 kL208 => ?_)
  have gL208_0 : cv_get L208 0 = some (cv_r 111) := kL208 0 _ (by decide) (fun _ => rfl) rfl
  refine rk_lp (fun x h' b1 b2 b3 b4 => hQ x h' b1 (zQK_tr Fh206 (zQK_c b2)) (b3.trans ((ri_ne wh206 (.inr (by decide))).trans ((ri_ne wh204 (.inr (by decide))).trans (ri_ne wh202 (.inr (by decide)))))) ?_ ?_ (fun j q => (b4 j q).trans ((ri_ne wh206 (.inl (by decide))).trans ((ri_ne wh204 (.inl (by decide))).trans (ri_ne wh202 (.inl (by decide))))))) 4 0 x207 h206 L208 (by decide) (by decide) (by omega) Th206 cp_0 (fun j q => absurd q (by omega)) gL208_0 gL208_1
  · exact (ri_eq (cp_at b2 (by decide))).trans ((ri_ne wh206 (.inr (by decide))).trans ((ri_self wh204).trans (by omega)))
  · exact (ri_eq (cp_at b2 (by decide))).trans ((ri_self wh206).trans (by omega))
theorem rb_lp (hQ : ∀ (x : Int32) h', cw_T G h' → (∀ k : Nat, k ≠ 111 → k ≠ 130 → h'[k]? = h0[k]?) → (∀ i, i ≠ 50 → cw_at h' 111 i = cw_at h0 111 i) → x.toInt = ri_at h0 111 43 → ri_at h' 111 50 = 0 → (∀ j, j < 64 → ri_at h' 130 j = ri_at h0 148 j) → Q (some (cv_i x), h')) : ∀ (f i : Nat) (I : Int32) (h : cv_H) (L : cv_L), 4 - i = f → i ≤ 4 → I.toInt = i → cw_T G h → cp_F 130 h0 h → (∀ j, j < 16 * i → ri_at h 130 j = ri_at h0 148 j) → cv_get L 0 = some (cv_r 111) → cv_get L 1 = some (cv_i I) → cw_X X 271 Q 24 L [] h := by
  intro f
  induction f with
  | zero =>
    intro i I h L hf hi hI' hT hF hI g0 g1
    refine ex_il oq_X12_back_24 g1 ?_
    refine ex_ic oq_X12_back_25 (m := 4) (by decide) (fun x101 hx101 => ?_)
    refine ex_if oq_X12_back_26 (t := 54) rfl rfl (fun (c102 : x101.toInt ≤ I.toInt) => ?_) (fun (c102 : ¬ (x101.toInt ≤ I.toInt)) => ?_)
    · refine ex_al oq_X12_back_54 g0 ?_
      refine ex_ic oq_X12_back_55 (m := 0) (by decide) (fun x103 hx103 => ?_)
      refine ex_pfi oq_X12_back_56 hT (k := 111) (d := 12) rfl rfl rfl (by omega) (by omega) (fun h104 Th104 wh104 => ?_)
      have eh104_111_43 : ri_at h104 111 43 = ri_at h0 111 43 := (ri_ne wh104 (.inr (by decide))).trans (ri_eq (cp_at hF (by decide)))
      have eh104_111_50 : ri_at h104 111 50 = x103.toInt := ri_self wh104
      refine ex_al oq_X12_back_59 g0 ?_
      obtain ⟨x105, ax105, rx105, lx105, ux105⟩ := fi_week Th104
      refine ex_gf oq_X12_back_60 Th104 (k := 111) (d := 12) rfl rfl ax105 ?_
      have rx105 := (rx105.symm.trans eh104_111_43 : x105.toInt = ri_at h0 111 43)
      exact ex_reti oq_X12_back_63 rfl (hQ x105 h104 Th104 (fun k p q => (wh104.2.2 k p).trans (hF k q)) (fun i p => (wh104.2.1 111 i (.inr p)).trans (cp_at hF (by decide))) (by omega) ((ri_self wh104).trans (by omega)) (fun j q => (ri_ne wh104 (.inl (by decide))).trans (hI j (by omega))))
    · exfalso; omega
  | succ f ih =>
    intro i I h L hf hi hI' hT hF hI g0 g1
    refine ex_il oq_X12_back_24 g1 ?_
    refine ex_ic oq_X12_back_25 (m := 4) (by decide) (fun x101 hx101 => ?_)
    refine ex_if oq_X12_back_26 (t := 54) rfl rfl (fun (c102 : x101.toInt ≤ I.toInt) => ?_) (fun (c102 : ¬ (x101.toInt ≤ I.toInt)) => ?_)
    · exfalso; omega
    · refine ex_al oq_X12_back_29 g0 ?_
      refine ex_gf oq_X12_back_30 hT (k := 111) (d := 12) rfl rfl (fr_state hT) ?_
      refine ex_bi oq_X12_back_33 (m := 16) (by decide) (fun x103 hx103 => ?_)
      refine ex_il oq_X12_back_35 g1 ?_
      refine ex_mul oq_X12_back_36 (m := 16 * I.toInt) (by rw [hx103]) (by omega) (fun x104 hx104 => ?_)
      refine ex_al oq_X12_back_37 g0 ?_
      refine ex_gf oq_X12_back_38 hT (k := 111) (d := 12) rfl rfl (fr_keptState hT) ?_
      refine ex_bi oq_X12_back_41 (m := 16) (by decide) (fun x105 hx105 => ?_)
      refine ex_il oq_X12_back_43 g1 ?_
      refine ex_mul oq_X12_back_44 (m := 16 * I.toInt) (by rw [hx105]) (by omega) (fun x106 hx106 => ?_)
      refine ex_cs oq_X12_back_45 (by decide) (as := [cv_r 130, cv_i x104, cv_r 148, cv_i x106]) (stk := []) rfl rfl rfl ⟨rfl, rfl⟩ (R := fun o => ∃ hb : cv_H, o = (none, hb) ∧ cw_T G hb ∧ cp_F 130 h hb ∧ (∀ e, e < 16 → ri_at hb 130 (16 * i + e) = ri_at h 148 (16 * i + e)) ∧ (∀ e, (e < 16 * i ∨ 16 * i + 16 ≤ e) → ri_at hb 130 e = ri_at h 130 e)) (rt_lays hT (R1 := 130) (d1 := 69) (R2 := 148) (d2 := 87) (a := 16 * i) (b := 16 * i) rfl rfl rfl rfl (by decide) (by omega) (by omega) (by omega) (by omega) (by decide) (by decide) (fun j _ _ r hr => free1 hr) (fun hb b1 b2 b3 b4 => ⟨hb, rfl, b1, b2, b3, b4⟩)) (fun o ho => ?_)
      obtain ⟨h107, rfl, Th107, ch107, yh107, nh107⟩ := ho
      show cw_X _ _ _ _ _ [] h107
      refine ex_incA oq_X12_back_48 (v := I) (m := 1) g1 (by decide) (by omega) (fun L109 x108 hx108 gL109_1 kL109 => ?_)
      have gL109_0 : cv_get L109 0 = some (cv_r 111) := kL109 0 _ (by decide) (fun _ => rfl) g0
      refine ex_go oq_X12_back_51 (t := 24) rfl rfl ?_
      refine ih (i + 1) x108 h107 L109 (by omega) (by omega) (by omega) Th107 (fun k q => (ch107 k q).trans (hF k q)) (fun j q => ?_) gL109_0 gL109_1
      by_cases cj : j < 16 * i
      · exact (nh107 j (.inl cj)).trans (hI j cj)
      · have e := yh107 (j - 16 * i) (by omega)
        rw [show 16 * i + (j - 16 * i) = j from by omega] at e
        exact e.trans (ri_eq (cp_at hF (by decide)))
theorem rq_back (hT : cw_T G h0) (hQ1 : ri_at h0 111 66 = 0 → ∀ (x : Int32) h', cw_T G h' → x.toInt = -1 → (∃ z : Int32, cw_Wr h0 h' 111 2 (cv_i z)) → Q (some (cv_i x), h')) (hQ2 : ¬ ri_at h0 111 66 = 0 → ∀ (x : Int32) h', cw_T G h' → zQB h0 h' → x.toInt = ri_at h0 111 67 → ri_at h' 111 43 = ri_at h0 111 67 → ri_at h' 111 50 = 0 → (∀ j, j < 64 → ri_at h' 130 j = ri_at h0 148 j) → Q (some (cv_i x), h')) : cw_X X 271 Q 0 (cv_ent 0 [cv_r 111]) [] h0 := by
  refine ex_al oq_X12_back_0 rfl ?_
  refine ex_ic oq_X12_back_1 (m := 0) (by decide) (fun x201 hx201 => ?_)
  refine ex_pfi oq_X12_back_2 hT (k := 111) (d := 12) rfl rfl rfl (cw_i32 _).1 (cw_i32 _).2 (fun h202 Th202 wh202 => ?_)
  have eh202_111_66 : ri_at h202 111 66 = ri_at h0 111 66 := (ri_ne wh202 (.inr (by decide))).trans rfl
  have eh202_111_67 : ri_at h202 111 67 = ri_at h0 111 67 := (ri_ne wh202 (.inr (by decide))).trans rfl
  have eh202_111_2 : ri_at h202 111 2 = x201.toInt := ri_self wh202
  have Fh202 : zQB h0 h202 := zQB_w (.inl rfl) wh202
  refine ex_al oq_X12_back_5 rfl ?_
  obtain ⟨x203, ax203, rx203, lx203, ux203⟩ := fi_hasImage Th202
  refine ex_gf oq_X12_back_6 Th202 (k := 111) (d := 12) rfl rfl ax203 ?_
  have rx203 := (rx203.symm.trans eh202_111_66 : x203.toInt = ri_at h0 111 66)
  refine ex_if0 oq_X12_back_9 (t := 14) rfl rfl (fun (c204 : ¬ x203.toInt = 0) => ?_) (fun (c204 : ¬ (¬ x203.toInt = 0)) => ?_)
  · refine ex_al oq_X12_back_14 rfl ?_
    refine ex_al oq_X12_back_15 rfl ?_
    obtain ⟨x205, ax205, rx205, lx205, ux205⟩ := fi_keptWeek Th202
    refine ex_gf oq_X12_back_16 Th202 (k := 111) (d := 12) rfl rfl ax205 ?_
    have rx205 := (rx205.symm.trans eh202_111_67 : x205.toInt = ri_at h0 111 67)
    refine ex_pfi oq_X12_back_19 Th202 (k := 111) (d := 12) rfl rfl rfl (by omega) (by omega) (fun h206 Th206 wh206 => ?_)
    have eh206_111_66 : ri_at h206 111 66 = ri_at h0 111 66 := (ri_ne wh206 (.inr (by decide))).trans eh202_111_66
    have eh206_111_67 : ri_at h206 111 67 = ri_at h0 111 67 := (ri_ne wh206 (.inr (by decide))).trans eh202_111_67
    have eh206_111_2 : ri_at h206 111 2 = x201.toInt := (ri_ne wh206 (.inr (by decide))).trans eh202_111_2
    have eh206_111_43 : ri_at h206 111 43 = x205.toInt := ri_self wh206
    have Fh206 : zQB h0 h206 := zQB_tr Fh202 (zQB_w (.inr (.inl rfl)) wh206)
    refine ex_ic oq_X12_back_22 (m := 0) (by decide) (fun x207 hx207 => ?_)
    refine ex_isA oq_X12_back_23 (fun L208 gL208_1 kL208 => ?_)
    have gL208_0 : cv_get L208 0 = some (cv_r 111) := kL208 0 _ (by decide) (fun _ => rfl) rfl
    refine rb_lp (fun x h' b1 b2 b2b b3 b4 b5 => hQ2 (by omega) x h' b1 (zQB_tr Fh206 ⟨b2, fun i _ _ p => b2b i p⟩) (b3.trans ?_) ((ri_eq (b2b 43 (by decide))).trans ?_) b4 (fun j q => (b5 j q).trans ((ri_ne wh206 (.inl (by decide))).trans (ri_ne wh202 (.inl (by decide)))))) 4 0 x207 h206 L208 (by decide) (by decide) (by omega) Th206 cp_0 (fun j q => absurd q (by omega)) gL208_0 gL208_1
    · exact (ri_self wh206).trans (by omega)
    · exact (ri_self wh206).trans (by omega)
  · refine ex_ic oq_X12_back_12 (m := (-1)) (by decide) (fun x209 hx209 => ?_)
    exact ex_reti oq_X12_back_13 rfl (hQ1 (by omega) x209 h202 Th202 (by omega) ⟨_, wh202⟩)
end GN
end
section
/-! ===== works, undo, the image: the class ===== -/
theorem sh_gt {g : Nat} (h : g < 4) : cw_sh[103 + 2 * g]? = some 1 ∧ cw_sh[104 + 2 * g]? = some 1 := by
  have : ∀ i : Fin 4, cw_sh[103 + 2 * i.1]? = some 1 ∧ cw_sh[104 + 2 * i.1]? = some 1 := by decide
  exact this ⟨g, h⟩
/-- the class's gates and those of its image -/
def zKC (h : cv_H) : Prop := ∀ g, g < 4 → cw_at h 61 g = some (cv_r (103 + 2 * g)) ∧ cw_at h 62 g = some (cv_r (104 + 2 * g))
/-- gates copied one after another -/
def zCI (A B : Nat → Nat) (h0 h : cv_H) (i : Nat) : Prop := (∀ k : Nat, (∀ g, g < 4 → k ≠ A g) → h[k]? = h0[k]?) ∧ ∀ g, g < i → (∀ j, 1 ≤ j ∧ j ≤ 16 → ri_at h (A g) j = ri_at h0 (B g) j) ∧ cw_at h (A g) 0 = cw_at h0 (B g) 0
theorem zCI_s {A B : Nat → Nat} {h0 h h' : cv_H} {i : Nat} (hi : i < 4) (iA : ∀ g g', A g = A g' → g = g') (nAB : ∀ g g', B g ≠ A g') (I : zCI A B h0 h i) (c : cp_F (A i) h h') (V : zGV h' (A i) (fun j => ri_at h (B i) j)) (p : cw_at h' (A i) 0 = cw_at h (B i) 0) : zCI A B h0 h' (i + 1) := by
  refine ⟨fun k q => (c k (q i hi)).trans (I.1 k q), fun g hg => ?_⟩
  have e : ∀ j, cw_at h (B i) j = cw_at h0 (B i) j := fun j => at_h (I.1 _ (fun g' _ => nAB i g'))
  by_cases cg : g = i
  · subst cg
    exact ⟨fun j hj => (V j hj).trans (ri_eq (e j)), p.trans (e 0)⟩
  · have ne : A g ≠ A i := fun q => cg (iA _ _ q)
    have s := I.2 g (by omega)
    exact ⟨fun j hj => (ri_eq (cp_at c ne)).trans (s.1 j hj), (cp_at c ne).trans s.2⟩
/-- a plan's other pointers -/
def zKQ (h : cv_H) (b : Nat) : Prop := cw_at h b 7 = some (cv_r (b + 6)) ∧ cw_at h b 11 = some (cv_r (b + 9)) ∧ cw_at h b 12 = some (cv_r (b + 10)) ∧ cw_at h b 13 = some (cv_r (b + 11)) ∧ ∀ g, g < 4 → cw_at h (b + 6) g = some (cv_r (b + 16 + 2 * g))
/-- the works that the class holds -/
def zKS (h : cv_H) (b nw : Nat) (wc wk wn : Nat → Int) : Prop := ri_at h b 14 = nw ∧ ∀ w, w < nw → ri_at h (b + 9) w = wc w ∧ ri_at h (b + 10) w = wk w ∧ ri_at h (b + 11) w = wn w
theorem zKi_9 {b : Nat} (hb : b = 2 ∨ b = 26) : cw_sh[b + 6]? = some 33 ∧ cw_sh[b + 9]? = some 36 ∧ cw_sh[b + 10]? = some 37 ∧ cw_sh[b + 11]? = some 38 := by
  rcases hb with rfl | rfl <;> exact ⟨rfl, rfl, rfl, rfl⟩
theorem zUB_c {h h' : cv_H} {K : Nat} {Bf : Nat → Nat} (hK : 85 < K) (c : cp_F K h h') (a : zUB h Bf) : zUB h' Bf := ⟨fun i hi => ⟨(cp_at c (by omega)).trans (a.1 i hi).1, (a.1 i hi).2⟩, a.2⟩
theorem zUS_c {h h' : cv_H} {K b m : Nat} {Bf ν : Nat → Nat} {υ : Nat → Nat → Int} (hK : 85 < K) (c : cp_F K h h') (B : zUB h Bf) (a : zUS h b m Bf ν υ) : zUS h' b m Bf ν υ := by
  refine ⟨(ri_eq (cp_at c (by omega))).trans a.1, a.2.1, fun i hi => ?_⟩
  have s := a.2.2 i hi
  have bi := B.1 i (by have := a.2.1; omega)
  have e : h'[Bf i]? = h[Bf i]? := c _ (by omega)
  exact ⟨(ri_eq (cp_at c (by omega))).trans s.1, zGV_h e s.2.1, (at_h e).trans s.2.2⟩
section GN
variable {G : Int} {X : cv_X} {Q : cv_O → Prop} {h0 h : cv_H}
theorem ck_lp (kC : zKC h0) (hQ : ∀ (x : Int32) h', cw_T G h' → (∀ k : Nat, k ≠ 0 → (∀ g, g < 4 → k ≠ 104 + 2 * g) → h'[k]? = h0[k]?) → (∀ i, i ≠ 10 → cw_at h' 0 i = cw_at h0 0 i) → x.toInt = ri_at h0 0 8 → ri_at h' 0 10 = ri_at h0 0 8 → (∀ g, g < 4 → (∀ j, 1 ≤ j ∧ j ≤ 16 → ri_at h' (104 + 2 * g) j = ri_at h0 (103 + 2 * g) j) ∧ cw_at h' (104 + 2 * g) 0 = cw_at h0 (103 + 2 * g) 0) → Q (some (cv_i x), h')) : ∀ (f i : Nat) (I : Int32) (h : cv_H) (L : cv_L), 4 - i = f → i ≤ 4 → I.toInt = i → cw_T G h → zCI (fun g => 104 + 2 * g) (fun g => 103 + 2 * g) h0 h i → cv_get L 0 = some (cv_r 0) → cv_get L 1 = some (cv_i I) → cw_X X 150 Q 2 L [] h := by
  intro f
  induction f with
  | zero =>
    intro i I h L hf hi hI' hT hI g0 g1
    refine ex_il oq_X11_keep_2 g1 ?_
    refine ex_ic oq_X11_keep_3 (m := 4) (by decide) (fun x101 hx101 => ?_)
    refine ex_if oq_X11_keep_4 (t := 28) rfl rfl (fun (c102 : x101.toInt ≤ I.toInt) => ?_) (fun (c102 : ¬ (x101.toInt ≤ I.toInt)) => ?_)
    · refine ex_al oq_X11_keep_28 g0 ?_
      refine ex_al oq_X11_keep_29 g0 ?_
      obtain ⟨x103, ax103, rx103, lx103, ux103⟩ := ri_fld (k := 0) (d := 11) (f := 8) hT rfl rfl rfl
      try dsimp only at lx103 ux103
      refine ex_gf oq_X11_keep_30 hT (k := 0) (d := 11) rfl rfl ax103 ?_
      have rx103 := (rx103.symm.trans (ri_eq (at_h (hI.1 0 (fun g _ => by dsimp only; omega)))) : x103.toInt = ri_at h0 0 8)
      refine ex_pfi oq_X11_keep_33 hT (k := 0) (d := 11) rfl rfl rfl (by omega) (by omega) (fun h104 Th104 wh104 => ?_)
      have eh104_0_8 : ri_at h104 0 8 = ri_at h0 0 8 := (ri_ne wh104 (.inr (by decide))).trans (ri_eq (at_h (hI.1 0 (fun g _ => by dsimp only; omega))))
      refine ex_al oq_X11_keep_36 g0 ?_
      obtain ⟨x105, ax105, rx105, lx105, ux105⟩ := ri_fld (k := 0) (d := 11) (f := 8) Th104 rfl rfl rfl
      try dsimp only at lx105 ux105
      refine ex_gf oq_X11_keep_37 Th104 (k := 0) (d := 11) rfl rfl ax105 ?_
      have rx105 := (rx105.symm.trans eh104_0_8 : x105.toInt = ri_at h0 0 8)
      exact ex_reti oq_X11_keep_40 rfl (hQ x105 h104 Th104 (fun k p q => (wh104.2.2 k p).trans (hI.1 k q)) (fun i p => (wh104.2.1 0 i (.inr p)).trans (at_h (hI.1 0 (fun g _ => by dsimp only; omega)))) (by omega) ((ri_self wh104).trans (by omega)) (fun g q => ⟨fun j r => (ri_ne wh104 (.inl (by omega))).trans ((hI.2 g (by omega)).1 j r), (wh104.2.1 _ _ (.inl (by omega))).trans (hI.2 g (by omega)).2⟩))
    · exfalso; omega
  | succ f ih =>
    intro i I h L hf hi hI' hT hI g0 g1
    refine ex_il oq_X11_keep_2 g1 ?_
    refine ex_ic oq_X11_keep_3 (m := 4) (by decide) (fun x101 hx101 => ?_)
    refine ex_if oq_X11_keep_4 (t := 28) rfl rfl (fun (c102 : x101.toInt ≤ I.toInt) => ?_) (fun (c102 : ¬ (x101.toInt ≤ I.toInt)) => ?_)
    · exfalso; omega
    · refine ex_al oq_X11_keep_7 g0 ?_
      refine ex_gf oq_X11_keep_8 hT (k := 0) (d := 11) rfl rfl (ri_ref (k := 0) (k' := 62) (d := 11) (f := 9) hT rfl rfl rfl (by decide) (ri_uniq (by decide +kernel))) ?_
      refine ex_il oq_X11_keep_11 g1 ?_
      refine ex_aa oq_X11_keep_12 hT (k := 62) (d := 15) (j := i) rfl rfl (by omega) (by omega) (fun k104 ak104 sk104 => ?_)
      have ek104 : k104 = 104 + 2 * i := rk_inj (ak104.symm.trans ((at_h (hI.1 62 (fun g _ => by dsimp only; omega))).trans (kC i (by omega)).2))
      subst ek104
      refine ex_al oq_X11_keep_13 g0 ?_
      refine ex_gf oq_X11_keep_14 hT (k := 0) (d := 11) rfl rfl (ri_ref (k := 0) (k' := 61) (d := 11) (f := 7) hT rfl rfl rfl (by decide) (ri_uniq (by decide +kernel))) ?_
      refine ex_il oq_X11_keep_17 g1 ?_
      refine ex_aa oq_X11_keep_18 hT (k := 61) (d := 14) (j := i) rfl rfl (by omega) (by omega) (fun k106 ak106 sk106 => ?_)
      have ek106 : k106 = 103 + 2 * i := rk_inj (ak106.symm.trans ((at_h (hI.1 61 (fun g _ => by dsimp only; omega))).trans (kC i (by omega)).1))
      subst ek106
      obtain ⟨U, aU, sU⟩ := ri_refs (k := 103 + 2 * i) (d := 1) (f := 0) hT sk106 rfl rfl (by decide)
      refine ex_cv oq_X11_keep_19 (by decide) hT (k := 104 + 2 * i) (d := 1) (as := [cv_r (103 + 2 * i)]) (stk := []) sk104 rfl rfl rfl rfl rfl ⟨rfl, rfl⟩ (R := fun o => ∃ hb : cv_H, o = (none, hb) ∧ cw_T G hb ∧ cp_F (104 + 2 * i) h hb ∧ zGV hb (104 + 2 * i) (fun j => ri_at h (103 + 2 * i) j) ∧ cw_at hb (104 + 2 * i) 0 = some (cv_r U)) (cg_copy hT sk104 sk106 (by omega) sU aU (fun _ _ => rfl) (fun hb b1 b2 b3 b4 => ⟨hb, rfl, b1, b2, b3, b4⟩)) (fun o ho => ?_)
      obtain ⟨h107, rfl, Th107, ch107, Vh107, ph107⟩ := ho
      show cw_X _ _ _ _ _ [] h107
      refine ex_incA oq_X11_keep_22 (v := I) (m := 1) g1 (by decide) (by omega) (fun L109 x108 hx108 gL109_1 kL109 => ?_)
      have gL109_0 : cv_get L109 0 = some (cv_r 0) := kL109 0 _ (by decide) (fun _ => rfl) g0
      refine ex_go oq_X11_keep_25 (t := 2) rfl rfl ?_
      exact ih (i + 1) x108 h107 L109 (by omega) (by omega) (by omega) Th107 (zCI_s (by omega) (fun _ _ _ => by omega) (fun _ _ => by omega) hI ch107 Vh107 (ph107.trans aU.symm)) gL109_0 gL109_1
theorem cq_keep (hT : cw_T G h0) (kC : zKC h0) (hQ : ∀ (x : Int32) h', cw_T G h' → (∀ k : Nat, k ≠ 0 → (∀ g, g < 4 → k ≠ 104 + 2 * g) → h'[k]? = h0[k]?) → (∀ i, i ≠ 10 → cw_at h' 0 i = cw_at h0 0 i) → x.toInt = ri_at h0 0 8 → ri_at h' 0 10 = ri_at h0 0 8 → (∀ g, g < 4 → (∀ j, 1 ≤ j ∧ j ≤ 16 → ri_at h' (104 + 2 * g) j = ri_at h0 (103 + 2 * g) j) ∧ cw_at h' (104 + 2 * g) 0 = cw_at h0 (103 + 2 * g) 0) → Q (some (cv_i x), h')) : cw_X X 150 Q 0 (cv_ent 0 [cv_r 0]) [] h0 := by
  refine ex_ic oq_X11_keep_0 (m := 0) (by decide) (fun x201 hx201 => ?_)
  refine ex_isA oq_X11_keep_1 (fun L202 gL202_1 kL202 => ?_)
  have gL202_0 : cv_get L202 0 = some (cv_r 0) := kL202 0 _ (by decide) (fun _ => rfl) rfl
  exact ck_lp kC hQ 4 0 x201 h0 L202 (by decide) (by decide) (by omega) hT ⟨fun _ _ => rfl, fun g q => absurd q (by omega)⟩ gL202_0 gL202_1
theorem cu_clr (hT : cw_T G h) (hQ : ∀ h' (z : Int32), cw_T G h' → z.toInt = 0 → cw_Wr h h' 63 2 (cv_i z) → Q (none, h')) : cw_X X 101 Q 0 (cv_ent 0 [cv_r 63]) [] h := by
  refine ex_al oq_X10_clear_0 rfl ?_
  refine ex_ic oq_X10_clear_1 (m := 0) (by decide) (fun x101 hx101 => ?_)
  refine ex_pfi oq_X10_clear_2 hT (k := 63) (d := 10) rfl rfl rfl (cw_i32 _).1 (cw_i32 _).2 (fun h102 Th102 wh102 => ?_)
  exact ex_retv oq_X10_clear_5 rfl (hQ h102 _ Th102 hx101 wh102)
theorem cb_lp (kC : zKC h0) (h10 : 0 ≤ ri_at h0 0 10) (hQ2 : ∀ (x : Int32) h', cw_T G h' → (∀ k : Nat, k ≠ 0 → k ≠ 63 → (∀ g, g < 4 → k ≠ 103 + 2 * g) → h'[k]? = h0[k]?) → (∀ i, i ≠ 8 → cw_at h' 0 i = cw_at h0 0 i) → x.toInt = ri_at h0 0 10 → ri_at h' 0 8 = ri_at h0 0 10 → ri_at h' 63 2 = 0 → (∀ g, g < 4 → (∀ j, 1 ≤ j ∧ j ≤ 16 → ri_at h' (103 + 2 * g) j = ri_at h0 (104 + 2 * g) j) ∧ cw_at h' (103 + 2 * g) 0 = cw_at h0 (104 + 2 * g) 0) → Q (some (cv_i x), h')) : ∀ (f i : Nat) (I : Int32) (h : cv_H) (L : cv_L), 4 - i = f → i ≤ 4 → I.toInt = i → cw_T G h → zCI (fun g => 103 + 2 * g) (fun g => 104 + 2 * g) h0 h i → cv_get L 0 = some (cv_r 0) → cv_get L 1 = some (cv_i I) → cw_X X 151 Q 12 L [] h := by
  intro f
  induction f with
  | zero =>
    intro i I h L hf hi hI' hT hI g0 g1
    refine ex_il oq_X11_back_12 g1 ?_
    refine ex_ic oq_X11_back_13 (m := 4) (by decide) (fun x101 hx101 => ?_)
    refine ex_if oq_X11_back_14 (t := 38) rfl rfl (fun (c102 : x101.toInt ≤ I.toInt) => ?_) (fun (c102 : ¬ (x101.toInt ≤ I.toInt)) => ?_)
    · refine ex_al oq_X11_back_38 g0 ?_
      refine ex_al oq_X11_back_39 g0 ?_
      obtain ⟨x103, ax103, rx103, lx103, ux103⟩ := ri_fld (k := 0) (d := 11) (f := 10) hT rfl rfl rfl
      try dsimp only at lx103 ux103
      refine ex_gf oq_X11_back_40 hT (k := 0) (d := 11) rfl rfl ax103 ?_
      have rx103 := (rx103.symm.trans (ri_eq (at_h (hI.1 0 (fun g _ => by dsimp only; omega)))) : x103.toInt = ri_at h0 0 10)
      refine ex_pfi oq_X11_back_43 hT (k := 0) (d := 11) rfl rfl rfl (by omega) (by omega) (fun h104 Th104 wh104 => ?_)
      have eh104_0_10 : ri_at h104 0 10 = ri_at h0 0 10 := (ri_ne wh104 (.inr (by decide))).trans (ri_eq (at_h (hI.1 0 (fun g _ => by dsimp only; omega))))
      refine ex_al oq_X11_back_46 g0 ?_
      refine ex_gf oq_X11_back_47 Th104 (k := 0) (d := 11) rfl rfl (ri_ref (k := 0) (k' := 63) (d := 11) (f := 11) Th104 rfl rfl rfl (by decide) (ri_uniq (by decide +kernel))) ?_
      refine ex_cv oq_X11_back_50 (by decide) Th104 (k := 63) (d := 10) (as := []) (stk := []) rfl rfl rfl rfl rfl rfl ⟨rfl, rfl⟩ (R := fun o => ∃ hb : cv_H, o = (none, hb) ∧ cw_T G hb ∧ ∃ z : Int32, z.toInt = 0 ∧ cw_Wr h104 hb 63 2 (cv_i z)) (cu_clr Th104 (fun hb z b1 b2 b3 => ⟨hb, rfl, b1, z, b2, b3⟩)) (fun o ho => ?_)
      obtain ⟨h105, rfl, Th105, zh105, yh105, uh105⟩ := ho
      show cw_X _ _ _ _ _ [] h105
      refine ex_al oq_X11_back_53 g0 ?_
      obtain ⟨x106, ax106, rx106, lx106, ux106⟩ := ri_fld (k := 0) (d := 11) (f := 8) Th105 rfl rfl rfl
      try dsimp only at lx106 ux106
      refine ex_gf oq_X11_back_54 Th105 (k := 0) (d := 11) rfl rfl ax106 ?_
      exact ex_reti oq_X11_back_57 rfl (hQ2 x106 h105 Th105 (fun k p q r => (uh105.2.2 k q).trans ((wh104.2.2 k p).trans (hI.1 k r))) (fun i p => (uh105.2.1 0 i (.inl (by decide))).trans ((wh104.2.1 0 i (.inr p)).trans (at_h (hI.1 0 (fun g _ => by dsimp only; omega))))) (rx106.symm.trans ((ri_ne uh105 (.inl (by decide))).trans ((ri_self wh104).trans rx103))) ((ri_ne uh105 (.inl (by decide))).trans ((ri_self wh104).trans rx103)) ((ri_self uh105).trans yh105) (fun g q => ⟨fun j r => (ri_ne uh105 (.inl (by omega))).trans ((ri_ne wh104 (.inl (by omega))).trans ((hI.2 g (by omega)).1 j r)), (uh105.2.1 _ _ (.inl (by omega))).trans ((wh104.2.1 _ _ (.inl (by omega))).trans (hI.2 g (by omega)).2)⟩))
    · exfalso; omega
  | succ f ih =>
    intro i I h L hf hi hI' hT hI g0 g1
    refine ex_il oq_X11_back_12 g1 ?_
    refine ex_ic oq_X11_back_13 (m := 4) (by decide) (fun x101 hx101 => ?_)
    refine ex_if oq_X11_back_14 (t := 38) rfl rfl (fun (c102 : x101.toInt ≤ I.toInt) => ?_) (fun (c102 : ¬ (x101.toInt ≤ I.toInt)) => ?_)
    · exfalso; omega
    · refine ex_al oq_X11_back_17 g0 ?_
      refine ex_gf oq_X11_back_18 hT (k := 0) (d := 11) rfl rfl (ri_ref (k := 0) (k' := 61) (d := 11) (f := 7) hT rfl rfl rfl (by decide) (ri_uniq (by decide +kernel))) ?_
      refine ex_il oq_X11_back_21 g1 ?_
      refine ex_aa oq_X11_back_22 hT (k := 61) (d := 14) (j := i) rfl rfl (by omega) (by omega) (fun k104 ak104 sk104 => ?_)
      have ek104 : k104 = 103 + 2 * i := rk_inj (ak104.symm.trans ((at_h (hI.1 61 (fun g _ => by dsimp only; omega))).trans (kC i (by omega)).1))
      subst ek104
      refine ex_al oq_X11_back_23 g0 ?_
      refine ex_gf oq_X11_back_24 hT (k := 0) (d := 11) rfl rfl (ri_ref (k := 0) (k' := 62) (d := 11) (f := 9) hT rfl rfl rfl (by decide) (ri_uniq (by decide +kernel))) ?_
      refine ex_il oq_X11_back_27 g1 ?_
      refine ex_aa oq_X11_back_28 hT (k := 62) (d := 15) (j := i) rfl rfl (by omega) (by omega) (fun k106 ak106 sk106 => ?_)
      have ek106 : k106 = 104 + 2 * i := rk_inj (ak106.symm.trans ((at_h (hI.1 62 (fun g _ => by dsimp only; omega))).trans (kC i (by omega)).2))
      subst ek106
      obtain ⟨U, aU, sU⟩ := ri_refs (k := 104 + 2 * i) (d := 1) (f := 0) hT sk106 rfl rfl (by decide)
      refine ex_cv oq_X11_back_29 (by decide) hT (k := 103 + 2 * i) (d := 1) (as := [cv_r (104 + 2 * i)]) (stk := []) sk104 rfl rfl rfl rfl rfl ⟨rfl, rfl⟩ (R := fun o => ∃ hb : cv_H, o = (none, hb) ∧ cw_T G hb ∧ cp_F (103 + 2 * i) h hb ∧ zGV hb (103 + 2 * i) (fun j => ri_at h (104 + 2 * i) j) ∧ cw_at hb (103 + 2 * i) 0 = some (cv_r U)) (cg_copy hT sk104 sk106 (by omega) sU aU (fun _ _ => rfl) (fun hb b1 b2 b3 b4 => ⟨hb, rfl, b1, b2, b3, b4⟩)) (fun o ho => ?_)
      obtain ⟨h107, rfl, Th107, ch107, Vh107, ph107⟩ := ho
      show cw_X _ _ _ _ _ [] h107
      refine ex_incA oq_X11_back_32 (v := I) (m := 1) g1 (by decide) (by omega) (fun L109 x108 hx108 gL109_1 kL109 => ?_)
      have gL109_0 : cv_get L109 0 = some (cv_r 0) := kL109 0 _ (by decide) (fun _ => rfl) g0
      refine ex_go oq_X11_back_35 (t := 12) rfl rfl ?_
      exact ih (i + 1) x108 h107 L109 (by omega) (by omega) (by omega) Th107 (zCI_s (by omega) (fun _ _ _ => by omega) (fun _ _ => by omega) hI ch107 Vh107 (ph107.trans aU.symm)) gL109_0 gL109_1
theorem cq_back (hT : cw_T G h0) (kC : zKC h0) (hQ1 : ∀ x : Int32, x.toInt = -1 → ri_at h0 0 10 = -1 → Q (some (cv_i x), h0)) (hQ2 : ¬ ri_at h0 0 10 = -1 → ∀ (x : Int32) h', cw_T G h' → (∀ k : Nat, k ≠ 0 → k ≠ 63 → (∀ g, g < 4 → k ≠ 103 + 2 * g) → h'[k]? = h0[k]?) → (∀ i, i ≠ 8 → cw_at h' 0 i = cw_at h0 0 i) → x.toInt = ri_at h0 0 10 → ri_at h' 0 8 = ri_at h0 0 10 → ri_at h' 63 2 = 0 → (∀ g, g < 4 → (∀ j, 1 ≤ j ∧ j ≤ 16 → ri_at h' (103 + 2 * g) j = ri_at h0 (104 + 2 * g) j) ∧ cw_at h' (103 + 2 * g) 0 = cw_at h0 (104 + 2 * g) 0) → Q (some (cv_i x), h')) : cw_X X 151 Q 0 (cv_ent 0 [cv_r 0]) [] h0 := by
  refine ex_al oq_X11_back_0 rfl ?_
  obtain ⟨x201, ax201, rx201, lx201, ux201⟩ := ri_fld (k := 0) (d := 11) (f := 10) hT rfl rfl rfl
  try dsimp only at lx201 ux201
  refine ex_gf oq_X11_back_1 hT (k := 0) (d := 11) rfl rfl ax201 ?_
  have rx201 := (rx201.symm.trans rfl : x201.toInt = ri_at h0 0 10)
  refine ex_ic oq_X11_back_4 (m := (-1)) (by decide) (fun x202 hx202 => ?_)
  refine ex_if oq_X11_back_5 (t := 10) rfl rfl (fun (c203 : ¬ x201.toInt = x202.toInt) => ?_) (fun (c203 : ¬ (¬ x201.toInt = x202.toInt)) => ?_)
  · refine ex_ic oq_X11_back_10 (m := 0) (by decide) (fun x204 hx204 => ?_)
    refine ex_isA oq_X11_back_11 (fun L205 gL205_1 kL205 => ?_)
    have gL205_0 : cv_get L205 0 = some (cv_r 0) := kL205 0 _ (by decide) (fun _ => rfl) rfl
    exact cb_lp kC (by omega) (hQ2 (by omega)) 4 0 x204 h0 L205 (by decide) (by decide) (by omega) hT ⟨fun _ _ => rfl, fun g q => absurd q (by omega)⟩ gL205_0 gL205_1
  · refine ex_ic oq_X11_back_8 (m := (-1)) (by decide) (fun x206 hx206 => ?_)
    exact ex_reti oq_X11_back_9 rfl (hQ1 x206 (by omega) (by omega))
section WU
variable {b ng nw m : Nat} {γs υ : Nat → Nat → Int} {wc wk wn : Nat → Int} {Bf ν : Nat → Nat}
theorem oq_X11_work_0 : cw_ho 125 0 (.aload_n 0) 1 0 0 0 := rfl
theorem oq_X11_work_1 : cw_ho 125 1 (.iload_n 1) 1 0 0 0 := rfl
theorem oq_X11_work_2 : cw_ho 125 2 (.invokevirtual 155) 3 114 1 11 := rfl
theorem oq_X11_work_5 : cw_ho 125 5 (.ifCond .eq 14) 3 0 0 0 := rfl
theorem oq_X11_work_8 : cw_ho 125 8 (.aload_n 0) 1 0 0 0 := rfl
theorem oq_X11_work_9 : cw_ho 125 9 (.getfield 18) 3 11 2 4 := rfl
theorem oq_X11_work_12 : cw_ho 125 12 (.iload_n 2) 1 0 0 0 := rfl
theorem oq_X11_work_13 : cw_ho 125 13 (.invokevirtual 208) 3 50 1 4 := rfl
theorem oq_X11_work_16 : cw_ho 125 16 (.ifCond .ne 5) 3 0 0 0 := rfl
theorem oq_X11_work_19 : cw_ho 125 19 (.iconst 0) 1 0 0 0 := rfl
theorem oq_X11_work_20 : cw_ho 125 20 (.ireturn) 1 0 0 0 := rfl
theorem oq_X11_work_21 : cw_ho 125 21 (.aload_n 0) 1 0 0 0 := rfl
theorem oq_X11_work_22 : cw_ho 125 22 (.getfield 50) 3 11 7 4 := rfl
theorem oq_X11_work_25 : cw_ho 125 25 (.iload_n 1) 1 0 0 0 := rfl
theorem oq_X11_work_26 : cw_ho 125 26 (.aaload) 1 0 0 0 := rfl
theorem oq_X11_work_27 : cw_ho 125 27 (.astore_n 3) 1 0 0 0 := rfl
theorem oq_X11_work_28 : cw_ho 125 28 (.aload_n 3) 1 0 0 0 := rfl
theorem oq_X11_work_29 : cw_ho 125 29 (.getfield 202) 3 1 10 0 := rfl
theorem oq_X11_work_32 : cw_ho 125 32 (.iconst 1) 1 0 0 0 := rfl
theorem oq_X11_work_33 : cw_ho 125 33 (.iload_n 2) 1 0 0 0 := rfl
theorem oq_X11_work_34 : cw_ho 125 34 (.ishl) 1 0 0 0 := rfl
theorem oq_X11_work_35 : cw_ho 125 35 (.iand) 1 0 0 0 := rfl
theorem oq_X11_work_36 : cw_ho 125 36 (.ifCond .eq 5) 3 0 0 0 := rfl
theorem oq_X11_work_39 : cw_ho 125 39 (.iconst 0) 1 0 0 0 := rfl
theorem oq_X11_work_40 : cw_ho 125 40 (.ireturn) 1 0 0 0 := rfl
theorem oq_X11_work_41 : cw_ho 125 41 (.aload_n 0) 1 0 0 0 := rfl
theorem oq_X11_work_42 : cw_ho 125 42 (.getfield 66) 3 11 11 4 := rfl
theorem oq_X11_work_45 : cw_ho 125 45 (.iload_n 1) 1 0 0 0 := rfl
theorem oq_X11_work_46 : cw_ho 125 46 (.aload_n 3) 1 0 0 0 := rfl
theorem oq_X11_work_47 : cw_ho 125 47 (.invokevirtual 266) 3 102 2 10 := rfl
theorem oq_X11_work_50 : cw_ho 125 50 (.aload_n 3) 1 0 0 0 := rfl
theorem oq_X11_work_51 : cw_ho 125 51 (.aload_n 0) 1 0 0 0 := rfl
theorem oq_X11_work_52 : cw_ho 125 52 (.getfield 18) 3 11 2 4 := rfl
theorem oq_X11_work_55 : cw_ho 125 55 (.iload_n 2) 1 0 0 0 := rfl
theorem oq_X11_work_56 : cw_ho 125 56 (.invokevirtual 270) 3 23 2 1 := rfl
theorem oq_X11_work_59 : cw_ho 125 59 (.iconst 1) 1 0 0 0 := rfl
theorem oq_X11_work_60 : cw_ho 125 60 (.ireturn) 1 0 0 0 := rfl
set_option maxHeartbeats 4000000 in
theorem cq_work (hT : cw_T G h) (hb : b = 2 ∨ b = 26) (hng : ng ≤ 4) (hg9 : ri_at h b 9 = ng) (kC : zKC h) (kQ : zKQ h b) (hS : zKS h b nw wc wk wn) (hnw : nw ≤ 6) (rS : ∀ w, w < nw → (0 ≤ wk w ∧ wk w ≤ 6) ∧ 0 ≤ wn w ∧ wn w ≤ 9999) (hp2 : cw_at h 0 2 = some (cv_r b)) (sG : zKG h b ng (fun g => 103 + 2 * g) γs) (hr10 : ∀ g, g < ng → 0 ≤ γs g 10 ∧ γs g 10 < 64) (hr : ∀ g, g < ng → (-200000000 ≤ γs g 4 ∧ γs g 4 ≤ 200000000) ∧ (0 ≤ γs g 5 ∧ γs g 5 ≤ 100000) ∧ (0 ≤ γs g 8 ∧ γs g 8 ≤ 100000)) (B : zUB h Bf) (S : zUS h b m Bf ν υ) {g w : Int32} (hQ1 : ∀ x : Int32, x.toInt = 0 → ¬ ((0 ≤ g.toInt ∧ g.toInt < (ng : Int)) ∧ (0 ≤ w.toInt ∧ w.toInt < (nw : Int)) ∧ ¬ (γs g.toInt.toNat 10).toNat.testBit w.toInt.toNat = true) → Q (some (cv_i x), h)) (hQ2 : ∀ gn wi : Nat, g.toInt = gn → gn < ng → w.toInt = wi → wi < nw → ¬ (γs gn 10).toNat.testBit wi = true → ∀ (x : Int32) h' Bf', cw_T G h' → x.toInt = 1 → (∀ k : Nat, (k < 63 ∨ 85 < k) → k ≠ 103 + 2 * gn → h'[k]? = h[k]?) → zUB h' Bf' → zUS h' b (min (m + 1) 20) Bf' (uP m ν gn) (uP m υ (γs gn)) → zKG h' b ng (fun g => 103 + 2 * g) (zfU γs gn (gTake (γs gn) (wk wi) (wn wi) wi)) → Q (some (cv_i x), h')) : cw_X X 125 Q 0 (cv_ent 0 [cv_r 0, cv_i g, cv_i w]) [] h := by
  have hk0 := (zKi hb).1
  refine ex_al oq_X11_work_0 rfl ?_
  refine ex_il oq_X11_work_1 rfl ?_
  refine ex_cv oq_X11_work_2 (by decide) hT (k := 0) (d := 11) (as := [cv_i g]) (stk := []) rfl rfl rfl rfl rfl rfl ⟨rfl, rfl⟩ (R := fun o => ∃ x : Int32, o = (some (cv_i x), h) ∧ (x.toInt = 1 ∧ (0 ≤ g.toInt ∧ g.toInt < (ng : Int)) ∨ x.toInt = 0 ∧ ¬ (0 ≤ g.toInt ∧ g.toInt < (ng : Int)))) (ct_isGate hT hk0 hp2 (hg9) g (fun x q => ⟨x, rfl, q⟩)) (fun o ho => ?_)
  obtain ⟨x101, rfl, dx101⟩ := ho
  show cw_X _ _ _ _ _ [cv_i x101] h
  refine ex_if0 oq_X11_work_5 (t := 19) rfl rfl (fun (c102 : x101.toInt = 0) => ?_) (fun (c102 : ¬ (x101.toInt = 0)) => ?_)
  · refine ex_ic oq_X11_work_19 (m := 0) (by decide) (fun x103 hx103 => ?_)
    exact ex_retb oq_X11_work_20 rfl (by omega) (by omega) (hQ1 x103 (by omega) (fun q => by have q1 := q.1; have q2 := q.2.1; omega))
  · refine ex_al oq_X11_work_8 rfl ?_
    refine ex_gf oq_X11_work_9 hT (k := 0) (d := 11) rfl rfl (hp2) ?_
    refine ex_il oq_X11_work_12 rfl ?_
    refine ex_cv oq_X11_work_13 (by decide) hT (k := b) (d := 4) (as := [cv_i w]) (stk := []) hk0 rfl rfl rfl rfl rfl ⟨rfl, rfl⟩ (R := fun o => ∃ x : Int32, o = (some (cv_i x), h) ∧ (x.toInt = 1 ∧ (0 ≤ w.toInt ∧ w.toInt < (nw : Int)) ∨ x.toInt = 0 ∧ ¬ (0 ≤ w.toInt ∧ w.toInt < (nw : Int)))) (cg_isWork hT hk0 hS.1 hnw w (fun x q => ⟨x, rfl, q⟩)) (fun o ho => ?_)
    obtain ⟨x104, rfl, dx104⟩ := ho
    show cw_X _ _ _ _ _ [cv_i x104] h
    refine ex_if0 oq_X11_work_16 (t := 21) rfl rfl (fun (c105 : ¬ x104.toInt = 0) => ?_) (fun (c105 : ¬ (¬ x104.toInt = 0)) => ?_)
    · refine ex_al oq_X11_work_21 rfl ?_
      refine ex_gf oq_X11_work_22 hT (k := 0) (d := 11) rfl rfl (ri_ref (k := 0) (k' := 61) (d := 11) (f := 7) hT rfl rfl rfl (by decide) (ri_uniq (by decide +kernel))) ?_
      refine ex_il oq_X11_work_25 rfl ?_
      obtain ⟨gn, hg⟩ : ∃ gn : Nat, g.toInt = gn := ⟨g.toInt.toNat, by omega⟩
      have hgn : gn < ng := by omega
      obtain ⟨wi, hwi⟩ : ∃ wi : Nat, w.toInt = wi := ⟨w.toInt.toNat, by omega⟩
      have hwl : wi < nw := by omega
      have r10 := hr10 gn hgn
      have hK1 := (sh_gt (g := gn) (by omega)).1
      have hU := zKi_7 (g := gn) hb (by omega)
      have gv := (sG gn hgn).1
      have hp := (sG gn hgn).2
      refine ex_aa oq_X11_work_26 hT (k := 61) (d := 14) (j := gn) rfl rfl (by omega) (by omega) (fun k107 ak107 sk107 => ?_)
      have ek107 : k107 = 103 + 2 * gn := rk_inj (ak107.symm.trans (kC gn (by omega)).1)
      subst ek107
      refine ex_asA oq_X11_work_27 (fun L108 gL108_3 kL108 => ?_)
      have gL108_0 : cv_get L108 0 = some (cv_r 0) := kL108 0 _ (by decide) (fun q => absurd q (by decide)) rfl
      have gL108_1 : cv_get L108 1 = some (cv_i g) := kL108 1 _ (by decide) (fun q => absurd q (by decide)) rfl
      have gL108_2 : cv_get L108 2 = some (cv_i w) := kL108 2 _ (by decide) (fun _ => rfl) rfl
      refine ex_al oq_X11_work_28 gL108_3 ?_
      obtain ⟨x109, ax109, rx109, lx109, ux109⟩ := ri_fld (k := (103 + 2 * gn)) (d := 1) (f := 10) hT hK1 rfl rfl
      try dsimp only at lx109 ux109
      refine ex_gf oq_X11_work_29 hT (k := (103 + 2 * gn)) (d := 1) hK1 rfl ax109 ?_
      clear lx109 ux109
      have rx109 := (rx109.symm.trans (gv 10 (by decide)) : x109.toInt = γs gn 10)
      refine ex_ic oq_X11_work_32 (m := 1) (by decide) (fun x110 hx110 => ?_)
      refine ex_il oq_X11_work_33 gL108_2 ?_
      refine ex_shlE oq_X11_work_34 (fun x111 hx111 => ?_)
      refine ex_andE oq_X11_work_35 (fun x112 hx112 => ?_)
      refine ex_if0 oq_X11_work_36 (t := 41) rfl rfl (fun (c113 : x112.toInt = 0) => ?_) (fun (c113 : ¬ (x112.toInt = 0)) => ?_)
      · have bz := bt_z (show x112.toInt = _ from by rw [hx112, hx111]; exact bt_an (m := (γs gn 10).toNat) (by omega) (by omega) hwi (by omega) hx110)
        refine ex_al oq_X11_work_41 gL108_0 ?_
        refine ex_gf oq_X11_work_42 hT (k := 0) (d := 11) rfl rfl (ri_ref (k := 0) (k' := 63) (d := 11) (f := 11) hT rfl rfl rfl (by decide) (ri_uniq (by decide +kernel))) ?_
        refine ex_il oq_X11_work_45 gL108_1 ?_
        refine ex_al oq_X11_work_46 gL108_3 ?_
        refine ex_cv oq_X11_work_47 (by decide) hT (k := 63) (d := 10) (as := [cv_i g, cv_r (103 + 2 * gn)]) (stk := []) rfl rfl rfl rfl rfl rfl ⟨rfl, rfl⟩ (R := fun o => ∃ (hb : cv_H) (Bf2 : Nat → Nat), o = (none, hb) ∧ cw_T G hb ∧ zUF h hb ∧ zUB hb Bf2 ∧ zUS hb b (min (m + 1) 20) Bf2 (uP m ν gn) (uP m υ (γs gn))) (cu_push hT B S hg hK1 (by omega) gv hp hU (fun hb Bf2 b1 b2 b3 b4 => ⟨hb, Bf2, rfl, b1, b2, b3, b4⟩)) (fun o ho => ?_)
        obtain ⟨h114, Bf2, rfl, Th114, qh114, B2, S2⟩ := ho
        show cw_X _ _ _ _ _ [] h114
        refine ex_al oq_X11_work_50 gL108_3 ?_
        refine ex_al oq_X11_work_51 gL108_0 ?_
        refine ex_gf oq_X11_work_52 Th114 (k := 0) (d := 11) rfl rfl (((at_h (qh114 0 (by omega))).trans hp2)) ?_
        refine ex_il oq_X11_work_55 gL108_2 ?_
        have eP : ∀ k i, (k < 63 ∨ 85 < k) → cw_at h114 k i = cw_at h k i := fun k i p => at_h (qh114 k p)
        have hb29 : b + 11 < 63 := by omega
        have kW := hS.2 wi hwl
        refine ex_cv oq_X11_work_56 (by decide) Th114 (k := 103 + 2 * gn) (d := 1) (as := [cv_r b, cv_i w]) (stk := []) hK1 rfl rfl rfl rfl rfl ⟨rfl, rfl⟩ (R := fun o => ∃ hb : cv_H, o = (none, hb) ∧ cw_T G hb ∧ cp_F (103 + 2 * gn) h114 hb ∧ zGV hb (103 + 2 * gn) (gTake (γs gn) (wk wi) (wn wi) wi) ∧ cw_at hb (103 + 2 * gn) 0 = some (cv_r (b + 16 + 2 * gn))) (cg_take Th114 hK1 hU ((eP _ _ (by omega)).trans hp) (zGV_h (qh114 _ (by omega)) gv) (hr gn hgn).1 (hr gn hgn).2.1 (hr gn hgn).2.2 r10 hk0 (zKi_9 hb).2.2.1 (zKi_9 hb).2.2.2 ((eP _ _ (by omega)).trans kQ.2.2.1) ((eP _ _ (by omega)).trans kQ.2.2.2.1) ((ri_eq (eP _ _ (by omega))).trans hS.1) hnw hwi hwl ((ri_eq (eP _ _ (by omega))).trans kW.2.1) ((ri_eq (eP _ _ (by omega))).trans kW.2.2) (rS wi hwl).1 (rS wi hwl).2 (fun hb b1 b2 b3 b4 => ⟨hb, rfl, b1, b2, b3, b4⟩)) (fun o ho => ?_)
        obtain ⟨h115, rfl, Th115, ch115, Vh115, ph115⟩ := ho
        show cw_X _ _ _ _ _ [] h115
        refine ex_ic oq_X11_work_59 (m := 1) (by decide) (fun x116 hx116 => ?_)
        refine ex_retb oq_X11_work_60 rfl (by omega) (by omega) (hQ2 gn wi hg hgn hwi hwl (bz.1 (by omega)) x116 h115 Bf2 Th115 (by omega) (fun k q r => (ch115 k r).trans (qh114 k q)) (zUB_c (by omega) ch115 B2) (zUS_c (by omega) ch115 B2 S2) (fun g2 q2 => ?_))
        dsimp only
        by_cases cg : g2 = gn
        · subst cg
          rw [zfU_eq]
          exact ⟨Vh115, ph115⟩
        · rw [zfU_ne cg]
          have e : h115[103 + 2 * g2]? = h[103 + 2 * g2]? := (ch115 _ (by omega)).trans (qh114 _ (by omega))
          exact ⟨zGV_h e (sG g2 q2).1, (at_h e).trans (sG g2 q2).2⟩
      · have bz := bt_z (show x112.toInt = _ from by rw [hx112, hx111]; exact bt_an (m := (γs gn 10).toNat) (by omega) (by omega) hwi (by omega) hx110)
        refine ex_ic oq_X11_work_39 (m := 0) (by decide) (fun x117 hx117 => ?_)
        exact ex_retb oq_X11_work_40 rfl (by omega) (by omega) (hQ1 x117 (by omega) (fun q => q.2.2 (by rw [show g.toInt.toNat = gn from by omega, show w.toInt.toNat = wi from by omega]; exact bz.2 (by omega))))
    · refine ex_ic oq_X11_work_19 (m := 0) (by decide) (fun x118 hx118 => ?_)
      exact ex_retb oq_X11_work_20 rfl (by omega) (by omega) (hQ1 x118 (by omega) (fun q => by have q1 := q.1; have q2 := q.2.1; omega))
theorem oq_X11_undo_0 : cw_ho 126 0 (.aload_n 0) 1 0 0 0 := rfl
theorem oq_X11_undo_1 : cw_ho 126 1 (.getfield 66) 3 11 11 4 := rfl
theorem oq_X11_undo_4 : cw_ho 126 4 (.getfield 273) 3 10 2 0 := rfl
theorem oq_X11_undo_7 : cw_ho 126 7 (.ifCond .gt 5) 3 0 0 0 := rfl
theorem oq_X11_undo_10 : cw_ho 126 10 (.iconst (-1)) 1 0 0 0 := rfl
theorem oq_X11_undo_11 : cw_ho 126 11 (.ireturn) 1 0 0 0 := rfl
theorem cq_undo0 (hT : cw_T G h) (hm : ri_at h 63 2 = 0) (hQ : ∀ x : Int32, x.toInt = -1 → Q (some (cv_i x), h)) : cw_X X 126 Q 0 (cv_ent 0 [cv_r 0]) [] h := by
  refine ex_al oq_X11_undo_0 rfl ?_
  refine ex_gf oq_X11_undo_1 hT (k := 0) (d := 11) rfl rfl (ri_ref (k := 0) (k' := 63) (d := 11) (f := 11) hT rfl rfl rfl (by decide) (ri_uniq (by decide +kernel))) ?_
  obtain ⟨x101, ax101, rx101, lx101, ux101⟩ := ri_fld (k := 63) (d := 10) (f := 2) hT rfl rfl rfl
  try dsimp only at lx101 ux101
  refine ex_gf oq_X11_undo_4 hT (k := 63) (d := 10) rfl rfl ax101 ?_
  clear lx101 ux101
  have rx101 := (rx101.symm.trans hm : x101.toInt = (0 : Int))
  refine ex_if0 oq_X11_undo_7 (t := 12) rfl rfl (fun (c102 : 0 < x101.toInt) => ?_) (fun (c102 : ¬ (0 < x101.toInt)) => ?_)
  · exfalso; omega
  · refine ex_ic oq_X11_undo_10 (m := (-1)) (by decide) (fun x103 hx103 => ?_)
    exact ex_reti oq_X11_undo_11 rfl (hQ x103 (by omega))
theorem oq_X11_undo_12 : cw_ho 126 12 (.aload_n 0) 1 0 0 0 := rfl
theorem oq_X11_undo_13 : cw_ho 126 13 (.getfield 66) 3 11 11 4 := rfl
theorem oq_X11_undo_16 : cw_ho 126 16 (.invokevirtual 276) 3 104 0 10 := rfl
theorem oq_X11_undo_19 : cw_ho 126 19 (.istore_n 1) 1 0 0 0 := rfl
theorem oq_X11_undo_20 : cw_ho 126 20 (.aload_n 0) 1 0 0 0 := rfl
theorem oq_X11_undo_21 : cw_ho 126 21 (.iload_n 1) 1 0 0 0 := rfl
theorem oq_X11_undo_22 : cw_ho 126 22 (.invokevirtual 155) 3 114 1 11 := rfl
theorem oq_X11_undo_25 : cw_ho 126 25 (.ifCond .eq 16) 3 0 0 0 := rfl
theorem oq_X11_undo_28 : cw_ho 126 28 (.aload_n 0) 1 0 0 0 := rfl
theorem oq_X11_undo_29 : cw_ho 126 29 (.getfield 66) 3 11 11 4 := rfl
theorem oq_X11_undo_32 : cw_ho 126 32 (.aload_n 0) 1 0 0 0 := rfl
theorem oq_X11_undo_33 : cw_ho 126 33 (.getfield 50) 3 11 7 4 := rfl
theorem oq_X11_undo_36 : cw_ho 126 36 (.iload_n 1) 1 0 0 0 := rfl
theorem oq_X11_undo_37 : cw_ho 126 37 (.aaload) 1 0 0 0 := rfl
theorem oq_X11_undo_38 : cw_ho 126 38 (.invokevirtual 279) 3 105 1 10 := rfl
theorem oq_X11_undo_41 : cw_ho 126 41 (.aload_n 0) 1 0 0 0 := rfl
theorem oq_X11_undo_42 : cw_ho 126 42 (.getfield 66) 3 11 11 4 := rfl
theorem oq_X11_undo_45 : cw_ho 126 45 (.getfield 273) 3 10 2 0 := rfl
theorem oq_X11_undo_48 : cw_ho 126 48 (.ireturn) 1 0 0 0 := rfl
theorem cq_undo1 (hT : cw_T G h) {k : Nat} (hb : b = 2 ∨ b = 26) (hng : ng ≤ 4) (hg9 : ri_at h b 9 = ng) (kC : zKC h) (hp2 : cw_at h 0 2 = some (cv_r b)) (sG : zKG h b ng (fun g => 103 + 2 * g) γs) (B : zUB h Bf) (S : zUS h b (k + 1) Bf ν υ) (hν : ν k < ng) (hQ : ∀ (x : Int32) h', cw_T G h' → x.toInt = k → (∀ k2 : Nat, (k2 < 63 ∨ 85 < k2) → k2 ≠ 103 + 2 * ν k → h'[k2]? = h[k2]?) → zUB h' Bf → zUS h' b k Bf ν υ → zKG h' b ng (fun g => 103 + 2 * g) (zfU γs (ν k) (υ k)) → Q (some (cv_i x), h')) : cw_X X 126 Q 0 (cv_ent 0 [cv_r 0]) [] h := by
  have hk0 := (zKi hb).1
  have hm2 := S.2.1
  refine ex_al oq_X11_undo_0 rfl ?_
  refine ex_gf oq_X11_undo_1 hT (k := 0) (d := 11) rfl rfl (ri_ref (k := 0) (k' := 63) (d := 11) (f := 11) hT rfl rfl rfl (by decide) (ri_uniq (by decide +kernel))) ?_
  obtain ⟨x101, ax101, rx101, lx101, ux101⟩ := ri_fld (k := 63) (d := 10) (f := 2) hT rfl rfl rfl
  try dsimp only at lx101 ux101
  refine ex_gf oq_X11_undo_4 hT (k := 63) (d := 10) rfl rfl ax101 ?_
  clear lx101 ux101
  have rx101 := (rx101.symm.trans S.1 : x101.toInt = ((k + 1 : Nat) : Int))
  refine ex_if0 oq_X11_undo_7 (t := 12) rfl rfl (fun (c102 : 0 < x101.toInt) => ?_) (fun (c102 : ¬ (0 < x101.toInt)) => ?_)
  · refine ex_al oq_X11_undo_12 rfl ?_
    refine ex_gf oq_X11_undo_13 hT (k := 0) (d := 11) rfl rfl (ri_ref (k := 0) (k' := 63) (d := 11) (f := 11) hT rfl rfl rfl (by decide) (ri_uniq (by decide +kernel))) ?_
    refine ex_cv oq_X11_undo_16 (by decide) hT (k := 63) (d := 10) (as := []) (stk := []) rfl rfl rfl rfl rfl rfl ⟨rfl, rfl⟩ (R := fun o => ∃ x : Int32, o = (some (cv_i x), h) ∧ x.toInt = (ν k : Int)) (cu_latest hT S (by omega) (fun x q => ⟨x, rfl, q⟩)) (fun o ho => ?_)
    obtain ⟨x103, rfl, hx103⟩ := ho
    show cw_X _ _ _ _ _ [cv_i x103] h
    refine ex_isA oq_X11_undo_19 (fun L104 gL104_1 kL104 => ?_)
    have gL104_0 : cv_get L104 0 = some (cv_r 0) := kL104 0 _ (by decide) (fun _ => rfl) rfl
    refine ex_al oq_X11_undo_20 gL104_0 ?_
    refine ex_il oq_X11_undo_21 gL104_1 ?_
    refine ex_cv oq_X11_undo_22 (by decide) hT (k := 0) (d := 11) (as := [cv_i x103]) (stk := []) rfl rfl rfl rfl rfl rfl ⟨rfl, rfl⟩ (R := fun o => ∃ x : Int32, o = (some (cv_i x), h) ∧ (x.toInt = 1 ∧ (0 ≤ x103.toInt ∧ x103.toInt < (ng : Int)) ∨ x.toInt = 0 ∧ ¬ (0 ≤ x103.toInt ∧ x103.toInt < (ng : Int)))) (ct_isGate hT hk0 hp2 (hg9) x103 (fun x q => ⟨x, rfl, q⟩)) (fun o ho => ?_)
    obtain ⟨x105, rfl, dx105⟩ := ho
    show cw_X _ _ _ _ _ [cv_i x105] h
    refine ex_if0 oq_X11_undo_25 (t := 41) rfl rfl (fun (c106 : x105.toInt = 0) => ?_) (fun (c106 : ¬ (x105.toInt = 0)) => ?_)
    · exfalso; omega
    · refine ex_al oq_X11_undo_28 gL104_0 ?_
      refine ex_gf oq_X11_undo_29 hT (k := 0) (d := 11) rfl rfl (ri_ref (k := 0) (k' := 63) (d := 11) (f := 11) hT rfl rfl rfl (by decide) (ri_uniq (by decide +kernel))) ?_
      refine ex_al oq_X11_undo_32 gL104_0 ?_
      refine ex_gf oq_X11_undo_33 hT (k := 0) (d := 11) rfl rfl (ri_ref (k := 0) (k' := 61) (d := 11) (f := 7) hT rfl rfl rfl (by decide) (ri_uniq (by decide +kernel))) ?_
      refine ex_il oq_X11_undo_36 gL104_1 ?_
      have hK1 := (sh_gt (g := ν k) (by omega)).1
      refine ex_aa oq_X11_undo_37 hT (k := 61) (d := 14) (j := ν k) rfl rfl (by omega) (by omega) (fun k108 ak108 sk108 => ?_)
      have ek108 : k108 = 103 + 2 * ν k := rk_inj (ak108.symm.trans (kC (ν k) (by omega)).1)
      subst ek108
      refine ex_cv oq_X11_undo_38 (by decide) hT (k := 63) (d := 10) (as := [cv_r (103 + 2 * ν k)]) (stk := []) rfl rfl rfl rfl rfl rfl ⟨rfl, rfl⟩ (R := fun o => ∃ hb : cv_H, o = (none, hb) ∧ cw_T G hb ∧ (∀ k2 : Nat, (k2 < 63 ∨ 85 < k2) → k2 ≠ 103 + 2 * ν k → hb[k2]? = h[k2]?) ∧ zUB hb Bf ∧ zUS hb b k Bf ν υ ∧ zGV hb (103 + 2 * ν k) (υ k) ∧ cw_at hb (103 + 2 * ν k) 0 = some (cv_r (b + 16 + 2 * ν k))) (cu_pop hT B S (by omega) hK1 (by omega) (zKi_7 hb (by show ν k < 4; omega)) (fun hb b1 b2 b3 b4 b5 b6 => ⟨hb, rfl, b1, b2, b3, b4, b5, b6⟩)) (fun o ho => ?_)
      obtain ⟨h109, rfl, Th109, q1, B2, S2, V2, p2⟩ := ho
      show cw_X _ _ _ _ _ [] h109
      refine ex_al oq_X11_undo_41 gL104_0 ?_
      refine ex_gf oq_X11_undo_42 Th109 (k := 0) (d := 11) rfl rfl (ri_ref (k := 0) (k' := 63) (d := 11) (f := 11) Th109 rfl rfl rfl (by decide) (ri_uniq (by decide +kernel))) ?_
      obtain ⟨x110, ax110, rx110, lx110, ux110⟩ := ri_fld (k := 63) (d := 10) (f := 2) Th109 rfl rfl rfl
      try dsimp only at lx110 ux110
      refine ex_gf oq_X11_undo_45 Th109 (k := 63) (d := 10) rfl rfl ax110 ?_
      clear lx110 ux110
      have rx110 := (rx110.symm.trans S2.1 : x110.toInt = (k : Int))
      refine ex_reti oq_X11_undo_48 rfl (hQ x110 h109 Th109 (by omega) q1 B2 S2 (fun g2 r2 => ?_))
      dsimp only
      by_cases cg : g2 = ν k
      · subst cg
        rw [zfU_eq]
        exact ⟨V2, p2⟩
      · rw [zfU_ne cg]
        have e : h109[103 + 2 * g2]? = h[103 + 2 * g2]? := q1 _ (by omega) (by omega)
        exact ⟨zGV_h e (sG g2 r2).1, (at_h e).trans (sG g2 r2).2⟩
  · exfalso; omega
end WU
end GN
end
