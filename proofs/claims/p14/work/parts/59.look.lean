/-! ===== look of the class, over the small machine: it answers, or comes to one of its two throws ===== -/
def op_lookC : List cv_Q := [(0, .aload_n 0, 1, 0, 0, 0), (1, .iload_n 1, 1, 0, 0, 0), (2, .invokevirtual 155, 3, 114, 1, 11), (5, .ifCond .ne 13, 3, 0, 0, 0), (18, .iload_n 2, 1, 0, 0, 0), (19, .ifCond .lt 9, 3, 0, 0, 0), (22, .iload_n 2, 1, 0, 0, 0), (23, .bipush 10, 2, 0, 0, 0), (25, .if_icmp .le 13, 3, 0, 0, 0), (38, .aload_n 0, 1, 0, 0, 0), (39, .getfield 50, 3, 11, 7, 0), (42, .iload_n 1, 1, 0, 0, 0), (43, .aaload, 1, 0, 0, 0), (44, .astore_n 3, 1, 0, 0, 0), (45, .iload_n 2, 1, 0, 0, 0), (46, .tableswitch 119 0 9 #[54, 62, 70, 78, 86, 91, 96, 104, 109, 114], 54, 0, 0, 0), (100, .aload_n 3, 1, 0, 0, 0), (101, .getfield 171, 3, 1, 0, 0), (104, .getfield 174, 3, 7, 0, 0), (107, .ireturn, 1, 0, 0, 0), (108, .aload_n 3, 1, 0, 0, 0), (109, .getfield 171, 3, 1, 0, 0), (112, .getfield 177, 3, 7, 1, 0), (115, .ireturn, 1, 0, 0, 0), (116, .aload_n 3, 1, 0, 0, 0), (117, .getfield 171, 3, 1, 0, 0), (120, .getfield 180, 3, 7, 2, 0), (123, .ireturn, 1, 0, 0, 0), (124, .aload_n 3, 1, 0, 0, 0), (125, .getfield 171, 3, 1, 0, 0), (128, .invokevirtual 183, 3, 88, 0, 7), (131, .ireturn, 1, 0, 0, 0), (132, .aload_n 3, 1, 0, 0, 0), (133, .invokevirtual 187, 3, 17, 0, 1), (136, .ireturn, 1, 0, 0, 0), (137, .aload_n 3, 1, 0, 0, 0), (138, .getfield 190, 3, 1, 5, 0), (141, .ireturn, 1, 0, 0, 0), (142, .aload_n 3, 1, 0, 0, 0), (143, .getfield 171, 3, 1, 0, 0), (146, .getfield 193, 3, 7, 8, 0), (149, .ireturn, 1, 0, 0, 0), (150, .aload_n 3, 1, 0, 0, 0), (151, .getfield 196, 3, 1, 6, 0), (154, .ireturn, 1, 0, 0, 0), (155, .aload_n 3, 1, 0, 0, 0), (156, .getfield 199, 3, 1, 9, 0), (159, .ireturn, 1, 0, 0, 0), (160, .aload_n 3, 1, 0, 0, 0), (161, .getfield 202, 3, 1, 10, 0), (164, .ireturn, 1, 0, 0, 0), (165, .aload_n 3, 1, 0, 0, 0), (166, .getfield 205, 3, 1, 11, 0), (169, .ireturn, 1, 0, 0, 0)]
def hn_lookC : List (List (Nat × Nat)) := [[], [], [(5, 0)], [], [], [], [], [], [], [], [(3, 120)], [], [], [], [], [], [], [(2, 192)], [(1, 57)], [], [], [(2, 192)], [(1, 61)], [], [], [(2, 192)], [(1, 65)], [], [], [(2, 192)], [(6, 152)], [], [], [(5, 97)], [], [], [(2, 203)], [], [], [(2, 192)], [(1, 82)], [], [], [(2, 206)], [], [], [(2, 212)], [], [], [(2, 214)], [], [], [(2, 216)], []]
def mt_lookC : cv_M := ((RX11, yX11_look, cX11_look, 4, some .int), op_lookC, 10, 100, 9, 160)
set_option maxRecDepth 100000 in
theorem ok_lookC : ∀ q ∈ op_lookC, cv_ok cv_T vwCl mt_all mt_lookC q := cv_zip_ok ok_mm (by decide) okj_all ok_o1 ok_o2 (hs := hn_lookC) (by decide +kernel) (by decide +kernel)
def op_LlookC : List cv_Q := [(0, .aload_n 3, 1, 0, 0, 0), (1, .iconst 0, 1, 0, 0, 0), (2, .aload_n 0, 1, 0, 0, 0), (3, .iload_n 1, 1, 0, 0, 0), (4, .iload_n 2, 1, 0, 0, 0), (8, .i2l, 1, 0, 0, 0), (9, .lastore, 1, 0, 0, 0), (10, .goto 11, 3, 0, 0, 0), (15, .iconst 1, 1, 0, 0, 0), (16, .ireturn, 1, 0, 0, 0), (19, .iconst 2, 1, 0, 0, 0), (20, .ireturn, 1, 0, 0, 0), (21, .iconst 0, 1, 0, 0, 0), (22, .ireturn, 1, 0, 0, 0)]
def mt_LlookC : cv_M := ((RL, yL_look, cL_look, 5, some .int), op_LlookC, 20, 200, 10, 220)
set_option maxRecDepth 100000 in
theorem ok_LlookC : ∀ q ∈ op_LlookC, cv_ok cv_T vwCl mt_all mt_LlookC q := cv_zip_ok ok_mm (by decide) okj_all ok_o1 ok_o2 (hs := List.replicate 14 []) (by decide +kernel) (by decide +kernel)
theorem okm_lookC : cv_okM cv_T mt_lookC := ⟨cv_pt_T (k := 6) (i := 69) rfl rfl, rfl, cv_in_ok (h := (1, 1)) (by decide +kernel), by decide +kernel, by decide +kernel, by decide +kernel⟩
/-- what a goal is closed under that speaks of a frame of the method M -/
def gd_R (M : cv_M) (X : cv_X) (G : cv_S → Prop) : Prop :=
  (∀ (q : cv_Q) (S S' : cv_S), cv_op M S.1 = some q → cv_one X q S = some S' → G S' → G S) ∧
  (∀ (q : cv_Q) (S : cv_S) (j : Nat) (av stk : List cv_V) (o : cv_O), cv_op M S.1 = some q → q.2.2.2.1 < 9000 → cv_call q S = some (j, av, stk) → cv_fits M (mt_all j) S.2.2.2.2.1 S.2.2.2.2.2 (cv_wid av) stk = true → cw_Ev fk_all mt_all (fun j => bif j == 2 then none else X j) j (0, cv_ent 0 av, [], S.2.2.2.1, 0, 0) o →
    G (S.1 + q.2.2.1, S.2.1, o.1.toList ++ stk, o.2, S.2.2.2.2.1 + (mt_all j).2.2.1, S.2.2.2.2.2 + (mt_all j).2.2.2.1) → G S)
def lo_b (pc : Nat) (ins : Instr) (len a b : Nat) (z : Int) : Bool := match cv_op mt_lookC pc with
  | some q => (q.1 == pc) && (decide (q.2.1 = ins) && ((q.2.2.1 == len) && ((q.2.2.2.1 == a) && ((q.2.2.2.2.1 == b) && decide (q.2.2.2.2.2 = z)))))
  | none => false
theorem lo_o {pc : Nat} {ins : Instr} {len a b : Nat} {z : Int} (h : lo_b pc ins len a b z = true) : cv_op mt_lookC pc = some (pc, ins, len, a, b, z) := by
  unfold lo_b at h
  split at h
  · rename_i q hq
    obtain ⟨q1, q2, q3, q4, q5, q6⟩ := q
    simp only [Bool.and_eq_true, beq_iff_eq, decide_eq_true_eq] at h
    obtain ⟨rfl, rfl, rfl, rfl, rfl, rfl⟩ := h
    exact hq
  · cases h
def lo_rets : List Nat := [107, 115, 123, 131, 136, 141, 149, 154, 159, 164, 169]
def lo_K (Gn : Int) (h h' : cv_H) : Prop := cw_T Gn h' ∧ cw_PP Gn h' ∧ cw_Fr cw_Ds cw_sh 0 h h'
section LO
variable {M : cv_M} {X : cv_X} {G : cv_S → Prop} {L : cv_L} {h : cv_H} {c n pc : Nat} {st : List cv_V} {Gn : Int}
theorem gd_ld {q : Instr} {len a b k kd : Nat} {z : Int} {v : cv_V} (hR : gd_R M X G) (ho : cv_op M pc = some (pc, q, len, a, b, z)) (hp : cv_push (pc, q, len, a, b, z) = none) (hl : cv_load q = some (k, kd)) (hv : cv_get L k = some v) (hk : cv_kind kd v = true) (K : G (pc + len, L, v :: st, h, c, n)) : G (pc, L, st, h, c, n) := by
  refine hR.1 _ _ _ ho ?_ K
  unfold cv_one
  dsimp only
  rw [hp]
  dsimp only
  rw [hl]
  dsimp only
  rw [hv]
  dsimp only
  rw [hk]
  rfl
theorem gd_gf {ix k ci d len b : Nat} {fs : List cw_A} {z : Int} {v : cv_V} (hR : gd_R M X G) (ho : cv_op M pc = some (pc, .getfield ix, len, ci, b, z)) (hT : cw_T Gn h) (hk : cw_sh[k]? = some d) (hD : cw_Ds[d]? = some (.inr (.inr (.inr (ci, fs))))) (hv : cw_at h k b = some v) (K : G (pc + len, L, v :: st, h, c, n)) : G (pc, L, cv_r k :: st, h, c, n) := by
  obtain ⟨vs, h1, -⟩ := cw_cell_o hD (hT k d hk)
  refine hR.1 _ _ _ ho ?_ K
  have hv' : vs[b]? = some v := by
    unfold cw_at at hv
    rw [h1] at hv
    exact hv
  show (match h[k]? with
    | some (.inr (.inr (.inr (ci', fs)))) => bif ci' == ci then (fs[b]?).map _ else none
    | _ => none) = _
  rw [h1]
  show (bif ci == ci then (vs[b]?).map _ else none) = _
  rw [beq_self_eq_true, hv']
  rfl
theorem gd_aa {k d t m d' j len a b : Nat} {i : Int32} {z : Int} (hR : gd_R M X G) (ho : cv_op M pc = some (pc, .aaload, len, a, b, z)) (hT : cw_T Gn h) (hk : cw_sh[k]? = some d) (hD : cw_Ds[d]? = some (.inr (.inr (.inl (t, m, d'))))) (hj : i.toInt = j) (hm : j < m) (K : ∀ k' : Nat, cw_sh[k']? = some d' → G (pc + len, L, cv_r k' :: st, h, c, n)) : G (pc, L, cv_i i :: cv_r k :: st, h, c, n) := by
  obtain ⟨xs, h1, h2, h3⟩ := cw_cell_r hD (hT k d hk)
  obtain ⟨y, hy⟩ := cw_get_lt (xs := xs) (j := j) (by omega)
  obtain ⟨k', rfl, hk'⟩ := h3 j y hy
  obtain ⟨c1, c2⟩ := cw_cixi hj hm
  refine hR.1 _ _ _ ho ?_ (K k' hk')
  show (match h[k]? with
    | some (.inr (.inr (.inl (_, xs)))) => bif cv_ix i xs.length then (xs[i.toNatClampNeg]?).map _ else none
    | _ => none) = _
  rw [h1]
  show (bif cv_ix i xs.length then (xs[i.toNatClampNeg]?).map _ else none) = _
  rw [h2, c1, c2, hy]
  rfl
theorem gd_cv {ix k d ci j np : Nat} {fs : List cw_A} {as stk : List cv_V} (hR : gd_R M X G) (ho : cv_op M pc = some (pc, .invokevirtual ix, 3, j, np, (ci : Int))) (hn : j < 9000) (hT : cw_T Gn h) (hk : cw_sh[k]? = some d) (hD : cw_Ds[d]? = some (.inr (.inr (.inr (ci, fs))))) (hl : as.length = np) (hf : cv_fits M (mt_all j) c n (cv_wid (cv_r k :: as)) stk = true) (hr : (mt_all j).2.2.1 = 0 ∧ (mt_all j).2.2.2.1 = 0) {R : cv_O → Prop} (hK : cw_X (fun j => bif j == 2 then none else X j) j R 0 (cv_ent 0 (cv_r k :: as)) [] h)
    (kk : ∀ o, R o → G (pc + 3, L, o.1.toList ++ stk, o.2, c, n)) : G (pc, L, as.reverse ++ cv_r k :: stk, h, c, n) := by
  obtain ⟨vs, h1, -⟩ := cw_cell_o hD (hT k d hk)
  obtain ⟨o, hev, hRo⟩ := hK
  subst hl
  have e1 : (as.reverse ++ cv_r k :: stk).take as.length = as.reverse := by
    rw [List.take_append_of_le_length (by simp)]; exact List.take_of_length_le (by simp)
  have e2 : (as.reverse ++ cv_r k :: stk).drop as.length = cv_r k :: stk := by
    rw [List.drop_append_of_le_length (by simp)]
    rw [List.drop_of_length_le (by simp)]
    rfl
  refine hR.2 _ (pc, L, as.reverse ++ cv_r k :: stk, h, c, n) j (cv_r k :: as) stk o ho hn ?_ hf hev ?_
  · unfold cv_call
    dsimp only
    rw [decide_eq_true (by simp), cond_true, e1, e2]
    dsimp only
    rw [h1]
    dsimp only
    rw [Int.toNat_natCast, beq_self_eq_true, List.reverse_reverse]
    rfl
  · dsimp only
    rw [hr.1, hr.2, Nat.add_zero, Nat.add_zero]
    exact kk o hRo
theorem gd_if0 {o : Jvm.ClassFile.Cond} {off : Int} {t len a b : Nat} {z : Int} {x : Int32} (hR : gd_R M X G) (ho : cv_op M pc = some (pc, .ifCond o off, len, a, b, z)) (hj : cv_jmp pc off = true) (ht : cv_tgt pc off = t) (kt : cw_cmpZ o x.toInt 0 → G (t, L, st, h, c, n)) (kf : ¬ cw_cmpZ o x.toInt 0 → G (pc + len, L, st, h, c, n)) : G (pc, L, cv_i x :: st, h, c, n) := by
  subst ht
  have h1 : cv_one X (pc, .ifCond o off, len, a, b, z) (pc, L, cv_i x :: st, h, c, n) = some ((bif cv_cmp o x 0 then cv_tgt pc off else pc + len), L, st, h, c, n) := by
    show (bif cv_jmp pc off then _ else none) = _
    rw [hj]
    rfl
  cases hc : cv_cmp o x 0 with
  | true => rw [hc] at h1; exact hR.1 _ _ _ ho h1 (kt (cw_cmp_Z.mp hc))
  | false => rw [hc] at h1; exact hR.1 _ _ _ ho h1 (kf fun q => by rw [cw_cmp_Z.mpr (show cw_cmpZ o x.toInt (0 : Int32).toInt from q)] at hc; cases hc)
theorem gd_if {o : Jvm.ClassFile.Cond} {off : Int} {t len a b : Nat} {z : Int} {x y : Int32} (hR : gd_R M X G) (ho : cv_op M pc = some (pc, .if_icmp o off, len, a, b, z)) (hj : cv_jmp pc off = true) (ht : cv_tgt pc off = t) (kt : cw_cmpZ o x.toInt y.toInt → G (t, L, st, h, c, n)) (kf : ¬ cw_cmpZ o x.toInt y.toInt → G (pc + len, L, st, h, c, n)) : G (pc, L, cv_i y :: cv_i x :: st, h, c, n) := by
  subst ht
  have h1 : cv_one X (pc, .if_icmp o off, len, a, b, z) (pc, L, cv_i y :: cv_i x :: st, h, c, n) = some ((bif cv_cmp o x y then cv_tgt pc off else pc + len), L, st, h, c, n) := by
    show (bif cv_jmp pc off then _ else none) = _
    rw [hj]
    rfl
  cases hc : cv_cmp o x y with
  | true => rw [hc] at h1; exact hR.1 _ _ _ ho h1 (kt (cw_cmp_Z.mp hc))
  | false => rw [hc] at h1; exact hR.1 _ _ _ ho h1 (kf fun q => by rw [cw_cmp_Z.mpr q] at hc; cases hc)
def lo_L (kg : Nat) (g w : Int32) : cv_L := [(3, cv_r kg), (0, cv_r 0), (1, cv_i g), (2, cv_i w)]
theorem lo_at100 (hR : gd_R mt_lookC X G) (hX : cw_Xok X) (hT : cw_T Gn h) (hP : cw_PP Gn h) {kg : Nat} (hkg : cw_sh[kg]? = some 1) (g w : Int32) (kr : ∀ (pc : Nat) (L : cv_L) (x : Int32) (h' : cv_H), pc ∈ lo_rets → lo_K Gn h h' → G (pc, L, [cv_i x], h', 0, 0)) : G (100, lo_L kg g w, [], h, 0, 0) := by
  refine gd_ld hR (lo_o (show lo_b 100 (.aload_n 3) 1 0 0 0 = true by decide +kernel)) rfl rfl rfl rfl ?_
  obtain ⟨kt, at1, st1⟩ := ri_refs (k := kg) (d := 1) (f := 0) hT hkg rfl rfl (by decide)
  refine gd_gf hR (lo_o (show lo_b 101 (.getfield 171) 3 1 0 0 = true by decide +kernel)) hT hkg rfl at1 ?_
  obtain ⟨x, ax, -⟩ := ri_fld (k := kt) (d := 7) (f := 0) hT st1 rfl rfl
  refine gd_gf hR (lo_o (show lo_b 104 (.getfield 174) 3 7 0 0 = true by decide +kernel)) hT st1 rfl ax ?_
  exact kr 107 _ x h (by decide) ⟨hT, hP, cw_Fr_refl⟩
theorem lo_at108 (hR : gd_R mt_lookC X G) (hX : cw_Xok X) (hT : cw_T Gn h) (hP : cw_PP Gn h) {kg : Nat} (hkg : cw_sh[kg]? = some 1) (g w : Int32) (kr : ∀ (pc : Nat) (L : cv_L) (x : Int32) (h' : cv_H), pc ∈ lo_rets → lo_K Gn h h' → G (pc, L, [cv_i x], h', 0, 0)) : G (108, lo_L kg g w, [], h, 0, 0) := by
  refine gd_ld hR (lo_o (show lo_b 108 (.aload_n 3) 1 0 0 0 = true by decide +kernel)) rfl rfl rfl rfl ?_
  obtain ⟨kt, at1, st1⟩ := ri_refs (k := kg) (d := 1) (f := 0) hT hkg rfl rfl (by decide)
  refine gd_gf hR (lo_o (show lo_b 109 (.getfield 171) 3 1 0 0 = true by decide +kernel)) hT hkg rfl at1 ?_
  obtain ⟨x, ax, -⟩ := ri_fld (k := kt) (d := 7) (f := 1) hT st1 rfl rfl
  refine gd_gf hR (lo_o (show lo_b 112 (.getfield 177) 3 7 1 0 = true by decide +kernel)) hT st1 rfl ax ?_
  exact kr 115 _ x h (by decide) ⟨hT, hP, cw_Fr_refl⟩
theorem lo_at116 (hR : gd_R mt_lookC X G) (hX : cw_Xok X) (hT : cw_T Gn h) (hP : cw_PP Gn h) {kg : Nat} (hkg : cw_sh[kg]? = some 1) (g w : Int32) (kr : ∀ (pc : Nat) (L : cv_L) (x : Int32) (h' : cv_H), pc ∈ lo_rets → lo_K Gn h h' → G (pc, L, [cv_i x], h', 0, 0)) : G (116, lo_L kg g w, [], h, 0, 0) := by
  refine gd_ld hR (lo_o (show lo_b 116 (.aload_n 3) 1 0 0 0 = true by decide +kernel)) rfl rfl rfl rfl ?_
  obtain ⟨kt, at1, st1⟩ := ri_refs (k := kg) (d := 1) (f := 0) hT hkg rfl rfl (by decide)
  refine gd_gf hR (lo_o (show lo_b 117 (.getfield 171) 3 1 0 0 = true by decide +kernel)) hT hkg rfl at1 ?_
  obtain ⟨x, ax, -⟩ := ri_fld (k := kt) (d := 7) (f := 2) hT st1 rfl rfl
  refine gd_gf hR (lo_o (show lo_b 120 (.getfield 180) 3 7 2 0 = true by decide +kernel)) hT st1 rfl ax ?_
  exact kr 123 _ x h (by decide) ⟨hT, hP, cw_Fr_refl⟩
theorem lo_at124 (hR : gd_R mt_lookC X G) (hX : cw_Xok X) (hT : cw_T Gn h) (hP : cw_PP Gn h) {kg : Nat} (hkg : cw_sh[kg]? = some 1) (g w : Int32) (kr : ∀ (pc : Nat) (L : cv_L) (x : Int32) (h' : cv_H), pc ∈ lo_rets → lo_K Gn h h' → G (pc, L, [cv_i x], h', 0, 0)) : G (124, lo_L kg g w, [], h, 0, 0) := by
  refine gd_ld hR (lo_o (show lo_b 124 (.aload_n 3) 1 0 0 0 = true by decide +kernel)) rfl rfl rfl rfl ?_
  obtain ⟨kt, at1, st1⟩ := ri_refs (k := kg) (d := 1) (f := 0) hT hkg rfl rfl (by decide)
  refine gd_gf hR (lo_o (show lo_b 125 (.getfield 171) 3 1 0 0 = true by decide +kernel)) hT hkg rfl at1 ?_
  refine gd_cv (as := []) (stk := []) (ci := 7) hR (lo_o (show lo_b 128 (.invokevirtual 183) 3 88 0 ((7 : Nat) : Int) = true by decide +kernel)) (by decide) hT st1 rfl rfl rfl ⟨rfl, rfl⟩ (cw_HX hz_X7_span rfl (cw_Xok_no2 hX) ⟨hT, hP⟩ ⟨.inl ⟨by decide, kt, rfl, st1⟩, trivial⟩ (fun t ht => absurd ht List.not_mem_nil)) (fun o ho => ?_)
  obtain ⟨x, h1, rfl, -, T1, P1, F1, -⟩ := po_int ho rfl
  exact kr 131 _ x h1 (by decide) ⟨T1, P1, F1⟩
theorem lo_at132 (hR : gd_R mt_lookC X G) (hX : cw_Xok X) (hT : cw_T Gn h) (hP : cw_PP Gn h) {kg : Nat} (hkg : cw_sh[kg]? = some 1) (g w : Int32) (kr : ∀ (pc : Nat) (L : cv_L) (x : Int32) (h' : cv_H), pc ∈ lo_rets → lo_K Gn h h' → G (pc, L, [cv_i x], h', 0, 0)) : G (132, lo_L kg g w, [], h, 0, 0) := by
  refine gd_ld hR (lo_o (show lo_b 132 (.aload_n 3) 1 0 0 0 = true by decide +kernel)) rfl rfl rfl rfl ?_
  refine gd_cv (as := []) (stk := []) (ci := 1) hR (lo_o (show lo_b 133 (.invokevirtual 187) 3 17 0 ((1 : Nat) : Int) = true by decide +kernel)) (by decide) hT hkg rfl rfl rfl ⟨rfl, rfl⟩ (cw_HX hz_X1_pull rfl (cw_Xok_no2 hX) ⟨hT, hP⟩ ⟨.inl ⟨by decide, kg, rfl, hkg⟩, trivial⟩ (fun t ht => absurd ht List.not_mem_nil)) (fun o ho => ?_)
  obtain ⟨x, h1, rfl, -, T1, P1, F1, -⟩ := po_int ho rfl
  exact kr 136 _ x h1 (by decide) ⟨T1, P1, F1⟩
theorem lo_at137 (hR : gd_R mt_lookC X G) (hX : cw_Xok X) (hT : cw_T Gn h) (hP : cw_PP Gn h) {kg : Nat} (hkg : cw_sh[kg]? = some 1) (g w : Int32) (kr : ∀ (pc : Nat) (L : cv_L) (x : Int32) (h' : cv_H), pc ∈ lo_rets → lo_K Gn h h' → G (pc, L, [cv_i x], h', 0, 0)) : G (137, lo_L kg g w, [], h, 0, 0) := by
  refine gd_ld hR (lo_o (show lo_b 137 (.aload_n 3) 1 0 0 0 = true by decide +kernel)) rfl rfl rfl rfl ?_
  obtain ⟨x, ax, -⟩ := ri_fld (k := kg) (d := 1) (f := 5) hT hkg rfl rfl
  refine gd_gf hR (lo_o (show lo_b 138 (.getfield 190) 3 1 5 0 = true by decide +kernel)) hT hkg rfl ax ?_
  exact kr 141 _ x h (by decide) ⟨hT, hP, cw_Fr_refl⟩
theorem lo_at142 (hR : gd_R mt_lookC X G) (hX : cw_Xok X) (hT : cw_T Gn h) (hP : cw_PP Gn h) {kg : Nat} (hkg : cw_sh[kg]? = some 1) (g w : Int32) (kr : ∀ (pc : Nat) (L : cv_L) (x : Int32) (h' : cv_H), pc ∈ lo_rets → lo_K Gn h h' → G (pc, L, [cv_i x], h', 0, 0)) : G (142, lo_L kg g w, [], h, 0, 0) := by
  refine gd_ld hR (lo_o (show lo_b 142 (.aload_n 3) 1 0 0 0 = true by decide +kernel)) rfl rfl rfl rfl ?_
  obtain ⟨kt, at1, st1⟩ := ri_refs (k := kg) (d := 1) (f := 0) hT hkg rfl rfl (by decide)
  refine gd_gf hR (lo_o (show lo_b 143 (.getfield 171) 3 1 0 0 = true by decide +kernel)) hT hkg rfl at1 ?_
  obtain ⟨x, ax, -⟩ := ri_fld (k := kt) (d := 7) (f := 8) hT st1 rfl rfl
  refine gd_gf hR (lo_o (show lo_b 146 (.getfield 193) 3 7 8 0 = true by decide +kernel)) hT st1 rfl ax ?_
  exact kr 149 _ x h (by decide) ⟨hT, hP, cw_Fr_refl⟩
theorem lo_at150 (hR : gd_R mt_lookC X G) (hX : cw_Xok X) (hT : cw_T Gn h) (hP : cw_PP Gn h) {kg : Nat} (hkg : cw_sh[kg]? = some 1) (g w : Int32) (kr : ∀ (pc : Nat) (L : cv_L) (x : Int32) (h' : cv_H), pc ∈ lo_rets → lo_K Gn h h' → G (pc, L, [cv_i x], h', 0, 0)) : G (150, lo_L kg g w, [], h, 0, 0) := by
  refine gd_ld hR (lo_o (show lo_b 150 (.aload_n 3) 1 0 0 0 = true by decide +kernel)) rfl rfl rfl rfl ?_
  obtain ⟨x, ax, -⟩ := ri_fld (k := kg) (d := 1) (f := 6) hT hkg rfl rfl
  refine gd_gf hR (lo_o (show lo_b 151 (.getfield 196) 3 1 6 0 = true by decide +kernel)) hT hkg rfl ax ?_
  exact kr 154 _ x h (by decide) ⟨hT, hP, cw_Fr_refl⟩
theorem lo_at155 (hR : gd_R mt_lookC X G) (hX : cw_Xok X) (hT : cw_T Gn h) (hP : cw_PP Gn h) {kg : Nat} (hkg : cw_sh[kg]? = some 1) (g w : Int32) (kr : ∀ (pc : Nat) (L : cv_L) (x : Int32) (h' : cv_H), pc ∈ lo_rets → lo_K Gn h h' → G (pc, L, [cv_i x], h', 0, 0)) : G (155, lo_L kg g w, [], h, 0, 0) := by
  refine gd_ld hR (lo_o (show lo_b 155 (.aload_n 3) 1 0 0 0 = true by decide +kernel)) rfl rfl rfl rfl ?_
  obtain ⟨x, ax, -⟩ := ri_fld (k := kg) (d := 1) (f := 9) hT hkg rfl rfl
  refine gd_gf hR (lo_o (show lo_b 156 (.getfield 199) 3 1 9 0 = true by decide +kernel)) hT hkg rfl ax ?_
  exact kr 159 _ x h (by decide) ⟨hT, hP, cw_Fr_refl⟩
theorem lo_at160 (hR : gd_R mt_lookC X G) (hX : cw_Xok X) (hT : cw_T Gn h) (hP : cw_PP Gn h) {kg : Nat} (hkg : cw_sh[kg]? = some 1) (g w : Int32) (kr : ∀ (pc : Nat) (L : cv_L) (x : Int32) (h' : cv_H), pc ∈ lo_rets → lo_K Gn h h' → G (pc, L, [cv_i x], h', 0, 0)) : G (160, lo_L kg g w, [], h, 0, 0) := by
  refine gd_ld hR (lo_o (show lo_b 160 (.aload_n 3) 1 0 0 0 = true by decide +kernel)) rfl rfl rfl rfl ?_
  obtain ⟨x, ax, -⟩ := ri_fld (k := kg) (d := 1) (f := 10) hT hkg rfl rfl
  refine gd_gf hR (lo_o (show lo_b 161 (.getfield 202) 3 1 10 0 = true by decide +kernel)) hT hkg rfl ax ?_
  exact kr 164 _ x h (by decide) ⟨hT, hP, cw_Fr_refl⟩
theorem lo_at165 (hR : gd_R mt_lookC X G) (hX : cw_Xok X) (hT : cw_T Gn h) (hP : cw_PP Gn h) {kg : Nat} (hkg : cw_sh[kg]? = some 1) (g w : Int32) (kr : ∀ (pc : Nat) (L : cv_L) (x : Int32) (h' : cv_H), pc ∈ lo_rets → lo_K Gn h h' → G (pc, L, [cv_i x], h', 0, 0)) : G (165, lo_L kg g w, [], h, 0, 0) := by
  refine gd_ld hR (lo_o (show lo_b 165 (.aload_n 3) 1 0 0 0 = true by decide +kernel)) rfl rfl rfl rfl ?_
  obtain ⟨x, ax, -⟩ := ri_fld (k := kg) (d := 1) (f := 11) hT hkg rfl rfl
  refine gd_gf hR (lo_o (show lo_b 166 (.getfield 205) 3 1 11 0 = true by decide +kernel)) hT hkg rfl ax ?_
  exact kr 169 _ x h (by decide) ⟨hT, hP, cw_Fr_refl⟩
def lo_offs : Array Int := #[54, 62, 70, 78, 86, 91, 96, 104, 109, 114]
def lo_tgs : List Nat := [100, 108, 116, 124, 132, 137, 142, 150, 155, 160, 165]
def lo_swt (x : Int32) : Option Nat := bif decide (x.toInt < 0) || decide ((9 : Int) < x.toInt) then (bif cv_jmp 46 119 then some (cv_tgt 46 119) else none) else
  (match lo_offs[(x.toInt - 0).toNat]? with
  | some off => bif cv_jmp 46 off then some (cv_tgt 46 off) else none
  | none => none)
theorem lo_sw (x : Int32) : cv_one X (46, .tableswitch 119 0 9 lo_offs, 54, 0, 0, 0) (46, L, [cv_i x], h, c, n) = (lo_swt x).map (fun t => (t, L, [], h, c, n)) := by
  show (bif decide (x.toInt < 0) || decide ((9 : Int) < x.toInt) then (bif cv_jmp 46 119 then some (cv_tgt 46 119, L, [], h, c, n) else none) else
        (match lo_offs[(x.toInt - 0).toNat]? with
        | some off => bif cv_jmp 46 off then some (cv_tgt 46 off, L, [], h, c, n) else none
        | none => none)) = _
  unfold lo_swt
  cases decide (x.toInt < 0) || decide ((9 : Int) < x.toInt) with
  | true =>
    dsimp only [cond_true]
    cases cv_jmp 46 119 <;> rfl
  | false =>
    dsimp only [cond_false]
    cases lo_offs[(x.toInt - 0).toNat]? with
    | none => rfl
    | some off =>
      dsimp only
      cases cv_jmp 46 off <;> rfl
theorem lo_swk : ∀ k, k < 11 → lo_swt (nI k) = some (lo_tgs.getD k 0) := by
  have h : ((List.range 11).all fun k => decide (lo_swt (nI k) = some (lo_tgs.getD k 0))) = true := by decide +kernel
  intro k hk
  exact of_decide_eq_true (List.all_eq_true.mp h k (List.mem_range.mpr hk))
theorem lo_nI {w : Int32} (h0 : 0 ≤ w.toInt) (h1 : w.toInt ≤ 10) : ∃ k, k < 11 ∧ w = nI k := by
  refine ⟨w.toInt.toNat, by omega, ?_⟩
  rw [← Int32.toInt_inj]
  show w.toInt = (Int32.ofNat w.toInt.toNat).toInt
  rw [Int32.toInt_ofNat', show (Int32.size : Nat) = 4294967296 from rfl]
  rw [Int.bmod_eq_of_le (by omega) (by omega)]
  omega
theorem lo_walk (hR : gd_R mt_lookC X G) (hX : cw_Xok X) (hT : cw_T Gn h) (hP : cw_PP Gn h) (g w : Int32) (kr : ∀ (pc : Nat) (L : cv_L) (x : Int32) (h' : cv_H), pc ∈ lo_rets → lo_K Gn h h' → G (pc, L, [cv_i x], h', 0, 0))
    (k1 : ∀ (L : cv_L) (h' : cv_H), lo_K Gn h h' → G (8, L, [], h', 0, 0)) (k2 : ∀ (L : cv_L) (h' : cv_H), lo_K Gn h h' → G (28, L, [], h', 0, 0)) : G (0, cv_ent 0 [cv_r 0, cv_i g, cv_i w], [], h, 0, 0) := by
  show G (0, [(0, cv_r 0), (1, cv_i g), (2, cv_i w)], [], h, 0, 0)
  refine gd_ld hR (lo_o (show lo_b 0 (.aload_n 0) 1 0 0 0 = true by decide +kernel)) rfl rfl rfl rfl ?_
  refine gd_ld hR (lo_o (show lo_b 1 (.iload_n 1) 1 0 0 0 = true by decide +kernel)) rfl rfl rfl rfl ?_
  refine gd_cv (as := [cv_i g]) (stk := []) (k := 0) (ci := 11) hR (lo_o (show lo_b 2 (.invokevirtual 155) 3 114 1 ((11 : Nat) : Int) = true by decide +kernel)) (by decide) hT rfl rfl rfl rfl ⟨rfl, rfl⟩ (cw_HX hz_X11_isGate rfl (cw_Xok_no2 hX) ⟨hT, hP⟩ ⟨.inl ⟨by decide, 0, rfl, rfl⟩, ⟨_, rfl, cw_top_ok _⟩, trivial⟩ (fun t ht => absurd ht List.not_mem_nil)) (fun o ho => ?_)
  obtain ⟨x, h1, rfl, -, T1, P1, F1, tx⟩ := po_int ho rfl
  refine gd_if0 hR (lo_o (show lo_b 5 (.ifCond .ne 13) 3 0 0 0 = true by decide +kernel)) rfl (t := 18) rfl (fun (q : x.toInt ≠ 0) => ?_) (fun _ => k1 _ h1 ⟨T1, P1, F1⟩)
  obtain ⟨_, e0, gx, eg, g0, g3, -⟩ := (tx q).1 _ List.mem_cons_self
  cases e0
  cases eg
  refine gd_ld hR (lo_o (show lo_b 18 (.iload_n 2) 1 0 0 0 = true by decide +kernel)) rfl rfl rfl rfl ?_
  refine gd_if0 hR (lo_o (show lo_b 19 (.ifCond .lt 9) 3 0 0 0 = true by decide +kernel)) rfl (t := 28) rfl (fun _ => k2 _ h1 ⟨T1, P1, F1⟩) (fun (q1 : ¬ w.toInt < 0) => ?_)
  refine gd_ld hR (lo_o (show lo_b 22 (.iload_n 2) 1 0 0 0 = true by decide +kernel)) rfl rfl rfl rfl ?_
  refine hR.1 _ _ (25, [(0, cv_r 0), (1, cv_i g), (2, cv_i w)], [cv_i (Int8.ofInt 10).toInt32, cv_i w], h1, 0, 0) (lo_o (show lo_b 23 (.bipush 10) 2 0 0 0 = true by decide +kernel)) rfl ?_
  refine gd_if hR (lo_o (show lo_b 25 (.if_icmp .le 13) 3 0 0 0 = true by decide +kernel)) rfl (t := 38) rfl (fun (q2 : w.toInt ≤ (Int8.ofInt 10).toInt32.toInt) => ?_) (fun _ => k2 _ h1 ⟨T1, P1, F1⟩)
  rw [show (Int8.ofInt 10).toInt32.toInt = 10 by decide] at q2
  refine gd_ld hR (lo_o (show lo_b 38 (.aload_n 0) 1 0 0 0 = true by decide +kernel)) rfl rfl rfl rfl ?_
  obtain ⟨kr1, ar1, sr1⟩ := ri_refs (k := 0) (d := 11) (f := 7) T1 rfl rfl rfl (by decide)
  refine gd_gf hR (lo_o (show lo_b 39 (.getfield 50) 3 11 7 0 = true by decide +kernel)) T1 (k := 0) rfl rfl ar1 ?_
  refine gd_ld hR (lo_o (show lo_b 42 (.iload_n 1) 1 0 0 0 = true by decide +kernel)) rfl rfl rfl rfl ?_
  dsimp only at g0 g3
  refine gd_aa hR (lo_o (show lo_b 43 .aaload 1 0 0 0 = true by decide +kernel)) T1 sr1 rfl (j := g.toInt.toNat) (by omega) (by omega) (fun kg hkg => ?_)
  refine hR.1 _ _ (45, lo_L kg g w, [], h1, 0, 0) (lo_o (show lo_b 44 (.astore_n 3) 1 0 0 0 = true by decide +kernel)) rfl ?_
  refine gd_ld hR (lo_o (show lo_b 45 (.iload_n 2) 1 0 0 0 = true by decide +kernel)) rfl rfl rfl rfl ?_
  obtain ⟨k, hk, rfl⟩ := lo_nI (by omega) q2
  refine hR.1 _ _ (lo_tgs.getD k 0, lo_L kg g (nI k), [], h1, 0, 0) (lo_o (show lo_b 46 (.tableswitch 119 0 9 lo_offs) 54 0 0 0 = true by decide +kernel)) (by rw [lo_sw, lo_swk k hk]; rfl) ?_
  have kr' : ∀ (pc : Nat) (L : cv_L) (x : Int32) (h' : cv_H), pc ∈ lo_rets → lo_K Gn h1 h' → G (pc, L, [cv_i x], h', 0, 0) := fun pc L x h' a b => kr pc L x h' a ⟨b.1, b.2.1, cw_Fr_tr F1 b.2.2⟩
  match k, hk with
  | 0, _ => exact lo_at100 hR hX T1 P1 hkg g _ kr'
  | 1, _ => exact lo_at108 hR hX T1 P1 hkg g _ kr'
  | 2, _ => exact lo_at116 hR hX T1 P1 hkg g _ kr'
  | 3, _ => exact lo_at124 hR hX T1 P1 hkg g _ kr'
  | 4, _ => exact lo_at132 hR hX T1 P1 hkg g _ kr'
  | 5, _ => exact lo_at137 hR hX T1 P1 hkg g _ kr'
  | 6, _ => exact lo_at142 hR hX T1 P1 hkg g _ kr'
  | 7, _ => exact lo_at150 hR hX T1 P1 hkg g _ kr'
  | 8, _ => exact lo_at155 hR hX T1 P1 hkg g _ kr'
  | 9, _ => exact lo_at160 hR hX T1 P1 hkg g _ kr'
  | 10, _ => exact lo_at165 hR hX T1 P1 hkg g _ kr'
  | k + 11, hk => omega
end LO
