section
/-! ===== the law over the small machine: what its goal is closed under ===== -/
/-- a call that leaves all cells of both sides as they are -/
def lg_S (h h' : cv_H) : Prop := ∀ k d i : Nat, cw_sh[k]? = some d → cw_at h' k i = cw_at h k i
def lg_mk (m : Nat) : Bool := m == 0
theorem lg_S_fr {m : Nat} {h h' : cv_H} (hF : cw_Fr cw_Ds cw_sh m h h') (b : lg_mk m = true) : lg_S h h' := by
  unfold lg_mk at b
  rw [beq_iff_eq] at b
  subst b
  have bz : ∀ d s, cw_bit 0 d s = false := fun d s => by unfold cw_bit; exact Nat.zero_testBit _
  intro k d i hk
  refine hF.2 k d i hk ?_
  unfold cw_tch
  split
  · exact bz _ _
  · rw [bz, bz]; rfl
  · exact bz _ _
theorem lg_E_S {h h' : cv_H} (e : lg_E h) (s : lg_S h h') : lg_E h' := by
  have a : ∀ k i, k < 149 → cw_at h' k i = cw_at h k i := fun k i hk => by
    by_cases c : k < 111
    · obtain ⟨d, hd, -⟩ := sh_c c
      exact s k d i hd
    · obtain ⟨d, hd, -⟩ := sh_r (k := k) (by omega) hk
      exact s k d i hd
  exact ⟨zTa_e (fun k i u => a k i (by omega)) e.1, zST_e a e.2⟩
def lg_R (X : cv_X) (G : cv_S → Prop) : Prop :=
  (∀ (q : cv_Q) (S S' : cv_S), cv_op mt_L_law S.1 = some q → cv_one X q S = some S' → G S' → G S) ∧
  (∀ (q : cv_Q) (S : cv_S) (j : Nat) (av stk : List cv_V) (o : cv_O), cv_op mt_L_law S.1 = some q → q.2.2.2.1 < 9000 → cv_call q S = some (j, av, stk) → cv_fits mt_L_law (mt_all j) S.2.2.2.2.1 S.2.2.2.2.2 (cv_wid av) stk = true → cw_Ev fk_all mt_all (fun j => bif j == 2 then none else X j) j (0, cv_ent 0 av, [], S.2.2.2.1, 0, 0) o →
    G (S.1 + q.2.2.1, S.2.1, o.1.toList ++ stk, o.2, S.2.2.2.2.1 + (mt_all j).2.2.1, S.2.2.2.2.2 + (mt_all j).2.2.2.1) → G S) ∧
  (∀ (pc : Nat) (L : cv_L) (x : Int64) (h : cv_H) (c n : Nat), (pc = 873 ∨ pc = 890) → G (pc + 1, L, [], h, c, n) → G (pc, L, [cv_l x], h, c, n)) ∧
  (∀ (L : cv_L) (h : cv_H) (c n : Nat) (g w : Int32) (Gn : Int) (y : Int64), cw_T Gn h → cw_PP Gn h → h[149]? = some (cv_cl [y]) → c + 20 ≤ 601024 → n + 200 ≤ 7293034 →
    (∀ (x : Int32) (h' : cv_H) (y' : Int64), cw_T Gn h' → cw_PP Gn h' → lg_S h h' → h'[149]? = some (cv_cl [y']) → G (377, L, [cv_i x], h', c + 20, n + 200)) → G (374, L, [cv_r 149, cv_i w, cv_i g, cv_r 0], h, c, n)) ∧
  (∀ (L : cv_L) (h : cv_H) (c n : Nat), c ≤ 601024 → n ≤ 7293034 → G (1494, L, [cv_i 1], h, c, n))
def lg_L (L : cv_L) (i : Int32) : Prop := cv_get L 0 = some (cv_s 2) ∧ cv_get L 1 = some (cv_r 0) ∧ cv_get L 2 = some (cv_r 111) ∧ cv_get L 3 = some (cv_r 149) ∧ cv_get L 4 = some (cv_i i)
def lg_H (h : cv_H) : Prop := ∃ G : Int, cw_T G h ∧ cw_PP G h ∧ lg_E h ∧ ∃ y : Int64, h[149]? = some (cv_cl [y])
def lg_v (xs : List Int32) (i : Int32) (j : Nat) : Int32 := xs.getD (i + Int32.ofInt (j : Int)).toNatClampNeg 0
def lg_o (pc : Nat) (ins : Instr) (len a b : Nat) (z : Int) : Bool := match cv_op mt_L_law pc with
  | some q => (q.1 == pc) && (decide (q.2.1 = ins) && ((q.2.2.1 == len) && ((q.2.2.2.1 == a) && ((q.2.2.2.2.1 == b) && decide (q.2.2.2.2.2 = z)))))
  | none => false
theorem lg_o_ok {pc : Nat} {ins : Instr} {len a b : Nat} {z : Int} (h : lg_o pc ins len a b z = true) : cv_op mt_L_law pc = some (pc, ins, len, a, b, z) := by
  unfold lg_o at h
  split at h
  · rename_i q hq
    obtain ⟨q1, q2, q3, q4, q5, q6⟩ := q
    simp only [Bool.and_eq_true, beq_iff_eq, decide_eq_true_eq] at h
    obtain ⟨rfl, rfl, rfl, rfl, rfl, rfl⟩ := h
    exact hq
  · cases h
/-- one call's numbers out of the script -/
def lg_pa (pc : Nat) : List Nat → Bool
  | [] => true
  | j :: js => lg_o pc (.aload_n 0) 1 0 0 0 && (lg_o (pc + 1) (.iload 4) 2 0 0 0 && (lg_o (pc + 3) (.iconst (j : Int)) 1 0 0 0 && (lg_o (pc + 4) .iadd 1 0 0 0 && (lg_o (pc + 5) .iaload 1 0 0 0 && (decide (j ≤ 5) && lg_pa (pc + 6) js)))))
theorem lg_i32 {i : Int32} {j : Nat} {m : Nat} (h0 : 0 ≤ i.toInt) (h6 : i.toInt + 6 ≤ m) (hl : m ≤ 3072) (hj : j ≤ 5) : (i + Int32.ofInt (j : Int)).toInt = i.toInt + j := by
  have e : (Int32.ofInt (j : Int)).toInt = j := by
    rw [Int32.toInt_ofInt]
    exact cw_bm (by omega) (by omega)
  rw [Int32.toInt_add, e, cw_bm (by omega) (by omega)]
theorem lg_ix {xs : List Int32} {x : Int32} (h0 : 0 ≤ x.toInt) (h1 : x.toInt < xs.length) : cv_ix x xs.length = true ∧ xs[x.toNatClampNeg]? = some (xs.getD x.toNatClampNeg 0) := by
  have e : x.toNatClampNeg = x.toInt.toNat := rfl
  have hlt : x.toNatClampNeg < xs.length := by rw [e]; omega
  refine ⟨?_, ?_⟩
  · unfold cv_ix
    rw [Bool.and_eq_true]
    refine ⟨decide_eq_true ?_, decide_eq_true hlt⟩
    rw [Int32.le_iff_toInt_le]
    exact h0
  · rw [List.getD_eq_getElem?_getD, List.getElem?_eq_getElem hlt]
    rfl
section LG
variable {X : cv_X} {G : cv_S → Prop} {xs : List Int32} {L : cv_L} {i : Int32} {h : cv_H} {c n pc : Nat} {st : List cv_V}
theorem lg_ld {q : Instr} {len a b k kd : Nat} {z : Int} {v : cv_V} (hR : lg_R X G) (ho : cv_op mt_L_law pc = some (pc, q, len, a, b, z)) (hp : cv_push (pc, q, len, a, b, z) = none) (hl : cv_load q = some (k, kd)) (hv : cv_get L k = some v) (hk : cv_kind kd v = true) (K : G (pc + len, L, v :: st, h, c, n)) : G (pc, L, st, h, c, n) := by
  refine hR.1 _ _ _ ho ?_ K
  unfold cv_one
  dsimp only
  rw [hp]
  dsimp only
  rw [hl]
  dsimp only
  rw [hv]
  dsimp only
  rw [hk]
  rfl
theorem lg_iald {x : Int32} {len a b : Nat} {z : Int} (hR : lg_R X G) (h2 : X 2 = some xs) (ho : cv_op mt_L_law pc = some (pc, .iaload, len, a, b, z)) (h0 : 0 ≤ x.toInt) (h1 : x.toInt < xs.length) (K : G (pc + len, L, cv_i (xs.getD x.toNatClampNeg 0) :: st, h, c, n)) : G (pc, L, cv_i x :: cv_s 2 :: st, h, c, n) := by
  obtain ⟨e1, e2⟩ := lg_ix h0 h1
  refine hR.1 _ _ _ ho ?_ K
  show (match X 2 with
    | some xs => _
    | none => _) = _
  rw [h2]
  dsimp only
  rw [e1, e2]
  rfl
theorem lg_args (hR : lg_R X G) (h2 : X 2 = some xs) (h0 : 0 ≤ i.toInt) (h6 : i.toInt + 6 ≤ xs.length) (hl : xs.length ≤ 3072) (hL : lg_L L i) : ∀ (js : List Nat) (pc : Nat) (st : List cv_V), lg_pa pc js = true →
    G (pc + 6 * js.length, L, (js.map fun j => cv_i (lg_v xs i j)).reverse ++ st, h, c, n) → G (pc, L, st, h, c, n) := by
  intro js
  induction js with
  | nil => intro pc st _ K; exact K
  | cons j js ih =>
    intro pc st hp K
    simp only [lg_pa, Bool.and_eq_true, decide_eq_true_eq] at hp
    obtain ⟨p1, p2, p3, p4, p5, hj, p6⟩ := hp
    refine lg_ld hR (lg_o_ok p1) rfl rfl hL.1 rfl ?_
    refine lg_ld hR (lg_o_ok p2) rfl rfl hL.2.2.2.2 rfl ?_
    refine hR.1 _ (pc + 3, L, cv_i i :: cv_s 2 :: st, h, c, n) (pc + 4, L, cv_i (Int32.ofInt (j : Int)) :: cv_i i :: cv_s 2 :: st, h, c, n) (lg_o_ok p3) rfl ?_
    refine hR.1 _ (pc + 4, L, cv_i (Int32.ofInt (j : Int)) :: cv_i i :: cv_s 2 :: st, h, c, n) (pc + 5, L, cv_i (i + Int32.ofInt (j : Int)) :: cv_s 2 :: st, h, c, n) (lg_o_ok p4) rfl ?_
    have e := lg_i32 h0 h6 hl hj
    refine lg_iald hR h2 (lg_o_ok p5) (by omega) (by omega) ?_
    refine ih (pc + 6) _ p6 ?_
    have e1 : pc + 6 + 6 * js.length = pc + 6 * (j :: js).length := by simp only [List.length_cons]; omega
    rw [e1]
    rw [List.map_cons, List.reverse_cons, List.append_assoc] at K
    exact K
theorem lg_wid (js : List Nat) (f : Nat → Int32) : cv_wid (js.map fun j => cv_i (f j)) = js.length := by
  induction js with
  | nil => rfl
  | cons j js ih =>
    rw [List.map_cons, List.length_cons, ← ih]
    unfold cv_wid
    rw [List.map_cons, List.sum_cons, Nat.add_comm]
    rfl
/-- a call of a method that makes no cells -/
theorem lg_cv {ix k d ci j np : Nat} {fs : List cw_A} {as stk : List cv_V} {Gn : Int} (hR : lg_R X G) (ho : cv_op mt_L_law pc = some (pc, .invokevirtual ix, 3, j, np, (ci : Int))) (hn : j < 9000) (hT : cw_T Gn h) (hk : cw_sh[k]? = some d) (hD : cw_Ds[d]? = some (.inr (.inr (.inr (ci, fs))))) (hl : as.length = np) (hf : cv_fits mt_L_law (mt_all j) 0 0 (cv_wid (cv_r k :: as)) stk = true) (hr : (mt_all j).2.2.1 = 0 ∧ (mt_all j).2.2.2.1 = 0) (hc : c ≤ 601024) (hs : n ≤ 7293034) {R : cv_O → Prop} (hK : cw_X (fun j => bif j == 2 then none else X j) j R 0 (cv_ent 0 (cv_r k :: as)) [] h)
    (kk : ∀ o, R o → G (pc + 3, L, o.1.toList ++ stk, o.2, c, n)) : G (pc, L, as.reverse ++ cv_r k :: stk, h, c, n) := by
  obtain ⟨vs, h1, -⟩ := cw_cell_o hD (hT k d hk)
  obtain ⟨o, hev, hRo⟩ := hK
  subst hl
  have e1 : (as.reverse ++ cv_r k :: stk).take as.length = as.reverse := by
    rw [List.take_append_of_le_length (by simp)]; exact List.take_of_length_le (by simp)
  have e2 : (as.reverse ++ cv_r k :: stk).drop as.length = cv_r k :: stk := by
    rw [List.drop_append_of_le_length (by simp)]
    rw [List.drop_of_length_le (by simp)]
    rfl
  refine hR.2.1 _ (pc, L, as.reverse ++ cv_r k :: stk, h, c, n) j (cv_r k :: as) stk o ho hn ?_ ?_ hev ?_
  · unfold cv_call
    dsimp only
    rw [decide_eq_true (by simp), cond_true, e1, e2]
    dsimp only
    rw [h1]
    dsimp only
    rw [Int.toNat_natCast, beq_self_eq_true, List.reverse_reverse]
    rfl
  · unfold cv_fits at hf ⊢
    dsimp only
    simp only [Bool.and_eq_true, decide_eq_true_eq] at hf ⊢
    obtain ⟨f1, f2, f3, f4, f5, f6⟩ := hf
    rw [hr.1, hr.2]
    exact ⟨f1, hc, hs, f4, f5, f6⟩
  · dsimp only
    rw [hr.1, hr.2, Nat.add_zero, Nat.add_zero]
    exact kk o hRo
def lg_pc (pc : Nat) (lv : Fin 4) (js : List Nat) (ix j d : Nat) : Bool := lg_o pc (.aload_n lv) 1 0 0 0 && (lg_pa (pc + 1) js && lg_o (pc + 1 + 6 * js.length) (.invokevirtual ix) 3 j js.length (d : Int))
theorem lg_callJ {js : List Nat} {lv : Fin 4} {ix j k d p1 : Nat} {fs : List cw_A} {Gn : Int} {R : cv_O → Prop} (hR : lg_R X G) (h2 : X 2 = some xs) (h0 : 0 ≤ i.toInt) (h6 : i.toInt + 6 ≤ xs.length) (hl : xs.length ≤ 3072) (hL : lg_L L i) (hT : cw_T Gn h) (hc : c ≤ 601024) (hs : n ≤ 7293034)
    (hp : lg_pc pc lv js ix j d = true) (hlv : cv_get L lv.val = some (cv_r k)) (hk : cw_sh[k]? = some d) (hD : cw_Ds[d]? = some (.inr (.inr (.inr (d, fs))))) (fit : cv_fits mt_L_law (mt_all j) 0 0 (1 + js.length) st = true) (room : (mt_all j).2.2.1 = 0 ∧ (mt_all j).2.2.2.1 = 0) (hj : j < 9000) (e1 : pc + 1 + 6 * js.length + 3 = p1)
    (hK : cw_X (fun j => bif j == 2 then none else X j) j R 0 (cv_ent 0 (cv_r k :: (js.map (lg_v xs i)).map cv_i)) [] h) (kk : ∀ o, R o → G (p1, L, o.1.toList ++ st, o.2, c, n)) : G (pc, L, st, h, c, n) := by
  unfold lg_pc at hp
  simp only [Bool.and_eq_true] at hp
  obtain ⟨p1', p2, p3⟩ := hp
  have em : (js.map (lg_v xs i)).map cv_i = js.map fun j => cv_i (lg_v xs i j) := by rw [List.map_map]; rfl
  rw [em] at hK
  refine lg_ld hR (lg_o_ok p1') rfl rfl hlv rfl ?_
  refine lg_args hR h2 h0 h6 hl hL js (pc + 1) _ p2 ?_
  have hw : cv_wid (cv_r k :: js.map fun j => cv_i (lg_v xs i j)) = 1 + js.length := by
    rw [← lg_wid js (lg_v xs i)]
    unfold cv_wid
    rw [List.map_cons, List.sum_cons]
    rfl
  refine lg_cv hR (lg_o_ok p3) hj hT hk hD (by simp) (by rw [hw]; exact fit) room hc hs hK (fun o ho => ?_)
  rw [e1]
  exact kk o ho
theorem lg_pop {v : cv_V} (hR : lg_R X G) (hp : lg_o pc .pop 1 0 0 0 = true) (hv : cv_isL v = false) (K : G (pc + 1, L, st, h, c, n)) : G (pc, L, v :: st, h, c, n) := by
  refine hR.1 _ _ _ (lg_o_ok hp) ?_ K
  show (bif !cv_isL v then _ else none) = _
  rw [hv]
  rfl
theorem lg_goto {off : Int} {t : Nat} (hR : lg_R X G) (hp : lg_o pc (.goto off) 3 0 0 0 = true) (hj : (cv_jmp pc off && (cv_tgt pc off == t)) = true) (K : G (t, L, st, h, c, n)) : G (pc, L, st, h, c, n) := by
  simp only [Bool.and_eq_true, beq_iff_eq] at hj
  obtain ⟨j1, rfl⟩ := hj
  refine hR.1 _ _ _ (lg_o_ok hp) ?_ K
  show (bif cv_jmp pc off then _ else none) = _
  rw [j1]
  rfl
def lg_fit (j a : Nat) : Prop := cv_fits mt_L_law (mt_all j) 0 0 (1 + a) [] = true ∧ ((mt_all j).2.2.1 = 0 ∧ (mt_all j).2.2.2.1 = 0) ∧ j < 9000
/-- a case of the law: the class is called, then the reference, both answers are thrown away -/
theorem lg_case {js : List Nat} {ixc ixr jc jr : Nat} {p1 p2 p3 : Nat} {r : Bool} (hR : lg_R X G) (hX : cw_Xok X) (h2 : X 2 = some xs) (h0 : 0 ≤ i.toInt) (h6 : i.toInt + 6 ≤ xs.length) (hl : xs.length ≤ 3072) (hL : lg_L L i) (hH : lg_H h) (hc : c ≤ 601024) (hs : n ≤ 7293034)
    (kk : ∀ h', lg_H h' → G (1487, L, [], h', c, n)) (J : zJ jc jr js.length r) (fc : lg_fit jc js.length) (fr : lg_fit jr js.length)
    (e1 : pc + 1 + 6 * js.length + 3 = p1) (e2 : p1 + 1 + 1 + 6 * js.length + 3 = p2) (e3 : p2 + 1 = p3)
    (hp : (lg_pc pc 1 js ixc jc 11 && (lg_o p1 .pop 1 0 0 0 && (lg_pc (p1 + 1) 2 js ixr jr 12 && (lg_o p2 .pop 1 0 0 0 && (lg_o p3 (.goto (1487 - (p3 : Int))) 3 0 0 0 && (cv_jmp p3 (1487 - (p3 : Int)) && (cv_tgt p3 (1487 - (p3 : Int)) == 1487))))))) = true) : G (pc, L, [], h, c, n) := by
  simp only [Bool.and_eq_true] at hp
  obtain ⟨c1, c2, c3, c4, c5, c6⟩ := hp
  subst e3
  obtain ⟨Gn, hT, hP, he, y, hy⟩ := hH
  refine lg_callJ hR h2 h0 h6 hl hL hT hc hs c1 hL.2.1 (k := 0) rfl rfl fc.1 fc.2.1 fc.2.2 e1 (J _ Gn h (js.map (lg_v xs i)) (cw_Xok_no2 hX) (by simp) hT hP he) (fun o ho => ?_)
  obtain ⟨x, h1, rfl, hT1, y1, J2⟩ := ho
  refine lg_pop hR c2 rfl ?_
  refine lg_callJ hR h2 h0 h6 hl hL hT1 hc hs c3 hL.2.2.1 (k := 111) rfl rfl fr.1 fr.2.1 fr.2.2 e2 J2 (fun o ho => ?_)
  obtain ⟨x2, G2, h3, rfl, hT2, hP2, he2, y2, -⟩ := ho
  refine lg_pop hR c4 rfl ?_
  exact lg_goto hR c5 (by rw [Bool.and_eq_true]; exact c6) (kk _ ⟨G2, hT2, hP2, he2, y, by rw [y2]; exact hy⟩)
/-- the case whose answers are compared -/
theorem lg_cmpJ {js : List Nat} {ixc ixr jc jr : Nat} {p1 p2 : Nat} (hR : lg_R X G) (hX : cw_Xok X) (h2 : X 2 = some xs) (h0 : 0 ≤ i.toInt) (h6 : i.toInt + 6 ≤ xs.length) (hl : xs.length ≤ 3072) (hL : lg_L L i) (hH : lg_H h) (hc : c ≤ 601024) (hs : n ≤ 7293034)
    (kk : ∀ h', lg_H h' → G (1487, L, [], h', c, n)) (J : zJ jc jr js.length true) (fc : lg_fit jc js.length) (fr : lg_fit jr js.length) (fx : ∀ x : Int32, cv_fits mt_L_law (mt_all jr) 0 0 (1 + js.length) [cv_i x] = true)
    (e1 : pc + 1 + 6 * js.length + 3 = p1) (e2 : p1 + 1 + 6 * js.length + 3 = p2)
    (hp : (lg_pc pc 1 js ixc jc 11 && (lg_pc p1 2 js ixr jr 12 && (lg_o p2 (.if_icmp .eq (1487 - (p2 : Int))) 3 0 0 0 && (cv_jmp p2 (1487 - (p2 : Int)) && (cv_tgt p2 (1487 - (p2 : Int)) == 1487))))) = true) : G (pc, L, [], h, c, n) := by
  simp only [Bool.and_eq_true, beq_iff_eq] at hp
  obtain ⟨c1, c3, c5, c6, c7⟩ := hp
  obtain ⟨Gn, hT, hP, he, y, hy⟩ := hH
  refine lg_callJ hR h2 h0 h6 hl hL hT hc hs c1 hL.2.1 (k := 0) rfl rfl fc.1 fc.2.1 fc.2.2 e1 (J _ Gn h (js.map (lg_v xs i)) (cw_Xok_no2 hX) (by simp) hT hP he) (fun o ho => ?_)
  obtain ⟨x, h1, rfl, hT1, y1, J2⟩ := ho
  show G (p1, L, [cv_i x], h1, c, n)
  refine lg_callJ hR h2 h0 h6 hl hL hT1 hc hs c3 hL.2.2.1 (k := 111) rfl rfl (fx x) fr.2.1 fr.2.2 e2 J2 (fun o ho => ?_)
  obtain ⟨x2, G2, h3, rfl, hT2, hP2, he2, y2, ex⟩ := ho
  have ex := ex rfl
  subst ex
  refine hR.1 _ (p2, L, [cv_i x, cv_i x], h3, c, n) (1487, L, [], h3, c, n) (lg_o_ok c5) ?_ (kk h3 ⟨G2, hT2, hP2, he2, y, by rw [y2]; exact hy⟩)
  show (bif cv_jmp p2 (1487 - (p2 : Int)) then some ((bif decide (x = x) then cv_tgt p2 (1487 - (p2 : Int)) else p2 + 3), L, [], h3, c, n) else none) = _
  rw [decide_eq_true (rfl : x = x), c6, c7]
  rfl
/-- the same with answers of two words -/
theorem lg_caseL {js : List Nat} {ixc ixr jc jr : Nat} {r : Bool} (hR : lg_R X G) (hX : cw_Xok X) (h2 : X 2 = some xs) (h0 : 0 ≤ i.toInt) (h6 : i.toInt + 6 ≤ xs.length) (hl : xs.length ≤ 3072) (hL : lg_L L i) (hH : lg_H h) (hc : c ≤ 601024) (hs : n ≤ 7293034)
    (kk : ∀ h', lg_H h' → G (1487, L, [], h', c, n)) (J : zJL jc jr js.length r) (fc : lg_fit jc js.length) (fr : lg_fit jr js.length)
    (e1 : pc + 1 + 6 * js.length + 3 = 873) (e2 : 874 + 1 + 6 * js.length + 3 = 890)
    (hp : (lg_pc pc 1 js ixc jc 11 && (lg_pc 874 2 js ixr jr 12 && (lg_o 891 (.goto (1487 - 891)) 3 0 0 0))) = true) : G (pc, L, [], h, c, n) := by
  simp only [Bool.and_eq_true] at hp
  obtain ⟨c1, c3, c5⟩ := hp
  obtain ⟨Gn, hT, hP, he, y, hy⟩ := hH
  refine lg_callJ hR h2 h0 h6 hl hL hT hc hs c1 hL.2.1 (k := 0) rfl rfl fc.1 fc.2.1 fc.2.2 e1 (J _ Gn h (js.map (lg_v xs i)) (cw_Xok_no2 hX) (by simp) hT hP he) (fun o ho => ?_)
  obtain ⟨x, h1, rfl, hT1, y1, J2⟩ := ho
  refine hR.2.2.1 873 L x h1 c n (.inl rfl) ?_
  refine lg_callJ hR h2 h0 h6 hl hL hT1 hc hs c3 hL.2.2.1 (k := 111) rfl rfl fr.1 fr.2.1 fr.2.2 e2 J2 (fun o ho => ?_)
  obtain ⟨x2, G2, h3, rfl, hT2, hP2, he2, y2, -⟩ := ho
  refine hR.2.2.1 890 L x2 h3 c n (.inr rfl) ?_
  exact lg_goto hR c5 (by decide) (kk _ ⟨G2, hT2, hP2, he2, y, by rw [y2]; exact hy⟩)
end LG
end
section
/-! ===== the law, call by call ===== -/
section LG
variable {X : cv_X} {G : cv_S → Prop} {xs : List Int32} {L : cv_L} {i : Int32} {h : cv_H} {c n : Nat}
set_option maxRecDepth 20000
theorem lg_c0 (hR : lg_R X G) (hX : cw_Xok X) (h2 : X 2 = some xs) (h0 : 0 ≤ i.toInt) (h6 : i.toInt + 6 ≤ xs.length) (hl : xs.length ≤ 3072) (hL : lg_L L i) (hH : lg_H h) (hc : c ≤ 601024) (hs : n ≤ 7293034) (kk : ∀ h', lg_H h' → G (1487, L, [], h', c, n)) : G (200, L, [], h, c, n) := lg_case (js := [1, 2, 3, 4, 5]) (ixc := 21) (ixr := 25) (p1 := 234) (p2 := 269) (p3 := 270) hR hX h2 h0 h6 hl hL hH hc hs kk zJ_c0 ⟨by decide +kernel, ⟨rfl, rfl⟩, by decide⟩ ⟨by decide +kernel, ⟨rfl, rfl⟩, by decide⟩ rfl rfl rfl (by decide +kernel)
theorem lg_c1 (hR : lg_R X G) (hX : cw_Xok X) (h2 : X 2 = some xs) (h0 : 0 ≤ i.toInt) (h6 : i.toInt + 6 ≤ xs.length) (hl : xs.length ≤ 3072) (hL : lg_L L i) (hH : lg_H h) (hc : c ≤ 601024) (hs : n ≤ 7293034) (kk : ∀ h', lg_H h' → G (1487, L, [], h', c, n)) : G (273, L, [], h, c, n) := lg_case (js := [1]) (ixc := 26) (ixr := 30) (p1 := 283) (p2 := 294) (p3 := 295) hR hX h2 h0 h6 hl hL hH hc hs kk zJ_c1 ⟨by decide +kernel, ⟨rfl, rfl⟩, by decide⟩ ⟨by decide +kernel, ⟨rfl, rfl⟩, by decide⟩ rfl rfl rfl (by decide +kernel)
theorem lg_c2 (hR : lg_R X G) (hX : cw_Xok X) (h2 : X 2 = some xs) (h0 : 0 ≤ i.toInt) (h6 : i.toInt + 6 ≤ xs.length) (hl : xs.length ≤ 3072) (hL : lg_L L i) (hH : lg_H h) (hc : c ≤ 601024) (hs : n ≤ 7293034) (kk : ∀ h', lg_H h' → G (1487, L, [], h', c, n)) : G (298, L, [], h, c, n) := lg_case (js := [1]) (ixc := 31) (ixr := 34) (p1 := 308) (p2 := 319) (p3 := 320) hR hX h2 h0 h6 hl hL hH hc hs kk zJ_c2 ⟨by decide +kernel, ⟨rfl, rfl⟩, by decide⟩ ⟨by decide +kernel, ⟨rfl, rfl⟩, by decide⟩ rfl rfl rfl (by decide +kernel)
theorem lg_c3 (hR : lg_R X G) (hX : cw_Xok X) (h2 : X 2 = some xs) (h0 : 0 ≤ i.toInt) (h6 : i.toInt + 6 ≤ xs.length) (hl : xs.length ≤ 3072) (hL : lg_L L i) (hH : lg_H h) (hc : c ≤ 601024) (hs : n ≤ 7293034) (kk : ∀ h', lg_H h' → G (1487, L, [], h', c, n)) : G (323, L, [], h, c, n) := lg_case (js := [1, 2]) (ixc := 35) (ixr := 38) (p1 := 339) (p2 := 356) (p3 := 357) hR hX h2 h0 h6 hl hL hH hc hs kk zJ_c3 ⟨by decide +kernel, ⟨rfl, rfl⟩, by decide⟩ ⟨by decide +kernel, ⟨rfl, rfl⟩, by decide⟩ rfl rfl rfl (by decide +kernel)
theorem lg_c5 (hR : lg_R X G) (hX : cw_Xok X) (h2 : X 2 = some xs) (h0 : 0 ≤ i.toInt) (h6 : i.toInt + 6 ≤ xs.length) (hl : xs.length ≤ 3072) (hL : lg_L L i) (hH : lg_H h) (hc : c ≤ 601024) (hs : n ≤ 7293034) (kk : ∀ h', lg_H h' → G (1487, L, [], h', c, n)) : G (400, L, [], h, c, n) := lg_case (js := [1, 2]) (ixc := 45) (ixr := 48) (p1 := 416) (p2 := 433) (p3 := 434) hR hX h2 h0 h6 hl hL hH hc hs kk zJ_c5 ⟨by decide +kernel, ⟨rfl, rfl⟩, by decide⟩ ⟨by decide +kernel, ⟨rfl, rfl⟩, by decide⟩ rfl rfl rfl (by decide +kernel)
theorem lg_c6 (hR : lg_R X G) (hX : cw_Xok X) (h2 : X 2 = some xs) (h0 : 0 ≤ i.toInt) (h6 : i.toInt + 6 ≤ xs.length) (hl : xs.length ≤ 3072) (hL : lg_L L i) (hH : lg_H h) (hc : c ≤ 601024) (hs : n ≤ 7293034) (kk : ∀ h', lg_H h' → G (1487, L, [], h', c, n)) : G (437, L, [], h, c, n) := lg_case (js := [1]) (ixc := 49) (ixr := 52) (p1 := 447) (p2 := 458) (p3 := 459) hR hX h2 h0 h6 hl hL hH hc hs kk zJ_c6 ⟨by decide +kernel, ⟨rfl, rfl⟩, by decide⟩ ⟨by decide +kernel, ⟨rfl, rfl⟩, by decide⟩ rfl rfl rfl (by decide +kernel)
theorem lg_c7 (hR : lg_R X G) (hX : cw_Xok X) (h2 : X 2 = some xs) (h0 : 0 ≤ i.toInt) (h6 : i.toInt + 6 ≤ xs.length) (hl : xs.length ≤ 3072) (hL : lg_L L i) (hH : lg_H h) (hc : c ≤ 601024) (hs : n ≤ 7293034) (kk : ∀ h', lg_H h' → G (1487, L, [], h', c, n)) : G (462, L, [], h, c, n) := lg_case (js := [1]) (ixc := 53) (ixr := 56) (p1 := 472) (p2 := 483) (p3 := 484) hR hX h2 h0 h6 hl hL hH hc hs kk zJ_c7 ⟨by decide +kernel, ⟨rfl, rfl⟩, by decide⟩ ⟨by decide +kernel, ⟨rfl, rfl⟩, by decide⟩ rfl rfl rfl (by decide +kernel)
theorem lg_c8 (hR : lg_R X G) (hX : cw_Xok X) (h2 : X 2 = some xs) (h0 : 0 ≤ i.toInt) (h6 : i.toInt + 6 ≤ xs.length) (hl : xs.length ≤ 3072) (hL : lg_L L i) (hH : lg_H h) (hc : c ≤ 601024) (hs : n ≤ 7293034) (kk : ∀ h', lg_H h' → G (1487, L, [], h', c, n)) : G (487, L, [], h, c, n) := lg_case (js := [1, 2]) (ixc := 57) (ixr := 60) (p1 := 503) (p2 := 520) (p3 := 521) hR hX h2 h0 h6 hl hL hH hc hs kk zJ_c8 ⟨by decide +kernel, ⟨rfl, rfl⟩, by decide⟩ ⟨by decide +kernel, ⟨rfl, rfl⟩, by decide⟩ rfl rfl rfl (by decide +kernel)
theorem lg_c9 (hR : lg_R X G) (hX : cw_Xok X) (h2 : X 2 = some xs) (h0 : 0 ≤ i.toInt) (h6 : i.toInt + 6 ≤ xs.length) (hl : xs.length ≤ 3072) (hL : lg_L L i) (hH : lg_H h) (hc : c ≤ 601024) (hs : n ≤ 7293034) (kk : ∀ h', lg_H h' → G (1487, L, [], h', c, n)) : G (524, L, [], h, c, n) := lg_case (js := [1]) (ixc := 61) (ixr := 64) (p1 := 534) (p2 := 545) (p3 := 546) hR hX h2 h0 h6 hl hL hH hc hs kk zJ_c9 ⟨by decide +kernel, ⟨rfl, rfl⟩, by decide⟩ ⟨by decide +kernel, ⟨rfl, rfl⟩, by decide⟩ rfl rfl rfl (by decide +kernel)
theorem lg_c10 (hR : lg_R X G) (hX : cw_Xok X) (h2 : X 2 = some xs) (h0 : 0 ≤ i.toInt) (h6 : i.toInt + 6 ≤ xs.length) (hl : xs.length ≤ 3072) (hL : lg_L L i) (hH : lg_H h) (hc : c ≤ 601024) (hs : n ≤ 7293034) (kk : ∀ h', lg_H h' → G (1487, L, [], h', c, n)) : G (549, L, [], h, c, n) := lg_case (js := [1]) (ixc := 65) (ixr := 68) (p1 := 559) (p2 := 570) (p3 := 571) hR hX h2 h0 h6 hl hL hH hc hs kk zJ_c10 ⟨by decide +kernel, ⟨rfl, rfl⟩, by decide⟩ ⟨by decide +kernel, ⟨rfl, rfl⟩, by decide⟩ rfl rfl rfl (by decide +kernel)
theorem lg_c11 (hR : lg_R X G) (hX : cw_Xok X) (h2 : X 2 = some xs) (h0 : 0 ≤ i.toInt) (h6 : i.toInt + 6 ≤ xs.length) (hl : xs.length ≤ 3072) (hL : lg_L L i) (hH : lg_H h) (hc : c ≤ 601024) (hs : n ≤ 7293034) (kk : ∀ h', lg_H h' → G (1487, L, [], h', c, n)) : G (574, L, [], h, c, n) := lg_case (js := [1, 2]) (ixc := 69) (ixr := 73) (p1 := 590) (p2 := 607) (p3 := 608) hR hX h2 h0 h6 hl hL hH hc hs kk zJ_c11 ⟨by decide +kernel, ⟨rfl, rfl⟩, by decide⟩ ⟨by decide +kernel, ⟨rfl, rfl⟩, by decide⟩ rfl rfl rfl (by decide +kernel)
theorem lg_c12 (hR : lg_R X G) (hX : cw_Xok X) (h2 : X 2 = some xs) (h0 : 0 ≤ i.toInt) (h6 : i.toInt + 6 ≤ xs.length) (hl : xs.length ≤ 3072) (hL : lg_L L i) (hH : lg_H h) (hc : c ≤ 601024) (hs : n ≤ 7293034) (kk : ∀ h', lg_H h' → G (1487, L, [], h', c, n)) : G (611, L, [], h, c, n) := lg_cmpJ (js := []) (ixc := 74) (ixr := 78) (p1 := 615) (p2 := 619) hR hX h2 h0 h6 hl hL hH hc hs kk zJ_c12 ⟨by decide +kernel, ⟨rfl, rfl⟩, by decide⟩ ⟨by decide +kernel, ⟨rfl, rfl⟩, by decide⟩ (fun _ => rfl) rfl rfl (by decide +kernel)
theorem lg_c13 (hR : lg_R X G) (hX : cw_Xok X) (h2 : X 2 = some xs) (h0 : 0 ≤ i.toInt) (h6 : i.toInt + 6 ≤ xs.length) (hl : xs.length ≤ 3072) (hL : lg_L L i) (hH : lg_H h) (hc : c ≤ 601024) (hs : n ≤ 7293034) (kk : ∀ h', lg_H h' → G (1487, L, [], h', c, n)) : G (624, L, [], h, c, n) := lg_case (js := [1, 2]) (ixc := 79) (ixr := 82) (p1 := 640) (p2 := 657) (p3 := 658) hR hX h2 h0 h6 hl hL hH hc hs kk zJ_c13 ⟨by decide +kernel, ⟨rfl, rfl⟩, by decide⟩ ⟨by decide +kernel, ⟨rfl, rfl⟩, by decide⟩ rfl rfl rfl (by decide +kernel)
theorem lg_c14 (hR : lg_R X G) (hX : cw_Xok X) (h2 : X 2 = some xs) (h0 : 0 ≤ i.toInt) (h6 : i.toInt + 6 ≤ xs.length) (hl : xs.length ≤ 3072) (hL : lg_L L i) (hH : lg_H h) (hc : c ≤ 601024) (hs : n ≤ 7293034) (kk : ∀ h', lg_H h' → G (1487, L, [], h', c, n)) : G (661, L, [], h, c, n) := lg_case (js := [1, 2, 3, 4]) (ixc := 83) (ixr := 87) (p1 := 689) (p2 := 718) (p3 := 719) hR hX h2 h0 h6 hl hL hH hc hs kk zJ_c14 ⟨by decide +kernel, ⟨rfl, rfl⟩, by decide⟩ ⟨by decide +kernel, ⟨rfl, rfl⟩, by decide⟩ rfl rfl rfl (by decide +kernel)
theorem lg_c15 (hR : lg_R X G) (hX : cw_Xok X) (h2 : X 2 = some xs) (h0 : 0 ≤ i.toInt) (h6 : i.toInt + 6 ≤ xs.length) (hl : xs.length ≤ 3072) (hL : lg_L L i) (hH : lg_H h) (hc : c ≤ 601024) (hs : n ≤ 7293034) (kk : ∀ h', lg_H h' → G (1487, L, [], h', c, n)) : G (722, L, [], h, c, n) := lg_case (js := [1, 2]) (ixc := 88) (ixr := 91) (p1 := 738) (p2 := 755) (p3 := 756) hR hX h2 h0 h6 hl hL hH hc hs kk zJ_c15 ⟨by decide +kernel, ⟨rfl, rfl⟩, by decide⟩ ⟨by decide +kernel, ⟨rfl, rfl⟩, by decide⟩ rfl rfl rfl (by decide +kernel)
theorem lg_c16 (hR : lg_R X G) (hX : cw_Xok X) (h2 : X 2 = some xs) (h0 : 0 ≤ i.toInt) (h6 : i.toInt + 6 ≤ xs.length) (hl : xs.length ≤ 3072) (hL : lg_L L i) (hH : lg_H h) (hc : c ≤ 601024) (hs : n ≤ 7293034) (kk : ∀ h', lg_H h' → G (1487, L, [], h', c, n)) : G (759, L, [], h, c, n) := lg_case (js := [1, 2, 3]) (ixc := 92) (ixr := 96) (p1 := 781) (p2 := 804) (p3 := 805) hR hX h2 h0 h6 hl hL hH hc hs kk zJ_c16 ⟨by decide +kernel, ⟨rfl, rfl⟩, by decide⟩ ⟨by decide +kernel, ⟨rfl, rfl⟩, by decide⟩ rfl rfl rfl (by decide +kernel)
theorem lg_c17 (hR : lg_R X G) (hX : cw_Xok X) (h2 : X 2 = some xs) (h0 : 0 ≤ i.toInt) (h6 : i.toInt + 6 ≤ xs.length) (hl : xs.length ≤ 3072) (hL : lg_L L i) (hH : lg_H h) (hc : c ≤ 601024) (hs : n ≤ 7293034) (kk : ∀ h', lg_H h' → G (1487, L, [], h', c, n)) : G (808, L, [], h, c, n) := lg_case (js := [1, 2, 3]) (ixc := 97) (ixr := 100) (p1 := 830) (p2 := 853) (p3 := 854) hR hX h2 h0 h6 hl hL hH hc hs kk zJ_c17 ⟨by decide +kernel, ⟨rfl, rfl⟩, by decide⟩ ⟨by decide +kernel, ⟨rfl, rfl⟩, by decide⟩ rfl rfl rfl (by decide +kernel)
theorem lg_c18 (hR : lg_R X G) (hX : cw_Xok X) (h2 : X 2 = some xs) (h0 : 0 ≤ i.toInt) (h6 : i.toInt + 6 ≤ xs.length) (hl : xs.length ≤ 3072) (hL : lg_L L i) (hH : lg_H h) (hc : c ≤ 601024) (hs : n ≤ 7293034) (kk : ∀ h', lg_H h' → G (1487, L, [], h', c, n)) : G (857, L, [], h, c, n) := lg_caseL (js := [1, 2]) (ixc := 101) (ixr := 105) hR hX h2 h0 h6 hl hL hH hc hs kk zJ_c18 ⟨by decide +kernel, ⟨rfl, rfl⟩, by decide⟩ ⟨by decide +kernel, ⟨rfl, rfl⟩, by decide⟩ rfl rfl (by decide +kernel)
theorem lg_c19 (hR : lg_R X G) (hX : cw_Xok X) (h2 : X 2 = some xs) (h0 : 0 ≤ i.toInt) (h6 : i.toInt + 6 ≤ xs.length) (hl : xs.length ≤ 3072) (hL : lg_L L i) (hH : lg_H h) (hc : c ≤ 601024) (hs : n ≤ 7293034) (kk : ∀ h', lg_H h' → G (1487, L, [], h', c, n)) : G (894, L, [], h, c, n) := lg_case (js := [1, 2, 3, 4, 5]) (ixc := 106) (ixr := 109) (p1 := 928) (p2 := 963) (p3 := 964) hR hX h2 h0 h6 hl hL hH hc hs kk zJ_c19 ⟨by decide +kernel, ⟨rfl, rfl⟩, by decide⟩ ⟨by decide +kernel, ⟨rfl, rfl⟩, by decide⟩ rfl rfl rfl (by decide +kernel)
theorem lg_c20 (hR : lg_R X G) (hX : cw_Xok X) (h2 : X 2 = some xs) (h0 : 0 ≤ i.toInt) (h6 : i.toInt + 6 ≤ xs.length) (hl : xs.length ≤ 3072) (hL : lg_L L i) (hH : lg_H h) (hc : c ≤ 601024) (hs : n ≤ 7293034) (kk : ∀ h', lg_H h' → G (1487, L, [], h', c, n)) : G (967, L, [], h, c, n) := lg_case (js := [1]) (ixc := 110) (ixr := 113) (p1 := 977) (p2 := 988) (p3 := 989) hR hX h2 h0 h6 hl hL hH hc hs kk zJ_c20 ⟨by decide +kernel, ⟨rfl, rfl⟩, by decide⟩ ⟨by decide +kernel, ⟨rfl, rfl⟩, by decide⟩ rfl rfl rfl (by decide +kernel)
theorem lg_c21 (hR : lg_R X G) (hX : cw_Xok X) (h2 : X 2 = some xs) (h0 : 0 ≤ i.toInt) (h6 : i.toInt + 6 ≤ xs.length) (hl : xs.length ≤ 3072) (hL : lg_L L i) (hH : lg_H h) (hc : c ≤ 601024) (hs : n ≤ 7293034) (kk : ∀ h', lg_H h' → G (1487, L, [], h', c, n)) : G (992, L, [], h, c, n) := lg_case (js := [1]) (ixc := 114) (ixr := 118) (p1 := 1002) (p2 := 1013) (p3 := 1014) hR hX h2 h0 h6 hl hL hH hc hs kk zJ_c21 ⟨by decide +kernel, ⟨rfl, rfl⟩, by decide⟩ ⟨by decide +kernel, ⟨rfl, rfl⟩, by decide⟩ rfl rfl rfl (by decide +kernel)
theorem lg_c22 (hR : lg_R X G) (hX : cw_Xok X) (h2 : X 2 = some xs) (h0 : 0 ≤ i.toInt) (h6 : i.toInt + 6 ≤ xs.length) (hl : xs.length ≤ 3072) (hL : lg_L L i) (hH : lg_H h) (hc : c ≤ 601024) (hs : n ≤ 7293034) (kk : ∀ h', lg_H h' → G (1487, L, [], h', c, n)) : G (1017, L, [], h, c, n) := lg_case (js := [1]) (ixc := 119) (ixr := 122) (p1 := 1027) (p2 := 1038) (p3 := 1039) hR hX h2 h0 h6 hl hL hH hc hs kk zJ_c22 ⟨by decide +kernel, ⟨rfl, rfl⟩, by decide⟩ ⟨by decide +kernel, ⟨rfl, rfl⟩, by decide⟩ rfl rfl rfl (by decide +kernel)
theorem lg_c23 (hR : lg_R X G) (hX : cw_Xok X) (h2 : X 2 = some xs) (h0 : 0 ≤ i.toInt) (h6 : i.toInt + 6 ≤ xs.length) (hl : xs.length ≤ 3072) (hL : lg_L L i) (hH : lg_H h) (hc : c ≤ 601024) (hs : n ≤ 7293034) (kk : ∀ h', lg_H h' → G (1487, L, [], h', c, n)) : G (1042, L, [], h, c, n) := lg_case (js := [1, 2, 3]) (ixc := 123) (ixr := 126) (p1 := 1064) (p2 := 1087) (p3 := 1088) hR hX h2 h0 h6 hl hL hH hc hs kk zJ_c23 ⟨by decide +kernel, ⟨rfl, rfl⟩, by decide⟩ ⟨by decide +kernel, ⟨rfl, rfl⟩, by decide⟩ rfl rfl rfl (by decide +kernel)
theorem lg_c24 (hR : lg_R X G) (hX : cw_Xok X) (h2 : X 2 = some xs) (h0 : 0 ≤ i.toInt) (h6 : i.toInt + 6 ≤ xs.length) (hl : xs.length ≤ 3072) (hL : lg_L L i) (hH : lg_H h) (hc : c ≤ 601024) (hs : n ≤ 7293034) (kk : ∀ h', lg_H h' → G (1487, L, [], h', c, n)) : G (1091, L, [], h, c, n) := lg_case (js := [1, 2]) (ixc := 127) (ixr := 130) (p1 := 1107) (p2 := 1124) (p3 := 1125) hR hX h2 h0 h6 hl hL hH hc hs kk zJ_c24 ⟨by decide +kernel, ⟨rfl, rfl⟩, by decide⟩ ⟨by decide +kernel, ⟨rfl, rfl⟩, by decide⟩ rfl rfl rfl (by decide +kernel)
theorem lg_c25 (hR : lg_R X G) (hX : cw_Xok X) (h2 : X 2 = some xs) (h0 : 0 ≤ i.toInt) (h6 : i.toInt + 6 ≤ xs.length) (hl : xs.length ≤ 3072) (hL : lg_L L i) (hH : lg_H h) (hc : c ≤ 601024) (hs : n ≤ 7293034) (kk : ∀ h', lg_H h' → G (1487, L, [], h', c, n)) : G (1128, L, [], h, c, n) := lg_case (js := [1, 2]) (ixc := 131) (ixr := 134) (p1 := 1144) (p2 := 1161) (p3 := 1162) hR hX h2 h0 h6 hl hL hH hc hs kk zJ_c25 ⟨by decide +kernel, ⟨rfl, rfl⟩, by decide⟩ ⟨by decide +kernel, ⟨rfl, rfl⟩, by decide⟩ rfl rfl rfl (by decide +kernel)
theorem lg_c26 (hR : lg_R X G) (hX : cw_Xok X) (h2 : X 2 = some xs) (h0 : 0 ≤ i.toInt) (h6 : i.toInt + 6 ≤ xs.length) (hl : xs.length ≤ 3072) (hL : lg_L L i) (hH : lg_H h) (hc : c ≤ 601024) (hs : n ≤ 7293034) (kk : ∀ h', lg_H h' → G (1487, L, [], h', c, n)) : G (1165, L, [], h, c, n) := lg_case (js := [1]) (ixc := 135) (ixr := 138) (p1 := 1175) (p2 := 1186) (p3 := 1187) hR hX h2 h0 h6 hl hL hH hc hs kk zJ_c26 ⟨by decide +kernel, ⟨rfl, rfl⟩, by decide⟩ ⟨by decide +kernel, ⟨rfl, rfl⟩, by decide⟩ rfl rfl rfl (by decide +kernel)
theorem lg_c27 (hR : lg_R X G) (hX : cw_Xok X) (h2 : X 2 = some xs) (h0 : 0 ≤ i.toInt) (h6 : i.toInt + 6 ≤ xs.length) (hl : xs.length ≤ 3072) (hL : lg_L L i) (hH : lg_H h) (hc : c ≤ 601024) (hs : n ≤ 7293034) (kk : ∀ h', lg_H h' → G (1487, L, [], h', c, n)) : G (1190, L, [], h, c, n) := lg_case (js := [1]) (ixc := 139) (ixr := 142) (p1 := 1200) (p2 := 1211) (p3 := 1212) hR hX h2 h0 h6 hl hL hH hc hs kk zJ_c27 ⟨by decide +kernel, ⟨rfl, rfl⟩, by decide⟩ ⟨by decide +kernel, ⟨rfl, rfl⟩, by decide⟩ rfl rfl rfl (by decide +kernel)
theorem lg_c28 (hR : lg_R X G) (hX : cw_Xok X) (h2 : X 2 = some xs) (h0 : 0 ≤ i.toInt) (h6 : i.toInt + 6 ≤ xs.length) (hl : xs.length ≤ 3072) (hL : lg_L L i) (hH : lg_H h) (hc : c ≤ 601024) (hs : n ≤ 7293034) (kk : ∀ h', lg_H h' → G (1487, L, [], h', c, n)) : G (1215, L, [], h, c, n) := lg_case (js := [1, 2]) (ixc := 143) (ixr := 146) (p1 := 1231) (p2 := 1248) (p3 := 1249) hR hX h2 h0 h6 hl hL hH hc hs kk zJ_c28 ⟨by decide +kernel, ⟨rfl, rfl⟩, by decide⟩ ⟨by decide +kernel, ⟨rfl, rfl⟩, by decide⟩ rfl rfl rfl (by decide +kernel)
theorem lg_c29 (hR : lg_R X G) (hX : cw_Xok X) (h2 : X 2 = some xs) (h0 : 0 ≤ i.toInt) (h6 : i.toInt + 6 ≤ xs.length) (hl : xs.length ≤ 3072) (hL : lg_L L i) (hH : lg_H h) (hc : c ≤ 601024) (hs : n ≤ 7293034) (kk : ∀ h', lg_H h' → G (1487, L, [], h', c, n)) : G (1252, L, [], h, c, n) := lg_case (js := [1]) (ixc := 147) (ixr := 150) (p1 := 1262) (p2 := 1273) (p3 := 1274) hR hX h2 h0 h6 hl hL hH hc hs kk zJ_c29 ⟨by decide +kernel, ⟨rfl, rfl⟩, by decide⟩ ⟨by decide +kernel, ⟨rfl, rfl⟩, by decide⟩ rfl rfl rfl (by decide +kernel)
theorem lg_c30 (hR : lg_R X G) (hX : cw_Xok X) (h2 : X 2 = some xs) (h0 : 0 ≤ i.toInt) (h6 : i.toInt + 6 ≤ xs.length) (hl : xs.length ≤ 3072) (hL : lg_L L i) (hH : lg_H h) (hc : c ≤ 601024) (hs : n ≤ 7293034) (kk : ∀ h', lg_H h' → G (1487, L, [], h', c, n)) : G (1277, L, [], h, c, n) := lg_case (js := [1, 2, 3]) (ixc := 151) (ixr := 154) (p1 := 1299) (p2 := 1322) (p3 := 1323) hR hX h2 h0 h6 hl hL hH hc hs kk zJ_c30 ⟨by decide +kernel, ⟨rfl, rfl⟩, by decide⟩ ⟨by decide +kernel, ⟨rfl, rfl⟩, by decide⟩ rfl rfl rfl (by decide +kernel)
theorem lg_c31 (hR : lg_R X G) (hX : cw_Xok X) (h2 : X 2 = some xs) (h0 : 0 ≤ i.toInt) (h6 : i.toInt + 6 ≤ xs.length) (hl : xs.length ≤ 3072) (hL : lg_L L i) (hH : lg_H h) (hc : c ≤ 601024) (hs : n ≤ 7293034) (kk : ∀ h', lg_H h' → G (1487, L, [], h', c, n)) : G (1326, L, [], h, c, n) := lg_case (js := [1, 2]) (ixc := 155) (ixr := 158) (p1 := 1342) (p2 := 1359) (p3 := 1360) hR hX h2 h0 h6 hl hL hH hc hs kk zJ_c31 ⟨by decide +kernel, ⟨rfl, rfl⟩, by decide⟩ ⟨by decide +kernel, ⟨rfl, rfl⟩, by decide⟩ rfl rfl rfl (by decide +kernel)
theorem lg_c32 (hR : lg_R X G) (hX : cw_Xok X) (h2 : X 2 = some xs) (h0 : 0 ≤ i.toInt) (h6 : i.toInt + 6 ≤ xs.length) (hl : xs.length ≤ 3072) (hL : lg_L L i) (hH : lg_H h) (hc : c ≤ 601024) (hs : n ≤ 7293034) (kk : ∀ h', lg_H h' → G (1487, L, [], h', c, n)) : G (1363, L, [], h, c, n) := lg_case (js := [1, 2, 3, 4, 5]) (ixc := 159) (ixr := 162) (p1 := 1397) (p2 := 1432) (p3 := 1433) hR hX h2 h0 h6 hl hL hH hc hs kk zJ_c32 ⟨by decide +kernel, ⟨rfl, rfl⟩, by decide⟩ ⟨by decide +kernel, ⟨rfl, rfl⟩, by decide⟩ rfl rfl rfl (by decide +kernel)
theorem lg_c33 (hR : lg_R X G) (hX : cw_Xok X) (h2 : X 2 = some xs) (h0 : 0 ≤ i.toInt) (h6 : i.toInt + 6 ≤ xs.length) (hl : xs.length ≤ 3072) (hL : lg_L L i) (hH : lg_H h) (hc : c ≤ 601024) (hs : n ≤ 7293034) (kk : ∀ h', lg_H h' → G (1487, L, [], h', c, n)) : G (1436, L, [], h, c, n) := lg_case (js := []) (ixc := 163) (ixr := 166) (p1 := 1440) (p2 := 1445) (p3 := 1446) hR hX h2 h0 h6 hl hL hH hc hs kk zJ_c33 ⟨by decide +kernel, ⟨rfl, rfl⟩, by decide⟩ ⟨by decide +kernel, ⟨rfl, rfl⟩, by decide⟩ rfl rfl rfl (by decide +kernel)
theorem lg_c34 (hR : lg_R X G) (hX : cw_Xok X) (h2 : X 2 = some xs) (h0 : 0 ≤ i.toInt) (h6 : i.toInt + 6 ≤ xs.length) (hl : xs.length ≤ 3072) (hL : lg_L L i) (hH : lg_H h) (hc : c ≤ 601024) (hs : n ≤ 7293034) (kk : ∀ h', lg_H h' → G (1487, L, [], h', c, n)) : G (1449, L, [], h, c, n) := lg_case (js := []) (ixc := 167) (ixr := 170) (p1 := 1453) (p2 := 1458) (p3 := 1459) hR hX h2 h0 h6 hl hL hH hc hs kk zJ_c34 ⟨by decide +kernel, ⟨rfl, rfl⟩, by decide⟩ ⟨by decide +kernel, ⟨rfl, rfl⟩, by decide⟩ rfl rfl rfl (by decide +kernel)
theorem lg_c35 (hR : lg_R X G) (hX : cw_Xok X) (h2 : X 2 = some xs) (h0 : 0 ≤ i.toInt) (h6 : i.toInt + 6 ≤ xs.length) (hl : xs.length ≤ 3072) (hL : lg_L L i) (hH : lg_H h) (hc : c ≤ 601024) (hs : n ≤ 7293034) (kk : ∀ h', lg_H h' → G (1487, L, [], h', c, n)) : G (1462, L, [], h, c, n) := lg_case (js := [1]) (ixc := 171) (ixr := 174) (p1 := 1472) (p2 := 1483) (p3 := 1484) hR hX h2 h0 h6 hl hL hH hc hs kk zJ_c35 ⟨by decide +kernel, ⟨rfl, rfl⟩, by decide⟩ ⟨by decide +kernel, ⟨rfl, rfl⟩, by decide⟩ rfl rfl rfl (by decide +kernel)
end LG
end
section
/-! ===== the law: feed, text, look; a turn; all turns ===== -/
theorem lg_L_set {L : cv_L} {i : Int32} {k : Nat} {v : cv_V} (hk : 5 ≤ k) (hL : lg_L L i) : lg_L (cv_set L k v) i := by
  obtain ⟨l0, l1, l2, l3, l4⟩ := hL
  exact ⟨cw_Lk_set 0 _ (by omega) (fun q => absurd q (by omega)) l0, cw_Lk_set 1 _ (by omega) (fun q => absurd q (by omega)) l1, cw_Lk_set 2 _ (by omega) (fun q => absurd q (by omega)) l2, cw_Lk_set 3 _ (by omega) (fun q => absurd q (by omega)) l3, cw_Lk_set 4 _ (by omega) (fun _ => rfl) l4⟩
theorem lg_L_inc {L : cv_L} {i j : Int32} (hL : lg_L L i) : lg_L (cv_set L 4 (cv_i j)) j := by
  obtain ⟨l0, l1, l2, l3, l4⟩ := hL
  exact ⟨cw_Lk_set 0 _ (by decide) (fun q => absurd q (by decide)) l0, cw_Lk_set 1 _ (by decide) (fun q => absurd q (by decide)) l1, cw_Lk_set 2 _ (by decide) (fun q => absurd q (by decide)) l2, cw_Lk_set 3 _ (by decide) (fun _ => rfl) l3, cw_gs_self _ _ _⟩
section LG
variable {X : cv_X} {G : cv_S → Prop} {xs : List Int32} {L : cv_L} {i : Int32} {h : cv_H} {c n : Nat}
theorem lg_c4 (hR : lg_R X G) (hX : cw_Xok X) (h2 : X 2 = some xs) (h0 : 0 ≤ i.toInt) (h6 : i.toInt + 6 ≤ xs.length) (hl : xs.length ≤ 3072) (hL : lg_L L i) (hH : lg_H h) (hc : c + 20 ≤ 601024) (hs : n + 200 ≤ 7293034) (kk : ∀ L' h', lg_L L' i → lg_H h' → G (1487, L', [], h', c + 20, n + 200)) : G (360, L, [], h, c, n) := by
  obtain ⟨Gn, hT, hP, he, y, hy⟩ := hH
  refine lg_ld hR (lg_o_ok (show lg_o 360 (.aload_n 1) 1 0 0 0 = true by decide +kernel)) rfl rfl hL.2.1 rfl ?_
  refine lg_args hR h2 h0 h6 hl hL [1, 2] 361 _ (by decide +kernel) ?_
  refine lg_ld hR (lg_o_ok (show lg_o 373 (.aload_n 3) 1 0 0 0 = true by decide +kernel)) rfl rfl hL.2.2.2.1 rfl ?_
  refine hR.2.2.2.1 L h c n (lg_v xs i 1) (lg_v xs i 2) Gn y hT hP hy hc hs (fun x h1 y1 hT1 hP1 t1 hy1 => ?_)
  refine hR.1 _ (377, L, [cv_i x], h1, c + 20, n + 200) (379, cv_set L 5 (cv_i x), [], h1, c + 20, n + 200) (lg_o_ok (show lg_o 377 (.istore 5) 2 0 0 0 = true by decide +kernel)) rfl ?_
  have hL1 : lg_L (cv_set L 5 (cv_i x)) i := lg_L_set (by decide) hL
  refine lg_callJ (pc := 379) (js := [1, 2]) (lv := 2) (ix := 44) (j := 218) (d := 12) (p1 := 395) hR h2 h0 h6 hl hL1 hT1 hc hs (by decide +kernel) hL1.2.2.1 (k := 111) rfl rfl (by decide +kernel) ⟨rfl, rfl⟩ (by decide) rfl (zR_c4 _ Gn h1 ([1, 2].map (lg_v xs i)) (cw_Xok_no2 hX) rfl hT1 hP1 (lg_E_S he t1)) (fun o ho => ?_)
  obtain ⟨x2, G2, h3, rfl, hT2, hP2, he2, y2⟩ := ho
  refine hR.1 _ (395, cv_set L 5 (cv_i x), [cv_i x2], h3, c + 20, n + 200) (397, cv_set (cv_set L 5 (cv_i x)) 6 (cv_i x2), [], h3, c + 20, n + 200) (lg_o_ok (show lg_o 395 (.istore 6) 2 0 0 0 = true by decide +kernel)) rfl ?_
  exact lg_goto (off := 1090) hR (by decide +kernel) (by decide +kernel) (kk _ h3 (lg_L_set (by decide) hL1) ⟨G2, hT2, hP2, he2, y1, by rw [y2]; exact hy1⟩)
def lg_offs : Array Int := #[160, 233, 258, 283, 320, 360, 397, 422, 447, 484, 509, 534, 571, 584, 621, 682, 719, 768, 817, 854, 927, 952, 977, 1002, 1051, 1088, 1125, 1150, 1175, 1212, 1237, 1286, 1323, 1396, 1409, 1422]
def lg_tgs : List Nat := [200, 273, 298, 323, 360, 400, 437, 462, 487, 524, 549, 574, 611, 624, 661, 722, 759, 808, 857, 894, 967, 992, 1017, 1042, 1091, 1128, 1165, 1190, 1215, 1252, 1277, 1326, 1363, 1436, 1449, 1462, 1487, 1487, 1487, 1487, 1487, 1487, 1487, 1487, 1487, 1487, 1487, 1487, 1487, 1487, 1487, 1487, 1487, 1487, 1487, 1487, 1487, 1487, 1487, 1487, 1487, 1487, 1487, 1487]
def lg_swt (x : Int32) : Option Nat := bif decide (x.toInt < 0) || decide ((35 : Int) < x.toInt) then (bif cv_jmp 40 1447 then some (cv_tgt 40 1447) else none) else
  (match lg_offs[(x.toInt - 0).toNat]? with
  | some off => bif cv_jmp 40 off then some (cv_tgt 40 off) else none
  | none => none)
set_option maxRecDepth 20000 in
theorem lg_sw (x : Int32) : cv_one X (40, .tableswitch 1447 0 35 lg_offs, 160, 0, 0, 0) (40, L, [cv_i x], h, c, n) = (lg_swt x).map (fun t => (t, L, [], h, c, n)) := by
  show (bif decide (x.toInt < 0) || decide ((35 : Int) < x.toInt) then (bif cv_jmp 40 1447 then some (cv_tgt 40 1447, L, [], h, c, n) else none) else
        (match lg_offs[(x.toInt - 0).toNat]? with
        | some off => bif cv_jmp 40 off then some (cv_tgt 40 off, L, [], h, c, n) else none
        | none => none)) = _
  unfold lg_swt
  cases decide (x.toInt < 0) || decide ((35 : Int) < x.toInt) with
  | true =>
    dsimp only [cond_true]
    cases cv_jmp 40 1447 <;> rfl
  | false =>
    dsimp only [cond_false]
    cases lg_offs[(x.toInt - 0).toNat]? with
    | none => rfl
    | some off =>
      dsimp only
      cases cv_jmp 40 off <;> rfl
theorem lg_swk : ∀ k, k < 64 → lg_swt (nI k) = some (lg_tgs.getD k 0) := by
  have h : ((List.range 64).all fun k => decide (lg_swt (nI k) = some (lg_tgs.getD k 0))) = true := by decide +kernel
  intro k hk
  exact of_decide_eq_true (List.all_eq_true.mp h k (List.mem_range.mpr hk))
set_option maxRecDepth 20000 in
theorem lg_turn (hR : lg_R X G) (hX : cw_Xok X) (h2 : X 2 = some xs) (h0 : 0 ≤ i.toInt) (h6 : i.toInt + 6 ≤ xs.length) (hl : xs.length ≤ 3072) (hL : lg_L L i) (hH : lg_H h) (hc : c + 20 ≤ 601024) (hs : n + 200 ≤ 7293034) (kk : ∀ L' h' c' n', lg_L L' i → lg_H h' → c' ≤ c + 20 → n' ≤ n + 200 → G (1487, L', [], h', c', n')) : G (33, L, [], h, c, n) := by
  refine lg_ld hR (lg_o_ok (show lg_o 33 (.aload_n 0) 1 0 0 0 = true by decide +kernel)) rfl rfl hL.1 rfl ?_
  refine lg_ld hR (lg_o_ok (show lg_o 34 (.iload 4) 2 0 0 0 = true by decide +kernel)) rfl rfl hL.2.2.2.2 rfl ?_
  refine lg_iald hR h2 (lg_o_ok (show lg_o 36 .iaload 1 0 0 0 = true by decide +kernel)) h0 (by omega) ?_
  refine hR.1 _ _ (39, L, [cv_i (Int8.ofInt 63).toInt32, cv_i (xs.getD i.toNatClampNeg 0)], h, c, n) (lg_o_ok (show lg_o 37 (.bipush 63) 2 0 0 0 = true by decide +kernel)) rfl ?_
  refine hR.1 _ _ (40, L, [cv_i (xs.getD i.toNatClampNeg 0 &&& (Int8.ofInt 63).toInt32)], h, c, n) (lg_o_ok (show lg_o 39 .iand 1 0 0 0 = true by decide +kernel)) rfl ?_
  rw [show (Int8.ofInt 63).toInt32 = 63 by decide]
  obtain ⟨k, hk, e⟩ := pk_andE (xs.getD i.toNatClampNeg 0) (m := 63) 6 (by decide)
  have hk : k < 64 := hk
  rw [e]
  refine hR.1 _ _ (lg_tgs.getD k 0, L, [], h, c, n) (lg_o_ok (show lg_o 40 (.tableswitch 1447 0 35 lg_offs) 160 0 0 0 = true by decide +kernel)) (by rw [lg_sw, lg_swk k hk]; rfl) ?_
  have hc' : c ≤ 601024 := by omega
  have hs' : n ≤ 7293034 := by omega
  have k0 : ∀ h', lg_H h' → G (1487, L, [], h', c, n) := fun h' hh => kk L h' c n hL hh (by omega) (by omega)
  match k, hk with
  | 0, _ => exact lg_c0 hR hX h2 h0 h6 hl hL hH hc' hs' k0
  | 1, _ => exact lg_c1 hR hX h2 h0 h6 hl hL hH hc' hs' k0
  | 2, _ => exact lg_c2 hR hX h2 h0 h6 hl hL hH hc' hs' k0
  | 3, _ => exact lg_c3 hR hX h2 h0 h6 hl hL hH hc' hs' k0
  | 4, _ => exact lg_c4 hR hX h2 h0 h6 hl hL hH hc hs (fun L' h' a b => kk L' h' _ _ a b (Nat.le_refl _) (Nat.le_refl _))
  | 5, _ => exact lg_c5 hR hX h2 h0 h6 hl hL hH hc' hs' k0
  | 6, _ => exact lg_c6 hR hX h2 h0 h6 hl hL hH hc' hs' k0
  | 7, _ => exact lg_c7 hR hX h2 h0 h6 hl hL hH hc' hs' k0
  | 8, _ => exact lg_c8 hR hX h2 h0 h6 hl hL hH hc' hs' k0
  | 9, _ => exact lg_c9 hR hX h2 h0 h6 hl hL hH hc' hs' k0
  | 10, _ => exact lg_c10 hR hX h2 h0 h6 hl hL hH hc' hs' k0
  | 11, _ => exact lg_c11 hR hX h2 h0 h6 hl hL hH hc' hs' k0
  | 12, _ => exact lg_c12 hR hX h2 h0 h6 hl hL hH hc' hs' k0
  | 13, _ => exact lg_c13 hR hX h2 h0 h6 hl hL hH hc' hs' k0
  | 14, _ => exact lg_c14 hR hX h2 h0 h6 hl hL hH hc' hs' k0
  | 15, _ => exact lg_c15 hR hX h2 h0 h6 hl hL hH hc' hs' k0
  | 16, _ => exact lg_c16 hR hX h2 h0 h6 hl hL hH hc' hs' k0
  | 17, _ => exact lg_c17 hR hX h2 h0 h6 hl hL hH hc' hs' k0
  | 18, _ => exact lg_c18 hR hX h2 h0 h6 hl hL hH hc' hs' k0
  | 19, _ => exact lg_c19 hR hX h2 h0 h6 hl hL hH hc' hs' k0
  | 20, _ => exact lg_c20 hR hX h2 h0 h6 hl hL hH hc' hs' k0
  | 21, _ => exact lg_c21 hR hX h2 h0 h6 hl hL hH hc' hs' k0
  | 22, _ => exact lg_c22 hR hX h2 h0 h6 hl hL hH hc' hs' k0
  | 23, _ => exact lg_c23 hR hX h2 h0 h6 hl hL hH hc' hs' k0
  | 24, _ => exact lg_c24 hR hX h2 h0 h6 hl hL hH hc' hs' k0
  | 25, _ => exact lg_c25 hR hX h2 h0 h6 hl hL hH hc' hs' k0
  | 26, _ => exact lg_c26 hR hX h2 h0 h6 hl hL hH hc' hs' k0
  | 27, _ => exact lg_c27 hR hX h2 h0 h6 hl hL hH hc' hs' k0
  | 28, _ => exact lg_c28 hR hX h2 h0 h6 hl hL hH hc' hs' k0
  | 29, _ => exact lg_c29 hR hX h2 h0 h6 hl hL hH hc' hs' k0
  | 30, _ => exact lg_c30 hR hX h2 h0 h6 hl hL hH hc' hs' k0
  | 31, _ => exact lg_c31 hR hX h2 h0 h6 hl hL hH hc' hs' k0
  | 32, _ => exact lg_c32 hR hX h2 h0 h6 hl hL hH hc' hs' k0
  | 33, _ => exact lg_c33 hR hX h2 h0 h6 hl hL hH hc' hs' k0
  | 34, _ => exact lg_c34 hR hX h2 h0 h6 hl hL hH hc' hs' k0
  | 35, _ => exact lg_c35 hR hX h2 h0 h6 hl hL hH hc' hs' k0
  | 36, _ => exact k0 h hH
  | 37, _ => exact k0 h hH
  | 38, _ => exact k0 h hH
  | 39, _ => exact k0 h hH
  | 40, _ => exact k0 h hH
  | 41, _ => exact k0 h hH
  | 42, _ => exact k0 h hH
  | 43, _ => exact k0 h hH
  | 44, _ => exact k0 h hH
  | 45, _ => exact k0 h hH
  | 46, _ => exact k0 h hH
  | 47, _ => exact k0 h hH
  | 48, _ => exact k0 h hH
  | 49, _ => exact k0 h hH
  | 50, _ => exact k0 h hH
  | 51, _ => exact k0 h hH
  | 52, _ => exact k0 h hH
  | 53, _ => exact k0 h hH
  | 54, _ => exact k0 h hH
  | 55, _ => exact k0 h hH
  | 56, _ => exact k0 h hH
  | 57, _ => exact k0 h hH
  | 58, _ => exact k0 h hH
  | 59, _ => exact k0 h hH
  | 60, _ => exact k0 h hH
  | 61, _ => exact k0 h hH
  | 62, _ => exact k0 h hH
  | 63, _ => exact k0 h hH
  | k + 64, hk => omega
theorem lg_exit (hR : lg_R X G) (hc : c ≤ 601024) (hs : n ≤ 7293034) : G (1493, L, [], h, c, n) := by
  refine hR.1 _ _ (1494, L, [cv_i (Int32.ofInt 1)], h, c, n) (lg_o_ok (show lg_o 1493 (.iconst 1) 1 0 0 0 = true by decide +kernel)) rfl ?_
  exact hR.2.2.2.2 L h c n hc hs
set_option maxRecDepth 20000 in
theorem lg_head (hR : lg_R X G) (h2 : X 2 = some xs) (hl : xs.length ≤ 3072) (h0 : 0 ≤ i.toInt) (h3 : i.toInt ≤ 4000) (kt : (xs.length : Int) < i.toInt + 6 → G (1493, L, [], h, c, n)) (kf : i.toInt + 6 ≤ xs.length → G (33, L, [], h, c, n)) : G (26, L, [cv_s 2, cv_i i], h, c, n) := by
  refine hR.1 _ _ (27, L, [cv_i (Int32.ofNat xs.length), cv_i i], h, c, n) (lg_o_ok (show lg_o 26 .arraylength 1 0 0 0 = true by decide +kernel)) ?_ ?_
  · show Option.map _ (X 2) = _
    rw [h2]
    rfl
  refine hR.1 _ _ (29, L, [cv_i (Int8.ofInt 6).toInt32, cv_i (Int32.ofNat xs.length), cv_i i], h, c, n) (lg_o_ok (show lg_o 27 (.bipush 6) 2 0 0 0 = true by decide +kernel)) rfl ?_
  refine hR.1 _ _ (30, L, [cv_i (Int32.ofNat xs.length - (Int8.ofInt 6).toInt32), cv_i i], h, c, n) (lg_o_ok (show lg_o 29 .isub 1 0 0 0 = true by decide +kernel)) rfl ?_
  have e6 : (Int8.ofInt 6).toInt32.toInt = 6 := by decide
  have en : (Int32.ofNat xs.length).toInt = xs.length := by
    rw [Int32.toInt_ofNat', show (Int32.size : Nat) = 4294967296 from rfl, Int.bmod_eq_of_le (by omega) (by omega)]
  have e : (Int32.ofNat xs.length - (Int8.ofInt 6).toInt32).toInt = (xs.length : Int) - 6 := by rw [Int32.toInt_sub, e6, en, cw_bm (by omega) (by omega)]
  generalize Int32.ofNat xs.length - (Int8.ofInt 6).toInt32 = m at e ⊢
  have h1 : cv_one X (30, .if_icmp .gt 1463, 3, 0, 0, 0) (30, L, [cv_i m, cv_i i], h, c, n) = some ((bif cv_cmp .gt i m then 1493 else 33), L, [], h, c, n) := rfl
  cases hc : cv_cmp .gt i m with
  | true =>
    rw [hc] at h1
    have q : m.toInt < i.toInt := cw_cmp_Z.mp hc
    exact hR.1 _ _ _ (lg_o_ok (show lg_o 30 (.if_icmp .gt 1463) 3 0 0 0 = true by decide +kernel)) h1 (kt (by omega))
  | false =>
    rw [hc] at h1
    have q : ¬ m.toInt < i.toInt := fun q => by rw [cw_cmp_Z.mpr (show cw_cmpZ .gt i.toInt m.toInt from q)] at hc; cases hc
    exact hR.1 _ _ _ (lg_o_ok (show lg_o 30 (.if_icmp .gt 1463) 3 0 0 0 = true by decide +kernel)) h1 (kf (by omega))
/-- every turn, then the end -/
theorem lg_loop (hR : lg_R X G) (hX : cw_Xok X) (h2 : X 2 = some xs) (hl : xs.length ≤ 3072) : ∀ (t : Nat) (L : cv_L) (h : cv_H) (i : Int32) (c n : Nat), lg_L L i → lg_H h → 0 ≤ i.toInt → i.toInt ≤ 4000 → (xs.length : Int) < i.toInt + 6 * t → c + 20 * t ≤ 601024 → n + 200 * t ≤ 7293034 → G (23, L, [], h, c, n) := by
  intro t
  induction t with
  | zero =>
    intro L h i c n hL hH h0 h3 ht hc hs
    refine lg_ld hR (lg_o_ok (show lg_o 23 (.iload 4) 2 0 0 0 = true by decide +kernel)) rfl rfl hL.2.2.2.2 rfl ?_
    refine lg_ld hR (lg_o_ok (show lg_o 25 (.aload_n 0) 1 0 0 0 = true by decide +kernel)) rfl rfl hL.1 rfl ?_
    exact lg_head hR h2 hl h0 h3 (fun _ => lg_exit hR (by omega) (by omega)) (fun q => absurd q (by omega))
  | succ t ih =>
    intro L h i c n hL hH h0 h3 ht hc hs
    refine lg_ld hR (lg_o_ok (show lg_o 23 (.iload 4) 2 0 0 0 = true by decide +kernel)) rfl rfl hL.2.2.2.2 rfl ?_
    refine lg_ld hR (lg_o_ok (show lg_o 25 (.aload_n 0) 1 0 0 0 = true by decide +kernel)) rfl rfl hL.1 rfl ?_
    refine lg_head hR h2 hl h0 h3 (fun _ => lg_exit hR (by omega) (by omega)) (fun h6 => ?_)
    refine lg_turn hR hX h2 h0 h6 hl hL hH (by omega) (by omega) (fun L' h' c' n' hL' hH' hc' hn' => ?_)
    have e6 : (Int32.ofInt 6).toInt = 6 := by decide
    have e : (i + Int32.ofInt 6).toInt = i.toInt + 6 := by rw [Int32.toInt_add, e6, cw_bm (by omega) (by omega)]
    refine hR.1 _ _ (1490, cv_set L' 4 (cv_i (i + Int32.ofInt 6)), [], h', c', n') (lg_o_ok (show lg_o 1487 (.iinc 4 6) 3 0 0 0 = true by decide +kernel)) ?_ ?_
    · show (match cv_get L' 4 with
        | some (.inl x) => _
        | _ => _) = _
      rw [hL'.2.2.2.2]
      rfl
    · refine lg_goto (off := -1467) (t := 23) hR (by decide +kernel) (by decide +kernel) ?_
      exact ih _ h' _ c' n' (lg_L_inc hL') hH' (by omega) (by omega) (by omega) (by omega) (by omega)
end LG
end
