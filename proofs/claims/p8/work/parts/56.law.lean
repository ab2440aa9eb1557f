/-! ===== the law over the small machine: what its goal is closed under ===== -/
/-- a call that leaves all cells of both sides as they are -/
def lg_S (h h' : cv_H) : Prop := ∀ k d i : Nat, cw_sh[k]? = some d → cw_at h' k i = cw_at h k i
def lg_mk (m : Nat) : Bool := m == 0
theorem lg_S_fr {m : Nat} {h h' : cv_H} (hF : cw_Fr cw_Ds cw_sh m h h') (b : lg_mk m = true) : lg_S h h' := by
  unfold lg_mk at b
  rw [beq_iff_eq] at b
  subst b
  have bz : ∀ d s, cw_bit 0 d s = false := fun d s => by unfold cw_bit; exact Nat.zero_testBit _
  intro k d i hk
  refine hF.2 k d i hk ?_
  unfold cw_tch
  split
  · exact bz _ _
  · rw [bz, bz]; rfl
  · exact bz _ _
theorem lg_E_S {h h' : cv_H} (e : lg_E h) (s : lg_S h h') : lg_E h' := by
  have a : ∀ k i, k < 149 → cw_at h' k i = cw_at h k i := fun k i hk => by
    by_cases c : k < 111
    · obtain ⟨d, hd, -⟩ := sh_c c
      exact s k d i hd
    · obtain ⟨d, hd, -⟩ := sh_r (k := k) (by omega) hk
      exact s k d i hd
  exact ⟨zTa_e (fun k i u => a k i (by omega)) e.1, zST_e a e.2⟩
def lg_R (X : cv_X) (G : cv_S → Prop) : Prop :=
  (∀ (q : cv_Q) (S S' : cv_S), cv_op mt_L_law S.1 = some q → cv_one X q S = some S' → G S' → G S) ∧
  (∀ (q : cv_Q) (S : cv_S) (j : Nat) (av stk : List cv_V) (o : cv_O), cv_op mt_L_law S.1 = some q → q.2.2.2.1 < 9000 → cv_call q S = some (j, av, stk) → cv_fits mt_L_law (mt_all j) S.2.2.2.2.1 S.2.2.2.2.2 (cv_wid av) stk = true → cw_Ev fk_all mt_all (fun j => bif j == 2 then none else X j) j (0, cv_ent 0 av, [], S.2.2.2.1, 0, 0) o →
    G (S.1 + q.2.2.1, S.2.1, o.1.toList ++ stk, o.2, S.2.2.2.2.1 + (mt_all j).2.2.1, S.2.2.2.2.2 + (mt_all j).2.2.2.1) → G S) ∧
  (∀ (pc : Nat) (L : cv_L) (x : Int64) (h : cv_H) (c n : Nat), (pc = 873 ∨ pc = 890) → G (pc + 1, L, [], h, c, n) → G (pc, L, [cv_l x], h, c, n)) ∧
  (∀ (L : cv_L) (h : cv_H) (c n : Nat) (g w : Int32) (Gn : Int) (y : Int64), cw_T Gn h → cw_PP Gn h → h[149]? = some (cv_cl [y]) → c + 20 ≤ 601024 → n + 200 ≤ 7293034 →
    (∀ (x : Int32) (h' : cv_H) (y' : Int64), cw_T Gn h' → cw_PP Gn h' → lg_S h h' → h'[149]? = some (cv_cl [y']) → G (377, L, [cv_i x], h', c + 20, n + 200)) → G (374, L, [cv_r 149, cv_i w, cv_i g, cv_r 0], h, c, n)) ∧
  (∀ (L : cv_L) (h : cv_H) (c n : Nat), c ≤ 601024 → n ≤ 7293034 → G (1494, L, [cv_i 1], h, c, n))
def lg_L (L : cv_L) (i : Int32) : Prop := cv_get L 0 = some (cv_s 2) ∧ cv_get L 1 = some (cv_r 0) ∧ cv_get L 2 = some (cv_r 111) ∧ cv_get L 3 = some (cv_r 149) ∧ cv_get L 4 = some (cv_i i)
def lg_H (h : cv_H) : Prop := ∃ G : Int, cw_T G h ∧ cw_PP G h ∧ lg_E h ∧ ∃ y : Int64, h[149]? = some (cv_cl [y])
def lg_v (xs : List Int32) (i : Int32) (j : Nat) : Int32 := xs.getD (i + Int32.ofInt (j : Int)).toNatClampNeg 0
def lg_o (pc : Nat) (ins : Instr) (len a b : Nat) (z : Int) : Bool := match cv_op mt_L_law pc with
  | some q => (q.1 == pc) && (decide (q.2.1 = ins) && ((q.2.2.1 == len) && ((q.2.2.2.1 == a) && ((q.2.2.2.2.1 == b) && decide (q.2.2.2.2.2 = z)))))
  | none => false
theorem lg_o_ok {pc : Nat} {ins : Instr} {len a b : Nat} {z : Int} (h : lg_o pc ins len a b z = true) : cv_op mt_L_law pc = some (pc, ins, len, a, b, z) := by
  unfold lg_o at h
  split at h
  · rename_i q hq
    obtain ⟨q1, q2, q3, q4, q5, q6⟩ := q
    simp only [Bool.and_eq_true, beq_iff_eq, decide_eq_true_eq] at h
    obtain ⟨rfl, rfl, rfl, rfl, rfl, rfl⟩ := h
    exact hq
  · cases h
/-- one call's numbers out of the script -/
def lg_pa (pc : Nat) : List Nat → Bool
  | [] => true
  | j :: js => lg_o pc (.aload_n 0) 1 0 0 0 && (lg_o (pc + 1) (.iload 4) 2 0 0 0 && (lg_o (pc + 3) (.iconst (j : Int)) 1 0 0 0 && (lg_o (pc + 4) .iadd 1 0 0 0 && (lg_o (pc + 5) .iaload 1 0 0 0 && (decide (j ≤ 5) && lg_pa (pc + 6) js)))))
theorem lg_i32 {i : Int32} {j : Nat} {m : Nat} (h0 : 0 ≤ i.toInt) (h6 : i.toInt + 6 ≤ m) (hl : m ≤ 3072) (hj : j ≤ 5) : (i + Int32.ofInt (j : Int)).toInt = i.toInt + j := by
  have e : (Int32.ofInt (j : Int)).toInt = j := by
    rw [Int32.toInt_ofInt]
    exact cw_bm (by omega) (by omega)
  rw [Int32.toInt_add, e, cw_bm (by omega) (by omega)]
theorem lg_ix {xs : List Int32} {x : Int32} (h0 : 0 ≤ x.toInt) (h1 : x.toInt < xs.length) : cv_ix x xs.length = true ∧ xs[x.toNatClampNeg]? = some (xs.getD x.toNatClampNeg 0) := by
  have e : x.toNatClampNeg = x.toInt.toNat := rfl
  have hlt : x.toNatClampNeg < xs.length := by rw [e]; omega
  refine ⟨?_, ?_⟩
  · unfold cv_ix
    rw [Bool.and_eq_true]
    refine ⟨decide_eq_true ?_, decide_eq_true hlt⟩
    rw [Int32.le_iff_toInt_le]
    exact h0
  · rw [List.getD_eq_getElem?_getD, List.getElem?_eq_getElem hlt]
    rfl
section LG
variable {X : cv_X} {G : cv_S → Prop} {xs : List Int32} {L : cv_L} {i : Int32} {h : cv_H} {c n pc : Nat} {st : List cv_V}
theorem lg_ld {q : Instr} {len a b k kd : Nat} {z : Int} {v : cv_V} (hR : lg_R X G) (ho : cv_op mt_L_law pc = some (pc, q, len, a, b, z)) (hp : cv_push (pc, q, len, a, b, z) = none) (hl : cv_load q = some (k, kd)) (hv : cv_get L k = some v) (hk : cv_kind kd v = true) (K : G (pc + len, L, v :: st, h, c, n)) : G (pc, L, st, h, c, n) := by
  refine hR.1 _ _ _ ho ?_ K
  unfold cv_one
  dsimp only
  rw [hp]
  dsimp only
  rw [hl]
  dsimp only
  rw [hv]
  dsimp only
  rw [hk]
  rfl
theorem lg_iald {x : Int32} {len a b : Nat} {z : Int} (hR : lg_R X G) (h2 : X 2 = some xs) (ho : cv_op mt_L_law pc = some (pc, .iaload, len, a, b, z)) (h0 : 0 ≤ x.toInt) (h1 : x.toInt < xs.length) (K : G (pc + len, L, cv_i (xs.getD x.toNatClampNeg 0) :: st, h, c, n)) : G (pc, L, cv_i x :: cv_s 2 :: st, h, c, n) := by
  obtain ⟨e1, e2⟩ := lg_ix h0 h1
  refine hR.1 _ _ _ ho ?_ K
  show (match X 2 with
    | some xs => _
    | none => _) = _
  rw [h2]
  dsimp only
  rw [e1, e2]
  rfl
theorem lg_args (hR : lg_R X G) (h2 : X 2 = some xs) (h0 : 0 ≤ i.toInt) (h6 : i.toInt + 6 ≤ xs.length) (hl : xs.length ≤ 3072) (hL : lg_L L i) : ∀ (js : List Nat) (pc : Nat) (st : List cv_V), lg_pa pc js = true →
    G (pc + 6 * js.length, L, (js.map fun j => cv_i (lg_v xs i j)).reverse ++ st, h, c, n) → G (pc, L, st, h, c, n) := by
  intro js
  induction js with
  | nil => intro pc st _ K; exact K
  | cons j js ih =>
    intro pc st hp K
    simp only [lg_pa, Bool.and_eq_true, decide_eq_true_eq] at hp
    obtain ⟨p1, p2, p3, p4, p5, hj, p6⟩ := hp
    refine lg_ld hR (lg_o_ok p1) rfl rfl hL.1 rfl ?_
    refine lg_ld hR (lg_o_ok p2) rfl rfl hL.2.2.2.2 rfl ?_
    refine hR.1 _ (pc + 3, L, cv_i i :: cv_s 2 :: st, h, c, n) (pc + 4, L, cv_i (Int32.ofInt (j : Int)) :: cv_i i :: cv_s 2 :: st, h, c, n) (lg_o_ok p3) rfl ?_
    refine hR.1 _ (pc + 4, L, cv_i (Int32.ofInt (j : Int)) :: cv_i i :: cv_s 2 :: st, h, c, n) (pc + 5, L, cv_i (i + Int32.ofInt (j : Int)) :: cv_s 2 :: st, h, c, n) (lg_o_ok p4) rfl ?_
    have e := lg_i32 h0 h6 hl hj
    refine lg_iald hR h2 (lg_o_ok p5) (by omega) (by omega) ?_
    refine ih (pc + 6) _ p6 ?_
    have e1 : pc + 6 + 6 * js.length = pc + 6 * (j :: js).length := by simp only [List.length_cons]; omega
    rw [e1]
    rw [List.map_cons, List.reverse_cons, List.append_assoc] at K
    exact K
theorem lg_wid (js : List Nat) (f : Nat → Int32) : cv_wid (js.map fun j => cv_i (f j)) = js.length := by
  induction js with
  | nil => rfl
  | cons j js ih =>
    rw [List.map_cons, List.length_cons, ← ih]
    unfold cv_wid
    rw [List.map_cons, List.sum_cons, Nat.add_comm]
    rfl
/-- a call of a method that makes no cells -/
theorem lg_cv {ix k d ci j np : Nat} {fs : List cw_A} {as stk : List cv_V} {Gn : Int} (hR : lg_R X G) (ho : cv_op mt_L_law pc = some (pc, .invokevirtual ix, 3, j, np, (ci : Int))) (hn : j < 9000) (hT : cw_T Gn h) (hk : cw_sh[k]? = some d) (hD : cw_Ds[d]? = some (.inr (.inr (.inr (ci, fs))))) (hl : as.length = np) (hf : cv_fits mt_L_law (mt_all j) 0 0 (cv_wid (cv_r k :: as)) stk = true) (hr : (mt_all j).2.2.1 = 0 ∧ (mt_all j).2.2.2.1 = 0) (hc : c ≤ 601024) (hs : n ≤ 7293034) {R : cv_O → Prop} (hK : cw_X (fun j => bif j == 2 then none else X j) j R 0 (cv_ent 0 (cv_r k :: as)) [] h)
    (kk : ∀ o, R o → G (pc + 3, L, o.1.toList ++ stk, o.2, c, n)) : G (pc, L, as.reverse ++ cv_r k :: stk, h, c, n) := by
  obtain ⟨vs, h1, -⟩ := cw_cell_o hD (hT k d hk)
  obtain ⟨o, hev, hRo⟩ := hK
  subst hl
  have e1 : (as.reverse ++ cv_r k :: stk).take as.length = as.reverse := by
    rw [List.take_append_of_le_length (by simp)]; exact List.take_of_length_le (by simp)
  have e2 : (as.reverse ++ cv_r k :: stk).drop as.length = cv_r k :: stk := by
    rw [List.drop_append_of_le_length (by simp)]
    rw [List.drop_of_length_le (by simp)]
    rfl
  refine hR.2.1 _ (pc, L, as.reverse ++ cv_r k :: stk, h, c, n) j (cv_r k :: as) stk o ho hn ?_ ?_ hev ?_
  · unfold cv_call
    dsimp only
    rw [decide_eq_true (by simp), cond_true, e1, e2]
    dsimp only
    rw [h1]
    dsimp only
    rw [Int.toNat_natCast, beq_self_eq_true, List.reverse_reverse]
    rfl
  · unfold cv_fits at hf ⊢
    dsimp only
    simp only [Bool.and_eq_true, decide_eq_true_eq] at hf ⊢
    obtain ⟨f1, f2, f3, f4, f5, f6⟩ := hf
    rw [hr.1, hr.2]
    exact ⟨f1, hc, hs, f4, f5, f6⟩
  · dsimp only
    rw [hr.1, hr.2, Nat.add_zero, Nat.add_zero]
    exact kk o hRo
def lg_pc (pc : Nat) (lv : Fin 4) (js : List Nat) (ix j d : Nat) : Bool := lg_o pc (.aload_n lv) 1 0 0 0 && (lg_pa (pc + 1) js && lg_o (pc + 1 + 6 * js.length) (.invokevirtual ix) 3 j js.length (d : Int))
theorem lg_callJ {js : List Nat} {lv : Fin 4} {ix j k d p1 : Nat} {fs : List cw_A} {Gn : Int} {R : cv_O → Prop} (hR : lg_R X G) (h2 : X 2 = some xs) (h0 : 0 ≤ i.toInt) (h6 : i.toInt + 6 ≤ xs.length) (hl : xs.length ≤ 3072) (hL : lg_L L i) (hT : cw_T Gn h) (hc : c ≤ 601024) (hs : n ≤ 7293034)
    (hp : lg_pc pc lv js ix j d = true) (hlv : cv_get L lv.val = some (cv_r k)) (hk : cw_sh[k]? = some d) (hD : cw_Ds[d]? = some (.inr (.inr (.inr (d, fs))))) (fit : cv_fits mt_L_law (mt_all j) 0 0 (1 + js.length) st = true) (room : (mt_all j).2.2.1 = 0 ∧ (mt_all j).2.2.2.1 = 0) (hj : j < 9000) (e1 : pc + 1 + 6 * js.length + 3 = p1)
    (hK : cw_X (fun j => bif j == 2 then none else X j) j R 0 (cv_ent 0 (cv_r k :: (js.map (lg_v xs i)).map cv_i)) [] h) (kk : ∀ o, R o → G (p1, L, o.1.toList ++ st, o.2, c, n)) : G (pc, L, st, h, c, n) := by
  unfold lg_pc at hp
  simp only [Bool.and_eq_true] at hp
  obtain ⟨p1', p2, p3⟩ := hp
  have em : (js.map (lg_v xs i)).map cv_i = js.map fun j => cv_i (lg_v xs i j) := by rw [List.map_map]; rfl
  rw [em] at hK
  refine lg_ld hR (lg_o_ok p1') rfl rfl hlv rfl ?_
  refine lg_args hR h2 h0 h6 hl hL js (pc + 1) _ p2 ?_
  have hw : cv_wid (cv_r k :: js.map fun j => cv_i (lg_v xs i j)) = 1 + js.length := by
    rw [← lg_wid js (lg_v xs i)]
    unfold cv_wid
    rw [List.map_cons, List.sum_cons]
    rfl
  refine lg_cv hR (lg_o_ok p3) hj hT hk hD (by simp) (by rw [hw]; exact fit) room hc hs hK (fun o ho => ?_)
  rw [e1]
  exact kk o ho
theorem lg_pop {v : cv_V} (hR : lg_R X G) (hp : lg_o pc .pop 1 0 0 0 = true) (hv : cv_isL v = false) (K : G (pc + 1, L, st, h, c, n)) : G (pc, L, v :: st, h, c, n) := by
  refine hR.1 _ _ _ (lg_o_ok hp) ?_ K
  show (bif !cv_isL v then _ else none) = _
  rw [hv]
  rfl
theorem lg_goto {off : Int} {t : Nat} (hR : lg_R X G) (hp : lg_o pc (.goto off) 3 0 0 0 = true) (hj : (cv_jmp pc off && (cv_tgt pc off == t)) = true) (K : G (t, L, st, h, c, n)) : G (pc, L, st, h, c, n) := by
  simp only [Bool.and_eq_true, beq_iff_eq] at hj
  obtain ⟨j1, rfl⟩ := hj
  refine hR.1 _ _ _ (lg_o_ok hp) ?_ K
  show (bif cv_jmp pc off then _ else none) = _
  rw [j1]
  rfl
def lg_fit (j a : Nat) : Prop := cv_fits mt_L_law (mt_all j) 0 0 (1 + a) [] = true ∧ ((mt_all j).2.2.1 = 0 ∧ (mt_all j).2.2.2.1 = 0) ∧ j < 9000
/-- a case of the law: the class is called, then the reference, both answers are thrown away -/
theorem lg_case {js : List Nat} {ixc ixr jc jr : Nat} {p1 p2 p3 : Nat} {r : Bool} (hR : lg_R X G) (hX : cw_Xok X) (h2 : X 2 = some xs) (h0 : 0 ≤ i.toInt) (h6 : i.toInt + 6 ≤ xs.length) (hl : xs.length ≤ 3072) (hL : lg_L L i) (hH : lg_H h) (hc : c ≤ 601024) (hs : n ≤ 7293034)
    (kk : ∀ h', lg_H h' → G (1487, L, [], h', c, n)) (J : zJ jc jr js.length r) (fc : lg_fit jc js.length) (fr : lg_fit jr js.length)
    (e1 : pc + 1 + 6 * js.length + 3 = p1) (e2 : p1 + 1 + 1 + 6 * js.length + 3 = p2) (e3 : p2 + 1 = p3)
    (hp : (lg_pc pc 1 js ixc jc 11 && (lg_o p1 .pop 1 0 0 0 && (lg_pc (p1 + 1) 2 js ixr jr 12 && (lg_o p2 .pop 1 0 0 0 && (lg_o p3 (.goto (1487 - (p3 : Int))) 3 0 0 0 && (cv_jmp p3 (1487 - (p3 : Int)) && (cv_tgt p3 (1487 - (p3 : Int)) == 1487))))))) = true) : G (pc, L, [], h, c, n) := by
  simp only [Bool.and_eq_true] at hp
  obtain ⟨c1, c2, c3, c4, c5, c6⟩ := hp
  subst e3
  obtain ⟨Gn, hT, hP, he, y, hy⟩ := hH
  refine lg_callJ hR h2 h0 h6 hl hL hT hc hs c1 hL.2.1 (k := 0) rfl rfl fc.1 fc.2.1 fc.2.2 e1 (J _ Gn h (js.map (lg_v xs i)) (cw_Xok_no2 hX) (by simp) hT hP he) (fun o ho => ?_)
  obtain ⟨x, h1, rfl, hT1, y1, J2⟩ := ho
  refine lg_pop hR c2 rfl ?_
  refine lg_callJ hR h2 h0 h6 hl hL hT1 hc hs c3 hL.2.2.1 (k := 111) rfl rfl fr.1 fr.2.1 fr.2.2 e2 J2 (fun o ho => ?_)
  obtain ⟨x2, G2, h3, rfl, hT2, hP2, he2, y2, -⟩ := ho
  refine lg_pop hR c4 rfl ?_
  exact lg_goto hR c5 (by rw [Bool.and_eq_true]; exact c6) (kk _ ⟨G2, hT2, hP2, he2, y, by rw [y2]; exact hy⟩)
/-- the case whose answers are compared -/
theorem lg_cmpJ {js : List Nat} {ixc ixr jc jr : Nat} {p1 p2 : Nat} (hR : lg_R X G) (hX : cw_Xok X) (h2 : X 2 = some xs) (h0 : 0 ≤ i.toInt) (h6 : i.toInt + 6 ≤ xs.length) (hl : xs.length ≤ 3072) (hL : lg_L L i) (hH : lg_H h) (hc : c ≤ 601024) (hs : n ≤ 7293034)
    (kk : ∀ h', lg_H h' → G (1487, L, [], h', c, n)) (J : zJ jc jr js.length true) (fc : lg_fit jc js.length) (fr : lg_fit jr js.length) (fx : ∀ x : Int32, cv_fits mt_L_law (mt_all jr) 0 0 (1 + js.length) [cv_i x] = true)
    (e1 : pc + 1 + 6 * js.length + 3 = p1) (e2 : p1 + 1 + 6 * js.length + 3 = p2)
    (hp : (lg_pc pc 1 js ixc jc 11 && (lg_pc p1 2 js ixr jr 12 && (lg_o p2 (.if_icmp .eq (1487 - (p2 : Int))) 3 0 0 0 && (cv_jmp p2 (1487 - (p2 : Int)) && (cv_tgt p2 (1487 - (p2 : Int)) == 1487))))) = true) : G (pc, L, [], h, c, n) := by
  simp only [Bool.and_eq_true, beq_iff_eq] at hp
  obtain ⟨c1, c3, c5, c6, c7⟩ := hp
  obtain ⟨Gn, hT, hP, he, y, hy⟩ := hH
  refine lg_callJ hR h2 h0 h6 hl hL hT hc hs c1 hL.2.1 (k := 0) rfl rfl fc.1 fc.2.1 fc.2.2 e1 (J _ Gn h (js.map (lg_v xs i)) (cw_Xok_no2 hX) (by simp) hT hP he) (fun o ho => ?_)
  obtain ⟨x, h1, rfl, hT1, y1, J2⟩ := ho
  show G (p1, L, [cv_i x], h1, c, n)
  refine lg_callJ hR h2 h0 h6 hl hL hT1 hc hs c3 hL.2.2.1 (k := 111) rfl rfl (fx x) fr.2.1 fr.2.2 e2 J2 (fun o ho => ?_)
  obtain ⟨x2, G2, h3, rfl, hT2, hP2, he2, y2, ex⟩ := ho
  have ex := ex rfl
  subst ex
  refine hR.1 _ (p2, L, [cv_i x, cv_i x], h3, c, n) (1487, L, [], h3, c, n) (lg_o_ok c5) ?_ (kk h3 ⟨G2, hT2, hP2, he2, y, by rw [y2]; exact hy⟩)
  show (bif cv_jmp p2 (1487 - (p2 : Int)) then some ((bif decide (x = x) then cv_tgt p2 (1487 - (p2 : Int)) else p2 + 3), L, [], h3, c, n) else none) = _
  rw [decide_eq_true (rfl : x = x), c6, c7]
  rfl
/-- the same with answers of two words -/
theorem lg_caseL {js : List Nat} {ixc ixr jc jr : Nat} {r : Bool} (hR : lg_R X G) (hX : cw_Xok X) (h2 : X 2 = some xs) (h0 : 0 ≤ i.toInt) (h6 : i.toInt + 6 ≤ xs.length) (hl : xs.length ≤ 3072) (hL : lg_L L i) (hH : lg_H h) (hc : c ≤ 601024) (hs : n ≤ 7293034)
    (kk : ∀ h', lg_H h' → G (1487, L, [], h', c, n)) (J : zJL jc jr js.length r) (fc : lg_fit jc js.length) (fr : lg_fit jr js.length)
    (e1 : pc + 1 + 6 * js.length + 3 = 873) (e2 : 874 + 1 + 6 * js.length + 3 = 890)
    (hp : (lg_pc pc 1 js ixc jc 11 && (lg_pc 874 2 js ixr jr 12 && (lg_o 891 (.goto (1487 - 891)) 3 0 0 0))) = true) : G (pc, L, [], h, c, n) := by
  simp only [Bool.and_eq_true] at hp
  obtain ⟨c1, c3, c5⟩ := hp
  obtain ⟨Gn, hT, hP, he, y, hy⟩ := hH
  refine lg_callJ hR h2 h0 h6 hl hL hT hc hs c1 hL.2.1 (k := 0) rfl rfl fc.1 fc.2.1 fc.2.2 e1 (J _ Gn h (js.map (lg_v xs i)) (cw_Xok_no2 hX) (by simp) hT hP he) (fun o ho => ?_)
  obtain ⟨x, h1, rfl, hT1, y1, J2⟩ := ho
  refine hR.2.2.1 873 L x h1 c n (.inl rfl) ?_
  refine lg_callJ hR h2 h0 h6 hl hL hT1 hc hs c3 hL.2.2.1 (k := 111) rfl rfl fr.1 fr.2.1 fr.2.2 e2 J2 (fun o ho => ?_)
  obtain ⟨x2, G2, h3, rfl, hT2, hP2, he2, y2, -⟩ := ho
  refine hR.2.2.1 890 L x2 h3 c n (.inr rfl) ?_
  exact lg_goto hR c5 (by decide) (kk _ ⟨G2, hT2, hP2, he2, y, by rw [y2]; exact hy⟩)
end LG
