section
/-! ===== walking through a method by hand ===== -/
def cw_X (X : cv_X) (mi : Nat) (Q : cv_O → Prop) (pc : Nat) (L : cv_L) (st : List cv_V) (h : cv_H) : Prop := ∃ o, cw_Ev fk_all mt_all X mi (pc, L, st, h, 0, 0) o ∧ Q o
def cw_T (G : Int) (h : cv_H) : Prop := ∀ k d : Nat, cw_sh[k]? = some d → cw_cell cw_Ds cw_sh G h k d
/-- one slot written -/
def cw_Wr (h h' : cv_H) (k i : Nat) (v : cv_V) : Prop := cw_at h' k i = some v ∧ (∀ k' i', (k' ≠ k ∨ i' ≠ i) → cw_at h' k' i' = cw_at h k' i') ∧ ∀ k' : Nat, k' ≠ k → h'[k']? = h[k']?
abbrev cw_ho (mi pc : Nat) (q : Instr) (len a b : Nat) (z : Int) : Prop := cv_op (mt_all mi) pc = some (pc, q, len, a, b, z)
section CWX
variable {X : cv_X} {mi : Nat} {Q : cv_O → Prop} {pc len a b : Nat} {z : Int} {L : cv_L} {st : List cv_V} {h : cv_H} {G : Int}
theorem ex_one {pc' : Nat} {L' : cv_L} {st' : List cv_V} {h' : cv_H} {q : Instr} (ho : cw_ho mi pc q len a b z) (h1 : cv_one X (pc, q, len, a, b, z) (pc, L, st, h, 0, 0) = some (pc', L', st', h', 0, 0)) (k : cw_X X mi Q pc' L' st' h') : cw_X X mi Q pc L st h := by
  obtain ⟨o, h2, h3⟩ := k
  exact ⟨o, cw_ev_one ho h1 h2, h3⟩
theorem ex_ic {n m : Int} (ho : cw_ho mi pc (.iconst n) len a b z) (hm : (Int32.ofInt n).toInt = m) (k : ∀ x : Int32, x.toInt = m → cw_X X mi Q (pc + len) L (cv_i x :: st) h) : cw_X X mi Q pc L st h := ex_one ho rfl (k _ hm)
theorem ex_bi {n m : Int} (ho : cw_ho mi pc (.bipush n) len a b z) (hm : (Int8.ofInt n).toInt32.toInt = m) (k : ∀ x : Int32, x.toInt = m → cw_X X mi Q (pc + len) L (cv_i x :: st) h) : cw_X X mi Q pc L st h := ex_one ho rfl (k _ hm)
theorem ex_si {n m : Int} (ho : cw_ho mi pc (.sipush n) len a b z) (hm : (Int16.ofInt n).toInt32.toInt = m) (k : ∀ x : Int32, x.toInt = m → cw_X X mi Q (pc + len) L (cv_i x :: st) h) : cw_X X mi Q pc L st h := ex_one ho rfl (k _ hm)
theorem ex_ldc {ix : Nat} {m : Int} (ho : cw_ho mi pc (.ldc ix) len 0 b z) (hm : (Int32.ofInt z).toInt = m) (k : ∀ x : Int32, x.toInt = m → cw_X X mi Q (pc + len) L (cv_i x :: st) h) : cw_X X mi Q pc L st h := ex_one ho rfl (k _ hm)
theorem ex_lc {n : Fin 2} {m : Int} (ho : cw_ho mi pc (.lconst n) len a b z) (hm : (Int64.ofNat n.val).toInt = m) (k : ∀ x : Int64, x.toInt = m → cw_X X mi Q (pc + len) L (cv_l x :: st) h) : cw_X X mi Q pc L st h := ex_one ho rfl (k _ hm)
theorem ex_ld {q : Instr} {i kd : Nat} {v : cv_V} (ho : cw_ho mi pc q len a b z) (hl : cv_load q = some (i, kd)) (hp : cv_push (pc, q, len, a, b, z) = none) (hv : cv_get L i = some v) (hk : cv_kind kd v = true) (k : cw_X X mi Q (pc + len) L (v :: st) h) : cw_X X mi Q pc L st h := by
  refine ex_one ho ?_ k
  unfold cv_one
  dsimp only
  rw [hp]
  dsimp only
  rw [hl]
  dsimp only
  rw [hv]
  dsimp only
  rw [hk]
  rfl
theorem ex_il {n : Fin 4} {v : Int32} (ho : cw_ho mi pc (.iload_n n) len a b z) (hv : cv_get L n.val = some (cv_i v)) (k : cw_X X mi Q (pc + len) L (cv_i v :: st) h) : cw_X X mi Q pc L st h := ex_ld ho rfl rfl hv rfl k
theorem ex_ilw {n : Nat} {v : Int32} (ho : cw_ho mi pc (.iload n) len a b z) (hv : cv_get L n = some (cv_i v)) (k : cw_X X mi Q (pc + len) L (cv_i v :: st) h) : cw_X X mi Q pc L st h := ex_ld ho rfl rfl hv rfl k
theorem ex_al {n : Fin 4} {v : Nat} (ho : cw_ho mi pc (.aload_n n) len a b z) (hv : cv_get L n.val = some (cv_r v)) (k : cw_X X mi Q (pc + len) L (cv_r v :: st) h) : cw_X X mi Q pc L st h := ex_ld ho rfl rfl hv rfl k
theorem ex_ll {n : Fin 4} {v : Int64} (ho : cw_ho mi pc (.lload_n n) len a b z) (hv : cv_get L n.val = some (cv_l v)) (k : cw_X X mi Q (pc + len) L (cv_l v :: st) h) : cw_X X mi Q pc L st h := ex_ld ho rfl rfl hv rfl k
theorem ex_llw {n : Nat} {v : Int64} (ho : cw_ho mi pc (.lload n) len a b z) (hv : cv_get L n = some (cv_l v)) (k : cw_X X mi Q (pc + len) L (cv_l v :: st) h) : cw_X X mi Q pc L st h := ex_ld ho rfl rfl hv rfl k
theorem ex_is {n : Fin 4} {v : Int32} {L' : cv_L} (ho : cw_ho mi pc (.istore_n n) len a b z) (hL : cv_set L n.val (cv_i v) = L') (k : cw_X X mi Q (pc + len) L' st h) : cw_X X mi Q pc L (cv_i v :: st) h := by subst hL; exact ex_one ho rfl k
theorem ex_isw {n : Nat} {v : Int32} {L' : cv_L} (ho : cw_ho mi pc (.istore n) len a b z) (hL : cv_set L n (cv_i v) = L') (k : cw_X X mi Q (pc + len) L' st h) : cw_X X mi Q pc L (cv_i v :: st) h := by subst hL; exact ex_one ho rfl k
theorem ex_ls {n : Fin 4} {v : Int64} {L' : cv_L} (ho : cw_ho mi pc (.lstore_n n) len a b z) (hL : cv_setL L n.val (cv_l v) = L') (k : cw_X X mi Q (pc + len) L' st h) : cw_X X mi Q pc L (cv_l v :: st) h := by subst hL; exact ex_one ho rfl k
theorem ex_lsw {n : Nat} {v : Int64} {L' : cv_L} (ho : cw_ho mi pc (.lstore n) len a b z) (hL : cv_setL L n (cv_l v) = L') (k : cw_X X mi Q (pc + len) L' st h) : cw_X X mi Q pc L (cv_l v :: st) h := by subst hL; exact ex_one ho rfl k
theorem ex_inc {i : Nat} {n m : Int} {v : Int32} (ho : cw_ho mi pc (.iinc i n) len a b z) (hv : cv_get L i = some (cv_i v)) (hm : (Int32.ofInt n).toInt = m) (hr : -2147483648 ≤ v.toInt + m ∧ v.toInt + m ≤ 2147483647) (k : ∀ x : Int32, x.toInt = v.toInt + m → cw_X X mi Q (pc + len) (cv_set L i (cv_i x)) st h) : cw_X X mi Q pc L st h := by
  refine ex_one ho ?_ (k (v + Int32.ofInt n) (by rw [Int32.toInt_add, hm, cw_bm hr.1 hr.2]))
  show (match cv_get L i with
    | some (.inl x) => _
    | _ => _) = _
  rw [hv]
theorem ex_add {x y : Int32} (ho : cw_ho mi pc .iadd len a b z) (hr : -2147483648 ≤ x.toInt + y.toInt ∧ x.toInt + y.toInt ≤ 2147483647) (k : ∀ r : Int32, r.toInt = x.toInt + y.toInt → cw_X X mi Q (pc + len) L (cv_i r :: st) h) : cw_X X mi Q pc L (cv_i y :: cv_i x :: st) h :=
  ex_one ho rfl (k (x + y) (by rw [Int32.toInt_add, cw_bm hr.1 hr.2]))
theorem ex_sub {x y : Int32} (ho : cw_ho mi pc .isub len a b z) (hr : -2147483648 ≤ x.toInt - y.toInt ∧ x.toInt - y.toInt ≤ 2147483647) (k : ∀ r : Int32, r.toInt = x.toInt - y.toInt → cw_X X mi Q (pc + len) L (cv_i r :: st) h) : cw_X X mi Q pc L (cv_i y :: cv_i x :: st) h :=
  ex_one ho rfl (k (x - y) (by rw [Int32.toInt_sub, cw_bm hr.1 hr.2]))
theorem ex_mul {x y : Int32} {m : Int} (ho : cw_ho mi pc .imul len a b z) (hm : x.toInt * y.toInt = m) (hr : -2147483648 ≤ m ∧ m ≤ 2147483647) (k : ∀ r : Int32, r.toInt = m → cw_X X mi Q (pc + len) L (cv_i r :: st) h) : cw_X X mi Q pc L (cv_i y :: cv_i x :: st) h :=
  ex_one ho rfl (k (x * y) (by rw [Int32.toInt_mul, hm, cw_bm hr.1 hr.2]))
/-- an operation whose number does not matter -/
theorem ex_any {q : Instr} {f : Int32 → Int32 → Option Int32} {x y r : Int32} (ho : cw_ho mi pc q len a b z) (h1 : cv_one X (pc, q, len, a, b, z) (pc, L, cv_i y :: cv_i x :: st, h, 0, 0) = some (pc + len, L, cv_i r :: st, h, 0, 0)) (k : ∀ r : Int32, cw_X X mi Q (pc + len) L (cv_i r :: st) h) : cw_X X mi Q pc L (cv_i y :: cv_i x :: st) h :=
  ex_one ho h1 (k r)
theorem ex_div {x y : Int32} (ho : cw_ho mi pc .idiv len a b z) (hy : 1 ≤ y.toInt) (hx : 0 ≤ x.toInt) (k : ∀ r : Int32, r.toInt = x.toInt / y.toInt → cw_X X mi Q (pc + len) L (cv_i r :: st) h) : cw_X X mi Q pc L (cv_i y :: cv_i x :: st) h := by
  have hd := cw_div_b (X := x.toInt) (Y := y.toInt) (b := x.toInt) (c := 1) hx (by omega) (Int.le_refl _) hy
  rw [Int.ediv_one] at hd
  have hb := cw_i32 x
  refine ex_one ho ?_ (k (x / y) (by rw [Int32.toInt_div, cw_bm (by omega) (by omega), Int.tdiv_eq_ediv_of_nonneg hx]))
  show Option.map _ (if y = 0 then none else some (x / y)) = _
  rw [if_neg (cw_ne0 (by omega))]
  rfl
theorem ex_rem {x y : Int32} (ho : cw_ho mi pc .irem len a b z) (hy : y.toInt ≠ 0) (k : ∀ r : Int32, r = x - x / y * y → cw_X X mi Q (pc + len) L (cv_i r :: st) h) : cw_X X mi Q pc L (cv_i y :: cv_i x :: st) h := by
  refine ex_one ho ?_ (k _ rfl)
  show Option.map _ (if y = 0 then none else some (x - x / y * y)) = _
  rw [if_neg (cw_ne0 hy)]
  rfl
theorem ex_go {off : Int} {t : Nat} (ho : cw_ho mi pc (.goto off) len a b z) (hj : cv_jmp pc off = true) (ht : cv_tgt pc off = t) (k : cw_X X mi Q t L st h) : cw_X X mi Q pc L st h := by
  subst ht
  refine ex_one ho ?_ k
  show (bif cv_jmp pc off then _ else none) = _
  rw [hj]
  rfl
theorem ex_if {o : Jvm.ClassFile.Cond} {off : Int} {t : Nat} {x y : Int32} (ho : cw_ho mi pc (.if_icmp o off) len a b z) (hj : cv_jmp pc off = true) (ht : cv_tgt pc off = t) (kt : cw_cmpZ o x.toInt y.toInt → cw_X X mi Q t L st h) (kf : ¬ cw_cmpZ o x.toInt y.toInt → cw_X X mi Q (pc + len) L st h) : cw_X X mi Q pc L (cv_i y :: cv_i x :: st) h := by
  subst ht
  have h1 : cv_one X (pc, .if_icmp o off, len, a, b, z) (pc, L, cv_i y :: cv_i x :: st, h, 0, 0) = some ((bif cv_cmp o x y then cv_tgt pc off else pc + len), L, st, h, 0, 0) := by
    show (bif cv_jmp pc off then _ else none) = _
    rw [hj]
    rfl
  cases hc : cv_cmp o x y with
  | true => rw [hc] at h1; exact ex_one ho h1 (kt (cw_cmp_Z.mp hc))
  | false => rw [hc] at h1; exact ex_one ho h1 (kf fun q => by rw [cw_cmp_Z.mpr q] at hc; cases hc)
theorem ex_if0 {o : Jvm.ClassFile.Cond} {off : Int} {t : Nat} {x : Int32} (ho : cw_ho mi pc (.ifCond o off) len a b z) (hj : cv_jmp pc off = true) (ht : cv_tgt pc off = t) (kt : cw_cmpZ o x.toInt 0 → cw_X X mi Q t L st h) (kf : ¬ cw_cmpZ o x.toInt 0 → cw_X X mi Q (pc + len) L st h) : cw_X X mi Q pc L (cv_i x :: st) h := by
  subst ht
  have h1 : cv_one X (pc, .ifCond o off, len, a, b, z) (pc, L, cv_i x :: st, h, 0, 0) = some ((bif cv_cmp o x 0 then cv_tgt pc off else pc + len), L, st, h, 0, 0) := by
    show (bif cv_jmp pc off then _ else none) = _
    rw [hj]
    rfl
  cases hc : cv_cmp o x 0 with
  | true => rw [hc] at h1; exact ex_one ho h1 (kt (cw_cmp_Z.mp hc))
  | false => rw [hc] at h1; exact ex_one ho h1 (kf fun q => by rw [cw_cmp_Z.mpr (show cw_cmpZ o x.toInt (0 : Int32).toInt from q)] at hc; cases hc)
theorem ex_dup {v : cv_V} (ho : cw_ho mi pc .dup len a b z) (hv : cv_isL v = false) (k : cw_X X mi Q (pc + len) L (v :: v :: st) h) : cw_X X mi Q pc L (v :: st) h := by
  refine ex_one ho ?_ k
  show (bif !cv_isL v then _ else none) = _
  rw [hv]
  rfl
theorem ex_dup2 {v w : cv_V} (ho : cw_ho mi pc .dup2 len a b z) (hv : cv_isL v = false) (hw : cv_isL w = false) (k : cw_X X mi Q (pc + len) L (v :: w :: v :: w :: st) h) : cw_X X mi Q pc L (v :: w :: st) h := by
  refine ex_one ho ?_ k
  show (bif !cv_isL v && !cv_isL w then _ else none) = _
  rw [hv, hw]
  rfl
theorem ex_pop {v : cv_V} (ho : cw_ho mi pc .pop len a b z) (hv : cv_isL v = false) (k : cw_X X mi Q (pc + len) L st h) : cw_X X mi Q pc L (v :: st) h := by
  refine ex_one ho ?_ k
  show (bif !cv_isL v then _ else none) = _
  rw [hv]
  rfl
theorem ex_neg {x : Int32} (ho : cw_ho mi pc .ineg len a b z) (hr : -2147483647 ≤ x.toInt) (k : ∀ r : Int32, r.toInt = - x.toInt → cw_X X mi Q (pc + len) L (cv_i r :: st) h) : cw_X X mi Q pc L (cv_i x :: st) h :=
  ex_one ho rfl (k (-x) (by have := cw_i32 x; rw [Int32.toInt_neg, cw_bm (by omega) (by omega)]))
theorem ex_i2l {x : Int32} (ho : cw_ho mi pc .i2l len a b z) (k : ∀ r : Int64, r.toInt = x.toInt → cw_X X mi Q (pc + len) L (cv_l r :: st) h) : cw_X X mi Q pc L (cv_i x :: st) h :=
  ex_one ho rfl (k _ (Int32.toInt_toInt64 x))
theorem ex_l2i {x : Int64} (ho : cw_ho mi pc .l2i len a b z) (k : ∀ r : Int32, cw_X X mi Q (pc + len) L (cv_i r :: st) h) : cw_X X mi Q pc L (cv_l x :: st) h := ex_one ho rfl (k _)
theorem ex_lcmp {x y : Int64} (ho : cw_ho mi pc .lcmp len a b z) (k : ∀ r : Int32, r = lg_cmp x y → cw_X X mi Q (pc + len) L (cv_i r :: st) h) : cw_X X mi Q pc L (cv_l y :: cv_l x :: st) h := ex_one ho rfl (k _ rfl)
theorem ex_ladd {x y : Int64} (ho : cw_ho mi pc .ladd len a b z) (k : ∀ r : Int64, cw_X X mi Q (pc + len) L (cv_l r :: st) h) : cw_X X mi Q pc L (cv_l y :: cv_l x :: st) h := ex_one ho rfl (k _)
theorem ex_lsub {x y : Int64} (ho : cw_ho mi pc .lsub len a b z) (k : ∀ r : Int64, cw_X X mi Q (pc + len) L (cv_l r :: st) h) : cw_X X mi Q pc L (cv_l y :: cv_l x :: st) h := ex_one ho rfl (k _)
theorem ex_lmul {x y : Int64} (ho : cw_ho mi pc .lmul len a b z) (k : ∀ r : Int64, cw_X X mi Q (pc + len) L (cv_l r :: st) h) : cw_X X mi Q pc L (cv_l y :: cv_l x :: st) h := ex_one ho rfl (k _)
theorem ex_ldiv {x y : Int64} (ho : cw_ho mi pc .ldiv len a b z) (hy : y.toInt ≠ 0) (k : ∀ r : Int64, cw_X X mi Q (pc + len) L (cv_l r :: st) h) : cw_X X mi Q pc L (cv_l y :: cv_l x :: st) h := by
  refine ex_one ho ?_ (k (x / y))
  show Option.map _ (if y = 0 then none else some (x / y)) = _
  rw [if_neg (cw_ne0L hy)]
  rfl
/-! cells -/
theorem ex_gf {ix k ci : Nat} {fs : List cw_A} {d : Nat} {v : cv_V} (ho : cw_ho mi pc (.getfield ix) len ci b z) (hT : cw_T G h) (hk : cw_sh[k]? = some d) (hD : cw_Ds[d]? = some (.inr (.inr (.inr (ci, fs))))) (hv : cw_at h k b = some v) (kk : cw_X X mi Q (pc + len) L (v :: st) h) : cw_X X mi Q pc L (cv_r k :: st) h := by
  obtain ⟨vs, h1, -⟩ := cw_cell_o hD (hT k d hk)
  refine ex_one ho ?_ kk
  have hv' : vs[b]? = some v := by
    unfold cw_at at hv
    rw [h1] at hv
    exact hv
  show (match h[k]? with
    | some (.inr (.inr (.inr (ci', fs)))) => bif ci' == ci then (fs[b]?).map _ else none
    | _ => none) = _
  rw [h1]
  show (bif ci == ci then (vs[b]?).map _ else none) = _
  rw [beq_self_eq_true, hv']
  rfl
theorem cw_Wr_set {k i : Nat} {v : cv_V} {c c' : cv_C} (hc : h[k]? = some c) (h1 : cw_sl c' i = some v) (h2 : ∀ j, j ≠ i → cw_sl c' j = cw_sl c j) : cw_Wr h (h.set k c') k i v := by
  have hlt := cw_lt_of hc
  refine ⟨by rw [cw_at_set hlt, if_pos rfl]; exact h1, fun k' i' q => ?_, fun k' q => List.getElem?_set_ne (fun e => q e.symm)⟩
  rw [cw_at_set hlt]
  by_cases e : k' = k
  · subst e
    rw [if_pos rfl]
    rcases q with q | q
    · exact absurd rfl q
    · rw [h2 i' q]
      unfold cw_at
      rw [hc]
  · rw [if_neg e]
theorem cw_T_set {k d : Nat} {c' : cv_C} (hT : cw_T G h) (hk : cw_sh[k]? = some d) (hc' : cw_cell cw_Ds cw_sh G (h.set k c') k d) : cw_T G (h.set k c') := by
  intro k1 d1 hk1
  by_cases e : k1 = k
  · subst e
    rw [hk] at hk1
    cases hk1
    exact hc'
  · exact cw_cell_mv (hT k1 d1 hk1) (List.getElem?_set_ne (fun q => e q.symm))
theorem ex_pf {ix k ci : Nat} {fs : List cw_A} {d : Nat} {A : cw_A} {v : cv_V} (ho : cw_ho mi pc (.putfield ix) len ci b z) (hT : cw_T G h) (hk : cw_sh[k]? = some d) (hD : cw_Ds[d]? = some (.inr (.inr (.inr (ci, fs))))) (hA : fs[b]? = some A) (hv : cw_ga G cw_sh A v) (hf : cv_fit z.toNat v = true) (kk : ∀ h', cw_T G h' → cw_Wr h h' k b v → cw_X X mi Q (pc + len) L st h') : cw_X X mi Q pc L (v :: cv_r k :: st) h := by
  obtain ⟨vs, h1, h2, h3⟩ := cw_cell_o hD (hT k d hk)
  have hb : b < vs.length := by have := (List.getElem?_eq_some_iff.mp hA).1; omega
  refine ex_one (h' := h.set k (cv_co ci (vs.set b v))) ho ?_ (kk _ (cw_T_set hT hk ?_) (cw_Wr_set h1 (List.getElem?_set_self hb) (fun j hj => List.getElem?_set_ne (fun q => hj q.symm))))
  · show (match h[k]? with
      | some (.inr (.inr (.inr (ci', fs)))) => bif ci' == ci && (decide (b < fs.length) && cv_fit z.toNat v) then some _ else none
      | _ => none) = _
    rw [h1]
    show (bif ci == ci && (decide (b < vs.length) && cv_fit z.toNat v) then some _ else none) = _
    rw [beq_self_eq_true, decide_eq_true hb, hf]
    rfl
  · unfold cw_cell
    rw [hD]
    refine ⟨_, List.getElem?_set_self (cw_lt_of h1), by rw [List.length_set]; exact h2, fun i x' hi => ?_⟩
    by_cases ei : b = i
    · subst ei
      rw [hA] at hi
      cases hi
      exact ⟨v, List.getElem?_set_self hb, hv⟩
    · rw [List.getElem?_set_ne ei]
      exact h3 i x' hi
theorem cw_cixi {i : Int32} {j m : Nat} (hj : i.toInt = j) (hm : j < m) : cv_ix i m = true ∧ i.toNatClampNeg = j := by
  have e : i.toNatClampNeg = i.toInt.toNat := rfl
  have e2 : i.toNatClampNeg = j := by rw [e]; omega
  refine ⟨?_, e2⟩
  unfold cv_ix
  have h0 : (0 : Int32) ≤ i := by rw [Int32.le_iff_toInt_le]; show (0 : Int) ≤ _; omega
  simp only [Bool.and_eq_true, decide_eq_true_eq]
  exact ⟨h0, by omega⟩
/-- a row of ints is read -/
theorem ex_ia {k d m p j : Nat} {rs : List (Int × Int)} {i : Int32} (ho : cw_ho mi pc .iaload len a b z) (hT : cw_T G h) (hk : cw_sh[k]? = some d) (hD : cw_Ds[d]? = some (.inl (0, m, p, rs))) (hj : i.toInt = j) (hm : j < m) (kk : ∀ x : Int32, cw_at h k j = some (cv_i x) → (∃ r, rs[j % p]? = some r ∧ r.1 ≤ x.toInt ∧ x.toInt ≤ r.2) → cw_X X mi Q (pc + len) L (cv_i x :: st) h) : cw_X X mi Q pc L (cv_i i :: cv_r k :: st) h := by
  obtain ⟨xs, h1, h2, h3⟩ := cw_cell_i hD (hT k d hk)
  obtain ⟨y, hy⟩ := cw_get_lt (xs := xs) (j := j) (by omega)
  obtain ⟨c1, c2⟩ := cw_cixi hj hm
  refine ex_one ho ?_ (kk y (by unfold cw_at; rw [h1]; show (xs[j]?).map _ = _; rw [hy]; rfl) (h3 j y hy))
  show (match h[k]? with
    | some (.inl (0, xs)) => bif cv_ix i xs.length then (xs[i.toNatClampNeg]?).map _ else none
    | _ => none) = _
  rw [h1]
  show (bif cv_ix i xs.length then (xs[i.toNatClampNeg]?).map _ else none) = _
  rw [h2, c1, c2, hy]
  rfl
theorem ex_ba {k d t m p j : Nat} {rs : List (Int × Int)} {i : Int32} (ho : cw_ho mi pc .baload len a b z) (hT : cw_T G h) (hk : cw_sh[k]? = some d) (hD : cw_Ds[d]? = some (.inl (t, m, p, rs))) (ht : (t == 1 || t == 2) = true) (hj : i.toInt = j) (hm : j < m) (kk : ∀ x : Int32, cw_at h k j = some (cv_i x) → (∃ r, rs[j % p]? = some r ∧ r.1 ≤ x.toInt ∧ x.toInt ≤ r.2) → cw_X X mi Q (pc + len) L (cv_i x :: st) h) : cw_X X mi Q pc L (cv_i i :: cv_r k :: st) h := by
  obtain ⟨xs, h1, h2, h3⟩ := cw_cell_i hD (hT k d hk)
  obtain ⟨y, hy⟩ := cw_get_lt (xs := xs) (j := j) (by omega)
  obtain ⟨c1, c2⟩ := cw_cixi hj hm
  refine ex_one ho ?_ (kk y (by unfold cw_at; rw [h1]; show (xs[j]?).map _ = _; rw [hy]; rfl) (h3 j y hy))
  show (match h[k]? with
    | some (.inl (t, xs)) => bif (t == 1 || t == 2) && cv_ix i xs.length then (xs[i.toNatClampNeg]?).map _ else none
    | _ => none) = _
  rw [h1]
  show (bif (t == 1 || t == 2) && cv_ix i xs.length then (xs[i.toNatClampNeg]?).map _ else none) = _
  rw [h2, c1, c2, hy, ht]
  rfl
theorem ex_la {k d m j : Nat} {i : Int32} (ho : cw_ho mi pc .laload len a b z) (hT : cw_T G h) (hk : cw_sh[k]? = some d) (hD : cw_Ds[d]? = some (.inr (.inl m))) (hj : i.toInt = j) (hm : j < m) (kk : ∀ x : Int64, cw_at h k j = some (cv_l x) → cw_X X mi Q (pc + len) L (cv_l x :: st) h) : cw_X X mi Q pc L (cv_i i :: cv_r k :: st) h := by
  obtain ⟨xs, h1, h2⟩ := cw_cell_l hD (hT k d hk)
  obtain ⟨y, hy⟩ := cw_get_lt (xs := xs) (j := j) (by omega)
  obtain ⟨c1, c2⟩ := cw_cixi hj hm
  refine ex_one ho ?_ (kk y (by unfold cw_at; rw [h1]; show (xs[j]?).map _ = _; rw [hy]; rfl))
  show (match h[k]? with
    | some (.inr (.inl xs)) => bif cv_ix i xs.length then (xs[i.toNatClampNeg]?).map _ else none
    | _ => none) = _
  rw [h1]
  show (bif cv_ix i xs.length then (xs[i.toNatClampNeg]?).map _ else none) = _
  rw [h2, c1, c2, hy]
  rfl
/-- a row of ints is written -/
theorem ex_iw {k d m p j : Nat} {rs : List (Int × Int)} {i y : Int32} (ho : cw_ho mi pc .iastore len a b z) (hT : cw_T G h) (hk : cw_sh[k]? = some d) (hD : cw_Ds[d]? = some (.inl (0, m, p, rs))) (hj : i.toInt = j) (hm : j < m) (hy : ∀ r, rs[j % p]? = some r → r.1 ≤ y.toInt ∧ y.toInt ≤ r.2) (kk : ∀ h', cw_T G h' → cw_Wr h h' k j (cv_i y) → cw_X X mi Q (pc + len) L st h') : cw_X X mi Q pc L (cv_i y :: cv_i i :: cv_r k :: st) h := by
  obtain ⟨xs, h1, h2, h3⟩ := cw_cell_i hD (hT k d hk)
  obtain ⟨c1, c2⟩ := cw_cixi hj hm
  refine ex_one (h' := h.set k (cv_ci 0 (xs.set j y))) ho ?_ (kk _ (cw_T_set hT hk (cw_cell_iw hD h1 h2 h3 hm hy)) (cw_Wr_set h1 (by show ((xs.set j y)[j]?).map _ = _; rw [List.getElem?_set_self (by omega)]; rfl) (fun j' hj' => cw_sl_iw hj')))
  show (match h[k]? with
    | some (.inl (0, xs)) => bif cv_ix i xs.length then some _ else none
    | _ => none) = _
  rw [h1]
  show (bif cv_ix i xs.length then some _ else none) = _
  rw [h2, c1, c2]
  rfl
theorem ex_bw {k d t m j : Nat} {rg : Int × Int} {i y : Int32} (ho : cw_ho mi pc .bastore len a b z) (hT : cw_T G h) (hk : cw_sh[k]? = some d) (hD : cw_Ds[d]? = some (.inl (t, m, 1, [rg]))) (ht : (t == 1 || t == 2) = true) (hj : i.toInt = j) (hm : j < m) (hy : rg.1 ≤ (cv_nar t y).toInt ∧ (cv_nar t y).toInt ≤ rg.2) (kk : ∀ h', cw_T G h' → cw_Wr h h' k j (cv_i (cv_nar t y)) → cw_X X mi Q (pc + len) L st h') : cw_X X mi Q pc L (cv_i y :: cv_i i :: cv_r k :: st) h := by
  obtain ⟨xs, h1, h2, h3⟩ := cw_cell_i hD (hT k d hk)
  obtain ⟨c1, c2⟩ := cw_cixi hj hm
  refine ex_one (h' := h.set k (cv_ci t (xs.set j (cv_nar t y)))) ho ?_ (kk _ (cw_T_set hT hk (cw_cell_iw hD h1 h2 h3 hm (fun r hr => by rw [Nat.mod_one] at hr; cases hr; exact hy))) (cw_Wr_set h1 (by show ((xs.set j _)[j]?).map _ = _; rw [List.getElem?_set_self (by omega)]; rfl) (fun j' hj' => cw_sl_iw hj')))
  show (match h[k]? with
    | some (.inl (t, xs)) => bif (t == 1 || t == 2) && cv_ix i xs.length then some _ else none
    | _ => none) = _
  rw [h1]
  show (bif (t == 1 || t == 2) && cv_ix i xs.length then some _ else none) = _
  rw [h2, c1, c2, ht]
  rfl
theorem ex_lw {k d m j : Nat} {i : Int32} {y : Int64} (ho : cw_ho mi pc .lastore len a b z) (hT : cw_T G h) (hk : cw_sh[k]? = some d) (hD : cw_Ds[d]? = some (.inr (.inl m))) (hj : i.toInt = j) (hm : j < m) (kk : ∀ h', cw_T G h' → cw_Wr h h' k j (cv_l y) → cw_X X mi Q (pc + len) L st h') : cw_X X mi Q pc L (cv_l y :: cv_i i :: cv_r k :: st) h := by
  obtain ⟨xs, h1, h2⟩ := cw_cell_l hD (hT k d hk)
  obtain ⟨c1, c2⟩ := cw_cixi hj hm
  refine ex_one (h' := h.set k (cv_cl (xs.set j y))) ho ?_ (kk _ (cw_T_set hT hk (by unfold cw_cell; rw [hD]; exact ⟨_, List.getElem?_set_self (cw_lt_of h1), by rw [List.length_set]; exact h2⟩)) (cw_Wr_set h1 (by show ((xs.set j _)[j]?).map _ = _; rw [List.getElem?_set_self (by omega)]; rfl) (fun j' hj' => by show ((xs.set j y)[j']?).map _ = _; rw [List.getElem?_set_ne (fun q => hj' q.symm)]; rfl)))
  show (match h[k]? with
    | some (.inr (.inl xs)) => bif cv_ix i xs.length then some _ else none
    | _ => none) = _
  rw [h1]
  show (bif cv_ix i xs.length then some _ else none) = _
  rw [h2, c1, c2]
  rfl
theorem ex_len {k d m : Nat} {t p : Nat} {rs : List (Int × Int)} (ho : cw_ho mi pc .arraylength len a b z) (hT : cw_T G h) (hk : cw_sh[k]? = some d) (hD : cw_Ds[d]? = some (.inl (t, m, p, rs))) (hm : m ≤ 10000) (kk : ∀ x : Int32, x.toInt = m → cw_X X mi Q (pc + len) L (cv_i x :: st) h) : cw_X X mi Q pc L (cv_r k :: st) h := by
  obtain ⟨xs, h1, h2, -⟩ := cw_cell_i hD (hT k d hk)
  refine ex_one ho ?_ (kk (Int32.ofNat m) (cw_ofNat hm))
  show (match h[k]? with
    | some (.inl (_, xs)) => some _
    | some (.inr (.inl xs)) => some _
    | some (.inr (.inr (.inl (_, xs)))) => some _
    | _ => none) = _
  rw [h1, ← h2]
/-! calls and returns -/
theorem ex_call {q : Instr} {j : Nat} {av stk : List cv_V} (ho : cw_ho mi pc q len a b z) (hn : a < 9000) (hc : cv_call (pc, q, len, a, b, z) (pc, L, st, h, 0, 0) = some (j, av, stk)) (hf : cv_fits (mt_all mi) (mt_all j) 0 0 (cv_wid av) stk = true) (hr : (mt_all j).2.2.1 = 0 ∧ (mt_all j).2.2.2.1 = 0) {R : cv_O → Prop} (hK : cw_X (fun j => bif j == 2 then none else X j) j R 0 (cv_ent 0 av) [] h)
    (kk : ∀ o, R o → cw_X X mi Q (pc + len) L (o.1.toList ++ stk) o.2) : cw_X X mi Q pc L st h := by
  obtain ⟨o, o1, o2⟩ := hK
  obtain ⟨o', o3, o4⟩ := kk o o2
  refine ⟨o', cw_ev_call ho hn hc hf o1 ?_, o4⟩
  rw [hr.1, hr.2]
  exact o3
theorem ex_ret {q : Instr} {r : Option cv_V} (ho : cw_ho mi pc q len a b z) (hr : cv_ret (mt_all mi) (pc, q, len, a, b, z) (pc, L, st, h, 0, 0) = some r) (hQ : Q (r, h)) : cw_X X mi Q pc L st h := ⟨_, cw_ev_ret ho hr, hQ⟩
end CWX
end
section
/-! ===== numbers in slots; what is kept besides the ranges ===== -/
def ri_v (o : Option cv_V) : Int := match o with
  | some (.inl x) => x.toInt
  | _ => 0
def ri_at (h : cv_H) (k i : Nat) : Int := ri_v (cw_at h k i)
theorem ri_of {h : cv_H} {k i : Nat} {x : Int32} (e : cw_at h k i = some (cv_i x)) : ri_at h k i = x.toInt := by unfold ri_at; rw [e]; rfl
theorem ri_eq {h h' : cv_H} {k i : Nat} (e : cw_at h' k i = cw_at h k i) : ri_at h' k i = ri_at h k i := by unfold ri_at; rw [e]
theorem ri_ne {h h' : cv_H} {k i k' i' : Nat} {v : cv_V} (w : cw_Wr h h' k i v) (q : k' ≠ k ∨ i' ≠ i) : ri_at h' k' i' = ri_at h k' i' := ri_eq (w.2.1 k' i' q)
theorem ri_self {h h' : cv_H} {k i : Nat} {x : Int32} (w : cw_Wr h h' k i (cv_i x)) : ri_at h' k i = x.toInt := ri_of w.1
section CWI
variable {G : Int} {h h' : cv_H}
theorem ri_fld {d k ci f : Nat} {fs : List cw_A} {w : cw_W} (hT : cw_T G h) (hk : cw_sh[k]? = some d) (hD : cw_Ds[d]? = some (.inr (.inr (.inr (ci, fs))))) (hA : fs[f]? = some (.inl w)) : ∃ x : Int32, cw_at h k f = some (cv_i x) ∧ ri_at h k f = x.toInt ∧ w.1 ≤ x.toInt ∧ x.toInt ≤ w.2.1 := by
  obtain ⟨vs, h1, h2, h3⟩ := cw_cell_o hD (hT k d hk)
  obtain ⟨v, h4, x, rfl, h5⟩ := h3 f _ hA
  have e : cw_at h k f = some (cv_i x) := by unfold cw_at; rw [h1]; exact h4
  exact ⟨x, e, ri_of e, h5.1, h5.2.1⟩
theorem ri_ref {d k ci f d' k' : Nat} {fs : List cw_A} (hT : cw_T G h) (hk : cw_sh[k]? = some d) (hD : cw_Ds[d]? = some (.inr (.inr (.inr (ci, fs))))) (hA : fs[f]? = some (.inr (.inr d'))) (hd : d' < 1000) (hu : ∀ j : Nat, cw_sh[j]? = some d' → j = k') : cw_at h k f = some (cv_r k') := by
  obtain ⟨vs, h1, h2, h3⟩ := cw_cell_o hD (hT k d hk)
  obtain ⟨v, h4, h5⟩ := h3 f _ hA
  unfold cw_at
  rw [h1]
  rcases h5 with ⟨-, j, rfl, h6⟩ | ⟨j, h6, -⟩
  · rw [hu j h6] at h4; exact h4
  · omega
theorem ri_uniq {d k : Nat} (h : (List.range cw_sh.length).all (fun j => !(cw_sh[j]? == some d) || j == k) = true) : ∀ j : Nat, cw_sh[j]? = some d → j = k := by
  intro j hj
  have hlt := (List.getElem?_eq_some_iff.mp hj).1
  have := List.all_eq_true.mp h j (List.mem_range.mpr hlt)
  rw [hj] at this
  simpa using this
theorem ri_row {d k t m p j : Nat} {rs : List (Int × Int)} (hT : cw_T G h) (hk : cw_sh[k]? = some d) (hD : cw_Ds[d]? = some (.inl (t, m, p, rs))) (hj : j < m) : ∃ x : Int32, cw_at h k j = some (cv_i x) ∧ ri_at h k j = x.toInt ∧ ∃ r, rs[j % p]? = some r ∧ r.1 ≤ x.toInt ∧ x.toInt ≤ r.2 := by
  obtain ⟨xs, h1, h2, h3⟩ := cw_cell_i hD (hT k d hk)
  obtain ⟨y, hy⟩ := cw_get_lt (xs := xs) (j := j) (by omega)
  have e : cw_at h k j = some (cv_i y) := by unfold cw_at; rw [h1]; show (xs[j]?).map _ = _; rw [hy]; rfl
  exact ⟨y, e, ri_of e, h3 j y hy⟩
theorem fr_tape (hT : cw_T G h) : cw_at h 111 0 = some (cv_r 112) := ri_ref hT (k := 111) (f := 0) rfl rfl rfl (by decide) (ri_uniq (by decide +kernel))
theorem fi_tapeSize (hT : cw_T G h) : ∃ x : Int32, cw_at h 111 1 = some (cv_i x) ∧ ri_at h 111 1 = x.toInt ∧ 0 ≤ x.toInt ∧ x.toInt ≤ 900 := ri_fld hT (k := 111) (f := 1) rfl rfl rfl
theorem fr_words (hT : cw_T G h) : cw_at h 111 3 = some (cv_r 113) := ri_ref hT (k := 111) (f := 3) rfl rfl rfl (by decide) (ri_uniq (by decide +kernel))
theorem fi_stop (hT : cw_T G h) : ∃ x : Int32, cw_at h 111 6 = some (cv_i x) ∧ ri_at h 111 6 = x.toInt ∧ 0 ≤ x.toInt ∧ x.toInt ≤ 900 := ri_fld hT (k := 111) (f := 6) rfl rfl rfl
theorem fi_next (hT : cw_T G h) : ∃ x : Int32, cw_at h 111 7 = some (cv_i x) ∧ ri_at h 111 7 = x.toInt ∧ 0 ≤ x.toInt ∧ x.toInt ≤ 900 := ri_fld hT (k := 111) (f := 7) rfl rfl rfl
theorem fi_kind (hT : cw_T G h) : ∃ x : Int32, cw_at h 111 8 = some (cv_i x) ∧ ri_at h 111 8 = x.toInt ∧ 0 ≤ x.toInt ∧ x.toInt ≤ 6 := ri_fld hT (k := 111) (f := 8) rfl rfl rfl
theorem fi_which (hT : cw_T G h) : ∃ x : Int32, cw_at h 111 9 = some (cv_i x) ∧ ri_at h 111 9 = x.toInt ∧ (-2147483648) ≤ x.toInt ∧ x.toInt ≤ 2147483647 := ri_fld hT (k := 111) (f := 9) rfl rfl rfl
theorem fi_at (hT : cw_T G h) : ∃ x : Int32, cw_at h 111 10 = some (cv_i x) ∧ ri_at h 111 10 = x.toInt ∧ 0 ≤ x.toInt ∧ x.toInt ≤ 900 := ri_fld hT (k := 111) (f := 10) rfl rfl rfl
theorem fi_got (hT : cw_T G h) : ∃ x : Int32, cw_at h 111 11 = some (cv_i x) ∧ ri_at h 111 11 = x.toInt ∧ (-2147483648) ≤ x.toInt ∧ x.toInt ≤ 2147483647 := ri_fld hT (k := 111) (f := 11) rfl rfl rfl
theorem fi_gates (hT : cw_T G h) : ∃ x : Int32, cw_at h 111 12 = some (cv_i x) ∧ ri_at h 111 12 = x.toInt ∧ 0 ≤ x.toInt ∧ x.toInt ≤ 4 := ri_fld hT (k := 111) (f := 12) rfl rfl rfl
theorem fi_works (hT : cw_T G h) : ∃ x : Int32, cw_at h 111 13 = some (cv_i x) ∧ ri_at h 111 13 = x.toInt ∧ 0 ≤ x.toInt ∧ x.toInt ≤ 6 := ri_fld hT (k := 111) (f := 13) rfl rfl rfl
theorem fi_causes (hT : cw_T G h) : ∃ x : Int32, cw_at h 111 14 = some (cv_i x) ∧ ri_at h 111 14 = x.toInt ∧ 0 ≤ x.toInt ∧ x.toInt ≤ 6 := ri_fld hT (k := 111) (f := 14) rfl rfl rfl
theorem fi_gatesRead (hT : cw_T G h) : ∃ x : Int32, cw_at h 111 16 = some (cv_i x) ∧ ri_at h 111 16 = x.toInt ∧ 0 ≤ x.toInt ∧ x.toInt ≤ 4 := ri_fld hT (k := 111) (f := 16) rfl rfl rfl
theorem fi_worksRead (hT : cw_T G h) : ∃ x : Int32, cw_at h 111 17 = some (cv_i x) ∧ ri_at h 111 17 = x.toInt ∧ 0 ≤ x.toInt ∧ x.toInt ≤ 6 := ri_fld hT (k := 111) (f := 17) rfl rfl rfl
theorem fi_causesRead (hT : cw_T G h) : ∃ x : Int32, cw_at h 111 18 = some (cv_i x) ∧ ri_at h 111 18 = x.toInt ∧ 0 ≤ x.toInt ∧ x.toInt ≤ 6 := ri_fld hT (k := 111) (f := 18) rfl rfl rfl
theorem fi_knotsRead (hT : cw_T G h) : ∃ x : Int32, cw_at h 111 19 = some (cv_i x) ∧ ri_at h 111 19 = x.toInt ∧ 0 ≤ x.toInt ∧ x.toInt ≤ 64 := ri_fld hT (k := 111) (f := 19) rfl rfl rfl
theorem fi_groundTold (hT : cw_T G h) : ∃ x : Int32, cw_at h 111 20 = some (cv_i x) ∧ ri_at h 111 20 = x.toInt ∧ 0 ≤ x.toInt ∧ x.toInt ≤ 1 := ri_fld hT (k := 111) (f := 20) rfl rfl rfl
theorem fr_ground (hT : cw_T G h) : cw_at h 111 21 = some (cv_r 114) := ri_ref hT (k := 111) (f := 21) rfl rfl rfl (by decide) (ri_uniq (by decide +kernel))
theorem fr_lawFirst (hT : cw_T G h) : cw_at h 111 22 = some (cv_r 115) := ri_ref hT (k := 111) (f := 22) rfl rfl rfl (by decide) (ri_uniq (by decide +kernel))
theorem fr_lawLast (hT : cw_T G h) : cw_at h 111 23 = some (cv_r 116) := ri_ref hT (k := 111) (f := 23) rfl rfl rfl (by decide) (ri_uniq (by decide +kernel))
theorem fr_lawTold (hT : cw_T G h) : cw_at h 111 24 = some (cv_r 117) := ri_ref hT (k := 111) (f := 24) rfl rfl rfl (by decide) (ri_uniq (by decide +kernel))
theorem fr_gateName (hT : cw_T G h) : cw_at h 111 25 = some (cv_r 118) := ri_ref hT (k := 111) (f := 25) rfl rfl rfl (by decide) (ri_uniq (by decide +kernel))
theorem fr_gateHas (hT : cw_T G h) : cw_at h 111 26 = some (cv_r 119) := ri_ref hT (k := 111) (f := 26) rfl rfl rfl (by decide) (ri_uniq (by decide +kernel))
theorem fr_rise (hT : cw_T G h) : cw_at h 111 27 = some (cv_r 120) := ri_ref hT (k := 111) (f := 27) rfl rfl rfl (by decide) (ri_uniq (by decide +kernel))
theorem fr_workName (hT : cw_T G h) : cw_at h 111 28 = some (cv_r 121) := ri_ref hT (k := 111) (f := 28) rfl rfl rfl (by decide) (ri_uniq (by decide +kernel))
theorem fr_workHas (hT : cw_T G h) : cw_at h 111 29 = some (cv_r 122) := ri_ref hT (k := 111) (f := 29) rfl rfl rfl (by decide) (ri_uniq (by decide +kernel))
theorem fr_causeName (hT : cw_T G h) : cw_at h 111 30 = some (cv_r 123) := ri_ref hT (k := 111) (f := 30) rfl rfl rfl (by decide) (ri_uniq (by decide +kernel))
theorem fr_causeHas (hT : cw_T G h) : cw_at h 111 31 = some (cv_r 124) := ri_ref hT (k := 111) (f := 31) rfl rfl rfl (by decide) (ri_uniq (by decide +kernel))
theorem fr_knot (hT : cw_T G h) : cw_at h 111 32 = some (cv_r 125) := ri_ref hT (k := 111) (f := 32) rfl rfl rfl (by decide) (ri_uniq (by decide +kernel))
theorem fr_part (hT : cw_T G h) : cw_at h 111 33 = some (cv_r 126) := ri_ref hT (k := 111) (f := 33) rfl rfl rfl (by decide) (ri_uniq (by decide +kernel))
theorem fr_other (hT : cw_T G h) : cw_at h 111 34 = some (cv_r 127) := ri_ref hT (k := 111) (f := 34) rfl rfl rfl (by decide) (ri_uniq (by decide +kernel))
theorem fr_wait (hT : cw_T G h) : cw_at h 111 35 = some (cv_r 128) := ri_ref hT (k := 111) (f := 35) rfl rfl rfl (by decide) (ri_uniq (by decide +kernel))
theorem fr_held (hT : cw_T G h) : cw_at h 111 36 = some (cv_r 129) := ri_ref hT (k := 111) (f := 36) rfl rfl rfl (by decide) (ri_uniq (by decide +kernel))
theorem fi_waits (hT : cw_T G h) : ∃ x : Int32, cw_at h 111 37 = some (cv_i x) ∧ ri_at h 111 37 = x.toInt ∧ 0 ≤ x.toInt ∧ x.toInt ≤ 96 := ri_fld hT (k := 111) (f := 37) rfl rfl rfl
theorem fi_helds (hT : cw_T G h) : ∃ x : Int32, cw_at h 111 38 = some (cv_i x) ∧ ri_at h 111 38 = x.toInt ∧ 0 ≤ x.toInt ∧ x.toInt ≤ 96 := ri_fld hT (k := 111) (f := 38) rfl rfl rfl
theorem fi_brackets (hT : cw_T G h) : ∃ x : Int32, cw_at h 111 39 = some (cv_i x) ∧ ri_at h 111 39 = x.toInt ∧ 0 ≤ x.toInt ∧ x.toInt ≤ 8 := ri_fld hT (k := 111) (f := 39) rfl rfl rfl
theorem fi_counted (hT : cw_T G h) : ∃ x : Int32, cw_at h 111 40 = some (cv_i x) ∧ ri_at h 111 40 = x.toInt ∧ 0 ≤ x.toInt ∧ x.toInt ≤ 64 := ri_fld hT (k := 111) (f := 40) rfl rfl rfl
theorem fi_wants (hT : cw_T G h) : ∃ x : Int32, cw_at h 111 41 = some (cv_i x) ∧ ri_at h 111 41 = x.toInt ∧ 0 ≤ x.toInt ∧ x.toInt ≤ 1 := ri_fld hT (k := 111) (f := 41) rfl rfl rfl
theorem fi_mayNot (hT : cw_T G h) : ∃ x : Int32, cw_at h 111 42 = some (cv_i x) ∧ ri_at h 111 42 = x.toInt ∧ 0 ≤ x.toInt ∧ x.toInt ≤ 1 := ri_fld hT (k := 111) (f := 42) rfl rfl rfl
theorem fi_week (hT : cw_T G h) : ∃ x : Int32, cw_at h 111 43 = some (cv_i x) ∧ ri_at h 111 43 = x.toInt ∧ 0 ≤ x.toInt ∧ x.toInt ≤ 2000 := ri_fld hT (k := 111) (f := 43) rfl rfl rfl
theorem fr_state (hT : cw_T G h) : cw_at h 111 44 = some (cv_r 130) := ri_ref hT (k := 111) (f := 44) rfl rfl rfl (by decide) (ri_uniq (by decide +kernel))
theorem fr_now (hT : cw_T G h) : cw_at h 111 45 = some (cv_r 131) := ri_ref hT (k := 111) (f := 45) rfl rfl rfl (by decide) (ri_uniq (by decide +kernel))
theorem fr_names (hT : cw_T G h) : cw_at h 111 46 = some (cv_r 132) := ri_ref hT (k := 111) (f := 46) rfl rfl rfl (by decide) (ri_uniq (by decide +kernel))
theorem fr_value (hT : cw_T G h) : cw_at h 111 47 = some (cv_r 133) := ri_ref hT (k := 111) (f := 47) rfl rfl rfl (by decide) (ri_uniq (by decide +kernel))
theorem fi_isError (hT : cw_T G h) : ∃ x : Int32, cw_at h 111 48 = some (cv_i x) ∧ ri_at h 111 48 = x.toInt ∧ 0 ≤ x.toInt ∧ x.toInt ≤ 1 := ri_fld hT (k := 111) (f := 48) rfl rfl rfl
theorem fr_grows (hT : cw_T G h) : cw_at h 111 49 = some (cv_r 134) := ri_ref hT (k := 111) (f := 49) rfl rfl rfl (by decide) (ri_uniq (by decide +kernel))
theorem fi_undos (hT : cw_T G h) : ∃ x : Int32, cw_at h 111 50 = some (cv_i x) ∧ ri_at h 111 50 = x.toInt ∧ 0 ≤ x.toInt ∧ x.toInt ≤ 20 := ri_fld hT (k := 111) (f := 50) rfl rfl rfl
theorem fr_undo (hT : cw_T G h) : cw_at h 111 51 = some (cv_r 135) := ri_ref hT (k := 111) (f := 51) rfl rfl rfl (by decide) (ri_uniq (by decide +kernel))
theorem fi_measures (hT : cw_T G h) : ∃ x : Int32, cw_at h 111 52 = some (cv_i x) ∧ ri_at h 111 52 = x.toInt ∧ 0 ≤ x.toInt ∧ x.toInt ≤ 40 := ri_fld hT (k := 111) (f := 52) rfl rfl rfl
theorem fr_readGate (hT : cw_T G h) : cw_at h 111 54 = some (cv_r 136) := ri_ref hT (k := 111) (f := 54) rfl rfl rfl (by decide) (ri_uniq (by decide +kernel))
theorem fr_readWeek (hT : cw_T G h) : cw_at h 111 55 = some (cv_r 137) := ri_ref hT (k := 111) (f := 55) rfl rfl rfl (by decide) (ri_uniq (by decide +kernel))
theorem fr_readWhat (hT : cw_T G h) : cw_at h 111 56 = some (cv_r 138) := ri_ref hT (k := 111) (f := 56) rfl rfl rfl (by decide) (ri_uniq (by decide +kernel))
theorem fr_readLow (hT : cw_T G h) : cw_at h 111 57 = some (cv_r 139) := ri_ref hT (k := 111) (f := 57) rfl rfl rfl (by decide) (ri_uniq (by decide +kernel))
theorem fr_readHigh (hT : cw_T G h) : cw_at h 111 58 = some (cv_r 140) := ri_ref hT (k := 111) (f := 58) rfl rfl rfl (by decide) (ri_uniq (by decide +kernel))
theorem fr_counts (hT : cw_T G h) : cw_at h 111 59 = some (cv_r 141) := ri_ref hT (k := 111) (f := 59) rfl rfl rfl (by decide) (ri_uniq (by decide +kernel))
theorem fr_cosines (hT : cw_T G h) : cw_at h 111 61 = some (cv_r 143) := ri_ref hT (k := 111) (f := 61) rfl rfl rfl (by decide) (ri_uniq (by decide +kernel))
theorem fr_sines (hT : cw_T G h) : cw_at h 111 62 = some (cv_r 144) := ri_ref hT (k := 111) (f := 62) rfl rfl rfl (by decide) (ri_uniq (by decide +kernel))
theorem fr_order (hT : cw_T G h) : cw_at h 111 63 = some (cv_r 145) := ri_ref hT (k := 111) (f := 63) rfl rfl rfl (by decide) (ri_uniq (by decide +kernel))
theorem fr_bestOrder (hT : cw_T G h) : cw_at h 111 64 = some (cv_r 146) := ri_ref hT (k := 111) (f := 64) rfl rfl rfl (by decide) (ri_uniq (by decide +kernel))
theorem fr_tried (hT : cw_T G h) : cw_at h 111 65 = some (cv_r 147) := ri_ref hT (k := 111) (f := 65) rfl rfl rfl (by decide) (ri_uniq (by decide +kernel))
theorem fi_hasImage (hT : cw_T G h) : ∃ x : Int32, cw_at h 111 66 = some (cv_i x) ∧ ri_at h 111 66 = x.toInt ∧ 0 ≤ x.toInt ∧ x.toInt ≤ 1 := ri_fld hT (k := 111) (f := 66) rfl rfl rfl
theorem fi_keptWeek (hT : cw_T G h) : ∃ x : Int32, cw_at h 111 67 = some (cv_i x) ∧ ri_at h 111 67 = x.toInt ∧ 0 ≤ x.toInt ∧ x.toInt ≤ 2000 := ri_fld hT (k := 111) (f := 67) rfl rfl rfl
theorem fr_keptState (hT : cw_T G h) : cw_at h 111 68 = some (cv_r 148) := ri_ref hT (k := 111) (f := 68) rfl rfl rfl (by decide) (ri_uniq (by decide +kernel))
theorem fr_G (hT : cw_T G h) : ri_at h 111 12 = G := by
  obtain ⟨vs, h1, h2, h3⟩ := cw_cell_o (d := 12) (k := 111) rfl (hT 111 12 rfl)
  obtain ⟨v, h4, x, rfl, h5⟩ := h3 12 _ rfl
  have e : cw_at h 111 12 = some (cv_i x) := by unfold cw_at; rw [h1]; exact h4
  rw [ri_of e]
  exact h5.2.2.2.2.1 rfl
theorem cw_Fr_wr {k i d m : Nat} {v : cv_V} (w : cw_Wr h h' k i v) (hk : cw_sh[k]? = some d) (ht : cw_tch cw_Ds m d i = true) : cw_Fr cw_Ds cw_sh m h h' := by
  refine ⟨fun k' hk' => w.2.2 k' fun q => ?_, fun k' d' i' hk' ht' => w.2.1 k' i' ?_⟩
  · rw [q, hk] at hk'; cases hk'
  · by_cases q : k' = k
    · right
      intro q2
      subst q q2
      rw [hk] at hk'
      cases hk'
      rw [ht] at ht'
      cases ht'
    · exact .inl q
end CWI
def pp_words : List Int := [103, 114, 111, 117, 110, 100, 32, 108, 97, 119, 32, 103, 97, 116, 101, 32, 119, 111, 114, 107, 32, 99, 97, 117, 115, 101, 32, 108, 101, 97, 110, 32, 111, 112, 101, 110, 32, 98, 101, 110, 100, 32, 107, 110, 111, 99, 107, 32, 104, 111, 111, 107, 115, 32, 112, 111, 115, 116, 32, 98, 114, 97, 99, 101, 32, 108, 97, 116, 99, 104, 32, 103, 97, 112, 32, 114, 105, 115, 101, 32, 104, 97, 115, 32, 115, 113, 117, 97, 114, 101, 32, 119, 105, 114, 101, 32, 119, 104, 101, 101, 108, 32, 115, 116, 111, 110, 101, 115, 32, 114, 101, 104, 97, 110, 103, 32, 97, 110, 100, 32, 111, 114, 32, 110, 111, 116, 32, 112, 117, 108, 108, 32, 102, 105, 114, 109, 32, 100, 101, 101, 112, 32, 116, 104, 105, 99, 107, 32, 117, 112, 32, 100, 111, 119, 110, 32, 100, 114, 111, 112, 32, 119, 101, 101, 107, 32, 99, 104, 105, 108, 100, 32, 102, 97, 108, 108, 32]
/-- what is kept besides the ranges -/
def cw_PP (G : Int) (h : cv_H) : Prop :=
  (∀ i, i < 177 → ri_at h 113 i = pp_words.getD i 0) ∧
  (ri_at h 111 7 ≤ ri_at h 111 6 ∧ (ri_at h 111 8 = 1 → 0 ≤ ri_at h 111 9 ∧ ri_at h 111 9 ≤ 33) ∧ (ri_at h 111 8 = 5 → 0 ≤ ri_at h 111 9 ∧ ri_at h 111 9 ≤ 5)) ∧
  (∀ k, k < 128 → (ri_at h 125 k = 1 → 0 ≤ ri_at h 126 k ∧ ri_at h 126 k ≤ 9) ∧ (ri_at h 125 k ≠ 0 → ri_at h 125 k ≠ 1 → 0 ≤ ri_at h 126 k ∧ ri_at h 126 k ≤ 63) ∧ (ri_at h 125 k ≠ 0 → ri_at h 125 k ≠ 1 → ri_at h 125 k ≠ 2 → 0 ≤ ri_at h 127 k ∧ ri_at h 127 k ≤ 63)) ∧
  (∀ l, l < 4 → ri_at h 117 l ≠ 0 → 1 ≤ ri_at h 116 l) ∧
  (∀ g : Nat, g < 4 → (g : Int) < G → 24 ≤ ri_at h 119 (16 * g + 1) ∧ ri_at h 119 (16 * g + 1) ≤ 72 ∧ 1 ≤ ri_at h 119 (16 * g + 4) - ri_at h 119 (16 * g + 3) ∧ ri_at h 119 (16 * g + 4) - ri_at h 119 (16 * g + 3) ≤ 72) ∧
  (∀ k, k < 40 → ri_at h 136 k < 0 → ri_at h 137 k < 40) ∧
  (∀ c : Nat, c < 6 → (c : Int) < ri_at h 111 14 → 1 ≤ ri_at h 124 (3 * c) ∧ ri_at h 124 (3 * c) ≤ 99)
theorem cw_PPok (G : Int) : cw_Pok cw_Ds cw_sh cw_dp (cw_PP G) := by
  intro h h' hP he
  have e : ∀ k d i : Nat, cw_sh[k]? = some d → cw_prot cw_Ds cw_dp d i = true → ri_at h' k i = ri_at h k i := fun k d i h1 h2 => ri_eq (he k d i h1 h2)
  have ew : ∀ i, ri_at h' 113 i = ri_at h 113 i := fun i => e 113 52 i rfl rfl
  have e1 : ri_at h' 111 7 = ri_at h 111 7 := e 111 12 7 rfl rfl
  have e2 : ri_at h' 111 6 = ri_at h 111 6 := e 111 12 6 rfl rfl
  have e3 : ri_at h' 111 8 = ri_at h 111 8 := e 111 12 8 rfl rfl
  have e4 : ri_at h' 111 14 = ri_at h 111 14 := e 111 12 14 rfl rfl
  have e5 : ri_at h' 111 9 = ri_at h 111 9 := e 111 12 9 rfl rfl
  have e_knot : ∀ i, ri_at h' 125 i = ri_at h 125 i := fun i => e 125 64 i rfl rfl
  have e_part : ∀ i, ri_at h' 126 i = ri_at h 126 i := fun i => e 126 65 i rfl rfl
  have e_other : ∀ i, ri_at h' 127 i = ri_at h 127 i := fun i => e 127 66 i rfl rfl
  have e_lawTold : ∀ i, ri_at h' 117 i = ri_at h 117 i := fun i => e 117 56 i rfl rfl
  have e_lawLast : ∀ i, ri_at h' 116 i = ri_at h 116 i := fun i => e 116 55 i rfl rfl
  have e_readGate : ∀ i, ri_at h' 136 i = ri_at h 136 i := fun i => e 136 75 i rfl rfl
  have e_readWeek : ∀ i, ri_at h' 137 i = ri_at h 137 i := fun i => e 137 76 i rfl rfl
  have e_g1 : ∀ g : Nat, ri_at h' 119 (16 * g + 1) = ri_at h 119 (16 * g + 1) := fun g => e 119 58 _ rfl (by show cw_bit cw_dp 58 (1 + (16 * g + 1) % 16) = true; rw [Nat.mul_add_mod]; decide +kernel)
  have e_g3 : ∀ g : Nat, ri_at h' 119 (16 * g + 3) = ri_at h 119 (16 * g + 3) := fun g => e 119 58 _ rfl (by show cw_bit cw_dp 58 (1 + (16 * g + 3) % 16) = true; rw [Nat.mul_add_mod]; decide +kernel)
  have e_g4 : ∀ g : Nat, ri_at h' 119 (16 * g + 4) = ri_at h 119 (16 * g + 4) := fun g => e 119 58 _ rfl (by show cw_bit cw_dp 58 (1 + (16 * g + 4) % 16) = true; rw [Nat.mul_add_mod]; decide +kernel)
  have e_c : ∀ g : Nat, ri_at h' 124 (3 * g) = ri_at h 124 (3 * g) := fun g => e 124 63 _ rfl (by show cw_bit cw_dp 63 (1 + (3 * g) % 3) = true; rw [Nat.mul_mod_right]; decide +kernel)
  unfold cw_PP at hP ⊢
  simp only [ew, e1, e2, e3, e4, e5, e_knot, e_part, e_other, e_lawTold, e_lawLast, e_readGate, e_readWeek, e_g1, e_g3, e_g4, e_c]
  exact hP
theorem cw_dpok_all : cw_dpok cw_Ds cw_dp := by
  have h : (List.range cw_Ds.length).all (fun d => match cw_Ds[d]? with
    | some (.inl (_, _, p, _)) => Nat.ble 1 p && (cw_bit cw_dp d 0 || (List.range p).all (fun r => !cw_bit cw_dp d (1 + r)))
    | _ => true) = true := by decide +kernel
  intro d t n p rs hd
  have hlt := (List.getElem?_eq_some_iff.mp hd).1
  have h1 := List.all_eq_true.mp h d (List.mem_range.mpr hlt)
  rw [hd] at h1
  simp only [Bool.and_eq_true, Bool.or_eq_true, Nat.ble_eq] at h1
  refine ⟨h1.1, fun h0 r hr => ?_⟩
  rcases h1.2 with q | q
  · rw [h0] at q; cases q
  · have := List.all_eq_true.mp q r (List.mem_range.mpr hr)
    simpa using this
def pp_msk (m : Nat) : Bool := ([52, 64, 65, 66, 56, 55, 75, 76] : List Nat).all (fun d => !cw_bit m d 0 && !cw_bit m d 1) && ((([0, 2, 4, 5] : List Nat).all (fun s => !cw_bit m 58 s)) && ((!cw_bit m 63 0 && !cw_bit m 63 1) && !cw_bit m 12 14))
def pp_tk (h : cv_H) : Prop := ri_at h 111 7 ≤ ri_at h 111 6 ∧ (ri_at h 111 8 = 1 → 0 ≤ ri_at h 111 9 ∧ ri_at h 111 9 ≤ 33) ∧ (ri_at h 111 8 = 5 → 0 ≤ ri_at h 111 9 ∧ ri_at h 111 9 ≤ 5)
theorem pp_fr1 {G : Int} {h h' : cv_H} {m : Nat} (hm : pp_msk m = true) (hP : cw_PP G h) (hF : cw_Fr cw_Ds cw_sh m h h') (h1 : pp_tk h') : cw_PP G h' := by
  unfold pp_msk at hm
  simp only [Bool.and_eq_true, List.all_eq_true, Bool.not_eq_true'] at hm
  obtain ⟨m1, m2, m3, m4⟩ := hm
  have er : ∀ k d t n rs, d ∈ ([52, 64, 65, 66, 56, 55, 75, 76] : List Nat) → cw_sh[k]? = some d → cw_Ds[d]? = some (.inl (t, n, 1, rs)) → ∀ i, ri_at h' k i = ri_at h k i := by
    intro k d t n rs hd hk hD i
    refine ri_eq (hF.2 k d i hk ?_)
    unfold cw_tch
    rw [hD]
    dsimp only
    rw [Nat.mod_one, (m1 d hd).1, (m1 d hd).2]
    rfl
  have e_words : ∀ i, ri_at h' 113 i = ri_at h 113 i := er 113 52 _ _ _ (by decide) rfl rfl
  have e_knot : ∀ i, ri_at h' 125 i = ri_at h 125 i := er 125 64 _ _ _ (by decide) rfl rfl
  have e_part : ∀ i, ri_at h' 126 i = ri_at h 126 i := er 126 65 _ _ _ (by decide) rfl rfl
  have e_other : ∀ i, ri_at h' 127 i = ri_at h 127 i := er 127 66 _ _ _ (by decide) rfl rfl
  have e_lawTold : ∀ i, ri_at h' 117 i = ri_at h 117 i := er 117 56 _ _ _ (by decide) rfl rfl
  have e_lawLast : ∀ i, ri_at h' 116 i = ri_at h 116 i := er 116 55 _ _ _ (by decide) rfl rfl
  have e_readGate : ∀ i, ri_at h' 136 i = ri_at h 136 i := er 136 75 _ _ _ (by decide) rfl rfl
  have e_readWeek : ∀ i, ri_at h' 137 i = ri_at h 137 i := er 137 76 _ _ _ (by decide) rfl rfl
  have e_g1 : ∀ g : Nat, ri_at h' 119 (16 * g + 1) = ri_at h 119 (16 * g + 1) := fun g => ri_eq (hF.2 119 58 _ rfl (by show (cw_bit m 58 0 || cw_bit m 58 (1 + (16 * g + 1) % 16)) = false; rw [Nat.mul_add_mod, m2 0 (by decide)]; exact m2 2 (by decide)))
  have e_g3 : ∀ g : Nat, ri_at h' 119 (16 * g + 3) = ri_at h 119 (16 * g + 3) := fun g => ri_eq (hF.2 119 58 _ rfl (by show (cw_bit m 58 0 || cw_bit m 58 (1 + (16 * g + 3) % 16)) = false; rw [Nat.mul_add_mod, m2 0 (by decide)]; exact m2 4 (by decide)))
  have e_g4 : ∀ g : Nat, ri_at h' 119 (16 * g + 4) = ri_at h 119 (16 * g + 4) := fun g => ri_eq (hF.2 119 58 _ rfl (by show (cw_bit m 58 0 || cw_bit m 58 (1 + (16 * g + 4) % 16)) = false; rw [Nat.mul_add_mod, m2 0 (by decide)]; exact m2 5 (by decide)))
  have e_c : ∀ g : Nat, ri_at h' 124 (3 * g) = ri_at h 124 (3 * g) := fun g => ri_eq (hF.2 124 63 _ rfl (by show (cw_bit m 63 0 || cw_bit m 63 (1 + (3 * g) % 3)) = false; rw [Nat.mul_mod_right, m3.1]; exact m3.2))
  have e4 : ri_at h' 111 14 = ri_at h 111 14 := ri_eq (hF.2 111 12 _ rfl m4)
  obtain ⟨p1, p2, p3, p4, p5, p6, p7⟩ := hP
  refine ⟨?_, h1, ?_, ?_, ?_, ?_, ?_⟩
  all_goals simp only [e_words, e_knot, e_part, e_other, e_lawTold, e_lawLast, e_readGate, e_readWeek, e_g1, e_g3, e_g4, e_c, e4]
  all_goals assumption
end
section
/-! ===== more rules for walking ===== -/
section CWY
variable {X : cv_X} {mi : Nat} {Q : cv_O → Prop} {pc len a b : Nat} {z : Int} {L : cv_L} {st : List cv_V} {h : cv_H} {G : Int}
theorem ex_ia1 {k d m j : Nat} {rg : Int × Int} {i : Int32} (ho : cw_ho mi pc .iaload len a b z) (hT : cw_T G h) (hk : cw_sh[k]? = some d) (hD : cw_Ds[d]? = some (.inl (0, m, 1, [rg]))) (hj : i.toInt = j) (hm : j < m) (kk : ∀ x : Int32, ri_at h k j = x.toInt → rg.1 ≤ x.toInt → x.toInt ≤ rg.2 → cw_X X mi Q (pc + len) L (cv_i x :: st) h) : cw_X X mi Q pc L (cv_i i :: cv_r k :: st) h :=
  ex_ia ho hT hk hD hj hm (fun x h1 ⟨r, h2, h3, h4⟩ => by rw [Nat.mod_one] at h2; cases h2; exact kk x (ri_of h1) h3 h4)
theorem ex_ba1 {k d m t j : Nat} {rg : Int × Int} {i : Int32} (ho : cw_ho mi pc .baload len a b z) (hT : cw_T G h) (hk : cw_sh[k]? = some d) (hD : cw_Ds[d]? = some (.inl (t, m, 1, [rg]))) (ht : (t == 1 || t == 2) = true) (hj : i.toInt = j) (hm : j < m) (kk : ∀ x : Int32, ri_at h k j = x.toInt → rg.1 ≤ x.toInt → x.toInt ≤ rg.2 → cw_X X mi Q (pc + len) L (cv_i x :: st) h) : cw_X X mi Q pc L (cv_i i :: cv_r k :: st) h :=
  ex_ba ho hT hk hD ht hj hm (fun x h1 ⟨r, h2, h3, h4⟩ => by rw [Nat.mod_one] at h2; cases h2; exact kk x (ri_of h1) h3 h4)
theorem ex_iap {k d m p j : Nat} {rs : List (Int × Int)} {i : Int32} (ho : cw_ho mi pc .iaload len a b z) (hT : cw_T G h) (hk : cw_sh[k]? = some d) (hD : cw_Ds[d]? = some (.inl (0, m, p, rs))) (hj : i.toInt = j) (hm : j < m) (kk : ∀ x : Int32, ri_at h k j = x.toInt → cw_X X mi Q (pc + len) L (cv_i x :: st) h) : cw_X X mi Q pc L (cv_i i :: cv_r k :: st) h :=
  ex_ia ho hT hk hD hj hm (fun x h1 _ => kk x (ri_of h1))
theorem ex_iw1 {k d m j : Nat} {rg : Int × Int} {i y : Int32} (ho : cw_ho mi pc .iastore len a b z) (hT : cw_T G h) (hk : cw_sh[k]? = some d) (hD : cw_Ds[d]? = some (.inl (0, m, 1, [rg]))) (hj : i.toInt = j) (hm : j < m) (hy : rg.1 ≤ y.toInt ∧ y.toInt ≤ rg.2) (kk : ∀ h', cw_T G h' → cw_Wr h h' k j (cv_i y) → cw_X X mi Q (pc + len) L st h') : cw_X X mi Q pc L (cv_i y :: cv_i i :: cv_r k :: st) h :=
  ex_iw ho hT hk hD hj hm (fun r hr => by rw [Nat.mod_one] at hr; cases hr; exact hy) kk
theorem ex_bw2 {k d m j : Nat} {i y : Int32} (ho : cw_ho mi pc .bastore len a b z) (hT : cw_T G h) (hk : cw_sh[k]? = some d) (hD : cw_Ds[d]? = some (.inl (2, m, 1, [(0, 1)]))) (hj : i.toInt = j) (hm : j < m) (hy : 0 ≤ y.toInt ∧ y.toInt ≤ 1) (kk : ∀ h', cw_T G h' → cw_Wr h h' k j (cv_i y) → cw_X X mi Q (pc + len) L st h') : cw_X X mi Q pc L (cv_i y :: cv_i i :: cv_r k :: st) h := by
  have e : cv_nar 2 y = y := by
    show y &&& 1 = y
    have : y.toInt = 0 ∨ y.toInt = 1 := by omega
    rcases this with q | q
    · have : y = 0 := Int32.toInt_inj.mp (by rw [q]; rfl)
      subst this; rfl
    · have : y = 1 := Int32.toInt_inj.mp (by rw [q]; rfl)
      subst this; rfl
  refine ex_bw (t := 2) ho hT hk hD rfl hj hm (by rw [e]; exact hy) ?_
  rw [e]
  exact kk
theorem cw_fit2 {x : Int32} (h0 : 0 ≤ x.toInt) (h1 : x.toInt ≤ 1) : cv_fit 2 (cv_i x) = true := by
  show (decide (x = 0) || decide (x = 1)) = true
  have : x.toInt = 0 ∨ x.toInt = 1 := by omega
  rcases this with q | q
  · have : x = 0 := Int32.toInt_inj.mp (by rw [q]; rfl)
    subst this; rfl
  · have : x = 1 := Int32.toInt_inj.mp (by rw [q]; rfl)
    subst this; rfl
/-- this object's fields: an int, a boolean -/
theorem ex_pfi {ix k ci : Nat} {fs : List cw_A} {d : Nat} {lo hi : Int} {v : Int32} (ho : cw_ho mi pc (.putfield ix) len ci b 0) (hT : cw_T G h) (hk : cw_sh[k]? = some d) (hD : cw_Ds[d]? = some (.inr (.inr (.inr (ci, fs))))) (hA : fs[b]? = some (.inl (lo, hi, 0))) (h0 : lo ≤ v.toInt) (h1 : v.toInt ≤ hi) (kk : ∀ h', cw_T G h' → cw_Wr h h' k b (cv_i v) → cw_X X mi Q (pc + len) L st h') : cw_X X mi Q pc L (cv_i v :: cv_r k :: st) h :=
  ex_pf ho hT hk hD hA ⟨v, rfl, h0, h1, cw_tg0⟩ rfl kk
theorem ex_pfb {ix k ci : Nat} {fs : List cw_A} {d : Nat} {v : Int32} (ho : cw_ho mi pc (.putfield ix) len ci b 2) (hT : cw_T G h) (hk : cw_sh[k]? = some d) (hD : cw_Ds[d]? = some (.inr (.inr (.inr (ci, fs))))) (hA : fs[b]? = some (.inl (0, 1, 0))) (h0 : 0 ≤ v.toInt) (h1 : v.toInt ≤ 1) (kk : ∀ h', cw_T G h' → cw_Wr h h' k b (cv_i v) → cw_X X mi Q (pc + len) L st h') : cw_X X mi Q pc L (cv_i v :: cv_r k :: st) h :=
  ex_pf ho hT hk hD hA ⟨v, rfl, h0, h1, cw_tg0⟩ (cw_fit2 h0 h1) kk
theorem ex_cv {ix k d ci j np : Nat} {fs : List cw_A} {as stk : List cv_V} (ho : cw_ho mi pc (.invokevirtual ix) len j np z) (hn : j < 9000) (hT : cw_T G h) (hk : cw_sh[k]? = some d) (hD : cw_Ds[d]? = some (.inr (.inr (.inr (ci, fs))))) (hz : z.toNat = ci) (hst : st = as.reverse ++ cv_r k :: stk) (hl : as.length = np) (hf : cv_fits (mt_all mi) (mt_all j) 0 0 (cv_wid (cv_r k :: as)) stk = true) (hr : (mt_all j).2.2.1 = 0 ∧ (mt_all j).2.2.2.1 = 0) {R : cv_O → Prop} (hK : cw_X (fun j => bif j == 2 then none else X j) j R 0 (cv_ent 0 (cv_r k :: as)) [] h)
    (kk : ∀ o, R o → cw_X X mi Q (pc + len) L (o.1.toList ++ stk) o.2) : cw_X X mi Q pc L st h := by
  obtain ⟨vs, h1, -⟩ := cw_cell_o hD (hT k d hk)
  subst hst hl
  refine ex_call ho hn ?_ hf hr hK kk
  have e1 : (as.reverse ++ cv_r k :: stk).take as.length = as.reverse := by
    rw [List.take_append_of_le_length (by simp)]; exact List.take_of_length_le (by simp)
  have e2 : (as.reverse ++ cv_r k :: stk).drop as.length = cv_r k :: stk := by
    rw [List.drop_append_of_le_length (by simp)]
    rw [List.drop_of_length_le (by simp)]
    rfl
  unfold cv_call
  dsimp only
  rw [decide_eq_true (by simp), cond_true, e1, e2]
  dsimp only
  rw [h1]
  dsimp only
  rw [hz, beq_self_eq_true, List.reverse_reverse]
  rfl
theorem ex_cs {ix j np : Nat} {as stk : List cv_V} (ho : cw_ho mi pc (.invokestatic ix) len j np z) (hn : j < 9000) (hst : st = as.reverse ++ stk) (hl : as.length = np) (hf : cv_fits (mt_all mi) (mt_all j) 0 0 (cv_wid as) stk = true) (hr : (mt_all j).2.2.1 = 0 ∧ (mt_all j).2.2.2.1 = 0) {R : cv_O → Prop} (hK : cw_X (fun j => bif j == 2 then none else X j) j R 0 (cv_ent 0 as) [] h)
    (kk : ∀ o, R o → cw_X X mi Q (pc + len) L (o.1.toList ++ stk) o.2) : cw_X X mi Q pc L st h := by
  subst hst hl
  refine ex_call ho hn ?_ hf hr hK kk
  have e1 : (as.reverse ++ stk).take as.length = as.reverse := by
    rw [List.take_append_of_le_length (by simp)]; exact List.take_of_length_le (by simp)
  have e2 : (as.reverse ++ stk).drop as.length = stk := by
    rw [List.drop_append_of_le_length (by simp)]
    rw [List.drop_of_length_le (by simp)]
    rfl
  unfold cv_call
  dsimp only
  rw [decide_eq_true (by simp), cond_true, e1, e2, List.reverse_reverse]
theorem cw_HX {P : cv_H → Prop} {K : cw_K} {av : List cv_V} {j : Nat} (hK : cw_Holds fk_all mt_all cw_Ds cw_sh G P K) (hj : K.1.1 = j) (hX : cw_Xok X) (hI : cw_Inv cw_Ds cw_sh G P h) (hg : cw_gas G cw_sh K.2.1 av) (hfp : cw_fpo G cw_sh h K.2.2.2.2.2.2 av.head?) : cw_X X j (cw_Po cw_Ds cw_sh G P K av h) 0 (cv_ent 0 av) [] h := by
  subst hj
  exact hK X h av hX hI hg hfp
theorem cw_XH {P : cv_H → Prop} {K : cw_K} (hK : ∀ (X : cv_X) (h : cv_H) (av : List cv_V), cw_Xok X → cw_T G h → P h → cw_gas G cw_sh K.2.1 av → cw_fpo G cw_sh h K.2.2.2.2.2.2 av.head? → cw_X X K.1.1 (cw_Po cw_Ds cw_sh G P K av h) 0 (cv_ent 0 av) [] h) : cw_Holds fk_all mt_all cw_Ds cw_sh G P K :=
  fun X h av hX hI hg hfp => hK X h av hX hI.1 hI.2 hg hfp
theorem po_int {P : cv_H → Prop} {K : cw_K} {av : List cv_V} {w : cw_W} {o : cv_O} (ho : cw_Po cw_Ds cw_sh G P K av h o) (hp : K.2.2.1 = some (.inl w)) : ∃ (x : Int32) (h' : cv_H), o = (some (cv_i x), h') ∧ cw_wok G w x.toInt ∧ cw_T G h' ∧ P h' ∧ cw_Fr cw_Ds cw_sh K.2.2.2.2.2.1 h h' ∧ (x.toInt ≠ 0 → (∀ t ∈ K.2.2.2.1, ∃ w, av[t.1]? = some w ∧ cw_ga G cw_sh t.2 w) ∧ ∀ t ∈ K.2.2.2.2.1, ∃ x y z : Int32, av[t.1]? = some (cv_i x) ∧ av[t.2.1]? = some (cv_i y) ∧ av[t.2.2]? = some (cv_i z) ∧ y.toInt ≤ x.toInt ∧ x.toInt ≤ z.toInt) := by
  obtain ⟨o1, h'⟩ := o
  obtain ⟨p1, p2, p3, p4⟩ := ho
  rw [hp] at p1
  cases o1 with
  | none => exact p1.elim
  | some v =>
    obtain ⟨x, hx, hw⟩ := p1
    subst hx
    exact ⟨x, h', rfl, hw, p2.1, p2.2, p3, fun hx0 => p4 x rfl hx0⟩
theorem po_lng {P : cv_H → Prop} {K : cw_K} {av : List cv_V} {w : cw_W} {o : cv_O} (ho : cw_Po cw_Ds cw_sh G P K av h o) (hp : K.2.2.1 = some (.inr (.inl w))) : ∃ (x : Int64) (h' : cv_H), o = (some (cv_l x), h') ∧ cw_wok G w x.toInt ∧ cw_T G h' ∧ P h' ∧ cw_Fr cw_Ds cw_sh K.2.2.2.2.2.1 h h' := by
  obtain ⟨o1, h'⟩ := o
  obtain ⟨p1, p2, p3, p4⟩ := ho
  rw [hp] at p1
  cases o1 with
  | none => exact p1.elim
  | some v =>
    obtain ⟨x, hx, hw⟩ := p1
    subst hx
    exact ⟨x, h', rfl, hw, p2.1, p2.2, p3⟩
theorem po_non {P : cv_H → Prop} {K : cw_K} {av : List cv_V} {o : cv_O} (ho : cw_Po cw_Ds cw_sh G P K av h o) (hp : K.2.2.1 = none) : ∃ h' : cv_H, o = (none, h') ∧ cw_T G h' ∧ P h' ∧ cw_Fr cw_Ds cw_sh K.2.2.2.2.2.1 h h' := by
  obtain ⟨o1, h'⟩ := o
  obtain ⟨p1, p2, p3, p4⟩ := ho
  rw [hp] at p1
  cases o1 with
  | none => exact ⟨h', rfl, p2.1, p2.2, p3⟩
  | some v => exact p1.elim
theorem ri_fr {m k d i : Nat} {h' : cv_H} (hF : cw_Fr cw_Ds cw_sh m h h') (hk : cw_sh[k]? = some d) (ht : cw_tch cw_Ds m d i = false) : ri_at h' k i = ri_at h k i := ri_eq (hF.2 k d i hk ht)
theorem ex_reti {x : Int32} (ho : cw_ho mi pc .ireturn len a b z) (hr : (mt_all mi).1.2.2.2.2 = some .int) (hQ : Q (some (cv_i x), h)) : cw_X X mi Q pc L [cv_i x] h := by
  refine ex_ret ho ?_ hQ
  unfold cv_ret
  dsimp only
  rw [decide_eq_true (Nat.zero_le _), decide_eq_true (Nat.zero_le _), hr]
  rfl
theorem ex_retb {x : Int32} (ho : cw_ho mi pc .ireturn len a b z) (hr : (mt_all mi).1.2.2.2.2 = some .boolean) (h0 : 0 ≤ x.toInt) (h1 : x.toInt ≤ 1) (hQ : Q (some (cv_i x), h)) : cw_X X mi Q pc L [cv_i x] h := by
  refine ex_ret ho ?_ hQ
  unfold cv_ret
  dsimp only
  have e := cw_fit2 h0 h1
  have e : (decide (x = 0) || decide (x = 1)) = true := e
  rw [decide_eq_true (Nat.zero_le _), decide_eq_true (Nat.zero_le _), hr]
  dsimp only [Bool.and_true, cond_true]
  rw [e]
  rfl
theorem ex_retl {x : Int64} (ho : cw_ho mi pc .lreturn len a b z) (hr : (mt_all mi).1.2.2.2.2 = some .long) (hQ : Q (some (cv_l x), h)) : cw_X X mi Q pc L [cv_l x] h := by
  refine ex_ret ho ?_ hQ
  unfold cv_ret
  dsimp only
  rw [decide_eq_true (Nat.zero_le _), decide_eq_true (Nat.zero_le _), hr]
  rfl
theorem ex_retv (ho : cw_ho mi pc .return_ len a b z) (hr : (mt_all mi).1.2.2.2.2 = none) (hQ : Q (none, h)) : cw_X X mi Q pc L [] h := by
  refine ex_ret ho ?_ hQ
  unfold cv_ret
  dsimp only
  rw [decide_eq_true (Nat.zero_le _), decide_eq_true (Nat.zero_le _), hr]
  rfl
end CWY
end
section
section CWL
variable {X : cv_X} {mi : Nat} {Q : cv_O → Prop} {pc len a b : Nat} {z : Int} {L : cv_L} {st : List cv_V} {h : cv_H} {G : Int}
def cw_Lk (L L' : cv_L) (n : Nat) : Prop := ∀ j w, j ≠ n → (j + 1 = n → cv_isL w = false) → cv_get L j = some w → cv_get L' j = some w
theorem cw_Lk_set {n : Nat} {v : cv_V} : cw_Lk L (cv_set L n v) n := fun j w hj hl hg => cw_gs_ne hg hj (fun q => by rw [hl q.1] at q; exact absurd q.2 (by simp))
theorem ex_isA {n : Fin 4} {v : Int32} (ho : cw_ho mi pc (.istore_n n) len a b z) (k : ∀ L', cv_get L' n.val = some (cv_i v) → cw_Lk L L' n.val → cw_X X mi Q (pc + len) L' st h) : cw_X X mi Q pc L (cv_i v :: st) h := ex_is ho rfl (k _ (cw_gs_self _ _ _) cw_Lk_set)
theorem ex_iswA {n : Nat} {v : Int32} (ho : cw_ho mi pc (.istore n) len a b z) (k : ∀ L', cv_get L' n = some (cv_i v) → cw_Lk L L' n → cw_X X mi Q (pc + len) L' st h) : cw_X X mi Q pc L (cv_i v :: st) h := ex_isw ho rfl (k _ (cw_gs_self _ _ _) cw_Lk_set)
def cw_LkL (L L' : cv_L) (n : Nat) : Prop := ∀ j w, j ≠ n → j ≠ n + 1 → (j + 1 = n → cv_isL w = false) → cv_get L j = some w → cv_get L' j = some w
theorem cw_LkL_set {n : Nat} {v : cv_V} : cw_LkL L (cv_setL L n v) n := fun j w hj hj1 hl hg => cw_gsL_ne hg hj hj1 (fun q => by rw [hl q.1] at q; exact absurd q.2 (by simp))
theorem ex_lsA {n : Fin 4} {v : Int64} (ho : cw_ho mi pc (.lstore_n n) len a b z) (k : ∀ L', cv_get L' n.val = some (cv_l v) → cw_LkL L L' n.val → cw_X X mi Q (pc + len) L' st h) : cw_X X mi Q pc L (cv_l v :: st) h := ex_ls ho rfl (k _ (cw_gsL_self _ _ _) cw_LkL_set)
theorem ex_lswA {n : Nat} {v : Int64} (ho : cw_ho mi pc (.lstore n) len a b z) (k : ∀ L', cv_get L' n = some (cv_l v) → cw_LkL L L' n → cw_X X mi Q (pc + len) L' st h) : cw_X X mi Q pc L (cv_l v :: st) h := ex_lsw ho rfl (k _ (cw_gsL_self _ _ _) cw_LkL_set)
theorem ex_incA {i : Nat} {n m : Int} {v : Int32} (ho : cw_ho mi pc (.iinc i n) len a b z) (hv : cv_get L i = some (cv_i v)) (hm : (Int32.ofInt n).toInt = m) (hr : -2147483648 ≤ v.toInt + m ∧ v.toInt + m ≤ 2147483647) (k : ∀ (L' : cv_L) (x : Int32), x.toInt = v.toInt + m → cv_get L' i = some (cv_i x) → cw_Lk L L' i → cw_X X mi Q (pc + len) L' st h) : cw_X X mi Q pc L st h := ex_inc ho hv hm hr (fun x hx => k _ x hx (cw_gs_self _ _ _) cw_Lk_set)
theorem ex_ldc2 {ix : Nat} (ho : cw_ho mi pc (.ldc2_w ix) len a b z) (k : ∀ x : Int64, x = Int64.ofInt z → cw_X X mi Q (pc + len) L (cv_l x :: st) h) : cw_X X mi Q pc L st h := ex_one ho rfl (k _ rfl)
end CWL
section CWM
variable {h h' : cv_H}
theorem cw_Fr_wrf {k i d m ci : Nat} {fs : List cw_A} {v : cv_V} (w : cw_Wr h h' k i v) (hk : cw_sh[k]? = some d) (hD : cw_Ds[d]? = some (.inr (.inr (.inr (ci, fs))))) (ht : cw_bit m d i = true) : cw_Fr cw_Ds cw_sh m h h' := cw_Fr_wr w hk (by unfold cw_tch; rw [hD]; exact ht)
theorem cw_Fr_wrr {k i d m t n p : Nat} {rs : List (Int × Int)} {v : cv_V} (w : cw_Wr h h' k i v) (hk : cw_sh[k]? = some d) (hD : cw_Ds[d]? = some (.inl (t, n, p, rs))) (ht : cw_bit m d 0 = true) : cw_Fr cw_Ds cw_sh m h h' := cw_Fr_wr w hk (by unfold cw_tch; rw [hD]; dsimp only; rw [ht]; rfl)
theorem cw_Fr_wrl {k i d m n : Nat} {v : cv_V} (w : cw_Wr h h' k i v) (hk : cw_sh[k]? = some d) (hD : cw_Ds[d]? = some (.inr (.inl n))) (ht : cw_bit m d 0 = true) : cw_Fr cw_Ds cw_sh m h h' := cw_Fr_wr w hk (by unfold cw_tch; rw [hD]; exact ht)
theorem ri_frf {m k d i ci : Nat} {fs : List cw_A} (hF : cw_Fr cw_Ds cw_sh m h h') (hk : cw_sh[k]? = some d) (hD : cw_Ds[d]? = some (.inr (.inr (.inr (ci, fs))))) (ht : cw_bit m d i = false) : ri_at h' k i = ri_at h k i := ri_fr hF hk (by unfold cw_tch; rw [hD]; exact ht)
theorem ri_frr {m k d i t n : Nat} {rs : List (Int × Int)} (hF : cw_Fr cw_Ds cw_sh m h h') (hk : cw_sh[k]? = some d) (hD : cw_Ds[d]? = some (.inl (t, n, 1, rs))) (ht : (cw_bit m d 0 || cw_bit m d 1) = false) : ri_at h' k i = ri_at h k i := ri_fr hF hk (by unfold cw_tch; rw [hD]; dsimp only; rw [Nat.mod_one]; exact ht)
end CWM
end
section
section CWN
variable {X : cv_X} {mi : Nat} {Q : cv_O → Prop} {pc len a b : Nat} {z : Int} {L : cv_L} {st : List cv_V} {h h' : cv_H} {G : Int}
def pp_msk0 (m : Nat) : Bool := pp_msk m && ([6, 7, 8, 9].all (fun s => !cw_bit m 12 s))
theorem pp_fr0 {m : Nat} (hm : pp_msk0 m = true) (hP : cw_PP G h) (hF : cw_Fr cw_Ds cw_sh m h h') : cw_PP G h' := by
  unfold pp_msk0 at hm
  simp only [Bool.and_eq_true, List.all_eq_true, Bool.not_eq_true'] at hm
  have e : ∀ s ∈ ([6, 7, 8, 9] : List Nat), ri_at h' 111 s = ri_at h 111 s := fun s hs => ri_frf hF (d := 12) rfl rfl (hm.2 s hs)
  refine pp_fr1 hm.1 hP hF ?_
  have h1 := hP.2.1
  unfold pp_tk
  rw [e 6 (by decide), e 7 (by decide), e 8 (by decide), e 9 (by decide)]
  exact h1
theorem ex_tsw {d lo hi : Int} {offs : Array Int} {x : Int32} (ho : cw_ho mi pc (.tableswitch d lo hi offs) len a b z) (hn : hi - lo + 1 = offs.size) (kd : (x.toInt < lo ∨ hi < x.toInt) → cv_jmp pc d = true ∧ cw_X X mi Q (cv_tgt pc d) L st h) (kc : ∀ i : Nat, i < offs.size → x.toInt = lo + i → cv_jmp pc (offs.getD i 0) = true ∧ cw_X X mi Q (cv_tgt pc (offs.getD i 0)) L st h) : cw_X X mi Q pc L (cv_i x :: st) h := by
  have hone : cv_one X (pc, .tableswitch d lo hi offs, len, a, b, z) (pc, L, cv_i x :: st, h, 0, 0) = (bif decide (x.toInt < lo) || decide (hi < x.toInt) then (bif cv_jmp pc d then some (cv_tgt pc d, L, st, h, 0, 0) else none) else
        (match offs[(x.toInt - lo).toNat]? with
        | some off => bif cv_jmp pc off then some (cv_tgt pc off, L, st, h, 0, 0) else none
        | none => none)) := rfl
  cases hc : (decide (x.toInt < lo) || decide (hi < x.toInt)) with
  | true =>
    rw [hc, cond_true] at hone
    obtain ⟨k1, k2⟩ := kd (by simpa using hc)
    rw [k1] at hone
    exact ex_one ho hone k2
  | false =>
    rw [hc, cond_false] at hone
    simp only [Bool.or_eq_false_iff, decide_eq_false_iff_not] at hc
    have hlt : (x.toInt - lo).toNat < offs.size := by omega
    obtain ⟨k1, k2⟩ := kc (x.toInt - lo).toNat hlt (by omega)
    have e : offs.getD (x.toInt - lo).toNat 0 = offs[(x.toInt - lo).toNat] := by simp [hlt]
    rw [e] at k1 k2
    rw [Array.getElem?_eq_getElem hlt] at hone
    dsimp only at hone
    rw [k1] at hone
    exact ex_one ho hone k2
theorem ex_ldcw {ix : Nat} {m : Int} (ho : cw_ho mi pc (.ldc_w ix) len a b z) (hm : (Int32.ofInt z).toInt = m) (k : ∀ x : Int32, x.toInt = m → cw_X X mi Q (pc + len) L (cv_i x :: st) h) : cw_X X mi Q pc L st h := ex_one ho rfl (k _ hm)
theorem ex_orE {x y : Int32} (ho : cw_ho mi pc .ior len a b z) (k : ∀ r : Int32, r = x ||| y → cw_X X mi Q (pc + len) L (cv_i r :: st) h) : cw_X X mi Q pc L (cv_i y :: cv_i x :: st) h := ex_one ho rfl (k _ rfl)
theorem ex_andE {x y : Int32} (ho : cw_ho mi pc .iand len a b z) (k : ∀ r : Int32, r = x &&& y → cw_X X mi Q (pc + len) L (cv_i r :: st) h) : cw_X X mi Q pc L (cv_i y :: cv_i x :: st) h := ex_one ho rfl (k _ rfl)
theorem ex_shlE {x y : Int32} (ho : cw_ho mi pc .ishl len a b z) (k : ∀ r : Int32, r = x <<< (y &&& 31) → cw_X X mi Q (pc + len) L (cv_i r :: st) h) : cw_X X mi Q pc L (cv_i y :: cv_i x :: st) h := ex_one ho rfl (k _ rfl)
theorem ex_shrE {x y : Int32} (ho : cw_ho mi pc .ishr len a b z) (k : ∀ r : Int32, r = x >>> (y &&& 31) → cw_X X mi Q (pc + len) L (cv_i r :: st) h) : cw_X X mi Q pc L (cv_i y :: cv_i x :: st) h := ex_one ho rfl (k _ rfl)
theorem cw_lcmp0 {x : Int64} {y : Int64} (hy : y.toInt = 0) {r : Int32} (hr : r = lg_cmp x y) (h0 : ¬ r.toInt = 0) : x.toInt ≠ 0 := by
  intro q
  have e : x = y := Int64.toInt_inj.mp (by omega)
  apply h0
  rw [hr, e]
  unfold lg_cmp
  rw [if_neg (by intro q; exact absurd (Int64.lt_iff_toInt_lt.mp q) (by omega)), if_pos rfl]
  rfl
end CWN
section CWR
variable {X : cv_X} {mi : Nat} {Q : cv_O → Prop} {pc len a b : Nat} {z : Int} {L : cv_L} {st : List cv_V} {h h' : cv_H} {G : Int}
theorem ri_refs {d k ci f d' : Nat} {fs : List cw_A} (hT : cw_T G h) (hk : cw_sh[k]? = some d) (hD : cw_Ds[d]? = some (.inr (.inr (.inr (ci, fs))))) (hA : fs[f]? = some (.inr (.inr d'))) (hd : d' < 1000) : ∃ k' : Nat, cw_at h k f = some (cv_r k') ∧ cw_sh[k']? = some d' := by
  obtain ⟨vs, h1, h2, h3⟩ := cw_cell_o hD (hT k d hk)
  obtain ⟨v, h4, h5⟩ := h3 f _ hA
  rcases h5 with ⟨-, j, rfl, h6⟩ | ⟨j, h6, -⟩
  · exact ⟨j, by unfold cw_at; rw [h1]; exact h4, h6⟩
  · omega
theorem ex_aa {k d t m d' j : Nat} {i : Int32} (ho : cw_ho mi pc .aaload len a b z) (hT : cw_T G h) (hk : cw_sh[k]? = some d) (hD : cw_Ds[d]? = some (.inr (.inr (.inl (t, m, d'))))) (hj : i.toInt = j) (hm : j < m) (kk : ∀ k' : Nat, cw_at h k j = some (cv_r k') → cw_sh[k']? = some d' → cw_X X mi Q (pc + len) L (cv_r k' :: st) h) : cw_X X mi Q pc L (cv_i i :: cv_r k :: st) h := by
  obtain ⟨xs, h1, h2, h3⟩ := cw_cell_r hD (hT k d hk)
  obtain ⟨y, hy⟩ := cw_get_lt (xs := xs) (j := j) (by omega)
  obtain ⟨k', rfl, hk'⟩ := h3 j y hy
  obtain ⟨c1, c2⟩ := cw_cixi hj hm
  refine ex_one ho ?_ (kk k' (by unfold cw_at; rw [h1]; show (xs[j]?).map _ = _; rw [hy]; rfl) hk')
  show (match h[k]? with
    | some (.inr (.inr (.inl (_, xs)))) => bif cv_ix i xs.length then (xs[i.toNatClampNeg]?).map _ else none
    | _ => none) = _
  rw [h1]
  show (bif cv_ix i xs.length then (xs[i.toNatClampNeg]?).map _ else none) = _
  rw [h2, c1, c2, hy]
  rfl
theorem ex_lenr {k d m : Nat} {t d' : Nat} (ho : cw_ho mi pc .arraylength len a b z) (hT : cw_T G h) (hk : cw_sh[k]? = some d) (hD : cw_Ds[d]? = some (.inr (.inr (.inl (t, m, d'))))) (hm : m ≤ 10000) (kk : ∀ x : Int32, x.toInt = m → cw_X X mi Q (pc + len) L (cv_i x :: st) h) : cw_X X mi Q pc L (cv_r k :: st) h := by
  obtain ⟨xs, h1, h2, -⟩ := cw_cell_r hD (hT k d hk)
  refine ex_one ho ?_ (kk (Int32.ofNat m) (cw_ofNat hm))
  show (match h[k]? with
    | some (.inl (_, xs)) => some _
    | some (.inr (.inl xs)) => some _
    | some (.inr (.inr (.inl (_, xs)))) => some _
    | _ => none) = _
  rw [h1, ← h2]
theorem ex_nat {S' : cv_S} {q : Instr} {st' : List cv_V} (ho : cw_ho mi pc q len a b z) (h1 : cv_nat (mt_all mi) (pc, q, len, a, b, z) (pc, L, st, h, 0, 0) = some (pc + len, L, st', h, 0, 0)) (k : cw_X X mi Q (pc + len) L st' h) : cw_X X mi Q pc L st h := by
  obtain ⟨o, h2, h3⟩ := k
  exact ⟨o, cw_ev_nat ho h1 h2, h3⟩
theorem ex_max {ix : Nat} {x y : Int32} (ho : cw_ho mi pc (.invokestatic ix) len 9001 b z) (hf : 1 ≤ (mt_all mi).2.2.2.2.1) (hw : cv_wid st + 15 ≤ (mt_all mi).2.2.2.2.2) (k : ∀ r : Int32, (r.toInt = x.toInt ∧ y.toInt ≤ x.toInt ∨ r.toInt = y.toInt ∧ x.toInt ≤ y.toInt) → cw_X X mi Q (pc + len) L (cv_i r :: st) h) : cw_X X mi Q pc L (cv_i y :: cv_i x :: st) h := by
  refine ex_nat (S' := (0, [], [], h, 0, 0)) (st' := cv_i (if x < y then y else x) :: st) ho ?_ (k _ ?_)
  · unfold cv_nat
    dsimp only
    rw [decide_eq_true hf, decide_eq_true (Nat.zero_le _), decide_eq_true (Nat.zero_le _)]
    show (bif decide _ then some _ else none) = _
    rw [decide_eq_true hw]
    rfl
  · by_cases q : x < y
    · rw [if_pos q]; have := Int32.lt_iff_toInt_lt.mp q; right; omega
    · rw [if_neg q]; have : ¬ x.toInt < y.toInt := fun p => q (Int32.lt_iff_toInt_lt.mpr p); left; omega
theorem ex_min {ix : Nat} {x y : Int32} (ho : cw_ho mi pc (.invokestatic ix) len 9002 b z) (hf : 1 ≤ (mt_all mi).2.2.2.2.1) (hw : cv_wid st + 15 ≤ (mt_all mi).2.2.2.2.2) (k : ∀ r : Int32, (r.toInt = x.toInt ∧ x.toInt ≤ y.toInt ∨ r.toInt = y.toInt ∧ y.toInt ≤ x.toInt) → cw_X X mi Q (pc + len) L (cv_i r :: st) h) : cw_X X mi Q pc L (cv_i y :: cv_i x :: st) h := by
  refine ex_nat (S' := (0, [], [], h, 0, 0)) (st' := cv_i (if y < x then y else x) :: st) ho ?_ (k _ ?_)
  · unfold cv_nat
    dsimp only
    rw [decide_eq_true hf, decide_eq_true (Nat.zero_le _), decide_eq_true (Nat.zero_le _)]
    show (bif decide _ then some _ else none) = _
    rw [decide_eq_true hw]
    rfl
  · by_cases q : y < x
    · rw [if_pos q]; have := Int32.lt_iff_toInt_lt.mp q; right; omega
    · rw [if_neg q]; have : ¬ y.toInt < x.toInt := fun p => q (Int32.lt_iff_toInt_lt.mpr p); left; omega
end CWR
end
