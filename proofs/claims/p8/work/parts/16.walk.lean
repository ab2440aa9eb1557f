/-! ===== walking through a method by hand ===== -/
def cw_X (X : cv_X) (mi : Nat) (Q : cv_O → Prop) (pc : Nat) (L : cv_L) (st : List cv_V) (h : cv_H) : Prop := ∃ o, cw_Ev fk_all mt_all X mi (pc, L, st, h, 0, 0) o ∧ Q o
def cw_T (G : Int) (h : cv_H) : Prop := ∀ k d : Nat, cw_sh[k]? = some d → cw_cell cw_Ds cw_sh G h k d
/-- one slot written -/
def cw_Wr (h h' : cv_H) (k i : Nat) (v : cv_V) : Prop := cw_at h' k i = some v ∧ (∀ k' i', (k' ≠ k ∨ i' ≠ i) → cw_at h' k' i' = cw_at h k' i') ∧ ∀ k' : Nat, k' ≠ k → h'[k']? = h[k']?
abbrev cw_ho (mi pc : Nat) (q : Instr) (len a b : Nat) (z : Int) : Prop := cv_op (mt_all mi) pc = some (pc, q, len, a, b, z)
section CWX
variable {X : cv_X} {mi : Nat} {Q : cv_O → Prop} {pc len a b : Nat} {z : Int} {L : cv_L} {st : List cv_V} {h : cv_H} {G : Int}
theorem ex_one {pc' : Nat} {L' : cv_L} {st' : List cv_V} {h' : cv_H} {q : Instr} (ho : cw_ho mi pc q len a b z) (h1 : cv_one X (pc, q, len, a, b, z) (pc, L, st, h, 0, 0) = some (pc', L', st', h', 0, 0)) (k : cw_X X mi Q pc' L' st' h') : cw_X X mi Q pc L st h := by
  obtain ⟨o, h2, h3⟩ := k
  exact ⟨o, cw_ev_one ho h1 h2, h3⟩
theorem ex_ic {n m : Int} (ho : cw_ho mi pc (.iconst n) len a b z) (hm : (Int32.ofInt n).toInt = m) (k : ∀ x : Int32, x.toInt = m → cw_X X mi Q (pc + len) L (cv_i x :: st) h) : cw_X X mi Q pc L st h := ex_one ho rfl (k _ hm)
theorem ex_bi {n m : Int} (ho : cw_ho mi pc (.bipush n) len a b z) (hm : (Int8.ofInt n).toInt32.toInt = m) (k : ∀ x : Int32, x.toInt = m → cw_X X mi Q (pc + len) L (cv_i x :: st) h) : cw_X X mi Q pc L st h := ex_one ho rfl (k _ hm)
theorem ex_si {n m : Int} (ho : cw_ho mi pc (.sipush n) len a b z) (hm : (Int16.ofInt n).toInt32.toInt = m) (k : ∀ x : Int32, x.toInt = m → cw_X X mi Q (pc + len) L (cv_i x :: st) h) : cw_X X mi Q pc L st h := ex_one ho rfl (k _ hm)
theorem ex_ldc {ix : Nat} {m : Int} (ho : cw_ho mi pc (.ldc ix) len 0 b z) (hm : (Int32.ofInt z).toInt = m) (k : ∀ x : Int32, x.toInt = m → cw_X X mi Q (pc + len) L (cv_i x :: st) h) : cw_X X mi Q pc L st h := ex_one ho rfl (k _ hm)
theorem ex_lc {n : Fin 2} {m : Int} (ho : cw_ho mi pc (.lconst n) len a b z) (hm : (Int64.ofNat n.val).toInt = m) (k : ∀ x : Int64, x.toInt = m → cw_X X mi Q (pc + len) L (cv_l x :: st) h) : cw_X X mi Q pc L st h := ex_one ho rfl (k _ hm)
theorem ex_ld {q : Instr} {i kd : Nat} {v : cv_V} (ho : cw_ho mi pc q len a b z) (hl : cv_load q = some (i, kd)) (hp : cv_push (pc, q, len, a, b, z) = none) (hv : cv_get L i = some v) (hk : cv_kind kd v = true) (k : cw_X X mi Q (pc + len) L (v :: st) h) : cw_X X mi Q pc L st h := by
  refine ex_one ho ?_ k
  unfold cv_one
  dsimp only
  rw [hp]
  dsimp only
  rw [hl]
  dsimp only
  rw [hv]
  dsimp only
  rw [hk]
  rfl
theorem ex_il {n : Fin 4} {v : Int32} (ho : cw_ho mi pc (.iload_n n) len a b z) (hv : cv_get L n.val = some (cv_i v)) (k : cw_X X mi Q (pc + len) L (cv_i v :: st) h) : cw_X X mi Q pc L st h := ex_ld ho rfl rfl hv rfl k
theorem ex_ilw {n : Nat} {v : Int32} (ho : cw_ho mi pc (.iload n) len a b z) (hv : cv_get L n = some (cv_i v)) (k : cw_X X mi Q (pc + len) L (cv_i v :: st) h) : cw_X X mi Q pc L st h := ex_ld ho rfl rfl hv rfl k
theorem ex_al {n : Fin 4} {v : Nat} (ho : cw_ho mi pc (.aload_n n) len a b z) (hv : cv_get L n.val = some (cv_r v)) (k : cw_X X mi Q (pc + len) L (cv_r v :: st) h) : cw_X X mi Q pc L st h := ex_ld ho rfl rfl hv rfl k
theorem ex_ll {n : Fin 4} {v : Int64} (ho : cw_ho mi pc (.lload_n n) len a b z) (hv : cv_get L n.val = some (cv_l v)) (k : cw_X X mi Q (pc + len) L (cv_l v :: st) h) : cw_X X mi Q pc L st h := ex_ld ho rfl rfl hv rfl k
theorem ex_llw {n : Nat} {v : Int64} (ho : cw_ho mi pc (.lload n) len a b z) (hv : cv_get L n = some (cv_l v)) (k : cw_X X mi Q (pc + len) L (cv_l v :: st) h) : cw_X X mi Q pc L st h := ex_ld ho rfl rfl hv rfl k
theorem ex_is {n : Fin 4} {v : Int32} {L' : cv_L} (ho : cw_ho mi pc (.istore_n n) len a b z) (hL : cv_set L n.val (cv_i v) = L') (k : cw_X X mi Q (pc + len) L' st h) : cw_X X mi Q pc L (cv_i v :: st) h := by subst hL; exact ex_one ho rfl k
theorem ex_isw {n : Nat} {v : Int32} {L' : cv_L} (ho : cw_ho mi pc (.istore n) len a b z) (hL : cv_set L n (cv_i v) = L') (k : cw_X X mi Q (pc + len) L' st h) : cw_X X mi Q pc L (cv_i v :: st) h := by subst hL; exact ex_one ho rfl k
theorem ex_ls {n : Fin 4} {v : Int64} {L' : cv_L} (ho : cw_ho mi pc (.lstore_n n) len a b z) (hL : cv_setL L n.val (cv_l v) = L') (k : cw_X X mi Q (pc + len) L' st h) : cw_X X mi Q pc L (cv_l v :: st) h := by subst hL; exact ex_one ho rfl k
theorem ex_lsw {n : Nat} {v : Int64} {L' : cv_L} (ho : cw_ho mi pc (.lstore n) len a b z) (hL : cv_setL L n (cv_l v) = L') (k : cw_X X mi Q (pc + len) L' st h) : cw_X X mi Q pc L (cv_l v :: st) h := by subst hL; exact ex_one ho rfl k
theorem ex_inc {i : Nat} {n m : Int} {v : Int32} (ho : cw_ho mi pc (.iinc i n) len a b z) (hv : cv_get L i = some (cv_i v)) (hm : (Int32.ofInt n).toInt = m) (hr : -2147483648 ≤ v.toInt + m ∧ v.toInt + m ≤ 2147483647) (k : ∀ x : Int32, x.toInt = v.toInt + m → cw_X X mi Q (pc + len) (cv_set L i (cv_i x)) st h) : cw_X X mi Q pc L st h := by
  refine ex_one ho ?_ (k (v + Int32.ofInt n) (by rw [Int32.toInt_add, hm, cw_bm hr.1 hr.2]))
  show (match cv_get L i with
    | some (.inl x) => _
    | _ => _) = _
  rw [hv]
theorem ex_add {x y : Int32} (ho : cw_ho mi pc .iadd len a b z) (hr : -2147483648 ≤ x.toInt + y.toInt ∧ x.toInt + y.toInt ≤ 2147483647) (k : ∀ r : Int32, r.toInt = x.toInt + y.toInt → cw_X X mi Q (pc + len) L (cv_i r :: st) h) : cw_X X mi Q pc L (cv_i y :: cv_i x :: st) h :=
  ex_one ho rfl (k (x + y) (by rw [Int32.toInt_add, cw_bm hr.1 hr.2]))
theorem ex_sub {x y : Int32} (ho : cw_ho mi pc .isub len a b z) (hr : -2147483648 ≤ x.toInt - y.toInt ∧ x.toInt - y.toInt ≤ 2147483647) (k : ∀ r : Int32, r.toInt = x.toInt - y.toInt → cw_X X mi Q (pc + len) L (cv_i r :: st) h) : cw_X X mi Q pc L (cv_i y :: cv_i x :: st) h :=
  ex_one ho rfl (k (x - y) (by rw [Int32.toInt_sub, cw_bm hr.1 hr.2]))
theorem ex_mul {x y : Int32} {m : Int} (ho : cw_ho mi pc .imul len a b z) (hm : x.toInt * y.toInt = m) (hr : -2147483648 ≤ m ∧ m ≤ 2147483647) (k : ∀ r : Int32, r.toInt = m → cw_X X mi Q (pc + len) L (cv_i r :: st) h) : cw_X X mi Q pc L (cv_i y :: cv_i x :: st) h :=
  ex_one ho rfl (k (x * y) (by rw [Int32.toInt_mul, hm, cw_bm hr.1 hr.2]))
/-- an operation whose number does not matter -/
theorem ex_any {q : Instr} {f : Int32 → Int32 → Option Int32} {x y r : Int32} (ho : cw_ho mi pc q len a b z) (h1 : cv_one X (pc, q, len, a, b, z) (pc, L, cv_i y :: cv_i x :: st, h, 0, 0) = some (pc + len, L, cv_i r :: st, h, 0, 0)) (k : ∀ r : Int32, cw_X X mi Q (pc + len) L (cv_i r :: st) h) : cw_X X mi Q pc L (cv_i y :: cv_i x :: st) h :=
  ex_one ho h1 (k r)
theorem ex_div {x y : Int32} (ho : cw_ho mi pc .idiv len a b z) (hy : 1 ≤ y.toInt) (hx : 0 ≤ x.toInt) (k : ∀ r : Int32, r.toInt = x.toInt / y.toInt → cw_X X mi Q (pc + len) L (cv_i r :: st) h) : cw_X X mi Q pc L (cv_i y :: cv_i x :: st) h := by
  have hd := cw_div_b (X := x.toInt) (Y := y.toInt) (b := x.toInt) (c := 1) hx (by omega) (Int.le_refl _) hy
  rw [Int.ediv_one] at hd
  have hb := cw_i32 x
  refine ex_one ho ?_ (k (x / y) (by rw [Int32.toInt_div, cw_bm (by omega) (by omega), Int.tdiv_eq_ediv_of_nonneg hx]))
  show Option.map _ (if y = 0 then none else some (x / y)) = _
  rw [if_neg (cw_ne0 (by omega))]
  rfl
theorem ex_rem {x y : Int32} (ho : cw_ho mi pc .irem len a b z) (hy : y.toInt ≠ 0) (k : ∀ r : Int32, r = x - x / y * y → cw_X X mi Q (pc + len) L (cv_i r :: st) h) : cw_X X mi Q pc L (cv_i y :: cv_i x :: st) h := by
  refine ex_one ho ?_ (k _ rfl)
  show Option.map _ (if y = 0 then none else some (x - x / y * y)) = _
  rw [if_neg (cw_ne0 hy)]
  rfl
theorem ex_go {off : Int} {t : Nat} (ho : cw_ho mi pc (.goto off) len a b z) (hj : cv_jmp pc off = true) (ht : cv_tgt pc off = t) (k : cw_X X mi Q t L st h) : cw_X X mi Q pc L st h := by
  subst ht
  refine ex_one ho ?_ k
  show (bif cv_jmp pc off then _ else none) = _
  rw [hj]
  rfl
theorem ex_if {o : Jvm.ClassFile.Cond} {off : Int} {t : Nat} {x y : Int32} (ho : cw_ho mi pc (.if_icmp o off) len a b z) (hj : cv_jmp pc off = true) (ht : cv_tgt pc off = t) (kt : cw_cmpZ o x.toInt y.toInt → cw_X X mi Q t L st h) (kf : ¬ cw_cmpZ o x.toInt y.toInt → cw_X X mi Q (pc + len) L st h) : cw_X X mi Q pc L (cv_i y :: cv_i x :: st) h := by
  subst ht
  have h1 : cv_one X (pc, .if_icmp o off, len, a, b, z) (pc, L, cv_i y :: cv_i x :: st, h, 0, 0) = some ((bif cv_cmp o x y then cv_tgt pc off else pc + len), L, st, h, 0, 0) := by
    show (bif cv_jmp pc off then _ else none) = _
    rw [hj]
    rfl
  cases hc : cv_cmp o x y with
  | true => rw [hc] at h1; exact ex_one ho h1 (kt (cw_cmp_Z.mp hc))
  | false => rw [hc] at h1; exact ex_one ho h1 (kf fun q => by rw [cw_cmp_Z.mpr q] at hc; cases hc)
theorem ex_if0 {o : Jvm.ClassFile.Cond} {off : Int} {t : Nat} {x : Int32} (ho : cw_ho mi pc (.ifCond o off) len a b z) (hj : cv_jmp pc off = true) (ht : cv_tgt pc off = t) (kt : cw_cmpZ o x.toInt 0 → cw_X X mi Q t L st h) (kf : ¬ cw_cmpZ o x.toInt 0 → cw_X X mi Q (pc + len) L st h) : cw_X X mi Q pc L (cv_i x :: st) h := by
  subst ht
  have h1 : cv_one X (pc, .ifCond o off, len, a, b, z) (pc, L, cv_i x :: st, h, 0, 0) = some ((bif cv_cmp o x 0 then cv_tgt pc off else pc + len), L, st, h, 0, 0) := by
    show (bif cv_jmp pc off then _ else none) = _
    rw [hj]
    rfl
  cases hc : cv_cmp o x 0 with
  | true => rw [hc] at h1; exact ex_one ho h1 (kt (cw_cmp_Z.mp hc))
  | false => rw [hc] at h1; exact ex_one ho h1 (kf fun q => by rw [cw_cmp_Z.mpr (show cw_cmpZ o x.toInt (0 : Int32).toInt from q)] at hc; cases hc)
theorem ex_dup {v : cv_V} (ho : cw_ho mi pc .dup len a b z) (hv : cv_isL v = false) (k : cw_X X mi Q (pc + len) L (v :: v :: st) h) : cw_X X mi Q pc L (v :: st) h := by
  refine ex_one ho ?_ k
  show (bif !cv_isL v then _ else none) = _
  rw [hv]
  rfl
theorem ex_dup2 {v w : cv_V} (ho : cw_ho mi pc .dup2 len a b z) (hv : cv_isL v = false) (hw : cv_isL w = false) (k : cw_X X mi Q (pc + len) L (v :: w :: v :: w :: st) h) : cw_X X mi Q pc L (v :: w :: st) h := by
  refine ex_one ho ?_ k
  show (bif !cv_isL v && !cv_isL w then _ else none) = _
  rw [hv, hw]
  rfl
theorem ex_pop {v : cv_V} (ho : cw_ho mi pc .pop len a b z) (hv : cv_isL v = false) (k : cw_X X mi Q (pc + len) L st h) : cw_X X mi Q pc L (v :: st) h := by
  refine ex_one ho ?_ k
  show (bif !cv_isL v then _ else none) = _
  rw [hv]
  rfl
theorem ex_neg {x : Int32} (ho : cw_ho mi pc .ineg len a b z) (hr : -2147483647 ≤ x.toInt) (k : ∀ r : Int32, r.toInt = - x.toInt → cw_X X mi Q (pc + len) L (cv_i r :: st) h) : cw_X X mi Q pc L (cv_i x :: st) h :=
  ex_one ho rfl (k (-x) (by have := cw_i32 x; rw [Int32.toInt_neg, cw_bm (by omega) (by omega)]))
theorem ex_i2l {x : Int32} (ho : cw_ho mi pc .i2l len a b z) (k : ∀ r : Int64, r.toInt = x.toInt → cw_X X mi Q (pc + len) L (cv_l r :: st) h) : cw_X X mi Q pc L (cv_i x :: st) h :=
  ex_one ho rfl (k _ (Int32.toInt_toInt64 x))
theorem ex_l2i {x : Int64} (ho : cw_ho mi pc .l2i len a b z) (k : ∀ r : Int32, cw_X X mi Q (pc + len) L (cv_i r :: st) h) : cw_X X mi Q pc L (cv_l x :: st) h := ex_one ho rfl (k _)
theorem ex_lcmp {x y : Int64} (ho : cw_ho mi pc .lcmp len a b z) (k : ∀ r : Int32, r = lg_cmp x y → cw_X X mi Q (pc + len) L (cv_i r :: st) h) : cw_X X mi Q pc L (cv_l y :: cv_l x :: st) h := ex_one ho rfl (k _ rfl)
theorem ex_ladd {x y : Int64} (ho : cw_ho mi pc .ladd len a b z) (k : ∀ r : Int64, cw_X X mi Q (pc + len) L (cv_l r :: st) h) : cw_X X mi Q pc L (cv_l y :: cv_l x :: st) h := ex_one ho rfl (k _)
theorem ex_lsub {x y : Int64} (ho : cw_ho mi pc .lsub len a b z) (k : ∀ r : Int64, cw_X X mi Q (pc + len) L (cv_l r :: st) h) : cw_X X mi Q pc L (cv_l y :: cv_l x :: st) h := ex_one ho rfl (k _)
theorem ex_lmul {x y : Int64} (ho : cw_ho mi pc .lmul len a b z) (k : ∀ r : Int64, cw_X X mi Q (pc + len) L (cv_l r :: st) h) : cw_X X mi Q pc L (cv_l y :: cv_l x :: st) h := ex_one ho rfl (k _)
theorem ex_ldiv {x y : Int64} (ho : cw_ho mi pc .ldiv len a b z) (hy : y.toInt ≠ 0) (k : ∀ r : Int64, cw_X X mi Q (pc + len) L (cv_l r :: st) h) : cw_X X mi Q pc L (cv_l y :: cv_l x :: st) h := by
  refine ex_one ho ?_ (k (x / y))
  show Option.map _ (if y = 0 then none else some (x / y)) = _
  rw [if_neg (cw_ne0L hy)]
  rfl
/-! cells -/
theorem cw_at_ex {k i : Nat} {v : cv_V} (hv : cw_at h k i = some v) : ∃ c, h[k]? = some c ∧ cw_sl c i = some v := by
  unfold cw_at at hv
  cases hc : h[k]? with
  | none => rw [hc] at hv; cases hv
  | some c => rw [hc] at hv; exact ⟨c, rfl, hv⟩
theorem ex_gf {ix k ci : Nat} {fs : List cw_A} {d : Nat} {v : cv_V} (ho : cw_ho mi pc (.getfield ix) len ci b z) (hT : cw_T G h) (hk : cw_sh[k]? = some d) (hD : cw_Ds[d]? = some (.inr (.inr (.inr (ci, fs))))) (hv : cw_at h k b = some v) (kk : cw_X X mi Q (pc + len) L (v :: st) h) : cw_X X mi Q pc L (cv_r k :: st) h := by
  obtain ⟨vs, h1, -⟩ := cw_cell_o hD (hT k d hk)
  refine ex_one ho ?_ kk
  have hv' : vs[b]? = some v := by
    unfold cw_at at hv
    rw [h1] at hv
    exact hv
  show (match h[k]? with
    | some (.inr (.inr (.inr (ci', fs)))) => bif ci' == ci then (fs[b]?).map _ else none
    | _ => none) = _
  rw [h1]
  show (bif ci == ci then (vs[b]?).map _ else none) = _
  rw [beq_self_eq_true, hv']
  rfl
theorem cw_Wr_set {k i : Nat} {v : cv_V} {c c' : cv_C} (hc : h[k]? = some c) (h1 : cw_sl c' i = some v) (h2 : ∀ j, j ≠ i → cw_sl c' j = cw_sl c j) : cw_Wr h (h.set k c') k i v := by
  have hlt := cw_lt_of hc
  refine ⟨by rw [cw_at_set hlt, if_pos rfl]; exact h1, fun k' i' q => ?_, fun k' q => List.getElem?_set_ne (fun e => q e.symm)⟩
  rw [cw_at_set hlt]
  by_cases e : k' = k
  · subst e
    rw [if_pos rfl]
    rcases q with q | q
    · exact absurd rfl q
    · rw [h2 i' q]
      unfold cw_at
      rw [hc]
  · rw [if_neg e]
theorem cw_T_set {k d : Nat} {c' : cv_C} (hT : cw_T G h) (hk : cw_sh[k]? = some d) (hc' : cw_cell cw_Ds cw_sh G (h.set k c') k d) : cw_T G (h.set k c') := by
  intro k1 d1 hk1
  by_cases e : k1 = k
  · subst e
    rw [hk] at hk1
    cases hk1
    exact hc'
  · exact cw_cell_mv (hT k1 d1 hk1) (List.getElem?_set_ne (fun q => e q.symm))
theorem ex_pf {ix k ci : Nat} {fs : List cw_A} {d : Nat} {A : cw_A} {v : cv_V} (ho : cw_ho mi pc (.putfield ix) len ci b z) (hT : cw_T G h) (hk : cw_sh[k]? = some d) (hD : cw_Ds[d]? = some (.inr (.inr (.inr (ci, fs))))) (hA : fs[b]? = some A) (hv : cw_ga G cw_sh A v) (hf : cv_fit z.toNat v = true) (kk : ∀ h', cw_T G h' → cw_Wr h h' k b v → cw_X X mi Q (pc + len) L st h') : cw_X X mi Q pc L (v :: cv_r k :: st) h := by
  obtain ⟨vs, h1, h2, h3⟩ := cw_cell_o hD (hT k d hk)
  have hb : b < vs.length := by have := (List.getElem?_eq_some_iff.mp hA).1; omega
  refine ex_one (h' := h.set k (cv_co ci (vs.set b v))) ho ?_ (kk _ (cw_T_set hT hk ?_) (cw_Wr_set h1 (List.getElem?_set_self hb) (fun j hj => List.getElem?_set_ne (fun q => hj q.symm))))
  · show (match h[k]? with
      | some (.inr (.inr (.inr (ci', fs)))) => bif ci' == ci && (decide (b < fs.length) && cv_fit z.toNat v) then some _ else none
      | _ => none) = _
    rw [h1]
    show (bif ci == ci && (decide (b < vs.length) && cv_fit z.toNat v) then some _ else none) = _
    rw [beq_self_eq_true, decide_eq_true hb, hf]
    rfl
  · unfold cw_cell
    rw [hD]
    refine ⟨_, List.getElem?_set_self (cw_lt_of h1), by rw [List.length_set]; exact h2, fun i x' hi => ?_⟩
    by_cases ei : b = i
    · subst ei
      rw [hA] at hi
      cases hi
      exact ⟨v, List.getElem?_set_self hb, hv⟩
    · rw [List.getElem?_set_ne ei]
      exact h3 i x' hi
theorem cw_cixi {i : Int32} {j m : Nat} (hj : i.toInt = j) (hm : j < m) : cv_ix i m = true ∧ i.toNatClampNeg = j := by
  have e : i.toNatClampNeg = i.toInt.toNat := rfl
  have e2 : i.toNatClampNeg = j := by rw [e]; omega
  refine ⟨?_, e2⟩
  unfold cv_ix
  have h0 : (0 : Int32) ≤ i := by rw [Int32.le_iff_toInt_le]; show (0 : Int) ≤ _; omega
  simp only [Bool.and_eq_true, decide_eq_true_eq]
  exact ⟨h0, by omega⟩
/-- a row of ints is read -/
theorem ex_ia {k d m p j : Nat} {rs : List (Int × Int)} {i : Int32} (ho : cw_ho mi pc .iaload len a b z) (hT : cw_T G h) (hk : cw_sh[k]? = some d) (hD : cw_Ds[d]? = some (.inl (0, m, p, rs))) (hj : i.toInt = j) (hm : j < m) (kk : ∀ x : Int32, cw_at h k j = some (cv_i x) → (∃ r, rs[j % p]? = some r ∧ r.1 ≤ x.toInt ∧ x.toInt ≤ r.2) → cw_X X mi Q (pc + len) L (cv_i x :: st) h) : cw_X X mi Q pc L (cv_i i :: cv_r k :: st) h := by
  obtain ⟨xs, h1, h2, h3⟩ := cw_cell_i hD (hT k d hk)
  obtain ⟨y, hy⟩ := cw_get_lt (xs := xs) (j := j) (by omega)
  obtain ⟨c1, c2⟩ := cw_cixi hj hm
  refine ex_one ho ?_ (kk y (by unfold cw_at; rw [h1]; show (xs[j]?).map _ = _; rw [hy]; rfl) (h3 j y hy))
  show (match h[k]? with
    | some (.inl (0, xs)) => bif cv_ix i xs.length then (xs[i.toNatClampNeg]?).map _ else none
    | _ => none) = _
  rw [h1]
  show (bif cv_ix i xs.length then (xs[i.toNatClampNeg]?).map _ else none) = _
  rw [h2, c1, c2, hy]
  rfl
theorem ex_ba {k d t m p j : Nat} {rs : List (Int × Int)} {i : Int32} (ho : cw_ho mi pc .baload len a b z) (hT : cw_T G h) (hk : cw_sh[k]? = some d) (hD : cw_Ds[d]? = some (.inl (t, m, p, rs))) (ht : (t == 1 || t == 2) = true) (hj : i.toInt = j) (hm : j < m) (kk : ∀ x : Int32, cw_at h k j = some (cv_i x) → (∃ r, rs[j % p]? = some r ∧ r.1 ≤ x.toInt ∧ x.toInt ≤ r.2) → cw_X X mi Q (pc + len) L (cv_i x :: st) h) : cw_X X mi Q pc L (cv_i i :: cv_r k :: st) h := by
  obtain ⟨xs, h1, h2, h3⟩ := cw_cell_i hD (hT k d hk)
  obtain ⟨y, hy⟩ := cw_get_lt (xs := xs) (j := j) (by omega)
  obtain ⟨c1, c2⟩ := cw_cixi hj hm
  refine ex_one ho ?_ (kk y (by unfold cw_at; rw [h1]; show (xs[j]?).map _ = _; rw [hy]; rfl) (h3 j y hy))
  show (match h[k]? with
    | some (.inl (t, xs)) => bif (t == 1 || t == 2) && cv_ix i xs.length then (xs[i.toNatClampNeg]?).map _ else none
    | _ => none) = _
  rw [h1]
  show (bif (t == 1 || t == 2) && cv_ix i xs.length then (xs[i.toNatClampNeg]?).map _ else none) = _
  rw [h2, c1, c2, hy, ht]
  rfl
theorem ex_la {k d m j : Nat} {i : Int32} (ho : cw_ho mi pc .laload len a b z) (hT : cw_T G h) (hk : cw_sh[k]? = some d) (hD : cw_Ds[d]? = some (.inr (.inl m))) (hj : i.toInt = j) (hm : j < m) (kk : ∀ x : Int64, cw_at h k j = some (cv_l x) → cw_X X mi Q (pc + len) L (cv_l x :: st) h) : cw_X X mi Q pc L (cv_i i :: cv_r k :: st) h := by
  obtain ⟨xs, h1, h2⟩ := cw_cell_l hD (hT k d hk)
  obtain ⟨y, hy⟩ := cw_get_lt (xs := xs) (j := j) (by omega)
  obtain ⟨c1, c2⟩ := cw_cixi hj hm
  refine ex_one ho ?_ (kk y (by unfold cw_at; rw [h1]; show (xs[j]?).map _ = _; rw [hy]; rfl))
  show (match h[k]? with
    | some (.inr (.inl xs)) => bif cv_ix i xs.length then (xs[i.toNatClampNeg]?).map _ else none
    | _ => none) = _
  rw [h1]
  show (bif cv_ix i xs.length then (xs[i.toNatClampNeg]?).map _ else none) = _
  rw [h2, c1, c2, hy]
  rfl
/-- a row of ints is written -/
theorem ex_iw {k d m p j : Nat} {rs : List (Int × Int)} {i y : Int32} (ho : cw_ho mi pc .iastore len a b z) (hT : cw_T G h) (hk : cw_sh[k]? = some d) (hD : cw_Ds[d]? = some (.inl (0, m, p, rs))) (hj : i.toInt = j) (hm : j < m) (hy : ∀ r, rs[j % p]? = some r → r.1 ≤ y.toInt ∧ y.toInt ≤ r.2) (kk : ∀ h', cw_T G h' → cw_Wr h h' k j (cv_i y) → cw_X X mi Q (pc + len) L st h') : cw_X X mi Q pc L (cv_i y :: cv_i i :: cv_r k :: st) h := by
  obtain ⟨xs, h1, h2, h3⟩ := cw_cell_i hD (hT k d hk)
  obtain ⟨c1, c2⟩ := cw_cixi hj hm
  refine ex_one (h' := h.set k (cv_ci 0 (xs.set j y))) ho ?_ (kk _ (cw_T_set hT hk (cw_cell_iw hD h1 h2 h3 hm hy)) (cw_Wr_set h1 (by show ((xs.set j y)[j]?).map _ = _; rw [List.getElem?_set_self (by omega)]; rfl) (fun j' hj' => cw_sl_iw hj')))
  show (match h[k]? with
    | some (.inl (0, xs)) => bif cv_ix i xs.length then some _ else none
    | _ => none) = _
  rw [h1]
  show (bif cv_ix i xs.length then some _ else none) = _
  rw [h2, c1, c2]
  rfl
theorem ex_bw {k d t m j : Nat} {rg : Int × Int} {i y : Int32} (ho : cw_ho mi pc .bastore len a b z) (hT : cw_T G h) (hk : cw_sh[k]? = some d) (hD : cw_Ds[d]? = some (.inl (t, m, 1, [rg]))) (ht : (t == 1 || t == 2) = true) (hj : i.toInt = j) (hm : j < m) (hy : rg.1 ≤ (cv_nar t y).toInt ∧ (cv_nar t y).toInt ≤ rg.2) (kk : ∀ h', cw_T G h' → cw_Wr h h' k j (cv_i (cv_nar t y)) → cw_X X mi Q (pc + len) L st h') : cw_X X mi Q pc L (cv_i y :: cv_i i :: cv_r k :: st) h := by
  obtain ⟨xs, h1, h2, h3⟩ := cw_cell_i hD (hT k d hk)
  obtain ⟨c1, c2⟩ := cw_cixi hj hm
  refine ex_one (h' := h.set k (cv_ci t (xs.set j (cv_nar t y)))) ho ?_ (kk _ (cw_T_set hT hk (cw_cell_iw hD h1 h2 h3 hm (fun r hr => by rw [Nat.mod_one] at hr; cases hr; exact hy))) (cw_Wr_set h1 (by show ((xs.set j _)[j]?).map _ = _; rw [List.getElem?_set_self (by omega)]; rfl) (fun j' hj' => cw_sl_iw hj')))
  show (match h[k]? with
    | some (.inl (t, xs)) => bif (t == 1 || t == 2) && cv_ix i xs.length then some _ else none
    | _ => none) = _
  rw [h1]
  show (bif (t == 1 || t == 2) && cv_ix i xs.length then some _ else none) = _
  rw [h2, c1, c2, ht]
  rfl
theorem ex_lw {k d m j : Nat} {i : Int32} {y : Int64} (ho : cw_ho mi pc .lastore len a b z) (hT : cw_T G h) (hk : cw_sh[k]? = some d) (hD : cw_Ds[d]? = some (.inr (.inl m))) (hj : i.toInt = j) (hm : j < m) (kk : ∀ h', cw_T G h' → cw_Wr h h' k j (cv_l y) → cw_X X mi Q (pc + len) L st h') : cw_X X mi Q pc L (cv_l y :: cv_i i :: cv_r k :: st) h := by
  obtain ⟨xs, h1, h2⟩ := cw_cell_l hD (hT k d hk)
  obtain ⟨c1, c2⟩ := cw_cixi hj hm
  refine ex_one (h' := h.set k (cv_cl (xs.set j y))) ho ?_ (kk _ (cw_T_set hT hk (by unfold cw_cell; rw [hD]; exact ⟨_, List.getElem?_set_self (cw_lt_of h1), by rw [List.length_set]; exact h2⟩)) (cw_Wr_set h1 (by show ((xs.set j _)[j]?).map _ = _; rw [List.getElem?_set_self (by omega)]; rfl) (fun j' hj' => by show ((xs.set j y)[j']?).map _ = _; rw [List.getElem?_set_ne (fun q => hj' q.symm)]; rfl)))
  show (match h[k]? with
    | some (.inr (.inl xs)) => bif cv_ix i xs.length then some _ else none
    | _ => none) = _
  rw [h1]
  show (bif cv_ix i xs.length then some _ else none) = _
  rw [h2, c1, c2]
  rfl
theorem ex_len {k d m : Nat} {t p : Nat} {rs : List (Int × Int)} (ho : cw_ho mi pc .arraylength len a b z) (hT : cw_T G h) (hk : cw_sh[k]? = some d) (hD : cw_Ds[d]? = some (.inl (t, m, p, rs))) (hm : m ≤ 10000) (kk : ∀ x : Int32, x.toInt = m → cw_X X mi Q (pc + len) L (cv_i x :: st) h) : cw_X X mi Q pc L (cv_r k :: st) h := by
  obtain ⟨xs, h1, h2, -⟩ := cw_cell_i hD (hT k d hk)
  refine ex_one ho ?_ (kk (Int32.ofNat m) (cw_ofNat hm))
  show (match h[k]? with
    | some (.inl (_, xs)) => some _
    | some (.inr (.inl xs)) => some _
    | some (.inr (.inr (.inl (_, xs)))) => some _
    | _ => none) = _
  rw [h1, ← h2]
/-! calls and returns -/
theorem ex_call {q : Instr} {j : Nat} {av stk : List cv_V} (ho : cw_ho mi pc q len a b z) (hn : a < 9000) (hc : cv_call (pc, q, len, a, b, z) (pc, L, st, h, 0, 0) = some (j, av, stk)) (hf : cv_fits (mt_all mi) (mt_all j) 0 0 (cv_wid av) stk = true) (hr : (mt_all j).2.2.1 = 0 ∧ (mt_all j).2.2.2.1 = 0) {R : cv_O → Prop} (hK : cw_X (fun j => bif j == 2 then none else X j) j R 0 (cv_ent 0 av) [] h)
    (kk : ∀ o, R o → cw_X X mi Q (pc + len) L (o.1.toList ++ stk) o.2) : cw_X X mi Q pc L st h := by
  obtain ⟨o, o1, o2⟩ := hK
  obtain ⟨o', o3, o4⟩ := kk o o2
  refine ⟨o', cw_ev_call ho hn hc hf o1 ?_, o4⟩
  rw [hr.1, hr.2]
  exact o3
theorem ex_ret {q : Instr} {r : Option cv_V} (ho : cw_ho mi pc q len a b z) (hr : cv_ret (mt_all mi) (pc, q, len, a, b, z) (pc, L, st, h, 0, 0) = some r) (hQ : Q (r, h)) : cw_X X mi Q pc L st h := ⟨_, cw_ev_ret ho hr, hQ⟩
theorem ex_mono {Q' : cv_O → Prop} (hx : cw_X X mi Q pc L st h) (hQ : ∀ o, Q o → Q' o) : cw_X X mi Q' pc L st h := by
  obtain ⟨o, h1, h2⟩ := hx
  exact ⟨o, h1, hQ o h2⟩
end CWX
