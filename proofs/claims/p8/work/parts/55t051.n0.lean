/-! ===== long numbers in slots and on the stack ===== -/
def rl_v (o : Option cv_V) : Int := match o with
  | some (.inr (.inl x)) => x.toInt
  | _ => 0
def rl_at (h : cv_H) (k i : Nat) : Int := rl_v (cw_at h k i)
theorem rl_of {h : cv_H} {k i : Nat} {x : Int64} (e : cw_at h k i = some (cv_l x)) : rl_at h k i = x.toInt := by unfold rl_at; rw [e]; rfl
theorem rl_eq {h h' : cv_H} {k i : Nat} (e : cw_at h' k i = cw_at h k i) : rl_at h' k i = rl_at h k i := by unfold rl_at; rw [e]
theorem rl_ne {h h' : cv_H} {k i k' i' : Nat} {v : cv_V} (w : cw_Wr h h' k i v) (q : k' ≠ k ∨ i' ≠ i) : rl_at h' k' i' = rl_at h k' i' := rl_eq (w.2.1 k' i' q)
theorem rl_self {h h' : cv_H} {k i : Nat} {x : Int64} (w : cw_Wr h h' k i (cv_l x)) : rl_at h' k i = x.toInt := rl_of w.1
theorem lg_cmp_i (x y : Int64) : ((lg_cmp x y).toInt = -1 ∧ x.toInt < y.toInt) ∨ ((lg_cmp x y).toInt = 0 ∧ x.toInt = y.toInt) ∨ ((lg_cmp x y).toInt = 1 ∧ y.toInt < x.toInt) := by
  unfold lg_cmp
  by_cases q1 : x > y
  · rw [if_pos q1]
    exact .inr (.inr ⟨rfl, Int64.lt_iff_toInt_lt.mp q1⟩)
  · rw [if_neg q1]
    have h1 : ¬ y.toInt < x.toInt := fun q => q1 (Int64.lt_iff_toInt_lt.mpr q)
    by_cases q2 : x = y
    · rw [if_pos q2, q2]
      exact .inr (.inl ⟨rfl, rfl⟩)
    · rw [if_neg q2]
      have h2 : ¬ x.toInt = y.toInt := fun q => q2 (Int64.toInt_inj.mp q)
      exact .inl ⟨rfl, by omega⟩
section NL
variable {X : cv_X} {mi : Nat} {Q : cv_O → Prop} {pc len a b : Nat} {z : Int} {L : cv_L} {st : List cv_V} {h : cv_H} {G : Int}
theorem ex_laV {k d m j : Nat} {i : Int32} (ho : cw_ho mi pc .laload len a b z) (hT : cw_T G h) (hk : cw_sh[k]? = some d) (hD : cw_Ds[d]? = some (.inr (.inl m))) (hj : i.toInt = j) (hm : j < m) (kk : ∀ x : Int64, rl_at h k j = x.toInt → cw_X X mi Q (pc + len) L (cv_l x :: st) h) : cw_X X mi Q pc L (cv_i i :: cv_r k :: st) h := ex_la ho hT hk hD hj hm (fun x e => kk x (rl_of e))
theorem ex_ldc2V {ix : Nat} {m : Int} (ho : cw_ho mi pc (.ldc2_w ix) len a b z) (hm : (Int64.ofInt z).toInt = m) (k : ∀ x : Int64, x.toInt = m → cw_X X mi Q (pc + len) L (cv_l x :: st) h) : cw_X X mi Q pc L st h := ex_ldc2 ho (fun x e => k x (by rw [e, hm]))
theorem ex_lcmpV {x y : Int64} (ho : cw_ho mi pc .lcmp len a b z) (k : ∀ r : Int32, ((r.toInt = -1 ∧ x.toInt < y.toInt) ∨ (r.toInt = 0 ∧ x.toInt = y.toInt) ∨ (r.toInt = 1 ∧ y.toInt < x.toInt)) → cw_X X mi Q (pc + len) L (cv_i r :: st) h) : cw_X X mi Q pc L (cv_l y :: cv_l x :: st) h := ex_lcmp ho (fun r e => k r (by rw [e]; exact lg_cmp_i x y))
theorem ex_laddV {x y : Int64} (ho : cw_ho mi pc .ladd len a b z) (hr : -9223372036854775808 ≤ x.toInt + y.toInt ∧ x.toInt + y.toInt ≤ 9223372036854775807) (k : ∀ r : Int64, r.toInt = x.toInt + y.toInt → cw_X X mi Q (pc + len) L (cv_l r :: st) h) : cw_X X mi Q pc L (cv_l y :: cv_l x :: st) h :=
  ex_one ho rfl (k (x + y) (by rw [Int64.toInt_add, cw_bmL hr.1 hr.2]))
theorem ex_lsubV {x y : Int64} (ho : cw_ho mi pc .lsub len a b z) (hr : -9223372036854775808 ≤ x.toInt - y.toInt ∧ x.toInt - y.toInt ≤ 9223372036854775807) (k : ∀ r : Int64, r.toInt = x.toInt - y.toInt → cw_X X mi Q (pc + len) L (cv_l r :: st) h) : cw_X X mi Q pc L (cv_l y :: cv_l x :: st) h :=
  ex_one ho rfl (k (x - y) (by rw [Int64.toInt_sub, cw_bmL hr.1 hr.2]))
theorem ex_lmulV {x y : Int64} {m : Int} (ho : cw_ho mi pc .lmul len a b z) (hm : x.toInt * y.toInt = m) (hr : -9223372036854775808 ≤ m ∧ m ≤ 9223372036854775807) (k : ∀ r : Int64, r.toInt = m → cw_X X mi Q (pc + len) L (cv_l r :: st) h) : cw_X X mi Q pc L (cv_l y :: cv_l x :: st) h :=
  ex_one ho rfl (k (x * y) (by rw [Int64.toInt_mul, hm, cw_bmL hr.1 hr.2]))
theorem ex_ldivV {x y : Int64} (ho : cw_ho mi pc .ldiv len a b z) (hy : y.toInt ≠ 0) (hx : -9223372036854775807 ≤ x.toInt) (k : ∀ r : Int64, r.toInt = x.toInt.tdiv y.toInt → cw_X X mi Q (pc + len) L (cv_l r :: st) h) : cw_X X mi Q pc L (cv_l y :: cv_l x :: st) h := by
  have hb := cw_i64 x
  refine ex_one ho ?_ (k (x / y) ?_)
  · show Option.map _ (if y = 0 then none else some (x / y)) = _
    rw [if_neg (cw_ne0L hy)]
    rfl
  · have h1 : (x.toInt.tdiv y.toInt).natAbs ≤ x.toInt.natAbs := by
      rw [Int.natAbs_tdiv]
      exact Nat.div_le_self _ _
    rw [Int64.toInt_div, cw_bmL (by omega) (by omega)]
theorem ex_l2iV {x : Int64} (ho : cw_ho mi pc .l2i len a b z) (hr : -2147483648 ≤ x.toInt ∧ x.toInt ≤ 2147483647) (k : ∀ r : Int32, r.toInt = x.toInt → cw_X X mi Q (pc + len) L (cv_i r :: st) h) : cw_X X mi Q pc L (cv_l x :: st) h :=
  ex_one ho rfl (k x.toInt32 (by rw [Int64.toInt_toInt32, cw_bm hr.1 hr.2]))
theorem ex_maxL {ix : Nat} {x y : Int64} (ho : cw_ho mi pc (.invokestatic ix) len 9004 b z) (hf : 1 ≤ (mt_all mi).2.2.2.2.1) (hw : cv_wid st + 15 ≤ (mt_all mi).2.2.2.2.2) (k : ∀ r : Int64, (r.toInt = x.toInt ∧ y.toInt ≤ x.toInt ∨ r.toInt = y.toInt ∧ x.toInt ≤ y.toInt) → cw_X X mi Q (pc + len) L (cv_l r :: st) h) : cw_X X mi Q pc L (cv_l y :: cv_l x :: st) h := by
  refine ex_nat (S' := (0, [], [], h, 0, 0)) (st' := cv_l (if y < x then x else y) :: st) ho ?_ (k _ ?_)
  · unfold cv_nat
    dsimp only
    rw [decide_eq_true hf, decide_eq_true (Nat.zero_le _), decide_eq_true (Nat.zero_le _)]
    show (bif decide _ then some _ else none) = _
    rw [decide_eq_true hw]
    rfl
  · by_cases c : y < x
    · rw [if_pos c]; have := Int64.lt_iff_toInt_lt.mp c; exact .inl ⟨rfl, by omega⟩
    · rw [if_neg c]; have : ¬ y.toInt < x.toInt := fun q => c (Int64.lt_iff_toInt_lt.mpr q); exact .inr ⟨rfl, by omega⟩
theorem ex_minL {ix : Nat} {x y : Int64} (ho : cw_ho mi pc (.invokestatic ix) len 9005 b z) (hf : 1 ≤ (mt_all mi).2.2.2.2.1) (hw : cv_wid st + 15 ≤ (mt_all mi).2.2.2.2.2) (k : ∀ r : Int64, (r.toInt = x.toInt ∧ x.toInt ≤ y.toInt ∨ r.toInt = y.toInt ∧ y.toInt ≤ x.toInt) → cw_X X mi Q (pc + len) L (cv_l r :: st) h) : cw_X X mi Q pc L (cv_l y :: cv_l x :: st) h := by
  refine ex_nat (S' := (0, [], [], h, 0, 0)) (st' := cv_l (if y < x then y else x) :: st) ho ?_ (k _ ?_)
  · unfold cv_nat
    dsimp only
    rw [decide_eq_true hf, decide_eq_true (Nat.zero_le _), decide_eq_true (Nat.zero_le _)]
    show (bif decide _ then some _ else none) = _
    rw [decide_eq_true hw]
    rfl
  · by_cases c : y < x
    · rw [if_pos c]; have := Int64.lt_iff_toInt_lt.mp c; exact .inr ⟨rfl, by omega⟩
    · rw [if_neg c]; have : ¬ y.toInt < x.toInt := fun q => c (Int64.lt_iff_toInt_lt.mpr q); exact .inl ⟨rfl, by omega⟩
theorem ex_absL {ix : Nat} {x : Int64} (ho : cw_ho mi pc (.invokestatic ix) len 9006 b z) (hf : 1 ≤ (mt_all mi).2.2.2.2.1) (hw : cv_wid st + 15 ≤ (mt_all mi).2.2.2.2.2) (hx : -9223372036854775807 ≤ x.toInt) (k : ∀ r : Int64, (r.toInt = x.toInt ∧ 0 ≤ x.toInt ∨ r.toInt = -x.toInt ∧ x.toInt ≤ 0) → cw_X X mi Q (pc + len) L (cv_l r :: st) h) : cw_X X mi Q pc L (cv_l x :: st) h := by
  refine ex_nat (S' := (0, [], [], h, 0, 0)) (st' := cv_l (if 0 < x then x else -x) :: st) ho ?_ (k _ ?_)
  · unfold cv_nat
    dsimp only
    rw [decide_eq_true hf, decide_eq_true (Nat.zero_le _), decide_eq_true (Nat.zero_le _)]
    show (bif decide _ then some _ else none) = _
    rw [decide_eq_true hw]
    rfl
  · have hb := cw_i64 x
    have e0 : (0 : Int64).toInt = 0 := rfl
    by_cases c : 0 < x
    · rw [if_pos c]; have : (0 : Int64).toInt < x.toInt := Int64.lt_iff_toInt_lt.mp c; exact .inl ⟨rfl, by omega⟩
    · rw [if_neg c]
      have : ¬ (0 : Int64).toInt < x.toInt := fun q => c (Int64.lt_iff_toInt_lt.mpr q)
      refine .inr ⟨?_, by omega⟩
      rw [Int64.toInt_neg, cw_bmL (by omega) (by omega)]
theorem ex_lnegV {x : Int64} (ho : cw_ho mi pc .lneg len a b z) (h1 : cv_one X (pc, .lneg, len, a, b, z) (pc, L, cv_l x :: st, h, 0, 0) = some (pc + len, L, cv_l (-x) :: st, h, 0, 0)) (hx : -9223372036854775807 ≤ x.toInt) (k : ∀ r : Int64, r.toInt = -x.toInt → cw_X X mi Q (pc + len) L (cv_l r :: st) h) : cw_X X mi Q pc L (cv_l x :: st) h := by
  have hb := cw_i64 x
  exact ex_one ho h1 (k (-x) (by rw [Int64.toInt_neg, cw_bmL (by omega) (by omega)]))
end NL
