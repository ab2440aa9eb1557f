/-! ===== one instruction of the evaluator ===== -/
theorem av_bif {α : Type} {b : Bool} {x : Option α} {y : α} (h : (bif b then x else none) = some y) : b = true ∧ x = some y := by
  cases b with
  | true => exact ⟨rfl, h⟩
  | false => cases h
section AVR
variable {Ts : List Jvm.Cond} {cl : List vw_C} {D : va_G} {cy : Nat → ClassId} {A : Nat → Prop} {sv : Nat → Value} {as0 : List Nat} {X : av_X} {M : av_M} {mt : Nat → av_M} {F : av_F} {p : Program} {l : Launch} {e : Env} {R : Room} {s : State} {m : MethodId} {args : Array Value} {below : List Frame} {meth : Method} {c : Code} {Q : State → Prop}
set_option maxHeartbeats 4000000 in
theorem av_one_ok {q : av_Q} {S : av_S} {ss : List av_S} (C0 : av_Cx Ts cl D cy A sv X M p R s m args meth c) (hcls : av_cls Ts cl F) (hcl4 : ∃ T N, cl[1]? = some ("SagGates$Gate", T, N)) (hcl5 : ∃ T N, cl[7]? = some ("SagGates$Told", T, N)) (h100 : cl.length ≤ 100) (ok : av_ok Ts cl mt M q) (hq : q.1 = S.1) (h : av_one X F q S = some ss)
    (k : ∀ S' ∈ ss, av_Good cl D cy A sv as0 M.1.2.2.2.1 p l e R s m args below meth c Q S') : av_Good cl D cy A sv as0 M.1.2.2.2.1 p l e R s m args below meth c Q S := by
  obtain ⟨pc, ins, len, a, b, z⟩ := q
  obtain ⟨pc', L, st, hp, cN, sN⟩ := S
  dsimp only at hq
  subst hq
  unfold av_one at h
  dsimp only at h
  cases hpush : av_push (pc, ins, len, a, b, z) with
  | some v =>
    rw [hpush] at h
    cases h
    exact av_push_ok C0 ok hpush (k _ (by simp))
  | none =>
  rw [hpush] at h
  dsimp only at h
  cases hload : av_load ins with
  | some ik =>
    obtain ⟨i, kd⟩ := ik
    rw [hload] at h
    dsimp only at h
    cases hg : av_get L i with
    | none => rw [hg] at h; cases h
    | some v =>
      rw [hg] at h
      dsimp only at h
      cases hv : (bif kd == 1 then av_isI v else av_isA v) with
      | false => rw [hv] at h; cases h
      | true =>
        rw [hv] at h
        cases h
        exact av_load_ok C0 ok hload hg hv (k _ (by simp))
  | none =>
  rw [hload] at h
  dsimp only at h
  cases hstore : av_store ins with
  | some ik =>
    obtain ⟨i, kd⟩ := ik
    rw [hstore] at h
    dsimp only at h
    cases st with
    | nil => cases h
    | cons v st =>
      dsimp only at h
      cases hv : (bif kd == 1 then av_isI v else av_isR v) with
      | false => rw [hv] at h; cases h
      | true =>
        rw [hv] at h
        cases h
        exact av_store_ok C0 ok hstore hv (k _ (by simp))
  | none =>
  rw [hstore] at h
  dsimp only at h
  cases hbin : av_bin ins with
  | some f =>
    rw [hbin] at h
    dsimp only at h
    split at h
    · rename_i w u st'
      cases hr : f u w with
      | none => rw [hr] at h; cases h
      | some r =>
        rw [hr] at h
        cases h
        exact av_bin_ok C0 ok hbin hr (k _ (by simp))
    · cases h
  | none =>
  rw [hbin] at h
  dsimp only at h
  cases hld : av_ldk ins with
  | some t =>
    rw [hld] at h
    dsimp only at h
    split at h
    · rename_i i kx st'
      split at h
      · rename_i t' xs hk
        cases htt : (t' == t || (t == 1 && t' == 2) || (t == 4 && t' == 5)) with
        | false => rw [htt] at h; cases h
        | true =>
          rw [htt] at h
          dsimp only [cond_true] at h
          cases hv : av_rd xs i with
          | none => rw [hv] at h; cases h
          | some v =>
            rw [hv] at h
            cases h
            exact av_ld_ok (L1 := []) C0 ok hld hk htt hv (k _ (by simp))
      · cases h
    · rename_i i j st'
      split at h
      · rename_i xs hk
        cases htt : (t + j == 2) with
        | false => rw [htt] at h; cases h
        | true =>
          rw [htt] at h
          dsimp only [cond_true] at h
          cases hv : av_rd xs i with
          | none => rw [hv] at h; cases h
          | some v =>
            rw [hv] at h
            cases h
            exact av_lds_ok C0 ok hld hk htt hv (k _ (by simp))
      · cases h
    · cases h
  | none =>
  rw [hld] at h
  dsimp only at h
  cases hstk : av_stk ins with
  | some t =>
    rw [hstk] at h
    dsimp only at h
    split at h
    · rename_i v i kx st'
      split at h
      · rename_i t' xs hk
        obtain ⟨hc, h⟩ := av_bif h
        cases h
        simp only [Bool.and_eq_true, decide_eq_true_eq] at hc
        obtain ⟨htt, c1, c2, c3, c4⟩ := hc
        by_cases ht4 : t = 4
        · subst ht4
          have hins : ins = .aastore := by
            cases ins <;> first | (cases hstk; done) | rfl
          subst hins
          have c4' := c4
          rw [show ((4 : Nat) == 4) = true from rfl, cond_true] at c4'
          split at c4'
          · rename_i j
            split at c4'
            · rename_i ci fs hj
              refine av_sta_ok C0 ok hcl4 hcl5 hk ?_ c1 c2 c3 hj (by simpa using c4') (k _ (by simp))
              simp only [Bool.or_eq_true, Bool.and_eq_true, beq_iff_eq] at htt
              omega
            · cases c4'
          · cases c4'
        · have e : (t == 4) = false := by simpa using ht4
          rw [e] at c4
          exact av_st_ok C0 ok hstk ht4 hk htt c1 c2 c3 c4 (k _ (by simp))
      · cases h
    · cases h
  | none =>
  rw [hstk] at h
  dsimp only at h
  cases ins <;> first | (cases h; done) | skip
  case getfield i =>
    dsimp only at h
    split at h
    · rename_i kx st'
      split at h
      · rename_i ci fs hk
        cases hc : (ci == a) with
        | false => rw [hc] at h; cases h
        | true =>
          rw [hc] at h
          dsimp only [cond_true] at h
          simp only [beq_iff_eq] at hc
          subst hc
          cases hv : fs[b]? with
          | none => rw [hv] at h; cases h
          | some v =>
            rw [hv] at h
            cases h
            by_cases h1 : ci = 100
            · intro as ws H locs ls stv has hH hP hD hS hL hst
              obtain ⟨ad', en, e1, e2, hE⟩ := hH.2.2 kx _ hk
              obtain ⟨vs, rfl, -⟩ := hE
              obtain ⟨r, r1, -⟩ := hP kx _ e2
              have := (List.getElem?_eq_some_iff.mp r1).1
              dsimp only at this
              omega
            · exact av_getf_ok C0 hcls ok hk hv h1 (k _ (by simp))
      · cases h
    · rename_i st'
      cases hc : (a == 100) with
      | false => rw [hc] at h; cases h
      | true =>
        rw [hc] at h
        simp only [beq_iff_eq] at hc
        subst hc
        cases h
        exact av_getS_ok C0 ok (k _ (by simp))
    · cases h
  case putfield i =>
    dsimp only at h
    split at h
    · rename_i v kx st'
      split at h
      · rename_i ci fs hk
        cases hc : (ci == a && (decide (b < fs.length) && av_fit z.toNat v)) with
        | false => rw [hc] at h; cases h
        | true =>
          rw [hc] at h
          cases h
          simp only [Bool.and_eq_true, decide_eq_true_eq, beq_iff_eq] at hc
          obtain ⟨rfl, c2, c3⟩ := hc
          exact av_putf_ok C0 hcls ok hk c2 c3 (k _ (by simp))
      · cases h
    · cases h
  case iinc i n =>
    dsimp only at h
    split at h
    · rename_i u hg
      cases h
      exact av_iinc_ok C0 ok hg (k _ (by simp))
    · cases h
  case goto off =>
    dsimp only at h
    cases hc : av_jmp pc off with
    | false => rw [hc] at h; cases h
    | true =>
      rw [hc] at h
      cases h
      exact av_goto_ok C0 ok hc (k _ (by simp))
  case if_icmp o off =>
    dsimp only at h
    split at h
    · rename_i w u st'
      cases hc : av_jmp pc off with
      | false => rw [hc] at h; cases h
      | true =>
        rw [hc] at h
        cases h
        exact av_icmp_ok C0 ok hc k
    · cases h
  case ifCond o off =>
    dsimp only at h
    split at h
    · rename_i u st'
      cases hc : av_jmp pc off with
      | false => rw [hc] at h; cases h
      | true =>
        rw [hc] at h
        cases h
        exact av_if_ok C0 ok hc k
    · cases h
  case dup =>
    dsimp only at h
    cases st with
    | nil => cases h
    | cons v st =>
      dsimp only at h
      cases hv : av_isL v with
      | true => rw [hv] at h; cases h
      | false => rw [hv] at h; cases h; exact av_dup_ok C0 ok hv (k _ (by simp))
  case pop =>
    dsimp only at h
    cases st with
    | nil => cases h
    | cons v st =>
      dsimp only at h
      cases hv : av_isL v with
      | true => rw [hv] at h; cases h
      | false => rw [hv] at h; cases h; exact av_pop_ok C0 ok hv (k _ (by simp))
  case dup2 =>
    dsimp only at h
    split at h
    · rename_i v w st'
      cases hv : av_isL v with
      | true => rw [hv] at h; cases h
      | false =>
        cases hw : av_isL w with
        | true => rw [hv, hw] at h; cases h
        | false => rw [hv, hw] at h; cases h; exact av_dup2_ok C0 ok hv hw (k _ (by simp))
    · cases h
  case arraylength =>
    dsimp only at h
    split at h
    · rename_i kx st'
      split at h
      · rename_i t xs hk
        cases h
        exact av_len_ok C0 ok hk (k _ (by simp))
      · cases h
    · rename_i j st'
      cases hr : av_row X j with
      | none => rw [hr] at h; cases h
      | some xs =>
        rw [hr] at h
        cases h
        exact av_lens_ok C0 ok hr (k _ (by simp))
    · cases h
  case i2c =>
    dsimp only at h
    split at h
    · cases h
      exact av_i2c_ok C0 ok (k _ (by simp))
    · cases h
  case i2b =>
    dsimp only at h
    split at h
    · cases h
      exact av_i2b_ok C0 ok (k _ (by simp))
    · cases h
  case lcmp =>
    dsimp only at h
    split at h
    · rename_i w u st'
      cases hc : (decide (u.1 = u.2) && (decide (w.1 = w.2) && decide (u.1 = w.1))) with
      | false => rw [hc] at h; cases h
      | true => rw [hc] at h; cases h; exact av_lcmp_ok C0 ok hc (k _ (by simp))
    · cases h
  case tableswitch d lo hi offs =>
    dsimp only at h
    split at h
    · rename_i u st'
      cases hc : (decide (u.2 < lo) || decide (hi < u.1)) with
      | true =>
        rw [hc] at h
        dsimp only [cond_true] at h
        cases hj : av_jmp pc d with
        | false => rw [hj] at h; cases h
        | true => rw [hj] at h; cases h; exact av_table_ok C0 ok hj (.inl ⟨hc, rfl⟩) (k _ (by simp))
      | false =>
        rw [hc] at h
        dsimp only [cond_false] at h
        cases hc2 : (decide (u.1 = u.2) && (decide (lo ≤ u.1) && decide (u.1 ≤ hi))) with
        | false => rw [hc2] at h; cases h
        | true =>
          rw [hc2] at h
          dsimp only [cond_true] at h
          split at h
          · rename_i off ho
            cases hj : av_jmp pc off with
            | false => rw [hj] at h; cases h
            | true => rw [hj] at h; cases h; exact av_table_ok C0 ok hj (.inr ⟨hc2, ho⟩) (k _ (by simp))
          · cases h
    · cases h
theorem av_mk_ok {q : av_Q} {S S' : av_S} (C0 : av_Cx Ts cl D cy A sv X M p R s m args meth c) (hcls : av_cls Ts cl F) (ok : av_ok Ts cl mt M q) (hq : q.1 = S.1) (h : av_mk M.2.2.1 M.2.2.2.1 F q S = some S')
    (k : av_Good cl D cy A sv as0 M.1.2.2.2.1 p l e R s m args below meth c Q S') : av_Good cl D cy A sv as0 M.1.2.2.2.1 p l e R s m args below meth c Q S := by
  obtain ⟨pc, ins, len, a, b, z⟩ := q
  obtain ⟨pc', L, st, hp, cN, sN⟩ := S
  dsimp only at hq
  subst hq
  unfold av_mk at h
  dsimp only at h
  cases ins <;> first | (cases h; done) | skip
  case new i =>
    dsimp only at h
    split at h
    · rename_i ks hks
      obtain ⟨hc, h⟩ := av_bif h
      cases h
      simp only [Bool.and_eq_true, decide_eq_true_eq] at hc
      exact av_new_ok C0 hcls ok hks hc.1 hc.2 k
    · cases h
  case newarray t =>
    dsimp only at h
    split at h
    · rename_i u st'
      obtain ⟨hc, h⟩ := av_bif h
      cases h
      simp only [Bool.and_eq_true, decide_eq_true_eq] at hc
      obtain ⟨c1, c2, c3, c4, c5, c6⟩ := hc
      exact av_newa_ok C0 ok c1 c2 c3 c4 c5 c6 k
    · cases h
  case anewarray i =>
    dsimp only at h
    split at h
    · rename_i u st'
      obtain ⟨hc, h⟩ := av_bif h
      cases h
      simp only [Bool.and_eq_true, Bool.or_eq_true, decide_eq_true_eq, beq_iff_eq] at hc
      obtain ⟨c1, c2, c3, c4, c5, c6⟩ := hc
      exact av_anew_ok C0 ok c1 c2 c3 c4 c5 c6 k
    · cases h
end AVR
