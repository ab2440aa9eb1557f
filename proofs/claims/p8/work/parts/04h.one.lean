/-! ===== one instruction of the small machine ===== -/
section CVR
variable {Ts : List Jvm.Cond} {cl : List vw_C} {D : va_G} {cy : Nat → ClassId} {A : Nat → Prop} {sv : Nat → Value} {as0 : List Nat} {X : cv_X} {M : cv_M} {mt : Nat → cv_M} {F : cv_F} {p : Program} {l : Launch} {e : Env} {R : Room} {s : State} {m : MethodId} {args : Array Value} {below : List Frame} {meth : Method} {c : Code} {Q : State → Prop}
set_option maxHeartbeats 4000000 in
theorem cv_one_ok {q : cv_Q} {S S' : cv_S} (C0 : cv_Cx Ts cl D cy A sv X M p R s m args meth c) (hcls : cv_cls Ts cl F) (hcl4 : ∃ T N, cl[1]? = some ("SagGates$Gate", T, N)) (hcl5 : ∃ T N, cl[7]? = some ("SagGates$Told", T, N)) (h100 : cl.length ≤ 100) (ok : cv_ok Ts cl mt M q) (hq : q.1 = S.1) (h : cv_one X q S = some S')
    (k : cv_Good cl D cy A sv as0 M.1.2.2.2.1 p l e R s m args below meth c Q S') : cv_Good cl D cy A sv as0 M.1.2.2.2.1 p l e R s m args below meth c Q S := by
  obtain ⟨pc, ins, len, a, b, z⟩ := q
  obtain ⟨pc', L, st, hp, cN, sN⟩ := S
  dsimp only at hq
  subst hq
  unfold cv_one at h
  dsimp only at h
  cases hpush : cv_push (pc, ins, len, a, b, z) with
  | some v =>
    rw [hpush] at h
    cases h
    exact cv_push_ok C0 ok hpush k
  | none =>
  rw [hpush] at h
  dsimp only at h
  cases hload : cv_load ins with
  | some ik =>
    obtain ⟨i, kd⟩ := ik
    rw [hload] at h
    dsimp only at h
    cases hg : cv_get L i with
    | none => rw [hg] at h; cases h
    | some v =>
      rw [hg] at h
      dsimp only at h
      cases hv : cv_kind kd v with
      | false => rw [hv] at h; cases h
      | true =>
        rw [hv] at h
        cases h
        exact cv_load_ok C0 ok hload hg hv k
  | none =>
  rw [hload] at h
  dsimp only at h
  cases hstore : cv_store ins with
  | some ik =>
    obtain ⟨i, kd⟩ := ik
    rw [hstore] at h
    dsimp only at h
    cases st with
    | nil => cases h
    | cons v st =>
      dsimp only at h
      cases hv : (bif kd == 2 then cv_isR v else cv_kind kd v) with
      | false => rw [hv] at h; cases h
      | true =>
        rw [hv] at h
        cases h
        exact cv_store_ok C0 ok hstore hv k
  | none =>
  rw [hstore] at h
  dsimp only at h
  cases hbin : cv_bin ins with
  | some f =>
    rw [hbin] at h
    dsimp only at h
    split at h
    · rename_i w u st'
      cases hr : f u w with
      | none => rw [hr] at h; cases h
      | some r =>
        rw [hr] at h
        cases h
        exact cv_bin_ok C0 ok hbin hr k
    · cases h
  | none =>
  rw [hbin] at h
  dsimp only at h
  cases hbinL : cv_binL ins with
  | some f =>
    rw [hbinL] at h
    dsimp only at h
    split at h
    · rename_i w u st'
      cases hr : f u w with
      | none => rw [hr] at h; cases h
      | some r =>
        rw [hr] at h
        cases h
        exact cv_binL_ok C0 ok hbinL hr k
    · cases h
  | none =>
  rw [hbinL] at h
  dsimp only at h
  cases ins <;> first | (cases h; done) | skip
  case iaload =>
    dsimp only at h
    split at h
    · rename_i i kx st'
      split at h
      · rename_i xs hk
        obtain ⟨hi, h2⟩ := cv_bif h
        cases hv : xs[i.toNatClampNeg]? with
        | none => rw [hv] at h2; cases h2
        | some x =>
          rw [hv] at h2
          cases h2
          exact cv_iald_ok C0 ok hk hi hv k
      · cases h
    · rename_i i j st'
      split at h
      · rename_i xs hk
        obtain ⟨hi, h2⟩ := cv_bif h
        simp only [Bool.and_eq_true, Bool.not_eq_true', beq_eq_false_iff_ne] at hi
        cases hv : xs[i.toNatClampNeg]? with
        | none => rw [hv] at h2; cases h2
        | some x =>
          rw [hv] at h2
          cases h2
          exact cv_ialds_ok C0 ok hk hi.2 hi.1 hv k
      · cases h
    · cases h
  case baload =>
    dsimp only at h
    split at h
    · rename_i i kx st'
      split at h
      · rename_i t xs hk
        obtain ⟨hi, h2⟩ := cv_bif h
        simp only [Bool.and_eq_true, Bool.or_eq_true, beq_iff_eq] at hi
        cases hv : xs[i.toNatClampNeg]? with
        | none => rw [hv] at h2; cases h2
        | some x =>
          rw [hv] at h2
          cases h2
          exact cv_bald_ok C0 ok hk hi.1 hi.2 hv k
      · cases h
    · rename_i i st'
      split at h
      · rename_i xs hk
        obtain ⟨hi, h2⟩ := cv_bif h
        cases hv : xs[i.toNatClampNeg]? with
        | none => rw [hv] at h2; cases h2
        | some x =>
          rw [hv] at h2
          cases h2
          exact cv_balds_ok C0 ok hk hi hv k
      · cases h
    · cases h
  case laload =>
    dsimp only at h
    split at h
    · rename_i i kx st'
      split at h
      · rename_i xs hk
        obtain ⟨hi, h2⟩ := cv_bif h
        cases hv : xs[i.toNatClampNeg]? with
        | none => rw [hv] at h2; cases h2
        | some x =>
          rw [hv] at h2
          cases h2
          exact cv_lald_ok C0 ok hk hi hv k
      · cases h
    · cases h
  case aaload =>
    dsimp only at h
    split at h
    · rename_i i kx st'
      split at h
      · rename_i t xs hk
        obtain ⟨hi, h2⟩ := cv_bif h
        cases hv : xs[i.toNatClampNeg]? with
        | none => rw [hv] at h2; cases h2
        | some x =>
          rw [hv] at h2
          cases h2
          exact cv_aald_ok C0 ok hk hi hv k
      · cases h
    · cases h
  case iastore =>
    dsimp only at h
    split at h
    · rename_i x i kx st'
      split at h
      · rename_i xs hk
        obtain ⟨hi, h2⟩ := cv_bif h
        cases h2
        exact cv_iast_ok C0 ok hk hi k
      · cases h
    · cases h
  case bastore =>
    dsimp only at h
    split at h
    · rename_i x i kx st'
      split at h
      · rename_i t xs hk
        obtain ⟨hi, h2⟩ := cv_bif h
        simp only [Bool.and_eq_true, Bool.or_eq_true, beq_iff_eq] at hi
        cases h2
        exact cv_bast_ok C0 ok hk hi.1 hi.2 k
      · cases h
    · cases h
  case lastore =>
    dsimp only at h
    split at h
    · rename_i x i kx st'
      split at h
      · rename_i xs hk
        obtain ⟨hi, h2⟩ := cv_bif h
        cases h2
        exact cv_last_ok C0 ok hk hi k
      · cases h
    · cases h
  case aastore =>
    dsimp only at h
    split at h
    · rename_i o i kx st'
      split at h
      · rename_i t xs ci fs hk ho
        obtain ⟨hi, h2⟩ := cv_bif h
        simp only [Bool.and_eq_true, beq_iff_eq] at hi
        cases h2
        exact cv_aast_ok C0 hcl4 hcl5 ok hk ho hi.2 hi.1 k
      · cases h
    · cases h
  case getfield i =>
    dsimp only at h
    split at h
    · rename_i kx st'
      split at h
      · rename_i ci fs hk
        obtain ⟨hc, h2⟩ := cv_bif h
        simp only [beq_iff_eq] at hc
        subst hc
        cases hv : fs[b]? with
        | none => rw [hv] at h2; cases h2
        | some v =>
          rw [hv] at h2
          cases h2
          by_cases h1 : ci = 100
          · intro as ws H locs ls stv has hH hP hD hS hL hst
            obtain ⟨ad', en, e1, e2, hE⟩ := hH.2.2 kx _ hk
            obtain ⟨vs, rfl, -⟩ := hE
            obtain ⟨r, r1, -⟩ := hP kx _ e2
            have := (List.getElem?_eq_some_iff.mp r1).1
            dsimp only at this
            omega
          · exact cv_getf_ok C0 hcls ok hk hv h1 k
      · cases h
    · rename_i st'
      obtain ⟨hc, h2⟩ := cv_bif h
      simp only [beq_iff_eq] at hc
      subst hc
      cases h2
      exact cv_getS_ok C0 ok k
    · cases h
  case putfield i =>
    dsimp only at h
    split at h
    · rename_i v kx st'
      split at h
      · rename_i ci fs hk
        obtain ⟨hc, h2⟩ := cv_bif h
        cases h2
        simp only [Bool.and_eq_true, decide_eq_true_eq, beq_iff_eq] at hc
        obtain ⟨rfl, c2, c3⟩ := hc
        exact cv_putf_ok C0 hcls ok hk c2 c3 k
      · cases h
    · cases h
  case iinc i n =>
    dsimp only at h
    split at h
    · rename_i u hg
      cases h
      exact cv_iinc_ok C0 ok hg k
    · cases h
  case goto off =>
    dsimp only at h
    obtain ⟨hc, h2⟩ := cv_bif h
    cases h2
    exact cv_goto_ok C0 ok hc k
  case if_icmp o off =>
    dsimp only at h
    split at h
    · rename_i w u st'
      obtain ⟨hc, h2⟩ := cv_bif h
      cases h2
      exact cv_icmp_ok C0 ok hc k
    · cases h
  case ifCond o off =>
    dsimp only at h
    split at h
    · rename_i u st'
      obtain ⟨hc, h2⟩ := cv_bif h
      cases h2
      exact cv_if_ok C0 ok hc k
    · cases h
  case dup =>
    dsimp only at h
    cases st with
    | nil => cases h
    | cons v st =>
      dsimp only at h
      cases hv : cv_isL v with
      | true => rw [hv] at h; cases h
      | false => rw [hv] at h; cases h; exact cv_dup_ok C0 ok hv k
  case pop =>
    dsimp only at h
    cases st with
    | nil => cases h
    | cons v st =>
      dsimp only at h
      cases hv : cv_isL v with
      | true => rw [hv] at h; cases h
      | false => rw [hv] at h; cases h; exact cv_pop_ok C0 ok hv k
  case dup2 =>
    dsimp only at h
    split at h
    · rename_i v w st'
      cases hv : cv_isL v with
      | true => rw [hv] at h; cases h
      | false =>
        cases hw : cv_isL w with
        | true => rw [hv, hw] at h; cases h
        | false => rw [hv, hw] at h; cases h; exact cv_dup2_ok C0 ok hv hw k
    · cases h
  case arraylength =>
    dsimp only at h
    split at h
    · rename_i kx st'
      split at h
      · rename_i t xs hk
        cases h
        exact cv_lenai_ok C0 ok hk k
      · rename_i xs hk
        cases h
        exact cv_lenal_ok (t := 0) C0 ok hk k
      · rename_i t xs hk
        cases h
        exact cv_lenar_ok C0 ok hk k
      · cases h
    · rename_i j st'
      cases hr : X j with
      | none => rw [hr] at h; cases h
      | some xs =>
        rw [hr] at h
        cases h
        exact cv_lens_ok C0 ok hr k
    · cases h
  case i2c =>
    dsimp only at h
    split at h
    · cases h
      exact cv_i2c_ok C0 ok k
    · cases h
  case i2b =>
    dsimp only at h
    split at h
    · cases h
      exact cv_i2b_ok C0 ok k
    · cases h
  case i2l =>
    dsimp only at h
    split at h
    · cases h
      exact cv_i2l_ok C0 ok k
    · cases h
  case l2i =>
    dsimp only at h
    split at h
    · cases h
      exact cv_l2i_ok C0 ok k
    · cases h
  case ineg =>
    dsimp only at h
    split at h
    · cases h
      exact cv_ineg_ok C0 ok k
    · cases h
  case lneg =>
    dsimp only at h
    split at h
    · cases h
      exact cv_lneg_ok C0 ok k
    · cases h
  case lcmp =>
    dsimp only at h
    split at h
    · cases h
      exact cv_lcmp_ok C0 ok k
    · cases h
  case lshr =>
    dsimp only at h
    split at h
    · cases h
      exact cv_lshr_ok C0 ok k
    · cases h
  case tableswitch d lo hi offs =>
    dsimp only at h
    split at h
    · rename_i u st'
      cases hc : (decide (u.toInt < lo) || decide (hi < u.toInt)) with
      | true =>
        rw [hc] at h
        dsimp only [cond_true] at h
        obtain ⟨hj, h2⟩ := cv_bif h
        cases h2
        exact cv_table_ok C0 ok hj (.inl ⟨hc, rfl⟩) k
      | false =>
        rw [hc] at h
        dsimp only [cond_false] at h
        split at h
        · rename_i off ho
          obtain ⟨hj, h2⟩ := cv_bif h
          cases h2
          exact cv_table_ok C0 ok hj (.inr ⟨hc, ho⟩) k
        · cases h
    · cases h
theorem cv_mk_ok {q : cv_Q} {S S' : cv_S} (C0 : cv_Cx Ts cl D cy A sv X M p R s m args meth c) (hcls : cv_cls Ts cl F) (ok : cv_ok Ts cl mt M q) (hq : q.1 = S.1) (h : cv_mk M.2.2.1 M.2.2.2.1 F q S = some S')
    (k : cv_Good cl D cy A sv as0 M.1.2.2.2.1 p l e R s m args below meth c Q S') : cv_Good cl D cy A sv as0 M.1.2.2.2.1 p l e R s m args below meth c Q S := by
  obtain ⟨pc, ins, len, a, b, z⟩ := q
  obtain ⟨pc', L, st, hp, cN, sN⟩ := S
  dsimp only at hq
  subst hq
  unfold cv_mk at h
  dsimp only at h
  cases ins <;> first | (cases h; done) | skip
  case new i =>
    dsimp only at h
    split at h
    · rename_i ks hks
      obtain ⟨hc, h⟩ := cv_bif h
      cases h
      simp only [Bool.and_eq_true, decide_eq_true_eq] at hc
      exact cv_new_ok C0 hcls ok hks hc.1 hc.2 k
    · cases h
  case newarray t =>
    dsimp only at h
    split at h
    · rename_i u st'
      obtain ⟨hc, h⟩ := cv_bif h
      cases h
      simp only [Bool.and_eq_true, decide_eq_true_eq] at hc
      obtain ⟨c1, c2, c3, c4, c5⟩ := hc
      exact cv_newa_ok C0 ok c1 c2 c3 c4 c5 k
    · cases h
  case anewarray i =>
    dsimp only at h
    split at h
    · rename_i u st'
      obtain ⟨hc, h⟩ := cv_bif h
      cases h
      simp only [Bool.and_eq_true, Bool.or_eq_true, decide_eq_true_eq, beq_iff_eq] at hc
      obtain ⟨c1, c2, c3, c4, c5⟩ := hc
      exact cv_anew_ok C0 ok c1 c2 c3 c4 c5 k
    · cases h
theorem cv_nat_ok {q : cv_Q} {S S' : cv_S} (C0 : cv_Cx Ts cl D cy A sv X M p R s m args meth c) (ok : cv_ok Ts cl mt M q) (hq : q.1 = S.1) (h : cv_nat M q S = some S')
    (k : cv_Good cl D cy A sv as0 M.1.2.2.2.1 p l e R s m args below meth c Q S') : cv_Good cl D cy A sv as0 M.1.2.2.2.1 p l e R s m args below meth c Q S := by
  obtain ⟨pc, ins, len, a, b, z⟩ := q
  obtain ⟨pc', L, st, hp, cN, sN⟩ := S
  dsimp only at hq
  subst hq
  unfold cv_nat at h
  dsimp only at h
  obtain ⟨hc, h1⟩ := cv_bif h
  clear h
  simp only [Bool.and_eq_true, decide_eq_true_eq] at hc
  obtain ⟨c1, c2, c3⟩ := hc
  split at h1
  · obtain ⟨hw, h2⟩ := cv_bif h1
    cases h2
    exact cv_obj_ok C0 ok c1 (by simpa using hw) c2 c3 k
  · obtain ⟨hw, h2⟩ := cv_bif h1
    cases h2
    exact cv_mmax_ok C0 ok c1 (by simpa using hw) c2 c3 k
  · obtain ⟨hw, h2⟩ := cv_bif h1
    cases h2
    exact cv_mmin_ok C0 ok c1 (by simpa using hw) c2 c3 k
  · obtain ⟨hw, h2⟩ := cv_bif h1
    cases h2
    exact cv_mabs_ok C0 ok c1 (by simpa using hw) c2 c3 k
  · obtain ⟨hw, h2⟩ := cv_bif h1
    cases h2
    exact cv_mmaxL_ok C0 ok c1 (by simpa using hw) c2 c3 k
  · obtain ⟨hw, h2⟩ := cv_bif h1
    cases h2
    exact cv_mminL_ok C0 ok c1 (by simpa using hw) c2 c3 k
  · obtain ⟨hw, h2⟩ := cv_bif h1
    cases h2
    exact cv_mabsL_ok C0 ok c1 (by simpa using hw) c2 c3 k
  · cases h1
end CVR
