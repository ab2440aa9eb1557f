section
/-! ===== one instruction of the small machine ===== -/
section CVR
variable {Ts : List Jvm.Cond} {cl : List vw_C} {D : va_G} {cy : Nat → ClassId} {A : Nat → Prop} {sv : Nat → Value} {as0 : List Nat} {X : cv_X} {M : cv_M} {mt : Nat → cv_M} {F : cv_F} {p : Program} {l : Launch} {e : Env} {R : Room} {s : State} {m : MethodId} {args : Array Value} {below : List Frame} {meth : Method} {c : Code} {Q : State → Prop}
set_option maxHeartbeats 4000000 in
theorem cv_one_ok {q : cv_Q} {S S' : cv_S} (C0 : cv_Cx Ts cl D cy A sv X M p R s m args meth c) (hcls : cv_cls Ts cl F) (hcl4 : ∃ T N, cl[1]? = some ("SagGates$Gate", T, N)) (hcl5 : ∃ T N, cl[7]? = some ("SagGates$Told", T, N)) (h100 : cl.length ≤ 100) (ok : cv_ok Ts cl mt M q) (hq : q.1 = S.1) (h : cv_one X q S = some S')
    (k : cv_Good cl D cy A sv as0 M.1.2.2.2.1 p l e R s m args below meth c Q S') : cv_Good cl D cy A sv as0 M.1.2.2.2.1 p l e R s m args below meth c Q S := by
  obtain ⟨pc, ins, len, a, b, z⟩ := q
  obtain ⟨pc', L, st, hp, cN, sN⟩ := S
  dsimp only at hq
  subst hq
  unfold cv_one at h
  dsimp only at h
  cases hpush : cv_push (pc, ins, len, a, b, z) with
  | some v =>
    rw [hpush] at h
    cases h
    exact cv_push_ok C0 ok hpush k
  | none =>
  rw [hpush] at h
  dsimp only at h
  cases hload : cv_load ins with
  | some ik =>
    obtain ⟨i, kd⟩ := ik
    rw [hload] at h
    dsimp only at h
    cases hg : cv_get L i with
    | none => rw [hg] at h; cases h
    | some v =>
      rw [hg] at h
      dsimp only at h
      cases hv : cv_kind kd v with
      | false => rw [hv] at h; cases h
      | true =>
        rw [hv] at h
        cases h
        exact cv_load_ok C0 ok hload hg hv k
  | none =>
  rw [hload] at h
  dsimp only at h
  cases hstore : cv_store ins with
  | some ik =>
    obtain ⟨i, kd⟩ := ik
    rw [hstore] at h
    dsimp only at h
    cases st with
    | nil => cases h
    | cons v st =>
      dsimp only at h
      cases hv : (bif kd == 2 then cv_isR v else cv_kind kd v) with
      | false => rw [hv] at h; cases h
      | true =>
        rw [hv] at h
        cases h
        exact cv_store_ok C0 ok hstore hv k
  | none =>
  rw [hstore] at h
  dsimp only at h
  cases hbin : cv_bin ins with
  | some f =>
    rw [hbin] at h
    dsimp only at h
    split at h
    · rename_i w u st'
      cases hr : f u w with
      | none => rw [hr] at h; cases h
      | some r =>
        rw [hr] at h
        cases h
        exact cv_bin_ok C0 ok hbin hr k
    · cases h
  | none =>
  rw [hbin] at h
  dsimp only at h
  cases hbinL : cv_binL ins with
  | some f =>
    rw [hbinL] at h
    dsimp only at h
    split at h
    · rename_i w u st'
      cases hr : f u w with
      | none => rw [hr] at h; cases h
      | some r =>
        rw [hr] at h
        cases h
        exact cv_binL_ok C0 ok hbinL hr k
    · cases h
  | none =>
  rw [hbinL] at h
  dsimp only at h
  cases ins <;> first | (cases h; done) | skip
  case iaload =>
    dsimp only at h
    split at h
    · rename_i i kx st'
      split at h
      · rename_i xs hk
        obtain ⟨hi, h2⟩ := cv_bif h
        cases hv : xs[i.toNatClampNeg]? with
        | none => rw [hv] at h2; cases h2
        | some x =>
          rw [hv] at h2
          cases h2
          exact cv_iald_ok C0 ok hk hi hv k
      · cases h
    · rename_i i j st'
      split at h
      · rename_i xs hk
        obtain ⟨hi, h2⟩ := cv_bif h
        simp only [Bool.and_eq_true, Bool.not_eq_true', beq_eq_false_iff_ne] at hi
        cases hv : xs[i.toNatClampNeg]? with
        | none => rw [hv] at h2; cases h2
        | some x =>
          rw [hv] at h2
          cases h2
          exact cv_ialds_ok C0 ok hk hi.2 hi.1 hv k
      · cases h
    · cases h
  case baload =>
    dsimp only at h
    split at h
    · rename_i i kx st'
      split at h
      · rename_i t xs hk
        obtain ⟨hi, h2⟩ := cv_bif h
        simp only [Bool.and_eq_true, Bool.or_eq_true, beq_iff_eq] at hi
        cases hv : xs[i.toNatClampNeg]? with
        | none => rw [hv] at h2; cases h2
        | some x =>
          rw [hv] at h2
          cases h2
          exact cv_bald_ok C0 ok hk hi.1 hi.2 hv k
      · cases h
    · rename_i i st'
      split at h
      · rename_i xs hk
        obtain ⟨hi, h2⟩ := cv_bif h
        cases hv : xs[i.toNatClampNeg]? with
        | none => rw [hv] at h2; cases h2
        | some x =>
          rw [hv] at h2
          cases h2
          exact cv_balds_ok C0 ok hk hi hv k
      · cases h
    · cases h
  case laload =>
    dsimp only at h
    split at h
    · rename_i i kx st'
      split at h
      · rename_i xs hk
        obtain ⟨hi, h2⟩ := cv_bif h
        cases hv : xs[i.toNatClampNeg]? with
        | none => rw [hv] at h2; cases h2
        | some x =>
          rw [hv] at h2
          cases h2
          exact cv_lald_ok C0 ok hk hi hv k
      · cases h
    · cases h
  case aaload =>
    dsimp only at h
    split at h
    · rename_i i kx st'
      split at h
      · rename_i t xs hk
        obtain ⟨hi, h2⟩ := cv_bif h
        cases hv : xs[i.toNatClampNeg]? with
        | none => rw [hv] at h2; cases h2
        | some x =>
          rw [hv] at h2
          cases h2
          exact cv_aald_ok C0 ok hk hi hv k
      · cases h
    · cases h
  case iastore =>
    dsimp only at h
    split at h
    · rename_i x i kx st'
      split at h
      · rename_i xs hk
        obtain ⟨hi, h2⟩ := cv_bif h
        cases h2
        exact cv_iast_ok C0 ok hk hi k
      · cases h
    · cases h
  case bastore =>
    dsimp only at h
    split at h
    · rename_i x i kx st'
      split at h
      · rename_i t xs hk
        obtain ⟨hi, h2⟩ := cv_bif h
        simp only [Bool.and_eq_true, Bool.or_eq_true, beq_iff_eq] at hi
        cases h2
        exact cv_bast_ok C0 ok hk hi.1 hi.2 k
      · cases h
    · cases h
  case lastore =>
    dsimp only at h
    split at h
    · rename_i x i kx st'
      split at h
      · rename_i xs hk
        obtain ⟨hi, h2⟩ := cv_bif h
        cases h2
        exact cv_last_ok C0 ok hk hi k
      · cases h
    · cases h
  case aastore =>
    dsimp only at h
    split at h
    · rename_i o i kx st'
      split at h
      · rename_i t xs ci fs hk ho
        obtain ⟨hi, h2⟩ := cv_bif h
        simp only [Bool.and_eq_true, beq_iff_eq] at hi
        cases h2
        exact cv_aast_ok C0 hcl4 hcl5 ok hk ho hi.2 hi.1 k
      · cases h
    · cases h
  case getfield i =>
    dsimp only at h
    split at h
    · rename_i kx st'
      split at h
      · rename_i ci fs hk
        obtain ⟨hc, h2⟩ := cv_bif h
        simp only [beq_iff_eq] at hc
        subst hc
        cases hv : fs[b]? with
        | none => rw [hv] at h2; cases h2
        | some v =>
          rw [hv] at h2
          cases h2
          by_cases h1 : ci = 100
          · intro as ws H locs ls stv has hH hP hD hS hL hst
            obtain ⟨ad', en, e1, e2, hE⟩ := hH.2.2 kx _ hk
            obtain ⟨vs, rfl, -⟩ := hE
            obtain ⟨r, r1, -⟩ := hP kx _ e2
            have := (List.getElem?_eq_some_iff.mp r1).1
            dsimp only at this
            omega
          · exact cv_getf_ok C0 hcls ok hk hv h1 k
      · cases h
    · rename_i st'
      obtain ⟨hc, h2⟩ := cv_bif h
      simp only [beq_iff_eq] at hc
      subst hc
      cases h2
      exact cv_getS_ok C0 ok k
    · cases h
  case putfield i =>
    dsimp only at h
    split at h
    · rename_i v kx st'
      split at h
      · rename_i ci fs hk
        obtain ⟨hc, h2⟩ := cv_bif h
        cases h2
        simp only [Bool.and_eq_true, decide_eq_true_eq, beq_iff_eq] at hc
        obtain ⟨rfl, c2, c3⟩ := hc
        exact cv_putf_ok C0 hcls ok hk c2 c3 k
      · cases h
    · cases h
  case iinc i n =>
    dsimp only at h
    split at h
    · rename_i u hg
      cases h
      exact cv_iinc_ok C0 ok hg k
    · cases h
  case goto off =>
    dsimp only at h
    obtain ⟨hc, h2⟩ := cv_bif h
    cases h2
    exact cv_goto_ok C0 ok hc k
  case if_icmp o off =>
    dsimp only at h
    split at h
    · rename_i w u st'
      obtain ⟨hc, h2⟩ := cv_bif h
      cases h2
      exact cv_icmp_ok C0 ok hc k
    · cases h
  case ifCond o off =>
    dsimp only at h
    split at h
    · rename_i u st'
      obtain ⟨hc, h2⟩ := cv_bif h
      cases h2
      exact cv_if_ok C0 ok hc k
    · cases h
  case dup =>
    dsimp only at h
    cases st with
    | nil => cases h
    | cons v st =>
      dsimp only at h
      cases hv : cv_isL v with
      | true => rw [hv] at h; cases h
      | false => rw [hv] at h; cases h; exact cv_dup_ok C0 ok hv k
  case pop =>
    dsimp only at h
    cases st with
    | nil => cases h
    | cons v st =>
      dsimp only at h
      cases hv : cv_isL v with
      | true => rw [hv] at h; cases h
      | false => rw [hv] at h; cases h; exact cv_pop_ok C0 ok hv k
  case dup2 =>
    dsimp only at h
    split at h
    · rename_i v w st'
      cases hv : cv_isL v with
      | true => rw [hv] at h; cases h
      | false =>
        cases hw : cv_isL w with
        | true => rw [hv, hw] at h; cases h
        | false => rw [hv, hw] at h; cases h; exact cv_dup2_ok C0 ok hv hw k
    · cases h
  case arraylength =>
    dsimp only at h
    split at h
    · rename_i kx st'
      split at h
      · rename_i t xs hk
        cases h
        exact cv_lenai_ok C0 ok hk k
      · rename_i xs hk
        cases h
        exact cv_lenal_ok (t := 0) C0 ok hk k
      · rename_i t xs hk
        cases h
        exact cv_lenar_ok C0 ok hk k
      · cases h
    · rename_i j st'
      cases hr : X j with
      | none => rw [hr] at h; cases h
      | some xs =>
        rw [hr] at h
        cases h
        exact cv_lens_ok C0 ok hr k
    · cases h
  case i2c =>
    dsimp only at h
    split at h
    · cases h
      exact cv_i2c_ok C0 ok k
    · cases h
  case i2b =>
    dsimp only at h
    split at h
    · cases h
      exact cv_i2b_ok C0 ok k
    · cases h
  case i2l =>
    dsimp only at h
    split at h
    · cases h
      exact cv_i2l_ok C0 ok k
    · cases h
  case l2i =>
    dsimp only at h
    split at h
    · cases h
      exact cv_l2i_ok C0 ok k
    · cases h
  case ineg =>
    dsimp only at h
    split at h
    · cases h
      exact cv_ineg_ok C0 ok k
    · cases h
  case lneg =>
    dsimp only at h
    split at h
    · cases h
      exact cv_lneg_ok C0 ok k
    · cases h
  case lcmp =>
    dsimp only at h
    split at h
    · cases h
      exact cv_lcmp_ok C0 ok k
    · cases h
  case lshr =>
    dsimp only at h
    split at h
    · cases h
      exact cv_lshr_ok C0 ok k
    · cases h
  case tableswitch d lo hi offs =>
    dsimp only at h
    split at h
    · rename_i u st'
      cases hc : (decide (u.toInt < lo) || decide (hi < u.toInt)) with
      | true =>
        rw [hc] at h
        dsimp only [cond_true] at h
        obtain ⟨hj, h2⟩ := cv_bif h
        cases h2
        exact cv_table_ok C0 ok hj (.inl ⟨hc, rfl⟩) k
      | false =>
        rw [hc] at h
        dsimp only [cond_false] at h
        split at h
        · rename_i off ho
          obtain ⟨hj, h2⟩ := cv_bif h
          cases h2
          exact cv_table_ok C0 ok hj (.inr ⟨hc, ho⟩) k
        · cases h
    · cases h
theorem cv_mk_ok {q : cv_Q} {S S' : cv_S} (C0 : cv_Cx Ts cl D cy A sv X M p R s m args meth c) (hcls : cv_cls Ts cl F) (ok : cv_ok Ts cl mt M q) (hq : q.1 = S.1) (h : cv_mk M.2.2.1 M.2.2.2.1 F q S = some S')
    (k : cv_Good cl D cy A sv as0 M.1.2.2.2.1 p l e R s m args below meth c Q S') : cv_Good cl D cy A sv as0 M.1.2.2.2.1 p l e R s m args below meth c Q S := by
  obtain ⟨pc, ins, len, a, b, z⟩ := q
  obtain ⟨pc', L, st, hp, cN, sN⟩ := S
  dsimp only at hq
  subst hq
  unfold cv_mk at h
  dsimp only at h
  cases ins <;> first | (cases h; done) | skip
  case new i =>
    dsimp only at h
    split at h
    · rename_i ks hks
      obtain ⟨hc, h⟩ := cv_bif h
      cases h
      simp only [Bool.and_eq_true, decide_eq_true_eq] at hc
      exact cv_new_ok C0 hcls ok hks hc.1 hc.2 k
    · cases h
  case newarray t =>
    dsimp only at h
    split at h
    · rename_i u st'
      obtain ⟨hc, h⟩ := cv_bif h
      cases h
      simp only [Bool.and_eq_true, decide_eq_true_eq] at hc
      obtain ⟨c1, c2, c3, c4, c5⟩ := hc
      exact cv_newa_ok C0 ok c1 c2 c3 c4 c5 k
    · cases h
  case anewarray i =>
    dsimp only at h
    split at h
    · rename_i u st'
      obtain ⟨hc, h⟩ := cv_bif h
      cases h
      simp only [Bool.and_eq_true, Bool.or_eq_true, decide_eq_true_eq, beq_iff_eq] at hc
      obtain ⟨c1, c2, c3, c4, c5⟩ := hc
      exact cv_anew_ok C0 ok c1 c2 c3 c4 c5 k
    · cases h
theorem cv_nat_ok {q : cv_Q} {S S' : cv_S} (C0 : cv_Cx Ts cl D cy A sv X M p R s m args meth c) (ok : cv_ok Ts cl mt M q) (hq : q.1 = S.1) (h : cv_nat M q S = some S')
    (k : cv_Good cl D cy A sv as0 M.1.2.2.2.1 p l e R s m args below meth c Q S') : cv_Good cl D cy A sv as0 M.1.2.2.2.1 p l e R s m args below meth c Q S := by
  obtain ⟨pc, ins, len, a, b, z⟩ := q
  obtain ⟨pc', L, st, hp, cN, sN⟩ := S
  dsimp only at hq
  subst hq
  unfold cv_nat at h
  dsimp only at h
  obtain ⟨hc, h1⟩ := cv_bif h
  clear h
  simp only [Bool.and_eq_true, decide_eq_true_eq] at hc
  obtain ⟨c1, c2, c3⟩ := hc
  split at h1
  · obtain ⟨hw, h2⟩ := cv_bif h1
    cases h2
    exact cv_obj_ok C0 ok c1 (by simpa using hw) c2 c3 k
  · obtain ⟨hw, h2⟩ := cv_bif h1
    cases h2
    exact cv_mmax_ok C0 ok c1 (by simpa using hw) c2 c3 k
  · obtain ⟨hw, h2⟩ := cv_bif h1
    cases h2
    exact cv_mmin_ok C0 ok c1 (by simpa using hw) c2 c3 k
  · obtain ⟨hw, h2⟩ := cv_bif h1
    cases h2
    exact cv_mabs_ok C0 ok c1 (by simpa using hw) c2 c3 k
  · obtain ⟨hw, h2⟩ := cv_bif h1
    cases h2
    exact cv_mmaxL_ok C0 ok c1 (by simpa using hw) c2 c3 k
  · obtain ⟨hw, h2⟩ := cv_bif h1
    cases h2
    exact cv_mminL_ok C0 ok c1 (by simpa using hw) c2 c3 k
  · obtain ⟨hw, h2⟩ := cv_bif h1
    cases h2
    exact cv_mabsL_ok C0 ok c1 (by simpa using hw) c2 c3 k
  · cases h1
end CVR
end
section
/-! ===== calls and returns of the small machine ===== -/
def cv_rm (M : cv_M) : Room := { frames := M.2.2.2.2.1, cells := M.2.2.1, slots := M.2.2.2.1, locals := M.2.2.2.2.2 }
def cv_ws (Ts : List Jvm.Cond) (M : cv_M) : List Jvm.Cond := Jvm.Cond.code M.1.2.1 M.1.2.2.1 M.1.2.2.2.1 M.1.2.2.2.2 :: Ts
def cv_Pre (cl : List vw_C) (D : va_G) (cy : Nat → ClassId) (A : Nat → Prop) (sv : Nat → Value) (X : cv_X) (ws : va_W) (vs : List Value) : Array Value → State → Prop :=
  va_Pc vs (fun U => va_P D cl ws U.heap ∧ va_K D cl (cv_tys cy) U ∧ (∀ q, U.heap.size ≤ q → A q) ∧ cv_SF A sv (cv_no2 X) U U.heap)
def cv_Qc (cl : List vw_C) (D : va_G) (cy : Nat → ClassId) (A : Nat → Prop) (sv : Nat → Value) (as : List Nat) (ov : cv_O) : Array Value → State → Outcome → State → Prop := fun _ st o t =>
  (∃ (as' : List Nat) (ws' : va_W) (rv : Option Value), o = .returned rv ∧ as <+: as' ∧ cv_relS sv as' ov.1.toList rv.toList ∧ cv_relH cy sv as' ov.2 ws' ∧ va_P D cl ws' t.heap ∧ va_D A ws') ∧ va_F A st t
def cv_Met (Ts : List Jvm.Cond) (cl : List vw_C) (D : va_G) (cy : Nat → ClassId) (A : Nat → Prop) (sv : Nat → Value) (l : Launch) (X : cv_X) (M : cv_M) (args : List cv_V) (h : cv_H) (ov : cv_O) : Prop :=
  ∀ (as : List Nat) (ws : va_W) (vs : List Value), cv_relS sv as args vs → cv_relH cy sv as h ws → va_D A ws → Met l M.1.2.1 (cv_ws Ts M) (cv_rm M) (cv_Pre cl D cy A sv X ws vs) (cv_Qc cl D cy A sv as ov) M.2.2.1 M.2.2.2.1 A
theorem cv_blind {cl : List vw_C} {D : va_G} {cy : Nat → ClassId} {A : Nat → Prop} {sv : Nat → Value} {X : cv_X} {ws : va_W} {vs : List Value} : FrameBlind (cv_Pre cl D cy A sv X ws vs) := by
  intro a U g mk hq
  obtain ⟨q0, q1, q2, q3, q4⟩ := hq
  exact ⟨q0, q1, va_K.moved (u := U) (U := U.calling g mk a) (Vm.Alike.refl U.vm) q2, q3, cv_SF_in q4 g mk a⟩
theorem cv_ent_ok {sv : Nat → Value} (hsv : ∀ j, sv j = .null ∨ ∃ a, sv j = .ref a) {as : List Nat} : ∀ {l : List cv_V} {r : List Value} (i : Nat), cv_relS sv as l r → ((∀ q ∈ cv_ent i l, ∃ x, cv_dn sv as q.2 x ∧ (q.1, x) ∈ lv_args i r) ∧ (lg_sl r).length = cv_wid l)
  | [], [], _, _ => ⟨fun q hq => by (cases hq), rfl⟩
  | v :: l, x :: r, i, ⟨a, b⟩ => by
    have hc := cv_cat hsv a
    obtain ⟨h1, h2⟩ := cv_ent_ok hsv (bif cv_isL v then i + 2 else i + 1) b
    refine ⟨fun q hq => ?_, ?_⟩
    · rcases List.mem_cons.mp hq with rfl | hq
      · exact ⟨x, a, List.mem_cons_self⟩
      · obtain ⟨y, y1, y2⟩ := h1 q hq
        refine ⟨y, y1, ?_⟩
        rw [lv_args]
        refine List.mem_cons_of_mem _ ?_
        cases hL : cv_isL v with
        | true => rw [hL] at hc y2; rw [if_pos (show x.category = 2 from hc)]; exact y2
        | false => rw [hL] at hc y2; rw [if_neg (show ¬ x.category = 2 by rw [hc]; decide)]; exact y2
    · simp only [lg_sl, List.flatMap_cons, List.length_append, cv_wid, List.map_cons, List.sum_cons] at h2 ⊢
      rw [h2]
      cases hL : cv_isL v with
      | true => rw [hL] at hc; rw [if_pos (show x.category = 2 from hc)]; rfl
      | false => rw [hL] at hc; rw [if_neg (show ¬ x.category = 2 by rw [hc]; decide)]; rfl
  | [], _ :: _, _, hh => hh.elim
  | _ :: _, [], _, hh => hh.elim
section CVR
variable {Ts : List Jvm.Cond} {cl : List vw_C} {D : va_G} {cy : Nat → ClassId} {A : Nat → Prop} {sv : Nat → Value} {as0 : List Nat} {X : cv_X} {M : cv_M} {mt : Nat → cv_M} {F : cv_F} {p : Program} {l : Launch} {e : Env} {R : Room} {s : State} {m : MethodId} {args : Array Value} {below : List Frame} {meth : Method} {c : Code} {Q : State → Prop}
theorem cv_go_ok {H : Heap} {locs : List Loc} {cN sN mc ms pc : Nat} {ls : Array Slot} {st0 rest : List Value} {as : List Nat} {ov : cv_O} {arr : Array Value} (hr : va_Run p l e R s m args below meth c H locs cN sN mc ms (F0 m pc ls st0) rest (cv_Qc cl D cy A sv as ov arr) A) (hS : va_S A s.heap H locs)
    (kk : ∀ (as' : List Nat) (ws' : va_W) (rv : Option Value) (H1 : Heap) (locs1 : List Loc), as <+: as' → cv_relS sv as' ov.1.toList rv.toList → cv_relH cy sv as' ov.2 ws' → va_P D cl ws' H1 → va_D A ws' → va_S A s.heap H1 locs1 → W p l e R s m args below meth c H1 locs1 (cN + mc) (sN + ms) Q (F0 m (pc + 3) ls (rv.toList ++ rest))) : W p l e R s m args below meth c H locs cN sN Q (F0 m pc ls st0) := by
  intro T hT X
  obtain ⟨v, st₀, t, T', L, h0, X', hL, e1, e2, ⟨⟨as', ws', rv, hv, b1, b2, b3, b4, b5⟩, hz, hk⟩, st⟩ := hr T hT X
  cases hv
  rw [h0] at hz hk
  obtain ⟨t2, a1, c1⟩ := kk as' ws' v T'.heap (locs ++ L) b1 b2 b3 (by rw [e1]; exact b4) b5
    ⟨Nat.le_trans hS.1 (by rw [e1]; exact hz), fun q h1 h2 => by rw [e1, hk q (Nat.lt_of_lt_of_le h1 hS.1) h2]; exact hS.2.1 q h1 h2, fun q hq => by
      rcases List.mem_append.mp hq with h | h
      · exact hS.2.2 q h
      · exact hL q h⟩ T' rfl X'
  exact ⟨t2, st t2 a1, c1⟩
theorem cv_call_ok {q : cv_Q} {S : cv_S} {j : Nat} {av stk : List cv_V} {ov : cv_O} (C0 : cv_Cx Ts cl D cy A sv X M p R s m args meth c) (hgood : GoodIn Ts Ts) (h100 : cl.length ≤ 100) (ok : cv_ok Ts cl mt M q) (hq : q.1 = S.1) (h9 : q.2.2.2.1 < 9000) (hcall : cv_call q S = some (j, av, stk)) (hfits : cv_fits M (mt j) S.2.2.2.2.1 S.2.2.2.2.2 (cv_wid av) stk = true)
    (hM : cv_Met Ts cl D cy A sv l X (mt j) av S.2.2.2.1 ov)
    (k : cv_Good cl D cy A sv as0 M.1.2.2.2.1 p l e R s m args below meth c Q (S.1 + q.2.2.1, S.2.1, ov.1.toList ++ stk, ov.2, S.2.2.2.2.1 + (mt j).2.2.1, S.2.2.2.2.2 + (mt j).2.2.2.1)) : cv_Good cl D cy A sv as0 M.1.2.2.2.1 p l e R s m args below meth c Q S := by
  obtain ⟨pc, ins, len, a, b, z⟩ := q
  obtain ⟨pc', L, st, hp, cN, sN⟩ := S
  dsimp only at hq h9 hfits hM k
  subst hq
  obtain ⟨hx, hb, hml, hown, hts, hr, hlk, hnm, hK, hA, hSF, r1, r2, r3, r4⟩ := C0
  have hSF0 := hSF
  obtain ⟨hsv, ⟨q0, q1, a1, a2, a3, a4, a5, a6⟩, h2, h3, hnest, -⟩ := hSF
  obtain ⟨hd, hlen, hok⟩ := ok
  unfold cv_fits at hfits
  simp only [Bool.and_eq_true, decide_eq_true_eq] at hfits
  obtain ⟨f0, f1, f2, f3, f4, f5⟩ := hfits
  unfold cv_call at hcall
  dsimp only at hcall
  obtain ⟨hc, hcall2⟩ := cv_bif hcall
  clear hcall
  simp only [Bool.and_eq_true, decide_eq_true_eq] at hc
  intro as ws H locs ls stv has hH hP hD hS hL hst
  have hstl := cv_relS_len hst
  have hls : ls.size = M.1.2.2.2.1 := by obtain ⟨lv, g, -⟩ := hL; exact g.1
  have hTk := cv_relS_take b hst
  have hDr := cv_relS_drop b hst
  have hsplit : stv = (stv.take b).reverse.reverse ++ stv.drop b := by rw [List.reverse_reverse, List.take_append_drop]
  have hn : ((stv.take b).reverse).length = b := by
    rw [List.length_reverse, List.length_take]
    dsimp only at hstl
    omega
  have hin : ∀ w : Jvm.Cond, w ∈ Ts → w ∈ Ts ∧ ((w.onTables && w.keeps) = true ∨ ∃ ty, w = .arrayClass ty) := fun w hw => hgood w hw
  dsimp only at hd hok hTk hDr hstl
  have hcont : ∀ (stR : List Value), cv_relS sv as stk stR → len = 3 → ∀ (as' : List Nat) (ws' : va_W) (rv : Option Value) (H1 : Heap) (locs1 : List Loc), as <+: as' → cv_relS sv as' ov.1.toList rv.toList → cv_relH cy sv as' ov.2 ws' → va_P D cl ws' H1 → va_D A ws' → va_S A s.heap H1 locs1 → W p l e R s m args below meth c H1 locs1 (cN + (mt j).2.2.1) (sN + (mt j).2.2.2.1) Q (F0 m (pc + 3) ls (rv.toList ++ stR)) := by
    intro stR hR hl as' ws' rv H1 locs1 b1 b2 b3 b4 b5 b6
    subst hl
    exact k as' ws' H1 locs1 ls (rv.toList ++ stR) (has.trans b1) b3 b4 b5 b6 (cv_relL_up b1 hL) (cv_relS_app b2 (cv_relS_up b1 hR))
  have hpre : ∀ (vs : List Value) (U : State), U.heap = H → s.WarmedH U.vm → cv_Pre cl D cy A sv X ws vs vs.toArray U := by
    intro vs U hU hW
    exact ⟨rfl, by rw [hU]; exact hP, va_K.moved hW.alike hK, fun q hq => hA q (Nat.le_trans hS.1 (by rw [← hU]; exact hq)), cv_SF_call hSF0 hW hU hS⟩
  have hroom : (cv_rm (mt j)).frames + 1 ≤ R.frames ∧ 8 + ((mt j).1.2.2.2.1 + 11) + (cv_rm (mt j)).locals ≤ R.locals := ⟨Nat.le_trans f3 r3, Nat.le_trans f4 r4⟩
  have hcs : cN + (mt j).2.2.1 ≤ R.cells ∧ sN + (mt j).2.2.2.1 ≤ R.slots := ⟨by rw [r1]; exact f1, by rw [r2]; exact f2⟩
  cases ins <;> first | (cases hcall2; done) | skip
  case invokestatic i =>
    have hl3 : len = 3 := by simpa [cv_lenok, cv_len] using hlen
    cases hcall2
    obtain ⟨⟨o1, o2, o3, o4, o5⟩, o6, o7, o8⟩ := hok.2.2.2.2.2.2 h9
    have hMet := hM as ws (stv.take b).reverse (cv_relS_rev hTk) hH hD
    subst hl3
    rcases o8 with o8 | o8
    · have hG : GoodIn Ts (va_wsS M.1.1 i (mt j).1.2.1 (cv_ws Ts (mt j))) := by
        intro w hw
        apply hin
        rcases List.mem_append.mp hw with hw | hw
        · simp only [List.mem_cons, List.not_mem_nil, or_false] at hw
          rcases hw with rfl | rfl | rfl
          · exact o8
          · exact o6
          · rw [o2]; exact o3
        · rcases List.mem_cons.mp hw with rfl | hw
          · exact o1
          · exact hw
      exact cv_go_ok (va_runS (As := (stv.take b).reverse) (rest := stv.drop b) ⟨hx, hb, hml, hown, hts⟩ hMet (va_cwS b hts hG rfl rfl rfl ⟨o5.1, o5.2, o7⟩ hroom) ⟨cv_blind, fun U hU hW => hpre _ U hU hW⟩ rfl hn hls hsplit (lv_room (by rw [cv_wid_ok hsv hDr]; exact f5)) hd hcs) hS (hcont _ hDr rfl)
    · have hG : GoodIn Ts (cv_ws Ts (mt j)) := by
        intro w hw
        apply hin
        rcases List.mem_cons.mp hw with rfl | hw
        · exact o1
        · exact hw
      have hN := hnest.1 _ o8
      exact cv_go_ok (va_runSN (As := (stv.take b).reverse) (rest := stv.drop b) (host := RX11) ⟨hx, hb, hml, hown, hts⟩ hMet ⟨va_cnB b hts hG rfl rfl rfl hN (hts _ (by rw [o2]; exact o3)) ⟨o5.1, o5.2, o7⟩ hroom, hts _ o6, trivial⟩ ⟨cv_blind, fun U hU hW => hpre _ U hU hW⟩ rfl hn hls hsplit (lv_room (by rw [cv_wid_ok hsv hDr]; exact f5)) hd hcs) hS (hcont _ hDr rfl)
  case invokespecial i =>
    have hl3 : len = 3 := by simpa [cv_lenok, cv_len] using hlen
    dsimp only at hcall2
    split at hcall2
    · rename_i kx rest hst0
      cases hcall2
      obtain ⟨⟨o1, o2, o3, o4, o5⟩, o6, o7, o8, o9, o10⟩ := hok.2 h9
      rw [hst0] at hDr
      obtain ⟨_, stR, hstR, ⟨ad, had, rfl⟩, hR⟩ := cv_relS_cons hDr
      have hMet := hM as ws (.ref ad :: (stv.take b).reverse) ⟨⟨ad, had, rfl⟩, cv_relS_rev hTk⟩ hH hD
      have hG : GoodIn Ts (cv_ws Ts (mt j)) := by
        intro w hw
        apply hin
        rcases List.mem_cons.mp hw with rfl | hw
        · exact o1
        · exact hw
      subst hl3
      have hw : cv_ws Ts (mt j) = Cond.code (mt j).1.2.1 (mt j).1.2.2.1 (mt j).1.2.2.2.1 none :: Ts := by unfold cv_ws; rw [o7]
      rcases o10 with o10 | o10
      · exact cv_go_ok (va_runI (As := (stv.take b).reverse) (rest := stR) ⟨hx, hb, hml, hown, hts⟩ hMet (cwI b hts hG hw rfl rfl (hts _ (by rw [o2]; exact o3)) (hts _ o10) (hts _ o8) o6 ⟨o5.1, o5.2, o9⟩ hroom) ⟨cv_blind, fun U hU hW => hpre _ U hU hW⟩ rfl hn hls (by rw [← hstR]; exact hsplit) (lv_room (by rw [cv_wid_ok hsv hR]; exact f5)) hd hcs) hS (hcont _ hR rfl)
      · have hN := hnest.1 _ o10
        exact cv_go_ok (va_runIN (As := (stv.take b).reverse) (rest := stR) (host := RX11) ⟨hx, hb, hml, hown, hts⟩ hMet ⟨va_cnB b hts hG hw rfl rfl hN (hts _ (by rw [o2]; exact o3)) ⟨o5.1, o5.2, o9⟩ hroom, o6, hts _ o8⟩ ⟨cv_blind, fun U hU hW => hpre _ U hU hW⟩ rfl hn hls (by rw [← hstR]; exact hsplit) (lv_room (by rw [cv_wid_ok hsv hR]; exact f5)) hd hcs) hS (hcont _ hR rfl)
    · cases hcall2
  case invokevirtual i =>
    have hl3 : len = 3 := by simpa [cv_lenok, cv_len] using hlen
    dsimp only at hcall2
    obtain ⟨⟨o1, o2, o3, o4, o5⟩, o6, o7, o8, o9, o10⟩ := hok
    have hG : GoodIn Ts (wsV M.1.1 i (mt a).1.1 (mt a).1.2.1 (cv_ws Ts (mt a))) := by
      intro w hw
      apply hin
      rcases List.mem_append.mp hw with hw | hw
      · simp only [List.mem_cons, List.not_mem_nil, or_false] at hw
        rcases hw with rfl | rfl | rfl | rfl
        · exact o9
        · exact o6
        · exact o7
        · exact o3
      · rcases List.mem_cons.mp hw with rfl | hw
        · exact o1
        · exact hw
    split at hcall2
    · rename_i kx rest hst0
      split at hcall2
      · rename_i ci fs hk
        obtain ⟨hci, hcall3⟩ := cv_bif hcall2
        cases hcall3
        simp only [beq_iff_eq] at hci
        rw [hst0] at hDr
        obtain ⟨_, stR, hstR, ⟨ad, had, rfl⟩, hR⟩ := cv_relS_cons hDr
        have hMet := hM as ws (.ref ad :: (stv.take b).reverse) ⟨⟨ad, had, rfl⟩, cv_relS_rev hTk⟩ hH hD
        obtain ⟨ad', en, e1, e2, hE⟩ := hH.2.2 kx _ hk
        cases had.symm.trans e1
        obtain ⟨vs, rfl, -, -⟩ := hE
        subst hl3
        have hrec : ∃ (T : u_T) (N : Nat), cl[ci]? = some ((mt j).1.1, T, N) ∨ (ci = 100 ∧ (mt j).1.1 = "java/lang/String") := by
          rcases o10 with ⟨w1, w2⟩ | ⟨T, N, w⟩
          · exact ⟨fun _ => ("", "", "", false), 0, .inr ⟨hci.trans w1, w2⟩⟩
          · exact ⟨T, N, .inl (by rw [hci]; exact w)⟩
        obtain ⟨T, N, hrec | ⟨w1, w2⟩⟩ := hrec
        · exact cv_go_ok (va_runV (As := (stv.take b).reverse) (rest := stR) (C := (mt j).1.1) ⟨hx, hb, hml, hown, hts⟩ hMet (cwV b hts hG rfl rfl rfl ⟨o2, o5.1, o5.2, o8⟩ hroom) ⟨cv_blind, va_recv hK hP hrec e2, fun U hU hW => hpre _ U hU hW⟩ rfl hn hls (by rw [← hstR]; exact hsplit) (lv_room (by rw [cv_wid_ok hsv hR]; exact f5)) hd hcs) hS (hcont _ hR rfl)
        · obtain ⟨r, rr1, -⟩ := hP kx _ e2
          have := (List.getElem?_eq_some_iff.mp rr1).1
          dsimp only at this
          omega
      · cases hcall2
    · rename_i rest hst0
      obtain ⟨hci, hcall3⟩ := cv_bif hcall2
      cases hcall3
      simp only [beq_iff_eq] at hci
      rw [hst0] at hDr
      obtain ⟨x, stR, hstR, hxx, hR⟩ := cv_relS_cons hDr
      have hx0 : x = .ref q0 := (show x = sv 0 from hxx).trans a1
      subst hx0
      have hMet := hM as ws (.ref q0 :: (stv.take b).reverse) ⟨hxx, cv_relS_rev hTk⟩ hH hD
      subst hl3
      have hC : (mt j).1.1 = "java/lang/String" ∨ ∃ (T : u_T) (N : Nat), cl[100]? = some ((mt j).1.1, T, N) := by
        rcases o10 with ⟨_, w2⟩ | ⟨T, N, w⟩
        · exact .inl w2
        · exact .inr ⟨T, N, by rw [← hci]; exact w⟩
      rcases hC with hC | ⟨T, N, w⟩
      · exact cv_go_ok (va_runV (As := (stv.take b).reverse) (rest := stR) (C := (mt j).1.1) ⟨hx, hb, hml, hown, hts⟩ hMet (cwV b hts hG rfl rfl rfl ⟨o2, o5.1, o5.2, o8⟩ hroom) ⟨cv_blind, by rw [hC]; exact va_Orecv a4 hS, fun U hU hW => hpre _ U hU hW⟩ rfl hn hls (by rw [← hstR]; exact hsplit) (lv_room (by rw [cv_wid_ok hsv hR]; exact f5)) hd hcs) hS (hcont _ hR rfl)
      · have := (List.getElem?_eq_some_iff.mp w).1
        omega
    · cases hcall2
end CVR
end
section
/-! ===== what the small machine does the machine does ===== -/
section CVR
variable {Ts : List Jvm.Cond} {cl : List vw_C} {D : va_G} {cy : Nat → ClassId} {A : Nat → Prop} {sv : Nat → Value} {l : Launch} {mt : Nat → cv_M} {F : cv_F}
theorem cv_byte {x : Int32} (h : x.toInt8.toInt32 = x) : narrow .byte (.int x) = .int x := by
  show Value.int _ = _
  rw [h]
theorem cv_bool {x : Int32} (h : x = 0 ∨ x = 1) : narrow .boolean (.int x) = .int x := by
  rcases h with rfl | rfl
  · rfl
  · rfl
theorem cv_ret_ok {X : cv_X} {M : cv_M} {p : Program} {e : Env} {R : Room} {s : State} {m : MethodId} {args : Array Value} {below : List Frame} {meth : Method} {c : Code} {as0 : List Nat} {ov : cv_O} {q : cv_Q} {S : cv_S} {r : Option cv_V} (C0 : cv_Cx Ts cl D cy A sv X M p R s m args meth c) (ok : cv_ok Ts cl mt M q) (hq : q.1 = S.1) (h : cv_ret M q S = some r) (hm : (r, S.2.2.2.1) = ov) :
    cv_Good cl D cy A sv as0 M.1.2.2.2.1 p l e R s m args below meth c (MQ below (cv_Qc cl D cy A sv as0 ov) args s M.2.2.1 M.2.2.2.1 A) S := by
  obtain ⟨pc, ins, len, a, b, z⟩ := q
  obtain ⟨pc', L, st, hp, cN, sN⟩ := S
  dsimp only at hq hm
  subst hq
  obtain ⟨hx, hb, hml, hown, hts, hr, hlk, hnm, hK, hA, hSF, r1, r2, r3, r4⟩ := C0
  obtain ⟨hd, hlen, -⟩ := ok
  unfold cv_ret at h
  obtain ⟨hc, h1⟩ := cv_bif h
  clear h
  simp only [Bool.and_eq_true, decide_eq_true_eq] at hc
  intro as ws H locs ls stv has hH hP hD hS hL hst
  refine W.widen hc.1 hc.2 ?_
  have hqc : ∀ (rv : Option Value), cv_relS sv as r.toList rv.toList → ∀ t : State, t.heap = H → s.WarmedH t.vm → cv_Qc cl D cy A sv as0 ov args s (.returned rv) t := by
    intro rv hrv t ht _
    subst hm
    exact ⟨⟨as, ws, rv, rfl, has, hrv, hH, by rw [ht]; exact hP, hD⟩, hS.F ht⟩
  dsimp only at h1 hd hst ⊢
  split at h1
  · rename_i u hret
    cases h1
    have : len = 1 := by simpa [cv_lenok, cv_len] using hlen
    subst this
    obtain ⟨_, stv1, rfl, hn, hst1⟩ := cv_relS_cons hst
    cases hn
    have := cv_relS_nil hst1
    subst this
    exact W.iret hx hb (hr.trans hret) (hqc (some (.int u)) ⟨rfl, trivial⟩) hS.2.2 hd hlk
  · rename_i u hret
    obtain ⟨hf, h2⟩ := cv_bif h1
    cases h2
    have : len = 1 := by simpa [cv_lenok, cv_len] using hlen
    subst this
    obtain ⟨_, stv1, rfl, hn, hst1⟩ := cv_relS_cons hst
    cases hn
    have := cv_relS_nil hst1
    subst this
    exact W.zret hx hb (hr.trans hret) (cv_bool (by simpa using hf)) (hqc (some (.int u)) ⟨rfl, trivial⟩) hS.2.2 hd hlk
  · rename_i u hret
    obtain ⟨hf, h2⟩ := cv_bif h1
    cases h2
    have : len = 1 := by simpa [cv_lenok, cv_len] using hlen
    subst this
    obtain ⟨_, stv1, rfl, hn, hst1⟩ := cv_relS_cons hst
    cases hn
    have := cv_relS_nil hst1
    subst this
    exact W.zret hx hb (hr.trans hret) (cv_byte (by simpa using hf)) (hqc (some (.int u)) ⟨rfl, trivial⟩) hS.2.2 hd hlk
  · rename_i u hret
    obtain ⟨hf, h2⟩ := cv_bif h1
    cases h2
    have : len = 1 := by simpa [cv_lenok, cv_len] using hlen
    subst this
    obtain ⟨_, stv1, rfl, hn, hst1⟩ := cv_relS_cons hst
    cases hn
    have := cv_relS_nil hst1
    subst this
    simp only [Bool.and_eq_true, decide_eq_true_eq] at hf
    have hj : u = nI u.toInt.toNat := by
      rw [← Int32.toInt_inj]
      show u.toInt = (Int32.ofNat u.toInt.toNat).toInt
      rw [Int32.toInt_ofNat', show (Int32.size : Nat) = 4294967296 from rfl]
      have h0 := hf.1
      have h1 := hf.2
      rw [Int.bmod_eq_of_le (by omega) (by omega)]
      omega
    have hnar : narrow .char (.int u) = .int u := by
      rw [hj]
      exact (pk_charN (by omega)).1
    exact W.zret hx hb (hr.trans hret) hnar (hqc (some (.int u)) ⟨rfl, trivial⟩) hS.2.2 hd hlk
  · rename_i u hret
    cases h1
    have : len = 1 := by simpa [cv_lenok, cv_len] using hlen
    subst this
    obtain ⟨_, stv1, rfl, hn, hst1⟩ := cv_relS_cons hst
    cases hn
    have := cv_relS_nil hst1
    subst this
    exact W.lret hx hb (hr.trans hret) (hqc (some (.long u)) ⟨rfl, trivial⟩) hS.2.2 hd hlk
  · rename_i hret
    cases h1
    have : len = 1 := by simpa [cv_lenok, cv_len] using hlen
    subst this
    have := cv_relS_nil hst
    subst this
    exact W.vret hx hb (hr.trans hret) (hqc none trivial) hS.2.2 hd hlk
  · cases h1
theorem cv_met_ok {X : cv_X} {M : cv_M} {av : List cv_V} {h : cv_H} {ov : cv_O} (hsv : ∀ j, sv j = .null ∨ ∃ a, sv j = .ref a) (hM : cv_okM Ts M) (hlen : cv_wid av ≤ M.1.2.2.2.1)
    (run : ∀ (as0 : List Nat) (p : Program) (e : Env) (R : Room) (s : State) (m : MethodId) (args : Array Value) (below : List Frame) (meth : Method) (c : Code), cv_Cx Ts cl D cy A sv (cv_no2 X) M p R s m args meth c →
      cv_Good cl D cy A sv as0 M.1.2.2.2.1 p l e R s m args below meth c (MQ below (cv_Qc cl D cy A sv as0 ov) args s M.2.2.1 M.2.2.2.1 A) (0, cv_ent 0 av, [], h, 0, 0)) : cv_Met Ts cl D cy A sv l X M av h ov := by
  intro as ws vs hvs hH hD
  obtain ⟨o1, o2, o3, o4, o5⟩ := hM
  refine Met.ofW (cc := M.1.2.2.1) (maxL := M.1.2.2.2.1) (ret := M.1.2.2.2.2) o4 rfl ?_
  intro p e s m args below meth c s₁ B hml hv
  obtain ⟨rfl, hP, hK, hA, hSF⟩ := hv
  have hts0 := atoms_spec (ws := cv_ws Ts M) B.pre
  have hown : s.vm.findClass M.1.2.1.cls = some m.cls := findClass_of_methodNamed B.named
  have C0 : cv_Cx Ts cl D cy A sv (cv_no2 X) M p (headSpec (cv_ws Ts M) (cv_rm M)).room s m vs.toArray meth c :=
    ⟨B.exec, B.bytes, hml, by rw [← o2]; exact hown, fun w hw => hts0 w (List.mem_cons_of_mem _ hw), B.returns, B.notSynchronized, (name_of_methodNamed B.named B.method).1, hK, hA, hSF, rfl, rfl, Nat.le_refl _, Nat.le_refl _⟩
  obtain ⟨g1, g2⟩ := cv_ent_ok hsv 0 hvs
  have hl := lv_entry vs (n := M.1.2.2.2.1) (by omega)
  rw [lg_entry_eq]
  exact run as p e _ s m vs.toArray below meth c C0 as ws s.heap [] _ [] (List.prefix_refl _) hH hP hD va_S.rf ⟨_, hl, g1⟩ trivial
theorem cv_callj {q : cv_Q} {S : cv_S} {j : Nat} {av stk : List cv_V} (h : cv_call q S = some (j, av, stk)) : j = q.2.2.2.1 := by
  obtain ⟨pc, ins, len, a, b, z⟩ := q
  unfold cv_call at h
  dsimp only at h
  obtain ⟨hc, h2⟩ := cv_bif h
  clear h
  cases ins <;> first | (cases h2; done) | skip
  case invokestatic i => cases h2; rfl
  case invokevirtual i =>
    dsimp only at h2
    split at h2
    · split at h2
      · obtain ⟨-, h3⟩ := cv_bif h2
        cases h3
        rfl
      · cases h2
    · obtain ⟨-, h3⟩ := cv_bif h2
      cases h3
      rfl
    · cases h2
  case invokespecial i =>
    dsimp only at h2
    split at h2
    · cases h2
      rfl
    · cases h2
theorem cv_call_okM {M : cv_M} {q : cv_Q} {S : cv_S} {j : Nat} {av stk : List cv_V} (ok : cv_ok Ts cl mt M q) (h9 : q.2.2.2.1 < 9000) (h : cv_call q S = some (j, av, stk)) : cv_okM Ts (mt j) := by
  have hj := cv_callj h
  subst hj
  obtain ⟨pc, ins, len, a, b, z⟩ := q
  obtain ⟨-, -, hok⟩ := ok
  unfold cv_call at h
  dsimp only at h hok h9 ⊢
  obtain ⟨hc, h2⟩ := cv_bif h
  clear h
  cases ins <;> first | (cases h2; done) | skip
  case invokestatic i => exact (hok.2.2.2.2.2.2 h9).1
  case invokevirtual i => exact hok.1
  case invokespecial i => exact (hok.2 h9).1
/-- all that the machine's context gives -/
def cv_All (Ts : List Jvm.Cond) (cl : List vw_C) (F : cv_F) (mt : Nat → cv_M) : Prop := GoodIn Ts Ts ∧ cv_cls Ts cl F ∧ (∃ T N, cl[1]? = some ("SagGates$Gate", T, N)) ∧ (∃ T N, cl[7]? = some ("SagGates$Told", T, N)) ∧ cl.length ≤ 100 ∧ (∀ j, 9000 ≤ j → (mt j).2.1 = []) ∧ ∀ mi, ∀ q ∈ (mt mi).2.1, cv_ok Ts cl mt (mt mi) q
theorem cv_op_ok {M : cv_M} {pc : Nat} {q : cv_Q} (h : cv_op M pc = some q) : q.1 = pc ∧ q ∈ M.2.1 := by
  unfold cv_op at h
  exact ⟨by simpa using List.find?_some h, List.mem_of_find?_eq_some h⟩
theorem cv_run_ok (hA : cv_All Ts cl F mt) :
    ∀ (fuel : Nat) (X : cv_X) (mi : Nat) (S : cv_S) (o : cv_O), cv_run F mt fuel X mi S = some o →
      ∀ (as0 : List Nat) (p : Program) (e : Env) (R : Room) (s : State) (m : MethodId) (args : Array Value) (below : List Frame) (meth : Method) (c : Code) (Q : State → Prop), cv_Cx Ts cl D cy A sv X (mt mi) p R s m args meth c →
        (∀ (q : cv_Q) (S : cv_S) (r : Option cv_V), cv_ok Ts cl mt (mt mi) q → q.1 = S.1 → cv_ret (mt mi) q S = some r → (r, S.2.2.2.1) = o → cv_Good cl D cy A sv as0 (mt mi).1.2.2.2.1 p l e R s m args below meth c Q S) →
        cv_Good cl D cy A sv as0 (mt mi).1.2.2.2.1 p l e R s m args below meth c Q S := by
  obtain ⟨hgood, hcls, hcl4, hcl5, h100, h9, hall⟩ := hA
  intro fuel
  induction fuel with
  | zero => intro X mi S o h; cases h
  | succ n ih =>
    intro X mi S o h as0 p e R s m args below meth c Q C0 hret
    have hsv := C0.2.2.2.2.2.2.2.2.2.2.1.1
    have h' : (match cv_op (mt mi) S.1 with
      | none => none
      | some q =>
        match cv_one X q S with
        | some S' => cv_run F mt n X mi S'
        | none =>
        match cv_mk (mt mi).2.2.1 (mt mi).2.2.2.1 F q S with
        | some S' => cv_run F mt n X mi S'
        | none =>
        match cv_nat (mt mi) q S with
        | some S' => cv_run F mt n X mi S'
        | none =>
        match cv_call q S with
        | some (j, args, stk) =>
          bif cv_fits (mt mi) (mt j) S.2.2.2.2.1 S.2.2.2.2.2 (cv_wid args) stk then
            match cv_run F mt n (cv_no2 X) j (0, cv_ent 0 args, [], S.2.2.2.1, 0, 0) with
            | some o => cv_run F mt n X mi (S.1 + q.2.2.1, S.2.1, o.1.toList ++ stk, o.2, S.2.2.2.2.1 + (mt j).2.2.1, S.2.2.2.2.2 + (mt j).2.2.2.1)
            | none => none
          else none
        | none =>
        match cv_ret (mt mi) q S with
        | some r => some (r, S.2.2.2.1)
        | none => none) = some o := h
    clear h
    cases hop : cv_op (mt mi) S.1 with
    | none => rw [hop] at h'; cases h'
    | some q =>
    rw [hop] at h'
    dsimp only at h'
    obtain ⟨hq, hmem⟩ := cv_op_ok hop
    have okq := hall mi q hmem
    cases hone : cv_one X q S with
    | some S' =>
      rw [hone] at h'
      exact cv_one_ok C0 hcls hcl4 hcl5 h100 okq hq hone (ih X mi S' o h' as0 p e R s m args below meth c Q C0 hret)
    | none =>
    rw [hone] at h'
    dsimp only at h'
    cases hmk : cv_mk (mt mi).2.2.1 (mt mi).2.2.2.1 F q S with
    | some S' =>
      rw [hmk] at h'
      exact cv_mk_ok C0 hcls okq hq hmk (ih X mi S' o h' as0 p e R s m args below meth c Q C0 hret)
    | none =>
    rw [hmk] at h'
    dsimp only at h'
    cases hnat : cv_nat (mt mi) q S with
    | some S' =>
      rw [hnat] at h'
      exact cv_nat_ok C0 okq hq hnat (ih X mi S' o h' as0 p e R s m args below meth c Q C0 hret)
    | none =>
    rw [hnat] at h'
    dsimp only at h'
    cases hcall : cv_call q S with
    | some jas =>
      obtain ⟨j, av, stk⟩ := jas
      rw [hcall] at h'
      dsimp only at h'
      obtain ⟨hfits, h2⟩ := cv_bif h'
      cases hrun : cv_run F mt n (cv_no2 X) j (0, cv_ent 0 av, [], S.2.2.2.1, 0, 0) with
      | none => rw [hrun] at h2; cases h2
      | some o' =>
        rw [hrun] at h2
        dsimp only at h2
        have hn9 : q.2.2.2.1 < 9000 := by
          have hj := cv_callj hcall
          rcases Nat.lt_or_ge q.2.2.2.1 9000 with q9 | q9
          · exact q9
          · have e0 := h9 j (by omega)
            cases n with
            | zero => cases hrun
            | succ n =>
              have hop0 : cv_op (mt j) 0 = none := by unfold cv_op; rw [e0]; rfl
              have hr2 : (match cv_op (mt j) 0 with
                | none => none
                | some q => _) = some o' := hrun
              rw [hop0] at hr2
              cases hr2
        have hMet : cv_Met Ts cl D cy A sv l X (mt j) av S.2.2.2.1 o' := by
          refine cv_met_ok hsv (cv_call_okM okq hn9 hcall) ?_ ?_
          · unfold cv_fits at hfits
            simp only [Bool.and_eq_true, decide_eq_true_eq] at hfits
            exact hfits.1
          · intro as1 p1 e1 R1 s1 m1 args1 below1 meth1 c1 C1
            exact ih (cv_no2 X) j _ o' hrun as1 p1 e1 R1 s1 m1 args1 below1 meth1 c1 _ C1 fun q3 S3 r3 a1 a2 a3 a4 => cv_ret_ok C1 a1 a2 a3 a4
        refine cv_call_ok C0 hgood h100 okq hq hn9 hcall hfits hMet ?_
        exact ih X mi _ o h2 as0 p e R s m args below meth c Q C0 hret
    | none =>
    rw [hcall] at h'
    dsimp only at h'
    cases hr : cv_ret (mt mi) q S with
    | none => rw [hr] at h'; cases h'
    | some r =>
      rw [hr] at h'
      cases h'
      exact hret q S r okq hq hr rfl
end CVR
end
