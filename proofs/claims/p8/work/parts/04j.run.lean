/-! ===== what the small machine does the machine does ===== -/
section CVR
variable {Ts : List Jvm.Cond} {cl : List vw_C} {D : va_G} {cy : Nat → ClassId} {A : Nat → Prop} {sv : Nat → Value} {l : Launch} {mt : Nat → cv_M} {F : cv_F}
theorem cv_byte {x : Int32} (h : x.toInt8.toInt32 = x) : narrow .byte (.int x) = .int x := by
  show Value.int _ = _
  rw [h]
theorem cv_bool {x : Int32} (h : x = 0 ∨ x = 1) : narrow .boolean (.int x) = .int x := by
  rcases h with rfl | rfl
  · rfl
  · rfl
theorem cv_ret_ok {X : cv_X} {M : cv_M} {p : Program} {e : Env} {R : Room} {s : State} {m : MethodId} {args : Array Value} {below : List Frame} {meth : Method} {c : Code} {as0 : List Nat} {ov : cv_O} {q : cv_Q} {S : cv_S} {r : Option cv_V} (C0 : cv_Cx Ts cl D cy A sv X M p R s m args meth c) (ok : cv_ok Ts cl mt M q) (hq : q.1 = S.1) (h : cv_ret M q S = some r) (hm : (r, S.2.2.2.1) = ov) :
    cv_Good cl D cy A sv as0 M.1.2.2.2.1 p l e R s m args below meth c (MQ below (cv_Qc cl D cy A sv as0 ov) args s M.2.2.1 M.2.2.2.1 A) S := by
  obtain ⟨pc, ins, len, a, b, z⟩ := q
  obtain ⟨pc', L, st, hp, cN, sN⟩ := S
  dsimp only at hq hm
  subst hq
  obtain ⟨hx, hb, hml, hown, hts, hr, hlk, hnm, hK, hA, hSF, r1, r2, r3, r4⟩ := C0
  obtain ⟨hd, hlen, -⟩ := ok
  unfold cv_ret at h
  obtain ⟨hc, h1⟩ := cv_bif h
  clear h
  simp only [Bool.and_eq_true, decide_eq_true_eq] at hc
  intro as ws H locs ls stv has hH hP hD hS hL hst
  refine W.widen hc.1 hc.2 ?_
  have hqc : ∀ (rv : Option Value), cv_relS sv as r.toList rv.toList → ∀ t : State, t.heap = H → s.WarmedH t.vm → cv_Qc cl D cy A sv as0 ov args s (.returned rv) t := by
    intro rv hrv t ht _
    subst hm
    exact ⟨⟨as, ws, rv, rfl, has, hrv, hH, by rw [ht]; exact hP, hD⟩, hS.F ht⟩
  dsimp only at h1 hd hst ⊢
  split at h1
  · rename_i u hret
    cases h1
    have : len = 1 := by simpa [cv_lenok, cv_len] using hlen
    subst this
    obtain ⟨_, stv1, rfl, hn, hst1⟩ := cv_relS_cons hst
    cases hn
    have := cv_relS_nil hst1
    subst this
    exact W.iret hx hb (hr.trans hret) (hqc (some (.int u)) ⟨rfl, trivial⟩) hS.2.2 hd hlk
  · rename_i u hret
    obtain ⟨hf, h2⟩ := cv_bif h1
    cases h2
    have : len = 1 := by simpa [cv_lenok, cv_len] using hlen
    subst this
    obtain ⟨_, stv1, rfl, hn, hst1⟩ := cv_relS_cons hst
    cases hn
    have := cv_relS_nil hst1
    subst this
    exact W.zret hx hb (hr.trans hret) (cv_bool (by simpa using hf)) (hqc (some (.int u)) ⟨rfl, trivial⟩) hS.2.2 hd hlk
  · rename_i u hret
    obtain ⟨hf, h2⟩ := cv_bif h1
    cases h2
    have : len = 1 := by simpa [cv_lenok, cv_len] using hlen
    subst this
    obtain ⟨_, stv1, rfl, hn, hst1⟩ := cv_relS_cons hst
    cases hn
    have := cv_relS_nil hst1
    subst this
    exact W.zret hx hb (hr.trans hret) (cv_byte (by simpa using hf)) (hqc (some (.int u)) ⟨rfl, trivial⟩) hS.2.2 hd hlk
  · rename_i u hret
    obtain ⟨hf, h2⟩ := cv_bif h1
    cases h2
    have : len = 1 := by simpa [cv_lenok, cv_len] using hlen
    subst this
    obtain ⟨_, stv1, rfl, hn, hst1⟩ := cv_relS_cons hst
    cases hn
    have := cv_relS_nil hst1
    subst this
    simp only [Bool.and_eq_true, decide_eq_true_eq] at hf
    have hj : u = nI u.toInt.toNat := by
      rw [← Int32.toInt_inj]
      show u.toInt = (Int32.ofNat u.toInt.toNat).toInt
      rw [Int32.toInt_ofNat', show (Int32.size : Nat) = 4294967296 from rfl]
      have h0 := hf.1
      have h1 := hf.2
      rw [Int.bmod_eq_of_le (by omega) (by omega)]
      omega
    have hnar : narrow .char (.int u) = .int u := by
      rw [hj]
      exact (pk_charN (by omega)).1
    exact W.zret hx hb (hr.trans hret) hnar (hqc (some (.int u)) ⟨rfl, trivial⟩) hS.2.2 hd hlk
  · rename_i u hret
    cases h1
    have : len = 1 := by simpa [cv_lenok, cv_len] using hlen
    subst this
    obtain ⟨_, stv1, rfl, hn, hst1⟩ := cv_relS_cons hst
    cases hn
    have := cv_relS_nil hst1
    subst this
    exact W.lret hx hb (hr.trans hret) (hqc (some (.long u)) ⟨rfl, trivial⟩) hS.2.2 hd hlk
  · rename_i hret
    cases h1
    have : len = 1 := by simpa [cv_lenok, cv_len] using hlen
    subst this
    have := cv_relS_nil hst
    subst this
    exact W.vret hx hb (hr.trans hret) (hqc none trivial) hS.2.2 hd hlk
  · cases h1
theorem cv_met_ok {X : cv_X} {M : cv_M} {av : List cv_V} {h : cv_H} {ov : cv_O} (hsv : ∀ j, sv j = .null ∨ ∃ a, sv j = .ref a) (hM : cv_okM Ts M) (hlen : cv_wid av ≤ M.1.2.2.2.1)
    (run : ∀ (as0 : List Nat) (p : Program) (e : Env) (R : Room) (s : State) (m : MethodId) (args : Array Value) (below : List Frame) (meth : Method) (c : Code), cv_Cx Ts cl D cy A sv (cv_no2 X) M p R s m args meth c →
      cv_Good cl D cy A sv as0 M.1.2.2.2.1 p l e R s m args below meth c (MQ below (cv_Qc cl D cy A sv as0 ov) args s M.2.2.1 M.2.2.2.1 A) (0, cv_ent 0 av, [], h, 0, 0)) : cv_Met Ts cl D cy A sv l X M av h ov := by
  intro as ws vs hvs hH hD
  obtain ⟨o1, o2, o3, o4, o5⟩ := hM
  refine Met.ofW (cc := M.1.2.2.1) (maxL := M.1.2.2.2.1) (ret := M.1.2.2.2.2) o4 rfl ?_
  intro p e s m args below meth c s₁ B hml hv
  obtain ⟨rfl, hP, hK, hA, hSF⟩ := hv
  have hts0 := atoms_spec (ws := cv_ws Ts M) B.pre
  have hown : s.vm.findClass M.1.2.1.cls = some m.cls := findClass_of_methodNamed B.named
  have C0 : cv_Cx Ts cl D cy A sv (cv_no2 X) M p (headSpec (cv_ws Ts M) (cv_rm M)).room s m vs.toArray meth c :=
    ⟨B.exec, B.bytes, hml, by rw [← o2]; exact hown, fun w hw => hts0 w (List.mem_cons_of_mem _ hw), B.returns, B.notSynchronized, (name_of_methodNamed B.named B.method).1, hK, hA, hSF, rfl, rfl, Nat.le_refl _, Nat.le_refl _⟩
  obtain ⟨g1, g2⟩ := cv_ent_ok hsv 0 hvs
  have hl := lv_entry vs (n := M.1.2.2.2.1) (by omega)
  rw [lg_entry_eq]
  exact run as p e _ s m vs.toArray below meth c C0 as ws s.heap [] _ [] (List.prefix_refl _) hH hP hD va_S.rf ⟨_, hl, g1⟩ trivial
theorem cv_callj {q : cv_Q} {S : cv_S} {j : Nat} {av stk : List cv_V} (h : cv_call q S = some (j, av, stk)) : j = q.2.2.2.1 := by
  obtain ⟨pc, ins, len, a, b, z⟩ := q
  unfold cv_call at h
  dsimp only at h
  obtain ⟨hc, h2⟩ := cv_bif h
  clear h
  cases ins <;> first | (cases h2; done) | skip
  case invokestatic i => cases h2; rfl
  case invokevirtual i =>
    dsimp only at h2
    split at h2
    · split at h2
      · obtain ⟨-, h3⟩ := cv_bif h2
        cases h3
        rfl
      · cases h2
    · obtain ⟨-, h3⟩ := cv_bif h2
      cases h3
      rfl
    · cases h2
  case invokespecial i =>
    dsimp only at h2
    split at h2
    · cases h2
      rfl
    · cases h2
theorem cv_call_okM {M : cv_M} {q : cv_Q} {S : cv_S} {j : Nat} {av stk : List cv_V} (ok : cv_ok Ts cl mt M q) (h9 : q.2.2.2.1 < 9000) (h : cv_call q S = some (j, av, stk)) : cv_okM Ts (mt j) := by
  have hj := cv_callj h
  subst hj
  obtain ⟨pc, ins, len, a, b, z⟩ := q
  obtain ⟨-, -, hok⟩ := ok
  unfold cv_call at h
  dsimp only at h hok h9 ⊢
  obtain ⟨hc, h2⟩ := cv_bif h
  clear h
  cases ins <;> first | (cases h2; done) | skip
  case invokestatic i => exact (hok.2.2.2.2.2.2 h9).1
  case invokevirtual i => exact hok.1
  case invokespecial i => exact (hok.2 h9).1
/-- all that the machine's context gives -/
def cv_All (Ts : List Jvm.Cond) (cl : List vw_C) (F : cv_F) (mt : Nat → cv_M) : Prop := GoodIn Ts Ts ∧ cv_cls Ts cl F ∧ (∃ T N, cl[1]? = some ("SagGates$Gate", T, N)) ∧ (∃ T N, cl[7]? = some ("SagGates$Told", T, N)) ∧ cl.length ≤ 100 ∧ (∀ j, 9000 ≤ j → (mt j).2.1 = []) ∧ ∀ mi, ∀ q ∈ (mt mi).2.1, cv_ok Ts cl mt (mt mi) q
theorem cv_op_ok {M : cv_M} {pc : Nat} {q : cv_Q} (h : cv_op M pc = some q) : q.1 = pc ∧ q ∈ M.2.1 := by
  unfold cv_op at h
  exact ⟨by simpa using List.find?_some h, List.mem_of_find?_eq_some h⟩
theorem cv_run_ok (hA : cv_All Ts cl F mt) :
    ∀ (fuel : Nat) (X : cv_X) (mi : Nat) (S : cv_S) (o : cv_O), cv_run F mt fuel X mi S = some o →
      ∀ (as0 : List Nat) (p : Program) (e : Env) (R : Room) (s : State) (m : MethodId) (args : Array Value) (below : List Frame) (meth : Method) (c : Code) (Q : State → Prop), cv_Cx Ts cl D cy A sv X (mt mi) p R s m args meth c →
        (∀ (q : cv_Q) (S : cv_S) (r : Option cv_V), cv_ok Ts cl mt (mt mi) q → q.1 = S.1 → cv_ret (mt mi) q S = some r → (r, S.2.2.2.1) = o → cv_Good cl D cy A sv as0 (mt mi).1.2.2.2.1 p l e R s m args below meth c Q S) →
        cv_Good cl D cy A sv as0 (mt mi).1.2.2.2.1 p l e R s m args below meth c Q S := by
  obtain ⟨hgood, hcls, hcl4, hcl5, h100, h9, hall⟩ := hA
  intro fuel
  induction fuel with
  | zero => intro X mi S o h; cases h
  | succ n ih =>
    intro X mi S o h as0 p e R s m args below meth c Q C0 hret
    have hsv := C0.2.2.2.2.2.2.2.2.2.2.1.1
    have h' : (match cv_op (mt mi) S.1 with
      | none => none
      | some q =>
        match cv_one X q S with
        | some S' => cv_run F mt n X mi S'
        | none =>
        match cv_mk (mt mi).2.2.1 (mt mi).2.2.2.1 F q S with
        | some S' => cv_run F mt n X mi S'
        | none =>
        match cv_nat (mt mi) q S with
        | some S' => cv_run F mt n X mi S'
        | none =>
        match cv_call q S with
        | some (j, args, stk) =>
          bif cv_fits (mt mi) (mt j) S.2.2.2.2.1 S.2.2.2.2.2 (cv_wid args) stk then
            match cv_run F mt n (cv_no2 X) j (0, cv_ent 0 args, [], S.2.2.2.1, 0, 0) with
            | some o => cv_run F mt n X mi (S.1 + q.2.2.1, S.2.1, o.1.toList ++ stk, o.2, S.2.2.2.2.1 + (mt j).2.2.1, S.2.2.2.2.2 + (mt j).2.2.2.1)
            | none => none
          else none
        | none =>
        match cv_ret (mt mi) q S with
        | some r => some (r, S.2.2.2.1)
        | none => none) = some o := h
    clear h
    cases hop : cv_op (mt mi) S.1 with
    | none => rw [hop] at h'; cases h'
    | some q =>
    rw [hop] at h'
    dsimp only at h'
    obtain ⟨hq, hmem⟩ := cv_op_ok hop
    have okq := hall mi q hmem
    cases hone : cv_one X q S with
    | some S' =>
      rw [hone] at h'
      exact cv_one_ok C0 hcls hcl4 hcl5 h100 okq hq hone (ih X mi S' o h' as0 p e R s m args below meth c Q C0 hret)
    | none =>
    rw [hone] at h'
    dsimp only at h'
    cases hmk : cv_mk (mt mi).2.2.1 (mt mi).2.2.2.1 F q S with
    | some S' =>
      rw [hmk] at h'
      exact cv_mk_ok C0 hcls okq hq hmk (ih X mi S' o h' as0 p e R s m args below meth c Q C0 hret)
    | none =>
    rw [hmk] at h'
    dsimp only at h'
    cases hnat : cv_nat (mt mi) q S with
    | some S' =>
      rw [hnat] at h'
      exact cv_nat_ok C0 okq hq hnat (ih X mi S' o h' as0 p e R s m args below meth c Q C0 hret)
    | none =>
    rw [hnat] at h'
    dsimp only at h'
    cases hcall : cv_call q S with
    | some jas =>
      obtain ⟨j, av, stk⟩ := jas
      rw [hcall] at h'
      dsimp only at h'
      obtain ⟨hfits, h2⟩ := cv_bif h'
      cases hrun : cv_run F mt n (cv_no2 X) j (0, cv_ent 0 av, [], S.2.2.2.1, 0, 0) with
      | none => rw [hrun] at h2; cases h2
      | some o' =>
        rw [hrun] at h2
        dsimp only at h2
        have hn9 : q.2.2.2.1 < 9000 := by
          have hj := cv_callj hcall
          rcases Nat.lt_or_ge q.2.2.2.1 9000 with q9 | q9
          · exact q9
          · have e0 := h9 j (by omega)
            cases n with
            | zero => cases hrun
            | succ n =>
              have hop0 : cv_op (mt j) 0 = none := by unfold cv_op; rw [e0]; rfl
              have hr2 : (match cv_op (mt j) 0 with
                | none => none
                | some q => _) = some o' := hrun
              rw [hop0] at hr2
              cases hr2
        have hMet : cv_Met Ts cl D cy A sv l X (mt j) av S.2.2.2.1 o' := by
          refine cv_met_ok hsv (cv_call_okM okq hn9 hcall) ?_ ?_
          · unfold cv_fits at hfits
            simp only [Bool.and_eq_true, decide_eq_true_eq] at hfits
            exact hfits.1
          · intro as1 p1 e1 R1 s1 m1 args1 below1 meth1 c1 C1
            exact ih (cv_no2 X) j _ o' hrun as1 p1 e1 R1 s1 m1 args1 below1 meth1 c1 _ C1 fun q3 S3 r3 a1 a2 a3 a4 => cv_ret_ok C1 a1 a2 a3 a4
        refine cv_call_ok C0 hgood h100 okq hq hn9 hcall hfits hMet ?_
        exact ih X mi _ o h2 as0 p e R s m args below meth c Q C0 hret
    | none =>
    rw [hcall] at h'
    dsimp only at h'
    cases hr : cv_ret (mt mi) q S with
    | none => rw [hr] at h'; cases h'
    | some r =>
      rw [hr] at h'
      cases h'
      exact hret q S r okq hq hr rfl
end CVR
