/-! ===== the evaluator is sound ===== -/
theorem av_all_mem {α β : Type} {f : α → Option (List β)} : ∀ {l : List α} {o : List β}, av_all f l = some o → ∀ x ∈ l, ∃ o', f x = some o' ∧ ∀ y ∈ o', y ∈ o := by
  intro l
  induction l with
  | nil => intro o _ x hx; cases hx
  | cons a l ih =>
    intro o h x hx
    unfold av_all at h
    cases h1 : f a with
    | none => rw [h1] at h; cases h
    | some o1 =>
      rw [h1] at h
      dsimp only at h
      cases h2 : av_all f l with
      | none => rw [h2] at h; cases h
      | some o2 =>
        rw [h2] at h
        cases h
        rcases List.mem_cons.mp hx with rfl | hx
        · exact ⟨o1, h1, fun y hy => List.mem_append_left _ hy⟩
        · obtain ⟨o', q1, q2⟩ := ih h2 x hx
          exact ⟨o', q1, fun y hy => List.mem_append_right _ (q2 y hy)⟩
theorem av_from_mem {pc : Nat} : ∀ {l : List av_Q} {q : av_Q}, q ∈ av_from pc l → q ∈ l := by
  intro l
  induction l with
  | nil => intro q h; exact h
  | cons a l ih =>
    intro q h
    unfold av_from at h
    cases hc : (a.1 == pc) with
    | true => rw [hc] at h; exact h
    | false => rw [hc] at h; exact List.mem_cons_of_mem _ (ih h)
section AVR
variable {Ts : List Jvm.Cond} {cl : List vw_C} {D : va_G} {cy : Nat → ClassId} {A : Nat → Prop} {sv : Nat → Value} {l : Launch} {mt : Nat → av_M} {F : av_F}
theorem av_ret_ok {X : av_X} {M : av_M} {p : Program} {e : Env} {R : Room} {s : State} {m : MethodId} {args : Array Value} {below : List Frame} {meth : Method} {c : Code} {as0 : List Nat} {outs : av_O} {q : av_Q} {S : av_S} {r : Option av_V} (C0 : av_Cx Ts cl D cy A sv X M p R s m args meth c) (ok : av_ok Ts cl mt M q) (hq : q.1 = S.1) (h : av_ret M q S = some r) (hm : (r, S.2.2.2.1) ∈ outs) :
    av_Good cl D cy A sv as0 M.1.2.2.2.1 p l e R s m args below meth c (MQ below (av_Qc cl D cy A sv as0 outs) args s M.2.2.1 M.2.2.2.1 A) S := by
  obtain ⟨pc, ins, len, a, b, z⟩ := q
  obtain ⟨pc', L, st, hp, cN, sN⟩ := S
  dsimp only at hq hm
  subst hq
  obtain ⟨hx, hb, hml, hown, hts, hr, hlk, hnm, hK, hA, hSF, r1, r2, r3, r4⟩ := C0
  obtain ⟨hd, hlen, -⟩ := ok
  unfold av_ret at h
  obtain ⟨hc, h1⟩ := av_bif h
  clear h
  simp only [Bool.and_eq_true, decide_eq_true_eq] at hc
  intro as ws H locs ls stv has hH hP hD hS hL hst
  refine W.widen hc.1 hc.2 ?_
  have hqc : ∀ (rv : Option Value), av_relS sv as r.toList rv.toList → ∀ t : State, t.heap = H → s.WarmedH t.vm → av_Qc cl D cy A sv as0 outs args s (.returned rv) t := by
    intro rv hrv t ht _
    exact ⟨⟨(r, hp), hm, as, ws, rv, rfl, has, hrv, hH, by rw [ht]; exact hP, hD⟩, hS.F ht⟩
  dsimp only at h1 hd hst ⊢
  split at h1
  · rename_i u hret
    cases h1
    have : len = 1 := by simpa [av_lenok, av_len] using hlen
    subst this
    obtain ⟨_, stv1, rfl, ⟨n, rfl, hn⟩, hst1⟩ := av_relS_cons hst
    have := av_relS_nil hst1
    subst this
    exact W.iret hx hb (hr.trans hret) (hqc (some (.int n)) ⟨⟨n, rfl, hn⟩, trivial⟩) hS.2.2 hd hlk
  · rename_i u hret
    obtain ⟨hf, h2⟩ := av_bif h1
    cases h2
    have : len = 1 := by simpa [av_lenok, av_len] using hlen
    subst this
    obtain ⟨_, stv1, rfl, ⟨n, rfl, hn⟩, hst1⟩ := av_relS_cons hst
    have := av_relS_nil hst1
    subst this
    exact W.zret hx hb (hr.trans hret) (av_fit_ok (ty := .boolean) (sv := sv) (as := as) hf ⟨n, rfl, hn⟩).1 (hqc (some (.int n)) ⟨⟨n, rfl, hn⟩, trivial⟩) hS.2.2 hd hlk
  · rename_i u hret
    obtain ⟨hf, h2⟩ := av_bif h1
    cases h2
    have : len = 1 := by simpa [av_lenok, av_len] using hlen
    subst this
    obtain ⟨_, stv1, rfl, ⟨n, rfl, hn⟩, hst1⟩ := av_relS_cons hst
    have := av_relS_nil hst1
    subst this
    exact W.zret hx hb (hr.trans hret) (av_fit_ok (ty := .byte) (sv := sv) (as := as) hf ⟨n, rfl, hn⟩).1 (hqc (some (.int n)) ⟨⟨n, rfl, hn⟩, trivial⟩) hS.2.2 hd hlk
  · rename_i u hret
    obtain ⟨hf, h2⟩ := av_bif h1
    cases h2
    have : len = 1 := by simpa [av_lenok, av_len] using hlen
    subst this
    obtain ⟨_, stv1, rfl, ⟨n, rfl, hn⟩, hst1⟩ := av_relS_cons hst
    have := av_relS_nil hst1
    subst this
    simp only [Bool.and_eq_true, decide_eq_true_eq] at hf
    obtain ⟨j, j1, j2, j3⟩ := av_nat (x := n) (by omega)
    have hnar : narrow .char (.int n) = .int n := by rw [j2]; exact (pk_charN (by omega)).1
    exact W.zret hx hb (hr.trans hret) hnar (hqc (some (.int n)) ⟨⟨n, rfl, hn⟩, trivial⟩) hS.2.2 hd hlk
  · rename_i u hret
    cases h1
    have : len = 1 := by simpa [av_lenok, av_len] using hlen
    subst this
    obtain ⟨_, stv1, rfl, ⟨n, rfl, hn⟩, hst1⟩ := av_relS_cons hst
    have := av_relS_nil hst1
    subst this
    exact W.lret hx hb (hr.trans hret) (hqc (some (.long n)) ⟨⟨n, rfl, hn⟩, trivial⟩) hS.2.2 hd hlk
  · rename_i hret
    cases h1
    have : len = 1 := by simpa [av_lenok, av_len] using hlen
    subst this
    have := av_relS_nil hst
    subst this
    exact W.vret hx hb (hr.trans hret) (hqc none trivial) hS.2.2 hd hlk
  · cases h1
theorem av_met_ok {X1 : List av_V} {M : av_M} {av : List av_V} {h : av_H} {outs : av_O} (hsv : ∀ j, sv j = .null ∨ ∃ a, sv j = .ref a) (hM : av_okM Ts M) (hall : av.all (fun v => !av_isL v) = true) (hlen : av.length ≤ M.1.2.2.2.1)
    (run : ∀ (as0 : List Nat) (p : Program) (e : Env) (R : Room) (s : State) (m : MethodId) (args : Array Value) (below : List Frame) (meth : Method) (c : Code), av_Cx Ts cl D cy A sv (X1, none) M p R s m args meth c →
      av_Good cl D cy A sv as0 M.1.2.2.2.1 p l e R s m args below meth c (MQ below (av_Qc cl D cy A sv as0 outs) args s M.2.2.1 M.2.2.2.1 A) (0, av_ent 0 av, [], h, 0, 0)) : av_Met Ts cl D cy A sv l X1 M av h outs := by
  intro as ws vs hvs hH hD
  obtain ⟨o1, o2, o3, o4, o5⟩ := hM
  refine Met.ofW (cc := M.1.2.2.1) (maxL := M.1.2.2.2.1) (ret := M.1.2.2.2.2) o4 rfl ?_
  intro p e s m args below meth c s₁ B hml hv
  obtain ⟨rfl, hP, hK, hA, hSF⟩ := hv
  have hts0 := atoms_spec (ws := av_ws Ts M) B.pre
  have hown : s.vm.findClass M.1.2.1.cls = some m.cls := findClass_of_methodNamed B.named
  have C0 : av_Cx Ts cl D cy A sv (X1, none) M p (headSpec (av_ws Ts M) (av_rm M)).room s m vs.toArray meth c :=
    ⟨B.exec, B.bytes, hml, by rw [← o2]; exact hown, fun w hw => hts0 w (List.mem_cons_of_mem _ hw), B.returns, B.notSynchronized, (name_of_methodNamed B.named B.method).1, hK, hA, hSF, rfl, rfl, Nat.le_refl _, Nat.le_refl _⟩
  obtain ⟨g1, g2⟩ := av_ent_ok hsv 0 hvs hall
  have hl := lv_entry vs (n := M.1.2.2.2.1) (by omega)
  rw [lg_entry_eq]
  exact run as p e _ s m vs.toArray below meth c C0 as ws s.heap [] _ [] (List.prefix_refl _) hH hP hD va_S.rf ⟨_, hl, g1⟩ trivial
theorem av_call_all {q : av_Q} {S : av_S} {j : Nat} {av stk : List av_V} (h : av_call q S = some (j, av, stk)) : av.all (fun v => !av_isL v) = true := by
  unfold av_call at h
  dsimp only at h
  obtain ⟨hc, h2⟩ := av_bif h
  simp only [Bool.and_eq_true, decide_eq_true_eq] at hc
  have hr : ((S.2.2.1.take q.2.2.2.2.1).reverse).all (fun v => !av_isL v) = true := by rw [List.all_reverse]; exact hc.2
  split at h2
  · cases h2; exact hr
  · split at h2
    · split at h2
      · obtain ⟨-, h3⟩ := av_bif h2
        cases h3
        simpa [av_isL] using hr
      · cases h2
    · obtain ⟨-, h3⟩ := av_bif h2
      cases h3
      simpa [av_isL] using hr
    · cases h2
  · split at h2
    · cases h2
      simpa [av_isL] using hr
    · cases h2
  · cases h2
theorem av_call_okM {M : av_M} {q : av_Q} {S : av_S} {j : Nat} {av stk : List av_V} (ok : av_ok Ts cl mt M q) (h9 : q.2.2.2.1 < 9000) (h : av_call q S = some (j, av, stk)) : av_okM Ts (mt j) := by
  obtain ⟨pc, ins, len, a, b, z⟩ := q
  obtain ⟨-, -, hok⟩ := ok
  unfold av_call at h
  dsimp only at h hok h9
  obtain ⟨hc, h2⟩ := av_bif h
  clear h
  cases ins <;> first | (cases h2; done) | skip
  case invokestatic i => cases h2; exact (hok.2.2 h9).1
  case invokevirtual i =>
    dsimp only at h2
    split at h2
    · split at h2
      · obtain ⟨-, h3⟩ := av_bif h2
        cases h3
        exact hok.1
      · cases h2
    · obtain ⟨-, h3⟩ := av_bif h2
      cases h3
      exact hok.1
    · cases h2
  case invokespecial i =>
    dsimp only at h2
    split at h2
    · cases h2
      exact (hok.2 h9).1
    · cases h2
theorem av_callj {q : av_Q} {S : av_S} {j : Nat} {av stk : List av_V} (h : av_call q S = some (j, av, stk)) : j = q.2.2.2.1 := by
  obtain ⟨pc, ins, len, a, b, z⟩ := q
  unfold av_call at h
  dsimp only at h
  obtain ⟨hc, h2⟩ := av_bif h
  clear h
  cases ins <;> first | (cases h2; done) | skip
  case invokestatic i => cases h2; rfl
  case invokevirtual i =>
    dsimp only at h2
    split at h2
    · split at h2
      · obtain ⟨-, h3⟩ := av_bif h2
        cases h3
        rfl
      · cases h2
    · obtain ⟨-, h3⟩ := av_bif h2
      cases h3
      rfl
    · cases h2
  case invokespecial i =>
    dsimp only at h2
    split at h2
    · cases h2
      rfl
    · cases h2
theorem av_run_ok (hgood : GoodIn Ts Ts) (hcls : av_cls Ts cl F) (hcl4 : ∃ T N, cl[1]? = some ("SagGates$Gate", T, N)) (hcl5 : ∃ T N, cl[7]? = some ("SagGates$Told", T, N)) (h100 : cl.length ≤ 100) (h9 : ∀ j, 9000 ≤ j → (mt j).2.1 = []) (hall : ∀ mi, ∀ q ∈ (mt mi).2.1, av_ok Ts cl mt (mt mi) q) :
    ∀ (fuel : Nat) (X : av_X) (mi : Nat) (sfx : List av_Q) (S : av_S) (outs : av_O), av_run F mt fuel X mi sfx S = some outs → (∀ q ∈ sfx, av_ok Ts cl mt (mt mi) q) →
      ∀ (as0 : List Nat) (p : Program) (e : Env) (R : Room) (s : State) (m : MethodId) (args : Array Value) (below : List Frame) (meth : Method) (c : Code) (Q : State → Prop), av_Cx Ts cl D cy A sv X (mt mi) p R s m args meth c →
        (∀ (q : av_Q) (S : av_S) (r : Option av_V), av_ok Ts cl mt (mt mi) q → q.1 = S.1 → av_ret (mt mi) q S = some r → (r, S.2.2.2.1) ∈ outs → av_Good cl D cy A sv as0 (mt mi).1.2.2.2.1 p l e R s m args below meth c Q S) →
        av_Good cl D cy A sv as0 (mt mi).1.2.2.2.1 p l e R s m args below meth c Q S := by
  intro fuel
  induction fuel with
  | zero => intro X mi sfx S outs h; cases h
  | succ n ih =>
    intro X mi sfx S outs h hok as0 p e R s m args below meth c Q C0 hret
    have hsv := C0.2.2.2.2.2.2.2.2.2.2.1.1
    cases sfx with
    | nil => cases h
    | cons q rest =>
      have h' : (bif q.1 == S.1 then
        match av_one X F q S with
        | some ss => av_all (fun S' => av_run F mt n X mi (bif S'.1 == S.1 + q.2.2.1 then rest else av_from S'.1 (mt mi).2.1) S') ss
        | none =>
        match av_mk (mt mi).2.2.1 (mt mi).2.2.2.1 F q S with
        | some S' => av_run F mt n X mi rest S'
        | none =>
        match av_obj (mt mi) q S with
        | some S' => av_run F mt n X mi rest S'
        | none =>
        match av_call q S with
        | some (j, args, stk) =>
          bif av_fits (mt mi) (mt j) S.2.2.2.2.1 S.2.2.2.2.2 args.length stk then
            match av_run F mt n (X.1, none) j (mt j).2.1 (0, av_ent 0 args, [], S.2.2.2.1, 0, 0) with
            | some outs => av_all (fun (o : Option av_V × av_H) => av_run F mt n X mi rest (S.1 + q.2.2.1, S.2.1, o.1.toList ++ stk, o.2, S.2.2.2.2.1 + (mt j).2.2.1, S.2.2.2.2.2 + (mt j).2.2.2.1)) outs
            | none => none
          else none
        | none =>
        match av_ret (mt mi) q S with
        | some r => some [(r, S.2.2.2.1)]
        | none => none
      else none) = some outs := h
      clear h
      obtain ⟨hq, h1⟩ := av_bif h'
      clear h'
      have hq : q.1 = S.1 := by simpa using hq
      have okq := hok q List.mem_cons_self
      have okr : ∀ q ∈ rest, av_ok Ts cl mt (mt mi) q := fun q' hq' => hok q' (List.mem_cons_of_mem _ hq')
      cases hone : av_one X F q S with
      | some ss =>
        rw [hone] at h1
        refine av_one_ok C0 hcls hcl4 hcl5 h100 okq hq hone fun S' hS' => ?_
        obtain ⟨o', q1, q2⟩ := av_all_mem h1 S' hS'
        refine ih X mi _ S' o' q1 ?_ as0 p e R s m args below meth c Q C0 fun q3 S3 r3 a1 a2 a3 a4 => hret q3 S3 r3 a1 a2 a3 (q2 _ a4)
        cases (S'.1 == S.1 + q.2.2.1) with
        | true => exact okr
        | false => exact fun q' hq' => hall mi q' (av_from_mem hq')
      | none =>
      rw [hone] at h1
      dsimp only at h1
      cases hmk : av_mk (mt mi).2.2.1 (mt mi).2.2.2.1 F q S with
      | some S' =>
        rw [hmk] at h1
        exact av_mk_ok C0 hcls okq hq hmk (ih X mi rest S' outs h1 okr as0 p e R s m args below meth c Q C0 hret)
      | none =>
      rw [hmk] at h1
      dsimp only at h1
      cases hobj : av_obj (mt mi) q S with
      | some S' =>
        rw [hobj] at h1
        have hg := ih X mi rest S' outs h1 okr as0 p e R s m args below meth c Q C0 hret
        obtain ⟨pc, ins, len, a, b, z⟩ := q
        obtain ⟨pc', L, st, hp, cN, sN⟩ := S
        dsimp only at hq
        subst hq
        unfold av_obj at hobj
        dsimp only at hobj
        cases ins <;> first | (cases hobj; done) | skip
        case invokespecial i =>
          dsimp only at hobj
          obtain ⟨ha, hobj2⟩ := av_bif hobj
          split at hobj2
          · rename_i kx st'
            obtain ⟨hc, hobj3⟩ := av_bif hobj2
            cases hobj3
            simp only [Bool.and_eq_true, decide_eq_true_eq] at hc
            exact av_obj_ok C0 okq (by simpa using ha) hc.1 hc.2 hg
          · cases hobj2
        case invokestatic i =>
          dsimp only at hobj
          obtain ⟨ha, hobj2⟩ := av_bif hobj
          split at hobj2
          · rename_i w u st'
            obtain ⟨hc, hobj3⟩ := av_bif hobj2
            cases hobj3
            simp only [Bool.and_eq_true, decide_eq_true_eq] at hc
            exact av_mm_ok C0 okq (by simpa using ha) hc.1 hc.2.1 hc.2.2.1 hc.2.2.2 hg
          · cases hobj2
      | none =>
      rw [hobj] at h1
      dsimp only at h1
      cases hcall : av_call q S with
      | some jas =>
        obtain ⟨j, av, stk⟩ := jas
        rw [hcall] at h1
        dsimp only at h1
        obtain ⟨hfits, h2⟩ := av_bif h1
        cases hrun : av_run F mt n (X.1, none) j (mt j).2.1 (0, av_ent 0 av, [], S.2.2.2.1, 0, 0) with
        | none => rw [hrun] at h2; cases h2
        | some outs' =>
          rw [hrun] at h2
          dsimp only at h2
          have hn9 : q.2.2.2.1 < 9000 := by
            have hj := av_callj hcall
            rcases Nat.lt_or_ge q.2.2.2.1 9000 with q9 | q9
            · exact q9
            · rw [h9 j (by omega)] at hrun
              cases n <;> cases hrun
          have hMet : av_Met Ts cl D cy A sv l X.1 (mt j) av S.2.2.2.1 outs' := by
            refine av_met_ok hsv (av_call_okM okq hn9 hcall) (av_call_all hcall) ?_ ?_
            · unfold av_fits at hfits
              simp only [Bool.and_eq_true, decide_eq_true_eq] at hfits
              exact hfits.1
            · intro as1 p1 e1 R1 s1 m1 args1 below1 meth1 c1 C1
              exact ih (X.1, none) j _ _ outs' hrun (hall j) as1 p1 e1 R1 s1 m1 args1 below1 meth1 c1 _ C1 fun q3 S3 r3 a1 a2 a3 a4 => av_ret_ok C1 a1 a2 a3 a4
          refine av_call_ok C0 hgood h100 okq hq hn9 hcall hfits hMet fun ov hov => ?_
          obtain ⟨o', q1, q2⟩ := av_all_mem h2 ov hov
          exact ih X mi rest _ o' q1 okr as0 p e R s m args below meth c Q C0 fun q3 S3 r3 a1 a2 a3 a4 => hret q3 S3 r3 a1 a2 a3 (q2 _ a4)
      | none =>
      rw [hcall] at h1
      dsimp only at h1
      cases hr : av_ret (mt mi) q S with
      | none => rw [hr] at h1; cases h1
      | some r =>
        rw [hr] at h1
        cases h1
        exact hret q S r okq hq hr (by simp)
end AVR
