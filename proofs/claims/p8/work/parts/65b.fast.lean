/-! ===== the small machine once more, with the rest of the method at hand: for long runs by decide ===== -/
def cv_from (pc : Nat) (ops : List cv_Q) : List cv_Q := ops.dropWhile (fun q => !(q.1 == pc))
theorem cv_from_mem {pc : Nat} {ops : List cv_Q} {q : cv_Q} (h : q ∈ cv_from pc ops) : q ∈ ops := (List.dropWhile_sublist _).subset h
noncomputable def cv_fst (F : cv_F) (mt : Nat → cv_M) (fuel : Nat) : cv_X → Nat → List cv_Q → cv_S → Option cv_O :=
  Nat.rec (motive := fun _ => cv_X → Nat → List cv_Q → cv_S → Option cv_O) (fun _ _ _ _ => none) (fun _ ih X mi sfx S =>
    match sfx with
    | [] => none
    | q :: rest =>
      bif q.1 == S.1 then
        match cv_one X q S with
        | some S' => ih X mi (bif S'.1 == S.1 + q.2.2.1 then rest else cv_from S'.1 (mt mi).2.1) S'
        | none =>
        match cv_mk (mt mi).2.2.1 (mt mi).2.2.2.1 F q S with
        | some S' => ih X mi rest S'
        | none =>
        match cv_nat (mt mi) q S with
        | some S' => ih X mi rest S'
        | none =>
        match cv_call q S with
        | some (j, args, stk) =>
          bif cv_fits (mt mi) (mt j) S.2.2.2.2.1 S.2.2.2.2.2 (cv_wid args) stk then
            match ih (fun j => bif j == 2 then none else X j) j (mt j).2.1 (0, cv_ent 0 args, [], S.2.2.2.1, 0, 0) with
            | some o => ih X mi rest (S.1 + q.2.2.1, S.2.1, o.1.toList ++ stk, o.2, S.2.2.2.2.1 + (mt j).2.2.1, S.2.2.2.2.2 + (mt j).2.2.2.1)
            | none => none
          else none
        | none =>
        match cv_ret (mt mi) q S with
        | some r => some (r, S.2.2.2.1)
        | none => none
      else none) fuel
section CVF
variable {Ts : List Jvm.Cond} {cl : List vw_C} {D : va_G} {cy : Nat → ClassId} {A : Nat → Prop} {sv : Nat → Value} {l : Launch} {mt : Nat → cv_M} {F : cv_F}
theorem cv_fst_ok (hA : cv_All Ts cl F mt) :
    ∀ (fuel : Nat) (X : cv_X) (mi : Nat) (sfx : List cv_Q) (S : cv_S) (o : cv_O), cv_fst F mt fuel X mi sfx S = some o → (∀ q ∈ sfx, q ∈ (mt mi).2.1) →
      ∀ (as0 : List Nat) (p : Program) (e : Env) (R : Room) (s : State) (m : MethodId) (args : Array Value) (below : List Frame) (meth : Method) (c : Code) (Q : State → Prop), cv_Cx Ts cl D cy A sv X (mt mi) p R s m args meth c →
        (∀ (q : cv_Q) (S : cv_S) (r : Option cv_V), cv_ok Ts cl mt (mt mi) q → q.1 = S.1 → cv_ret (mt mi) q S = some r → (r, S.2.2.2.1) = o → cv_Good cl D cy A sv as0 (mt mi).1.2.2.2.1 p l e R s m args below meth c Q S) →
        cv_Good cl D cy A sv as0 (mt mi).1.2.2.2.1 p l e R s m args below meth c Q S := by
  obtain ⟨hgood, hcls, hcl4, hcl5, h100, h9, hall⟩ := hA
  intro fuel
  induction fuel with
  | zero => intro X mi sfx S o h; cases h
  | succ n ih =>
    intro X mi sfx S o h hsub as0 p e R s m args below meth c Q C0 hret
    have hsv := C0.2.2.2.2.2.2.2.2.2.2.1.1
    cases sfx with
    | nil => cases h
    | cons q rest =>
    have h' : (bif q.1 == S.1 then
        match cv_one X q S with
        | some S' => cv_fst F mt n X mi (bif S'.1 == S.1 + q.2.2.1 then rest else cv_from S'.1 (mt mi).2.1) S'
        | none =>
        match cv_mk (mt mi).2.2.1 (mt mi).2.2.2.1 F q S with
        | some S' => cv_fst F mt n X mi rest S'
        | none =>
        match cv_nat (mt mi) q S with
        | some S' => cv_fst F mt n X mi rest S'
        | none =>
        match cv_call q S with
        | some (j, args, stk) =>
          bif cv_fits (mt mi) (mt j) S.2.2.2.2.1 S.2.2.2.2.2 (cv_wid args) stk then
            match cv_fst F mt n (cv_no2 X) j (mt j).2.1 (0, cv_ent 0 args, [], S.2.2.2.1, 0, 0) with
            | some o => cv_fst F mt n X mi rest (S.1 + q.2.2.1, S.2.1, o.1.toList ++ stk, o.2, S.2.2.2.2.1 + (mt j).2.2.1, S.2.2.2.2.2 + (mt j).2.2.2.1)
            | none => none
          else none
        | none =>
        match cv_ret (mt mi) q S with
        | some r => some (r, S.2.2.2.1)
        | none => none
      else none) = some o := h
    clear h
    obtain ⟨hq, h'⟩ := cv_bif h'
    have hq : q.1 = S.1 := by simpa using hq
    have okq := hall mi q (hsub q List.mem_cons_self)
    have hrest : ∀ q' ∈ rest, q' ∈ (mt mi).2.1 := fun q' h => hsub q' (List.mem_cons_of_mem _ h)
    cases hone : cv_one X q S with
    | some S' =>
      rw [hone] at h'
      refine cv_one_ok C0 hcls hcl4 hcl5 h100 okq hq hone (ih X mi _ S' o h' ?_ as0 p e R s m args below meth c Q C0 hret)
      cases (S'.1 == S.1 + q.2.2.1) with
      | true => exact hrest
      | false => exact fun q' h => cv_from_mem h
    | none =>
    rw [hone] at h'
    dsimp only at h'
    cases hmk : cv_mk (mt mi).2.2.1 (mt mi).2.2.2.1 F q S with
    | some S' =>
      rw [hmk] at h'
      exact cv_mk_ok C0 hcls okq hq hmk (ih X mi _ S' o h' hrest as0 p e R s m args below meth c Q C0 hret)
    | none =>
    rw [hmk] at h'
    dsimp only at h'
    cases hnat : cv_nat (mt mi) q S with
    | some S' =>
      rw [hnat] at h'
      exact cv_nat_ok C0 okq hq hnat (ih X mi _ S' o h' hrest as0 p e R s m args below meth c Q C0 hret)
    | none =>
    rw [hnat] at h'
    dsimp only at h'
    cases hcall : cv_call q S with
    | some jas =>
      obtain ⟨j, av, stk⟩ := jas
      rw [hcall] at h'
      dsimp only at h'
      obtain ⟨hfits, h2⟩ := cv_bif h'
      cases hrun : cv_fst F mt n (cv_no2 X) j (mt j).2.1 (0, cv_ent 0 av, [], S.2.2.2.1, 0, 0) with
      | none => rw [hrun] at h2; cases h2
      | some o' =>
        rw [hrun] at h2
        dsimp only at h2
        have hn9 : q.2.2.2.1 < 9000 := by
          have hj := cv_callj hcall
          rcases Nat.lt_or_ge q.2.2.2.1 9000 with q9 | q9
          · exact q9
          · have e0 := h9 j (by omega)
            rw [e0] at hrun
            cases n with
            | zero => cases hrun
            | succ n => cases hrun
        have hMet : cv_Met Ts cl D cy A sv l X (mt j) av S.2.2.2.1 o' := by
          refine cv_met_ok hsv (cv_call_okM okq hn9 hcall) ?_ ?_
          · unfold cv_fits at hfits
            simp only [Bool.and_eq_true, decide_eq_true_eq] at hfits
            exact hfits.1
          · intro as1 p1 e1 R1 s1 m1 args1 below1 meth1 c1 C1
            exact ih (cv_no2 X) j _ _ o' hrun (fun q h => h) as1 p1 e1 R1 s1 m1 args1 below1 meth1 c1 _ C1 fun q3 S3 r3 a1 a2 a3 a4 => cv_ret_ok C1 a1 a2 a3 a4
        refine cv_call_ok C0 hgood h100 okq hq hn9 hcall hfits hMet ?_
        exact ih X mi _ _ o h2 hrest as0 p e R s m args below meth c Q C0 hret
    | none =>
    rw [hcall] at h'
    dsimp only at h'
    cases hr : cv_ret (mt mi) q S with
    | none => rw [hr] at h'; cases h'
    | some r =>
      rw [hr] at h'
      cases h'
      exact hret q S r okq hq hr rfl
end CVF
