/-! ===== the law: its walk, by the evaluator ===== -/
noncomputable def av_stp (X : av_X) (F : av_F) (M : av_M) (fuel : Nat) : List av_Q → av_S → Option av_S :=
  Nat.rec (motive := fun _ => List av_Q → av_S → Option av_S) (fun _ S => some S) (fun _ ih sfx S => match sfx with
    | [] => none
    | q :: rest => bif q.1 == S.1 then (match av_one X F q S with
      | some [S'] => ih (bif S'.1 == S.1 + q.2.2.1 then rest else av_from S'.1 M.2.1) S'
      | some _ => none
      | none => match av_mk M.2.2.1 M.2.2.2.1 F q S with
        | some S' => ih rest S'
        | none => none) else none) fuel
theorem av_stp_ok {Ts : List Jvm.Cond} {cl : List vw_C} {D : va_G} {cy : Nat → ClassId} {A : Nat → Prop} {sv : Nat → Value} {as0 : List Nat} {X : av_X} {M : av_M} {mt : Nat → av_M} {F : av_F} {p : Program} {l : Launch} {e : Env} {R : Room} {s : State} {m : MethodId} {args : Array Value} {below : List Frame} {meth : Method} {c : Code} {Q : State → Prop}
    (C0 : av_Cx Ts cl D cy A sv X M p R s m args meth c) (hcls : av_cls Ts cl F) (hcl4 : ∃ T N, cl[1]? = some ("SagGates$Gate", T, N)) (hcl5 : ∃ T N, cl[7]? = some ("SagGates$Told", T, N)) (h100 : cl.length ≤ 100) (hM : ∀ q ∈ M.2.1, av_ok Ts cl mt M q) :
    ∀ (fuel : Nat) (sfx : List av_Q) (S S' : av_S), av_stp X F M fuel sfx S = some S' → (∀ q ∈ sfx, av_ok Ts cl mt M q) → av_Good cl D cy A sv as0 M.1.2.2.2.1 p l e R s m args below meth c Q S' → av_Good cl D cy A sv as0 M.1.2.2.2.1 p l e R s m args below meth c Q S := by
  intro fuel
  induction fuel with
  | zero => intro sfx S S' h _ k; cases h; exact k
  | succ n ih =>
    intro sfx S S' h hok k
    cases sfx with
    | nil => cases h
    | cons q rest =>
      have h' : (bif q.1 == S.1 then (match av_one X F q S with
        | some [S'] => av_stp X F M n (bif S'.1 == S.1 + q.2.2.1 then rest else av_from S'.1 M.2.1) S'
        | some _ => none
        | none => match av_mk M.2.2.1 M.2.2.2.1 F q S with
          | some S' => av_stp X F M n rest S'
          | none => none) else none) = some S' := h
      obtain ⟨hq, h1⟩ := av_bif h'
      have hq : q.1 = S.1 := by simpa using hq
      have okq := hok q List.mem_cons_self
      have okr : ∀ q ∈ rest, av_ok Ts cl mt M q := fun q' hq' => hok q' (List.mem_cons_of_mem _ hq')
      split at h1
      · rename_i S1 hone
        refine av_one_ok C0 hcls hcl4 hcl5 h100 okq hq hone fun S2 hS2 => ?_
        have : S2 = S1 := by simpa using hS2
        subst this
        refine ih _ S2 S' h1 ?_ k
        cases (S2.1 == S.1 + q.2.2.1) with
        | true => exact okr
        | false => exact fun q' hq' => hM q' (av_from_mem hq')
      · cases h1
      · split at h1
        · rename_i S1 hmk
          exact av_mk_ok C0 hcls okq hq hmk (ih rest S1 S' h1 okr k)
        · cases h1
theorem lw_h9 : ∀ j, 9000 ≤ j → (mt_all j).2.1 = [] := by
  intro j hj
  have hl : mt_list.length = 129 := by decide +kernel
  unfold mt_all
  rw [List.getD_eq_getElem?_getD, List.getElem?_eq_none (by omega)]
  rfl
theorem lw_c4 : ∃ T N, vwCl[1]? = some ("SagGates$Gate", T, N) := ⟨_, _, rfl⟩
theorem lw_c5 : ∃ T N, vwCl[7]? = some ("SagGates$Told", T, N) := ⟨_, _, rfl⟩
theorem lw_c100 : vwCl.length ≤ 100 := by decide
theorem lw_l1 : hp_1.length = 111 := by decide +kernel
theorem lw_l2 : hp_2.length = 149 := by decide +kernel
theorem lw_e3 : hp_2 ++ [.inl (3, List.replicate 1 (av_dfl 3))] = hp_3 := av_hb_ok (by decide +kernel)
section LW
variable {D : va_G} {cy : Nat → ClassId} {A : Nat → Prop} {sv : Nat → Value} {l : Launch}
theorem av_MetRun {fuel j : Nat} {X1 av : List av_V} {h : av_H} {outs : av_O} (hsv : ∀ j, sv j = .null ∨ ∃ a, sv j = .ref a) (hrun : av_run fk_all mt_all fuel (X1, none) j (mt_all j).2.1 (0, av_ent 0 av, [], h, 0, 0) = some outs) (hM : av_okM av_T (mt_all j)) (hall : av.all (fun v => !av_isL v) = true) (hlen : av.length ≤ (mt_all j).1.2.2.2.1) : av_Met av_T vwCl D cy A sv l X1 (mt_all j) av h outs :=
  av_met_ok hsv hM hall hlen (fun as0 p e R s m args below meth c C1 => av_run_ok av_T_good cls_all lw_c4 lw_c5 lw_c100 lw_h9 ok_all fuel (X1, none) j _ _ outs hrun (ok_all j) as0 p e R s m args below meth c _ C1 (fun q S r a1 a2 a3 a4 => av_ret_ok C1 a1 a2 a3 a4))
variable {X : av_X} {p : Program} {e : Env} {s : State} {m : MethodId} {b0 : Nat} {below : List Frame} {meth : Method} {c : Code} {as0 : List Nat}
theorem lw_hret (C0 : av_Cx av_T vwCl D cy (fun q => s.heap.size ≤ q) sv X mt_L_law p room_1 s m #[Value.ref b0] meth c) {q : av_Q} {S : av_S} {r : Option av_V} (ok : av_ok av_T vwCl mt_all mt_L_law q) (hq : q.1 = S.1) (h : av_ret mt_L_law q S = some r) (h1 : r = some (av_i (1, 1))) :
    av_Good vwCl D cy (fun q => s.heap.size ≤ q) sv as0 7 p l e room_1 s m #[Value.ref b0] below meth c (lw_Z below #[Value.ref b0] s) S := by
  obtain ⟨pc, ins, len, a, b, z⟩ := q
  obtain ⟨pc', L, st, hp, cN, sN⟩ := S
  dsimp only at hq
  subst hq
  obtain ⟨hx, hb, hml, hown, hts, hr, hlk, hnm, hK, hA, hSF, r1, r2, r3, r4⟩ := C0
  obtain ⟨hd, hlen, -⟩ := ok
  unfold av_ret at h
  obtain ⟨hc, h2⟩ := av_bif h
  clear h
  simp only [Bool.and_eq_true, decide_eq_true_eq] at hc
  intro as ws H locs ls stv has hH hP hD hS hL hst
  refine W.widen (k := 600002) (n := 7302232) hc.1 hc.2 ?_
  refine va_forget (fun q hq => hS.2.2 q hq) ?_
  dsimp only at h2 hd hst ⊢
  split at h2
  · rename_i hret; cases hret
  · rename_i u hret
    obtain ⟨hf, h3⟩ := av_bif h2
    cases h3
    cases h1
    have : len = 1 := by simpa [av_lenok, av_len] using hlen
    subst this
    obtain ⟨_, stv1, rfl, ⟨n, rfl, hn⟩, hst1⟩ := av_relS_cons hst
    have := av_relS_nil hst1
    subst this
    have e1 : n = 1 := by
      rw [← Int32.toInt_inj]
      have : (1 : Int32).toInt = 1 := by decide
      dsimp only at hn
      omega
    subst e1
    exact lw_ret hx hb hr hlk hd
  · rename_i hret; cases hret
  · rename_i hret; cases hret
  · rename_i hret; cases hret
  · rename_i hret; cases hret
  · cases h2
theorem lw_run {fuel : Nat} {sfx : List av_Q} {S : av_S} (C0 : av_Cx av_T vwCl D cy (fun q => s.heap.size ≤ q) sv X mt_L_law p room_1 s m #[Value.ref b0] meth c) (hs : ∀ q ∈ sfx, q ∈ op_L_law) (h : lw_ends (av_run fk_all mt_all fuel X 128 sfx S) = true) :
    av_Good vwCl D cy (fun q => s.heap.size ≤ q) sv as0 7 p l e room_1 s m #[Value.ref b0] below meth c (lw_Z below #[Value.ref b0] s) S := by
  obtain ⟨o, h1, h2⟩ := lw_ends_ok h
  exact av_run_ok av_T_good cls_all lw_c4 lw_c5 lw_c100 lw_h9 ok_all fuel X 128 sfx S o h1 (fun q hq => ok_all 128 q (hs q hq)) as0 p e room_1 s m #[Value.ref b0] below meth c _ C0 (fun q S r a1 a2 a3 a4 => lw_hret C0 a1 a2 a3 (h2 _ a4))
theorem lw_stp {fuel : Nat} {sfx : List av_Q} {S S' : av_S} (C0 : av_Cx av_T vwCl D cy (fun q => s.heap.size ≤ q) sv X mt_L_law p room_1 s m #[Value.ref b0] meth c) (hs : ∀ q ∈ sfx, q ∈ op_L_law) (h : av_stp X fk_all mt_L_law fuel sfx S = some S')
    (k : av_Good vwCl D cy (fun q => s.heap.size ≤ q) sv as0 7 p l e room_1 s m #[Value.ref b0] below meth c (lw_Z below #[Value.ref b0] s) S') : av_Good vwCl D cy (fun q => s.heap.size ≤ q) sv as0 7 p l e room_1 s m #[Value.ref b0] below meth c (lw_Z below #[Value.ref b0] s) S :=
  av_stp_ok (mt := mt_all) C0 cls_all lw_c4 lw_c5 lw_c100 (ok_all 128) fuel sfx S S' h (fun q hq => ok_all 128 q (hs q hq)) k
/-- the two constructors and the row of one long -/
theorem lw_make (C0 : av_Cx av_T vwCl D cy (fun q => s.heap.size ≤ q) sv X mt_L_law p room_1 s m #[Value.ref b0] meth c) (hX1 : X.1 = wd_bytes)
    (k : av_Good vwCl D cy (fun q => s.heap.size ≤ q) sv as0 7 p l e room_1 s m #[Value.ref b0] below meth c (lw_Z below #[Value.ref b0] s) (23, lw_loc, [], hp_3, 150, 5612)) :
    av_Good vwCl D cy (fun q => s.heap.size ≤ q) sv as0 7 p l e room_1 s m #[Value.ref b0] below meth c (lw_Z below #[Value.ref b0] s) (0, [(0, av_s 2)], [], [], 0, 0) := by
  have hsv := C0.2.2.2.2.2.2.2.2.2.2.1.1
  refine lw_stp (fuel := 2) (sfx := op_L_law) (S' := (4, [(0, av_s 2)], [av_r 0, av_r 0], [ob_11], 1, 16)) C0 (fun q h => h) rfl ?_
  have m1 : av_Met av_T vwCl D cy (fun q => s.heap.size ≤ q) sv l X.1 (mt_all 28) [av_r 0] [ob_11] [(none, hp_1)] := av_MetRun (fuel := 20000) hsv (by rw [hX1]; exact av_isv_ok rn_X11) okm_X11_init rfl (by decide)
  refine av_call_ok (q := (4, .invokespecial 17, 3, 28, 0, 0)) (j := 28) (av := [av_r 0]) (stk := [av_r 0]) (mt := mt_all) C0 av_T_good lw_c100 (ok_L_law_0 _ (List.mem_of_getElem? (i := 2) rfl)) rfl (by decide) rfl (by decide +kernel) m1 fun ov hov => ?_
  obtain rfl : ov = (none, hp_1) := by simpa using hov
  refine lw_stp (fuel := 3) (sfx := op_L_law.drop 3) (S' := (12, [(1, av_r 0), (0, av_s 2)], [av_r hp_1.length, av_r hp_1.length], hp_1 ++ [ob_12], 112, 2708)) C0 (fun q h => List.mem_of_mem_drop h) rfl ?_
  rw [lw_l1]
  have m2 : av_Met av_T vwCl D cy (fun q => s.heap.size ≤ q) sv l X.1 (mt_all 71) [av_r 111] (hp_1 ++ [ob_12]) [(none, hp_2)] := av_MetRun (fuel := 20000) hsv (by rw [hX1]; exact av_isv_ok rn_X12) okm_X12_init rfl (by decide)
  refine av_call_ok (q := (12, .invokespecial 20, 3, 71, 0, 0)) (j := 71) (av := [av_r 111]) (stk := [av_r 111]) (mt := mt_all) C0 av_T_good lw_c100 (ok_L_law_0 _ (List.mem_of_getElem? (i := 6) rfl)) rfl (by decide) rfl (by decide +kernel) m2 fun ov hov => ?_
  obtain rfl : ov = (none, hp_2) := by simpa using hov
  refine lw_stp (fuel := 6) (sfx := op_L_law.drop 7) (S' := (23, [(4, av_i (0, 0)), (3, av_r hp_2.length), (2, av_r 111), (1, av_r 0), (0, av_s 2)], [], hp_2 ++ [.inl (3, List.replicate 1 (av_dfl 3))], 150, 5612)) C0 (fun q h => List.mem_of_mem_drop h) rfl ?_
  rw [lw_l2, lw_e3]
  exact k
end LW
