/-! ===== calls and returns of the evaluator ===== -/
def av_rm (M : av_M) : Room := { frames := M.2.2.2.2.1, cells := M.2.2.1, slots := M.2.2.2.1, locals := M.2.2.2.2.2 }
def av_ws (Ts : List Jvm.Cond) (M : av_M) : List Jvm.Cond := Jvm.Cond.code M.1.2.1 M.1.2.2.1 M.1.2.2.2.1 M.1.2.2.2.2 :: Ts
def av_Pre (cl : List vw_C) (D : va_G) (cy : Nat → ClassId) (A : Nat → Prop) (sv : Nat → Value) (X1 : List av_V) (ws : va_W) (vs : List Value) : Array Value → State → Prop :=
  va_Pc vs (fun U => va_P D cl ws U.heap ∧ va_K D cl (av_tys cy) U ∧ (∀ q, U.heap.size ≤ q → A q) ∧ av_SF A sv (X1, none) U U.heap)
def av_Qc (cl : List vw_C) (D : va_G) (cy : Nat → ClassId) (A : Nat → Prop) (sv : Nat → Value) (as : List Nat) (outs : av_O) : Array Value → State → Outcome → State → Prop := fun _ st o t =>
  (∃ ov ∈ outs, ∃ (as' : List Nat) (ws' : va_W) (rv : Option Value), o = .returned rv ∧ as <+: as' ∧ av_relS sv as' ov.1.toList rv.toList ∧ av_relH cy sv as' ov.2 ws' ∧ va_P D cl ws' t.heap ∧ va_D A ws') ∧ va_F A st t
def av_Met (Ts : List Jvm.Cond) (cl : List vw_C) (D : va_G) (cy : Nat → ClassId) (A : Nat → Prop) (sv : Nat → Value) (l : Launch) (X1 : List av_V) (M : av_M) (args : List av_V) (h : av_H) (outs : av_O) : Prop :=
  ∀ (as : List Nat) (ws : va_W) (vs : List Value), av_relS sv as args vs → av_relH cy sv as h ws → va_D A ws → Met l M.1.2.1 (av_ws Ts M) (av_rm M) (av_Pre cl D cy A sv X1 ws vs) (av_Qc cl D cy A sv as outs) M.2.2.1 M.2.2.2.1 A
theorem av_blind {cl : List vw_C} {D : va_G} {cy : Nat → ClassId} {A : Nat → Prop} {sv : Nat → Value} {X1 : List av_V} {ws : va_W} {vs : List Value} : FrameBlind (av_Pre cl D cy A sv X1 ws vs) := by
  intro a U g mk hq
  obtain ⟨q0, q1, q2, q3, q4⟩ := hq
  exact ⟨q0, q1, va_K.moved (u := U) (U := U.calling g mk a) (Vm.Alike.refl U.vm) q2, q3, av_SF_in q4 g mk a⟩
theorem av_ent_ok {sv : Nat → Value} (hsv : ∀ j, sv j = .null ∨ ∃ a, sv j = .ref a) {as : List Nat} : ∀ {l : List av_V} {r : List Value} (i : Nat), av_relS sv as l r → l.all (fun v => !av_isL v) = true → ((∀ q ∈ av_ent i l, ∃ x, av_dn sv as q.2 x ∧ (q.1, x) ∈ lv_args i r) ∧ (lg_sl r).length = l.length)
  | [], [], _, _, _ => ⟨fun q hq => by (cases hq), rfl⟩
  | v :: l, x :: r, i, ⟨a, b⟩, hl => by
    simp only [List.all_cons, Bool.and_eq_true, Bool.not_eq_true'] at hl
    have hc : x.category = 1 := by rw [av_cat hsv a, hl.1]; rfl
    have hc2 : ¬ x.category = 2 := by omega
    obtain ⟨h1, h2⟩ := av_ent_ok hsv (i + 1) b hl.2
    refine ⟨fun q hq => ?_, ?_⟩
    · rcases List.mem_cons.mp hq with rfl | hq
      · exact ⟨x, a, List.mem_cons_self⟩
      · obtain ⟨y, y1, y2⟩ := h1 q hq
        refine ⟨y, y1, ?_⟩
        rw [lv_args, if_neg hc2]
        exact List.mem_cons_of_mem _ y2
    · simp only [lg_sl, List.flatMap_cons, List.length_append, List.length_cons] at h2 ⊢
      rw [if_neg hc2, h2]
      simp
      omega
  | [], _ :: _, _, hh, _ => hh.elim
  | _ :: _, [], _, hh, _ => hh.elim
section AVR
variable {Ts : List Jvm.Cond} {cl : List vw_C} {D : va_G} {cy : Nat → ClassId} {A : Nat → Prop} {sv : Nat → Value} {as0 : List Nat} {X : av_X} {M : av_M} {mt : Nat → av_M} {F : av_F} {p : Program} {l : Launch} {e : Env} {R : Room} {s : State} {m : MethodId} {args : Array Value} {below : List Frame} {meth : Method} {c : Code} {Q : State → Prop}
theorem av_go_ok {H : Heap} {locs : List Loc} {cN sN mc ms pc : Nat} {ls : Array Slot} {st0 rest : List Value} {as : List Nat} {outs : av_O} {arr : Array Value} (hr : va_Run p l e R s m args below meth c H locs cN sN mc ms (F0 m pc ls st0) rest (av_Qc cl D cy A sv as outs arr) A) (hS : va_S A s.heap H locs)
    (kk : ∀ ov ∈ outs, ∀ (as' : List Nat) (ws' : va_W) (rv : Option Value) (H1 : Heap) (locs1 : List Loc), as <+: as' → av_relS sv as' ov.1.toList rv.toList → av_relH cy sv as' ov.2 ws' → va_P D cl ws' H1 → va_D A ws' → va_S A s.heap H1 locs1 → W p l e R s m args below meth c H1 locs1 (cN + mc) (sN + ms) Q (F0 m (pc + 3) ls (rv.toList ++ rest))) : W p l e R s m args below meth c H locs cN sN Q (F0 m pc ls st0) := by
  intro T hT X
  obtain ⟨v, st₀, t, T', L, h0, X', hL, e1, e2, ⟨⟨ov, hov, as', ws', rv, hv, b1, b2, b3, b4, b5⟩, hz, hk⟩, st⟩ := hr T hT X
  cases hv
  rw [h0] at hz hk
  obtain ⟨t2, a1, c1⟩ := kk ov hov as' ws' v T'.heap (locs ++ L) b1 b2 b3 (by rw [e1]; exact b4) b5
    ⟨Nat.le_trans hS.1 (by rw [e1]; exact hz), fun q h1 h2 => by rw [e1, hk q (Nat.lt_of_lt_of_le h1 hS.1) h2]; exact hS.2.1 q h1 h2, fun q hq => by
      rcases List.mem_append.mp hq with h | h
      · exact hS.2.2 q h
      · exact hL q h⟩ T' rfl X'
  exact ⟨t2, st t2 a1, c1⟩
theorem av_call_ok {q : av_Q} {S : av_S} {j : Nat} {av stk : List av_V} {outs : av_O} (C0 : av_Cx Ts cl D cy A sv X M p R s m args meth c) (hgood : GoodIn Ts Ts) (h100 : cl.length ≤ 100) (ok : av_ok Ts cl mt M q) (hq : q.1 = S.1) (h9 : q.2.2.2.1 < 9000) (hcall : av_call q S = some (j, av, stk)) (hfits : av_fits M (mt j) S.2.2.2.2.1 S.2.2.2.2.2 av.length stk = true)
    (hM : av_Met Ts cl D cy A sv l X.1 (mt j) av S.2.2.2.1 outs)
    (k : ∀ ov ∈ outs, av_Good cl D cy A sv as0 M.1.2.2.2.1 p l e R s m args below meth c Q (S.1 + q.2.2.1, S.2.1, ov.1.toList ++ stk, ov.2, S.2.2.2.2.1 + (mt j).2.2.1, S.2.2.2.2.2 + (mt j).2.2.2.1)) : av_Good cl D cy A sv as0 M.1.2.2.2.1 p l e R s m args below meth c Q S := by
  obtain ⟨pc, ins, len, a, b, z⟩ := q
  obtain ⟨pc', L, st, hp, cN, sN⟩ := S
  dsimp only at hq h9 hfits hM k
  subst hq
  obtain ⟨hx, hb, hml, hown, hts, hr, hlk, hnm, hK, hA, hSF, r1, r2, r3, r4⟩ := C0
  have hSF0 := hSF
  obtain ⟨hsv, ⟨q0, q1, a1, a2, a3, a4, a5, a6, f, a7, a8⟩, h2, h3, hnest, h4⟩ := hSF
  obtain ⟨hd, hlen, hok⟩ := ok
  unfold av_fits at hfits
  simp only [Bool.and_eq_true, decide_eq_true_eq] at hfits
  obtain ⟨f0, f1, f2, f3, f4, f5⟩ := hfits
  unfold av_call at hcall
  dsimp only at hcall
  obtain ⟨hc, hcall2⟩ := av_bif hcall
  clear hcall
  simp only [Bool.and_eq_true, decide_eq_true_eq] at hc
  intro as ws H locs ls stv has hH hP hD hS hL hst
  have hstl := av_relS_len hst
  have hls : ls.size = M.1.2.2.2.1 := by obtain ⟨lv, g, -⟩ := hL; exact g.1
  have hTk := av_relS_take b hst
  have hDr := av_relS_drop b hst
  have hsplit : stv = (stv.take b).reverse.reverse ++ stv.drop b := by rw [List.reverse_reverse, List.take_append_drop]
  have hn : ((stv.take b).reverse).length = b := by
    rw [List.length_reverse, List.length_take]
    dsimp only at hstl
    omega
  have hin : ∀ w : Jvm.Cond, w ∈ Ts → w ∈ Ts ∧ ((w.onTables && w.keeps) = true ∨ ∃ ty, w = .arrayClass ty) := fun w hw => hgood w hw
  dsimp only at hd hok hTk hDr hstl
  have hcont : ∀ (stR : List Value), av_relS sv as stk stR → len = 3 → ∀ ov ∈ outs, ∀ (as' : List Nat) (ws' : va_W) (rv : Option Value) (H1 : Heap) (locs1 : List Loc), as <+: as' → av_relS sv as' ov.1.toList rv.toList → av_relH cy sv as' ov.2 ws' → va_P D cl ws' H1 → va_D A ws' → va_S A s.heap H1 locs1 → W p l e R s m args below meth c H1 locs1 (cN + (mt j).2.2.1) (sN + (mt j).2.2.2.1) Q (F0 m (pc + 3) ls (rv.toList ++ stR)) := by
    intro stR hR hl ov hov as' ws' rv H1 locs1 b1 b2 b3 b4 b5 b6
    subst hl
    exact k ov hov as' ws' H1 locs1 ls (rv.toList ++ stR) (has.trans b1) b3 b4 b5 b6 (av_relL_up b1 hL) (av_relS_app b2 (av_relS_up b1 hR))
  have hpre : ∀ (vs : List Value) (U : State), U.heap = H → s.WarmedH U.vm → av_Pre cl D cy A sv X.1 ws vs vs.toArray U := by
    intro vs U hU hW
    exact ⟨rfl, by rw [hU]; exact hP, va_K.moved hW.alike hK, fun q hq => hA q (Nat.le_trans hS.1 (by rw [← hU]; exact hq)), av_SF_call hSF0 hW hU hS⟩
  have hroom : (av_rm (mt j)).frames + 1 ≤ R.frames ∧ 8 + ((mt j).1.2.2.2.1 + 11) + (av_rm (mt j)).locals ≤ R.locals := ⟨Nat.le_trans f3 r3, Nat.le_trans f4 r4⟩
  have hcs : cN + (mt j).2.2.1 ≤ R.cells ∧ sN + (mt j).2.2.2.1 ≤ R.slots := ⟨by rw [r1]; exact f1, by rw [r2]; exact f2⟩
  cases ins <;> first | (cases hcall2; done) | skip
  case invokestatic i =>
    have hl3 : len = 3 := by simpa [av_lenok, av_len] using hlen
    cases hcall2
    obtain ⟨⟨o1, o2, o3, o4, o5⟩, o6, o7, o8⟩ := hok.2.2 h9
    have hMet := hM as ws (stv.take b).reverse (av_relS_rev hTk) hH hD
    have hG : GoodIn Ts (va_wsS M.1.1 i (mt j).1.2.1 (av_ws Ts (mt j))) := by
      intro w hw
      apply hin
      rcases List.mem_append.mp hw with hw | hw
      · simp only [List.mem_cons, List.not_mem_nil, or_false] at hw
        rcases hw with rfl | rfl | rfl
        · exact o8
        · exact o6
        · rw [o2]; exact o3
      · rcases List.mem_cons.mp hw with rfl | hw
        · exact o1
        · exact hw
    subst hl3
    exact av_go_ok (va_runS (As := (stv.take b).reverse) (rest := stv.drop b) ⟨hx, hb, hml, hown, hts⟩ hMet (va_cwS b hts hG rfl rfl rfl ⟨o5.1, o5.2, o7⟩ hroom) ⟨av_blind, fun U hU hW => hpre _ U hU hW⟩ rfl hn hls hsplit (lv_room (by rw [av_wid_ok hsv hDr]; exact f5)) hd hcs) hS (hcont _ hDr rfl)
  case invokespecial i =>
    have hl3 : len = 3 := by simpa [av_lenok, av_len] using hlen
    dsimp only at hcall2
    split at hcall2
    · rename_i kx rest hst0
      cases hcall2
      obtain ⟨⟨o1, o2, o3, o4, o5⟩, o6, o7, o8, o9, o10⟩ := hok.2 h9
      rw [hst0] at hDr
      obtain ⟨_, stR, hstR, ⟨ad, had, rfl⟩, hR⟩ := av_relS_cons hDr
      have hMet := hM as ws (.ref ad :: (stv.take b).reverse) ⟨⟨ad, had, rfl⟩, av_relS_rev hTk⟩ hH hD
      have hG : GoodIn Ts (av_ws Ts (mt j)) := by
        intro w hw
        apply hin
        rcases List.mem_cons.mp hw with rfl | hw
        · exact o1
        · exact hw
      subst hl3
      have hw : av_ws Ts (mt j) = Cond.code (mt j).1.2.1 (mt j).1.2.2.1 (mt j).1.2.2.2.1 none :: Ts := by unfold av_ws; rw [o7]
      rcases o10 with o10 | ⟨o10, o11⟩
      · exact av_go_ok (va_runI (As := (stv.take b).reverse) (rest := stR) ⟨hx, hb, hml, hown, hts⟩ hMet (cwI b hts hG hw rfl rfl (hts _ (by rw [o2]; exact o3)) (hts _ o10) (hts _ o8) o6 ⟨o5.1, o5.2, o9⟩ hroom) ⟨av_blind, fun U hU hW => hpre _ U hU hW⟩ rfl hn hls (by rw [← hstR]; exact hsplit) (lv_room (by rw [av_wid_ok hsv hR]; exact f5)) hd hcs) hS (hcont _ hR rfl)
      · have hN := hnest.1 _ o11
        exact av_go_ok (va_runIN (As := (stv.take b).reverse) (rest := stR) (host := RX11) ⟨hx, hb, hml, hown, hts⟩ hMet ⟨va_cnB b hts hG hw rfl rfl (by rw [o10]; exact hN) (hts _ (by rw [o2]; exact o3)) ⟨o5.1, o5.2, o9⟩ hroom, o6, hts _ o8⟩ ⟨av_blind, fun U hU hW => hpre _ U hU hW⟩ rfl hn hls (by rw [← hstR]; exact hsplit) (lv_room (by rw [av_wid_ok hsv hR]; exact f5)) hd hcs) hS (hcont _ hR rfl)
    · cases hcall2
  case invokevirtual i =>
    have hl3 : len = 3 := by simpa [av_lenok, av_len] using hlen
    dsimp only at hcall2
    obtain ⟨⟨o1, o2, o3, o4, o5⟩, o6, o7, o8, o9, o10⟩ := hok
    have hG : GoodIn Ts (wsV M.1.1 i (mt a).1.1 (mt a).1.2.1 (av_ws Ts (mt a))) := by
      intro w hw
      apply hin
      rcases List.mem_append.mp hw with hw | hw
      · simp only [List.mem_cons, List.not_mem_nil, or_false] at hw
        rcases hw with rfl | rfl | rfl | rfl
        · exact o9
        · exact o6
        · exact o7
        · exact o3
      · rcases List.mem_cons.mp hw with rfl | hw
        · exact o1
        · exact hw
    split at hcall2
    · rename_i kx rest hst0
      split at hcall2
      · rename_i ci fs hk
        obtain ⟨hci, hcall3⟩ := av_bif hcall2
        cases hcall3
        simp only [beq_iff_eq] at hci
        rw [hst0] at hDr
        obtain ⟨_, stR, hstR, ⟨ad, had, rfl⟩, hR⟩ := av_relS_cons hDr
        have hMet := hM as ws (.ref ad :: (stv.take b).reverse) ⟨⟨ad, had, rfl⟩, av_relS_rev hTk⟩ hH hD
        obtain ⟨ad', en, e1, e2, hE⟩ := hH.2.2 kx _ hk
        cases had.symm.trans e1
        obtain ⟨vs, rfl, -, -⟩ := hE
        subst hl3
        have hrec : ∃ (T : u_T) (N : Nat), cl[ci]? = some ((mt j).1.1, T, N) ∨ (ci = 100 ∧ (mt j).1.1 = "java/lang/String") := by
          rcases o10 with ⟨w1, w2⟩ | ⟨T, N, w⟩
          · exact ⟨fun _ => ("", "", "", false), 0, .inr ⟨hci.trans w1, w2⟩⟩
          · exact ⟨T, N, .inl (by rw [hci]; exact w)⟩
        obtain ⟨T, N, hrec | ⟨w1, w2⟩⟩ := hrec
        · exact av_go_ok (va_runV (As := (stv.take b).reverse) (rest := stR) (C := (mt j).1.1) ⟨hx, hb, hml, hown, hts⟩ hMet (cwV b hts hG rfl rfl rfl ⟨o2, o5.1, o5.2, o8⟩ hroom) ⟨av_blind, va_recv hK hP hrec e2, fun U hU hW => hpre _ U hU hW⟩ rfl hn hls (by rw [← hstR]; exact hsplit) (lv_room (by rw [av_wid_ok hsv hR]; exact f5)) hd hcs) hS (hcont _ hR rfl)
        · obtain ⟨r, rr1, -⟩ := hP kx _ e2
          have := (List.getElem?_eq_some_iff.mp rr1).1
          dsimp only at this
          omega
      · cases hcall2
    · rename_i rest hst0
      obtain ⟨hci, hcall3⟩ := av_bif hcall2
      cases hcall3
      simp only [beq_iff_eq] at hci
      rw [hst0] at hDr
      obtain ⟨x, stR, hstR, hxx, hR⟩ := av_relS_cons hDr
      have hx0 : x = .ref q0 := (show x = sv 0 from hxx).trans a1
      subst hx0
      have hMet := hM as ws (.ref q0 :: (stv.take b).reverse) ⟨hxx, av_relS_rev hTk⟩ hH hD
      subst hl3
      have hC : (mt j).1.1 = "java/lang/String" ∨ ∃ (T : u_T) (N : Nat), cl[100]? = some ((mt j).1.1, T, N) := by
        rcases o10 with ⟨_, w2⟩ | ⟨T, N, w⟩
        · exact .inl w2
        · exact .inr ⟨T, N, by rw [← hci]; exact w⟩
      rcases hC with hC | ⟨T, N, w⟩
      · exact av_go_ok (va_runV (As := (stv.take b).reverse) (rest := stR) (C := (mt j).1.1) ⟨hx, hb, hml, hown, hts⟩ hMet (cwV b hts hG rfl rfl rfl ⟨o2, o5.1, o5.2, o8⟩ hroom) ⟨av_blind, by rw [hC]; exact va_Orecv a4 hS, fun U hU hW => hpre _ U hU hW⟩ rfl hn hls (by rw [← hstR]; exact hsplit) (lv_room (by rw [av_wid_ok hsv hR]; exact f5)) hd hcs) hS (hcont _ hR rfl)
      · have := (List.getElem?_eq_some_iff.mp w).1
        omega
    · cases hcall2
end AVR
