/-! ===== calls and returns of the small machine ===== -/
def cv_rm (M : cv_M) : Room := { frames := M.2.2.2.2.1, cells := M.2.2.1, slots := M.2.2.2.1, locals := M.2.2.2.2.2 }
def cv_ws (Ts : List Jvm.Cond) (M : cv_M) : List Jvm.Cond := Jvm.Cond.code M.1.2.1 M.1.2.2.1 M.1.2.2.2.1 M.1.2.2.2.2 :: Ts
def cv_Pre (cl : List vw_C) (D : va_G) (cy : Nat → ClassId) (A : Nat → Prop) (sv : Nat → Value) (X : cv_X) (ws : va_W) (vs : List Value) : Array Value → State → Prop :=
  va_Pc vs (fun U => va_P D cl ws U.heap ∧ va_K D cl (cv_tys cy) U ∧ (∀ q, U.heap.size ≤ q → A q) ∧ cv_SF A sv (cv_no2 X) U U.heap)
def cv_Qc (cl : List vw_C) (D : va_G) (cy : Nat → ClassId) (A : Nat → Prop) (sv : Nat → Value) (as : List Nat) (ov : cv_O) : Array Value → State → Outcome → State → Prop := fun _ st o t =>
  (∃ (as' : List Nat) (ws' : va_W) (rv : Option Value), o = .returned rv ∧ as <+: as' ∧ cv_relS sv as' ov.1.toList rv.toList ∧ cv_relH cy sv as' ov.2 ws' ∧ va_P D cl ws' t.heap ∧ va_D A ws') ∧ va_F A st t
def cv_Met (Ts : List Jvm.Cond) (cl : List vw_C) (D : va_G) (cy : Nat → ClassId) (A : Nat → Prop) (sv : Nat → Value) (l : Launch) (X : cv_X) (M : cv_M) (args : List cv_V) (h : cv_H) (ov : cv_O) : Prop :=
  ∀ (as : List Nat) (ws : va_W) (vs : List Value), cv_relS sv as args vs → cv_relH cy sv as h ws → va_D A ws → Met l M.1.2.1 (cv_ws Ts M) (cv_rm M) (cv_Pre cl D cy A sv X ws vs) (cv_Qc cl D cy A sv as ov) M.2.2.1 M.2.2.2.1 A
theorem cv_blind {cl : List vw_C} {D : va_G} {cy : Nat → ClassId} {A : Nat → Prop} {sv : Nat → Value} {X : cv_X} {ws : va_W} {vs : List Value} : FrameBlind (cv_Pre cl D cy A sv X ws vs) := by
  intro a U g mk hq
  obtain ⟨q0, q1, q2, q3, q4⟩ := hq
  exact ⟨q0, q1, va_K.moved (u := U) (U := U.calling g mk a) (Vm.Alike.refl U.vm) q2, q3, cv_SF_in q4 g mk a⟩
theorem cv_ent_ok {sv : Nat → Value} (hsv : ∀ j, sv j = .null ∨ ∃ a, sv j = .ref a) {as : List Nat} : ∀ {l : List cv_V} {r : List Value} (i : Nat), cv_relS sv as l r → ((∀ q ∈ cv_ent i l, ∃ x, cv_dn sv as q.2 x ∧ (q.1, x) ∈ lv_args i r) ∧ (lg_sl r).length = cv_wid l)
  | [], [], _, _ => ⟨fun q hq => by (cases hq), rfl⟩
  | v :: l, x :: r, i, ⟨a, b⟩ => by
    have hc := cv_cat hsv a
    obtain ⟨h1, h2⟩ := cv_ent_ok hsv (bif cv_isL v then i + 2 else i + 1) b
    refine ⟨fun q hq => ?_, ?_⟩
    · rcases List.mem_cons.mp hq with rfl | hq
      · exact ⟨x, a, List.mem_cons_self⟩
      · obtain ⟨y, y1, y2⟩ := h1 q hq
        refine ⟨y, y1, ?_⟩
        rw [lv_args]
        refine List.mem_cons_of_mem _ ?_
        cases hL : cv_isL v with
        | true => rw [hL] at hc y2; rw [if_pos (show x.category = 2 from hc)]; exact y2
        | false => rw [hL] at hc y2; rw [if_neg (show ¬ x.category = 2 by rw [hc]; decide)]; exact y2
    · simp only [lg_sl, List.flatMap_cons, List.length_append, cv_wid, List.map_cons, List.sum_cons] at h2 ⊢
      rw [h2]
      cases hL : cv_isL v with
      | true => rw [hL] at hc; rw [if_pos (show x.category = 2 from hc)]; rfl
      | false => rw [hL] at hc; rw [if_neg (show ¬ x.category = 2 by rw [hc]; decide)]; rfl
  | [], _ :: _, _, hh => hh.elim
  | _ :: _, [], _, hh => hh.elim
section CVR
variable {Ts : List Jvm.Cond} {cl : List vw_C} {D : va_G} {cy : Nat → ClassId} {A : Nat → Prop} {sv : Nat → Value} {as0 : List Nat} {X : cv_X} {M : cv_M} {mt : Nat → cv_M} {F : cv_F} {p : Program} {l : Launch} {e : Env} {R : Room} {s : State} {m : MethodId} {args : Array Value} {below : List Frame} {meth : Method} {c : Code} {Q : State → Prop}
theorem cv_go_ok {H : Heap} {locs : List Loc} {cN sN mc ms pc : Nat} {ls : Array Slot} {st0 rest : List Value} {as : List Nat} {ov : cv_O} {arr : Array Value} (hr : va_Run p l e R s m args below meth c H locs cN sN mc ms (F0 m pc ls st0) rest (cv_Qc cl D cy A sv as ov arr) A) (hS : va_S A s.heap H locs)
    (kk : ∀ (as' : List Nat) (ws' : va_W) (rv : Option Value) (H1 : Heap) (locs1 : List Loc), as <+: as' → cv_relS sv as' ov.1.toList rv.toList → cv_relH cy sv as' ov.2 ws' → va_P D cl ws' H1 → va_D A ws' → va_S A s.heap H1 locs1 → W p l e R s m args below meth c H1 locs1 (cN + mc) (sN + ms) Q (F0 m (pc + 3) ls (rv.toList ++ rest))) : W p l e R s m args below meth c H locs cN sN Q (F0 m pc ls st0) := by
  intro T hT X
  obtain ⟨v, st₀, t, T', L, h0, X', hL, e1, e2, ⟨⟨as', ws', rv, hv, b1, b2, b3, b4, b5⟩, hz, hk⟩, st⟩ := hr T hT X
  cases hv
  rw [h0] at hz hk
  obtain ⟨t2, a1, c1⟩ := kk as' ws' v T'.heap (locs ++ L) b1 b2 b3 (by rw [e1]; exact b4) b5
    ⟨Nat.le_trans hS.1 (by rw [e1]; exact hz), fun q h1 h2 => by rw [e1, hk q (Nat.lt_of_lt_of_le h1 hS.1) h2]; exact hS.2.1 q h1 h2, fun q hq => by
      rcases List.mem_append.mp hq with h | h
      · exact hS.2.2 q h
      · exact hL q h⟩ T' rfl X'
  exact ⟨t2, st t2 a1, c1⟩
theorem cv_call_ok {q : cv_Q} {S : cv_S} {j : Nat} {av stk : List cv_V} {ov : cv_O} (C0 : cv_Cx Ts cl D cy A sv X M p R s m args meth c) (hgood : GoodIn Ts Ts) (h100 : cl.length ≤ 100) (ok : cv_ok Ts cl mt M q) (hq : q.1 = S.1) (h9 : q.2.2.2.1 < 9000) (hcall : cv_call q S = some (j, av, stk)) (hfits : cv_fits M (mt j) S.2.2.2.2.1 S.2.2.2.2.2 (cv_wid av) stk = true)
    (hM : cv_Met Ts cl D cy A sv l X (mt j) av S.2.2.2.1 ov)
    (k : cv_Good cl D cy A sv as0 M.1.2.2.2.1 p l e R s m args below meth c Q (S.1 + q.2.2.1, S.2.1, ov.1.toList ++ stk, ov.2, S.2.2.2.2.1 + (mt j).2.2.1, S.2.2.2.2.2 + (mt j).2.2.2.1)) : cv_Good cl D cy A sv as0 M.1.2.2.2.1 p l e R s m args below meth c Q S := by
  obtain ⟨pc, ins, len, a, b, z⟩ := q
  obtain ⟨pc', L, st, hp, cN, sN⟩ := S
  dsimp only at hq h9 hfits hM k
  subst hq
  obtain ⟨hx, hb, hml, hown, hts, hr, hlk, hnm, hK, hA, hSF, r1, r2, r3, r4⟩ := C0
  have hSF0 := hSF
  obtain ⟨hsv, ⟨q0, q1, a1, a2, a3, a4, a5, a6⟩, h2, h3, hnest, -⟩ := hSF
  obtain ⟨hd, hlen, hok⟩ := ok
  unfold cv_fits at hfits
  simp only [Bool.and_eq_true, decide_eq_true_eq] at hfits
  obtain ⟨f0, f1, f2, f3, f4, f5⟩ := hfits
  unfold cv_call at hcall
  dsimp only at hcall
  obtain ⟨hc, hcall2⟩ := cv_bif hcall
  clear hcall
  simp only [Bool.and_eq_true, decide_eq_true_eq] at hc
  intro as ws H locs ls stv has hH hP hD hS hL hst
  have hstl := cv_relS_len hst
  have hls : ls.size = M.1.2.2.2.1 := by obtain ⟨lv, g, -⟩ := hL; exact g.1
  have hTk := cv_relS_take b hst
  have hDr := cv_relS_drop b hst
  have hsplit : stv = (stv.take b).reverse.reverse ++ stv.drop b := by rw [List.reverse_reverse, List.take_append_drop]
  have hn : ((stv.take b).reverse).length = b := by
    rw [List.length_reverse, List.length_take]
    dsimp only at hstl
    omega
  have hin : ∀ w : Jvm.Cond, w ∈ Ts → w ∈ Ts ∧ ((w.onTables && w.keeps) = true ∨ ∃ ty, w = .arrayClass ty) := fun w hw => hgood w hw
  dsimp only at hd hok hTk hDr hstl
  have hcont : ∀ (stR : List Value), cv_relS sv as stk stR → len = 3 → ∀ (as' : List Nat) (ws' : va_W) (rv : Option Value) (H1 : Heap) (locs1 : List Loc), as <+: as' → cv_relS sv as' ov.1.toList rv.toList → cv_relH cy sv as' ov.2 ws' → va_P D cl ws' H1 → va_D A ws' → va_S A s.heap H1 locs1 → W p l e R s m args below meth c H1 locs1 (cN + (mt j).2.2.1) (sN + (mt j).2.2.2.1) Q (F0 m (pc + 3) ls (rv.toList ++ stR)) := by
    intro stR hR hl as' ws' rv H1 locs1 b1 b2 b3 b4 b5 b6
    subst hl
    exact k as' ws' H1 locs1 ls (rv.toList ++ stR) (has.trans b1) b3 b4 b5 b6 (cv_relL_up b1 hL) (cv_relS_app b2 (cv_relS_up b1 hR))
  have hpre : ∀ (vs : List Value) (U : State), U.heap = H → s.WarmedH U.vm → cv_Pre cl D cy A sv X ws vs vs.toArray U := by
    intro vs U hU hW
    exact ⟨rfl, by rw [hU]; exact hP, va_K.moved hW.alike hK, fun q hq => hA q (Nat.le_trans hS.1 (by rw [← hU]; exact hq)), cv_SF_call hSF0 hW hU hS⟩
  have hroom : (cv_rm (mt j)).frames + 1 ≤ R.frames ∧ 8 + ((mt j).1.2.2.2.1 + 11) + (cv_rm (mt j)).locals ≤ R.locals := ⟨Nat.le_trans f3 r3, Nat.le_trans f4 r4⟩
  have hcs : cN + (mt j).2.2.1 ≤ R.cells ∧ sN + (mt j).2.2.2.1 ≤ R.slots := ⟨by rw [r1]; exact f1, by rw [r2]; exact f2⟩
  cases ins <;> first | (cases hcall2; done) | skip
  case invokestatic i =>
    have hl3 : len = 3 := by simpa [cv_lenok, cv_len] using hlen
    cases hcall2
    obtain ⟨⟨o1, o2, o3, o4, o5⟩, o6, o7, o8⟩ := hok.2.2.2.2.2.2 h9
    have hMet := hM as ws (stv.take b).reverse (cv_relS_rev hTk) hH hD
    subst hl3
    rcases o8 with o8 | o8
    · have hG : GoodIn Ts (va_wsS M.1.1 i (mt j).1.2.1 (cv_ws Ts (mt j))) := by
        intro w hw
        apply hin
        rcases List.mem_append.mp hw with hw | hw
        · simp only [List.mem_cons, List.not_mem_nil, or_false] at hw
          rcases hw with rfl | rfl | rfl
          · exact o8
          · exact o6
          · rw [o2]; exact o3
        · rcases List.mem_cons.mp hw with rfl | hw
          · exact o1
          · exact hw
      exact cv_go_ok (va_runS (As := (stv.take b).reverse) (rest := stv.drop b) ⟨hx, hb, hml, hown, hts⟩ hMet (va_cwS b hts hG rfl rfl rfl ⟨o5.1, o5.2, o7⟩ hroom) ⟨cv_blind, fun U hU hW => hpre _ U hU hW⟩ rfl hn hls hsplit (lv_room (by rw [cv_wid_ok hsv hDr]; exact f5)) hd hcs) hS (hcont _ hDr rfl)
    · have hG : GoodIn Ts (cv_ws Ts (mt j)) := by
        intro w hw
        apply hin
        rcases List.mem_cons.mp hw with rfl | hw
        · exact o1
        · exact hw
      have hN := hnest.1 _ o8
      exact cv_go_ok (va_runSN (As := (stv.take b).reverse) (rest := stv.drop b) (host := RX11) ⟨hx, hb, hml, hown, hts⟩ hMet ⟨va_cnB b hts hG rfl rfl rfl hN (hts _ (by rw [o2]; exact o3)) ⟨o5.1, o5.2, o7⟩ hroom, hts _ o6, trivial⟩ ⟨cv_blind, fun U hU hW => hpre _ U hU hW⟩ rfl hn hls hsplit (lv_room (by rw [cv_wid_ok hsv hDr]; exact f5)) hd hcs) hS (hcont _ hDr rfl)
  case invokespecial i =>
    have hl3 : len = 3 := by simpa [cv_lenok, cv_len] using hlen
    dsimp only at hcall2
    split at hcall2
    · rename_i kx rest hst0
      cases hcall2
      obtain ⟨⟨o1, o2, o3, o4, o5⟩, o6, o7, o8, o9, o10⟩ := hok.2 h9
      rw [hst0] at hDr
      obtain ⟨_, stR, hstR, ⟨ad, had, rfl⟩, hR⟩ := cv_relS_cons hDr
      have hMet := hM as ws (.ref ad :: (stv.take b).reverse) ⟨⟨ad, had, rfl⟩, cv_relS_rev hTk⟩ hH hD
      have hG : GoodIn Ts (cv_ws Ts (mt j)) := by
        intro w hw
        apply hin
        rcases List.mem_cons.mp hw with rfl | hw
        · exact o1
        · exact hw
      subst hl3
      have hw : cv_ws Ts (mt j) = Cond.code (mt j).1.2.1 (mt j).1.2.2.1 (mt j).1.2.2.2.1 none :: Ts := by unfold cv_ws; rw [o7]
      rcases o10 with o10 | o10
      · exact cv_go_ok (va_runI (As := (stv.take b).reverse) (rest := stR) ⟨hx, hb, hml, hown, hts⟩ hMet (cwI b hts hG hw rfl rfl (hts _ (by rw [o2]; exact o3)) (hts _ o10) (hts _ o8) o6 ⟨o5.1, o5.2, o9⟩ hroom) ⟨cv_blind, fun U hU hW => hpre _ U hU hW⟩ rfl hn hls (by rw [← hstR]; exact hsplit) (lv_room (by rw [cv_wid_ok hsv hR]; exact f5)) hd hcs) hS (hcont _ hR rfl)
      · have hN := hnest.1 _ o10
        exact cv_go_ok (va_runIN (As := (stv.take b).reverse) (rest := stR) (host := RX11) ⟨hx, hb, hml, hown, hts⟩ hMet ⟨va_cnB b hts hG hw rfl rfl hN (hts _ (by rw [o2]; exact o3)) ⟨o5.1, o5.2, o9⟩ hroom, o6, hts _ o8⟩ ⟨cv_blind, fun U hU hW => hpre _ U hU hW⟩ rfl hn hls (by rw [← hstR]; exact hsplit) (lv_room (by rw [cv_wid_ok hsv hR]; exact f5)) hd hcs) hS (hcont _ hR rfl)
    · cases hcall2
  case invokevirtual i =>
    have hl3 : len = 3 := by simpa [cv_lenok, cv_len] using hlen
    dsimp only at hcall2
    obtain ⟨⟨o1, o2, o3, o4, o5⟩, o6, o7, o8, o9, o10⟩ := hok
    have hG : GoodIn Ts (wsV M.1.1 i (mt a).1.1 (mt a).1.2.1 (cv_ws Ts (mt a))) := by
      intro w hw
      apply hin
      rcases List.mem_append.mp hw with hw | hw
      · simp only [List.mem_cons, List.not_mem_nil, or_false] at hw
        rcases hw with rfl | rfl | rfl | rfl
        · exact o9
        · exact o6
        · exact o7
        · exact o3
      · rcases List.mem_cons.mp hw with rfl | hw
        · exact o1
        · exact hw
    split at hcall2
    · rename_i kx rest hst0
      split at hcall2
      · rename_i ci fs hk
        obtain ⟨hci, hcall3⟩ := cv_bif hcall2
        cases hcall3
        simp only [beq_iff_eq] at hci
        rw [hst0] at hDr
        obtain ⟨_, stR, hstR, ⟨ad, had, rfl⟩, hR⟩ := cv_relS_cons hDr
        have hMet := hM as ws (.ref ad :: (stv.take b).reverse) ⟨⟨ad, had, rfl⟩, cv_relS_rev hTk⟩ hH hD
        obtain ⟨ad', en, e1, e2, hE⟩ := hH.2.2 kx _ hk
        cases had.symm.trans e1
        obtain ⟨vs, rfl, -, -⟩ := hE
        subst hl3
        have hrec : ∃ (T : u_T) (N : Nat), cl[ci]? = some ((mt j).1.1, T, N) ∨ (ci = 100 ∧ (mt j).1.1 = "java/lang/String") := by
          rcases o10 with ⟨w1, w2⟩ | ⟨T, N, w⟩
          · exact ⟨fun _ => ("", "", "", false), 0, .inr ⟨hci.trans w1, w2⟩⟩
          · exact ⟨T, N, .inl (by rw [hci]; exact w)⟩
        obtain ⟨T, N, hrec | ⟨w1, w2⟩⟩ := hrec
        · exact cv_go_ok (va_runV (As := (stv.take b).reverse) (rest := stR) (C := (mt j).1.1) ⟨hx, hb, hml, hown, hts⟩ hMet (cwV b hts hG rfl rfl rfl ⟨o2, o5.1, o5.2, o8⟩ hroom) ⟨cv_blind, va_recv hK hP hrec e2, fun U hU hW => hpre _ U hU hW⟩ rfl hn hls (by rw [← hstR]; exact hsplit) (lv_room (by rw [cv_wid_ok hsv hR]; exact f5)) hd hcs) hS (hcont _ hR rfl)
        · obtain ⟨r, rr1, -⟩ := hP kx _ e2
          have := (List.getElem?_eq_some_iff.mp rr1).1
          dsimp only at this
          omega
      · cases hcall2
    · rename_i rest hst0
      obtain ⟨hci, hcall3⟩ := cv_bif hcall2
      cases hcall3
      simp only [beq_iff_eq] at hci
      rw [hst0] at hDr
      obtain ⟨x, stR, hstR, hxx, hR⟩ := cv_relS_cons hDr
      have hx0 : x = .ref q0 := (show x = sv 0 from hxx).trans a1
      subst hx0
      have hMet := hM as ws (.ref q0 :: (stv.take b).reverse) ⟨hxx, cv_relS_rev hTk⟩ hH hD
      subst hl3
      have hC : (mt j).1.1 = "java/lang/String" ∨ ∃ (T : u_T) (N : Nat), cl[100]? = some ((mt j).1.1, T, N) := by
        rcases o10 with ⟨_, w2⟩ | ⟨T, N, w⟩
        · exact .inl w2
        · exact .inr ⟨T, N, by rw [← hci]; exact w⟩
      rcases hC with hC | ⟨T, N, w⟩
      · exact cv_go_ok (va_runV (As := (stv.take b).reverse) (rest := stR) (C := (mt j).1.1) ⟨hx, hb, hml, hown, hts⟩ hMet (cwV b hts hG rfl rfl rfl ⟨o2, o5.1, o5.2, o8⟩ hroom) ⟨cv_blind, by rw [hC]; exact va_Orecv a4 hS, fun U hU hW => hpre _ U hU hW⟩ rfl hn hls (by rw [← hstR]; exact hsplit) (lv_room (by rw [cv_wid_ok hsv hR]; exact f5)) hd hcs) hS (hcont _ hR rfl)
      · have := (List.getElem?_eq_some_iff.mp w).1
        omega
    · cases hcall2
end CVR
