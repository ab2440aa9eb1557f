/-! ===== look: it answers or throws, the law's own method catches ===== -/
def lk_E : String := "java/lang/IndexOutOfBoundsException"
def lk_E2 : String := "java/util/NoSuchElementException"
def lk_names : List String := ["java/lang/RuntimeException", "java/lang/Exception"]
theorem lk_fit : Bundle.fit lk_E = true := by decide +kernel
theorem lk_fit2 : Bundle.fit lk_E2 = true := by decide +kernel
theorem lk_fits : ∀ n ∈ lk_names, Bundle.fit n = true := by decide +kernel
theorem lk_ot : ∀ w ∈ Jvm.Cond.classLink RX11 159 lk_E :: Jvm.Cond.initialized lk_E :: vx_atS RX11 163 lk_E lk_names, vx_ot w = true := by decide +kernel
theorem lk_ot2 : ∀ w ∈ Jvm.Cond.classLink RX11 166 lk_E2 :: Jvm.Cond.initialized lk_E2 :: vz_atS RX11 170 lk_E2 13 prog_29_method_4_code lk_names, vx_ot w = true := by decide +kernel
theorem lk_cw : cv_in (6, 63) (.codeWith yL_look cL_look 5 (some .int) [(0, 10, 13, 13), (0, 10, 17, 15)]) = true := by decide +kernel
theorem lk_good : ∀ w ∈ (vx_atS RX11 163 lk_E lk_names).filter goodWord, w ∈ lw_tbl := by decide +kernel
theorem lk_good2 : ∀ w ∈ (vz_atS RX11 170 lk_E2 13 prog_29_method_4_code lk_names).filter goodWord, w ∈ lw_tbl := by decide +kernel
def lk_D : List MethodName := [⟨"java/lang/RuntimeException", "<init>", "(Ljava/lang/String;)V"⟩, ⟨"java/lang/Exception", "<init>", "(Ljava/lang/String;)V"⟩, ⟨"java/lang/Throwable", "<init>", "(Ljava/lang/String;)V"⟩]
def lk_B : List Jvm.Cond := Jvm.Cond.castable lk_E lk_E :: lk_D.map Jvm.Cond.declares
def lk_B2 : List Jvm.Cond := Jvm.Cond.castable lk_E2 lk_E2 :: lk_D.map Jvm.Cond.declares
theorem lk_bad : ∀ w ∈ (vx_atS RX11 163 lk_E lk_names).filter (fun w => !goodWord w), w ∈ lk_B := by decide +kernel
theorem lk_bad2 : ∀ w ∈ (vz_atS RX11 170 lk_E2 13 prog_29_method_4_code lk_names).filter (fun w => !goodWord w), w ∈ lk_B2 := by decide +kernel
def lk_F (A : Nat → Prop) (sa sb : Nat) (U : State) (H : Heap) : Prop := vk_R RX11 161 "no such gate" sa U ∧ vk_R RX11 168 "no such what" sb U ∧ vx_Zq Bundle.tN "UNASSIGNED_STACK" Bundle.steD A U H ∧ vx_Zq Bundle.tN "SUPPRESSED_SENTINEL" Bundle.listD A U H ∧ va_Nw (.castable lk_E lk_E) U ∧ va_Nw (.castable lk_E2 lk_E2) U ∧ (∀ n ∈ lk_D, va_Nw (.declares n) U) ∧ va_Nc lk_E2 lk_E U
theorem lk_F_call {A : Nat → Prop} {sa sb : Nat} {s U : State} {H : Heap} {locs : List Loc} (h : lk_F A sa sb s s.heap) (hW : s.WarmedH U.vm) (hU : U.heap = H) (hS : va_S A s.heap H locs) : lk_F A sa sb U U.heap := by
  obtain ⟨h1, h1b, h2, h3, h4, h4b, h5, h6⟩ := h
  subst hU
  exact ⟨h1.warm hW, h1b.warm hW, (h2.moved hW.alike).kept hS.2.1, (h3.moved hW.alike).kept hS.2.1, va_Nw.warmC hW h4, va_Nw.warmC hW h4b, fun n hn => va_Nw.warmD hW (h5 n hn), h6.moved hW.alike⟩
theorem lk_F_in {A : Nat → Prop} {sa sb : Nat} {U : State} (h : lk_F A sa sb U U.heap) (g : JFrame) (mk : MethodId) (a : Array Value) : lk_F A sa sb (U.calling g mk a) (U.calling g mk a).heap := by
  obtain ⟨h1, h1b, h2, h3, h4, h4b, h5, h6⟩ := h
  have hvm : U.vm.Alike (U.calling g mk a).vm := Vm.Alike.refl U.vm
  exact ⟨vk_R.same (u := U) rfl h1, vk_R.same (u := U) rfl h1b, h2.moved hvm, h3.moved hvm, va_Nw.same (u := U) rfl rfl h4, va_Nw.same (u := U) rfl rfl h4b, fun n hn => va_Nw.same (u := U) rfl rfl (h5 n hn), h6.moved hvm⟩
theorem lk_start {b : Nat} {s : State} (hts : ∀ w ∈ lw_tbl, w.before #[Value.ref b] s = true) (hgv : (Jvm.Cond.and given_1 narrow_1).before #[Value.ref b] s = true) : ∃ sa sb, lk_F (fun q => s.heap.size ≤ q) sa sb s s.heap := by
  have hs := flat_of_before _ hgv
  have hA : ∀ a : Nat, a < s.heap.size → ¬ (fun q : Nat => s.heap.size ≤ q) a := fun a h => Nat.not_le.mpr h
  obtain ⟨a, c, cA, kA, q1, -⟩ := Cond.exactly_spec (args := #[Value.ref b]) (first := s) (o := none) (s := s) (idx := []) (t := Jvm.Term.string "SagGates" 161) (cls := "java/lang/String") (hs (.exactly (.string "SagGates" 161) "java/lang/String") (by decide +kernel))
  obtain ⟨a2, c2, cA2, kA2, q2, -⟩ := Cond.exactly_spec (args := #[Value.ref b]) (first := s) (o := none) (s := s) (idx := []) (t := Jvm.Term.string "SagGates" 168) (cls := "java/lang/String") (hs (.exactly (.string "SagGates" 168) "java/lang/String") (by decide +kernel))
  refine ⟨a, a2, vk_R.of (hts _ (cv_pt_in (k := 6) (List.mem_of_getElem? (i := 110) (by decide +kernel)))) q1, vk_R.of (hts _ (cv_pt_in (k := 6) (List.mem_of_getElem? (i := 145) (by decide +kernel)))) q2, vx_Zqof (hts _ (cv_pt_in (k := 6) (List.mem_of_getElem? (i := 97) (by decide +kernel)))) (hts (.initialized Bundle.tN) (cv_pt_in (k := 1) (List.mem_of_getElem? (i := 19) (by decide +kernel)))) (hs _ (by decide +kernel)) hA, vx_Zqof (hts _ (cv_pt_in (k := 6) (List.mem_of_getElem? (i := 99) (by decide +kernel)))) (hts (.initialized Bundle.tN) (cv_pt_in (k := 1) (List.mem_of_getElem? (i := 19) (by decide +kernel)))) (hs _ (by decide +kernel)) hA, va_Nw.of rfl (hts _ (cv_pt_in (k := 6) (List.mem_of_getElem? (i := 72) (by decide +kernel)))), va_Nw.of rfl (hts _ (cv_pt_in (k := 6) (List.mem_of_getElem? (i := 138) (by decide +kernel)))), fun n hn => ?_, va_Nc.of (hs (.not (.castable lk_E2 lk_E)) (by decide +kernel))⟩
  have hm : ∀ n ∈ lk_D, Jvm.Cond.declares n ∈ lw_tbl := by decide +kernel
  exact va_Nw.of rfl (hts _ (hm n hn))
/-! ===== a frame's goal is closed under the small machine's steps ===== -/
section GD
variable {D : va_G} {cy : Nat → ClassId} {A : Nat → Prop} {sv : Nat → Value} {as0 : List Nat} {X : cv_X} {M : cv_M} {p : Program} {l : Launch} {e : Env} {R : Room} {s : State} {m : MethodId} {args : Array Value} {below : List Frame} {meth : Method} {c : Code} {Q : State → Prop}
theorem gd_good (C0 : cv_Cx cv_T vwCl D cy A sv X M p R s m args meth c) (hok : ∀ q ∈ M.2.1, cv_ok cv_T vwCl mt_all M q) : gd_R M X (cv_Good vwCl D cy A sv as0 M.1.2.2.2.1 p l e R s m args below meth c Q) := by
  obtain ⟨hgood, hcls, hcl4, hcl5, h100, h9, hall⟩ := al_all
  have hsv := C0.2.2.2.2.2.2.2.2.2.2.1.1
  refine ⟨fun q S S' ho h1 k => ?_, fun q S j av stk o ho hn hcall hfits hev k => ?_⟩
  · obtain ⟨hq, hmem⟩ := cv_op_ok ho
    exact cv_one_ok C0 hcls hcl4 hcl5 h100 (hok q hmem) hq h1 k
  · obtain ⟨hq, hmem⟩ := cv_op_ok ho
    obtain ⟨N, hrun⟩ := hev
    have hMet : cv_Met cv_T vwCl D cy A sv l X (mt_all j) av S.2.2.2.1 o := by
      refine cv_met_ok hsv (cv_call_okM (hok q hmem) hn hcall) ?_ ?_
      · unfold cv_fits at hfits
        simp only [Bool.and_eq_true, decide_eq_true_eq] at hfits
        exact hfits.1
      · intro as1 p1 e1 R1 s1 m1 args1 below1 meth1 c1 C1
        exact cv_run_ok al_all N (cv_no2 X) j _ o hrun as1 p1 e1 R1 s1 m1 args1 below1 meth1 c1 _ C1 fun q3 S3 r3 a1 a2 a3 a4 => cv_ret_ok C1 a1 a2 a3 a4
    exact cv_call_ok C0 hgood h100 (hok q hmem) hq hn hcall hfits hMet k
end GD
section LK
variable {D : va_G} {cy : Nat → ClassId} {A : Nat → Prop} {sv : Nat → Value} {l : Launch} {X : cv_X}
def lk_Pre (D : va_G) (cy : Nat → ClassId) (A : Nat → Prop) (sv : Nat → Value) (sa sb : Nat) (X : cv_X) (ws : va_W) (vs : List Value) : Array Value → State → Prop :=
  va_Pc vs (fun U => va_P D vwCl ws U.heap ∧ va_K D vwCl (cv_tys cy) U ∧ (∀ q, U.heap.size ≤ q → A q) ∧ cv_SF A sv (cv_no2 X) U U.heap ∧ lk_F A sa sb U U.heap)
theorem lk_blind {sa sb : Nat} {ws : va_W} {vs : List Value} : FrameBlind (lk_Pre D cy A sv sa sb X ws vs) := by
  intro a U g mk hq
  obtain ⟨q0, q1, q2, q3, q4, q5⟩ := hq
  exact ⟨q0, q1, va_K.moved (u := U) (U := U.calling g mk a) (Vm.Alike.refl U.vm) q2, q3, cv_SF_in q4 g mk a, lk_F_in q5 g mk a⟩
def lk_Qc (D : va_G) (cy : Nat → ClassId) (A : Nat → Prop) (sv : Nat → Value) (as : List Nat) (K : cv_H → Prop) : Array Value → State → Outcome → State → Prop := fun a st o t =>
  ∃ (x : Int32) (h' : cv_H), K h' ∧ cv_Qc vwCl D cy A sv as (some (cv_i x), h') a st o t
def lk_XC (D : va_G) (cy : Nat → ClassId) (A : Nat → Prop) (sv : Nat → Value) (as : List Nat) (K : cv_H → Prop) : String → State → State → Prop := fun E st t =>
  (E = lk_E ∨ E = lk_E2) ∧ (∃ h', K h' ∧ ∃ (as' : List Nat) (ws' : va_W), as <+: as' ∧ cv_relH cy sv as' h' ws' ∧ va_P D vwCl ws' t.heap ∧ va_D A ws') ∧ va_F A st t
theorem lk_mono {p : Program} {e : Env} {R : Room} {s : State} {m : MethodId} {args : Array Value} {below : List Frame} {meth : Method} {c : Code} {H : Heap} {locs : List Loc} {cells slots mc ms : Nat} {g : JFrame} {free : Addr → Prop} {Q1 Q2 : Array Value → State → Outcome → State → Prop} (hQ : ∀ a st o t, Q1 a st o t → Q2 a st o t)
    (k : W p l e R s m args below meth c H locs cells slots (MQ below Q1 args s mc ms free) g) : W p l e R s m args below meth c H locs cells slots (MQ below Q2 args s mc ms free) g := by
  intro T hT Y
  obtain ⟨t, a1, o, b1, b2, b3, b4⟩ := k T hT Y
  exact ⟨t, a1, o, b1, b2, hQ _ _ _ _ b3, b4⟩
theorem lo_ret_op : ∀ pc ∈ lo_rets, lo_b pc .ireturn 1 0 0 0 = true := by decide +kernel
set_option maxHeartbeats 4000000 in
theorem lk_met (hl : l.stackTraces = false) {sa sb : Nat} (hsv : ∀ j, sv j = .null ∨ ∃ a, sv j = .ref a) (hX : cw_Xok X) {Gn : Int} {h : cv_H} (hT : cw_T Gn h) (hPP : cw_PP Gn h) {g w : Int32} {as : List Nat} {ws : va_W} {vs : List Value} (hvs : cv_relS sv as [cv_r 0, cv_i g, cv_i w] vs) (hH : cv_relH cy sv as h ws) (hD : va_D A ws) :
    vx_Met l yX11_look (cv_ws cv_T mt_lookC) (cv_rm mt_lookC) (lk_Pre D cy A sv sa sb X ws vs) (lk_Qc D cy A sv as (lo_K Gn h)) (lk_XC D cy A sv as (lo_K Gn h)) 10 100 A := by
  refine vx_ofW (cc := cX11_look) (maxL := 4) (ret := some .int) (by decide +kernel) rfl ?_
  intro p e s m args below meth c s₁ B hml htab hv
  obtain ⟨rfl, hP, hK, hA, hSF, hF⟩ := hv
  have hts0 := atoms_spec (ws := cv_ws cv_T mt_lookC) B.pre
  have hts : ∀ w ∈ cv_T, w.before vs.toArray s = true := fun w hw => hts0 w (List.mem_cons_of_mem _ hw)
  have hown : s.vm.findClass RX11 = some m.cls := findClass_of_methodNamed B.named
  have C0 : cv_Cx cv_T vwCl D cy A sv (cv_no2 X) mt_lookC p (headSpec (cv_ws cv_T mt_lookC) (cv_rm mt_lookC)).room s m vs.toArray meth c :=
    ⟨B.exec, B.bytes, hml, hown, hts, B.returns, B.notSynchronized, (name_of_methodNamed B.named B.method).1, hK, hA, hSF, rfl, rfl, Nat.le_refl _, Nat.le_refl _⟩
  obtain ⟨f1, f1b, f2, f3, f4, f4b, f5, f6⟩ := hF
  have hg : cv_Good vwCl D cy A sv as 4 p l e (headSpec (cv_ws cv_T mt_lookC) (cv_rm mt_lookC)).room s m vs.toArray below meth c (vx_MQ below (lk_Qc D cy A sv as (lo_K Gn h)) (lk_XC D cy A sv as (lo_K Gn h)) vs.toArray s 10 100 A) (0, cv_ent 0 [cv_r 0, cv_i g, cv_i w], [], h, 0, 0) := by
    refine lo_walk (X := cv_no2 X) (Gn := Gn) (gd_good C0 ok_lookC) (cw_Xok_no2 hX) hT hPP g w (fun pc L x h' hpc hK' => ?_) (fun L h' hK' => ?_) (fun L h' hK' => ?_)
    · have ho := lo_o (lo_ret_op pc hpc)
      have hr := cv_ret_ok (l := l) (e := e) (below := below) (as0 := as) (ov := (some (cv_i x), h')) (q := (pc, .ireturn, 1, 0, 0, 0)) (S := (pc, L, [cv_i x], h', 0, 0)) (r := some (cv_i x)) C0 (ok_lookC _ (cv_op_ok ho).2) rfl rfl rfl
      intro as' ws' H locs ls stv a1 a2 a3 a4 a5 a6 a7
      exact vx_ret (lk_mono (fun a st o t hq => ⟨x, h', hK', hq⟩) (hr as' ws' H locs ls stv a1 a2 a3 a4 a5 a6 a7))
    · intro as' ws' H locs ls stv has hH' hP' hD' hS hL hst
      have := cv_relS_nil hst
      subst this
      have hls : ls.size = c.maxLocals := by
        obtain ⟨lv, g, -⟩ := hL
        rw [hml]; exact g.1
      have hat : ∀ w ∈ vx_atS RX11 163 lk_E lk_names, w.before vs.toArray s = true := vx_hat (fun w hw => hts w (List.mem_filter.mpr ⟨lk_good w hw, (List.mem_filter.mp hw).2⟩)) lk_bad (fun w hw => by
        rcases List.mem_cons.mp hw with rfl | hw
        · exact va_Nw.use rfl f4
        · obtain ⟨n, hn, rfl⟩ := List.mem_map.mp hw
          exact va_Nw.use rfl (f5 n hn))
      exact vx_throwS (pc := 8) (ik := 159) (is := 161) (ic := 163) (names := lk_names) (cls := lk_E) (own := RX11) B.exec B.bytes hl hown lk_fit lk_fits (hts _ (cv_in_ok (h := (6, 70)) (by decide +kernel))) (hts _ (cv_in_ok (h := (1, 22)) (by decide +kernel))) f1 hat lk_ot f2 f3 hS hls (by decide +kernel) (by decide +kernel) (by decide +kernel) (by decide +kernel) (by decide +kernel)
        (fun x hx => absurd hx (fun q => htab x q)) (Nat.le_of_ble_eq_true rfl) (Nat.le_of_ble_eq_true rfl) (Nat.le_of_ble_eq_true rfl) (Nat.le_of_ble_eq_true rfl) B.notSynchronized
        (fun t _ h1 h2 => ⟨.inl rfl, ⟨h', hK', as', ws', has, hH', hP'.kept (fun k x hx => h2 x.1 ((hP' k x hx).lt)), hD'⟩, Nat.le_trans hS.1 h1, fun q q1 q2 => (h2 q (Nat.lt_of_lt_of_le q1 hS.1)).trans (hS.2.1 q q1 q2)⟩)
        hS.2.2 (Nat.le_of_ble_eq_true rfl) (Nat.le_of_ble_eq_true rfl)
    · intro as' ws' H locs ls stv has hH' hP' hD' hS hL hst
      have := cv_relS_nil hst
      subst this
      have hls : ls.size = c.maxLocals := by
        obtain ⟨lv, g, -⟩ := hL
        rw [hml]; exact g.1
      have hat : ∀ w ∈ vz_atS RX11 170 lk_E2 13 prog_29_method_4_code lk_names, w.before vs.toArray s = true := vx_hat (fun w hw => hts w (List.mem_filter.mpr ⟨lk_good2 w hw, (List.mem_filter.mp hw).2⟩)) lk_bad2 (fun w hw => by
        rcases List.mem_cons.mp hw with rfl | hw
        · exact va_Nw.use rfl f4b
        · obtain ⟨n, hn, rfl⟩ := List.mem_map.mp hw
          exact va_Nw.use rfl (f5 n hn))
      exact vz_throwS (pc := 28) (ik := 166) (is := 168) (ic := 170) (names := lk_names) (cls := lk_E2) (own := RX11) (ix := 13) (rx := prog_29_method_4_code) B.exec B.bytes hl (by decide +kernel) (by decide +kernel) (by decide +kernel) (by decide +kernel) hown lk_fit2 lk_fits (hts _ (cv_in_ok (h := (6, 136)) (by decide +kernel))) (hts _ (cv_in_ok (h := (1, 23)) (by decide +kernel))) f1b hat lk_ot2 f2 f3 hS hls (by decide +kernel) (by decide +kernel) (by decide +kernel) (by decide +kernel) (by decide +kernel)
        (fun x hx => absurd hx (fun q => htab x q)) (Nat.le_of_ble_eq_true rfl) (Nat.le_of_ble_eq_true rfl) (Nat.le_of_ble_eq_true rfl) (Nat.le_of_ble_eq_true rfl) B.notSynchronized
        (fun t _ h1 h2 => ⟨.inr rfl, ⟨h', hK', as', ws', has, hH', hP'.kept (fun k x hx => h2 x.1 ((hP' k x hx).lt)), hD'⟩, Nat.le_trans hS.1 h1, fun q q1 q2 => (h2 q (Nat.lt_of_lt_of_le q1 hS.1)).trans (hS.2.1 q q1 q2)⟩)
        hS.2.2 (Nat.le_of_ble_eq_true rfl) (Nat.le_of_ble_eq_true rfl)
  obtain ⟨g1, g2⟩ := cv_ent_ok hsv 0 hvs
  have hle := lv_entry vs (n := 4) (by rw [g2]; exact Nat.le_of_ble_eq_true rfl)
  rw [lg_entry_eq]
  exact hg as ws s.heap [] _ [] (List.prefix_refl _) hH hP hD va_S.rf ⟨_, hle, g1⟩ trivial
end LK
