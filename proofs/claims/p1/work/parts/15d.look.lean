/-! ===== look: it throws, the law's own method catches ===== -/
def lk_D : List MethodName := [⟨"java/lang/RuntimeException", "<init>", "(Ljava/lang/String;)V"⟩, ⟨"java/lang/Exception", "<init>", "(Ljava/lang/String;)V"⟩, ⟨"java/lang/Throwable", "<init>", "(Ljava/lang/String;)V"⟩]
def lk_B : List Jvm.Cond := Jvm.Cond.castable lk_E lk_E :: lk_D.map Jvm.Cond.declares
theorem lk_bad : ∀ w ∈ (vx_atS RX11 163 lk_E lk_names).filter (fun w => !goodWord w), w ∈ lk_B := by decide +kernel
def lk_F (A : Nat → Prop) (sa : Nat) (U : State) (H : Heap) : Prop := vk_R RX11 161 "no such gate" sa U ∧ vx_Zq Bundle.tN "UNASSIGNED_STACK" Bundle.steD A U H ∧ vx_Zq Bundle.tN "SUPPRESSED_SENTINEL" Bundle.listD A U H ∧ va_Nw (.castable lk_E lk_E) U ∧ ∀ n ∈ lk_D, va_Nw (.declares n) U
theorem lk_F_call {A : Nat → Prop} {sa : Nat} {s U : State} {H : Heap} {locs : List Loc} (h : lk_F A sa s s.heap) (hW : s.WarmedH U.vm) (hU : U.heap = H) (hS : va_S A s.heap H locs) : lk_F A sa U U.heap := by
  obtain ⟨h1, h2, h3, h4, h5⟩ := h
  subst hU
  exact ⟨h1.warm hW, (h2.moved hW.alike).kept hS.2.1, (h3.moved hW.alike).kept hS.2.1, va_Nw.warmC hW h4, fun n hn => va_Nw.warmD hW (h5 n hn)⟩
theorem lk_F_in {A : Nat → Prop} {sa : Nat} {U : State} (h : lk_F A sa U U.heap) (g : JFrame) (mk : MethodId) (a : Array Value) : lk_F A sa (U.calling g mk a) (U.calling g mk a).heap := by
  obtain ⟨h1, h2, h3, h4, h5⟩ := h
  have hvm : U.vm.Alike (U.calling g mk a).vm := Vm.Alike.refl U.vm
  exact ⟨vk_R.same (u := U) rfl h1, h2.moved hvm, h3.moved hvm, va_Nw.same (u := U) rfl rfl h4, fun n hn => va_Nw.same (u := U) rfl rfl (h5 n hn)⟩
theorem lk_start {b : Nat} {s : State} (hts : ∀ w ∈ lw_tbl, w.before #[Value.ref b] s = true) (hgv : (Jvm.Cond.and given_1 narrow_1).before #[Value.ref b] s = true) : ∃ sa, lk_F (fun q => s.heap.size ≤ q) sa s s.heap := by
  have hs := flat_of_before _ hgv
  have hA : ∀ a : Nat, a < s.heap.size → ¬ (fun q : Nat => s.heap.size ≤ q) a := fun a h => Nat.not_le.mpr h
  obtain ⟨a, c, cA, kA, q1, -⟩ := Cond.exactly_spec (args := #[Value.ref b]) (first := s) (o := none) (s := s) (idx := []) (t := Jvm.Term.string "SagGates" 161) (cls := "java/lang/String") (hs (.exactly (.string "SagGates" 161) "java/lang/String") (by decide +kernel))
  refine ⟨a, vk_R.of (hts _ (av_pt_in (k := 6) (List.mem_of_getElem? (i := 110) (by decide +kernel)))) q1, vx_Zqof (hts _ (av_pt_in (k := 6) (List.mem_of_getElem? (i := 97) (by decide +kernel)))) (hts (.initialized Bundle.tN) (av_pt_in (k := 1) (List.mem_of_getElem? (i := 19) (by decide +kernel)))) (hs _ (by decide +kernel)) hA, vx_Zqof (hts _ (av_pt_in (k := 6) (List.mem_of_getElem? (i := 99) (by decide +kernel)))) (hts (.initialized Bundle.tN) (av_pt_in (k := 1) (List.mem_of_getElem? (i := 19) (by decide +kernel)))) (hs _ (by decide +kernel)) hA, va_Nw.of rfl (hts _ (av_pt_in (k := 6) (List.mem_of_getElem? (i := 72) (by decide +kernel)))), fun n hn => ?_⟩
  have hm : ∀ n ∈ lk_D, Jvm.Cond.declares n ∈ lw_tbl := by decide +kernel
  exact va_Nw.of rfl (hts _ (hm n hn))
def op_look : List av_Q := [(0, .aload_n 0, 1, 0, 0, 0), (1, .iload_n 1, 1, 0, 0, 0), (2, .invokevirtual 155, 3, 36, 1, 11), (5, .ifCond .ne 13, 3, 0, 0, 0)]
def mt_look : av_M := ((RX11, yX11_look, cX11_look, 4, some .int), op_look, 10, 100, 9, 160)
set_option maxRecDepth 100000 in
theorem ok_look : ∀ q ∈ op_look, av_ok av_T vwCl mt_all mt_look q := av_zip_ok ok_mm (by decide) okj_all ok_o1 ok_o2 (hs := [[], [], [(5, 0)], []]) (by decide +kernel) (by decide +kernel)
def op_Llook : List av_Q := [(0, .aload_n 3, 1, 0, 0, 0), (1, .iconst 0, 1, 0, 0, 0), (2, .aload_n 0, 1, 0, 0, 0), (3, .iload_n 1, 1, 0, 0, 0), (4, .iload_n 2, 1, 0, 0, 0)]
def mt_Llook : av_M := ((RL, yL_look, cL_look, 5, some .int), op_Llook, 20, 200, 10, 220)
set_option maxRecDepth 100000 in
theorem ok_Llook : ∀ q ∈ op_Llook, av_ok av_T vwCl mt_all mt_Llook q := av_zip_ok ok_mm (by decide) okj_all ok_o1 ok_o2 (hs := [[], [], [], [], []]) (by decide +kernel) (by decide +kernel)
theorem okm_look : av_okM av_T mt_look := ⟨av_pt_T (k := 6) (i := 69) rfl rfl, rfl, av_in_ok (h := (1, 1)) (by decide +kernel), by decide +kernel, by decide +kernel, by decide +kernel⟩
def lk_isg (r : Option av_O) : Bool := match r with
  | some [(some v, h)] => av_vb v (av_i (0, 0)) && av_hb h hp_3
  | _ => false
theorem lk_isg_ok {r : Option av_O} (q : lk_isg r = true) : r = some [(some (av_i (0, 0)), hp_3)] := by
  unfold lk_isg at q
  split at q
  · simp only [Bool.and_eq_true] at q
    rw [av_vb_ok q.1, av_hb_ok q.2]
  · cases q
set_option maxRecDepth 1000000 in
theorem rn_gate : (av_cut (-2147483648) (lw_cuts 4)).all (fun b => lk_isg (av_run fk_all mt_all 100 (wd_bytes, none) 36 op_X11_isGate (0, av_ent 0 [av_r 0, av_i b], [], hp_3, 0, 0))) = true := by decide +kernel
section LK
variable {D : va_G} {cy : Nat → ClassId} {A : Nat → Prop} {sv : Nat → Value} {l : Launch}
def lk_Pre (D : va_G) (cy : Nat → ClassId) (A : Nat → Prop) (sv : Nat → Value) (sa : Nat) (ws : va_W) (vs : List Value) : Array Value → State → Prop :=
  va_Pc vs (fun U => va_P D vwCl ws U.heap ∧ va_K D vwCl (av_tys cy) U ∧ (∀ q, U.heap.size ≤ q → A q) ∧ av_SF A sv (wd_bytes, none) U U.heap ∧ lk_F A sa U U.heap)
theorem lk_blind {sa : Nat} {ws : va_W} {vs : List Value} : FrameBlind (lk_Pre D cy A sv sa ws vs) := by
  intro a U g mk hq
  obtain ⟨q0, q1, q2, q3, q4, q5⟩ := hq
  exact ⟨q0, q1, va_K.moved (u := U) (U := U.calling g mk a) (Vm.Alike.refl U.vm) q2, q3, av_SF_in q4 g mk a, lk_F_in q5 g mk a⟩
def lk_XC (D : va_G) (cy : Nat → ClassId) (A : Nat → Prop) (sv : Nat → Value) (as : List Nat) : String → State → State → Prop := fun E st t =>
  E = lk_E ∧ (∃ (as' : List Nat) (ws' : va_W), as <+: as' ∧ av_relH cy sv as' hp_3 ws' ∧ va_P D vwCl ws' t.heap ∧ va_D A ws') ∧ va_F A st t
theorem lk_met (hl : l.stackTraces = false) {sa : Nat} {b1 : Int × Int} (hb1 : b1 ∈ av_cut (-2147483648) (lw_cuts 4)) (hsv : ∀ j, sv j = .null ∨ ∃ a, sv j = .ref a) {as : List Nat} {ws : va_W} {vs : List Value} (hvs : av_relS sv as [av_r 0, av_i b1, av_i av_top] vs) (hH : av_relH cy sv as hp_3 ws) (hD : va_D A ws) :
    vx_Met l yX11_look (av_ws av_T mt_look) (av_rm mt_look) (lk_Pre D cy A sv sa ws vs) (fun _ _ _ _ => False) (lk_XC D cy A sv as) 10 100 A := by
  refine vx_ofW (cc := cX11_look) (maxL := 4) (ret := some .int) (by decide +kernel) rfl ?_
  intro p e s m args below meth c s₁ B hml htab hv
  obtain ⟨rfl, hP, hK, hA, hSF, hF⟩ := hv
  have hts0 := atoms_spec (ws := av_ws av_T mt_look) B.pre
  have hts : ∀ w ∈ av_T, w.before vs.toArray s = true := fun w hw => hts0 w (List.mem_cons_of_mem _ hw)
  have hown : s.vm.findClass RX11 = some m.cls := findClass_of_methodNamed B.named
  have C0 : av_Cx av_T vwCl D cy A sv (wd_bytes, none) mt_look p (headSpec (av_ws av_T mt_look) (av_rm mt_look)).room s m vs.toArray meth c :=
    ⟨B.exec, B.bytes, hml, hown, hts, B.returns, B.notSynchronized, (name_of_methodNamed B.named B.method).1, hK, hA, hSF, rfl, rfl, Nat.le_refl _, Nat.le_refl _⟩
  have hg : av_Good vwCl D cy A sv as 4 p l e (headSpec (av_ws av_T mt_look) (av_rm mt_look)).room s m vs.toArray below meth c (vx_MQ below (fun _ _ _ _ => False) (lk_XC D cy A sv as) vs.toArray s 10 100 A) (0, av_ent 0 [av_r 0, av_i b1, av_i av_top], [], hp_3, 0, 0) := by
    refine av_stp_ok (mt := mt_all) C0 cls_all lw_c4 lw_c5 lw_c100 ok_look 2 op_look _ (2, av_ent 0 [av_r 0, av_i b1, av_i av_top], [av_i b1, av_r 0], hp_3, 0, 0) rfl ok_look ?_
    have m1 : av_Met av_T vwCl D cy A sv l wd_bytes (mt_all 36) [av_r 0, av_i b1] hp_3 [(some (av_i (0, 0)), hp_3)] := av_MetRun (fuel := 100) hsv (lk_isg_ok (List.all_eq_true.mp rn_gate b1 hb1)) okm_X11_isGate rfl (Nat.le_of_ble_eq_true rfl)
    refine av_call_ok (q := (2, .invokevirtual 155, 3, 36, 1, 11)) (j := 36) (av := [av_r 0, av_i b1]) (stk := []) (mt := mt_all) C0 av_T_good lw_c100 (ok_look _ (List.mem_of_getElem? (i := 2) rfl)) rfl (by decide) (by rfl) (by rfl) m1 fun ov hov => ?_
    obtain rfl : ov = (some (av_i (0, 0)), hp_3) := by simpa using hov
    refine av_stp_ok (mt := mt_all) C0 cls_all lw_c4 lw_c5 lw_c100 ok_look 1 (op_look.drop 3) _ (8, av_ent 0 [av_r 0, av_i b1, av_i av_top], [], hp_3, 0, 0) rfl (fun q h => ok_look q (List.mem_of_mem_drop h)) ?_
    intro as' ws' H locs ls stv has hH' hP' hD' hS hL hst
    have := av_relS_nil hst
    subst this
    obtain ⟨f1, f2, f3, f4, f5⟩ := hF
    have hls : ls.size = c.maxLocals := by
      obtain ⟨lv, g, -⟩ := hL
      rw [hml]; exact g.1
    have hat : ∀ w ∈ vx_atS RX11 163 lk_E lk_names, w.before vs.toArray s = true := vx_hat (fun w hw => hts w (List.mem_filter.mpr ⟨lk_good w hw, (List.mem_filter.mp hw).2⟩)) lk_bad (fun w hw => by
      rcases List.mem_cons.mp hw with rfl | hw
      · exact va_Nw.use rfl f4
      · obtain ⟨n, hn, rfl⟩ := List.mem_map.mp hw
        exact va_Nw.use rfl (f5 n hn))
    exact vx_throwS (pc := 8) (ik := 159) (is := 161) (ic := 163) (names := lk_names) (cls := lk_E) (own := RX11) B.exec B.bytes hl hown lk_fit lk_fits (hts _ (av_in_ok (h := (6, 70)) (by decide +kernel))) (hts _ (av_in_ok (h := (1, 22)) (by decide +kernel))) f1 hat lk_ot f2 f3 hS hls (by decide +kernel) (by decide +kernel) (by decide +kernel) (by decide +kernel) (by decide +kernel)
      (fun x hx => absurd hx (fun q => htab x q)) (Nat.le_of_ble_eq_true rfl) (Nat.le_of_ble_eq_true rfl) (Nat.le_of_ble_eq_true rfl) (Nat.le_of_ble_eq_true rfl) B.notSynchronized
      (fun t _ h1 h2 => ⟨rfl, ⟨as', ws', has, hH', hP'.kept (fun k x hx => h2 x.1 ((hP' k x hx).lt)), hD'⟩, Nat.le_trans hS.1 h1, fun q q1 q2 => (h2 q (Nat.lt_of_lt_of_le q1 hS.1)).trans (hS.2.1 q q1 q2)⟩)
      hS.2.2 (Nat.le_of_ble_eq_true rfl) (Nat.le_of_ble_eq_true rfl)
  obtain ⟨g1, g2⟩ := av_ent_ok hsv 0 hvs rfl
  have hle := lv_entry vs (n := 4) (by rw [g2]; exact Nat.le_of_ble_eq_true rfl)
  rw [lg_entry_eq]
  exact hg as ws s.heap [] _ [] (List.prefix_refl _) hH hP hD va_S.rf ⟨_, hle, g1⟩ trivial
end LK
