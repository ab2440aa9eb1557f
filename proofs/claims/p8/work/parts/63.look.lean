/-! ===== the law's own look ===== -/
abbrev lk_hh : List (Nat × Nat × Nat × Nat) := [(0, 10, 13, 13), (0, 10, 17, 15)]
def lk_ws : List Jvm.Cond := Jvm.Cond.codeWith yL_look cL_look 5 (some .int) lk_hh :: cv_T
theorem lk_in {w : Jvm.Cond} (h : w ∈ cv_T) : w ∈ cv_T ∧ ((w.onTables && w.keeps) = true ∨ ∃ ty, w = .arrayClass ty) := cv_T_good w h
theorem lk_good7 : GoodIn cv_T (wsV RL 7 RX11 yX11_look (cv_ws cv_T mt_lookC)) := by
  intro w hw
  apply lk_in
  rcases List.mem_append.mp hw with hw | hw
  · simp only [List.mem_cons, List.not_mem_nil, or_false] at hw
    rcases hw with rfl | rfl | rfl | rfl
    · exact cv_in_ok (h := (6, 66)) (by decide +kernel)
    · exact cv_in_ok (h := (6, 67)) (by decide +kernel)
    · exact cv_in_ok (h := (6, 68)) (by decide +kernel)
    · exact okm_lookC.2.2.1
  · rcases List.mem_cons.mp hw with rfl | hw
    · exact okm_lookC.1
    · exact hw
theorem lk_good39 : GoodIn cv_T (va_wsS RL 39 yL_look lk_ws) := by
  intro w hw
  apply lk_in
  rcases List.mem_append.mp hw with hw | hw
  · simp only [List.mem_cons, List.not_mem_nil, or_false] at hw
    rcases hw with rfl | rfl | rfl
    · exact cv_in_ok (h := (6, 61)) (by decide +kernel)
    · exact cv_in_ok (h := (6, 62)) (by decide +kernel)
    · exact cv_in_ok (h := (1, 0)) (by decide +kernel)
  · rcases List.mem_cons.mp hw with rfl | hw
    · exact cv_in_ok lk_cw
    · exact hw
/-- what is left of the law's words after look -/
def lk_K (Gn : Int) (h h' : cv_H) : Prop := cw_T Gn h' ∧ cw_PP Gn h' ∧ lg_S h h' ∧ ∃ y : Int64, h'[149]? = some (cv_cl [y])
theorem lk_K_lo {Gn : Int} {h h' : cv_H} {y : Int64} (hy : h[149]? = some (cv_cl [y])) (k : lo_K Gn h h') : lk_K Gn h h' :=
  ⟨k.1, k.2.1, lg_S_fr k.2.2 (by decide +kernel), y, by rw [k.2.2.1 149 rfl]; exact hy⟩
theorem lk_set_ne {h : cv_H} {k d : Nat} {c : cv_C} (hk : cw_sh[k]? = some d) : (h.set 149 c)[k]? = h[k]? := List.getElem?_set_ne (fun e => by subst e; cases hk)
theorem lk_at_ne {h : cv_H} {k d i : Nat} {c : cv_C} (hk : cw_sh[k]? = some d) : cw_at (h.set 149 c) k i = cw_at h k i := by unfold cw_at; rw [lk_set_ne hk]
theorem lk_T_set {Gn : Int} {h : cv_H} {c : cv_C} (hT : cw_T Gn h) : cw_T Gn (h.set 149 c) := by
  intro k d hk
  have := hT k d hk
  unfold cw_cell at this ⊢
  rw [lk_set_ne hk]
  exact this
theorem lk_K_set {Gn : Int} {h h' : cv_H} {y v : Int64} (hy : h[149]? = some (cv_cl [y])) (k : lo_K Gn h h') : lk_K Gn h (h'.set 149 (cv_cl [v])) := by
  obtain ⟨a1, a2, a3, y', a5⟩ := lk_K_lo hy k
  refine ⟨lk_T_set a1, cw_PPok Gn h' _ a2 (fun k d i hk _ => lk_at_ne hk), fun k d i hk => (lk_at_ne hk).trans (a3 k d i hk), v, ?_⟩
  · exact List.getElem?_set_self (List.getElem?_eq_some_iff.mp a5).1
def ll_b (pc : Nat) (ins : Instr) (len a b : Nat) (z : Int) : Bool := match cv_op mt_LlookC pc with
  | some q => (q.1 == pc) && (decide (q.2.1 = ins) && ((q.2.2.1 == len) && ((q.2.2.2.1 == a) && ((q.2.2.2.2.1 == b) && decide (q.2.2.2.2.2 = z)))))
  | none => false
theorem ll_o {pc : Nat} {ins : Instr} {len a b : Nat} {z : Int} (h : ll_b pc ins len a b z = true) : cv_op mt_LlookC pc = some (pc, ins, len, a, b, z) := by
  unfold ll_b at h
  split at h
  · rename_i q hq
    obtain ⟨q1, q2, q3, q4, q5, q6⟩ := q
    simp only [Bool.and_eq_true, beq_iff_eq, decide_eq_true_eq] at h
    obtain ⟨rfl, rfl, rfl, rfl, rfl, rfl⟩ := h
    exact hq
  · cases h
section LK
variable {D : va_G} {cy : Nat → ClassId} {A : Nat → Prop} {sv : Nat → Value} {l : Launch} {X : cv_X}
set_option maxHeartbeats 4000000 in
theorem lk_Lmet (hl : l.stackTraces = false) {sa sb : Nat} (hsv : ∀ j, sv j = .null ∨ ∃ a, sv j = .ref a) (hX : cw_Xok X) {Gn : Int} {h : cv_H} {y : Int64} (hT : cw_T Gn h) (hPP : cw_PP Gn h) (hy : h[149]? = some (cv_cl [y])) {g w : Int32} {as : List Nat} {ws : va_W} {vs : List Value} (hvs : cv_relS sv as [cv_r 0, cv_i g, cv_i w, cv_r 149] vs) (hH : cv_relH cy sv as h ws) (hD : va_D A ws) :
    Met l yL_look lk_ws (cv_rm mt_LlookC) (lk_Pre D cy A sv sa sb X ws vs) (lk_Qc D cy A sv as (lk_K Gn h)) 20 200 A := by
  refine va_MetW (cc := cL_look) (maxL := 5) (ret := some .int) (hh := lk_hh) (by decide +kernel) rfl ?_
  intro p e s m args below meth c s₁ B hml hv
  obtain ⟨rfl, hP, hK, hA, hSF, hF⟩ := hv
  have hts0 := atoms_spec (ws := lk_ws) B.pre
  have htab : c.exceptionTable.toList = tableOf lk_hh := vx_table (x := yL_look) B (hts0 _ List.mem_cons_self)
  have hts : ∀ w ∈ cv_T, w.before vs.toArray s = true := fun w hw => hts0 w (List.mem_cons_of_mem _ hw)
  have hown : s.vm.findClass RL = some m.cls := findClass_of_methodNamed B.named
  have C0 : cv_Cx cv_T vwCl D cy A sv (cv_no2 X) mt_LlookC p (headSpec lk_ws (cv_rm mt_LlookC)).room s m vs.toArray meth c :=
    ⟨B.exec, B.bytes, hml, hown, hts, B.returns, B.notSynchronized, (name_of_methodNamed B.named B.method).1, hK, hA, hSF, rfl, rfl, Nat.le_refl _, Nat.le_refl _⟩
  have hR : gd_R mt_LlookC (cv_no2 X) (cv_Good vwCl D cy A sv as 5 p l e (headSpec lk_ws (cv_rm mt_LlookC)).room s m vs.toArray below meth c (MQ below (lk_Qc D cy A sv as (lk_K Gn h)) vs.toArray s 20 200 A)) := gd_good C0 ok_LlookC
  have kN : ∀ (x : Int32) (h' : cv_H), lo_K Gn h h' → cv_Good vwCl D cy A sv as 5 p l e (headSpec lk_ws (cv_rm mt_LlookC)).room s m vs.toArray below meth c (MQ below (lk_Qc D cy A sv as (lk_K Gn h)) vs.toArray s 20 200 A) (8, cv_ent 0 [cv_r 0, cv_i g, cv_i w, cv_r 149], [cv_i x, cv_i (Int32.ofInt 0), cv_r 149], h', 10, 100) := by
    intro x h' hK'
    have hy' : h'[149]? = some (cv_cl [y]) := by rw [hK'.2.2.1 149 rfl]; exact hy
    refine hR.1 _ _ (9, cv_ent 0 [cv_r 0, cv_i g, cv_i w, cv_r 149], [cv_l x.toInt64, cv_i (Int32.ofInt 0), cv_r 149], h', 10, 100) (ll_o (show ll_b 8 .i2l 1 0 0 0 = true by decide +kernel)) rfl ?_
    refine hR.1 _ _ (10, cv_ent 0 [cv_r 0, cv_i g, cv_i w, cv_r 149], [], h'.set 149 (cv_cl [x.toInt64]), 10, 100) (ll_o (show ll_b 9 .lastore 1 0 0 0 = true by decide +kernel)) ?_ ?_
    · show (match h'[149]? with
        | some (.inr (.inl xs)) => _
        | _ => _) = _
      rw [hy']
      rfl
    refine hR.1 _ _ (21, cv_ent 0 [cv_r 0, cv_i g, cv_i w, cv_r 149], [], h'.set 149 (cv_cl [x.toInt64]), 10, 100) (ll_o (show ll_b 10 (.goto 11) 3 0 0 0 = true by decide +kernel)) rfl ?_
    refine hR.1 _ _ (22, cv_ent 0 [cv_r 0, cv_i g, cv_i w, cv_r 149], [cv_i (Int32.ofInt 0)], h'.set 149 (cv_cl [x.toInt64]), 10, 100) (ll_o (show ll_b 21 (.iconst 0) 1 0 0 0 = true by decide +kernel)) rfl ?_
    have ho := ll_o (show ll_b 22 .ireturn 1 0 0 0 = true by decide +kernel)
    have hr := cv_ret_ok (l := l) (e := e) (below := below) (as0 := as) (ov := (some (cv_i (Int32.ofInt 0)), h'.set 149 (cv_cl [x.toInt64]))) (q := (22, .ireturn, 1, 0, 0, 0)) (S := (22, cv_ent 0 [cv_r 0, cv_i g, cv_i w, cv_r 149], [cv_i (Int32.ofInt 0)], h'.set 149 (cv_cl [x.toInt64]), 10, 100)) (r := some (cv_i (Int32.ofInt 0))) C0 (ok_LlookC _ (cv_op_ok ho).2) rfl rfl rfl
    intro as' ws' H locs ls stv a1 a2 a3 a4 a5 a6 a7
    exact lk_mono (fun a st o t hq => ⟨_, _, lk_K_set hy hK', hq⟩) (hr as' ws' H locs ls stv a1 a2 a3 a4 a5 a6 a7)
  have hg : cv_Good vwCl D cy A sv as 5 p l e (headSpec lk_ws (cv_rm mt_LlookC)).room s m vs.toArray below meth c (MQ below (lk_Qc D cy A sv as (lk_K Gn h)) vs.toArray s 20 200 A) (0, cv_ent 0 [cv_r 0, cv_i g, cv_i w, cv_r 149], [], h, 0, 0) := by
    refine gd_ld hR (ll_o (show ll_b 0 (.aload_n 3) 1 0 0 0 = true by decide +kernel)) rfl rfl rfl rfl ?_
    refine hR.1 _ _ (2, cv_ent 0 [cv_r 0, cv_i g, cv_i w, cv_r 149], [cv_i (Int32.ofInt 0), cv_r 149], h, 0, 0) (ll_o (show ll_b 1 (.iconst 0) 1 0 0 0 = true by decide +kernel)) rfl ?_
    refine gd_ld hR (ll_o (show ll_b 2 (.aload_n 0) 1 0 0 0 = true by decide +kernel)) rfl rfl rfl rfl ?_
    refine gd_ld hR (ll_o (show ll_b 3 (.iload_n 1) 1 0 0 0 = true by decide +kernel)) rfl rfl rfl rfl ?_
    refine gd_ld hR (ll_o (show ll_b 4 (.iload_n 2) 1 0 0 0 = true by decide +kernel)) rfl rfl rfl rfl ?_
    intro as' ws' H locs ls stv has hH' hP' hD' hS hL hst
    obtain ⟨y2, stv1, rfl, hy2, hst1⟩ := cv_relS_cons hst
    obtain ⟨y1, stv2, rfl, hy1, hst2⟩ := cv_relS_cons hst1
    obtain ⟨_, stv3, rfl, ⟨a0, ha0, rfl⟩, hst3⟩ := cv_relS_cons hst2
    have hls : ls.size = 5 := by
      obtain ⟨lv, g, -⟩ := hL
      exact g.1
    have hmet := lk_met (D := D) (cy := cy) (A := A) (sv := sv) (l := l) (X := cv_no2 X) hl (sa := sa) (sb := sb) hsv (cw_Xok_no2 hX) hT hPP (g := g) (w := w) (as := as') (ws := ws') (vs := [.ref a0, y1, y2]) ⟨⟨a0, ha0, rfl⟩, hy1, hy2, trivial⟩ hH' hD'
    obtain ⟨fsv, hk0, -⟩ := cw_cell_o (d := 11) rfl (hT 0 11 rfl)
    obtain ⟨ad', en, e1, e2, hE⟩ := hH'.2.2 0 _ hk0
    cases ha0.symm.trans e1
    obtain ⟨fs, rfl, -, -⟩ := hE
    have hpre : ∀ U : State, U.heap = H → s.WarmedH U.vm → lk_Pre D cy A sv sa sb (cv_no2 X) ws' [.ref a0, y1, y2] [.ref a0, y1, y2].toArray U := by
      intro U hU hW
      exact ⟨rfl, by rw [hU]; exact hP', va_K.moved hW.alike hK, fun q hq => hA q (Nat.le_trans hS.1 (by rw [← hU]; exact hq)), cv_SF_call hSF hW hU hS, lk_F_call hF hW hU hS⟩
    have hwid := cv_wid_ok hsv hst3
    have hr := vx_runV (p := p) (e := e) (below := below) (meth := meth) (locs := locs) (cells := 0) (slots := 0) (As := [y1, y2]) (rest := stv3) (C := RX11) (own := RL) (index := 7) (g := F0 m 5 ls (y2 :: y1 :: .ref a0 :: stv3)) ⟨B.exec, B.bytes, hml, hown, hts⟩ hmet (cwV (R := (headSpec lk_ws (cv_rm mt_LlookC)).room) 2 hts lk_good7 rfl rfl rfl (by decide +kernel) ⟨Nat.le_of_ble_eq_true rfl, Nat.le_of_ble_eq_true rfl⟩)
      ⟨lk_blind, va_recv hK hP' (ci := 11) (q0 := 0) rfl e2, hpre⟩ rfl rfl hls rfl (lv_room (by rw [hwid]; exact Nat.le_of_ble_eq_true rfl)) (show decode cL_look 5 = .ok (.invokevirtual 7, 3) by decide +kernel) ⟨Nat.le_of_ble_eq_true rfl, Nat.le_of_ble_eq_true rfl⟩
    intro T hTh Y
    rcases hr T hTh Y with ⟨v, st₀, t, T', L, h0, Y', hLf, e1, e2, ⟨x, h', hK', ⟨as2, ws2, rv, hrv, w1, w2, w3, w4, w5⟩, hFr⟩, st⟩ | ⟨q, st₀, t, T', L, E, ce, h0, Y', hLf, e1, e2, ⟨hEE, ⟨h', hK', as2, ws2, w1, w2, w3, w4⟩, hFr⟩, hce, hcv, hcl, st⟩
    · obtain ⟨k1, k2, k3⟩ := vx_keep h0 e1 hS (fun q _ h => h) (fun q h => h) hLf hFr
      cases hrv
      obtain ⟨t2, a1, b2⟩ := kN x h' hK' as2 ws2 T'.heap (locs ++ L) ls (v.toList ++ stv3) (has.trans w1) w3 (by rw [e1]; exact w4) w5 k3 (cv_relL_up w1 hL) (cv_relS_app w2 (cv_relS_up w1 hst3)) T' rfl Y'
      exact ⟨t2, st t2 a1, b2⟩
    · obtain ⟨k1, k2, k3⟩ := vx_keep h0 e1 hS (fun q _ h => h) (fun q h => h) hLf hFr
      obtain ⟨lv, g1, -⟩ := hL
      have hcat : vx_W p l e (headSpec lk_ws (cv_rm mt_LlookC)).room s m vs.toArray below meth c T'.heap (locs ++ L) (0 + 10) (0 + 100) (MQ below (lk_Qc D cy A sv as (lk_K Gn h)) vs.toArray s 20 200 A) (F0 m 5 ls stv3) q := by
        rcases hEE with rfl | rfl
        · refine ct_catch (own := RL) (name := lk_E) hown htab (by decide) (by decide) (hts _ (cv_in_ok (h := (6, 64)) (by decide +kernel))) (va_Nw.use rfl hF.2.2.2.2.1) (by rw [e1]; exact hce) hcv hcl ?_
          refine lv_astore (pc := 13) (i := 4) (nL := 5) B.exec B.bytes (by decide +kernel) g1 (by decide) rfl (fun ls' _ => ?_)
          refine lv_iconst (n := 1) (v := 1) B.exec B.bytes (pc := 15) (by decide +kernel) (by decide) ?_
          refine W.widen (k := 20) (n := 200) (Nat.le_of_ble_eq_true rfl) (Nat.le_of_ble_eq_true rfl) ?_
          refine W.iret (pc := 16) B.exec B.bytes B.returns (fun t' ht' _ => ⟨1, h', lk_K_lo hy hK', ⟨as2, ws2, some (.int 1), rfl, has.trans w1, ⟨rfl, trivial⟩, w2, by rw [ht', e1]; exact w3, w4⟩, k3.F ht'⟩) k3.2.2 (by decide +kernel) B.notSynchronized
        · refine ct_catch2 (own := RL) (name1 := lk_E) (name := lk_E2) hown htab (by decide) (by decide) (by decide) (by decide) (hts _ (cv_in_ok (h := (6, 64)) (by decide +kernel))) (hts _ (cv_in_ok (h := (6, 65)) (by decide +kernel))) hF.2.2.2.2.2.2.2 (va_Nw.use rfl hF.2.2.2.2.2.1) (by rw [e1]; exact hce) hcv hcl ?_
          refine lv_astore (pc := 17) (i := 4) (nL := 5) B.exec B.bytes (by decide +kernel) g1 (by decide) rfl (fun ls' _ => ?_)
          refine lv_iconst (n := 2) (v := 2) B.exec B.bytes (pc := 19) (by decide +kernel) (by decide) ?_
          refine W.widen (k := 20) (n := 200) (Nat.le_of_ble_eq_true rfl) (Nat.le_of_ble_eq_true rfl) ?_
          refine W.iret (pc := 20) B.exec B.bytes B.returns (fun t' ht' _ => ⟨2, h', lk_K_lo hy hK', ⟨as2, ws2, some (.int 2), rfl, has.trans w1, ⟨rfl, trivial⟩, w2, by rw [ht', e1]; exact w3, w4⟩, k3.F ht'⟩) k3.2.2 (by decide +kernel) B.notSynchronized
      obtain ⟨t2, a1, b2⟩ := hcat T' rfl Y'
      exact ⟨t2, st.trans a1, b2⟩
  obtain ⟨g1, g2⟩ := cv_ent_ok hsv 0 hvs
  have hle := lv_entry vs (n := 5) (by rw [g2]; exact Nat.le_of_ble_eq_true rfl)
  rw [lg_entry_eq]
  exact hg as ws s.heap [] _ [] (List.prefix_refl _) hH hP hD va_S.rf ⟨_, hle, g1⟩ trivial
end LK
