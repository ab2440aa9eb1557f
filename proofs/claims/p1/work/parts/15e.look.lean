/-! ===== the law's steps to the call of look ===== -/
theorem lk_steps (b1 : Int × Int) : av_stp (wd_bytes, some (lw_row b1)) fk_all mt_L_law 13 (av_from 40 op_L_law) (40, lw_loc, [av_i (Int.ofNat 4, Int.ofNat 4)], hp_3, 150, 5612) = some (374, lw_loc, [av_r 149, av_i av_top, av_i b1, av_r 0], hp_3, 150, 5612) := by
  rfl
/-! ===== the law's own look: it catches and answers 1 ===== -/
section LK
variable {D : va_G} {cy : Nat → ClassId} {A : Nat → Prop} {sv : Nat → Value} {l : Launch}
abbrev lk_hh : List (Nat × Nat × Nat × Nat) := [(0, 10, 13, 13), (0, 10, 17, 15)]
def lk_ws : List Jvm.Cond := Jvm.Cond.codeWith yL_look cL_look 5 (some .int) lk_hh :: av_T
theorem lk_in {w : Jvm.Cond} (h : w ∈ av_T) : w ∈ av_T ∧ ((w.onTables && w.keeps) = true ∨ ∃ ty, w = .arrayClass ty) := av_T_good w h
theorem lk_good7 : GoodIn av_T (wsV RL 7 RX11 yX11_look (av_ws av_T mt_look)) := by
  intro w hw
  apply lk_in
  rcases List.mem_append.mp hw with hw | hw
  · simp only [List.mem_cons, List.not_mem_nil, or_false] at hw
    rcases hw with rfl | rfl | rfl | rfl
    · exact av_in_ok (h := (6, 66)) (by decide +kernel)
    · exact av_in_ok (h := (6, 67)) (by decide +kernel)
    · exact av_in_ok (h := (6, 68)) (by decide +kernel)
    · exact okm_look.2.2.1
  · rcases List.mem_cons.mp hw with rfl | hw
    · exact okm_look.1
    · exact hw
theorem lk_good39 : GoodIn av_T (va_wsS RL 39 yL_look lk_ws) := by
  intro w hw
  apply lk_in
  rcases List.mem_append.mp hw with hw | hw
  · simp only [List.mem_cons, List.not_mem_nil, or_false] at hw
    rcases hw with rfl | rfl | rfl
    · exact av_in_ok (h := (6, 61)) (by decide +kernel)
    · exact av_in_ok (h := (6, 62)) (by decide +kernel)
    · exact av_in_ok (h := (1, 0)) (by decide +kernel)
  · rcases List.mem_cons.mp hw with rfl | hw
    · exact av_in_ok lk_cw
    · exact hw
set_option maxHeartbeats 4000000 in
theorem lk_Lmet (hl : l.stackTraces = false) {sa : Nat} {b1 : Int × Int} (hb1 : b1 ∈ av_cut (-2147483648) (lw_cuts 4)) (hsv : ∀ j, sv j = .null ∨ ∃ a, sv j = .ref a) {as : List Nat} {ws : va_W} {vs : List Value} (hvs : av_relS sv as [av_r 0, av_i b1, av_i av_top, av_r 149] vs) (hH : av_relH cy sv as hp_3 ws) (hD : va_D A ws) :
    Met l yL_look lk_ws (av_rm mt_Llook) (lk_Pre D cy A sv sa ws vs) (av_Qc vwCl D cy A sv as [(some (av_i (1, 1)), hp_3)]) 20 200 A := by
  refine va_MetW (cc := cL_look) (maxL := 5) (ret := some .int) (hh := lk_hh) (by decide +kernel) rfl ?_
  intro p e s m args below meth c s₁ B hml hv
  obtain ⟨rfl, hP, hK, hA, hSF, hF⟩ := hv
  have hts0 := atoms_spec (ws := lk_ws) B.pre
  have htab : c.exceptionTable.toList = tableOf lk_hh := vx_table (x := yL_look) B (hts0 _ List.mem_cons_self)
  have hts : ∀ w ∈ av_T, w.before vs.toArray s = true := fun w hw => hts0 w (List.mem_cons_of_mem _ hw)
  have hown : s.vm.findClass RL = some m.cls := findClass_of_methodNamed B.named
  have C0 : av_Cx av_T vwCl D cy A sv (wd_bytes, none) mt_Llook p (headSpec lk_ws (av_rm mt_Llook)).room s m vs.toArray meth c :=
    ⟨B.exec, B.bytes, hml, hown, hts, B.returns, B.notSynchronized, (name_of_methodNamed B.named B.method).1, hK, hA, hSF, rfl, rfl, Nat.le_refl _, Nat.le_refl _⟩
  have hg : av_Good vwCl D cy A sv as 5 p l e (headSpec lk_ws (av_rm mt_Llook)).room s m vs.toArray below meth c (MQ below (av_Qc vwCl D cy A sv as [(some (av_i (1, 1)), hp_3)]) vs.toArray s 20 200 A) (0, av_ent 0 [av_r 0, av_i b1, av_i av_top, av_r 149], [], hp_3, 0, 0) := by
    refine av_stp_ok (mt := mt_all) C0 cls_all lw_c4 lw_c5 lw_c100 ok_Llook 5 op_Llook _ (5, av_ent 0 [av_r 0, av_i b1, av_i av_top, av_r 149], [av_i av_top, av_i b1, av_r 0, av_c (Int32.ofInt 0), av_r 149], hp_3, 0, 0) rfl ok_Llook ?_
    intro as' ws' H locs ls stv has hH' hP' hD' hS hL hst
    obtain ⟨y2, stv1, rfl, hy2, hst1⟩ := av_relS_cons hst
    obtain ⟨y1, stv2, rfl, hy1, hst2⟩ := av_relS_cons hst1
    obtain ⟨_, stv3, rfl, ⟨a0, ha0, rfl⟩, hst3⟩ := av_relS_cons hst2
    have hls : ls.size = 5 := by
      obtain ⟨lv, g, -⟩ := hL
      exact g.1
    have hmet := lk_met (D := D) (cy := cy) (A := A) (sv := sv) (l := l) hl (sa := sa) hb1 hsv (as := as') (ws := ws') (vs := [.ref a0, y1, y2]) ⟨⟨a0, ha0, rfl⟩, hy1, hy2, trivial⟩ hH' hD'
    have hk0 : hp_3[0]? = some (.inr (11, _)) := rfl
    obtain ⟨ad', en, e1, e2, hE⟩ := hH'.2.2 0 _ hk0
    cases ha0.symm.trans e1
    obtain ⟨fs, rfl, -, -⟩ := hE
    have hpre : ∀ U : State, U.heap = H → s.WarmedH U.vm → lk_Pre D cy A sv sa ws' [.ref a0, y1, y2] [.ref a0, y1, y2].toArray U := by
      intro U hU hW
      exact ⟨rfl, by rw [hU]; exact hP', va_K.moved hW.alike hK, fun q hq => hA q (Nat.le_trans hS.1 (by rw [← hU]; exact hq)), av_SF_call hSF hW hU hS, lk_F_call hF hW hU hS⟩
    have hwid := av_wid_ok hsv hst3
    have hr := vx_runV (p := p) (e := e) (below := below) (meth := meth) (locs := locs) (cells := 0) (slots := 0) (As := [y1, y2]) (rest := stv3) (C := RX11) (own := RL) (index := 7) (g := F0 m 5 ls (y2 :: y1 :: .ref a0 :: stv3)) ⟨B.exec, B.bytes, hml, hown, hts⟩ hmet (cwV (R := (headSpec lk_ws (av_rm mt_Llook)).room) 2 hts lk_good7 rfl rfl rfl (by decide +kernel) ⟨Nat.le_of_ble_eq_true rfl, Nat.le_of_ble_eq_true rfl⟩)
      ⟨lk_blind, va_recv hK hP' (ci := 11) (q0 := 0) rfl e2, hpre⟩ rfl rfl hls rfl (lv_room (by rw [hwid]; exact Nat.le_of_ble_eq_true rfl)) (show decode cL_look 5 = .ok (.invokevirtual 7, 3) by decide +kernel) ⟨Nat.le_of_ble_eq_true rfl, Nat.le_of_ble_eq_true rfl⟩
    intro T hT X
    rcases hr T hT X with ⟨v, st₀, t, T', L, h0, X', hLf, e1, e2, hno, st⟩ | ⟨q, st₀, t, T', L, E, ce, h0, X', hLf, e1, e2, ⟨rfl, ⟨as2, ws2, w1, w2, w3, w4⟩, hFr⟩, hce, hcv, hcl, st⟩
    · exact hno.elim
    · obtain ⟨k1, k2, k3⟩ := vx_keep h0 e1 hS (fun q _ h => h) (fun q h => h) hLf hFr
      obtain ⟨lv, g1, -⟩ := hL
      have hcat : vx_W p l e (headSpec lk_ws (av_rm mt_Llook)).room s m vs.toArray below meth c T'.heap (locs ++ L) (0 + 10) (0 + 100) (MQ below (av_Qc vwCl D cy A sv as [(some (av_i (1, 1)), hp_3)]) vs.toArray s 20 200 A) (F0 m 5 ls stv3) q := by
        refine ct_catch (own := RL) (name := lk_E) hown htab (by decide) (by decide) (hts _ (av_in_ok (h := (6, 64)) (by decide +kernel))) (va_Nw.use rfl hF.2.2.2.1) (by rw [e1]; exact hce) hcv hcl ?_
        refine lv_astore (pc := 13) (i := 4) (nL := 5) B.exec B.bytes (by decide +kernel) g1 (by decide) rfl (fun ls' _ => ?_)
        refine lv_iconst (n := 1) (v := 1) B.exec B.bytes (pc := 15) (by decide +kernel) (by decide) ?_
        refine W.widen (k := 20) (n := 200) (Nat.le_of_ble_eq_true rfl) (Nat.le_of_ble_eq_true rfl) ?_
        refine W.iret (pc := 16) B.exec B.bytes B.returns (fun t' ht' _ => ⟨⟨(some (av_i (1, 1)), hp_3), List.mem_singleton.mpr rfl, as2, ws2, some (.int 1), rfl, has.trans w1, ⟨⟨1, rfl, by decide, by decide⟩, trivial⟩, w2, by rw [ht', e1]; exact w3, w4⟩, k3.F ht'⟩) k3.2.2 (by decide +kernel) B.notSynchronized
      obtain ⟨t2, a1, b2⟩ := hcat T' rfl X'
      exact ⟨t2, st.trans a1, b2⟩
  obtain ⟨g1, g2⟩ := av_ent_ok hsv 0 hvs rfl
  have hle := lv_entry vs (n := 5) (by rw [g2]; exact Nat.le_of_ble_eq_true rfl)
  rw [lg_entry_eq]
  exact hg as ws s.heap [] _ [] (List.prefix_refl _) hH hP hD va_S.rf ⟨_, hle, g1⟩ trivial
variable {X : av_X} {p : Program} {e : Env} {s : State} {m : MethodId} {b0 : Nat} {below : List Frame} {meth : Method} {c : Code} {as0 : List Nat}
theorem lk_law (hl : l.stackTraces = false) {sa : Nat} {b1 : Int × Int} (hb1 : b1 ∈ av_cut (-2147483648) (lw_cuts 4)) (hF : lk_F (fun q => s.heap.size ≤ q) sa s s.heap) (C0 : av_Cx av_T vwCl D cy (fun q => s.heap.size ≤ q) sv (wd_bytes, some (lw_row b1)) mt_L_law p room_1 s m #[Value.ref b0] meth c) :
    av_Good vwCl D cy (fun q => s.heap.size ≤ q) sv as0 7 p l e room_1 s m #[Value.ref b0] below meth c (lw_Z below #[Value.ref b0] s) (40, lw_loc, [av_i (Int.ofNat 4, Int.ofNat 4)], hp_3, 150, 5612) := by
  have hsv := C0.2.2.2.2.2.2.2.2.2.2.1.1
  have k377 : av_Good vwCl D cy (fun q => s.heap.size ≤ q) sv as0 7 p l e room_1 s m #[Value.ref b0] below meth c (lw_Z below #[Value.ref b0] s) (377, lw_loc, [av_i (1, 1)], hp_3, 170, 5812) := lw_run (fuel := 5000) (sfx := av_from 377 op_L_law) C0 (fun q h => av_from_mem h) (List.all_eq_true.mp rn_4 b1 hb1)
  refine lw_stp (fuel := 13) (sfx := av_from 40 op_L_law) (S' := (374, lw_loc, [av_r 149, av_i av_top, av_i b1, av_r 0], hp_3, 150, 5612)) C0 (fun q h => av_from_mem h) (lk_steps b1) ?_
  obtain ⟨hx, hb, hml, hown, hts, hr, hlk, hnm, hK, hA, hSF, r1, r2, r3, r4⟩ := C0
  intro as ws H locs ls stv has hH hP hD hS hL hst
  obtain ⟨y3, stv1, rfl, hy3, hst1⟩ := av_relS_cons hst
  obtain ⟨y2, stv2, rfl, hy2, hst2⟩ := av_relS_cons hst1
  obtain ⟨y1, stv3, rfl, hy1, hst3⟩ := av_relS_cons hst2
  obtain ⟨y0, stv4, rfl, hy0, hst4⟩ := av_relS_cons hst3
  have := av_relS_nil hst4
  subst this
  have hls : ls.size = 7 := by
    obtain ⟨lv, g, -⟩ := hL
    exact g.1
  have hmet := lk_Lmet (D := D) (cy := cy) (A := fun q => s.heap.size ≤ q) (sv := sv) (l := l) hl (sa := sa) hb1 hsv (as := as) (ws := ws) (vs := [y0, y1, y2, y3]) ⟨hy0, hy1, hy2, hy3, trivial⟩ hH hD
  refine av_go_ok (vx_runSW (As := [y0, y1, y2, y3]) (rest := []) (own := RL) (index := 39) (hh := lk_hh) ⟨hx, hb, hml, hown, hts⟩ hmet (vx_cwSW (R := room_1) 4 hts lk_good39 rfl rfl rfl (by decide +kernel) ⟨Nat.le_of_ble_eq_true rfl, Nat.le_of_ble_eq_true rfl⟩) ⟨lk_blind, fun U hU hW => ⟨rfl, by rw [hU]; exact hP, va_K.moved hW.alike hK, fun q hq => hA q (Nat.le_trans hS.1 (by rw [← hU]; exact hq)), av_SF_call hSF hW hU hS, lk_F_call hF hW hU hS⟩⟩ rfl rfl hls rfl (lv_room (by decide)) (show decode cL_law 374 = .ok (.invokestatic 39, 3) by decide +kernel) ⟨Nat.le_of_ble_eq_true rfl, Nat.le_of_ble_eq_true rfl⟩) hS
    (fun ov hov as' ws' rv H1 locs1 c1 c2 c3 c4 c5 c6 => ?_)
  obtain rfl : ov = (some (av_i (1, 1)), hp_3) := by simpa using hov
  exact k377 as' ws' H1 locs1 ls (rv.toList ++ []) (has.trans c1) c3 c4 c5 c6 (av_relL_up c1 hL) (by rw [List.append_nil]; exact c2)
end LK
