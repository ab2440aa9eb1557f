/-! ===== the law's goal is closed under its steps ===== -/
def R_law : String := "SagGatesLaw"
def lw_P (b : Addr) (xs : List Int32) (args : Array Value) (s : State) : Prop := args = #[.ref b] ∧ s.IntsAt b xs ∧ xs.length ≤ 3072 ∧ (Jvm.Cond.and given_1 narrow_1).before args s = true
def lw_Q (_ : Array Value) (s : State) (o : Outcome) (t : State) : Prop := o = .returned (some (.int 1)) ∧ Framed s o t [] 601024 7293034
def lw_Z (below : List Frame) (a : Array Value) (s : State) : State → Prop := fun t => ∃ o, t.status = .running ∧ Ended t below o ∧ lw_Q a s o t
/-- the law's own end, with 1 on the stack, nothing written that was there before, its room as the claim has it -/
theorem lw_ret {p : Program} {l : Launch} {e : Env} {s : State} {m : MethodId} {below : List Frame} {meth : Method} {c : Code} {b : Nat} (hx : p.tables.exec = Jvm.exec) (hb : c.code = code) (hr : meth.sig.returnType = ret) (hlocks : meth.locks = false) {pc : Nat} {H : Heap} {ls : Array Slot} (hdg : decode code pc = .ok (.ireturn, 1)) : W p l e room_1 s m #[Value.ref b] below meth c H [] 601024 7293034 (lw_Z below #[Value.ref b] s) (F0 m pc ls [.int 1]) := by
  intro T hT X
  obtain ⟨fs, hret, hrun, hended, hW, hframe⟩ := X.leave (v := some (.int 1)) (hlocks := hlocks) (fun h => by rw [hr] at h; cases h)
  have hmeth' : T.vm.method? m = some meth := X.method'
  refine ⟨T.setFrames fs, ?_, .returned (some (.int 1)), hrun, hended, rfl, ⟨_, rfl⟩, hW, hframe⟩
  jvm_step X.here [X.here.top, hx, hb, hdg, hmeth', hr, ret, narrow_b1]
  (try refine ⟨rfl, ?_⟩); (try refine ⟨rfl, ?_⟩)
  first | (intro acts; rw [hret _ acts rfl rfl rfl]) | rw [hret _ _ rfl rfl rfl]
  exact Steps.refl _
section LW
variable {D : va_G} {cy : Nat → ClassId} {A : Nat → Prop} {sv : Nat → Value} {l : Launch} {X : cv_X} {p : Program} {e : Env} {R : Room} {s : State} {m : MethodId} {args : Array Value} {below : List Frame} {meth : Method} {c : Code} {Q : State → Prop}
theorem lk_go {H : Heap} {locs : List Loc} {cN sN mc ms pc : Nat} {ls : Array Slot} {st0 rest : List Value} {as : List Nat} {K : cv_H → Prop} {arr : Array Value} (hr : va_Run p l e R s m args below meth c H locs cN sN mc ms (F0 m pc ls st0) rest (lk_Qc D cy A sv as K arr) A) (hS : va_S A s.heap H locs)
    (kk : ∀ (x : Int32) (h' : cv_H), K h' → ∀ (as' : List Nat) (ws' : va_W) (rv : Option Value) (H1 : Heap) (locs1 : List Loc), as <+: as' → cv_relS sv as' [cv_i x] rv.toList → cv_relH cy sv as' h' ws' → va_P D vwCl ws' H1 → va_D A ws' → va_S A s.heap H1 locs1 → W p l e R s m args below meth c H1 locs1 (cN + mc) (sN + ms) Q (F0 m (pc + 3) ls (rv.toList ++ rest))) : W p l e R s m args below meth c H locs cN sN Q (F0 m pc ls st0) := by
  intro T hT Y
  obtain ⟨v, st₀, t, T', L, h0, Y', hL, e1, e2, ⟨x, h', hK, ⟨as', ws', rv, hv, b1, b2, b3, b4, b5⟩, hz, hk⟩, st⟩ := hr T hT Y
  cases hv
  rw [h0] at hz hk
  obtain ⟨t2, a1, c1⟩ := kk x h' hK as' ws' v T'.heap (locs ++ L) b1 b2 b3 (by rw [e1]; exact b4) b5
    ⟨Nat.le_trans hS.1 (by rw [e1]; exact hz), fun q h1 h2 => by rw [e1, hk q (Nat.lt_of_lt_of_le h1 hS.1) h2]; exact hS.2.1 q h1 h2, fun q hq => by
      rcases List.mem_append.mp hq with h | h
      · exact hS.2.2 q h
      · exact hL q h⟩ T' rfl Y'
  exact ⟨t2, st t2 a1, c1⟩
end LW
section LW
variable {D : va_G} {cy : Nat → ClassId} {sv : Nat → Value} {l : Launch} {X : cv_X} {p : Program} {e : Env} {s : State} {m : MethodId} {b0 : Nat} {below : List Frame} {meth : Method} {c : Code} {as0 : List Nat}
set_option maxHeartbeats 4000000 in
theorem lk_law (hl : l.stackTraces = false) {sa sb : Nat} (hX : cw_Xok X) (hF : lk_F (fun q => s.heap.size ≤ q) sa sb s s.heap) (C0 : cv_Cx cv_T vwCl D cy (fun q => s.heap.size ≤ q) sv X mt_L_law p room_1 s m #[Value.ref b0] meth c)
    (L : cv_L) (h : cv_H) (cN sN : Nat) (g w : Int32) (Gn : Int) (y : Int64) (hT : cw_T Gn h) (hPP : cw_PP Gn h) (hy : h[149]? = some (cv_cl [y])) (hc : cN + 20 ≤ 601024) (hs : sN + 200 ≤ 7293034)
    (kk : ∀ (x : Int32) (h' : cv_H) (y' : Int64), cw_T Gn h' → cw_PP Gn h' → lg_S h h' → h'[149]? = some (cv_cl [y']) → cv_Good vwCl D cy (fun q => s.heap.size ≤ q) sv as0 7 p l e room_1 s m #[Value.ref b0] below meth c (lw_Z below #[Value.ref b0] s) (377, L, [cv_i x], h', cN + 20, sN + 200)) :
    cv_Good vwCl D cy (fun q => s.heap.size ≤ q) sv as0 7 p l e room_1 s m #[Value.ref b0] below meth c (lw_Z below #[Value.ref b0] s) (374, L, [cv_r 149, cv_i w, cv_i g, cv_r 0], h, cN, sN) := by
  have hsv := C0.2.2.2.2.2.2.2.2.2.2.1.1
  obtain ⟨hx, hb, hml, hown, hts, hr, hlk, hnm, hK, hA, hSF, r1, r2, r3, r4⟩ := C0
  intro as ws H locs ls stv has hH hP hD hS hL hst
  obtain ⟨y3, stv1, rfl, hy3, hst1⟩ := cv_relS_cons hst
  obtain ⟨y2, stv2, rfl, hy2, hst2⟩ := cv_relS_cons hst1
  obtain ⟨y1, stv3, rfl, hy1, hst3⟩ := cv_relS_cons hst2
  obtain ⟨y0, stv4, rfl, hy0, hst4⟩ := cv_relS_cons hst3
  have := cv_relS_nil hst4
  subst this
  have hls : ls.size = 7 := by
    obtain ⟨lv, g, -⟩ := hL
    exact g.1
  have hmet := lk_Lmet (D := D) (cy := cy) (A := fun q => s.heap.size ≤ q) (sv := sv) (l := l) (X := X) hl (sa := sa) (sb := sb) hsv hX hT hPP hy (g := g) (w := w) (as := as) (ws := ws) (vs := [y0, y1, y2, y3]) ⟨hy0, hy1, hy2, hy3, trivial⟩ hH hD
  refine lk_go (vx_runSW (As := [y0, y1, y2, y3]) (rest := []) (own := RL) (index := 39) (hh := lk_hh) ⟨hx, hb, hml, hown, hts⟩ hmet (vx_cwSW (R := room_1) 4 hts lk_good39 rfl rfl rfl (by decide +kernel) ⟨Nat.le_of_ble_eq_true rfl, Nat.le_of_ble_eq_true rfl⟩) ⟨lk_blind, fun U hU hW => ⟨rfl, by rw [hU]; exact hP, va_K.moved hW.alike hK, fun q hq => hA q (Nat.le_trans hS.1 (by rw [← hU]; exact hq)), cv_SF_call hSF hW hU hS, lk_F_call hF hW hU hS⟩⟩ rfl rfl hls rfl (lv_room (by decide)) (show decode cL_law 374 = .ok (.invokestatic 39, 3) by decide +kernel) ⟨hc, hs⟩) hS
    (fun x h' hK' as' ws' rv H1 locs1 c1 c2 c3 c4 c5 c6 => ?_)
  obtain ⟨q1, q2, q3, y', q5⟩ := hK'
  exact kk x h' y' q1 q2 q3 q5 as' ws' H1 locs1 ls (rv.toList ++ []) (has.trans c1) c3 c4 c5 c6 (cv_relL_up c1 hL) (by rw [List.append_nil]; exact c2)
theorem lg_good (hl : l.stackTraces = false) {sa sb : Nat} (hX : cw_Xok X) (hF : lk_F (fun q => s.heap.size ≤ q) sa sb s s.heap) (C0 : cv_Cx cv_T vwCl D cy (fun q => s.heap.size ≤ q) sv X mt_L_law p room_1 s m #[Value.ref b0] meth c) :
    lg_R X (cv_Good vwCl D cy (fun q => s.heap.size ≤ q) sv as0 7 p l e room_1 s m #[Value.ref b0] below meth c (lw_Z below #[Value.ref b0] s)) := by
  have hgd := gd_good (as0 := as0) (l := l) (e := e) (below := below) (Q := lw_Z below #[Value.ref b0] s) C0 (al_all.2.2.2.2.2.2 281)
  refine ⟨hgd.1, hgd.2, fun pc L x h cN sN hpc k => ?_, lk_law hl hX hF C0, fun L h cN sN hc hs => ?_⟩
  · obtain ⟨hx, hb, hml, hown, hts, hr, hlk, hnm, hK, hA, hSF, r1, r2, r3, r4⟩ := C0
    intro as ws H locs ls stv has hH hP hD hS hL hst
    obtain ⟨x', stv1, rfl, hdn, hst1⟩ := cv_relS_cons hst
    cases hdn
    have hd : decode cL_law pc = .ok (.pop2, 1) := by
      rcases hpc with rfl | rfl
      · decide +kernel
      · decide +kernel
    exact lv_pop2_2 hx hb hd rfl (k as ws H locs ls stv1 has hH hP hD hS hL hst1)
  · obtain ⟨hx, hb, hml, hown, hts, hr, hlk, hnm, hK, hA, hSF, r1, r2, r3, r4⟩ := C0
    intro as ws H locs ls stv has hH hP hD hS hL hst
    obtain ⟨x', stv1, rfl, hdn, hst1⟩ := cv_relS_cons hst
    cases hdn
    have := cv_relS_nil hst1
    subst this
    refine W.widen (k := 601024) (n := 7293034) hc hs ?_
    refine va_forget (fun q hq => hS.2.2 q hq) ?_
    exact lw_ret (pc := 1494) hx hb hr hlk (by decide +kernel)
end LW
