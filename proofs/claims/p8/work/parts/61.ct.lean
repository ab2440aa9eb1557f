/-! ===== an exception caught by the first or the second row of the method's table ===== -/
theorem ct_find {e : Env} {s : State} {f : JFrame} {a : Addr} {meth : Method} {code : Code} (hm : s.vm.method? f.method = some meth) (hc : meth.code = some code) {x : ExceptionTableEntry} {rest : List ExceptionTableEntry} (hsplit : code.exceptionTable.toList = x :: rest)
    (hx : covers x f.pc = true) (h0 : x.catchType ≠ 0) {k : ClassId} {cell : Cell} (hl : s.vm.ClassLinks e.platform f.method.cls x.catchType k) (hcell : s.heap[a]? = some cell) (hobj : ∀ q, cell.vm ≠ .statics q)
    (hk1 : ∃ q, s.vm.classes[cell.cls]? = some q) (hk2 : ∃ q, s.vm.classes[k]? = some q) (hfit : s.vm.assignable cell.cls k = true) (Q : Handler → Pre) (E : CtlPost) (d : Bool) (acts : List Action) :
    wp (findHandler f a) Q E e d acts s ↔ Q (.found x.handlerPc) d acts (s.setVm (s.vm.noted f.method.cls x.catchType (.cls k))) := by
  have hal : s.vm.Alike (s.vm.noted f.method.cls x.catchType (.cls k)) := (Vm.Alike.refl s.vm).noted _ _ _
  obtain ⟨g1, g2⟩ := (resolveClass_links e.toSetting hl).op (op := VmOp.resolveClass f.method.cls x.catchType) rfl
  obtain ⟨q1, hq1⟩ := hk1
  obtain ⟨q2, hq2⟩ := hk2
  obtain ⟨q3, hq3, -⟩ := hal.2.2 _ _ hq1
  obtain ⟨q4, hq4, -⟩ := hal.2.2 _ _ hq2
  have hfit2 : (s.vm.noted f.method.cls x.catchType (.cls k)).assignable cell.cls k = true := by rw [hal.assignable]; exact hfit
  rw [W.findHandler_eq hm hc, hsplit]
  simp only [covers] at hx
  simp [findHandler.go, hx, h0, g1, g2, hcell, hobj, hq3, hq4, hfit2, VmOp.dirties, VmOp.acts]
theorem ct_find2 {e : Env} {s : State} {f : JFrame} {a : Addr} {meth : Method} {code : Code} (hm : s.vm.method? f.method = some meth) (hc : meth.code = some code) {x y : ExceptionTableEntry} {rest : List ExceptionTableEntry} (hsplit : code.exceptionTable.toList = x :: y :: rest)
    (hx : covers x f.pc = true) (h0 : x.catchType ≠ 0) (hy : covers y f.pc = true) (h1 : y.catchType ≠ 0) {k1 k : ClassId} {cell : Cell} (hl1 : s.vm.ClassLinks e.platform f.method.cls x.catchType k1) (hl : (s.vm.noted f.method.cls x.catchType (.cls k1)).ClassLinks e.platform f.method.cls y.catchType k) (hcell : s.heap[a]? = some cell) (hobj : ∀ q, cell.vm ≠ .statics q)
    (hk0 : ∃ q, s.vm.classes[cell.cls]? = some q) (hk1 : ∃ q, s.vm.classes[k1]? = some q) (hk2 : ∃ q, s.vm.classes[k]? = some q) (hno : s.vm.assignable cell.cls k1 = false) (hfit : s.vm.assignable cell.cls k = true) (Q : Handler → Pre) (E : CtlPost) (d : Bool) (acts : List Action) :
    wp (findHandler f a) Q E e d acts s ↔ Q (.found y.handlerPc) d acts (s.setVm ((s.vm.noted f.method.cls x.catchType (.cls k1)).noted f.method.cls y.catchType (.cls k))) := by
  have hal1 : s.vm.Alike (s.vm.noted f.method.cls x.catchType (.cls k1)) := (Vm.Alike.refl s.vm).noted _ _ _
  have hal2 : s.vm.Alike ((s.vm.noted f.method.cls x.catchType (.cls k1)).noted f.method.cls y.catchType (.cls k)) := hal1.noted _ _ _
  obtain ⟨g1, g2⟩ := (resolveClass_links e.toSetting hl1).op (op := VmOp.resolveClass f.method.cls x.catchType) rfl
  obtain ⟨g3, g4⟩ := (resolveClass_links e.toSetting hl).op (op := VmOp.resolveClass f.method.cls y.catchType) rfl
  obtain ⟨q0, hq0⟩ := hk0
  obtain ⟨q1, hq1⟩ := hk1
  obtain ⟨q2, hq2⟩ := hk2
  obtain ⟨r1, hr1, -⟩ := hal1.2.2 _ _ hq0
  obtain ⟨r2, hr2, -⟩ := hal1.2.2 _ _ hq1
  obtain ⟨r3, hr3, -⟩ := hal2.2.2 _ _ hq0
  obtain ⟨r4, hr4, -⟩ := hal2.2.2 _ _ hq2
  have hn1 : (s.vm.noted f.method.cls x.catchType (.cls k1)).assignable cell.cls k1 = false := by rw [hal1.assignable]; exact hno
  have hf2 : ((s.vm.noted f.method.cls x.catchType (.cls k1)).noted f.method.cls y.catchType (.cls k)).assignable cell.cls k = true := by rw [hal2.assignable]; exact hfit
  rw [W.findHandler_eq hm hc, hsplit]
  simp only [covers] at hx hy
  simp [findHandler.go, hx, h0, hy, h1, g1, g2, g3, g4, hcell, hobj, hr1, hr2, hr3, hr4, hn1, hf2, VmOp.dirties, VmOp.acts]
  exact Iff.rfl
theorem ct_thr {e : Env} {s : State} {f : JFrame} {a : Addr} {r : List Frame} {pc : Nat} {vm' : Vm} (hfind : ∀ (Q : Handler → Pre) (E : CtlPost) (d : Bool) (acts : List Action), wp (findHandler f a) Q E e d acts s ↔ Q (.found pc) d acts (s.setVm vm')) :
    (stepThrowing e s a (.java f :: r)).1 = (s.setVm vm').setFrames (.java { f with pc := pc, stack := [.ref a] } :: r) := by
  simp only [stepThrowing, searchFrame, vmDo]
  generalize hr : Sem.go _ e false [] s = res
  obtain ⟨as, rfl, -⟩ := Sem.eq_ok_of hr (a := Handler.found pc) (s' := s.setVm vm') (acts' := []) (by simp [hfind])
  rfl
theorem ct_fr (u : State) (vm' : Vm) (F G : List Frame) : ((u.setFrames F).setVm vm').setFrames G = (u.setVm vm').setFrames G := by
  show ((u.setVm vm').setFrames F).setFrames G = (u.setVm vm').setFrames G
  rw [State.setFrames_setFrames]
section CT
variable {p : Program} {l : Launch} {e : Env} {R : Room} {s : State} {m : MethodId} {args : Array Value} {below : List Frame} {meth : Method} {c : Code} {H : Heap} {locs : List Loc} {cells slots : Nat} {Q : State → Prop}
theorem ct_catch {own name E : String} {ce : Cell} {q : Addr} {pc : Nat} {ls : Array Slot} {rest : List Value} (hown : s.vm.findClass own = some m.cls) {x : ExceptionTableEntry} {suf : List ExceptionTableEntry} (hsplit : c.exceptionTable.toList = x :: suf) (hx : covers x pc = true) (h0 : x.catchType ≠ 0)
    (hlink : (Cond.classLink own x.catchType name).before args s = true) (hcast : (Cond.castable E name).before args s = true) (hcell : H[q]? = some ce) (hv : ce.vm = .none) (hcl : s.vm.findClass E = some ce.cls)
    (kk : W p l e R s m args below meth c H locs cells slots Q (F0 m x.handlerPc ls [.ref q])) : vx_W p l e R s m args below meth c H locs cells slots Q (F0 m pc ls rest) q := by
  intro T hT X
  have hpl : e.platform.magicAccessors = ({} : Platform).magicAccessors := by rw [X.admits.platform]
  obtain ⟨c3, c4, hc3, hc4, hasg⟩ := Cond.castable_spec hcast
  cases Option.some.inj (hc3.symm.trans hcl)
  obtain ⟨c5, hc5, hcl5⟩ := Cond.classLink_spec hown hlink e.platform hpl
  cases Option.some.inj (hc4.symm.trans hc5)
  obtain ⟨dk, _, _, kt, hd, _, _, _, _, hkt, _, hopen⟩ := hcl5.here
  have hal := X.warmed.alike
  have hWn : s.WarmedH (T.vm.noted m.cls x.catchType (.cls c4)) := X.warmed.noted hd hopen (State.rightAt_cls hcl5)
  obtain ⟨k9, h9, -⟩ := Vm.findClass_spec hcl
  obtain ⟨k9', h9', -⟩ := hal.2.2 _ _ h9
  obtain ⟨kt', hkt', -⟩ := hal.2.2 _ _ hkt
  have hfit : T.vm.assignable ce.cls c4 = true := by rw [hal.assignable]; exact hasg
  obtain ⟨t, a1, b1⟩ := kk (T.setVm (T.vm.noted m.cls x.catchType (.cls c4))) hT (X.noted hWn)
  refine ⟨t, ?_, b1⟩
  have hfind := ct_find (e := e) (s := ((T.setTop (F0 m pc ls rest)).pushFrame (.throwing q))) (f := F0 m pc ls rest) (a := q) (meth := meth) (code := c) X.method' X.code hsplit hx h0 (k := c4) (cell := ce) (X.warmed.classLinks hcl5) (by show T.heap[q]? = some ce; rw [hT]; exact hcell) (fun k h => by rw [hv] at h; cases h) ⟨k9', h9'⟩ ⟨kt', hkt'⟩ hfit
  have hAt : At T (F0 m pc ls rest).method c below := X.here
  obtain ⟨hgo, hw⟩ := hAt.throwing q
  refine Steps.head hgo hw ?_
  rw [stepThread_throwing (frames_entered hAt.top _), ct_thr hfind]
  obtain ⟨g₀, hg⟩ := Option.isSome_iff_exists.mp hAt.top
  obtain ⟨r, hr⟩ := State.topJava?_eq_some.mp hg
  have hr' : (T.setVm (T.vm.noted m.cls x.catchType (.cls c4))).frames = .java g₀ :: r := hr
  rw [State.setTop_of_frames _ hr'] at a1
  rw [hr, List.tail_cons, State.pushFrame, ct_fr, State.setTop_of_frames _ hr, ct_fr]
  exact a1
theorem ct_catch2 {own name1 name E : String} {ce : Cell} {q : Addr} {pc : Nat} {ls : Array Slot} {rest : List Value} (hown : s.vm.findClass own = some m.cls) {x y : ExceptionTableEntry} {suf : List ExceptionTableEntry} (hsplit : c.exceptionTable.toList = x :: y :: suf) (hx : covers x pc = true) (h0 : x.catchType ≠ 0) (hy : covers y pc = true) (h1 : y.catchType ≠ 0)
    (hlink1 : (Cond.classLink own x.catchType name1).before args s = true) (hlink : (Cond.classLink own y.catchType name).before args s = true) (hno : va_Nc E name1 s) (hcast : (Cond.castable E name).before args s = true) (hcell : H[q]? = some ce) (hv : ce.vm = .none) (hcl : s.vm.findClass E = some ce.cls)
    (kk : W p l e R s m args below meth c H locs cells slots Q (F0 m y.handlerPc ls [.ref q])) : vx_W p l e R s m args below meth c H locs cells slots Q (F0 m pc ls rest) q := by
  intro T hT X
  have hpl : e.platform.magicAccessors = ({} : Platform).magicAccessors := by rw [X.admits.platform]
  obtain ⟨c3, c4, hc3, hc4, hasg⟩ := Cond.castable_spec hcast
  cases Option.some.inj (hc3.symm.trans hcl)
  obtain ⟨c5, hc5, hcl5⟩ := Cond.classLink_spec hown hlink e.platform hpl
  cases Option.some.inj (hc4.symm.trans hc5)
  obtain ⟨n3, n4, hn3, hn4, hnas⟩ := hno
  cases Option.some.inj (hn3.symm.trans hcl)
  obtain ⟨n5, hn5, hnl⟩ := Cond.classLink_spec hown hlink1 e.platform hpl
  cases Option.some.inj (hn4.symm.trans hn5)
  obtain ⟨dk1, _, _, kt1, hd1, _, _, _, _, hkt1, _, hopen1⟩ := hnl.here
  obtain ⟨dk, _, _, kt, hd, _, _, _, _, hkt, _, hopen⟩ := hcl5.here
  have hal := X.warmed.alike
  have hWn1 : s.WarmedH (T.vm.noted m.cls x.catchType (.cls n4)) := X.warmed.noted hd1 hopen1 (State.rightAt_cls hnl)
  have hWn : s.WarmedH ((T.vm.noted m.cls x.catchType (.cls n4)).noted m.cls y.catchType (.cls c4)) := hWn1.noted hd hopen (State.rightAt_cls hcl5)
  obtain ⟨k9, h9, -⟩ := Vm.findClass_spec hcl
  obtain ⟨k9', h9', -⟩ := hal.2.2 _ _ h9
  obtain ⟨kt', hkt', -⟩ := hal.2.2 _ _ hkt
  obtain ⟨kt1', hkt1', -⟩ := hal.2.2 _ _ hkt1
  have hfit : T.vm.assignable ce.cls c4 = true := by rw [hal.assignable]; exact hasg
  have hnf : T.vm.assignable ce.cls n4 = false := by rw [hal.assignable]; exact hnas
  have X1 := X.noted hWn1
  obtain ⟨t, a1, b1⟩ := kk ((T.setVm (T.vm.noted m.cls x.catchType (.cls n4))).setVm ((T.vm.noted m.cls x.catchType (.cls n4)).noted m.cls y.catchType (.cls c4))) hT (X1.noted hWn)
  refine ⟨t, ?_, b1⟩
  have hfind := ct_find2 (e := e) (s := ((T.setTop (F0 m pc ls rest)).pushFrame (.throwing q))) (f := F0 m pc ls rest) (a := q) (meth := meth) (code := c) X.method' X.code hsplit hx h0 hy h1 (k1 := n4) (k := c4) (cell := ce) (X.warmed.classLinks hnl) (X1.warmed.classLinks hcl5) (by show T.heap[q]? = some ce; rw [hT]; exact hcell) (fun k h => by rw [hv] at h; cases h) ⟨k9', h9'⟩ ⟨kt1', hkt1'⟩ ⟨kt', hkt'⟩ hnf hfit
  have hAt : At T (F0 m pc ls rest).method c below := X.here
  obtain ⟨hgo, hw⟩ := hAt.throwing q
  refine Steps.head hgo hw ?_
  rw [stepThread_throwing (frames_entered hAt.top _), ct_thr hfind]
  obtain ⟨g₀, hg⟩ := Option.isSome_iff_exists.mp hAt.top
  obtain ⟨r, hr⟩ := State.topJava?_eq_some.mp hg
  have hr' : (T.setVm ((T.vm.noted m.cls x.catchType (.cls n4)).noted m.cls y.catchType (.cls c4))).frames = .java g₀ :: r := hr
  have a2 : Steps p.tables e below ((T.setVm ((T.vm.noted m.cls x.catchType (.cls n4)).noted m.cls y.catchType (.cls c4))).setTop (F0 m y.handlerPc ls [.ref q])) t := a1
  rw [State.setTop_of_frames _ hr'] at a2
  rw [hr, List.tail_cons, State.pushFrame, ct_fr, State.setTop_of_frames _ hr, ct_fr]
  exact a2
end CT
